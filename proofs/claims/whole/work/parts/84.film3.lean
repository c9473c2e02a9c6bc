/-! film -/
theorem flF_congr {ok inb inb' : Nat → Prop} [DecidablePred ok] [DecidablePred inb] [DecidablePred inb'] (e : ∀ c, ok c → (inb c ↔ inb' c)) : ∀ n c, flF ok inb n c = flF ok inb' n c
  | 0, _ => rfl
  | n + 1, c => by
    unfold flF
    by_cases h : ok c
    · rw [if_pos h, if_pos h]
      by_cases h2 : inb c
      · rw [if_pos h2, if_pos ((e c h).mp h2), flF_congr e n (c + 1)]
      · rw [if_neg h2, if_neg (mt (e c h).mpr h2)]
    · rw [if_neg h, if_neg h]
theorem flF_went {ok inb : Nat → Prop} [DecidablePred ok] [DecidablePred inb] : ∀ n c c', c ≤ c' → c' < (flF ok inb n c).2 → ok c' ∧ inb c'
  | 0, c, c', h1, h2 => by have h2 : c' < c := h2; omega
  | n + 1, c, c', h1, h2 => by
    unfold flF at h2
    by_cases h : ok c
    · rw [if_pos h] at h2
      by_cases h3 : inb c
      · rw [if_pos h3] at h2
        by_cases e : c' = c
        · rw [e]; exact ⟨h, h3⟩
        · exact flF_went n (c + 1) c' (by omega) h2
      · rw [if_neg h3] at h2; have h2 : c' < c := h2; omega
    · rw [if_neg h] at h2; have h2 : c' < c := h2; omega
theorem fd_eq {h : Hp} {k : Nat} {lane : Int32} (d : lnR (h g_sheet k 0) (h g_m_lanes 0 k)) : fdA h k lane = fdM h k lane := by
  unfold fdA fdM
  by_cases c : h g_m_lanes 0 k = -4
  · rw [if_pos c, if_pos (d.no.mpr c)]
  · rw [if_neg c, if_neg (mt d.no.mp c), (d.eq c).1]
section
variable {l : Launch} {G : GE} {h : Hp}
theorem flm_eq {k Z : Nat} {f : Int32} {n : Nat} (hZ : Z ≤ 64) (d : ∀ i, i < Z → h g_cells k i = mC h k i) : flmA h k Z f n = flmM h k Z f n := by
  unfold flmA flmM
  refine flF_congr (fun c hc => ?_) n 0
  obtain ⟨F, ef, hF⟩ := (rd_iff hZ).mp hc
  subst ef
  rw [ixN_nI (show F < 2 ^ 31 by omega)]
  unfold inC
  exact ⟨fun y ⟨i, h1, h2⟩ => y ⟨i, h1, by rw [d _ (by omega)]; exact h2⟩, fun y ⟨i, h1, h2⟩ => y ⟨i, h1, by rw [← d _ (by omega)]; exact h2⟩⟩
/-- only what is torn changes, on both sides -/
theorem rel_torn {h h1 : Hp} (z : Rel h) {b : Int32} (e9 : h1 g_oab 0 9 = b) (k : KpT h h1) : Rel0 (hset h1 g_model 0 29 b) := by
  have rc : ∀ a b', ess a b' → a ≠ g_oab → a ≠ g_model → hset h1 g_model 0 29 b a b' = h a b' := fun a b' e1 e2 e3 => by rw [hset_t e3]; exact k a b' e1 e2
  have rm : ∀ k, k ≠ 29 → hset h1 g_model 0 29 b g_model 0 k = h g_model 0 k := fun i hi => by rw [hset_k hi, k g_model 0 (by decide) (by decide)]
  obtain ⟨t, vv, ww, j, s, o, bb⟩ := z.r0
  refine ⟨t.same ?_ ?_ ?_ ?_ ?_ ?_, vv.same ?_ ?_, ww.same (fun k hk => ?_) (fun k hk => ?_) ?_ ?_ ?_, j.same ?_ ?_ ?_ ?_, s.same (fun k hk => ?_) (fun k hk => ?_) ?_ ?_ ?_, ?_, bb.same ?_ ?_ ?_ ?_ ?_⟩
  · exact rc _ _ (by decide) (by decide) (by decide)
  · exact rc _ _ (by decide) (by decide) (by decide)
  · rw [rc _ _ (by decide) (by decide) (by decide)]
  · exact rc _ _ (by decide) (by decide) (by decide)
  · exact rm _ (by decide)
  · exact rm _ (by decide)
  · exact rc _ _ (by decide) (by decide) (by decide)
  · exact rc _ _ (by decide) (by decide) (by decide)
  · exact rc _ _ ⟨by decide, by decide, by decide, by decide, fun q => by omega⟩ (by decide) (by decide)
  · exact rc _ _ ⟨by decide, by decide, by decide, by decide, fun q => by omega⟩ (by decide) (by decide)
  · exact rc _ _ (by decide) (by decide) (by decide)
  · exact rc _ _ (by decide) (by decide) (by decide)
  · exact rc _ _ (by decide) (by decide) (by decide)
  · rw [rc _ _ (by decide) (by decide) (by decide)]
  · exact rc _ _ (by decide) (by decide) (by decide)
  · exact rm _ (by decide)
  · exact rc _ _ (by decide) (by decide) (by decide)
  · exact rc _ _ ⟨by decide, by decide, by decide, by decide, fun q => absurd q.1 (by decide)⟩ (by decide) (by decide)
  · exact rc _ _ ⟨by decide, by decide, by decide, by decide, fun q => absurd q.1 (by decide)⟩ (by decide) (by decide)
  · exact rc _ _ (by decide) (by decide) (by decide)
  · exact rc _ _ (by decide) (by decide) (by decide)
  · exact rc _ _ (by decide) (by decide) (by decide)
  · unfold RelO; rw [hset_t (by decide), hset_eq]; exact e9
  all_goals exact rc _ _ (by decide) (by decide) (by decide)
theorem fmH_n {h : Hp} {w k F c : Nat} {on b : Int32} {i : Nat} (hi : i < 64) : mN (fmH h w k F on b c (8 * c)) w i = if i < 8 * c then mC h k (F + i) else 0 := by
  show fmH _ _ _ _ _ _ _ _ g_m_numbers 0 (64 * w + i) = _
  unfold fmH
  by_cases h1 : i < 8 * c
  · rw [fed_in h1, if_pos h1]
  · rw [fed_at (by omega), if_neg h1, hset_t (by decide), hset_t (by decide), fed_in hi]
theorem both_film (z : Rel h) {w k lane f n on : Int32} : Both l G mX7_film mX8_film [vI w, vI k, vI lane, vI f, vI n, vI on] h := by
  have hex : ∃ Z, Z ≤ 64 ∧ (0 ≤ k ∧ k ≤ 3 → h g_sheet (ixN k) 1 = nI Z ∧ h g_m_lengths 0 (ixN k) = nI Z ∧ lnR (h g_sheet (ixN k) 0) (h g_m_lanes 0 (ixN k)) ∧ ∀ i, i < Z → h g_cells (ixN k) i = mC h (ixN k) i) := by
    by_cases hk : 0 ≤ k ∧ k ≤ 3
    · obtain ⟨Z, hZ, d⟩ := z.2.2.2.2.1 _ (s4 hk)
      exact ⟨Z, hZ, fun _ => d⟩
    · exact ⟨0, by decide, fun q => absurd q hk⟩
  obtain ⟨Z, hZ, d⟩ := hex
  refine ⟨_, C_X7_film (fun q => (d q).1) hZ, fun r h1 q => ?_⟩
  unfold QFilm at q
  by_cases ok : okFilm w k lane n on
  · rw [if_pos ok] at q
    obtain ⟨d1, d2, d3, d4⟩ := d ok.2.1
    have hW := z.t8 ok.1
    have hK := s4 ok.2.1
    rw [fd_eq d3, flm_eq hZ d4] at q
    have eM : ∀ h1 : Hp, (∀ a, 26 ≤ a → a ≤ 45 → h1 a 0 = h a 0) → fdM h1 (ixN k) lane = fdM h (ixN k) lane ∧ flmM h1 (ixN k) Z f (ixN n) = flmM h (ixN k) Z f (ixN n) ∧ h1 g_m_lengths 0 (ixN k) = nI Z := fun h1 m => by
      refine ⟨?_, ?_, by rw [m g_m_lengths (by decide) (by decide)]; exact d2⟩
      · unfold fdM; rw [m g_m_lanes (by decide) (by decide)]
      · unfold flmM mC; rw [m g_m_cells (by decide) (by decide)]
    by_cases hfd : fdM h (ixN k) lane = 0
    · rw [if_pos hfd] at q
      have hwent := flF_went (ok := fun c => rdOk Z c f) (inb := fun c => inC (mC h (ixN k)) (ixN f) c) (ixN n) 0
      have hcle := (flF_le (fun c => rdOk Z c f) (fun c => inC (mC h (ixN k)) (ixN f) c) (ixN n) 0).1
      change ∀ c', 0 ≤ c' → c' < (flmM h (ixN k) Z f (ixN n)).2 → _ at hwent
      change (flmM h (ixN k) Z f (ixN n)).2 ≤ _ at hcle
      have hn8 : ixN n ≤ 8 := by
        obtain ⟨m, hm, e⟩ := natof (x := n) 8 (by decide) (Int32.le_trans (by decide) ok.2.2.2.1.1) ok.2.2.2.1.2
        rw [e, ixN_nI (by omega)]; exact hm
      by_cases h2' : (flmM h (ixN k) Z f (ixN n)).1 = 2
      · rw [if_pos h2'] at q
        obtain ⟨q1, q2⟩ := q
        obtain ⟨e1, e2, e3⟩ := eM h1 q2.ms
        refine ⟨_, q1, _, C_X8_film (fun _ => e3) hZ, fun r2 h2 y => ?_⟩
        unfold QFilmM at y
        rw [if_pos ok, e1, if_pos hfd, e2, if_pos h2'] at y
        obtain ⟨y1, rfl⟩ := y
        exact ⟨y1, (z.kp q2).r0⟩
      · rw [if_neg h2'] at q
        obtain ⟨q9, q⟩ := q
        by_cases hc : (flmM h (ixN k) Z f (ixN n)).2 < 2
        · rw [if_pos hc] at q
          obtain ⟨q1, q2⟩ := q
          obtain ⟨e1, e2, e3⟩ := eM h1 (fun a ha _ => q2 a 0 (ess_m ha) (ne_m ha (by decide)))
          refine ⟨_, q1, _, C_X8_film (fun _ => e3) hZ, fun r2 h2 y => ?_⟩
          unfold QFilmM at y
          rw [if_pos ok, e1, if_pos hfd, e2, if_neg h2', if_pos hc] at y
          obtain ⟨y1, rfl⟩ := y
          exact ⟨y1, rel_torn z q9 q2⟩
        · rw [if_neg hc] at q
          obtain ⟨q1, q2, q3, q4, q5⟩ := q
          have km : ∀ a, 26 ≤ a → h1 a 0 = h a 0 := fun a ha => q5 a 0 (ess_m ha) (ne_m ha (by decide)) (fun q => absurd q.1 (ne_m ha (by decide))) (fun q => absurd q.1 (ne_m ha (by decide)))
          obtain ⟨e1, e2, e3⟩ := eM h1 (fun a ha _ => km a ha)
          refine ⟨_, q1, _, C_X8_film (fun _ => e3) hZ, fun r2 h2 y => ?_⟩
          unfold QFilmM at y
          rw [if_pos ok, e1, if_pos hfd, e2, if_neg h2', if_neg hc] at y
          obtain ⟨y1, y2⟩ := y
          refine ⟨y1, ?_⟩
          have hc8 : (flmM h (ixN k) Z f (ixN n)).2 ≤ 8 := by omega
          have hFx : ∃ F, f = nI F ∧ F + 8 * (flmM h (ixN k) Z f (ixN n)).2 ≤ Z := by
            obtain ⟨F, ef, hF⟩ := (rd_iff hZ).mp (hwent ((flmM h (ixN k) Z f (ixN n)).2 - 1) (Nat.zero_le _) (by omega)).1
            exact ⟨F, ef, by omega⟩
          have hinb : ∀ i, i < 8 * (flmM h (ixN k) Z f (ixN n)).2 → okN (mC h (ixN k) (ixN f + i)) := fun i hi => by
            have := (hwent (i / 8) (Nat.zero_le _) (by omega)).2
            have h3 : okN (mC h (ixN k) (ixN f + 8 * (i / 8) + i % 8)) := Decidable.of_not_not (fun q => this ⟨i % 8, Nat.mod_lt _ (by decide), q⟩)
            rw [show ixN f + 8 * (i / 8) + i % 8 = ixN f + i by omega] at h3
            exact h3
          generalize (flmM h (ixN k) Z f (ixN n)).2 = c at hc hc8 hFx hinb q1 q2 q3 q4 q5 y1 y2
          generalize (if (flmM h (ixN k) Z f (ixN n)).1 = 0 then (0 : Int32) else 2) = bb at q9 y2
          obtain ⟨F, ef, hF⟩ := hFx
          have eF : ixN f = F := by rw [ef, ixN_nI (by omega)]
          rw [eF] at q4 y2 hinb
          generalize ixN k = K at hK d1 d2 d3 d4 q4 y2 hinb
          generalize ixN w = W at hW q2 q3 q4 q5 y2
          have rc : ∀ a b, ess a b → a ≠ g_oab → ¬ (a = g_nums ∧ b = W) → ¬ (a = g_way ∧ b = W) → a ≠ g_m_numbers → a ≠ g_m_tenths → a ≠ g_m_feet → a ≠ g_model → h2 a b = h a b := fun a b a1 a2 a3 a4 a5 a6 a7 a8 => by rw [y2, fmH_o a5 a6 a7 a8]; exact q5 a b a1 a2 a3 a4
          have r0 : ∀ a, ess a 0 → a ≠ g_oab → a ≠ g_nums → a ≠ g_way → a ≠ g_m_numbers → a ≠ g_m_tenths → a ≠ g_m_feet → a ≠ g_model → h2 a 0 = h a 0 := fun a a1 a2 a3 a4 a5 a6 a7 a8 => rc a 0 a1 a2 (fun q => a3 q.1) (fun q => a4 q.1) a5 a6 a7 a8
          have rm : ∀ i, i ≠ 29 → h2 g_model 0 i = h g_model 0 i := fun i hi => by
            rw [y2]; unfold fmH
            rw [fed_a (by decide), hset_t (by decide), hset_t (by decide), fed_a (by decide), hset_k hi, km g_model (by decide)]
          have e29 : h2 g_model 0 29 = bb := by
            rw [y2]; unfold fmH
            rw [fed_a (by decide), hset_t (by decide), hset_t (by decide), fed_a (by decide), hset_eq]
          have eT : ∀ i, h2 g_m_tenths 0 i = if i = W then nI c else h g_m_tenths 0 i := fun i => by
            rw [y2]; unfold fmH
            rw [fed_a (by decide), hset_t (by decide)]
            by_cases e : i = W
            · rw [if_pos e, e, hset_eq]
            · rw [if_neg e, hset_k e, fed_a (by decide), hset_t (by decide), km g_m_tenths (by decide)]
          have eFt : ∀ i, h2 g_m_feet 0 i = if i = W then on else h g_m_feet 0 i := fun i => by
            rw [y2]; unfold fmH
            rw [fed_a (by decide)]
            by_cases e : i = W
            · rw [if_pos e, e, hset_eq]
            · rw [if_neg e, hset_k e, hset_t (by decide), fed_a (by decide), hset_t (by decide), km g_m_feet (by decide)]
          have eC : ∀ i, mC h1 K i = mC h K i := fun i => by show h1 g_m_cells 0 _ = h g_m_cells 0 _; rw [km g_m_cells (by decide)]
          have eN : ∀ i, i < 64 → mN h2 W i = if i < 8 * c then mC h K (F + i) else 0 := fun i hi => by rw [y2, fmH_n hi, eC]
          obtain ⟨t, vv, ww, j, s, o, b⟩ := z.r0
          refine ⟨t.same ?_ ?_ ?_ ?_ ?_ ?_, vv.same ?_ ?_, ww.upd (k := W) (fun k' hk' hne => ⟨?_, ?_, ?_, ?_, fun i hi => ?_⟩) ?_ ?_ (fun i hi => ?_) (fun i hi => ?_) ⟨c, hc8, ?_⟩, j.same ?_ ?_ ?_ ?_, s.same (fun k' hk' => ?_) (fun k' hk' => ?_) ?_ ?_ ?_, ?_, b.same ?_ ?_ ?_ ?_ ?_⟩
          · exact r0 _ (by decide) (by decide) (by decide) (by decide) (by decide) (by decide) (by decide) (by decide)
          · exact r0 _ (by decide) (by decide) (by decide) (by decide) (by decide) (by decide) (by decide) (by decide)
          · rw [r0 g_reader (by decide) (by decide) (by decide) (by decide) (by decide) (by decide) (by decide) (by decide)]
          · exact r0 _ (by decide) (by decide) (by decide) (by decide) (by decide) (by decide) (by decide) (by decide)
          · exact rm _ (by decide)
          · exact rm _ (by decide)
          · exact r0 _ (by decide) (by decide) (by decide) (by decide) (by decide) (by decide) (by decide) (by decide)
          · exact r0 _ (by decide) (by decide) (by decide) (by decide) (by decide) (by decide) (by decide) (by decide)
          · exact rc _ _ ⟨by decide, by decide, by decide, by decide, fun q => by omega⟩ (by decide) (fun q => hne q.2) (fun q => hne q.2) (by decide) (by decide) (by decide) (by decide)
          · exact rc _ _ ⟨by decide, by decide, by decide, by decide, fun q => by omega⟩ (by decide) (fun q => hne q.2) (fun q => hne q.2) (by decide) (by decide) (by decide) (by decide)
          · rw [eT, if_neg hne]
          · rw [eFt, if_neg hne]
          · show h2 g_m_numbers 0 (64 * k' + i) = h g_m_numbers 0 (64 * k' + i)
            rw [y2]; unfold fmH
            rw [fed_o (by omega), hset_t (by decide), hset_t (by decide), fed_o (by omega), hset_t (by decide), km g_m_numbers (by decide)]
          · rw [eT, if_pos rfl, y2, fmH_o (by decide) (by decide) (by decide) (by decide)]; exact q2
          · rw [eFt, if_pos rfl, y2, fmH_o (by decide) (by decide) (by decide) (by decide)]; exact q3
          · rw [eN i hi, y2, fmH_o (by decide) (by decide) (by decide) (by decide), q4 i hi]
            by_cases c1 : i < 8 * c
            · rw [if_pos c1, if_pos c1]; exact d4 _ (by omega)
            · rw [if_neg c1, if_neg c1]
          · rw [eN i hi]
            by_cases c1 : i < 8 * c
            · rw [if_pos c1]; exact hinb i c1
            · rw [if_neg c1]; decide
          · rw [eT, if_pos rfl]
          · rw [r0 g_ring (by decide) (by decide) (by decide) (by decide) (by decide) (by decide) (by decide) (by decide)]
          · exact r0 _ (by decide) (by decide) (by decide) (by decide) (by decide) (by decide) (by decide) (by decide)
          · exact rm _ (by decide)
          · exact r0 _ (by decide) (by decide) (by decide) (by decide) (by decide) (by decide) (by decide) (by decide)
          · exact rc _ _ ⟨by decide, by decide, by decide, by decide, fun q => absurd q.1 (by decide)⟩ (by decide) (fun q => absurd q.1 (by decide)) (fun q => absurd q.1 (by decide)) (by decide) (by decide) (by decide) (by decide)
          · exact rc _ _ ⟨by decide, by decide, by decide, by decide, fun q => absurd q.1 (by decide)⟩ (by decide) (fun q => absurd q.1 (by decide)) (fun q => absurd q.1 (by decide)) (by decide) (by decide) (by decide) (by decide)
          · exact r0 _ (by decide) (by decide) (by decide) (by decide) (by decide) (by decide) (by decide) (by decide)
          · exact r0 _ (by decide) (by decide) (by decide) (by decide) (by decide) (by decide) (by decide) (by decide)
          · exact r0 _ (by decide) (by decide) (by decide) (by decide) (by decide) (by decide) (by decide) (by decide)
          · unfold RelO; rw [e29, y2, fmH_o (by decide) (by decide) (by decide) (by decide)]; exact q9
          all_goals exact r0 _ (by decide) (by decide) (by decide) (by decide) (by decide) (by decide) (by decide) (by decide)
    · rw [if_neg hfd] at q
      obtain ⟨q1, q9, q2⟩ := q
      obtain ⟨e1, e2, e3⟩ := eM h1 (fun a ha _ => q2 a 0 (ess_m ha) (ne_m ha (by decide)))
      refine ⟨_, q1, _, C_X8_film (fun _ => e3) hZ, fun r2 h2 y => ?_⟩
      unfold QFilmM at y
      rw [if_pos ok, e1, if_neg hfd] at y
      obtain ⟨y1, rfl⟩ := y
      exact ⟨y1, rel_torn z q9 q2⟩
  · rw [if_neg ok] at q
    obtain ⟨q1, rfl⟩ := q
    refine ⟨_, q1, _, C_X8_film (fun y => (d y).2.1) hZ, fun r2 h2 y => ?_⟩
    unfold QFilmM at y
    rw [if_neg ok] at y
    obtain ⟨y1, rfl⟩ := y
    exact ⟨y1, z.r0⟩
end
