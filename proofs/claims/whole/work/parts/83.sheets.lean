/-! sheets, the text -/
theorem RelS.upd {h h' : Hp} {k : Nat} (z : RelS h) (a : ∀ k', k' < 4 → k' ≠ k → h' g_sheet k' = h g_sheet k' ∧ h' g_cells k' = h g_cells k' ∧ h' g_m_lengths 0 k' = h g_m_lengths 0 k' ∧ h' g_m_lanes 0 k' = h g_m_lanes 0 k' ∧ ∀ i, i < 64 → mC h' k' i = mC h k' i) (b : ∃ Z, Z ≤ 64 ∧ h' g_sheet k 1 = nI Z ∧ h' g_m_lengths 0 k = nI Z ∧ lnR (h' g_sheet k 0) (h' g_m_lanes 0 k) ∧ ∀ i, i < Z → h' g_cells k i = mC h' k i) : RelS h' := by
  intro k' hk'
  by_cases e : k' = k
  · subst e; exact b
  · obtain ⟨c1, c2, c3, c4, c5⟩ := a k' hk' e
    obtain ⟨Z, hZ, d1, d2, d3, d4⟩ := z k' hk'
    exact ⟨Z, hZ, by rw [c1]; exact d1, by rw [c3]; exact d2, by rw [c1, c4]; exact d3, fun i hi => by rw [c2, c5 i (by omega)]; exact d4 i hi⟩
theorem s4 {k : Int32} (hk : 0 ≤ k ∧ k ≤ 3) : ixN k < 4 := ixN_lt (ixl 3 hk.1 hk.2 (by decide))
theorem lnR.no {a b : Int32} (h : lnR a b) : a = -1 ↔ b = -4 := by
  rcases h with ⟨h1, h2⟩ | ⟨h1, h2⟩
  · exact ⟨fun _ => h2, fun _ => h1⟩
  · subst h1
    exact ⟨fun e => absurd h2 (by rw [e]; decide), fun e => absurd h2 (by rw [e]; decide)⟩
theorem lnR.eq {a b : Int32} (h : lnR a b) (hb : ¬ b = -4) : a = b ∧ 0 ≤ b := by
  rcases h with ⟨h1, h2⟩ | h
  · exact absurd h2 hb
  · exact h
section
variable {l : Launch} {G : GE} {h : Hp}
theorem both_sheet (z : Rel h) {k a n : Int32} : Both l G mX7_sheet mX8_sheet [vI k, vI a, vI n] h := by
  refine ⟨_, C_X7_sheet, fun r h1 ⟨er, eh⟩ => ⟨_, er, _, C_X8_sheet, fun r2 h2 ⟨er2, eh2⟩ => ⟨er2, ?_⟩⟩⟩
  by_cases c : ((0 ≤ k ∧ k ≤ 3) ∧ (0 ≤ a ∧ a ≤ 2) ∧ n ≤ 64) ∧ 0 ≤ n
  · rw [if_pos c] at eh eh2
    have hk := s4 c.1.1
    obtain ⟨Z, hZ, rfl⟩ := natof (x := n) 64 (by decide) c.2 c.1.2.2
    rw [ixN_nI (show Z < 2 ^ 31 by omega)] at eh
    generalize ixN k = K at hk eh eh2
    subst eh2
    subst eh
    obtain ⟨t, vv, ww, j, s, o, b⟩ := z.r0
    refine ⟨t.same ?_ ?_ ?_ ?_ ?_ ?_, vv.same ?_ ?_, ww.same ?_ ?_ ?_ ?_ ?_, j.same ?_ ?_ ?_ ?_, s.upd (k := K) (fun k' hk' hne => ⟨?_, ?_, ?_, ?_, fun i hi => ?_⟩) ⟨Z, hZ, ?_, ?_, ?_, fun i hi => ?_⟩, o.same ?_ ?_, b.same ?_ ?_ ?_ ?_ ?_⟩
    · simp (disch := decide) only [hset_t, fed_a, clr_t]
    · simp (disch := decide) only [hset_t, fed_a, clr_t]
    · simp (disch := decide) only [hset_t, fed_a, clr_t]
    · simp (disch := decide) only [hset_t, fed_a, clr_t]
    · simp (disch := decide) only [hset_t, fed_a, clr_t]
    · simp (disch := decide) only [hset_t, fed_a, clr_t]
    · simp (disch := decide) only [hset_t, fed_a, clr_t]
    · simp (disch := decide) only [hset_t, fed_a, clr_t]
    · intros; simp (disch := decide) only [hset_t, fed_a, clr_t]
    · intros; simp (disch := decide) only [hset_t, fed_a, clr_t]
    · simp (disch := decide) only [hset_t, fed_a, clr_t]
    · simp (disch := decide) only [hset_t, fed_a, clr_t]
    · simp (disch := decide) only [hset_t, fed_a, clr_t]
    · simp (disch := decide) only [hset_t, fed_a, clr_t]
    · simp (disch := decide) only [hset_t, fed_a, clr_t]
    · simp (disch := decide) only [hset_t, fed_a, clr_t]
    · simp (disch := decide) only [hset_t, fed_a, clr_t]
    · simp (disch := decide) only [hset_t, fed_a, clr_t]; rw [hset_i hne, hset_i hne]
    · simp (disch := decide) only [hset_t, fed_a]; rw [clr_i hne, hset_t (by decide), hset_t (by decide)]
    · simp (disch := decide) only [fed_a]; rw [hset_k hne]; simp (disch := decide) only [hset_t, clr_t]
    · simp (disch := decide) only [fed_a, hset_t]; rw [hset_k hne]; simp (disch := decide) only [hset_t, clr_t]
    · show fed _ _ _ _ _ _ _ _ = h g_m_cells 0 (64 * k' + i)
      rw [fed_o (by omega)]; simp (disch := decide) only [hset_t, clr_t]
    · simp (disch := decide) only [hset_t, fed_a, clr_t]; exact hset_eq _ _ _ _ _
    · simp (disch := decide) only [fed_a]; exact hset_eq _ _ _ _ _
    · simp (disch := decide) only [hset_t, fed_a, clr_t]; rw [hset_k (by decide), hset_eq, hset_eq]; exact Or.inr ⟨rfl, c.1.2.1.1⟩
    · simp (disch := decide) only [hset_t, fed_a]
      rw [clr_in hi]
      show (0 : Int32) = fed _ _ _ _ _ _ _ _
      rw [fed_in (by omega)]
    all_goals (intros; simp (disch := decide) only [hset_t, fed_a, clr_t])
  · rw [if_neg c] at eh eh2
    subst eh2
    subst eh
    exact z.r0
theorem both_lay (z : Rel h) {k i v : Int32} : Both l G mX7_lay mX8_lay [vI k, vI i, vI v] h := by
  by_cases hk : 0 ≤ k ∧ k ≤ 3
  · have hK := s4 hk
    obtain ⟨Z, hZ, d1, d2, d3, d4⟩ := z.2.2.2.2.1 _ hK
    have p0 : 0 ≤ nI Z := nI_pos' (by omega)
    have p1 : nI Z ≤ 64 := nI_le (b := 64) hZ (by decide)
    refine ⟨_, C_X7_lay (by rw [d1]; exact p1) (by rw [d1]; exact p0), fun r h1 ⟨er, eh⟩ => ⟨_, er, ?_⟩⟩
    rw [d1] at eh ⊢
    by_cases c0 : h g_m_lanes 0 (ixN k) = -4
    · have c1 := d3.no.mpr c0
      rw [if_neg (fun q => q.2.1 c1)] at eh
      subst eh
      refine ⟨_, C_X8_lay (by rw [d2]; exact p1) (by rw [d2]; exact p0), fun r2 h2 ⟨er2, eh2⟩ => ?_⟩
      rw [if_neg (fun q => q.2.1 c0)] at eh2
      subst eh2
      rw [if_pos hk, if_pos c0] at er2
      rw [if_pos hk, if_pos c1]
      exact ⟨er2, z.r0⟩
    · have c1 := mt d3.no.mp c0
      obtain ⟨y1, y2⟩ := d3.eq c0
      rw [if_pos hk, if_neg c1]
      by_cases c : 0 ≤ i ∧ i ≤ nI Z - 1
      · rw [if_pos ⟨hk, c1, c⟩, y1] at eh
        have e1 : h1 g_m_lengths 0 = h g_m_lengths 0 := by rw [eh, hset_t (by decide)]
        have e2 : h1 g_m_lanes 0 = h g_m_lanes 0 := by rw [eh, hset_t (by decide)]
        refine ⟨_, C_X8_lay (by rw [e1, d2]; exact p1) (by rw [e1, d2]; exact p0), fun r2 h2 ⟨er2, eh2⟩ => ?_⟩
        rw [e1, e2, d2] at eh2 er2
        rw [if_pos ⟨hk, c0, c⟩] at eh2
        rw [if_pos hk, if_neg c0] at er2
        refine ⟨er2, ?_⟩
        obtain ⟨i', hi', rfl⟩ := zsub c hZ
        rw [ixN_nI (show i' < 2 ^ 31 by omega)] at eh eh2
        generalize (if h g_m_lanes 0 (ixN k) = 0 then v.toInt8.toInt32 else if h g_m_lanes 0 (ixN k) = 1 then v.toInt16.toInt32 else v) = x at eh eh2
        obtain ⟨t, vv, ww, j, s, o, b⟩ := z.r0
        generalize ixN k = K at hK eh eh2 d1 d2 d3 d4
        subst eh2
        subst eh
        refine ⟨t.same ?_ ?_ ?_ ?_ ?_ ?_, vv.same ?_ ?_, ww.same ?_ ?_ ?_ ?_ ?_, j.same ?_ ?_ ?_ ?_, s.upd (k := K) (fun k' hk' hne => ⟨?_, ?_, ?_, ?_, fun i hi => ?_⟩) ⟨Z, hZ, ?_, ?_, ?_, fun i hi => ?_⟩, o.same ?_ ?_, b.same ?_ ?_ ?_ ?_ ?_⟩
        · simp (disch := decide) only [hset_t]
        · simp (disch := decide) only [hset_t]
        · simp (disch := decide) only [hset_t]
        · simp (disch := decide) only [hset_t]
        · simp (disch := decide) only [hset_t]
        · simp (disch := decide) only [hset_t]
        · simp (disch := decide) only [hset_t]
        · simp (disch := decide) only [hset_t]
        · intros; simp (disch := decide) only [hset_t]
        · intros; simp (disch := decide) only [hset_t]
        · simp (disch := decide) only [hset_t]
        · simp (disch := decide) only [hset_t]
        · simp (disch := decide) only [hset_t]
        · simp (disch := decide) only [hset_t]
        · simp (disch := decide) only [hset_t]
        · simp (disch := decide) only [hset_t]
        · simp (disch := decide) only [hset_t]
        · simp (disch := decide) only [hset_t]
        · simp (disch := decide) only [hset_t]; rw [hset_i hne]
        · simp (disch := decide) only [hset_t]
        · simp (disch := decide) only [hset_t]
        · show hset _ _ _ _ _ _ _ _ = h g_m_cells 0 (64 * k' + i)
          rw [hset_k (by omega), hset_t (by decide)]
        · simp (disch := decide) only [hset_t]; exact d1
        · simp (disch := decide) only [hset_t]; exact d2
        · simp (disch := decide) only [hset_t]; exact d3
        · show _ = hset _ _ _ _ _ _ _ _
          rw [hset_t (by decide)]
          by_cases e : i = i'
          · rw [e, hset_eq, hset_eq]
          · rw [hset_k e, hset_k (by omega), hset_t (by decide)]; exact d4 i hi
        all_goals (intros; simp (disch := decide) only [hset_t])
      · rw [if_neg (fun q => c q.2.2)] at eh
        subst eh
        refine ⟨_, C_X8_lay (by rw [d2]; exact p1) (by rw [d2]; exact p0), fun r2 h2 ⟨er2, eh2⟩ => ?_⟩
        rw [d2] at eh2 er2
        rw [if_neg (fun q => c q.2.2)] at eh2
        rw [if_pos hk, if_neg c0] at er2
        subst eh2
        exact ⟨er2, z.r0⟩
  · exact query0 z (C_lay7b hk) (C_lay8b hk) rfl
/-! the text -/
theorem psF_rng (B : Nat → Int32) (L : Nat) : ∀ n p told dr ln, RV dr → (psF B L n p told dr ln).1 = 0 → RV (psF B L n p told dr ln).2.2.2
  | 0, _, _, _, _, h, _ => h
  | n + 1, p, told, dr, ln, h, e => by
    unfold psF at e ⊢
    by_cases c1 : ¬ tkF B L (tkA B L p) = 0
    · rw [if_pos c1] at e ⊢; exact h
    · rw [if_neg c1] at e ⊢
      by_cases c2 : tkK B L (tkA B L p) = 0
      · rw [if_pos c2] at e ⊢; exact h
      · rw [if_neg c2] at e ⊢
        by_cases c3 : ¬ tkK B L (tkA B L p) = 1
        · rw [if_pos c3] at e ⊢; exact h
        · rw [if_neg c3] at e ⊢
          by_cases c4 : ¬ lnT B L (tkE B L (tkA B L p)) (tkN B L (tkA B L p)) told = 0
          · rw [if_pos c4] at e ⊢; exact h
          · rw [if_neg c4] at e ⊢
            refine psF_rng B L n _ _ _ _ ?_ e
            have f1 := Decidable.of_not_not c1
            have f3 := Decidable.of_not_not c3
            have f4 := Decidable.of_not_not c4
            have hnm := tkN_lt f3 f1
            have hs : slT B L (tkE B L (tkA B L p)) (tkN B L (tkA B L p)) told = 0 := Decidable.of_not_not (fun q => q ((lnT_s q).symm.trans f4))
            have hv : lnV B L (tkE B L (tkA B L p)) (tkN B L (tkA B L p)) = 0 := Decidable.of_not_not (fun q => q ((lnT_v hs q).symm.trans f4))
            obtain ⟨s, hs18, es⟩ := slS_lt hnm (slT_0 hs)
            have hr := nbT_0 hv
            rw [es, ixN_nI (by omega)] at hr
            intro i hi
            rw [es, ixN_nI (by omega)]
            unfold upd
            by_cases c5 : i = s
            · rw [if_pos c5, c5]; exact hr
            · rw [if_neg c5]; exact h i hi
theorem RV_usual : RV usual := by unfold RV usual; decide +kernel
theorem both_text (z : Rel h) : Both l G mX7_text mX8_text [] h := by
  obtain ⟨L, hL, e1, e2⟩ := z.L
  refine ⟨_, C_X7_text e1 hL, fun r h1 ⟨q1, q2, q3, q4, q5⟩ => ⟨_, q1, ?_⟩⟩
  have m : ∀ a, 26 ≤ a → h1 a = h a := fun a ha => q5 a (ne_m ha (by decide)) (ne_m ha (by decide)) (ne_m ha (by decide)) (ne_m ha (by decide))
  obtain ⟨t, vv, ww, j, s, o, b⟩ := z.r0
  have eB : h1 g_m_tape 0 = h g_m_tape 0 := by rw [m g_m_tape (by decide)]
  refine ⟨_, C_X8_text (L := L) (by rw [m g_model (by decide)]; exact e2) hL (b.same (by rw [m _ (by decide)]) (by rw [m _ (by decide)]) (by rw [m _ (by decide)]) (by rw [m _ (by decide)]) (by rw [m _ (by decide)])) (by rw [eB]; exact t.2.2.1), fun r2 h2 y => ?_⟩
  rw [eB] at y
  rw [t.2.1] at q3 q4 ⊢
  have hrv := psF_rng (h g_m_tape 0) L 201 0 0 usual 0 RV_usual
  generalize psF (h g_m_tape 0) L 201 0 0 usual 0 = R at q3 q4 y hrv ⊢
  obtain ⟨y1, y2, y3, y4, y5, y6⟩ := y
  refine ⟨y1, ?_⟩
  have rc : ∀ a, a ≠ g_reader → a ≠ g_draft → a ≠ g_tape → a ≠ g_values → a ≠ g_model → a ≠ g_m_reads → a ≠ g_m_holds → h2 a = h a := fun a a1 a2 a3 a4 a5 a6 a7 => by rw [y5 a a5 a6 a7]; exact q5 a a1 a2 a3 a4
  have rm : ∀ k, ¬ (1 ≤ k ∧ k ≤ 8) → k ≠ 16 → h2 g_model 0 k = h g_model 0 k := fun k a1 a2 => by rw [y6 k a1 a2, m g_model (by decide)]
  refine ⟨⟨⟨0, by decide, ?_, y2⟩, ?_, ?_, ?_⟩, ⟨fun i hi => ?_, fun i hi => ?_⟩, ww.same (fun k hk => ?_) (fun k hk => ?_) ?_ ?_ ?_, j.same ?_ ?_ ?_ ?_, s.same (fun k hk => ?_) (fun k hk => ?_) ?_ ?_ ?_, o.same ?_ ?_, b.same ?_ ?_ ?_ ?_ ?_⟩
  · rw [y5 g_tape (by decide) (by decide) (by decide)]; exact q2
  · rw [rc g_tapeB (by decide) (by decide) (by decide) (by decide) (by decide) (by decide) (by decide), rc g_m_tape (by decide) (by decide) (by decide) (by decide) (by decide) (by decide) (by decide)]; exact t.2.1
  · rw [rc g_m_tape (by decide) (by decide) (by decide) (by decide) (by decide) (by decide) (by decide)]; exact t.2.2.1
  · rw [y5 g_reader (by decide) (by decide) (by decide), q3, y3]
  · rw [y5 g_values (by decide) (by decide) (by decide), q4 i hi, y4 i hi, m g_m_holds (by decide), vv.1 i hi]
  · rw [y4 i hi]
    by_cases c : R.1 = 0
    · rw [if_pos c]; exact hrv c i hi
    · rw [if_neg c, m g_m_holds (by decide)]; exact vv.2 i hi
  · rw [rc _ (by decide) (by decide) (by decide) (by decide) (by decide) (by decide) (by decide)]
  · rw [rc _ (by decide) (by decide) (by decide) (by decide) (by decide) (by decide) (by decide)]
  · rw [rc _ (by decide) (by decide) (by decide) (by decide) (by decide) (by decide) (by decide)]
  · rw [rc _ (by decide) (by decide) (by decide) (by decide) (by decide) (by decide) (by decide)]
  · rw [rc _ (by decide) (by decide) (by decide) (by decide) (by decide) (by decide) (by decide)]
  · rw [rc _ (by decide) (by decide) (by decide) (by decide) (by decide) (by decide) (by decide)]
  · rw [rc _ (by decide) (by decide) (by decide) (by decide) (by decide) (by decide) (by decide)]
  · exact rm _ (by decide) (by decide)
  · rw [rc _ (by decide) (by decide) (by decide) (by decide) (by decide) (by decide) (by decide)]
  · rw [rc _ (by decide) (by decide) (by decide) (by decide) (by decide) (by decide) (by decide)]
  · rw [rc _ (by decide) (by decide) (by decide) (by decide) (by decide) (by decide) (by decide)]
  · rw [rc _ (by decide) (by decide) (by decide) (by decide) (by decide) (by decide) (by decide)]
  · rw [rc _ (by decide) (by decide) (by decide) (by decide) (by decide) (by decide) (by decide)]
  · rw [rc _ (by decide) (by decide) (by decide) (by decide) (by decide) (by decide) (by decide)]
  · rw [rc _ (by decide) (by decide) (by decide) (by decide) (by decide) (by decide) (by decide)]
  · exact rm _ (by decide) (by decide)
  all_goals rw [rc _ (by decide) (by decide) (by decide) (by decide) (by decide) (by decide) (by decide)]
end
