/-! copy, climb, valley -/
section
variable {l : Launch} {G : GE} {h : Hp}
theorem both_copy (z : Rel h) {w y : Int32} : Both l G mX7_copy mX8_copy [vI w, vI y] h := by
  refine ⟨_, C_X7_copy, fun r h1 ⟨er, eh⟩ => ⟨_, er, _, C_X8_copy, fun r2 h2 ⟨er2, eh2⟩ => ?_⟩⟩
  by_cases hw : 0 ≤ w ∧ w ≤ 5
  · have hk := z.t8 hw
    rw [z.w1 hk] at eh ⊢
    by_cases c : ((0 ≤ w ∧ w ≤ 5) ∧ 0 < h g_m_tenths 0 (ixN w)) ∧ 0 ≤ y ∧ y ≤ 5
    · rw [if_pos c] at eh ⊢
      have hm := z.t8 c.2
      have e1 : h1 g_m_tenths 0 = h g_m_tenths 0 := by rw [eh]; simp (disch := decide) only [hset_t, hsetA_t]
      have e2 : h1 g_m_feet 0 = h g_m_feet 0 := by rw [eh]; simp (disch := decide) only [hset_t, hsetA_t]
      have e3 : mN h1 (ixN w) = mN h (ixN w) := by unfold mN; rw [eh]; simp (disch := decide) only [hset_t, hsetA_t]
      rw [e1, e2, e3, if_pos c] at eh2
      rw [e1, if_pos c] at er2
      refine ⟨er2, ?_⟩
      rw [hset_f (show (2 : Nat) ≠ 1 by decide), z.w2 hk, z.w3 hk] at eh
      obtain ⟨t, vv, ww, j, s, o, b⟩ := z.r0
      have wk := ww _ hk
      generalize ixN w = k at hk eh eh2 wk
      generalize ixN y = m at hm eh eh2
      subst eh2
      subst eh
      refine ⟨t.same ?_ ?_ ?_ ?_ ?_ ?_, vv.same ?_ ?_, ww.upd (k := m) (fun k' hk' hne => ⟨?_, ?_, ?_, ?_, fun i hi => ?_⟩) ?_ ?_ (fun i hi => ?_) (fun i hi => ?_) ?_, j.same ?_ ?_ ?_ ?_, s.same ?_ ?_ ?_ ?_ ?_, o.same ?_ ?_, b.same ?_ ?_ ?_ ?_ ?_⟩
      · simp (disch := decide) only [hset_t, fed_a, hsetA_t]
      · simp (disch := decide) only [hset_t, fed_a, hsetA_t]
      · simp (disch := decide) only [hset_t, fed_a, hsetA_t]
      · simp (disch := decide) only [hset_t, fed_a, hsetA_t]
      · simp (disch := decide) only [hset_t, fed_a, hsetA_t]
      · simp (disch := decide) only [hset_t, fed_a, hsetA_t]
      · simp (disch := decide) only [hset_t, fed_a, hsetA_t]
      · simp (disch := decide) only [hset_t, fed_a, hsetA_t]
      · simp (disch := decide) only [hset_t, fed_a, hsetA_t]; rw [hset_i hne, hset_i hne]
      · simp (disch := decide) only [hset_t, fed_a]; rw [hsetA_i hne, hset_t (by decide), hset_t (by decide)]
      · simp (disch := decide) only [hset_t]; rw [hset_k hne]; simp (disch := decide) only [hset_t, fed_a, hsetA_t]
      · rw [hset_k hne]; simp (disch := decide) only [hset_t, fed_a, hsetA_t]
      · show hset _ _ _ _ _ _ _ _ = h g_m_numbers 0 (64 * k' + i)
        simp (disch := decide) only [hset_t]
        rw [fed_o (by omega)]; simp (disch := decide) only [hset_t, hsetA_t]
      · simp (disch := decide) only [hset_t, fed_a, hsetA_t]; rw [hset_eq, hset_k (by decide), hset_eq]
      · simp (disch := decide) only [hset_t, fed_a, hsetA_t]; rw [hset_eq, hset_eq]
      · simp (disch := decide) only [hset_t, fed_a]
        rw [hsetA_arr, cpy_lt hi]
        show _ = hset _ _ _ _ _ _ _ _
        simp (disch := decide) only [hset_t]
        rw [fed_in hi]
      · show _ ≤ hset _ _ _ _ _ _ _ _ ∧ hset _ _ _ _ _ _ _ _ ≤ _
        simp (disch := decide) only [hset_t]
        rw [fed_in hi]
        exact wk.2.2.2.1 i hi
      · simp (disch := decide) only [hset_t]; rw [hset_eq]; exact wk.2.2.2.2
      all_goals (intros; simp (disch := decide) only [hset_t, fed_a, hsetA_t])
    · rw [if_neg c] at eh ⊢
      subst eh
      rw [if_neg c] at eh2 er2
      subst eh2
      exact ⟨er2, z.r0⟩
  · rw [if_neg (fun q => hw q.1.1)] at eh ⊢
    rw [if_neg (fun q => hw q.1.1)] at eh2 er2
    subst eh2
    subst eh
    exact ⟨er2, z.r0⟩
/-- rows that both sides keep but for one way's numbers -/
theorem both_climb (z : Rel h) {w n : Int32} : Both l G mX7_climb mX8_climb [vI w, vI n] h := by
  refine ⟨_, C_X7_climb z.wt, fun r h1 q1 => ?_⟩
  by_cases c : isM h w ∧ 1 ≤ n ∧ n ≤ 40
  · have c' : isW h w ∧ 1 ≤ n ∧ n ≤ 40 := ⟨z.isW.mpr c.1, c.2⟩
    simp only [if_pos c'] at q1
    obtain ⟨q1, q2, q3⟩ := q1
    have hk := z.t8 c.1.1
    have km : ∀ a, 26 ≤ a → h1 a 0 = h a 0 := fun a ha => q3 a 0 (ess_m ha) (fun e => absurd e.1 (ne_m ha (by decide)))
    have eN : ∀ k, mN h1 k = mN h k := fun k => by unfold mN; rw [km g_m_numbers (by decide)]
    have mk1 : MK h1 := by
      obtain ⟨a1, a2, a3⟩ := z.mk
      refine ⟨by rw [km g_m_holds (by decide)]; exact a1, fun k hk => by rw [eN]; exact a2 k hk, fun k hk => by rw [km g_m_tenths (by decide)]; exact a3 k hk⟩
    refine ⟨_, q1, _, C_X8_climb mk1, fun r2 h2 y1 => ?_⟩
    have c2 : isM h1 w ∧ 1 ≤ n ∧ n ≤ 40 := by unfold isM; rw [km g_m_tenths (by decide)]; exact c
    simp only [if_pos c2] at y1
    rw [eN, km g_m_holds (by decide), km g_m_tenths (by decide), km g_m_feet (by decide)] at y1
    obtain ⟨y1, y2, y3, y4⟩ := y1
    rw [z.V, z.w1 hk, z.w2 hk, z.w3 hk] at q2
    refine ⟨by rw [y1, z.V, z.w1 hk, z.w2 hk, z.w3 hk], ?_⟩
    obtain ⟨t, vv, ww, j, s, o, b⟩ := z.r0
    have wk := ww _ hk
    generalize ixN w = k at hk q2 q3 y2 y3 y4 wk
    have rc : ∀ a b, ess a b → ¬ (a = g_nums ∧ b = k) → a ≠ g_m_numbers → h2 a b = h a b := fun a b e1 e2 e3 => by rw [y3.1 a e3]; exact q3 a b e1 e2
    have r0 : ∀ a, ess a 0 → a ≠ g_nums → a ≠ g_m_numbers → h2 a 0 = h a 0 := fun a e1 e2 e3 => rc a 0 e1 (fun q => e2 q.1) e3
    refine ⟨t.same ?_ ?_ ?_ ?_ ?_ ?_, vv.same ?_ ?_, ww.upd (k := k) (fun k' hk' hne => ⟨?_, ?_, ?_, ?_, fun i hi => ?_⟩) ?_ ?_ (fun i hi => ?_) y4 ?_, j.same ?_ ?_ ?_ ?_, s.same (fun k' hk' => ?_) (fun k' hk' => ?_) ?_ ?_ ?_, o.same ?_ ?_, b.same ?_ ?_ ?_ ?_ ?_⟩
    · exact r0 _ (by decide) (by decide) (by decide)
    · exact r0 _ (by decide) (by decide) (by decide)
    · rw [r0 _ (by decide) (by decide) (by decide)]
    · exact r0 _ (by decide) (by decide) (by decide)
    · rw [r0 _ (by decide) (by decide) (by decide)]
    · rw [r0 _ (by decide) (by decide) (by decide)]
    · exact r0 _ (by decide) (by decide) (by decide)
    · exact r0 _ (by decide) (by decide) (by decide)
    · exact rc _ _ ⟨by decide, by decide, by decide, by decide, fun q => by omega⟩ (fun q => absurd q.1 (by decide)) (by decide)
    · exact rc _ _ ⟨by decide, by decide, by decide, by decide, fun q => by omega⟩ (fun q => hne q.2) (by decide)
    · rw [r0 g_m_tenths (by decide) (by decide) (by decide)]
    · rw [r0 g_m_feet (by decide) (by decide) (by decide)]
    · show h2 g_m_numbers 0 (64 * k' + i) = h g_m_numbers 0 (64 * k' + i)
      rw [y3.2 _ (by omega), km g_m_numbers (by decide)]
    · rw [rc g_way k ⟨by decide, by decide, by decide, by decide, fun q => by omega⟩ (fun q => absurd q.1 (by decide)) (by decide), r0 g_m_tenths (by decide) (by decide) (by decide)]; exact wk.1
    · rw [rc g_way k ⟨by decide, by decide, by decide, by decide, fun q => by omega⟩ (fun q => absurd q.1 (by decide)) (by decide), r0 g_m_feet (by decide) (by decide) (by decide)]; exact wk.2.1
    · rw [y3.1 g_nums (by decide), q2, y2]
    · rw [r0 g_m_tenths (by decide) (by decide) (by decide)]; exact wk.2.2.2.2
    · rw [r0 _ (by decide) (by decide) (by decide)]
    · exact r0 _ (by decide) (by decide) (by decide)
    · rw [r0 _ (by decide) (by decide) (by decide)]
    · exact r0 _ (by decide) (by decide) (by decide)
    · exact rc _ _ ⟨by decide, by decide, by decide, by decide, fun q => absurd q.1 (by decide)⟩ (fun q => absurd q.1 (by decide)) (by decide)
    · exact rc _ _ ⟨by decide, by decide, by decide, by decide, fun q => absurd q.1 (by decide)⟩ (fun q => absurd q.1 (by decide)) (by decide)
    · exact r0 _ (by decide) (by decide) (by decide)
    · exact r0 _ (by decide) (by decide) (by decide)
    · exact r0 _ (by decide) (by decide) (by decide)
    · rw [r0 _ (by decide) (by decide) (by decide)]
    · rw [r0 _ (by decide) (by decide) (by decide)]
    all_goals exact r0 _ (by decide) (by decide) (by decide)
  · have c' : ¬ (isW h w ∧ 1 ≤ n ∧ n ≤ 40) := fun y => c ⟨z.isW.mp y.1, y.2⟩
    simp only [if_neg c'] at q1
    obtain ⟨q1, q2⟩ := q1
    have z1 := z.kp q2
    refine ⟨_, q1, _, C_X8_climb z1.mk, fun r2 h2 y1 => ?_⟩
    have c2 : ¬ (isM h1 w ∧ 1 ≤ n ∧ n ≤ 40) := by unfold isM; rw [q2.ms g_m_tenths (by decide) (by decide)]; exact c
    simp only [if_neg c2] at y1
    obtain ⟨y1, rfl⟩ := y1
    exact ⟨y1, z1.r0⟩
/-- the model's own helping rows may change -/
theorem rel0_kj {h h' : Hp} (z : Rel0 h) (e : ∀ a, a ≠ g_m_worths → a ≠ g_m_before → a ≠ g_m_then → a ≠ g_m_jumpers → a ≠ g_m_kept → h' a = h a) (ej : RelJ h') : Rel0 h' := by
  obtain ⟨t, vv, ww, j, s, o, b⟩ := z
  refine ⟨t.same ?_ ?_ ?_ ?_ ?_ ?_, vv.same ?_ ?_, ww.same (fun k hk => ?_) (fun k hk => ?_) ?_ ?_ ?_, ej, s.same (fun k hk => ?_) (fun k hk => ?_) ?_ ?_ ?_, o.same ?_ ?_, b.same ?_ ?_ ?_ ?_ ?_⟩
  all_goals rw [e _ (by decide) (by decide) (by decide) (by decide) (by decide)]
theorem both_valley (z : Rel h) {w y a : Int32} : Both l G mX7_valley mX8_valley [vI w, vI y, vI a] h := by
  refine ⟨_, C_X7_valley z.wt, fun r h1 ⟨q1, q2⟩ => ⟨_, q1, _, C_X8_valley (z.kp q2).mk, fun r2 h2 ⟨y1, y2⟩ => ⟨?_, ?_⟩⟩⟩
  · have m := q2.ms
    rw [y1]
    refine congrArg some ?_
    simp only [mN_ms m, isM, m g_m_tenths (by decide) (by decide), m g_m_feet (by decide) (by decide), m g_m_holds (by decide) (by decide), m g_m_numbers (by decide) (by decide)]
    by_cases c : isM h w ∧ isM h y ∧ 0 ≤ a ∧ a ≤ 1
    · rw [if_pos (show isW h w ∧ isW h y ∧ 0 ≤ a ∧ a ≤ 1 from ⟨z.isW.mpr c.1, z.isW.mpr c.2.1, c.2.2⟩), if_pos c, z.V, z.w1 (z.t8 c.1.1), z.w2 (z.t8 c.1.1), z.w3 (z.t8 c.1.1), z.w1 (z.t8 c.2.1.1), z.w3 (z.t8 c.2.1.1)]
    · rw [if_neg (show ¬ (isW h w ∧ isW h y ∧ 0 ≤ a ∧ a ≤ 1) from fun q => c ⟨z.isW.mp q.1, z.isW.mp q.2.1, q.2.2⟩), if_neg c]
  · have z1 := (z.kp q2).r0
    refine rel0_kj z1 (fun a _ _ _ _ e => y2 a e) (z1.2.2.2.1.same ?_ ?_ ?_ ?_)
    all_goals rw [y2 _ (by decide)]
end
