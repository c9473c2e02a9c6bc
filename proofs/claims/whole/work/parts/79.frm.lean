/-! frames -/
theorem clr_t {h : Hp} {t k i a : Nat} (ha : a ≠ t) : clr h t k i a = h a := hsetA_t ha
theorem RelT.same {h h' : Hp} (e1 : h' g_tape 0 = h g_tape 0) (e2 : h' g_tapeB 0 = h g_tapeB 0) (e3 : h' g_reader 0 3 = h g_reader 0 3) (e4 : h' g_m_tape 0 = h g_m_tape 0) (e5 : h' g_model 0 1 = h g_model 0 1) (e6 : h' g_model 0 2 = h g_model 0 2) (z : RelT h) : RelT h' := by
  unfold RelT
  rw [e1, e2, e3, e4, e5, e6]; exact z
theorem RelV0.same {h h' : Hp} (e1 : h' g_values 0 = h g_values 0) (e2 : h' g_m_holds 0 = h g_m_holds 0) (z : RelV0 h) : RelV0 h' := by
  unfold RelV0
  rw [e1, e2]; exact z
theorem RelW0.same {h h' : Hp} (e1 : ∀ k, k < 6 → h' g_way k = h g_way k) (e2 : ∀ k, k < 6 → h' g_nums k = h g_nums k) (e3 : h' g_m_tenths 0 = h g_m_tenths 0) (e4 : h' g_m_feet 0 = h g_m_feet 0) (e5 : h' g_m_numbers 0 = h g_m_numbers 0) (z : RelW0 h) : RelW0 h' := by
  intro k hk
  have := z k hk
  unfold mN at this ⊢
  rw [e1 k hk, e2 k hk, e3, e4, e5]; exact this
theorem RelJ.same {h h' : Hp} (e1 : h' g_ring 0 3 = h g_ring 0 3) (e2 : h' g_held 0 = h g_held 0) (e3 : h' g_model 0 22 = h g_model 0 22) (e4 : h' g_m_jumpers 0 = h g_m_jumpers 0) (z : RelJ h) : RelJ h' := by
  unfold RelJ
  rw [e1, e2, e3, e4]; exact z
theorem RelS.same {h h' : Hp} (e1 : ∀ k, k < 4 → h' g_sheet k = h g_sheet k) (e2 : ∀ k, k < 4 → h' g_cells k = h g_cells k) (e3 : h' g_m_lengths 0 = h g_m_lengths 0) (e4 : h' g_m_lanes 0 = h g_m_lanes 0) (e5 : h' g_m_cells 0 = h g_m_cells 0) (z : RelS h) : RelS h' := by
  intro k hk
  have := z k hk
  unfold mC at this ⊢
  rw [e1 k hk, e2 k hk, e3, e4, e5]; exact this
theorem RelO.same {h h' : Hp} (e1 : h' g_oab 0 9 = h g_oab 0 9) (e2 : h' g_model 0 29 = h g_model 0 29) (z : RelO h) : RelO h' := by
  unfold RelO
  rw [e1, e2]; exact z
theorem MTb.same {h h' : Hp} (e1 : h' g_m_cuts 0 = h g_m_cuts 0) (e2 : h' g_m_letters 0 = h g_m_letters 0) (e3 : h' g_m_plain 0 = h g_m_plain 0) (e4 : h' g_m_leasts 0 = h g_m_leasts 0) (e5 : h' g_m_mosts 0 = h g_m_mosts 0) (z : MTb h) : MTb h' := by
  unfold MTb
  rw [e1, e2, e3, e4, e5]; exact z
/-- one way changes, on both sides -/
theorem RelW0.upd {h h' : Hp} {k : Nat} (z : RelW0 h) (a : ∀ k', k' < 6 → k' ≠ k → h' g_way k' = h g_way k' ∧ h' g_nums k' = h g_nums k' ∧ h' g_m_tenths 0 k' = h g_m_tenths 0 k' ∧ h' g_m_feet 0 k' = h g_m_feet 0 k' ∧ ∀ i, i < 64 → mN h' k' i = mN h k' i) (b1 : h' g_way k 1 = h' g_m_tenths 0 k) (b2 : h' g_way k 2 = h' g_m_feet 0 k) (b3 : ∀ i, i < 64 → h' g_nums k i = mN h' k i) (b4 : RN (mN h' k)) (b5 : ∃ T, T ≤ 8 ∧ h' g_m_tenths 0 k = nI T) : RelW0 h' := by
  intro k' hk'
  by_cases e : k' = k
  · subst e; exact ⟨b1, b2, b3, b4, b5⟩
  · obtain ⟨c1, c2, c3, c4, c5⟩ := a k' hk' e
    obtain ⟨d1, d2, d3, d4, d5⟩ := z k' hk'
    exact ⟨by rw [c1, c3]; exact d1, by rw [c1, c4]; exact d2, fun i hi => by rw [c2, c5 i hi]; exact d3 i hi, fun i hi => by rw [c5 i hi]; exact d4 i hi, by rw [c3]; exact d5⟩
theorem and255 (x : Int32) : 0 ≤ x &&& 255 := by
  rw [msb0, Int32.toBitVec_and, BitVec.msb_and]
  show (x.toBitVec.msb && (255#32).msb) = false
  rw [show (255#32).msb = false by decide, Bool.and_false]
theorem Rel.L {h : Hp} (z : Rel h) : ∃ L, L ≤ 200 ∧ h g_tape 0 1 = nI L ∧ h g_model 0 1 = nI L := z.1.1
section
variable {l : Launch} {G : GE} {h : Hp}
theorem both_feed (z : Rel h) {v : Int64} : Both l G mX7_feed mX8_feed [vL v] h := by
  obtain ⟨L, hL, e1, e2⟩ := z.L
  refine ⟨_, C_X7_feed e1 hL, fun r h1 ⟨er, eh⟩ => ⟨_, er, ?_⟩⟩
  by_cases c : L ≤ 192
  · rw [if_pos c] at eh
    have e3 : h1 g_model 0 1 = nI L := by rw [eh, hset_t (by decide), fed_a (by decide)]; exact e2
    refine ⟨_, C_X8_feed (v := v) e3 hL, fun r2 h2 ⟨er2, eh2⟩ => ⟨er2, ?_⟩⟩
    rw [if_pos c] at eh2
    subst eh2
    subst eh
    obtain ⟨t, vv, w, j, s, o, b⟩ := z.r0
    refine ⟨⟨⟨L + 8, by omega, ?_, hset_eq _ _ _ _ _⟩, ?_, ?_, ?_⟩, vv.same ?_ ?_, w.same ?_ ?_ ?_ ?_ ?_, j.same ?_ ?_ ?_ ?_, s.same ?_ ?_ ?_ ?_ ?_, o.same ?_ ?_, b.same ?_ ?_ ?_ ?_ ?_⟩
    · rw [hset_t (by decide), fed_a (by decide)]; exact hset_eq _ _ _ _ _
    · rw [hset_t (by decide), fed_a (by decide), hset_t (by decide), hset_t (by decide)]
      unfold fed
      rw [hsetA_arr, hsetA_arr, hset_t (by decide), hsetA_t (by decide), t.2.1]
    · rw [hset_t (by decide)]
      intro i hi
      unfold fed
      rw [hsetA_arr]
      by_cases hc : L ≤ i ∧ i < L + 8
      · rw [if_pos hc]; exact and255 _
      · rw [if_neg hc, hset_t (by decide), hsetA_t (by decide)]; exact t.2.2.1 i hi
    · rw [hset_t (by decide), fed_a (by decide), hset_t (by decide), fed_a (by decide), hset_k (by decide), fed_a (by decide), hset_t (by decide), fed_a (by decide)]; exact t.2.2.2
    all_goals (intros; simp (disch := decide) only [hset_t, hset_k, fed_a])
  · rw [if_neg c] at eh
    subst eh
    refine ⟨_, C_X8_feed (v := v) e2 hL, fun r2 h2 ⟨er2, eh2⟩ => ⟨er2, ?_⟩⟩
    rw [if_neg c] at eh2
    subst eh2
    exact z.r0
theorem both_end (z : Rel h) {n : Int32} : Both l G mX7_end mX8_end [vI n] h := by
  obtain ⟨L, hL, e1, e2⟩ := z.L
  refine ⟨_, C_X7_end, fun r h1 ⟨er, eh⟩ => ⟨_, er, _, C_X8_end, fun r2 h2 ⟨er2, eh2⟩ => ?_⟩⟩
  rw [e1] at eh
  by_cases c : 0 ≤ n ∧ n ≤ nI L
  · rw [if_pos c] at eh
    have e3 : h1 g_model 0 1 = nI L := by rw [eh, hset_t (by decide)]; exact e2
    rw [e3] at er2 eh2
    rw [if_pos c] at eh2
    refine ⟨by rw [er2, e1], ?_⟩
    subst eh2
    subst eh
    obtain ⟨t, vv, w, j, s, o, b⟩ := z.r0
    obtain ⟨i, hi, rfl⟩ := natof (x := n) L (by omega) c.1 c.2
    refine ⟨⟨⟨i, by omega, ?_, hset_eq _ _ _ _ _⟩, ?_, ?_, ?_⟩, vv.same ?_ ?_, w.same ?_ ?_ ?_ ?_ ?_, j.same ?_ ?_ ?_ ?_, s.same ?_ ?_ ?_ ?_ ?_, o.same ?_ ?_, b.same ?_ ?_ ?_ ?_ ?_⟩
    · rw [hset_t (by decide)]; exact hset_eq _ _ _ _ _
    · simp (disch := decide) only [hset_t]; exact t.2.1
    · simp (disch := decide) only [hset_t]; exact t.2.2.1
    · simp (disch := decide) only [hset_t, hset_k]; exact t.2.2.2
    all_goals (intros; simp (disch := decide) only [hset_t, hset_k])
  · rw [if_neg c] at eh
    subst eh
    rw [e2] at er2 eh2
    rw [if_neg c] at eh2
    subst eh2
    exact ⟨by rw [er2, e1], z.r0⟩
end
