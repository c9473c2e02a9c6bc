/-! what the lowest is -/
theorem sLP_pl {V N : Nat → Int32} {t : Nat} {z : Int32} (p : Nat) (hz : sLU V N t p < 1000000) : ∃ j, j < p ∧ sLP V N t z p = nI j ∧ sLU V N t p = sPlace V N t j 1 := by
  induction p with
  | zero => exact absurd hz lt1M
  | succ p ih =>
    have e1 : sLP V N t z (p + 1) = if sPlace V N t p 1 < sLU V N t p ∧ sNear V (sPlace V N t p 0) then nI p else sLP V N t z p := rfl
    have e2 : sLU V N t (p + 1) = if sPlace V N t p 1 < sLU V N t p ∧ sNear V (sPlace V N t p 0) then sPlace V N t p 1 else sLU V N t p := rfl
    rw [e2] at hz
    rw [e1, e2]
    by_cases hc : sPlace V N t p 1 < sLU V N t p ∧ sNear V (sPlace V N t p 0)
    · rw [if_pos hc, if_pos hc]; exact ⟨p, Nat.lt_succ_self p, rfl, rfl⟩
    · rw [if_neg hc] at hz
      rw [if_neg hc, if_neg hc]
      obtain ⟨j, hj, e⟩ := ih hz
      exact ⟨j, Nat.lt_succ_of_lt hj, e⟩
theorem msb0 {x : Int32} : 0 ≤ x ↔ x.toBitVec.msb = false := by
  rw [Int32.le_iff_toInt_le, BitVec.msb_eq_toInt]
  show (0 : Int32).toInt ≤ x.toInt ↔ _
  rw [show (0 : Int32).toInt = 0 by decide, decide_eq_false_iff_not]
  show 0 ≤ x.toBitVec.toInt ↔ _
  omega
theorem fdiv_pos {x y : Int32} (hx : 0 ≤ x) (hy : 0 ≤ y) : fdiv x y = x / y := by
  unfold fdiv
  rw [if_pos]
  rw [msb0, Int32.toBitVec_xor, BitVec.msb_xor, msb0.mp hx, msb0.mp hy]
  rfl
/-- what the lowest is, as the model takes it apart -/
theorem ml_parts {V N : Nat → Int32} (h : RV V) (hN : RN N) {T : Nat} (hT : T ≤ 8) : ((lowF (sU V N) T).1 < 0 → (mlO V N T).1 = -4) ∧ (¬ (lowF (sU V N) T).1 < 0 → ∃ j p, j < T ∧ p < 4 ∧ (lowF (sU V N) T).1 = nI j ∧ sLP V N j 0 4 = nI p ∧ (mlO V N T).1 = nI (4 * j + p) ∧ sPlace V N j p 1 = sU V N j) := by
  rw [mlO_eq h hN T hT]
  unfold mlS
  by_cases hz : (lowF (sU V N) T).2 < 1000000
  · rw [if_pos hz]
    obtain ⟨j, hj, e1, e2⟩ := (lowF_far1 (sU V N) T hT).1 hz
    obtain ⟨p, hp, e3, e4⟩ := sLP_pl (V := V) (N := N) (t := j) (z := 0) 4 (by rw [← show sU V N j = sLU V N j 4 from rfl, ← e2]; exact hz)
    refine ⟨fun z => absurd z (by rw [e1]; exact nI_pos (by omega)), fun _ => ⟨j, p, hj, hp, e1, e3, ?_, e4.symm⟩⟩
    show 4 * (lowF (sU V N) T).1 + sLP V N (ixN (lowF (sU V N) T).1) 0 4 = _
    rw [e1, ixN_nI (by omega), e3, show (4 : Int32) = nI 4 from rfl, pk_mul, nI_add]
  · rw [if_neg hz]
    refine ⟨fun _ => rfl, fun z => absurd (show (lowF (sU V N) T).1 < 0 by rw [(lowF_far1 (sU V N) T hT).2 hz]; decide) z⟩
theorem nI_ne4 {n : Nat} (h : n < 2 ^ 31) : ¬ nI n = -4 := fun e => nI_pos h (by rw [e]; decide)
