/-! the model: bytes, names -/
theorem sr_0 (v : BitVec 32) (s : Nat) (hs : s < 32) : (v.sshiftRight s).getLsbD 0 = v.getLsbD s := by
  rw [BitVec.getLsbD_sshiftRight, if_pos (by omega), Nat.add_zero]
  simp
theorem bv_s1 (v : BitVec 32) (s : Nat) (hs : s < 32) : (v.sshiftRight s &&& 1#32 = 1#32) ↔ v.getLsbD s = true := by
  constructor
  · intro h
    have h0 : (v.sshiftRight s &&& 1#32).getLsbD 0 = (1#32).getLsbD 0 := by rw [h]
    rw [BitVec.getLsbD_and, sr_0 v s hs, show (1#32).getLsbD 0 = true by decide, Bool.and_true] at h0
    exact h0
  · intro h
    apply BitVec.eq_of_getLsbD_eq
    intro i hi
    rw [BitVec.getLsbD_and]
    by_cases h0 : i = 0
    · subst h0
      rw [sr_0 v s hs, h]; rfl
    · have e : ∀ i, i < 32 → ¬ i = 0 → (1#32).getLsbD i = false := by decide +kernel
      rw [e i hi h0, Bool.and_false]
theorem bv_s2 (v : BitVec 32) (s : Nat) (hs : s < 32) : v &&& (1#32 <<< s) = 0#32 ↔ v.getLsbD s = false := by
  constructor
  · intro h
    have h0 := congrArg (fun x => x.getLsbD s) h
    simp [BitVec.getLsbD_shiftLeft] at h0
    cases hv : v.getLsbD s with
    | false => rfl
    | true => exact absurd hs (Nat.not_lt.mpr (h0 hv))
  · intro h
    apply BitVec.eq_of_getLsbD_eq
    intro i hi
    rw [BitVec.getLsbD_and]
    by_cases h0 : i = s
    · subst h0; rw [h]; simp
    · have e : (1#32 <<< s).getLsbD i = false := by
        simp [BitVec.getLsbD_shiftLeft]
        omega
      rw [e]; simp
theorem bit_t (T : Int32) (s : Nat) (hs : s < 18) : (T >>> (nI s &&& 31)) &&& 1 = 1 ↔ ¬ T &&& (1 <<< (nI s &&& 31)) = 0 := by
  have key : ∀ s, s < 18 → ((nI s &&& 31).toBitVec.smod 32#32).toNat = s := by decide +kernel
  rw [← Int32.toBitVec_inj, ← Int32.toBitVec_inj, Int32.toBitVec_and, Int32.toBitVec_and, Int32.toBitVec_shiftRight, Int32.toBitVec_shiftLeft]
  show (T.toBitVec.sshiftRight ((nI s &&& 31).toBitVec.smod 32#32).toNat &&& 1#32 = 1#32) ↔ ¬ T.toBitVec &&& (1#32 <<< ((nI s &&& 31).toBitVec.smod 32#32)) = 0#32
  rw [bv_s1 _ _ (by rw [key s hs]; omega), BitVec.shiftLeft_eq', bv_s2 _ _ (by rw [key s hs]; omega), key s hs]
  simp
