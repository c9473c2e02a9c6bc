/-! calls that change ways -/
theorem hset_i {h : Hp} {t i k b : Nat} {v : Int32} (hb : b ≠ i) : hset h t i k v t b = h t b := hset_other (fun e => hb (congrArg Prod.snd e))
theorem hsetA_i {h : Hp} {t i b : Nat} {f : Nat → Int32} (hb : b ≠ i) : hsetA h t i f t b = h t b := hsetA_other (fun e => hb (congrArg Prod.snd e))
theorem clr_i {h : Hp} {t k i b : Nat} (hb : b ≠ k) : clr h t k i t b = h t b := hsetA_i hb
theorem clr_in {h : Hp} {t k i j : Nat} (hj : j < i) : clr h t k i t k j = 0 := by
  unfold clr
  rw [hsetA_arr, if_pos hj]
theorem hset_f {h : Hp} {t i k j b : Nat} {v : Int32} (hb : b ≠ k) : hset h t i k v t j b = h t j b := by
  unfold hset
  rw [if_neg (fun z => hb z.2.2)]
theorem fed_o {by' : Nat → Int32} {h : Hp} {t L i j : Nat} (hj : ¬ (L ≤ j ∧ j < L + i)) : fed by' h t L i t 0 j = h t 0 j := fed_at hj
theorem RN_0 {N : Nat → Int32} (e : ∀ i, i < 64 → N i = 0) : RN N := fun i hi => by rw [e i hi]; decide
section
variable {l : Launch} {G : GE} {h : Hp}
theorem both_way (z : Rel h) {w n f : Int32} : Both l G mX7_way mX8_way [vI w, vI n, vI f] h := by
  refine ⟨_, C_X7_way, fun r h1 ⟨er, eh⟩ => ⟨_, er, _, C_X8_way, fun r2 h2 ⟨er2, eh2⟩ => ?_⟩⟩
  by_cases c : (0 ≤ w ∧ w ≤ 5) ∧ (2 ≤ n ∧ n ≤ 8) ∧ 1 ≤ f ∧ f ≤ 2
  · rw [if_pos c] at eh eh2 er2 ⊢
    have hk := z.t8 c.1
    obtain ⟨T, hT, rfl⟩ := natof (x := n) 8 (by decide) (Int32.le_trans (by decide) c.2.1.1) c.2.1.2
    generalize ixN w = k at hk eh eh2 er2 ⊢
    subst eh2
    subst eh
    refine ⟨by rw [er2, clr_t (by decide), hset_t (by decide), hset_t (by decide), z.w1 hk], ?_⟩
    obtain ⟨t, vv, ww, j, s, o, b⟩ := z.r0
    refine ⟨t.same ?_ ?_ ?_ ?_ ?_ ?_, vv.same ?_ ?_, ww.upd (k := k) (fun k' hk' hne => ⟨?_, ?_, ?_, ?_, fun i hi => ?_⟩) ?_ ?_ (fun i hi => ?_) (RN_0 fun i hi => ?_) ⟨T, hT, ?_⟩, j.same ?_ ?_ ?_ ?_, s.same ?_ ?_ ?_ ?_ ?_, o.same ?_ ?_, b.same ?_ ?_ ?_ ?_ ?_⟩
    · simp (disch := decide) only [hset_t, fed_a, clr_t]
    · simp (disch := decide) only [hset_t, fed_a, clr_t]
    · simp (disch := decide) only [hset_t, fed_a, clr_t]
    · simp (disch := decide) only [hset_t, fed_a, clr_t]
    · simp (disch := decide) only [hset_t, fed_a, clr_t]
    · simp (disch := decide) only [hset_t, fed_a, clr_t]
    · simp (disch := decide) only [hset_t, fed_a, clr_t]
    · simp (disch := decide) only [hset_t, fed_a, clr_t]
    · simp (disch := decide) only [hset_t, fed_a, clr_t]; rw [hset_i hne, hset_i hne]
    · simp (disch := decide) only [hset_t, fed_a]; rw [clr_i hne, hset_t (by decide), hset_t (by decide)]
    · simp (disch := decide) only [hset_t]; rw [hset_k hne]; simp (disch := decide) only [hset_t, fed_a, clr_t]
    · rw [hset_k hne]; simp (disch := decide) only [hset_t, fed_a, clr_t]
    · show hset _ _ _ _ _ _ _ _ = h g_m_numbers 0 (64 * k' + i)
      simp (disch := decide) only [hset_t]
      rw [fed_o (by omega)]; simp (disch := decide) only [hset_t, clr_t]
    · simp (disch := decide) only [hset_t, fed_a, clr_t]; rw [hset_eq, hset_k (by decide), hset_eq]
    · simp (disch := decide) only [hset_t, fed_a, clr_t]; rw [hset_eq, hset_eq]
    · simp (disch := decide) only [hset_t, fed_a]
      rw [clr_in hi]
      show (0 : Int32) = hset _ _ _ _ _ _ _ _
      simp (disch := decide) only [hset_t]
      rw [fed_in hi]
    · show hset _ _ _ _ _ _ _ _ = 0
      simp (disch := decide) only [hset_t]
      rw [fed_in hi]
    · simp (disch := decide) only [hset_t]; exact hset_eq _ _ _ _ _
    all_goals (intros; simp (disch := decide) only [hset_t, fed_a, clr_t])
  · rw [if_neg c] at eh eh2 er2 ⊢
    subst eh2
    subst eh
    exact ⟨er2, z.r0⟩
theorem both_put (z : Rel h) {w t p x y : Int32} : Both l G mX7_put mX8_put [vI w, vI t, vI p, vI x, vI y] h := by
  by_cases hw : 0 ≤ w ∧ w ≤ 5
  · have hk := z.t8 hw
    refine ⟨_, C_X7_put (z.c8 hw), fun r h1 ⟨er, eh⟩ => ⟨_, er, ?_⟩⟩
    rw [z.w1 hk] at eh ⊢
    by_cases c : (((0 ≤ w ∧ w ≤ 5) ∧ 0 < h g_m_tenths 0 (ixN w)) ∧ (0 ≤ t ∧ t ≤ h g_m_tenths 0 (ixN w) - 1) ∧ 0 ≤ p ∧ p ≤ 3) ∧ (-9 ≤ x ∧ x ≤ 9) ∧ -9 ≤ y ∧ y ≤ 9
    · rw [if_pos c] at eh ⊢
      have e1 : h1 g_m_tenths 0 = h g_m_tenths 0 := by rw [eh, hset_t (by decide), hset_t (by decide)]
      refine ⟨_, C_X8_put (by rw [e1]; exact z.m8 hw), fun r2 h2 ⟨er2, eh2⟩ => ?_⟩
      rw [e1, if_pos c] at eh2 er2
      refine ⟨er2, ?_⟩
      have h7 := t_le7 c.1.2.1.1 c.1.2.1.2 (z.m8 hw) c.1.1.2
      obtain ⟨t', ht', et⟩ := natof (x := t) 7 (by decide) c.1.2.1.1 h7
      obtain ⟨p', hp', ep⟩ := natof (x := p) 3 (by decide) c.1.2.2.1 c.1.2.2.2
      rw [ix_tp c.1.2.1.1 h7 c.1.2.2.1 c.1.2.2.2, ix_tpa c.1.2.1.1 h7 c.1.2.2.1 c.1.2.2.2 (by decide) (by decide), show ixN 1 = 1 by decide] at eh
      have eA : 8 * ixN t + 2 * ixN p ≤ 62 := by rw [et, ep, ixN_nI (by omega), ixN_nI (by omega)]; omega
      generalize 8 * ixN t + 2 * ixN p = A at eh eh2 eA
      generalize ixN w = k at hk eh eh2
      have hx := c.2.1
      have hy := c.2.2
      subst eh2
      subst eh
      obtain ⟨t, vv, ww, j, s, o, b⟩ := z.r0
      have hw3 := (ww k hk).2.2.1
      have hw4 := (ww k hk).2.2.2.1
      have eN : ∀ i, i < 64 → mN (hset (hset (hset (hset h g_nums k A x) g_nums k (A + 1) y) g_m_numbers 0 (64 * k + A) x) g_m_numbers 0 (64 * k + (A + 1)) y) k i = if i = A + 1 then y else if i = A then x else mN h k i := by
        intro i hi
        show hset _ _ _ _ _ _ _ _ = _
        by_cases c1 : i = A + 1
        · rw [if_pos c1, c1]; exact hset_eq _ _ _ _ _
        · rw [if_neg c1, hset_k (by omega)]
          by_cases c2 : i = A
          · rw [if_pos c2, c2]; exact hset_eq _ _ _ _ _
          · rw [if_neg c2, hset_k (by omega), hset_t (by decide), hset_t (by decide)]
      refine ⟨t.same ?_ ?_ ?_ ?_ ?_ ?_, vv.same ?_ ?_, ww.upd (k := k) (fun k' hk' hne => ⟨?_, ?_, ?_, ?_, fun i hi => ?_⟩) ?_ ?_ (fun i hi => ?_) (fun i hi => ?_) ?_, j.same ?_ ?_ ?_ ?_, s.same ?_ ?_ ?_ ?_ ?_, o.same ?_ ?_, b.same ?_ ?_ ?_ ?_ ?_⟩
      · simp (disch := decide) only [hset_t]
      · simp (disch := decide) only [hset_t]
      · simp (disch := decide) only [hset_t]
      · simp (disch := decide) only [hset_t]
      · simp (disch := decide) only [hset_t]
      · simp (disch := decide) only [hset_t]
      · simp (disch := decide) only [hset_t]
      · simp (disch := decide) only [hset_t]
      · simp (disch := decide) only [hset_t]
      · simp (disch := decide) only [hset_t]; rw [hset_i hne, hset_i hne]
      · simp (disch := decide) only [hset_t]
      · simp (disch := decide) only [hset_t]
      · show hset _ _ _ _ _ _ _ _ = h g_m_numbers 0 (64 * k' + i)
        rw [hset_k (by omega), hset_k (by omega), hset_t (by decide), hset_t (by decide)]
      · simp (disch := decide) only [hset_t]; exact (ww k hk).1
      · simp (disch := decide) only [hset_t]; exact (ww k hk).2.1
      · rw [eN i hi]
        simp (disch := decide) only [hset_t]
        by_cases c1 : i = A + 1
        · rw [if_pos c1, c1]; exact hset_eq _ _ _ _ _
        · rw [if_neg c1, hset_k c1]
          by_cases c2 : i = A
          · rw [if_pos c2, c2]; exact hset_eq _ _ _ _ _
          · rw [if_neg c2, hset_k c2]; exact hw3 i hi
      · rw [eN i hi]
        by_cases c1 : i = A + 1
        · rw [if_pos c1]; exact hy
        · rw [if_neg c1]
          by_cases c2 : i = A
          · rw [if_pos c2]; exact hx
          · rw [if_neg c2]; exact hw4 i hi
      · simp (disch := decide) only [hset_t]; exact (ww k hk).2.2.2.2
      all_goals (intros; simp (disch := decide) only [hset_t])
    · rw [if_neg c] at eh ⊢
      subst eh
      refine ⟨_, C_X8_put (z.m8 hw), fun r2 h2 ⟨er2, eh2⟩ => ?_⟩
      rw [if_neg c] at eh2 er2
      subst eh2
      exact ⟨er2, z.r0⟩
  · exact query0 z (C_put7b hw) (C_put8b hw) rfl
end
