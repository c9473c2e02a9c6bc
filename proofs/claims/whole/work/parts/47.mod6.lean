/-! the model: high, lowest, under, order, as they are called -/
abbrev isM (h : Hp) (w : Int32) : Prop := (0 ≤ w ∧ w ≤ 5) ∧ 0 < h g_m_tenths 0 (ixN w)
def MK (h : Hp) : Prop := RV (h g_m_holds 0) ∧ (∀ k, k < 6 → RN (mN h k)) ∧ ∀ k, k < 6 → ∃ T, T ≤ 8 ∧ h g_m_tenths 0 k = nI T
theorem isM_nat {h : Hp} {w : Int32} (hI : MK h) (hw : isM h w) : ∃ k T, k ≤ 5 ∧ w = nI k ∧ 1 ≤ T ∧ T ≤ 8 ∧ h g_m_tenths 0 k = nI T ∧ ixN w = k ∧ ixN (h g_m_tenths 0 (ixN w)) = T := by
  obtain ⟨k, hk, rfl⟩ := natq (x := w) 5 5 rfl (by decide) hw.1.1 hw.1.2
  obtain ⟨T, hT, e⟩ := hI.2.2 k (by omega)
  have hz := hw.2
  have ek : ixN (nI k) = k := ixN_nI (by omega)
  rw [ek, e] at hz
  refine ⟨k, T, hk, rfl, ?_, hT, e, ek, by rw [ek, e, ixN_nI (by omega)]⟩
  rcases Nat.eq_zero_or_pos T with rfl | h1
  · exact absurd hz (by decide)
  · exact h1
set_option maxHeartbeats 1600000 in
theorem C_X8_high {l : Launch} {G : GE} {h : Hp} {w : Int32} (hI : MK h) : CT l G mX8_high [vR g_model 0, vI w] h (fun r h' => r = some (if isM h w then sHigh (h g_m_holds 0) (mN h (ixN w)) (ixN (h g_m_tenths 0 (ixN w))) else -1) ∧ h' = h) := by
  refine CT.of (lv := [_, _]) (by decide +kernel) (Nat.le_of_ble_eq_true rfl) rfl ?_
  refine E_aload_n (pc := 0) 0 dX8_high_0 rfl rfl ?_
  refine E_iload_n (pc := 1) 1 dX8_high_1 rfl rfl ?_
  refine E_callV1 (pc := 2) dX8_high_2 C_X8_isWay rfl kv_RX8_139 rfl rfl rfl ⟨Nat.le_of_ble_eq_true rfl, Nat.le_of_ble_eq_true rfl, Nat.le_of_ble_eq_true rfl, Nat.le_of_ble_eq_true rfl⟩ (Nat.le_of_ble_eq_true rfl) ?_
  refine E_if_eq (pc := 5) 16 dX8_high_5 rfl (fun q5 => ?_) (fun q5 => ?_)
  · have hg : ¬ isM h w := bi_0.mp q5
    rw [if_neg hg]
    refine E_iconst (pc := 16) (-1) dX8_high_16 (by decide) ?_
    refine E_iret (pc := 17) dX8_high_17 rfl ?_
    exact ⟨rfl, rfl⟩
  · have hg : isM h w := Decidable.of_not_not (fun z => q5 (bi_0.mpr z))
    obtain ⟨k, T, hk, ew, hT1, hT8, hT, e1, e2⟩ := isM_nat hI hg
    rw [if_pos hg, e2, e1]
    clear hg q5 e1 e2
    subst ew
    refine E_aload_n (pc := 8) 0 dX8_high_8 rfl rfl ?_
    refine E_iload_n (pc := 9) 1 dX8_high_9 rfl rfl ?_
    refine E_callV1 (pc := 10) dX8_high_10 (C_X8_highOf hI.1 (hI.2.1 k (by omega)) hk hT hT1 hT8) rfl kv_RX8_187 rfl rfl rfl ⟨Nat.le_of_ble_eq_true rfl, Nat.le_of_ble_eq_true rfl, Nat.le_of_ble_eq_true rfl, Nat.le_of_ble_eq_true rfl⟩ (Nat.le_of_ble_eq_true rfl) ?_
    refine E_goto (pc := 13) 17 dX8_high_13 rfl ?_
    refine E_iret (pc := 17) dX8_high_17 rfl ?_
    exact ⟨rfl, rfl⟩
set_option maxHeartbeats 1600000 in
theorem C_X8_lowest {l : Launch} {G : GE} {h : Hp} {w : Int32} (hI : MK h) : CT l G mX8_lowest [vR g_model 0, vI w] h (fun r h' => r = some (if isM h w then sLowest (h g_m_holds 0) (mN h (ixN w)) (ixN (h g_m_tenths 0 (ixN w))) else -1) ∧ h' = h) := by
  refine CT.of (lv := [_, _]) (by decide +kernel) (Nat.le_of_ble_eq_true rfl) rfl ?_
  refine E_aload_n (pc := 0) 0 dX8_lowest_0 rfl rfl ?_
  refine E_iload_n (pc := 1) 1 dX8_lowest_1 rfl rfl ?_
  refine E_callV1 (pc := 2) dX8_lowest_2 C_X8_isWay rfl kv_RX8_139 rfl rfl rfl ⟨Nat.le_of_ble_eq_true rfl, Nat.le_of_ble_eq_true rfl, Nat.le_of_ble_eq_true rfl, Nat.le_of_ble_eq_true rfl⟩ (Nat.le_of_ble_eq_true rfl) ?_
  refine E_if_ne (pc := 5) 10 dX8_lowest_5 rfl (fun q5 => ?_) (fun q5 => ?_)
  · have hg : isM h w := Decidable.of_not_not (fun z => q5 (bi_0.mpr z))
    obtain ⟨k, T, hk, ew, hT1, hT8, hT, e1, e2⟩ := isM_nat hI hg
    rw [if_pos hg, e2, e1]
    clear hg q5 e1 e2
    subst ew
    refine E_aload_n (pc := 10) 0 dX8_lowest_10 rfl rfl ?_
    refine E_iload_n (pc := 11) 1 dX8_lowest_11 rfl rfl ?_
    refine E_callV1 (pc := 12) dX8_lowest_12 (C_X8_highOf hI.1 (hI.2.1 k (by omega)) hk hT hT1 hT8) rfl kv_RX8_187 rfl rfl rfl ⟨Nat.le_of_ble_eq_true rfl, Nat.le_of_ble_eq_true rfl, Nat.le_of_ble_eq_true rfl, Nat.le_of_ble_eq_true rfl⟩ (Nat.le_of_ble_eq_true rfl) ?_
    refine E_bipush (pc := 15) (-4) dX8_lowest_15 (by decide) ?_
    refine E_icmp_ne (pc := 17) 25 dX8_lowest_17 rfl (fun q17 => ?_) (fun q17 => ?_)
    · have hr : sLowest (h g_m_holds 0) (mN h k) T = (mlO (h g_m_holds 0) (mN h k) T).1 := by
        obtain ⟨ml1, ml2⟩ := ml_parts hI.1 (hI.2.1 k (by omega)) hT8
        by_cases hl : (lowF (sU (h g_m_holds 0) (mN h k)) T).1 < 0
        · rw [ml1 hl]; exact if_pos (Or.inl hl)
        · obtain ⟨j, p, hj, hp, a1, a2, a3, a4⟩ := ml2 hl
          unfold sLowest
          rw [if_neg (fun z => z.elim hl q17), a3, a1, ixN_nI (by omega), a2, show (4 : Int32) = nI 4 from rfl, pk_mul, nI_add]
      refine E_aload_n (pc := 25) 0 dX8_lowest_25 rfl rfl ?_
      refine E_iload_n (pc := 26) 1 dX8_lowest_26 rfl rfl ?_
      refine E_callV1 (pc := 27) dX8_lowest_27 (C_X8_lowestOf hI.1 (hI.2.1 k (by omega)) hk hT hT8) rfl kv_RX8_184 rfl rfl rfl ⟨Nat.le_of_ble_eq_true rfl, Nat.le_of_ble_eq_true rfl, Nat.le_of_ble_eq_true rfl, Nat.le_of_ble_eq_true rfl⟩ (Nat.le_of_ble_eq_true rfl) ?_
      refine E_iret (pc := 30) dX8_lowest_30 rfl ?_
      exact ⟨congrArg some hr.symm, rfl⟩
    · have hr : sLowest (h g_m_holds 0) (mN h k) T = -4 := if_pos (Or.inr q17)
      refine E_bipush (pc := 20) (-4) dX8_lowest_20 (by decide) ?_
      refine E_goto (pc := 22) 30 dX8_lowest_22 rfl ?_
      refine E_iret (pc := 30) dX8_lowest_30 rfl ?_
      exact ⟨congrArg some hr.symm, rfl⟩
  · have hg : ¬ isM h w := bi_0.mp q5
    rw [if_neg hg]
    refine E_iconst (pc := 8) (-1) dX8_lowest_8 (by decide) ?_
    refine E_iret (pc := 9) dX8_lowest_9 rfl ?_
    exact ⟨rfl, rfl⟩
theorem near_ex {V N : Nat → Int32} (h : RV V) (hN : RN N) {t : Nat} (ht : t ≤ 7) : ∀ p, p ≤ 4 → (sLU V N t p < 1000000 ↔ ∃ j, j < p ∧ sNear V (sPlace V N t j 0)) := by
  intro p
  induction p with
  | zero => exact fun _ => ⟨fun z => absurd z lt1M, fun ⟨j, hj, _⟩ => absurd hj (Nat.not_lt_zero j)⟩
  | succ p ih =>
    intro hp
    have e2 : sLU V N t (p + 1) = if sPlace V N t p 1 < sLU V N t p ∧ sNear V (sPlace V N t p 0) then sPlace V N t p 1 else sLU V N t p := rfl
    have hq : sPlace V N t p 1 < 1000000 := pl_lt h hN ht (by omega) (by decide)
    have ih := ih (by omega)
    rw [e2]
    by_cases hc : sPlace V N t p 1 < sLU V N t p ∧ sNear V (sPlace V N t p 0)
    · rw [if_pos hc]; exact ⟨fun _ => ⟨p, Nat.lt_succ_self p, hc.2⟩, fun _ => hq⟩
    · rw [if_neg hc, ih]
      refine ⟨fun ⟨j, hj, hz⟩ => ⟨j, Nat.lt_succ_of_lt hj, hz⟩, fun ⟨j, hj, hz⟩ => ?_⟩
      rcases Nat.lt_succ_iff_lt_or_eq.mp hj with hj | rfl
      · exact ⟨j, hj, hz⟩
      · have h1 : ¬ sPlace V N t j 1 < sLU V N t j := fun z => hc ⟨z, hz⟩
        exact ih.mp (Int32.lt_of_le_of_lt (Int32.not_lt.mp h1) hq)
theorem gtMid_far {V N : Nat → Int32} (h : RV V) : ∀ T, T ≤ 8 → (-1000000 ≤ gtMid V (sU V N) T ∧ (gtMid V (sU V N) T = -1000000 ↔ (lowF (sU V N) T).1 < 0)) := by
  intro T
  induction T with
  | zero => exact fun _ => ⟨Int32.le_refl _, fun _ => show (-1 : Int32) < 0 by decide, fun _ => rfl⟩
  | succ T ih =>
    intro hT
    obtain ⟨i1, i2⟩ := ih (by omega)
    have e2 : gtMid V (sU V N) (T + 1) = if sU V N T < 1000000 then maxI (gtMid V (sU V N) T) (tot V * sMid V (nI T) 1) else gtMid V (sU V N) T := rfl
    have e3 : lowF (sU V N) (T + 1) = if sU V N T < (lowF (sU V N) T).2 then (nI T, sU V N T) else lowF (sU V N) T := rfl
    have hm := tm_gt h (t := T) (by omega) 1
    rw [e2, e3]
    by_cases hc : sU V N T < 1000000
    · rw [if_pos hc]
      have h3 : -1000000 < maxI (gtMid V (sU V N) T) (tot V * sMid V (nI T) 1) := by
        unfold maxI
        by_cases hq : gtMid V (sU V N) T < tot V * sMid V (nI T) 1
        · rw [if_pos hq]; exact hm
        · rw [if_neg hq]; exact Int32.lt_of_lt_of_le hm (Int32.not_lt.mp hq)
      refine ⟨Int32.le_of_lt h3, fun z => absurd h3 (by rw [z]; exact Int32.lt_irrefl), fun z => ?_⟩
      exfalso
      by_cases hq : sU V N T < (lowF (sU V N) T).2
      · rw [if_pos hq] at z; exact nI_pos (n := T) (by omega) z
      · rw [if_neg hq] at z
        have h4 : (lowF (sU V N) T).2 < 1000000 := Int32.lt_of_le_of_lt (Int32.not_lt.mp hq) hc
        obtain ⟨j, hj, e, _⟩ := (lowF_far1 (sU V N) T (by omega)).1 h4
        rw [e] at z
        exact nI_pos (by omega) z
    · have hq : ¬ sU V N T < (lowF (sU V N) T).2 := fun z => hc (Int32.lt_of_lt_of_le z (lowF_le _ _))
      rw [if_neg hc, if_neg hq]
      exact ⟨i1, i2⟩
set_option maxHeartbeats 1600000 in
theorem C_X8_under {l : Launch} {G : GE} {h : Hp} {w : Int32} (hI : MK h) : CT l G mX8_under [vR g_model 0, vI w] h (fun r h' => r = some (if isM h w then sUnder (h g_m_holds 0) (mN h (ixN w)) (ixN (h g_m_tenths 0 (ixN w))) else -1000000) ∧ h' = h) := by
  refine CT.of (lv := [_, _, _, _, _, _]) (by decide +kernel) (Nat.le_of_ble_eq_true rfl) rfl ?_
  refine E_aload_n (pc := 0) 0 dX8_under_0 rfl rfl ?_
  refine E_iload_n (pc := 1) 1 dX8_under_1 rfl rfl ?_
  refine E_callV1 (pc := 2) dX8_under_2 C_X8_isWay rfl kv_RX8_139 rfl rfl rfl ⟨Nat.le_of_ble_eq_true rfl, Nat.le_of_ble_eq_true rfl, Nat.le_of_ble_eq_true rfl, Nat.le_of_ble_eq_true rfl⟩ (Nat.le_of_ble_eq_true rfl) ?_
  refine E_if_ne (pc := 5) 11 dX8_under_5 rfl (fun q5 => ?_) (fun q5 => ?_)
  · have hg : isM h w := Decidable.of_not_not (fun z => q5 (bi_0.mpr z))
    obtain ⟨k, T, hk, ew, hT1, hT8, hT, e1, e2⟩ := isM_nat hI hg
    rw [if_pos hg, e2, e1]
    clear hg q5 e1 e2
    subst ew
    refine E_ldc (pc := 11) (-1000000) dX8_under_11 kk_RX8_176 ?_
    refine E_istore_n (pc := 13) 2 dX8_under_13 rfl (Nat.le_of_ble_eq_true rfl) rfl (lz := [_, _, _, _, _, _]) rfl ?_
    refine E_iconst (pc := 14) (0) dX8_under_14 (by decide) ?_
    refine E_istore_n (pc := 15) 3 dX8_under_15 rfl (Nat.le_of_ble_eq_true rfl) rfl (lz := [_, _, _, _, _, _]) rfl ?_
    have hN := hI.2.1 k (by omega)
    refine down (P := fun t => Ev l G mX8_under _ 16 [some (vR g_model 0), some (vI (nI k)), some (vI (gtMid (h g_m_holds 0) (sU (h g_m_holds 0) (mN h k)) t)), some (vI (nI t)), none, none] [] h) T ?_ ?_ 0 (Nat.zero_le _)
    · refine E_iload_n (pc := 16) 3 dX8_under_16 rfl rfl ?_
      refine E_aload_n (pc := 17) 0 dX8_under_17 rfl rfl ?_
      refine E_getR0 (pc := 18) dX8_under_18 fl_RX8_37 rfl rfl ?_
      refine E_iload_n (pc := 21) 1 dX8_under_21 rfl rfl ?_
      refine E_iald (pc := 22) dX8_under_22 rfl (vp_in_nI (by omega) (by decide)) ?_
      refine E_top (y := nI T) (by rw [ixN_nI (by omega)]; exact hT) ?_
      refine E_icmp_ge (pc := 23) 99 dX8_under_23 rfl (fun q23 => ?_) (fun q23 => absurd (Int32.le_refl _) q23)
      refine E_aload_n (pc := 99) 0 dX8_under_99 rfl rfl ?_
      refine E_iload_n (pc := 100) 1 dX8_under_100 rfl rfl ?_
      refine E_callV1 (pc := 101) dX8_under_101 (C_X8_highOf hI.1 hN hk hT hT1 hT8) rfl kv_RX8_187 rfl rfl rfl ⟨Nat.le_of_ble_eq_true rfl, Nat.le_of_ble_eq_true rfl, Nat.le_of_ble_eq_true rfl, Nat.le_of_ble_eq_true rfl⟩ (Nat.le_of_ble_eq_true rfl) ?_
      refine E_istore_n (pc := 104) 3 dX8_under_104 rfl (Nat.le_of_ble_eq_true rfl) rfl (lz := [_, _, _, _, _, _]) rfl ?_
      refine E_iload_n (pc := 105) 3 dX8_under_105 rfl rfl ?_
      refine E_bipush (pc := 106) (-4) dX8_under_106 (by decide) ?_
      refine E_icmp_eq (pc := 108) 117 dX8_under_108 rfl (fun q108 => ?_) (fun q108 => ?_)
      · have hr : sUnder (h g_m_holds 0) (mN h k) T = -1000004 := if_pos (Or.inl q108)
        refine E_ldc (pc := 117) (-1000004) dX8_under_117 kk_RX8_190 ?_
        refine E_goto (pc := 119) 130 dX8_under_119 rfl ?_
        refine E_iret (pc := 130) dX8_under_130 rfl ?_
        exact ⟨congrArg some hr.symm, rfl⟩
      · refine E_iload_n (pc := 111) 2 dX8_under_111 rfl rfl ?_
        refine E_ldc (pc := 112) (-1000000) dX8_under_112 kk_RX8_176 ?_
        refine E_icmp_ne (pc := 114) 122 dX8_under_114 rfl (fun q114 => ?_) (fun q114 => ?_)
        · have hr : sUnder (h g_m_holds 0) (mN h k) T = gtMid (h g_m_holds 0) (sU (h g_m_holds 0) (mN h k)) T - tot (h g_m_holds 0) * sHigh (h g_m_holds 0) (mN h k) T := if_neg (fun z => z.elim q108 (fun y => q114 ((gtMid_far hI.1 T hT8).2.mpr y)))
          refine E_iload_n (pc := 122) 2 dX8_under_122 rfl rfl ?_
          refine E_aload_n (pc := 123) 0 dX8_under_123 rfl rfl ?_
          refine E_callV1 (pc := 124) dX8_under_124 C_X8_whole rfl kv_RX8_166 rfl rfl rfl ⟨Nat.le_of_ble_eq_true rfl, Nat.le_of_ble_eq_true rfl, Nat.le_of_ble_eq_true rfl, Nat.le_of_ble_eq_true rfl⟩ (Nat.le_of_ble_eq_true rfl) ?_
          refine E_iload_n (pc := 127) 3 dX8_under_127 rfl rfl ?_
          refine E_imul (pc := 128) dX8_under_128 ?_
          refine E_isub (pc := 129) dX8_under_129 ?_
          refine E_iret (pc := 130) dX8_under_130 rfl ?_
          exact ⟨congrArg some hr.symm, rfl⟩
        · have hr : sUnder (h g_m_holds 0) (mN h k) T = -1000004 := if_pos (Or.inr ((gtMid_far hI.1 T hT8).2.mp q114))
          refine E_ldc (pc := 117) (-1000004) dX8_under_117 kk_RX8_190 ?_
          refine E_goto (pc := 119) 130 dX8_under_119 rfl ?_
          refine E_iret (pc := 130) dX8_under_130 rfl ?_
          exact ⟨congrArg some hr.symm, rfl⟩
    · intro t ht hn
      refine E_iload_n (pc := 16) 3 dX8_under_16 rfl rfl ?_
      refine E_aload_n (pc := 17) 0 dX8_under_17 rfl rfl ?_
      refine E_getR0 (pc := 18) dX8_under_18 fl_RX8_37 rfl rfl ?_
      refine E_iload_n (pc := 21) 1 dX8_under_21 rfl rfl ?_
      refine E_iald (pc := 22) dX8_under_22 rfl (vp_in_nI (by omega) (by decide)) ?_
      refine E_top (y := nI T) (by rw [ixN_nI (by omega)]; exact hT) ?_
      refine E_icmp_ge (pc := 23) 99 dX8_under_23 rfl (fun q23 => absurd q23 (nI_ge ht (by omega))) (fun q23 => ?_)
      refine E_iconst (pc := 26) (0) dX8_under_26 (by decide) ?_
      refine E_istore (pc := 27) 4 dX8_under_27 (Nat.le_of_ble_eq_true rfl) rfl (lz := [_, _, _, _, _, _]) rfl ?_
      refine E_iconst (pc := 29) (0) dX8_under_29 (by decide) ?_
      refine E_istore (pc := 30) 5 dX8_under_30 (Nat.le_of_ble_eq_true rfl) rfl (lz := [_, _, _, _, _, _]) rfl ?_
      refine down (P := fun p => ∀ x : Int32, (x = 0 ∨ x = 1) → (x = 1 ↔ ∃ j, j < p ∧ sNear (h g_m_holds 0) (sPlace (h g_m_holds 0) (mN h k) t j 0)) → Ev l G mX8_under _ 32 [some (vR g_model 0), some (vI (nI k)), some (vI (gtMid (h g_m_holds 0) (sU (h g_m_holds 0) (mN h k)) t)), some (vI (nI t)), some (vI x), some (vI (nI p))] [] h) 4 ?_ ?_ 0 (Nat.zero_le _) 0 (Or.inl rfl) ⟨fun z => absurd z (by decide), fun ⟨j, hj, _⟩ => absurd hj (Nat.not_lt_zero j)⟩
      · intro x hx ho
        rw [← near_ex hI.1 hN (by omega) 4 (by decide)] at ho
        refine E_iload (pc := 32) 5 dX8_under_32 rfl ?_
        refine E_iconst (pc := 34) (4) dX8_under_34 (by decide) ?_
        refine E_icmp_ge (pc := 35) 67 dX8_under_35 rfl (fun q35 => ?_) (fun q35 => absurd (show (4 : Int32) ≤ 4 by decide) q35)
        refine E_iload (pc := 67) 4 dX8_under_67 rfl ?_
        refine E_if_eq (pc := 69) 91 dX8_under_69 rfl (fun q69 => ?_) (fun q69 => ?_)
        · have hl : gtMid (h g_m_holds 0) (sU (h g_m_holds 0) (mN h k)) (t + 1) = gtMid (h g_m_holds 0) (sU (h g_m_holds 0) (mN h k)) t := if_neg (fun z => absurd (ho.mpr z) (by rw [q69]; decide))
          refine E_iload_n (pc := 91) 2 dX8_under_91 rfl rfl ?_
          refine E_istore_n (pc := 92) 2 dX8_under_92 rfl (Nat.le_of_ble_eq_true rfl) rfl (lz := [_, _, _, _, _, _]) rfl ?_
          refine E_iincN (pc := 93) 3 dX8_under_93 (Nat.le_of_ble_eq_true rfl) rfl rfl (lz := [_, _, _, _, _, _]) rfl ?_
          refine E_goto (pc := 96) 16 dX8_under_96 rfl ?_
          refine E_drop 4 (E_drop 5 ?_)
          rw [hl] at hn
          exact hn
        · have hl1 : gtMid (h g_m_holds 0) (sU (h g_m_holds 0) (mN h k)) (t + 1) = maxI (gtMid (h g_m_holds 0) (sU (h g_m_holds 0) (mN h k)) t) (tot (h g_m_holds 0) * sMid (h g_m_holds 0) (nI t) 1) := if_pos (ho.mp (hx.resolve_left q69))
          refine E_aload_n (pc := 72) 0 dX8_under_72 rfl rfl ?_
          refine E_iload_n (pc := 73) 3 dX8_under_73 rfl rfl ?_
          refine E_iconst (pc := 74) (1) dX8_under_74 (by decide) ?_
          refine E_callV1 (pc := 75) dX8_under_75 C_X8_middle rfl kv_RX8_170 rfl rfl rfl ⟨Nat.le_of_ble_eq_true rfl, Nat.le_of_ble_eq_true rfl, Nat.le_of_ble_eq_true rfl, Nat.le_of_ble_eq_true rfl⟩ (Nat.le_of_ble_eq_true rfl) ?_
          refine E_iload_n (pc := 78) 2 dX8_under_78 rfl rfl ?_
          refine E_icmp_le (pc := 79) 91 dX8_under_79 rfl (fun q79 => ?_) (fun q79 => ?_)
          · have hl := hl1.trans (if_neg (Int32.not_lt.mpr q79))
            refine E_iload_n (pc := 91) 2 dX8_under_91 rfl rfl ?_
            refine E_istore_n (pc := 92) 2 dX8_under_92 rfl (Nat.le_of_ble_eq_true rfl) rfl (lz := [_, _, _, _, _, _]) rfl ?_
            refine E_iincN (pc := 93) 3 dX8_under_93 (Nat.le_of_ble_eq_true rfl) rfl rfl (lz := [_, _, _, _, _, _]) rfl ?_
            refine E_goto (pc := 96) 16 dX8_under_96 rfl ?_
            refine E_drop 4 (E_drop 5 ?_)
            rw [hl] at hn
            exact hn
          · have hl := hl1.trans (if_pos (Int32.not_le.mp q79))
            refine E_aload_n (pc := 82) 0 dX8_under_82 rfl rfl ?_
            refine E_iload_n (pc := 83) 3 dX8_under_83 rfl rfl ?_
            refine E_iconst (pc := 84) (1) dX8_under_84 (by decide) ?_
            refine E_callV1 (pc := 85) dX8_under_85 C_X8_middle rfl kv_RX8_170 rfl rfl rfl ⟨Nat.le_of_ble_eq_true rfl, Nat.le_of_ble_eq_true rfl, Nat.le_of_ble_eq_true rfl, Nat.le_of_ble_eq_true rfl⟩ (Nat.le_of_ble_eq_true rfl) ?_
            refine E_goto (pc := 88) 92 dX8_under_88 rfl ?_
            refine E_istore_n (pc := 92) 2 dX8_under_92 rfl (Nat.le_of_ble_eq_true rfl) rfl (lz := [_, _, _, _, _, _]) rfl ?_
            refine E_iincN (pc := 93) 3 dX8_under_93 (Nat.le_of_ble_eq_true rfl) rfl rfl (lz := [_, _, _, _, _, _]) rfl ?_
            refine E_goto (pc := 96) 16 dX8_under_96 rfl ?_
            refine E_drop 4 (E_drop 5 ?_)
            rw [hl] at hn
            exact hn
      · intro p hp hm x hx ho
        refine E_iload (pc := 32) 5 dX8_under_32 rfl ?_
        refine E_iconst (pc := 34) (4) dX8_under_34 (by decide) ?_
        refine E_icmp_ge (pc := 35) 67 dX8_under_35 rfl (fun q35 => absurd q35 (nI_ge (b := 4) hp (by decide))) (fun q35 => ?_)
        refine E_iload (pc := 38) 4 dX8_under_38 rfl ?_
        refine E_if_ne (pc := 40) 54 dX8_under_40 rfl (fun q40 => ?_) (fun q40 => ?_)
        · have hy : ∃ j, j < p + 1 ∧ sNear (h g_m_holds 0) (sPlace (h g_m_holds 0) (mN h k) t j 0) := (ho.mp (hx.resolve_left q40)).elim (fun j hj => ⟨j, Nat.lt_succ_of_lt hj.1, hj.2⟩)
          refine E_iconst (pc := 54) (1) dX8_under_54 (by decide) ?_
          refine E_goto (pc := 55) 59 dX8_under_55 rfl ?_
          refine E_istore (pc := 59) 4 dX8_under_59 (Nat.le_of_ble_eq_true rfl) rfl (lz := [_, _, _, _, _, _]) rfl ?_
          refine E_iincN (pc := 61) 5 dX8_under_61 (Nat.le_of_ble_eq_true rfl) rfl rfl (lz := [_, _, _, _, _, _]) rfl ?_
          refine E_goto (pc := 64) 32 dX8_under_64 rfl ?_
          first | exact hm 1 (Or.inr rfl) ⟨fun _ => hy, fun _ => rfl⟩ | exact hm 0 (Or.inl rfl) ⟨fun z => absurd z (by decide), fun z => absurd z hy⟩
        · refine E_aload_n (pc := 43) 0 dX8_under_43 rfl rfl ?_
          refine E_iload_n (pc := 44) 1 dX8_under_44 rfl rfl ?_
          refine E_iload_n (pc := 45) 3 dX8_under_45 rfl rfl ?_
          refine E_iload (pc := 46) 5 dX8_under_46 rfl ?_
          refine E_callV1 (pc := 48) dX8_under_48 (C_X8_isNear hI.1 hN hk (by omega) (by omega)) rfl kv_RX8_177 rfl rfl rfl ⟨Nat.le_of_ble_eq_true rfl, Nat.le_of_ble_eq_true rfl, Nat.le_of_ble_eq_true rfl, Nat.le_of_ble_eq_true rfl⟩ (Nat.le_of_ble_eq_true rfl) ?_
          refine E_if_eq (pc := 51) 58 dX8_under_51 rfl (fun q51 => ?_) (fun q51 => ?_)
          · have hy : ¬ ∃ j, j < p + 1 ∧ sNear (h g_m_holds 0) (sPlace (h g_m_holds 0) (mN h k) t j 0) := fun ⟨j, hj, hz⟩ => (Nat.lt_succ_iff_lt_or_eq.mp hj).elim (fun hj => absurd (ho.mpr ⟨j, hj, hz⟩) (by rw [q40]; decide)) (fun e => bi_0.mp q51 (e ▸ hz))
            refine E_iconst (pc := 58) (0) dX8_under_58 (by decide) ?_
            refine E_istore (pc := 59) 4 dX8_under_59 (Nat.le_of_ble_eq_true rfl) rfl (lz := [_, _, _, _, _, _]) rfl ?_
            refine E_iincN (pc := 61) 5 dX8_under_61 (Nat.le_of_ble_eq_true rfl) rfl rfl (lz := [_, _, _, _, _, _]) rfl ?_
            refine E_goto (pc := 64) 32 dX8_under_64 rfl ?_
            first | exact hm 1 (Or.inr rfl) ⟨fun _ => hy, fun _ => rfl⟩ | exact hm 0 (Or.inl rfl) ⟨fun z => absurd z (by decide), fun z => absurd z hy⟩
          · have hy : ∃ j, j < p + 1 ∧ sNear (h g_m_holds 0) (sPlace (h g_m_holds 0) (mN h k) t j 0) := ⟨p, Nat.lt_succ_self p, Decidable.of_not_not (fun z => q51 (bi_0.mpr z))⟩
            refine E_iconst (pc := 54) (1) dX8_under_54 (by decide) ?_
            refine E_goto (pc := 55) 59 dX8_under_55 rfl ?_
            refine E_istore (pc := 59) 4 dX8_under_59 (Nat.le_of_ble_eq_true rfl) rfl (lz := [_, _, _, _, _, _]) rfl ?_
            refine E_iincN (pc := 61) 5 dX8_under_61 (Nat.le_of_ble_eq_true rfl) rfl rfl (lz := [_, _, _, _, _, _]) rfl ?_
            refine E_goto (pc := 64) 32 dX8_under_64 rfl ?_
            first | exact hm 1 (Or.inr rfl) ⟨fun _ => hy, fun _ => rfl⟩ | exact hm 0 (Or.inl rfl) ⟨fun z => absurd z (by decide), fun z => absurd z hy⟩
  · have hg : ¬ isM h w := bi_0.mp q5
    rw [if_neg hg]
    refine E_ldc (pc := 8) (-1000000) dX8_under_8 kk_RX8_176 ?_
    refine E_iret (pc := 10) dX8_under_10 rfl ?_
    exact ⟨rfl, rfl⟩
