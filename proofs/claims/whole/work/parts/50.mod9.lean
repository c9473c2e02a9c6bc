/-! the model: barred, pits, worth -/
theorem bear_iff : ∀ i, i < 3 → ∀ j, j < 4 → ((nI i = 2 ∨ nI j = 3 ∨ nI i = 1 ∧ nI j = 2) ↔ (nI i = 2 ∨ 3 - nI i ≤ nI j)) := by decide +kernel
theorem bearM {N : Nat → Int32} {T i : Nat} (hi : i < 3) : (nI i = 2 ∨ landF N T 3 = 3 ∨ nI i = 1 ∧ landF N T 3 = 2) ↔ bearsA N T (nI i) := by
  obtain ⟨j, hj, e⟩ := landF_or N T 3
  unfold bearsA
  rw [e]
  exact bear_iff i hi j (by omega)
theorem RV_nat {V : Nat → Int32} (h : RV V) {i n : Nat} (hi : i < 18) (h0 : 0 ≤ tLEAST.getD i 0) (h1 : tMOST.getD i 0 = nI n) (hn : n < 2 ^ 31) : ∃ j, j ≤ n ∧ V i = nI j := natof n hn (Int32.le_trans h0 (h i hi).1) (h1 ▸ (h i hi).2)
theorem ex_bi {T : Nat} {P : Nat → Prop} [DecidablePred P] : (∃ t, t < T ∧ ¬ bi (P t) = 0) ↔ ∃ t, t < T ∧ P t :=
  ⟨fun ⟨t, h1, h2⟩ => ⟨t, h1, Decidable.of_not_not (fun z => h2 (bi_0.mpr z))⟩, fun ⟨t, h1, h2⟩ => ⟨t, h1, fun z => bi_0.mp z h2⟩⟩
set_option maxHeartbeats 1600000 in
theorem C_X8_barredBy {l : Launch} {G : GE} {h : Hp} {w T : Nat} {F : Int32} (hV : RV (h g_m_holds 0)) (hw : w ≤ 5) (hT : h g_m_tenths 0 w = nI T) (hT1 : 1 ≤ T) (hT8 : T ≤ 8) : CT l G mX8_barredBy [vR g_model 0, vI (nI w), vI F] h (fun r h' => r = some (sWhy (h g_m_holds 0) (mN h w) T F) ∧ h' = h) := by
  refine CT.of (lv := [_, _, _]) (by decide +kernel) (Nat.le_of_ble_eq_true rfl) rfl ?_
  obtain ⟨pit, hpit, epit⟩ := RV_nat hV (i := 15) (n := 2) (by decide) (by decide) (by decide) (by decide)
  refine E_aload_n (pc := 0) 0 dX8_barredBy_0 rfl rfl ?_
  refine E_iload_n (pc := 1) 1 dX8_barredBy_1 rfl rfl ?_
  refine E_callV1 (pc := 2) dX8_barredBy_2 (C_X8_isBent hw hT hT8) rfl kv_RX8_197 rfl rfl rfl ⟨Nat.le_of_ble_eq_true rfl, Nat.le_of_ble_eq_true rfl, Nat.le_of_ble_eq_true rfl, Nat.le_of_ble_eq_true rfl⟩ (Nat.le_of_ble_eq_true rfl) ?_
  refine E_if_eq (pc := 5) 12 dX8_barredBy_5 rfl (fun q5 => ?_) (fun q5 => ?_)
  · have c1 := mt ex_bi.mp (bi_0.mp q5)
    refine E_aload_n (pc := 12) 0 dX8_barredBy_12 rfl rfl ?_
    refine E_iload_n (pc := 13) 1 dX8_barredBy_13 rfl rfl ?_
    refine E_callV1 (pc := 14) dX8_barredBy_14 (C_X8_isQuick hw hT hT1 hT8) rfl kv_RX8_200 rfl rfl rfl ⟨Nat.le_of_ble_eq_true rfl, Nat.le_of_ble_eq_true rfl, Nat.le_of_ble_eq_true rfl, Nat.le_of_ble_eq_true rfl⟩ (Nat.le_of_ble_eq_true rfl) ?_
    refine E_if_eq (pc := 17) 24 dX8_barredBy_17 rfl (fun q17 => ?_) (fun q17 => ?_)
    · have c2 := mt ex_bi.mp (bi_0.mp q17)
      refine E_iload_n (pc := 24) 2 dX8_barredBy_24 rfl rfl ?_
      refine E_aload_n (pc := 25) 0 dX8_barredBy_25 rfl rfl ?_
      refine E_getR0 (pc := 26) dX8_barredBy_26 fl_RX8_28 rfl rfl ?_
      refine E_bipush (pc := 29) (14) dX8_barredBy_29 (by decide) ?_
      refine E_iald (pc := 31) dX8_barredBy_31 rfl (by unfold vp_in; decide) ?_
      refine E_top (y := h g_m_holds 0 14) rfl ?_
      refine E_icmp_le (pc := 32) 39 dX8_barredBy_32 rfl (fun q32 => ?_) (fun q32 => ?_)
      · have hr0 : sWhy (h g_m_holds 0) (mN h w) T F = if bearsA (mN h w) T (h g_m_holds 0 15) then 0 else 4 := (if_neg c1).trans ((if_neg c2).trans (if_neg (Int32.not_lt.mpr q32)))
        rw [epit] at hr0
        refine E_aload_n (pc := 39) 0 dX8_barredBy_39 rfl rfl ?_
        refine E_getR0 (pc := 40) dX8_barredBy_40 fl_RX8_28 rfl rfl ?_
        refine E_bipush (pc := 43) (15) dX8_barredBy_43 (by decide) ?_
        refine E_iald (pc := 45) dX8_barredBy_45 rfl (by unfold vp_in; decide) ?_
        refine E_top (y := nI pit) epit ?_
        refine E_aload_n (pc := 46) 0 dX8_barredBy_46 rfl rfl ?_
        refine E_iload_n (pc := 47) 1 dX8_barredBy_47 rfl rfl ?_
        refine E_callV1 (pc := 48) dX8_barredBy_48 (C_X8_landsOn hw hT hT1 hT8) rfl kv_RX8_203 rfl rfl rfl ⟨Nat.le_of_ble_eq_true rfl, Nat.le_of_ble_eq_true rfl, Nat.le_of_ble_eq_true rfl, Nat.le_of_ble_eq_true rfl⟩ (Nat.le_of_ble_eq_true rfl) ?_
        refine E_callS1 (pc := 51) dX8_barredBy_51 C_X8_doesBear rfl ks_RX8_206 rfl ⟨Nat.le_of_ble_eq_true rfl, Nat.le_of_ble_eq_true rfl, Nat.le_of_ble_eq_true rfl, Nat.le_of_ble_eq_true rfl⟩ (Nat.le_of_ble_eq_true rfl) ?_
        refine E_if_eq (pc := 54) 61 dX8_barredBy_54 rfl (fun q54 => ?_) (fun q54 => ?_)
        · have hr := hr0.trans (if_neg (fun z => bi_0.mp q54 ((bearM (by omega)).mpr z)))
          refine E_iconst (pc := 61) (4) dX8_barredBy_61 (by decide) ?_
          refine E_iret (pc := 62) dX8_barredBy_62 rfl ?_
          exact ⟨congrArg some hr.symm, rfl⟩
        · have hr := hr0.trans (if_pos ((bearM (by omega)).mp (Decidable.of_not_not (fun z => q54 (bi_0.mpr z)))))
          refine E_iconst (pc := 57) (0) dX8_barredBy_57 (by decide) ?_
          refine E_goto (pc := 58) 62 dX8_barredBy_58 rfl ?_
          refine E_iret (pc := 62) dX8_barredBy_62 rfl ?_
          exact ⟨congrArg some hr.symm, rfl⟩
      · have hr : sWhy (h g_m_holds 0) (mN h w) T F = 3 := (if_neg c1).trans ((if_neg c2).trans (if_pos (Int32.not_le.mp q32)))
        refine E_iconst (pc := 35) (3) dX8_barredBy_35 (by decide) ?_
        refine E_goto (pc := 36) 62 dX8_barredBy_36 rfl ?_
        refine E_iret (pc := 62) dX8_barredBy_62 rfl ?_
        exact ⟨congrArg some hr.symm, rfl⟩
    · have c2 := ex_bi.mpr (Decidable.of_not_not (fun z => q17 (bi_0.mpr z)))
      have hr : sWhy (h g_m_holds 0) (mN h w) T F = 2 := (if_neg c1).trans (if_pos c2)
      refine E_iconst (pc := 20) (2) dX8_barredBy_20 (by decide) ?_
      refine E_goto (pc := 21) 62 dX8_barredBy_21 rfl ?_
      refine E_iret (pc := 62) dX8_barredBy_62 rfl ?_
      exact ⟨congrArg some hr.symm, rfl⟩
  · have c1 := ex_bi.mpr (Decidable.of_not_not (fun z => q5 (bi_0.mpr z)))
    have hr : sWhy (h g_m_holds 0) (mN h w) T F = 1 := if_pos c1
    refine E_iconst (pc := 8) (1) dX8_barredBy_8 (by decide) ?_
    refine E_goto (pc := 9) 62 dX8_barredBy_9 rfl ?_
    refine E_iret (pc := 62) dX8_barredBy_62 rfl ?_
    exact ⟨congrArg some hr.symm, rfl⟩
set_option maxHeartbeats 1600000 in
theorem C_X8_barred {l : Launch} {G : GE} {h : Hp} {w : Int32} (hI : MK h) : CT l G mX8_barred [vR g_model 0, vI w] h (fun r h' => r = some (if isM h w then sWhy (h g_m_holds 0) (mN h (ixN w)) (ixN (h g_m_tenths 0 (ixN w))) (h g_m_feet 0 (ixN w)) else -1) ∧ h' = h) := by
  refine CT.of (lv := [_, _]) (by decide +kernel) (Nat.le_of_ble_eq_true rfl) rfl ?_
  refine E_aload_n (pc := 0) 0 dX8_barred_0 rfl rfl ?_
  refine E_iload_n (pc := 1) 1 dX8_barred_1 rfl rfl ?_
  refine E_callV1 (pc := 2) dX8_barred_2 C_X8_isWay rfl kv_RX8_139 rfl rfl rfl ⟨Nat.le_of_ble_eq_true rfl, Nat.le_of_ble_eq_true rfl, Nat.le_of_ble_eq_true rfl, Nat.le_of_ble_eq_true rfl⟩ (Nat.le_of_ble_eq_true rfl) ?_
  refine E_if_eq (pc := 5) 22 dX8_barred_5 rfl (fun q5 => ?_) (fun q5 => ?_)
  · have hg : ¬ isM h w := bi_0.mp q5
    rw [if_neg hg]
    refine E_iconst (pc := 22) (-1) dX8_barred_22 (by decide) ?_
    refine E_iret (pc := 23) dX8_barred_23 rfl ?_
    exact ⟨rfl, rfl⟩
  · have hg : isM h w := Decidable.of_not_not (fun z => q5 (bi_0.mpr z))
    obtain ⟨k, T, hk, ew, hT1, hT8, hT, e1, e2⟩ := isM_nat hI hg
    rw [if_pos hg, e2, e1]
    clear hg q5 e1 e2
    subst ew
    refine E_aload_n (pc := 8) 0 dX8_barred_8 rfl rfl ?_
    refine E_iload_n (pc := 9) 1 dX8_barred_9 rfl rfl ?_
    refine E_aload_n (pc := 10) 0 dX8_barred_10 rfl rfl ?_
    refine E_getR0 (pc := 11) dX8_barred_11 fl_RX8_40 rfl rfl ?_
    refine E_iload_n (pc := 14) 1 dX8_barred_14 rfl rfl ?_
    refine E_iald (pc := 15) dX8_barred_15 rfl (vp_in_nI (by omega) (by decide)) ?_
    refine E_top (y := h g_m_feet 0 k) (by rw [ixN_nI (by omega)]) ?_
    refine E_callV1 (pc := 16) dX8_barred_16 (C_X8_barredBy hI.1 hk hT hT1 hT8) rfl kv_RX8_209 rfl rfl rfl ⟨Nat.le_of_ble_eq_true rfl, Nat.le_of_ble_eq_true rfl, Nat.le_of_ble_eq_true rfl, Nat.le_of_ble_eq_true rfl⟩ (Nat.le_of_ble_eq_true rfl) ?_
    refine E_goto (pc := 19) 23 dX8_barred_19 rfl ?_
    refine E_iret (pc := 23) dX8_barred_23 rfl ?_
    exact ⟨rfl, rfl⟩
set_option maxHeartbeats 1600000 in
theorem C_X8_pits {l : Launch} {G : GE} {h : Hp} {w : Int32} (hI : MK h) : CT l G mX8_pits [vR g_model 0, vI w] h (fun r h' => r = some (if isM h w then ptF (mN h (ixN w)) (ixN (h g_m_tenths 0 (ixN w))) 3 else -1) ∧ h' = h) := by
  refine CT.of (lv := [_, _, _, _]) (by decide +kernel) (Nat.le_of_ble_eq_true rfl) rfl ?_
  refine E_aload_n (pc := 0) 0 dX8_pits_0 rfl rfl ?_
  refine E_iload_n (pc := 1) 1 dX8_pits_1 rfl rfl ?_
  refine E_callV1 (pc := 2) dX8_pits_2 C_X8_isWay rfl kv_RX8_139 rfl rfl rfl ⟨Nat.le_of_ble_eq_true rfl, Nat.le_of_ble_eq_true rfl, Nat.le_of_ble_eq_true rfl, Nat.le_of_ble_eq_true rfl⟩ (Nat.le_of_ble_eq_true rfl) ?_
  refine E_if_ne (pc := 5) 10 dX8_pits_5 rfl (fun q5 => ?_) (fun q5 => ?_)
  · have hg : isM h w := Decidable.of_not_not (fun z => q5 (bi_0.mpr z))
    obtain ⟨k, T, hk, ew, hT1, hT8, hT, e1, e2⟩ := isM_nat hI hg
    rw [if_pos hg, e2, e1]
    clear hg q5 e1 e2
    subst ew
    refine E_iconst (pc := 10) (0) dX8_pits_10 (by decide) ?_
    refine E_istore_n (pc := 11) 2 dX8_pits_11 rfl (Nat.le_of_ble_eq_true rfl) rfl (lz := [_, _, _, _]) rfl ?_
    refine E_iconst (pc := 12) (0) dX8_pits_12 (by decide) ?_
    refine E_istore_n (pc := 13) 3 dX8_pits_13 rfl (Nat.le_of_ble_eq_true rfl) rfl (lz := [_, _, _, _]) rfl ?_
    refine down (P := fun i => Ev l G mX8_pits _ 14 [some (vR g_model 0), some (vI (nI k)), some (vI (ptF (mN h k) T i)), some (vI (nI i))] [] h) 3 ?_ ?_ 0 (Nat.zero_le _)
    · refine E_iload_n (pc := 14) 3 dX8_pits_14 rfl rfl ?_
      refine E_iconst (pc := 15) (3) dX8_pits_15 (by decide) ?_
      refine E_icmp_ge (pc := 16) 47 dX8_pits_16 rfl (fun q16 => ?_) (fun q16 => absurd (show (3 : Int32) ≤ 3 by decide) q16)
      refine E_iload_n (pc := 47) 2 dX8_pits_47 rfl rfl ?_
      refine E_iret (pc := 48) dX8_pits_48 rfl ?_
      exact ⟨rfl, rfl⟩
    · intro i hi hn
      refine E_iload_n (pc := 14) 3 dX8_pits_14 rfl rfl ?_
      refine E_iconst (pc := 15) (3) dX8_pits_15 (by decide) ?_
      refine E_icmp_ge (pc := 16) 47 dX8_pits_16 rfl (fun q16 => absurd q16 (nI_ge (b := 3) hi (by decide))) (fun q16 => ?_)
      refine E_iload_n (pc := 19) 2 dX8_pits_19 rfl rfl ?_
      refine E_iload_n (pc := 20) 3 dX8_pits_20 rfl rfl ?_
      refine E_aload_n (pc := 21) 0 dX8_pits_21 rfl rfl ?_
      refine E_iload_n (pc := 22) 1 dX8_pits_22 rfl rfl ?_
      refine E_callV1 (pc := 23) dX8_pits_23 (C_X8_landsOn hk hT hT1 hT8) rfl kv_RX8_203 rfl rfl rfl ⟨Nat.le_of_ble_eq_true rfl, Nat.le_of_ble_eq_true rfl, Nat.le_of_ble_eq_true rfl, Nat.le_of_ble_eq_true rfl⟩ (Nat.le_of_ble_eq_true rfl) ?_
      refine E_callS1 (pc := 26) dX8_pits_26 C_X8_doesBear rfl ks_RX8_206 rfl ⟨Nat.le_of_ble_eq_true rfl, Nat.le_of_ble_eq_true rfl, Nat.le_of_ble_eq_true rfl, Nat.le_of_ble_eq_true rfl⟩ (Nat.le_of_ble_eq_true rfl) ?_
      refine E_if_eq (pc := 29) 38 dX8_pits_29 rfl (fun q29 => ?_) (fun q29 => ?_)
      · have hl : ptF (mN h k) T (i + 1) = ptF (mN h k) T i := if_neg (fun z => bi_0.mp q29 ((bearM hi).mpr z))
        refine E_iconst (pc := 38) (0) dX8_pits_38 (by decide) ?_
        refine E_ior (pc := 39) dX8_pits_39 ?_
        refine E_top (y := ptF (mN h k) T (i + 1)) (by rw [hl]; first | done | exact Int32.or_zero) ?_
        refine E_istore_n (pc := 40) 2 dX8_pits_40 rfl (Nat.le_of_ble_eq_true rfl) rfl (lz := [_, _, _, _]) rfl ?_
        refine E_iincN (pc := 41) 3 dX8_pits_41 (Nat.le_of_ble_eq_true rfl) rfl rfl (lz := [_, _, _, _]) rfl ?_
        refine E_goto (pc := 44) 14 dX8_pits_44 rfl ?_
        exact hn
      · have hl : ptF (mN h k) T (i + 1) = ptF (mN h k) T i ||| (1 <<< (nI i &&& 31)) := if_pos ((bearM hi).mp (Decidable.of_not_not (fun z => q29 (bi_0.mpr z))))
        refine E_iconst (pc := 32) (1) dX8_pits_32 (by decide) ?_
        refine E_iload_n (pc := 33) 3 dX8_pits_33 rfl rfl ?_
        refine E_ishl (pc := 34) dX8_pits_34 ?_
        refine E_goto (pc := 35) 39 dX8_pits_35 rfl ?_
        refine E_ior (pc := 39) dX8_pits_39 ?_
        refine E_top (y := ptF (mN h k) T (i + 1)) (by rw [hl]; first | done | exact Int32.or_zero) ?_
        refine E_istore_n (pc := 40) 2 dX8_pits_40 rfl (Nat.le_of_ble_eq_true rfl) rfl (lz := [_, _, _, _]) rfl ?_
        refine E_iincN (pc := 41) 3 dX8_pits_41 (Nat.le_of_ble_eq_true rfl) rfl rfl (lz := [_, _, _, _]) rfl ?_
        refine E_goto (pc := 44) 14 dX8_pits_44 rfl ?_
        exact hn
  · have hg : ¬ isM h w := bi_0.mp q5
    rw [if_neg hg]
    refine E_iconst (pc := 8) (-1) dX8_pits_8 (by decide) ?_
    refine E_iret (pc := 9) dX8_pits_9 rfl ?_
    exact ⟨rfl, rfl⟩
set_option maxHeartbeats 1600000 in
theorem C_X8_worthOf {l : Launch} {G : GE} {h : Hp} {w T : Nat} {F : Int32} (hV : RV (h g_m_holds 0)) (hN : RN (mN h w)) (hw : w ≤ 5) (hT : h g_m_tenths 0 w = nI T) (hT1 : 1 ≤ T) (hT8 : T ≤ 8) : CT l G mX8_worthOf [vR g_model 0, vI (nI w), vI F] h (fun r h' => r = some (sWorth (h g_m_holds 0) (mN h w) T F) ∧ h' = h) := by
  refine CT.of (lv := [_, _, _, _]) (by decide +kernel) (Nat.le_of_ble_eq_true rfl) rfl ?_
  refine E_aload_n (pc := 0) 0 dX8_worthOf_0 rfl rfl ?_
  refine E_iload_n (pc := 1) 1 dX8_worthOf_1 rfl rfl ?_
  refine E_iload_n (pc := 2) 2 dX8_worthOf_2 rfl rfl ?_
  refine E_callV1 (pc := 3) dX8_worthOf_3 (C_X8_barredBy hV hw hT hT1 hT8) rfl kv_RX8_209 rfl rfl rfl ⟨Nat.le_of_ble_eq_true rfl, Nat.le_of_ble_eq_true rfl, Nat.le_of_ble_eq_true rfl, Nat.le_of_ble_eq_true rfl⟩ (Nat.le_of_ble_eq_true rfl) ?_
  refine E_if_ne (pc := 6) 17 dX8_worthOf_6 rfl (fun q6 => ?_) (fun q6 => ?_)
  · have hr0 : sWorth (h g_m_holds 0) (mN h w) T F = -1 := if_neg q6
    refine E_bipush (pc := 17) (-4) dX8_worthOf_17 (by decide) ?_
    refine E_istore_n (pc := 19) 3 dX8_worthOf_19 rfl (Nat.le_of_ble_eq_true rfl) rfl (lz := [_, _, _, _]) rfl ?_
    refine E_iload_n (pc := 20) 3 dX8_worthOf_20 rfl rfl ?_
    refine E_bipush (pc := 21) (-4) dX8_worthOf_21 (by decide) ?_
    refine E_icmp_ne (pc := 23) 30 dX8_worthOf_23 rfl (fun q23 => absurd rfl q23) (fun q23 => ?_)
    refine E_iconst (pc := 26) (-1) dX8_worthOf_26 (by decide) ?_
    refine E_goto (pc := 27) 31 dX8_worthOf_27 rfl ?_
    refine E_iret (pc := 31) dX8_worthOf_31 rfl ?_
    exact ⟨congrArg some hr0.symm, rfl⟩
  · have hr0 : sWorth (h g_m_holds 0) (mN h w) T F = if sHigh (h g_m_holds 0) (mN h w) T = -4 then -1 else sHigh (h g_m_holds 0) (mN h w) T := if_pos q6
    refine E_aload_n (pc := 9) 0 dX8_worthOf_9 rfl rfl ?_
    refine E_iload_n (pc := 10) 1 dX8_worthOf_10 rfl rfl ?_
    refine E_callV1 (pc := 11) dX8_worthOf_11 (C_X8_highOf hV hN hw hT hT1 hT8) rfl kv_RX8_187 rfl rfl rfl ⟨Nat.le_of_ble_eq_true rfl, Nat.le_of_ble_eq_true rfl, Nat.le_of_ble_eq_true rfl, Nat.le_of_ble_eq_true rfl⟩ (Nat.le_of_ble_eq_true rfl) ?_
    refine E_goto (pc := 14) 19 dX8_worthOf_14 rfl ?_
    refine E_istore_n (pc := 19) 3 dX8_worthOf_19 rfl (Nat.le_of_ble_eq_true rfl) rfl (lz := [_, _, _, _]) rfl ?_
    refine E_iload_n (pc := 20) 3 dX8_worthOf_20 rfl rfl ?_
    refine E_bipush (pc := 21) (-4) dX8_worthOf_21 (by decide) ?_
    refine E_icmp_ne (pc := 23) 30 dX8_worthOf_23 rfl (fun q23 => ?_) (fun q23 => ?_)
    · have hr := hr0.trans (if_neg q23)
      refine E_iload_n (pc := 30) 3 dX8_worthOf_30 rfl rfl ?_
      refine E_iret (pc := 31) dX8_worthOf_31 rfl ?_
      exact ⟨congrArg some hr.symm, rfl⟩
    · have hr := hr0.trans (if_pos q23)
      refine E_iconst (pc := 26) (-1) dX8_worthOf_26 (by decide) ?_
      refine E_goto (pc := 27) 31 dX8_worthOf_27 rfl ?_
      refine E_iret (pc := 31) dX8_worthOf_31 rfl ?_
      exact ⟨congrArg some hr.symm, rfl⟩
/-- the worth of way k, or -1 -/
def mv (h : Hp) (k : Nat) : Int32 := if 0 < h g_m_tenths 0 k then sWorth (h g_m_holds 0) (mN h k) (ixN (h g_m_tenths 0 k)) (h g_m_feet 0 k) else -1
set_option maxHeartbeats 1600000 in
theorem C_X8_worthOrNone {l : Launch} {G : GE} {h : Hp} {k : Nat} (hI : MK h) (hk : k ≤ 5) : CT l G mX8_worthOrNone [vR g_model 0, vI (nI k)] h (fun r h' => r = some (mv h k) ∧ h' = h) := by
  refine CT.of (lv := [_, _]) (by decide +kernel) (Nat.le_of_ble_eq_true rfl) rfl ?_
  have e1 : ixN (nI k) = k := ixN_nI (by omega)
  refine E_aload_n (pc := 0) 0 dX8_worthOrNone_0 rfl rfl ?_
  refine E_iload_n (pc := 1) 1 dX8_worthOrNone_1 rfl rfl ?_
  refine E_callV1 (pc := 2) dX8_worthOrNone_2 C_X8_isWay rfl kv_RX8_139 rfl rfl rfl ⟨Nat.le_of_ble_eq_true rfl, Nat.le_of_ble_eq_true rfl, Nat.le_of_ble_eq_true rfl, Nat.le_of_ble_eq_true rfl⟩ (Nat.le_of_ble_eq_true rfl) ?_
  refine E_if_eq (pc := 5) 22 dX8_worthOrNone_5 rfl (fun q5 => ?_) (fun q5 => ?_)
  · have hg : ¬ 0 < h g_m_tenths 0 k := fun z => bi_0.mp q5 ⟨⟨nI_pos' (by omega), nI_le (b := 5) (by omega) (by decide)⟩, by rw [e1]; exact z⟩
    have hr : mv h k = -1 := if_neg hg
    refine E_iconst (pc := 22) (-1) dX8_worthOrNone_22 (by decide) ?_
    refine E_iret (pc := 23) dX8_worthOrNone_23 rfl ?_
    exact ⟨congrArg some hr.symm, rfl⟩
  · have hg : isM h (nI k) := Decidable.of_not_not (fun z => q5 (bi_0.mpr z))
    obtain ⟨k', T, hk', ew, hT1, hT8, hT, e3, e2⟩ := isM_nat hI hg
    rw [e1] at e3
    subst e3
    rw [e1] at e2
    have hr : mv h k = sWorth (h g_m_holds 0) (mN h k) T (h g_m_feet 0 k) := by unfold mv; rw [if_pos (by have := hg.2; rw [e1] at this; exact this), e2]
    refine E_aload_n (pc := 8) 0 dX8_worthOrNone_8 rfl rfl ?_
    refine E_iload_n (pc := 9) 1 dX8_worthOrNone_9 rfl rfl ?_
    refine E_aload_n (pc := 10) 0 dX8_worthOrNone_10 rfl rfl ?_
    refine E_getR0 (pc := 11) dX8_worthOrNone_11 fl_RX8_40 rfl rfl ?_
    refine E_iload_n (pc := 14) 1 dX8_worthOrNone_14 rfl rfl ?_
    refine E_iald (pc := 15) dX8_worthOrNone_15 rfl (vp_in_nI (by omega) (by decide)) ?_
    refine E_top (y := h g_m_feet 0 k) (by rw [e1]) ?_
    refine E_callV1 (pc := 16) dX8_worthOrNone_16 (C_X8_worthOf hI.1 (hI.2.1 k (by omega)) hk hT hT1 hT8) rfl kv_RX8_212 rfl rfl rfl ⟨Nat.le_of_ble_eq_true rfl, Nat.le_of_ble_eq_true rfl, Nat.le_of_ble_eq_true rfl, Nat.le_of_ble_eq_true rfl⟩ (Nat.le_of_ble_eq_true rfl) ?_
    refine E_goto (pc := 19) 23 dX8_worthOrNone_19 rfl ?_
    refine E_iret (pc := 23) dX8_worthOrNone_23 rfl ?_
    exact ⟨congrArg some hr.symm, rfl⟩
