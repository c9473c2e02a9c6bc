/-! the model: copy, ring, sheets, place -/
theorem fed_at {by' : Nat → Int32} {h : Hp} {t L i j : Nat} (hj : ¬ (L ≤ j ∧ j < L + i)) : fed by' h t L i t 0 j = h t 0 j := by
  unfold fed
  rw [hsetA_arr, if_neg hj]
theorem fed_in {by' : Nat → Int32} {h : Hp} {t L i j : Nat} (hj : j < i) : fed by' h t L i t 0 (L + j) = by' j := by
  unfold fed
  rw [hsetA_arr, if_pos (by omega), Nat.add_sub_cancel_left]
set_option maxHeartbeats 1600000 in
theorem C_X8_copy {l : Launch} {G : GE} {h : Hp} {w z : Int32} : CT l G mX8_copy [vR g_model 0, vI w, vI z] h (fun r h' => r = some (if ((0 ≤ w ∧ w ≤ 5) ∧ 0 < h g_m_tenths 0 (ixN w)) ∧ 0 ≤ z ∧ z ≤ 5 then 1 else -1) ∧ h' = if ((0 ≤ w ∧ w ≤ 5) ∧ 0 < h g_m_tenths 0 (ixN w)) ∧ 0 ≤ z ∧ z ≤ 5 then hset (hset (fed (mN h (ixN w)) h g_m_numbers (64 * ixN z) 64) g_m_tenths 0 (ixN z) (h g_m_tenths 0 (ixN w))) g_m_feet 0 (ixN z) (h g_m_feet 0 (ixN w)) else h) := by
  refine CT.of (lv := [_, _, _, _]) (by decide +kernel) (Nat.le_of_ble_eq_true rfl) rfl ?_
  refine E_aload_n (pc := 0) 0 dX8_copy_0 rfl rfl ?_
  refine E_iload_n (pc := 1) 1 dX8_copy_1 rfl rfl ?_
  refine E_callV1 (pc := 2) dX8_copy_2 C_X8_isWay rfl kv_RX8_139 rfl rfl rfl ⟨Nat.le_of_ble_eq_true rfl, Nat.le_of_ble_eq_true rfl, Nat.le_of_ble_eq_true rfl, Nat.le_of_ble_eq_true rfl⟩ (Nat.le_of_ble_eq_true rfl) ?_
  refine E_if_eq (pc := 5) 15 dX8_copy_5 rfl (fun q5 => ?_) (fun q5 => ?_)
  · refine E_iconst (pc := 15) (-1) dX8_copy_15 (by decide) ?_
    refine E_iret (pc := 16) dX8_copy_16 rfl ?_
    exact ⟨by grind [bi], by grind [bi]⟩
  · refine E_iload_n (pc := 8) 2 dX8_copy_8 rfl rfl ?_
    refine E_callS1 (pc := 9) dX8_copy_9 C_X8_isNumber rfl ks_RX8_135 rfl ⟨Nat.le_of_ble_eq_true rfl, Nat.le_of_ble_eq_true rfl, Nat.le_of_ble_eq_true rfl, Nat.le_of_ble_eq_true rfl⟩ (Nat.le_of_ble_eq_true rfl) ?_
    refine E_if_ne (pc := 12) 17 dX8_copy_12 rfl (fun q12 => ?_) (fun q12 => ?_)
    · have hg : ((0 ≤ w ∧ w ≤ 5) ∧ 0 < h g_m_tenths 0 (ixN w)) ∧ 0 ≤ z ∧ z ≤ 5 := by grind [bi]
      obtain ⟨w', hw', ew⟩ := natq (x := w) 5 5 rfl (by decide) hg.1.1.1 hg.1.1.2
      obtain ⟨z', hz', ez⟩ := natq (x := z) 5 5 rfl (by decide) hg.2.1 hg.2.2
      rw [if_pos hg, if_pos hg]
      clear hg
      subst ew
      subst ez
      rw [ixN_nI (n := w') (by omega), ixN_nI (n := z') (by omega)]
      refine E_iconst (pc := 17) (0) dX8_copy_17 (by decide) ?_
      refine E_istore_n (pc := 18) 3 dX8_copy_18 rfl (Nat.le_of_ble_eq_true rfl) rfl (lz := [_, _, _, _]) rfl ?_
      refine E_heq (fed_0 (mN h w') h g_m_numbers (64 * z')).symm ?_
      refine down (P := fun i => Ev l G mX8_copy _ 19 [some (vR g_model 0), some (vI (nI w')), some (vI (nI z')), some (vI (nI i))] [] (fed (mN h w') h g_m_numbers (64 * z') i)) 64 ?_ ?_ 0 (Nat.zero_le _)
      · refine E_iload_n (pc := 19) 3 dX8_copy_19 rfl rfl ?_
        refine E_bipush (pc := 20) (64) dX8_copy_20 (by decide) ?_
        refine E_icmp_ge (pc := 22) 53 dX8_copy_22 rfl (fun q22 => ?_) (fun q22 => absurd (show (64 : Int32) ≤ 64 by decide) q22)
        refine E_aload_n (pc := 53) 0 dX8_copy_53 rfl rfl ?_
        refine E_getR0 (pc := 54) dX8_copy_54 fl_RX8_37 rfl rfl ?_
        refine E_iload_n (pc := 57) 2 dX8_copy_57 rfl rfl ?_
        refine E_aload_n (pc := 58) 0 dX8_copy_58 rfl rfl ?_
        refine E_getR0 (pc := 59) dX8_copy_59 fl_RX8_37 rfl rfl ?_
        refine E_iload_n (pc := 62) 1 dX8_copy_62 rfl rfl ?_
        refine E_iald (pc := 63) dX8_copy_63 rfl (vp_in_nI (by omega) (by decide)) ?_
        refine E_top (y := h g_m_tenths 0 w') (by rw [ixN_nI (by omega)]; rfl) ?_
        refine E_iast (pc := 64) dX8_copy_64 rfl (vp_in_nI (by omega) (by decide)) ?_
        refine E_heq (by rw [ixN_nI (n := z') (by omega)]) ?_
        refine E_aload_n (pc := 65) 0 dX8_copy_65 rfl rfl ?_
        refine E_getR0 (pc := 66) dX8_copy_66 fl_RX8_40 rfl rfl ?_
        refine E_iload_n (pc := 69) 2 dX8_copy_69 rfl rfl ?_
        refine E_aload_n (pc := 70) 0 dX8_copy_70 rfl rfl ?_
        refine E_getR0 (pc := 71) dX8_copy_71 fl_RX8_40 rfl rfl ?_
        refine E_iload_n (pc := 74) 1 dX8_copy_74 rfl rfl ?_
        refine E_iald (pc := 75) dX8_copy_75 rfl (vp_in_nI (by omega) (by decide)) ?_
        refine E_top (y := h g_m_feet 0 w') (by rw [ixN_nI (by omega)]; rfl) ?_
        refine E_iast (pc := 76) dX8_copy_76 rfl (vp_in_nI (by omega) (by decide)) ?_
        refine E_heq (by rw [ixN_nI (n := z') (by omega)]) ?_
        refine E_iconst (pc := 77) (1) dX8_copy_77 (by decide) ?_
        refine E_iret (pc := 78) dX8_copy_78 rfl ?_
        first | exact ⟨rfl, rfl⟩ | exact ⟨by grind [bi], rfl⟩
      · intro i hi hn
        refine E_iload_n (pc := 19) 3 dX8_copy_19 rfl rfl ?_
        refine E_bipush (pc := 20) (64) dX8_copy_20 (by decide) ?_
        refine E_icmp_ge (pc := 22) 53 dX8_copy_22 rfl (fun q22 => absurd q22 (nI_ge (b := 64) hi (by decide))) (fun q22 => ?_)
        refine E_aload_n (pc := 25) 0 dX8_copy_25 rfl rfl ?_
        refine E_getR0 (pc := 26) dX8_copy_26 fl_RX8_34 rfl rfl ?_
        refine E_bipush (pc := 29) (64) dX8_copy_29 (by decide) ?_
        refine E_iload_n (pc := 31) 2 dX8_copy_31 rfl rfl ?_
        refine E_imul (pc := 32) dX8_copy_32 ?_
        refine E_iload_n (pc := 33) 3 dX8_copy_33 rfl rfl ?_
        refine E_iadd (pc := 34) dX8_copy_34 ?_
        refine E_top (nI_64 z' i) ?_
        refine E_aload_n (pc := 35) 0 dX8_copy_35 rfl rfl ?_
        refine E_getR0 (pc := 36) dX8_copy_36 fl_RX8_34 rfl rfl ?_
        refine E_bipush (pc := 39) (64) dX8_copy_39 (by decide) ?_
        refine E_iload_n (pc := 41) 1 dX8_copy_41 rfl rfl ?_
        refine E_imul (pc := 42) dX8_copy_42 ?_
        refine E_iload_n (pc := 43) 3 dX8_copy_43 rfl rfl ?_
        refine E_iadd (pc := 44) dX8_copy_44 ?_
        refine E_top (nI_64 w' i) ?_
        refine E_iald (pc := 45) dX8_copy_45 rfl (vp_in_nI (by omega) (by decide)) ?_
        refine E_top (y := mN h w' i) (by rw [ixN_nI (by omega)]; exact fed_at (by omega)) ?_
        refine E_iast (pc := 46) dX8_copy_46 rfl (vp_in_nI (by omega) (by decide)) ?_
        refine E_iincN (pc := 47) 3 dX8_copy_47 (Nat.le_of_ble_eq_true rfl) rfl rfl (lz := [_, _, _, _]) rfl ?_
        refine E_goto (pc := 50) 19 dX8_copy_50 rfl ?_
        exact E_heq (by rw [ixN_nI (by omega)]; exact fed_s (mN h w') h g_m_numbers (64 * z') i) hn
    · refine E_iconst (pc := 15) (-1) dX8_copy_15 (by decide) ?_
      refine E_iret (pc := 16) dX8_copy_16 rfl ?_
      exact ⟨by grind [bi], by grind [bi]⟩
set_option maxHeartbeats 1600000 in
theorem C_X8_jumper {l : Launch} {G : GE} {h : Hp} {w : Int32} (hc : 0 ≤ h g_model 0 22) (hc2 : h g_model 0 22 ≤ 12) : CT l G mX8_jumper [vR g_model 0, vI w] h (fun r h' => r = some (if 0 ≤ w ∧ w ≤ 5 then (if h g_model 0 22 < 12 then h g_model 0 22 + 1 else -3) else -1) ∧ h' = if (0 ≤ w ∧ w ≤ 5) ∧ h g_model 0 22 < 12 then hset (hset h g_m_jumpers 0 (ixN (h g_model 0 22)) w) g_model 0 22 (h g_model 0 22 + 1) else h) := by
  refine CT.of (lv := [_, _]) (by decide +kernel) (Nat.le_of_ble_eq_true rfl) rfl ?_
  refine E_iload_n (pc := 0) 1 dX8_jumper_0 rfl rfl ?_
  refine E_callS1 (pc := 1) dX8_jumper_1 C_X8_isNumber rfl ks_RX8_135 rfl ⟨Nat.le_of_ble_eq_true rfl, Nat.le_of_ble_eq_true rfl, Nat.le_of_ble_eq_true rfl, Nat.le_of_ble_eq_true rfl⟩ (Nat.le_of_ble_eq_true rfl) ?_
  refine E_if_ne (pc := 4) 9 dX8_jumper_4 rfl (fun q4 => ?_) (fun q4 => ?_)
  · refine E_aload_n (pc := 9) 0 dX8_jumper_9 rfl rfl ?_
    refine E_getI (pc := 10) dX8_jumper_10 fl_RX8_242 rfl rfl ?_
    refine E_bipush (pc := 13) (12) dX8_jumper_13 (by decide) ?_
    refine E_icmp_ne (pc := 15) 21 dX8_jumper_15 rfl (fun q15 => ?_) (fun q15 => ?_)
    · refine E_aload_n (pc := 21) 0 dX8_jumper_21 rfl rfl ?_
      refine E_getR0 (pc := 22) dX8_jumper_22 fl_RX8_46 rfl rfl ?_
      refine E_aload_n (pc := 25) 0 dX8_jumper_25 rfl rfl ?_
      refine E_getI (pc := 26) dX8_jumper_26 fl_RX8_242 rfl rfl ?_
      refine E_iload_n (pc := 29) 1 dX8_jumper_29 rfl rfl ?_
      refine E_iast (pc := 30) dX8_jumper_30 rfl (ixl 11 hc (by grind) (by decide)) ?_
      refine E_aload_n (pc := 31) 0 dX8_jumper_31 rfl rfl ?_
      refine E_dup (pc := 32) dX8_jumper_32 (fun _ z => by cases z) ?_
      refine E_getI (pc := 33) dX8_jumper_33 fl_RX8_242 rfl rfl ?_
      refine E_iconst (pc := 36) (1) dX8_jumper_36 (by decide) ?_
      refine E_iadd (pc := 37) dX8_jumper_37 ?_
      refine E_put (pc := 38) dX8_jumper_38 fp_RX8_242 rfl rfl ?_
      refine E_aload_n (pc := 41) 0 dX8_jumper_41 rfl rfl ?_
      refine E_getI (pc := 42) dX8_jumper_42 fl_RX8_242 rfl rfl ?_
      refine E_iret (pc := 45) dX8_jumper_45 rfl ?_
      exact ⟨by grind [bi, hset], by rw [if_pos (by grind [bi])]; rfl⟩
    · refine E_bipush (pc := 18) (-3) dX8_jumper_18 (by decide) ?_
      refine E_iret (pc := 20) dX8_jumper_20 rfl ?_
      exact ⟨by grind [bi], by grind [bi]⟩
  · refine E_iconst (pc := 7) (-1) dX8_jumper_7 (by decide) ?_
    refine E_iret (pc := 8) dX8_jumper_8 rfl ?_
    exact ⟨by grind [bi], by grind [bi]⟩
set_option maxHeartbeats 1600000 in
theorem C_X8_takes {l : Launch} {G : GE} {h : Hp} {j w : Int32} (hc0 : 0 ≤ h g_model 0 22) (hc : h g_model 0 22 ≤ 12) : CT l G mX8_takes [vR g_model 0, vI j, vI w] h (fun r h' => r = some (if (0 ≤ j ∧ j ≤ h g_model 0 22 - 1) ∧ 0 ≤ w ∧ w ≤ 5 then h g_m_jumpers 0 (ixN j) else -1) ∧ h' = if (0 ≤ j ∧ j ≤ h g_model 0 22 - 1) ∧ 0 ≤ w ∧ w ≤ 5 then hset h g_m_jumpers 0 (ixN j) w else h) := by
  refine CT.of (lv := [_, _, _, _]) (by decide +kernel) (Nat.le_of_ble_eq_true rfl) rfl ?_
  refine E_aload_n (pc := 0) 0 dX8_takes_0 rfl rfl ?_
  refine E_iload_n (pc := 1) 1 dX8_takes_1 rfl rfl ?_
  refine E_callV1 (pc := 2) dX8_takes_2 C_X8_isJumper rfl kv_RX8_245 rfl rfl rfl ⟨Nat.le_of_ble_eq_true rfl, Nat.le_of_ble_eq_true rfl, Nat.le_of_ble_eq_true rfl, Nat.le_of_ble_eq_true rfl⟩ (Nat.le_of_ble_eq_true rfl) ?_
  refine E_if_eq (pc := 5) 15 dX8_takes_5 rfl (fun q5 => ?_) (fun q5 => ?_)
  · refine E_iconst (pc := 15) (-1) dX8_takes_15 (by decide) ?_
    refine E_iret (pc := 16) dX8_takes_16 rfl ?_
    exact ⟨by grind [bi], by grind [bi]⟩
  · refine E_iload_n (pc := 8) 2 dX8_takes_8 rfl rfl ?_
    refine E_callS1 (pc := 9) dX8_takes_9 C_X8_isNumber rfl ks_RX8_135 rfl ⟨Nat.le_of_ble_eq_true rfl, Nat.le_of_ble_eq_true rfl, Nat.le_of_ble_eq_true rfl, Nat.le_of_ble_eq_true rfl⟩ (Nat.le_of_ble_eq_true rfl) ?_
    refine E_if_ne (pc := 12) 17 dX8_takes_12 rfl (fun q12 => ?_) (fun q12 => ?_)
    · refine E_aload_n (pc := 17) 0 dX8_takes_17 rfl rfl ?_
      refine E_getR0 (pc := 18) dX8_takes_18 fl_RX8_46 rfl rfl ?_
      refine E_iload_n (pc := 21) 1 dX8_takes_21 rfl rfl ?_
      refine E_iald (pc := 22) dX8_takes_22 rfl (ixl 11 (by grind [bi]) (by grind [bi]) (by decide)) ?_
      refine E_istore_n (pc := 23) 3 dX8_takes_23 rfl (Nat.le_of_ble_eq_true rfl) rfl (lz := [_, _, _, _]) rfl ?_
      refine E_aload_n (pc := 24) 0 dX8_takes_24 rfl rfl ?_
      refine E_getR0 (pc := 25) dX8_takes_25 fl_RX8_46 rfl rfl ?_
      refine E_iload_n (pc := 28) 1 dX8_takes_28 rfl rfl ?_
      refine E_iload_n (pc := 29) 2 dX8_takes_29 rfl rfl ?_
      refine E_iast (pc := 30) dX8_takes_30 rfl (ixl 11 (by grind [bi]) (by grind [bi]) (by decide)) ?_
      refine E_iload_n (pc := 31) 3 dX8_takes_31 rfl rfl ?_
      refine E_iret (pc := 32) dX8_takes_32 rfl ?_
      exact ⟨by grind [bi], by grind [bi]⟩
    · refine E_iconst (pc := 15) (-1) dX8_takes_15 (by decide) ?_
      refine E_iret (pc := 16) dX8_takes_16 rfl ?_
      exact ⟨by grind [bi], by grind [bi]⟩
set_option maxHeartbeats 1600000 in
theorem C_X8_sheet {l : Launch} {G : GE} {h : Hp} {k a n : Int32} : CT l G mX8_sheet [vR g_model 0, vI k, vI a, vI n] h (fun r h' => r = some (if (0 ≤ k ∧ k ≤ 3) ∧ (0 ≤ a ∧ a ≤ 2) ∧ n ≤ 64 then (if 0 ≤ n then 1 else -14) else -1) ∧ h' = if ((0 ≤ k ∧ k ≤ 3) ∧ (0 ≤ a ∧ a ≤ 2) ∧ n ≤ 64) ∧ 0 ≤ n then fed (fun _ => 0) (hset (hset h g_m_lanes 0 (ixN k) a) g_m_lengths 0 (ixN k) n) g_m_cells (64 * ixN k) 64 else h) := by
  refine CT.of (lv := [_, _, _, _, _]) (by decide +kernel) (Nat.le_of_ble_eq_true rfl) rfl ?_
  refine E_iload_n (pc := 0) 1 dX8_sheet_0 rfl rfl ?_
  refine E_i2l (pc := 1) dX8_sheet_1 ?_
  refine E_lconst (pc := 2) (0) dX8_sheet_2 (by decide) ?_
  refine E_ldc2 (pc := 3) (3) dX8_sheet_3 kk_RX8_142 ?_
  refine E_callS1 (pc := 6) dX8_sheet_6 (C_X8_in (a := 0) (b := 3) (by decide) (by decide)) rfl ks_RX8_71 rfl ⟨Nat.le_of_ble_eq_true rfl, Nat.le_of_ble_eq_true rfl, Nat.le_of_ble_eq_true rfl, Nat.le_of_ble_eq_true rfl⟩ (Nat.le_of_ble_eq_true rfl) ?_
  refine E_if_eq (pc := 9) 30 dX8_sheet_9 rfl (fun q9 => ?_) (fun q9 => ?_)
  · refine E_iconst (pc := 30) (-1) dX8_sheet_30 (by decide) ?_
    refine E_iret (pc := 31) dX8_sheet_31 rfl ?_
    exact ⟨by grind [bi], by grind [bi]⟩
  · refine E_iload_n (pc := 12) 2 dX8_sheet_12 rfl rfl ?_
    refine E_i2l (pc := 13) dX8_sheet_13 ?_
    refine E_lconst (pc := 14) (0) dX8_sheet_14 (by decide) ?_
    refine E_ldc2 (pc := 15) (2) dX8_sheet_15 kk_RX8_144 ?_
    refine E_callS1 (pc := 18) dX8_sheet_18 (C_X8_in (a := 0) (b := 2) (by decide) (by decide)) rfl ks_RX8_71 rfl ⟨Nat.le_of_ble_eq_true rfl, Nat.le_of_ble_eq_true rfl, Nat.le_of_ble_eq_true rfl, Nat.le_of_ble_eq_true rfl⟩ (Nat.le_of_ble_eq_true rfl) ?_
    refine E_if_eq (pc := 21) 30 dX8_sheet_21 rfl (fun q21 => ?_) (fun q21 => ?_)
    · refine E_iconst (pc := 30) (-1) dX8_sheet_30 (by decide) ?_
      refine E_iret (pc := 31) dX8_sheet_31 rfl ?_
      exact ⟨by grind [bi], by grind [bi]⟩
    · refine E_iload_n (pc := 24) 3 dX8_sheet_24 rfl rfl ?_
      refine E_bipush (pc := 25) (64) dX8_sheet_25 (by decide) ?_
      refine E_icmp_le (pc := 27) 32 dX8_sheet_27 rfl (fun q27 => ?_) (fun q27 => ?_)
      · refine E_iload_n (pc := 32) 3 dX8_sheet_32 rfl rfl ?_
        refine E_if_ge (pc := 33) 39 dX8_sheet_33 rfl (fun q33 => ?_) (fun q33 => ?_)
        · have hg : ((0 ≤ k ∧ k ≤ 3) ∧ (0 ≤ a ∧ a ≤ 2) ∧ n ≤ 64) ∧ 0 ≤ n := by grind [bi]
          obtain ⟨k', hk', ek⟩ := natq (x := k) 3 3 rfl (by decide) hg.1.1.1 hg.1.1.2
          rw [if_pos hg.1, if_pos hg, if_pos hg.2]
          clear hg
          subst ek
          refine E_aload_n (pc := 39) 0 dX8_sheet_39 rfl rfl ?_
          refine E_getR0 (pc := 40) dX8_sheet_40 fl_RX8_58 rfl rfl ?_
          refine E_iload_n (pc := 43) 1 dX8_sheet_43 rfl rfl ?_
          refine E_iload_n (pc := 44) 2 dX8_sheet_44 rfl rfl ?_
          refine E_iast (pc := 45) dX8_sheet_45 rfl (vp_in_nI (by omega) (by decide)) ?_
          refine E_aload_n (pc := 46) 0 dX8_sheet_46 rfl rfl ?_
          refine E_getR0 (pc := 47) dX8_sheet_47 fl_RX8_61 rfl rfl ?_
          refine E_iload_n (pc := 50) 1 dX8_sheet_50 rfl rfl ?_
          refine E_iload_n (pc := 51) 3 dX8_sheet_51 rfl rfl ?_
          refine E_iast (pc := 52) dX8_sheet_52 rfl (vp_in_nI (by omega) (by decide)) ?_
          refine E_iconst (pc := 53) (0) dX8_sheet_53 (by decide) ?_
          refine E_istore (pc := 54) 4 dX8_sheet_54 (Nat.le_of_ble_eq_true rfl) rfl (lz := [_, _, _, _, _]) rfl ?_
          rw [ixN_nI (n := k') (by omega)]
          refine E_heq (fed_0 (fun _ => 0) _ g_m_cells (64 * k')).symm ?_
          refine down (P := fun i => Ev l G mX8_sheet _ 56 [some (vR g_model 0), some (vI (nI k')), some (vI a), some (vI n), some (vI (nI i))] [] (fed (fun _ => 0) _ g_m_cells (64 * k') i)) 64 ?_ ?_ 0 (Nat.zero_le _)
          · refine E_iload (pc := 56) 4 dX8_sheet_56 rfl ?_
            refine E_bipush (pc := 58) (64) dX8_sheet_58 (by decide) ?_
            refine E_icmp_ge (pc := 60) 82 dX8_sheet_60 rfl (fun q60 => ?_) (fun q60 => absurd (show (64 : Int32) ≤ 64 by decide) q60)
            refine E_iconst (pc := 82) (1) dX8_sheet_82 (by decide) ?_
            refine E_iret (pc := 83) dX8_sheet_83 rfl ?_
            first | exact ⟨rfl, rfl⟩ | exact ⟨by grind [bi], rfl⟩
          · intro i hi hn
            refine E_iload (pc := 56) 4 dX8_sheet_56 rfl ?_
            refine E_bipush (pc := 58) (64) dX8_sheet_58 (by decide) ?_
            refine E_icmp_ge (pc := 60) 82 dX8_sheet_60 rfl (fun q60 => absurd q60 (nI_ge (b := 64) hi (by decide))) (fun q60 => ?_)
            refine E_aload_n (pc := 63) 0 dX8_sheet_63 rfl rfl ?_
            refine E_getR0 (pc := 64) dX8_sheet_64 fl_RX8_64 rfl rfl ?_
            refine E_bipush (pc := 67) (64) dX8_sheet_67 (by decide) ?_
            refine E_iload_n (pc := 69) 1 dX8_sheet_69 rfl rfl ?_
            refine E_imul (pc := 70) dX8_sheet_70 ?_
            refine E_iload (pc := 71) 4 dX8_sheet_71 rfl ?_
            refine E_iadd (pc := 73) dX8_sheet_73 ?_
            refine E_top (nI_64 k' i) ?_
            refine E_iconst (pc := 74) (0) dX8_sheet_74 (by decide) ?_
            refine E_iast (pc := 75) dX8_sheet_75 rfl (vp_in_nI (by omega) (by decide)) ?_
            refine E_iincN (pc := 76) 4 dX8_sheet_76 (Nat.le_of_ble_eq_true rfl) rfl rfl (lz := [_, _, _, _, _]) rfl ?_
            refine E_goto (pc := 79) 56 dX8_sheet_79 rfl ?_
            exact E_heq (by rw [ixN_nI (by omega)]; exact fed_s (fun _ => 0) _ g_m_cells (64 * k') i) hn
        · refine E_bipush (pc := 36) (-14) dX8_sheet_36 (by decide) ?_
          refine E_iret (pc := 38) dX8_sheet_38 rfl ?_
          exact ⟨by grind [bi], by grind [bi]⟩
      · refine E_iconst (pc := 30) (-1) dX8_sheet_30 (by decide) ?_
        refine E_iret (pc := 31) dX8_sheet_31 rfl ?_
        exact ⟨by grind [bi], by grind [bi]⟩
theorem sx8 (v : Int32) : (v <<< 24) >>> 24 = v.toInt8.toInt32 := by
  rw [← Int32.toBitVec_inj]
  simp [Int32.toBitVec_shiftLeft, Int32.toBitVec_shiftRight]
  apply BitVec.eq_of_getElem_eq
  intro i hi
  simp [BitVec.getElem_sshiftRight, BitVec.getElem_signExtend, BitVec.msb_eq_getLsbD_last]
  by_cases h8 : i < 8
  · rw [dif_pos (by omega), if_pos h8, dif_pos hi]; simp
  · rw [dif_neg (by omega), if_neg h8]
theorem sx16 (v : Int32) : (v <<< 16) >>> 16 = v.toInt16.toInt32 := by
  rw [← Int32.toBitVec_inj]
  simp [Int32.toBitVec_shiftLeft, Int32.toBitVec_shiftRight]
  apply BitVec.eq_of_getElem_eq
  intro i hi
  simp [BitVec.getElem_sshiftRight, BitVec.getElem_signExtend, BitVec.msb_eq_getLsbD_last]
  by_cases h8 : i < 16
  · rw [dif_pos (by omega), if_pos h8, dif_pos hi]; simp
  · rw [dif_neg (by omega), if_neg h8]
set_option maxHeartbeats 1600000 in
theorem C_X8_lay {l : Launch} {G : GE} {h : Hp} {k i v : Int32} (hz : h g_m_lengths 0 (ixN k) ≤ 64) (hz0 : 0 ≤ h g_m_lengths 0 (ixN k)) : CT l G mX8_lay [vR g_model 0, vI k, vI i, vI v] h (fun r h' => r = some (if 0 ≤ k ∧ k ≤ 3 then (if h g_m_lanes 0 (ixN k) = -4 then -11 else if 0 ≤ i ∧ i ≤ h g_m_lengths 0 (ixN k) - 1 then 1 else -12) else -1) ∧ h' = if (0 ≤ k ∧ k ≤ 3) ∧ ¬ h g_m_lanes 0 (ixN k) = -4 ∧ 0 ≤ i ∧ i ≤ h g_m_lengths 0 (ixN k) - 1 then hset h g_m_cells 0 (64 * ixN k + ixN i) (if h g_m_lanes 0 (ixN k) = 0 then v.toInt8.toInt32 else if h g_m_lanes 0 (ixN k) = 1 then v.toInt16.toInt32 else v) else h) := by
  refine CT.of (lv := [_, _, _, _]) (by decide +kernel) (Nat.le_of_ble_eq_true rfl) rfl ?_
  refine E_iload_n (pc := 0) 1 dX8_lay_0 rfl rfl ?_
  refine E_i2l (pc := 1) dX8_lay_1 ?_
  refine E_lconst (pc := 2) (0) dX8_lay_2 (by decide) ?_
  refine E_ldc2 (pc := 3) (3) dX8_lay_3 kk_RX8_142 ?_
  refine E_callS1 (pc := 6) dX8_lay_6 (C_X8_in (a := 0) (b := 3) (by decide) (by decide)) rfl ks_RX8_71 rfl ⟨Nat.le_of_ble_eq_true rfl, Nat.le_of_ble_eq_true rfl, Nat.le_of_ble_eq_true rfl, Nat.le_of_ble_eq_true rfl⟩ (Nat.le_of_ble_eq_true rfl) ?_
  refine E_if_ne (pc := 9) 14 dX8_lay_9 rfl (fun q9 => ?_) (fun q9 => ?_)
  · refine E_aload_n (pc := 14) 0 dX8_lay_14 rfl rfl ?_
    refine E_getR0 (pc := 15) dX8_lay_15 fl_RX8_58 rfl rfl ?_
    refine E_iload_n (pc := 18) 1 dX8_lay_18 rfl rfl ?_
    refine E_iald (pc := 19) dX8_lay_19 rfl (ixl 3 (by grind [bi]) (by grind [bi]) (by decide)) ?_
    refine E_bipush (pc := 20) (-4) dX8_lay_20 (by decide) ?_
    refine E_icmp_ne (pc := 22) 28 dX8_lay_22 rfl (fun q22 => ?_) (fun q22 => ?_)
    · refine E_iload_n (pc := 28) 2 dX8_lay_28 rfl rfl ?_
      refine E_i2l (pc := 29) dX8_lay_29 ?_
      refine E_lconst (pc := 30) (0) dX8_lay_30 (by decide) ?_
      refine E_aload_n (pc := 31) 0 dX8_lay_31 rfl rfl ?_
      refine E_getR0 (pc := 32) dX8_lay_32 fl_RX8_61 rfl rfl ?_
      refine E_iload_n (pc := 35) 1 dX8_lay_35 rfl rfl ?_
      refine E_iald (pc := 36) dX8_lay_36 rfl (ixl 3 (by grind [bi]) (by grind [bi]) (by decide)) ?_
      refine E_iconst (pc := 37) (1) dX8_lay_37 (by decide) ?_
      refine E_isub (pc := 38) dX8_lay_38 ?_
      refine E_i2l (pc := 39) dX8_lay_39 ?_
      refine E_callS1 (pc := 40) dX8_lay_40 (C_X8_in (a := 0) (by decide) rfl) rfl ks_RX8_71 rfl ⟨Nat.le_of_ble_eq_true rfl, Nat.le_of_ble_eq_true rfl, Nat.le_of_ble_eq_true rfl, Nat.le_of_ble_eq_true rfl⟩ (Nat.le_of_ble_eq_true rfl) ?_
      refine E_if_ne (pc := 43) 49 dX8_lay_43 rfl (fun q43 => ?_) (fun q43 => ?_)
      · have hg : (0 ≤ k ∧ k ≤ 3) ∧ ¬ h g_m_lanes 0 (ixN k) = -4 ∧ 0 ≤ i ∧ i ≤ h g_m_lengths 0 (ixN k) - 1 := by grind [bi]
        obtain ⟨k', hk', ek⟩ := natq (x := k) 3 3 rfl (by decide) hg.1.1 hg.1.2
        obtain ⟨i', hi', ei⟩ := natq (x := i) 63 63 rfl (by decide) hg.2.2.1 (by grind)
        have e6 : 64 * k + i = nI (64 * ixN k + ixN i) := by rw [ek, ei, ixN_nI (by omega), ixN_nI (by omega), nI_64]
        have e7 : ixN k ≤ 3 ∧ ixN i ≤ 63 := by rw [ek, ei, ixN_nI (by omega), ixN_nI (by omega)]; exact ⟨hk', hi'⟩
        refine E_aload_n (pc := 49) 0 dX8_lay_49 rfl rfl ?_
        refine E_getR0 (pc := 50) dX8_lay_50 fl_RX8_64 rfl rfl ?_
        refine E_bipush (pc := 53) (64) dX8_lay_53 (by decide) ?_
        refine E_iload_n (pc := 55) 1 dX8_lay_55 rfl rfl ?_
        refine E_imul (pc := 56) dX8_lay_56 ?_
        refine E_iload_n (pc := 57) 2 dX8_lay_57 rfl rfl ?_
        refine E_iadd (pc := 58) dX8_lay_58 ?_
        refine E_top e6 ?_
        refine E_aload_n (pc := 59) 0 dX8_lay_59 rfl rfl ?_
        refine E_getR0 (pc := 60) dX8_lay_60 fl_RX8_58 rfl rfl ?_
        refine E_iload_n (pc := 63) 1 dX8_lay_63 rfl rfl ?_
        refine E_iald (pc := 64) dX8_lay_64 rfl (ixl 3 (by grind [bi]) (by grind [bi]) (by decide)) ?_
        refine E_if_ne (pc := 65) 78 dX8_lay_65 rfl (fun q65 => ?_) (fun q65 => ?_)
        · refine E_aload_n (pc := 78) 0 dX8_lay_78 rfl rfl ?_
          refine E_getR0 (pc := 79) dX8_lay_79 fl_RX8_58 rfl rfl ?_
          refine E_iload_n (pc := 82) 1 dX8_lay_82 rfl rfl ?_
          refine E_iald (pc := 83) dX8_lay_83 rfl (ixl 3 (by grind [bi]) (by grind [bi]) (by decide)) ?_
          refine E_iconst (pc := 84) (1) dX8_lay_84 (by decide) ?_
          refine E_icmp_ne (pc := 85) 98 dX8_lay_85 rfl (fun q85 => ?_) (fun q85 => ?_)
          · refine E_iload_n (pc := 98) 3 dX8_lay_98 rfl rfl ?_
            refine E_iast (pc := 99) dX8_lay_99 rfl (vp_in_nI (by omega) (by decide)) ?_
            refine E_iconst (pc := 100) (1) dX8_lay_100 (by decide) ?_
            refine E_iret (pc := 101) dX8_lay_101 rfl ?_
            refine ⟨by rw [if_pos hg.1, if_neg hg.2.1, if_pos hg.2.2], ?_⟩
            rw [if_pos hg, ixN_nI (by omega)]
            first | (rw [if_pos q65, ← sx8, show (24 : Int32) &&& 31 = 24 by decide]; done) | (rw [if_neg q65, if_pos q85, ← sx16, show (16 : Int32) &&& 31 = 16 by decide]; done) | (rw [if_neg q65, if_neg q85])
          · refine E_iload_n (pc := 88) 3 dX8_lay_88 rfl rfl ?_
            refine E_bipush (pc := 89) (16) dX8_lay_89 (by decide) ?_
            refine E_ishl (pc := 91) dX8_lay_91 ?_
            refine E_bipush (pc := 92) (16) dX8_lay_92 (by decide) ?_
            refine E_ishr (pc := 94) dX8_lay_94 ?_
            refine E_goto (pc := 95) 99 dX8_lay_95 rfl ?_
            refine E_iast (pc := 99) dX8_lay_99 rfl (vp_in_nI (by omega) (by decide)) ?_
            refine E_iconst (pc := 100) (1) dX8_lay_100 (by decide) ?_
            refine E_iret (pc := 101) dX8_lay_101 rfl ?_
            refine ⟨by rw [if_pos hg.1, if_neg hg.2.1, if_pos hg.2.2], ?_⟩
            rw [if_pos hg, ixN_nI (by omega)]
            first | (rw [if_pos q65, ← sx8, show (24 : Int32) &&& 31 = 24 by decide]; done) | (rw [if_neg q65, if_pos q85, ← sx16, show (16 : Int32) &&& 31 = 16 by decide]; done) | (rw [if_neg q65, if_neg q85])
        · refine E_iload_n (pc := 68) 3 dX8_lay_68 rfl rfl ?_
          refine E_bipush (pc := 69) (24) dX8_lay_69 (by decide) ?_
          refine E_ishl (pc := 71) dX8_lay_71 ?_
          refine E_bipush (pc := 72) (24) dX8_lay_72 (by decide) ?_
          refine E_ishr (pc := 74) dX8_lay_74 ?_
          refine E_goto (pc := 75) 99 dX8_lay_75 rfl ?_
          refine E_iast (pc := 99) dX8_lay_99 rfl (vp_in_nI (by omega) (by decide)) ?_
          refine E_iconst (pc := 100) (1) dX8_lay_100 (by decide) ?_
          refine E_iret (pc := 101) dX8_lay_101 rfl ?_
          refine ⟨by rw [if_pos hg.1, if_neg hg.2.1, if_pos hg.2.2], ?_⟩
          rw [if_pos hg, ixN_nI (by omega)]
          first | (rw [if_pos q65, ← sx8, show (24 : Int32) &&& 31 = 24 by decide]; done) | (rw [if_neg q65, if_pos q85, ← sx16, show (16 : Int32) &&& 31 = 16 by decide]; done) | (rw [if_neg q65, if_neg q85])
      · refine E_bipush (pc := 46) (-12) dX8_lay_46 (by decide) ?_
        refine E_iret (pc := 48) dX8_lay_48 rfl ?_
        exact ⟨by grind [bi], by grind [bi]⟩
    · refine E_bipush (pc := 25) (-11) dX8_lay_25 (by decide) ?_
      refine E_iret (pc := 27) dX8_lay_27 rfl ?_
      exact ⟨by grind [bi], by grind [bi]⟩
  · refine E_iconst (pc := 12) (-1) dX8_lay_12 (by decide) ?_
    refine E_iret (pc := 13) dX8_lay_13 rfl ?_
    exact ⟨by grind [bi], by grind [bi]⟩
set_option maxHeartbeats 1600000 in
theorem C_X8_whole {l : Launch} {G : GE} {h : Hp}  : CT l G mX8_whole [vR g_model 0] h (fun r h' => r = some (tot (h g_m_holds 0)) ∧ h' = h) := by
  refine CT.of (lv := [_]) (by decide +kernel) (Nat.le_of_ble_eq_true rfl) rfl ?_
  refine E_aload_n (pc := 0) 0 dX8_whole_0 rfl rfl ?_
  refine E_getR0 (pc := 1) dX8_whole_1 fl_RX8_28 rfl rfl ?_
  refine E_iconst (pc := 4) (0) dX8_whole_4 (by decide) ?_
  refine E_iald (pc := 5) dX8_whole_5 rfl (by unfold vp_in; decide) ?_
  refine E_aload_n (pc := 6) 0 dX8_whole_6 rfl rfl ?_
  refine E_getR0 (pc := 7) dX8_whole_7 fl_RX8_28 rfl rfl ?_
  refine E_iconst (pc := 10) (1) dX8_whole_10 (by decide) ?_
  refine E_iald (pc := 11) dX8_whole_11 rfl (by unfold vp_in; decide) ?_
  refine E_iadd (pc := 12) dX8_whole_12 ?_
  refine E_aload_n (pc := 13) 0 dX8_whole_13 rfl rfl ?_
  refine E_getR0 (pc := 14) dX8_whole_14 fl_RX8_28 rfl rfl ?_
  refine E_iconst (pc := 17) (2) dX8_whole_17 (by decide) ?_
  refine E_iald (pc := 18) dX8_whole_18 rfl (by unfold vp_in; decide) ?_
  refine E_iadd (pc := 19) dX8_whole_19 ?_
  refine E_aload_n (pc := 20) 0 dX8_whole_20 rfl rfl ?_
  refine E_getR0 (pc := 21) dX8_whole_21 fl_RX8_28 rfl rfl ?_
  refine E_iconst (pc := 24) (3) dX8_whole_24 (by decide) ?_
  refine E_iald (pc := 25) dX8_whole_25 rfl (by unfold vp_in; decide) ?_
  refine E_iadd (pc := 26) dX8_whole_26 ?_
  refine E_iret (pc := 27) dX8_whole_27 rfl ?_
  first | exact ⟨rfl, rfl⟩ | exact ⟨by grind [bi], rfl⟩
set_option maxHeartbeats 1600000 in
theorem C_X8_middle {l : Launch} {G : GE} {h : Hp} {t ax : Int32} : CT l G mX8_middle [vR g_model 0, vI t, vI ax] h (fun r h' => r = some (tot (h g_m_holds 0) * sMid (h g_m_holds 0) t ax) ∧ h' = h) := by
  refine CT.of (lv := [_, _, _]) (by decide +kernel) (Nat.le_of_ble_eq_true rfl) rfl ?_
  refine E_aload_n (pc := 0) 0 dX8_middle_0 rfl rfl ?_
  refine E_callV1 (pc := 1) dX8_middle_1 C_X8_whole rfl kv_RX8_166 rfl rfl rfl ⟨Nat.le_of_ble_eq_true rfl, Nat.le_of_ble_eq_true rfl, Nat.le_of_ble_eq_true rfl, Nat.le_of_ble_eq_true rfl⟩ (Nat.le_of_ble_eq_true rfl) ?_
  refine E_iload_n (pc := 4) 2 dX8_middle_4 rfl rfl ?_
  refine E_if_ne (pc := 5) 28 dX8_middle_5 rfl (fun q5 => ?_) (fun q5 => ?_)
  · have hs : sMid (h g_m_holds 0) t ax = h g_m_holds 0 11 + h g_m_holds 0 7 * t - h g_m_holds 0 9 * t * t := if_neg q5
    refine E_aload_n (pc := 28) 0 dX8_middle_28 rfl rfl ?_
    refine E_getR0 (pc := 29) dX8_middle_29 fl_RX8_28 rfl rfl ?_
    refine E_bipush (pc := 32) (11) dX8_middle_32 (by decide) ?_
    refine E_iald (pc := 34) dX8_middle_34 rfl (by unfold vp_in; decide) ?_
    refine E_aload_n (pc := 35) 0 dX8_middle_35 rfl rfl ?_
    refine E_getR0 (pc := 36) dX8_middle_36 fl_RX8_28 rfl rfl ?_
    refine E_bipush (pc := 39) (7) dX8_middle_39 (by decide) ?_
    refine E_iald (pc := 41) dX8_middle_41 rfl (by unfold vp_in; decide) ?_
    refine E_iload_n (pc := 42) 1 dX8_middle_42 rfl rfl ?_
    refine E_imul (pc := 43) dX8_middle_43 ?_
    refine E_iadd (pc := 44) dX8_middle_44 ?_
    refine E_aload_n (pc := 45) 0 dX8_middle_45 rfl rfl ?_
    refine E_getR0 (pc := 46) dX8_middle_46 fl_RX8_28 rfl rfl ?_
    refine E_bipush (pc := 49) (9) dX8_middle_49 (by decide) ?_
    refine E_iald (pc := 51) dX8_middle_51 rfl (by unfold vp_in; decide) ?_
    refine E_iload_n (pc := 52) 1 dX8_middle_52 rfl rfl ?_
    refine E_imul (pc := 53) dX8_middle_53 ?_
    refine E_iload_n (pc := 54) 1 dX8_middle_54 rfl rfl ?_
    refine E_imul (pc := 55) dX8_middle_55 ?_
    refine E_isub (pc := 56) dX8_middle_56 ?_
    refine E_imul (pc := 57) dX8_middle_57 ?_
    refine E_iret (pc := 58) dX8_middle_58 rfl ?_
    exact ⟨by rw [hs]; rfl, rfl⟩
  · have hs : sMid (h g_m_holds 0) t ax = h g_m_holds 0 8 * t - h g_m_holds 0 10 := if_pos q5
    refine E_aload_n (pc := 8) 0 dX8_middle_8 rfl rfl ?_
    refine E_getR0 (pc := 9) dX8_middle_9 fl_RX8_28 rfl rfl ?_
    refine E_bipush (pc := 12) (8) dX8_middle_12 (by decide) ?_
    refine E_iald (pc := 14) dX8_middle_14 rfl (by unfold vp_in; decide) ?_
    refine E_iload_n (pc := 15) 1 dX8_middle_15 rfl rfl ?_
    refine E_imul (pc := 16) dX8_middle_16 ?_
    refine E_aload_n (pc := 17) 0 dX8_middle_17 rfl rfl ?_
    refine E_getR0 (pc := 18) dX8_middle_18 fl_RX8_28 rfl rfl ?_
    refine E_bipush (pc := 21) (10) dX8_middle_21 (by decide) ?_
    refine E_iald (pc := 23) dX8_middle_23 rfl (by unfold vp_in; decide) ?_
    refine E_isub (pc := 24) dX8_middle_24 ?_
    refine E_goto (pc := 25) 57 dX8_middle_25 rfl ?_
    refine E_imul (pc := 57) dX8_middle_57 ?_
    refine E_iret (pc := 58) dX8_middle_58 rfl ?_
    exact ⟨by rw [hs]; rfl, rfl⟩
def smF (V N : Nat → Int32) (t ax : Nat) : Nat → Int32
  | 0 => 0
  | p + 1 => smF V N t ax p + V p * N (8 * t + 2 * p + ax)
theorem bs_sm (V N : Nat → Int32) (t ax : Nat) : ∀ p, bsF V N t ax p = tot V * sMid V (nI t) (nI ax) - smF V N t ax p
  | 0 => by unfold bsF smF; grind
  | p + 1 => by unfold bsF smF; rw [bs_sm V N t ax p]; grind
set_option maxHeartbeats 1600000 in
theorem C_X8_placeOf {l : Launch} {G : GE} {h : Hp} {w t p ax : Nat} (hw : w ≤ 5) (ht : t ≤ 7) (hp : p ≤ 3) (ha : ax ≤ 1) : CT l G mX8_placeOf [vR g_model 0, vI (nI w), vI (nI t), vI (nI p), vI (nI ax)] h (fun r h' => r = some (sPlace (h g_m_holds 0) (mN h w) t p ax) ∧ h' = h) := by
  refine CT.of (lv := [_, _, _, _, _, _, _]) (by decide +kernel) (Nat.le_of_ble_eq_true rfl) rfl ?_
  refine E_iconst (pc := 0) (0) dX8_placeOf_0 (by decide) ?_
  refine E_istore (pc := 1) 5 dX8_placeOf_1 (Nat.le_of_ble_eq_true rfl) rfl (lz := [_, _, _, _, _, _, _]) rfl ?_
  refine E_iconst (pc := 3) (0) dX8_placeOf_3 (by decide) ?_
  refine E_istore (pc := 4) 6 dX8_placeOf_4 (Nat.le_of_ble_eq_true rfl) rfl (lz := [_, _, _, _, _, _, _]) rfl ?_
  refine down (P := fun i => Ev l G mX8_placeOf _ 6 [some (vR g_model 0), some (vI (nI w)), some (vI (nI t)), some (vI (nI p)), some (vI (nI ax)), some (vI (smF (h g_m_holds 0) (mN h w) t ax i)), some (vI (nI i))] [] h) 4 ?_ ?_ 0 (Nat.zero_le _)
  · refine E_iload (pc := 6) 6 dX8_placeOf_6 rfl ?_
    refine E_iconst (pc := 8) (4) dX8_placeOf_8 (by decide) ?_
    refine E_icmp_ge (pc := 9) 41 dX8_placeOf_9 rfl (fun q9 => ?_) (fun q9 => absurd (show (4 : Int32) ≤ 4 by decide) q9)
    refine E_aload_n (pc := 41) 0 dX8_placeOf_41 rfl rfl ?_
    refine E_iload_n (pc := 42) 2 dX8_placeOf_42 rfl rfl ?_
    refine E_iload (pc := 43) 4 dX8_placeOf_43 rfl ?_
    refine E_callV1 (pc := 45) dX8_placeOf_45 C_X8_middle rfl kv_RX8_170 rfl rfl rfl ⟨Nat.le_of_ble_eq_true rfl, Nat.le_of_ble_eq_true rfl, Nat.le_of_ble_eq_true rfl, Nat.le_of_ble_eq_true rfl⟩ (Nat.le_of_ble_eq_true rfl) ?_
    refine E_aload_n (pc := 48) 0 dX8_placeOf_48 rfl rfl ?_
    refine E_callV1 (pc := 49) dX8_placeOf_49 C_X8_whole rfl kv_RX8_166 rfl rfl rfl ⟨Nat.le_of_ble_eq_true rfl, Nat.le_of_ble_eq_true rfl, Nat.le_of_ble_eq_true rfl, Nat.le_of_ble_eq_true rfl⟩ (Nat.le_of_ble_eq_true rfl) ?_
    refine E_aload_n (pc := 52) 0 dX8_placeOf_52 rfl rfl ?_
    refine E_iload_n (pc := 53) 1 dX8_placeOf_53 rfl rfl ?_
    refine E_iload_n (pc := 54) 2 dX8_placeOf_54 rfl rfl ?_
    refine E_iload_n (pc := 55) 3 dX8_placeOf_55 rfl rfl ?_
    refine E_iload (pc := 56) 4 dX8_placeOf_56 rfl ?_
    refine E_callV1 (pc := 58) dX8_placeOf_58 (C_X8_its hw ht hp ha) rfl kv_RX8_162 rfl rfl rfl ⟨Nat.le_of_ble_eq_true rfl, Nat.le_of_ble_eq_true rfl, Nat.le_of_ble_eq_true rfl, Nat.le_of_ble_eq_true rfl⟩ (Nat.le_of_ble_eq_true rfl) ?_
    refine E_imul (pc := 61) dX8_placeOf_61 ?_
    refine E_iadd (pc := 62) dX8_placeOf_62 ?_
    refine E_iload (pc := 63) 5 dX8_placeOf_63 rfl ?_
    refine E_isub (pc := 65) dX8_placeOf_65 ?_
    refine E_iret (pc := 66) dX8_placeOf_66 rfl ?_
    exact ⟨by unfold sPlace sBase; rw [bs_sm]; congr 1; grind, rfl⟩
  · intro i hi hn
    refine E_iload (pc := 6) 6 dX8_placeOf_6 rfl ?_
    refine E_iconst (pc := 8) (4) dX8_placeOf_8 (by decide) ?_
    refine E_icmp_ge (pc := 9) 41 dX8_placeOf_9 rfl (fun q9 => absurd q9 (nI_ge (b := 4) hi (by decide))) (fun q9 => ?_)
    refine E_iload (pc := 12) 5 dX8_placeOf_12 rfl ?_
    refine E_aload_n (pc := 14) 0 dX8_placeOf_14 rfl rfl ?_
    refine E_getR0 (pc := 15) dX8_placeOf_15 fl_RX8_28 rfl rfl ?_
    refine E_iload (pc := 18) 6 dX8_placeOf_18 rfl ?_
    refine E_iald (pc := 20) dX8_placeOf_20 rfl (vp_in_nI (by omega) (by decide)) ?_
    refine E_aload_n (pc := 21) 0 dX8_placeOf_21 rfl rfl ?_
    refine E_iload_n (pc := 22) 1 dX8_placeOf_22 rfl rfl ?_
    refine E_iload_n (pc := 23) 2 dX8_placeOf_23 rfl rfl ?_
    refine E_iload (pc := 24) 6 dX8_placeOf_24 rfl ?_
    refine E_iload (pc := 26) 4 dX8_placeOf_26 rfl ?_
    refine E_callV1 (pc := 28) dX8_placeOf_28 (C_X8_its hw ht (by omega) ha) rfl kv_RX8_162 rfl rfl rfl ⟨Nat.le_of_ble_eq_true rfl, Nat.le_of_ble_eq_true rfl, Nat.le_of_ble_eq_true rfl, Nat.le_of_ble_eq_true rfl⟩ (Nat.le_of_ble_eq_true rfl) ?_
    refine E_imul (pc := 31) dX8_placeOf_31 ?_
    refine E_iadd (pc := 32) dX8_placeOf_32 ?_
    refine E_top (y := smF (h g_m_holds 0) (mN h w) t ax (i + 1)) (by rw [ixN_nI (by omega)]; rfl) ?_
    refine E_istore (pc := 33) 5 dX8_placeOf_33 (Nat.le_of_ble_eq_true rfl) rfl (lz := [_, _, _, _, _, _, _]) rfl ?_
    refine E_iincN (pc := 35) 6 dX8_placeOf_35 (Nat.le_of_ble_eq_true rfl) rfl rfl (lz := [_, _, _, _, _, _, _]) rfl ?_
    refine E_goto (pc := 38) 6 dX8_placeOf_38 rfl ?_
    exact hn
