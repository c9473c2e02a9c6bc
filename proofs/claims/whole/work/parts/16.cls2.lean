/-! the class: ways, tape, ring, sheets by small methods -/
set_option maxHeartbeats 1600000 in
theorem C_X7_isWay {l : Launch} {G : GE} {h : Hp} {w : Int32} : CT l G mX7_isWay [vR g_oab 0, vI w] h (fun r h' => r = some (bi ((0 ≤ w ∧ w ≤ 5) ∧ 0 < h g_way (ixN w) 1)) ∧ h' = h) := by
  refine CT.of (lv := [_, _]) (by decide +kernel) (Nat.le_of_ble_eq_true rfl) rfl ?_
  refine E_iload_n (pc := 0) 1 dX7_isWay_0 rfl rfl ?_
  refine E_callS1 (pc := 1) dX7_isWay_1 C_X7_isWayNumber rfl ks_RX7_100 rfl ⟨Nat.le_of_ble_eq_true rfl, Nat.le_of_ble_eq_true rfl, Nat.le_of_ble_eq_true rfl, Nat.le_of_ble_eq_true rfl⟩ (Nat.le_of_ble_eq_true rfl) ?_
  refine E_if_eq (pc := 4) 23 dX7_isWay_4 rfl (fun q4 => ?_) (fun q4 => ?_)
  · refine E_iconst (pc := 23) (0) dX7_isWay_23 (by decide) ?_
    refine E_zret (pc := 24) dX7_isWay_24 rfl (by first | rfl | exact nar_bi) ?_
    first | exact ⟨rfl, rfl⟩ | exact ⟨by grind [bi], rfl⟩
  · refine E_aload_n (pc := 7) 0 dX7_isWay_7 rfl rfl ?_
    refine E_getR0 (pc := 8) dX7_isWay_8 fl_RX7_32 rfl rfl ?_
    refine E_iload_n (pc := 11) 1 dX7_isWay_11 rfl rfl ?_
    refine E_aald (pc := 12) dX7_isWay_12 rfl ⟨_, fun _ => rfl⟩ (ixl 5 (by grind [bi]) (by grind [bi]) (by decide)) ?_
    refine E_getI (pc := 13) dX7_isWay_13 fl_RX7_108 rfl rfl ?_
    refine E_if_le (pc := 16) 23 dX7_isWay_16 rfl (fun q16 => ?_) (fun q16 => ?_)
    · refine E_iconst (pc := 23) (0) dX7_isWay_23 (by decide) ?_
      refine E_zret (pc := 24) dX7_isWay_24 rfl (by first | rfl | exact nar_bi) ?_
      first | exact ⟨rfl, rfl⟩ | exact ⟨by grind [bi], rfl⟩
    · refine E_iconst (pc := 19) (1) dX7_isWay_19 (by decide) ?_
      refine E_goto (pc := 20) 24 dX7_isWay_20 rfl ?_
      refine E_zret (pc := 24) dX7_isWay_24 rfl (by first | rfl | exact nar_bi) ?_
      first | exact ⟨rfl, rfl⟩ | exact ⟨by grind [bi], rfl⟩
set_option maxHeartbeats 1600000 in
theorem C_X7_isPartOfWay {l : Launch} {G : GE} {h : Hp} {w t p : Int32} : CT l G mX7_isPartOfWay [vR g_oab 0, vI w, vI t, vI p] h (fun r h' => r = some (bi (((0 ≤ w ∧ w ≤ 5) ∧ 0 < h g_way (ixN w) 1) ∧ (0 ≤ t ∧ t ≤ h g_way (ixN w) 1 - 1) ∧ 0 ≤ p ∧ p ≤ 3)) ∧ h' = h) := by
  refine CT.of (lv := [_, _, _, _]) (by decide +kernel) (Nat.le_of_ble_eq_true rfl) rfl ?_
  refine E_aload_n (pc := 0) 0 dX7_isPartOfWay_0 rfl rfl ?_
  refine E_iload_n (pc := 1) 1 dX7_isPartOfWay_1 rfl rfl ?_
  refine E_callV1 (pc := 2) dX7_isPartOfWay_2 C_X7_isWay rfl kv_RX7_128 rfl rfl rfl ⟨Nat.le_of_ble_eq_true rfl, Nat.le_of_ble_eq_true rfl, Nat.le_of_ble_eq_true rfl, Nat.le_of_ble_eq_true rfl⟩ (Nat.le_of_ble_eq_true rfl) ?_
  refine E_if_eq (pc := 5) 38 dX7_isPartOfWay_5 rfl (fun q5 => ?_) (fun q5 => ?_)
  · refine E_iconst (pc := 38) (0) dX7_isPartOfWay_38 (by decide) ?_
    refine E_zret (pc := 39) dX7_isPartOfWay_39 rfl (by first | rfl | exact nar_bi) ?_
    first | exact ⟨rfl, rfl⟩ | exact ⟨by grind [bi], rfl⟩
  · refine E_iload_n (pc := 8) 2 dX7_isPartOfWay_8 rfl rfl ?_
    refine E_iconst (pc := 9) (0) dX7_isPartOfWay_9 (by decide) ?_
    refine E_aload_n (pc := 10) 0 dX7_isPartOfWay_10 rfl rfl ?_
    refine E_getR0 (pc := 11) dX7_isPartOfWay_11 fl_RX7_32 rfl rfl ?_
    refine E_iload_n (pc := 14) 1 dX7_isPartOfWay_14 rfl rfl ?_
    refine E_aald (pc := 15) dX7_isPartOfWay_15 rfl ⟨_, fun _ => rfl⟩ (ixl 5 (by grind [bi]) (by grind [bi]) (by decide)) ?_
    refine E_getI (pc := 16) dX7_isPartOfWay_16 fl_RX7_108 rfl rfl ?_
    refine E_iconst (pc := 19) (1) dX7_isPartOfWay_19 (by decide) ?_
    refine E_isub (pc := 20) dX7_isPartOfWay_20 ?_
    refine E_callS1 (pc := 21) dX7_isPartOfWay_21 C_X7_within rfl ks_RX7_76 rfl ⟨Nat.le_of_ble_eq_true rfl, Nat.le_of_ble_eq_true rfl, Nat.le_of_ble_eq_true rfl, Nat.le_of_ble_eq_true rfl⟩ (Nat.le_of_ble_eq_true rfl) ?_
    refine E_if_eq (pc := 24) 38 dX7_isPartOfWay_24 rfl (fun q24 => ?_) (fun q24 => ?_)
    · refine E_iconst (pc := 38) (0) dX7_isPartOfWay_38 (by decide) ?_
      refine E_zret (pc := 39) dX7_isPartOfWay_39 rfl (by first | rfl | exact nar_bi) ?_
      first | exact ⟨rfl, rfl⟩ | exact ⟨by grind [bi], rfl⟩
    · refine E_iload_n (pc := 27) 3 dX7_isPartOfWay_27 rfl rfl ?_
      refine E_callS1 (pc := 28) dX7_isPartOfWay_28 C_X7_isPart rfl ks_RX7_215 rfl ⟨Nat.le_of_ble_eq_true rfl, Nat.le_of_ble_eq_true rfl, Nat.le_of_ble_eq_true rfl, Nat.le_of_ble_eq_true rfl⟩ (Nat.le_of_ble_eq_true rfl) ?_
      refine E_if_eq (pc := 31) 38 dX7_isPartOfWay_31 rfl (fun q31 => ?_) (fun q31 => ?_)
      · refine E_iconst (pc := 38) (0) dX7_isPartOfWay_38 (by decide) ?_
        refine E_zret (pc := 39) dX7_isPartOfWay_39 rfl (by first | rfl | exact nar_bi) ?_
        first | exact ⟨rfl, rfl⟩ | exact ⟨by grind [bi], rfl⟩
      · refine E_iconst (pc := 34) (1) dX7_isPartOfWay_34 (by decide) ?_
        refine E_goto (pc := 35) 39 dX7_isPartOfWay_35 rfl ?_
        refine E_zret (pc := 39) dX7_isPartOfWay_39 rfl (by first | rfl | exact nar_bi) ?_
        first | exact ⟨rfl, rfl⟩ | exact ⟨by grind [bi], rfl⟩
set_option maxHeartbeats 1600000 in
theorem C_X6_begin {l : Launch} {G : GE} {h : Hp} {k : Nat} {n f : Int32} : CT l G mX6_begin [vR g_way k, vI n, vI f] h (fun r h' => r = none ∧ h' = clr (hset (hset h g_way k 1 n) g_way k 2 f) g_nums k 64) := by
  refine CT.of (lv := [_, _, _, _]) (by decide +kernel) (Nat.le_of_ble_eq_true rfl) rfl ?_
  refine E_aload_n (pc := 0) 0 dX6_begin_0 rfl rfl ?_
  refine E_iload_n (pc := 1) 1 dX6_begin_1 rfl rfl ?_
  refine E_put (pc := 2) dX6_begin_2 fp_RX6_19 rfl rfl ?_
  refine E_aload_n (pc := 5) 0 dX6_begin_5 rfl rfl ?_
  refine E_iload_n (pc := 6) 2 dX6_begin_6 rfl rfl ?_
  refine E_put (pc := 7) dX6_begin_7 fp_RX6_23 rfl rfl ?_
  refine E_iconst (pc := 10) (0) dX6_begin_10 (by decide) ?_
  refine E_istore_n (pc := 11) 3 dX6_begin_11 rfl (Nat.le_of_ble_eq_true rfl) rfl (lz := [_, _, _, _]) rfl ?_
  refine E_heq (clr_0 _ g_nums k).symm ?_
  refine down (P := fun i => Ev l G mX6_begin _ 12 [some (vR g_way k), some (vI n), some (vI f), some (vI (nI i))] [] (clr _ g_nums k i)) 64 ?_ ?_ 0 (Nat.zero_le _)
  · refine E_iload_n (pc := 12) 3 dX6_begin_12 rfl rfl ?_
    refine E_aload_n (pc := 13) 0 dX6_begin_13 rfl rfl ?_
    refine E_getR0 (pc := 14) dX6_begin_14 fl_RX6_11 rfl rfl ?_
    refine E_len (pc := 17) dX6_begin_17 rfl ?_
    refine E_icmp_ge (pc := 18) 34 dX6_begin_18 rfl (fun q18 => ?_) (fun q18 => absurd (show (64 : Int32) ≤ 64 by decide) q18)
    refine E_vret (pc := 34) dX6_begin_34 rfl ?_
    first | exact ⟨rfl, rfl⟩ | exact ⟨by grind [bi], rfl⟩
  · intro i hi hn
    refine E_iload_n (pc := 12) 3 dX6_begin_12 rfl rfl ?_
    refine E_aload_n (pc := 13) 0 dX6_begin_13 rfl rfl ?_
    refine E_getR0 (pc := 14) dX6_begin_14 fl_RX6_11 rfl rfl ?_
    refine E_len (pc := 17) dX6_begin_17 rfl ?_
    refine E_icmp_ge (pc := 18) 34 dX6_begin_18 rfl (fun q18 => absurd q18 (nI_ge (b := 64) hi (by decide))) (fun q18 => ?_)
    refine E_aload_n (pc := 21) 0 dX6_begin_21 rfl rfl ?_
    refine E_getR0 (pc := 22) dX6_begin_22 fl_RX6_11 rfl rfl ?_
    refine E_iload_n (pc := 25) 3 dX6_begin_25 rfl rfl ?_
    refine E_iconst (pc := 26) (0) dX6_begin_26 (by decide) ?_
    refine E_iast (pc := 27) dX6_begin_27 rfl (vp_in_nI hi (by decide)) ?_
    refine E_iincN (pc := 28) 3 dX6_begin_28 (Nat.le_of_ble_eq_true rfl) rfl rfl (lz := [_, _, _, _]) rfl ?_
    refine E_goto (pc := 31) 12 dX6_begin_31 rfl ?_
    exact E_heq (by rw [ixN_nI (by omega)]; exact clr_s _ _ _ _) hn
set_option maxHeartbeats 1600000 in
theorem C_X6_become {l : Launch} {G : GE} {h : Hp} {k j : Nat} : CT l G mX6_become [vR g_way k, vR g_way j] h (fun r h' => r = none ∧ h' = hsetA (hset (hset h g_way k 1 (h g_way j 1)) g_way k 2 (hset h g_way k 1 (h g_way j 1) g_way j 2)) g_nums k (va_cpy (h g_nums j) (h g_nums k) 0 0 64)) := by
  refine CT.of (lv := [_, _]) (by decide +kernel) (Nat.le_of_ble_eq_true rfl) rfl ?_
  refine E_aload_n (pc := 0) 0 dX6_become_0 rfl rfl ?_
  refine E_aload_n (pc := 1) 1 dX6_become_1 rfl rfl ?_
  refine E_getI (pc := 2) dX6_become_2 fl_RX6_19 rfl rfl ?_
  refine E_put (pc := 5) dX6_become_5 fp_RX6_19 rfl rfl ?_
  refine E_aload_n (pc := 8) 0 dX6_become_8 rfl rfl ?_
  refine E_aload_n (pc := 9) 1 dX6_become_9 rfl rfl ?_
  refine E_getI (pc := 10) dX6_become_10 fl_RX6_23 rfl rfl ?_
  refine E_put (pc := 13) dX6_become_13 fp_RX6_23 rfl rfl ?_
  refine E_aload_n (pc := 16) 1 dX6_become_16 rfl rfl ?_
  refine E_getR0 (pc := 17) dX6_become_17 fl_RX6_11 rfl rfl ?_
  refine E_iconst (pc := 20) (0) dX6_become_20 (by decide) ?_
  refine E_aload_n (pc := 21) 0 dX6_become_21 rfl rfl ?_
  refine E_getR0 (pc := 22) dX6_become_22 fl_RX6_11 rfl rfl ?_
  refine E_iconst (pc := 25) (0) dX6_become_25 (by decide) ?_
  refine E_aload_n (pc := 26) 0 dX6_become_26 rfl rfl ?_
  refine E_getR0 (pc := 27) dX6_become_27 fl_RX6_11 rfl rfl ?_
  refine E_len (pc := 30) dX6_become_30 rfl ?_
  refine E_copy (pc := 31) dX6_become_31 kc_RX6_26 rfl rfl ⟨Nat.le_of_ble_eq_true rfl, Nat.le_of_ble_eq_true rfl⟩ (by decide) (by decide) (by decide) (by decide) (by decide) ?_
  refine E_vret (pc := 34) dX6_become_34 rfl ?_
  first | exact ⟨rfl, rfl⟩ | exact ⟨by grind [bi], rfl⟩
set_option maxHeartbeats 1600000 in
theorem C_X2_begin {l : Launch} {G : GE} {h : Hp} (hc : ¬ h g_ring 0 3 < 0) (hc2 : (h g_ring 0 3).toNatClampNeg ≤ 12) : CT l G mX2_begin [vR g_ring 0] h (fun r h' => r = none ∧ h' = hsetA h g_now 0 (va_cpy (h g_held 0) (h g_now 0) 0 0 (h g_ring 0 3).toNatClampNeg)) := by
  refine CT.of (lv := [_]) (by decide +kernel) (Nat.le_of_ble_eq_true rfl) rfl ?_
  refine E_aload_n (pc := 0) 0 dX2_begin_0 rfl rfl ?_
  refine E_getR0 (pc := 1) dX2_begin_1 fl_RX2_11 rfl rfl ?_
  refine E_iconst (pc := 4) (0) dX2_begin_4 (by decide) ?_
  refine E_aload_n (pc := 5) 0 dX2_begin_5 rfl rfl ?_
  refine E_getR0 (pc := 6) dX2_begin_6 fl_RX2_15 rfl rfl ?_
  refine E_iconst (pc := 9) (0) dX2_begin_9 (by decide) ?_
  refine E_aload_n (pc := 10) 0 dX2_begin_10 rfl rfl ?_
  refine E_getI (pc := 11) dX2_begin_11 fl_RX2_21 rfl rfl ?_
  refine E_copy (pc := 14) dX2_begin_14 kc_RX2_29 rfl rfl ⟨Nat.le_of_ble_eq_true rfl, Nat.le_of_ble_eq_true rfl⟩ (by decide) (by decide) hc (by simpa using hc2) (by simpa using hc2) ?_
  refine E_vret (pc := 17) dX2_begin_17 rfl ?_
  first | exact ⟨rfl, rfl⟩ | exact ⟨by grind [bi], rfl⟩
set_option maxHeartbeats 1600000 in
theorem C_X2_keep {l : Launch} {G : GE} {h : Hp} (hc : ¬ h g_ring 0 3 < 0) (hc2 : (h g_ring 0 3).toNatClampNeg ≤ 12) : CT l G mX2_keep [vR g_ring 0] h (fun r h' => r = none ∧ h' = hsetA h g_held 0 (va_cpy (h g_now 0) (h g_held 0) 0 0 (h g_ring 0 3).toNatClampNeg)) := by
  refine CT.of (lv := [_]) (by decide +kernel) (Nat.le_of_ble_eq_true rfl) rfl ?_
  refine E_aload_n (pc := 0) 0 dX2_keep_0 rfl rfl ?_
  refine E_getR0 (pc := 1) dX2_keep_1 fl_RX2_15 rfl rfl ?_
  refine E_iconst (pc := 4) (0) dX2_keep_4 (by decide) ?_
  refine E_aload_n (pc := 5) 0 dX2_keep_5 rfl rfl ?_
  refine E_getR0 (pc := 6) dX2_keep_6 fl_RX2_11 rfl rfl ?_
  refine E_iconst (pc := 9) (0) dX2_keep_9 (by decide) ?_
  refine E_aload_n (pc := 10) 0 dX2_keep_10 rfl rfl ?_
  refine E_getI (pc := 11) dX2_keep_11 fl_RX2_21 rfl rfl ?_
  refine E_copy (pc := 14) dX2_keep_14 kc_RX2_29 rfl rfl ⟨Nat.le_of_ble_eq_true rfl, Nat.le_of_ble_eq_true rfl⟩ (by decide) (by decide) hc (by simpa using hc2) (by simpa using hc2) ?_
  refine E_vret (pc := 17) dX2_keep_17 rfl ?_
  first | exact ⟨rfl, rfl⟩ | exact ⟨by grind [bi], rfl⟩
set_option maxHeartbeats 1600000 in
theorem C_X3_setAll {l : Launch} {G : GE} {h : Hp} {t : Nat} (ht : t = g_draft) : CT l G mX3_setAll [vR g_rules 0, vR t 0] h (fun r h' => r = none ∧ h' = hsetA h g_values 0 (va_cpy (h t 0) (h g_values 0) 0 0 18)) := by
  refine CT.of (lv := [_, _]) (by decide +kernel) (Nat.le_of_ble_eq_true rfl) rfl ?_
  subst ht
  refine E_aload_n (pc := 0) 1 dX3_setAll_0 rfl rfl ?_
  refine E_iconst (pc := 1) (0) dX3_setAll_1 (by decide) ?_
  refine E_aload_n (pc := 2) 0 dX3_setAll_2 rfl rfl ?_
  refine E_getR0 (pc := 3) dX3_setAll_3 fl_RX3_11 rfl rfl ?_
  refine E_iconst (pc := 6) (0) dX3_setAll_6 (by decide) ?_
  refine E_bipush (pc := 7) (18) dX3_setAll_7 (by decide) ?_
  refine E_copy (pc := 9) dX3_setAll_9 kc_RX3_18 rfl rfl ⟨Nat.le_of_ble_eq_true rfl, Nat.le_of_ble_eq_true rfl⟩ (by decide) (by decide) (by decide) (by decide) (by decide) ?_
  refine E_vret (pc := 12) dX3_setAll_12 rfl ?_
  first | exact ⟨rfl, rfl⟩ | exact ⟨by grind [bi], rfl⟩
set_option maxHeartbeats 1600000 in
theorem C_X4_begin {l : Launch} {G : GE} {h : Hp} {k : Nat} {a : Int32} {n : Nat} (hn : n ≤ 64) : CT l G mX4_begin [vR g_sheet k, vI a, vI (nI n)] h (fun r h' => r = none ∧ h' = clr (hset (hset h g_sheet k 0 a) g_sheet k 1 (nI n)) g_cells k n) := by
  refine CT.of (lv := [_, _, _, _]) (by decide +kernel) (Nat.le_of_ble_eq_true rfl) rfl ?_
  refine E_aload_n (pc := 0) 0 dX4_begin_0 rfl rfl ?_
  refine E_iload_n (pc := 1) 1 dX4_begin_1 rfl rfl ?_
  refine E_put (pc := 2) dX4_begin_2 fp_RX4_9 rfl rfl ?_
  refine E_aload_n (pc := 5) 0 dX4_begin_5 rfl rfl ?_
  refine E_iload_n (pc := 6) 2 dX4_begin_6 rfl rfl ?_
  refine E_put (pc := 7) dX4_begin_7 fp_RX4_23 rfl rfl ?_
  refine E_iconst (pc := 10) (0) dX4_begin_10 (by decide) ?_
  refine E_istore_n (pc := 11) 3 dX4_begin_11 rfl (Nat.le_of_ble_eq_true rfl) rfl (lz := [_, _, _, _]) rfl ?_
  refine E_heq (clr_0 _ g_cells k).symm ?_
  refine down (P := fun i => Ev l G mX4_begin _ 12 [some (vR g_sheet k), some (vI a), some (vI (nI n)), some (vI (nI i))] [] (clr _ g_cells k i)) n ?_ ?_ 0 (Nat.zero_le _)
  · refine E_iload_n (pc := 12) 3 dX4_begin_12 rfl rfl ?_
    refine E_iload_n (pc := 13) 2 dX4_begin_13 rfl rfl ?_
    refine E_icmp_ge (pc := 14) 30 dX4_begin_14 rfl (fun q14 => ?_) (fun q14 => absurd (Int32.le_refl _) q14)
    refine E_vret (pc := 30) dX4_begin_30 rfl ?_
    first | exact ⟨rfl, rfl⟩ | exact ⟨by grind [bi], rfl⟩
  · intro i hi hh
    refine E_iload_n (pc := 12) 3 dX4_begin_12 rfl rfl ?_
    refine E_iload_n (pc := 13) 2 dX4_begin_13 rfl rfl ?_
    refine E_icmp_ge (pc := 14) 30 dX4_begin_14 rfl (fun q14 => absurd q14 (nI_ge hi (by omega))) (fun q14 => ?_)
    refine E_aload_n (pc := 17) 0 dX4_begin_17 rfl rfl ?_
    refine E_getR0 (pc := 18) dX4_begin_18 fl_RX4_13 rfl rfl ?_
    refine E_iload_n (pc := 21) 3 dX4_begin_21 rfl rfl ?_
    refine E_iconst (pc := 22) (0) dX4_begin_22 (by decide) ?_
    refine E_iast (pc := 23) dX4_begin_23 rfl (vp_in_nI (by omega) (by decide)) ?_
    refine E_iincN (pc := 24) 3 dX4_begin_24 (Nat.le_of_ble_eq_true rfl) rfl rfl (lz := [_, _, _, _]) rfl ?_
    refine E_goto (pc := 27) 12 dX4_begin_27 rfl ?_
    exact E_heq (by rw [ixN_nI (by omega)]; exact clr_s _ _ _ _) hh
set_option maxHeartbeats 1600000 in
theorem C_X4_write {l : Launch} {G : GE} {h : Hp} {k : Nat} {i v : Int32} (hi : vp_in i 64) : CT l G mX4_write [vR g_sheet k, vI i, vI v] h (fun r h' => r = none ∧ h' = hset h g_cells k (ixN i) (if h g_sheet k 0 = 0 then v.toInt8.toInt32 else if h g_sheet k 0 = 1 then v.toInt16.toInt32 else v)) := by
  refine CT.of (lv := [_, _, _]) (by decide +kernel) (Nat.le_of_ble_eq_true rfl) rfl ?_
  refine E_aload_n (pc := 0) 0 dX4_write_0 rfl rfl ?_
  refine E_getI (pc := 1) dX4_write_1 fl_RX4_9 rfl rfl ?_
  refine E_if_ne (pc := 4) 18 dX4_write_4 rfl (fun q4 => ?_) (fun q4 => ?_)
  · refine E_aload_n (pc := 18) 0 dX4_write_18 rfl rfl ?_
    refine E_getI (pc := 19) dX4_write_19 fl_RX4_9 rfl rfl ?_
    refine E_iconst (pc := 22) (1) dX4_write_22 (by decide) ?_
    refine E_icmp_ne (pc := 23) 37 dX4_write_23 rfl (fun q23 => ?_) (fun q23 => ?_)
    · refine E_aload_n (pc := 37) 0 dX4_write_37 rfl rfl ?_
      refine E_getR0 (pc := 38) dX4_write_38 fl_RX4_13 rfl rfl ?_
      refine E_iload_n (pc := 41) 1 dX4_write_41 rfl rfl ?_
      refine E_iload_n (pc := 42) 2 dX4_write_42 rfl rfl ?_
      refine E_iast (pc := 43) dX4_write_43 rfl hi ?_
      refine E_vret (pc := 44) dX4_write_44 rfl ?_
      exact ⟨rfl, by grind⟩
    · refine E_aload_n (pc := 26) 0 dX4_write_26 rfl rfl ?_
      refine E_getR0 (pc := 27) dX4_write_27 fl_RX4_13 rfl rfl ?_
      refine E_iload_n (pc := 30) 1 dX4_write_30 rfl rfl ?_
      refine E_iload_n (pc := 31) 2 dX4_write_31 rfl rfl ?_
      refine E_i2s (pc := 32) dX4_write_32 ?_
      refine E_iast (pc := 33) dX4_write_33 rfl hi ?_
      refine E_goto (pc := 34) 44 dX4_write_34 rfl ?_
      refine E_vret (pc := 44) dX4_write_44 rfl ?_
      exact ⟨rfl, by grind⟩
  · refine E_aload_n (pc := 7) 0 dX4_write_7 rfl rfl ?_
    refine E_getR0 (pc := 8) dX4_write_8 fl_RX4_13 rfl rfl ?_
    refine E_iload_n (pc := 11) 1 dX4_write_11 rfl rfl ?_
    refine E_iload_n (pc := 12) 2 dX4_write_12 rfl rfl ?_
    refine E_i2b (pc := 13) dX4_write_13 ?_
    refine E_iast (pc := 14) dX4_write_14 rfl hi ?_
    refine E_goto (pc := 15) 44 dX4_write_15 rfl ?_
    refine E_vret (pc := 44) dX4_write_44 rfl ?_
    exact ⟨rfl, by grind⟩
set_option maxHeartbeats 1600000 in
theorem C_X4_faultAs {l : Launch} {G : GE} {h : Hp} {k : Nat} {a : Int32} : CT l G mX4_faultAs [vR g_sheet k, vI a] h (fun r h' => r = some (if h g_sheet k 0 = -1 then 1 else if h g_sheet k 0 = a then 0 else 3) ∧ h' = h) := by
  refine CT.of (lv := [_, _]) (by decide +kernel) (Nat.le_of_ble_eq_true rfl) rfl ?_
  refine E_aload_n (pc := 0) 0 dX4_faultAs_0 rfl rfl ?_
  refine E_callV1 (pc := 1) dX4_faultAs_1 C_X4_isNothing rfl kv_RX4_26 rfl rfl rfl ⟨Nat.le_of_ble_eq_true rfl, Nat.le_of_ble_eq_true rfl, Nat.le_of_ble_eq_true rfl, Nat.le_of_ble_eq_true rfl⟩ (Nat.le_of_ble_eq_true rfl) ?_
  refine E_if_eq (pc := 4) 9 dX4_faultAs_4 rfl (fun q4 => ?_) (fun q4 => ?_)
  · refine E_aload_n (pc := 9) 0 dX4_faultAs_9 rfl rfl ?_
    refine E_getI (pc := 10) dX4_faultAs_10 fl_RX4_9 rfl rfl ?_
    refine E_iload_n (pc := 13) 1 dX4_faultAs_13 rfl rfl ?_
    refine E_icmp_ne (pc := 14) 21 dX4_faultAs_14 rfl (fun q14 => ?_) (fun q14 => ?_)
    · refine E_iconst (pc := 21) (3) dX4_faultAs_21 (by decide) ?_
      refine E_iret (pc := 22) dX4_faultAs_22 rfl ?_
      first | exact ⟨rfl, rfl⟩ | exact ⟨by grind [bi], rfl⟩
    · refine E_iconst (pc := 17) (0) dX4_faultAs_17 (by decide) ?_
      refine E_goto (pc := 18) 22 dX4_faultAs_18 rfl ?_
      refine E_iret (pc := 22) dX4_faultAs_22 rfl ?_
      first | exact ⟨rfl, rfl⟩ | exact ⟨by grind [bi], rfl⟩
  · refine E_iconst (pc := 7) (1) dX4_faultAs_7 (by decide) ?_
    refine E_iret (pc := 8) dX4_faultAs_8 rfl ?_
    first | exact ⟨rfl, rfl⟩ | exact ⟨by grind [bi], rfl⟩
set_option maxHeartbeats 1600000 in
theorem C_X2_join {l : Launch} {G : GE} {h : Hp} {w : Int32} (hc : 0 ≤ h g_ring 0 3) : CT l G mX2_join [vR g_ring 0, vI w] h (fun r h' => r = some (bi (h g_ring 0 3 < 12)) ∧ h' = if h g_ring 0 3 < 12 then hset (hset h g_held 0 (ixN (h g_ring 0 3)) w) g_ring 0 3 (h g_ring 0 3 + 1) else h) := by
  refine CT.of (lv := [_, _]) (by decide +kernel) (Nat.le_of_ble_eq_true rfl) rfl ?_
  refine E_aload_n (pc := 0) 0 dX2_join_0 rfl rfl ?_
  refine E_getI (pc := 1) dX2_join_1 fl_RX2_21 rfl rfl ?_
  refine E_bipush (pc := 4) (12) dX2_join_4 (by decide) ?_
  refine E_icmp_lt (pc := 6) 11 dX2_join_6 rfl (fun q6 => ?_) (fun q6 => ?_)
  · refine E_aload_n (pc := 11) 0 dX2_join_11 rfl rfl ?_
    refine E_getR0 (pc := 12) dX2_join_12 fl_RX2_11 rfl rfl ?_
    refine E_aload_n (pc := 15) 0 dX2_join_15 rfl rfl ?_
    refine E_getI (pc := 16) dX2_join_16 fl_RX2_21 rfl rfl ?_
    refine E_iload_n (pc := 19) 1 dX2_join_19 rfl rfl ?_
    refine E_iast (pc := 20) dX2_join_20 rfl (ixl 11 hc (by grind) (by decide)) ?_
    refine E_aload_n (pc := 21) 0 dX2_join_21 rfl rfl ?_
    refine E_dup (pc := 22) dX2_join_22 (fun _ z => by cases z) ?_
    refine E_getI (pc := 23) dX2_join_23 fl_RX2_21 rfl rfl ?_
    refine E_iconst (pc := 26) (1) dX2_join_26 (by decide) ?_
    refine E_iadd (pc := 27) dX2_join_27 ?_
    refine E_put (pc := 28) dX2_join_28 fp_RX2_21 rfl rfl ?_
    refine E_iconst (pc := 31) (1) dX2_join_31 (by decide) ?_
    refine E_zret (pc := 32) dX2_join_32 rfl rfl ?_
    exact ⟨by grind [bi], by rw [if_pos q6]; rfl⟩
  · refine E_iconst (pc := 9) (0) dX2_join_9 (by decide) ?_
    refine E_zret (pc := 10) dX2_join_10 rfl rfl ?_
    exact ⟨by grind [bi], by grind⟩
