/-! THE MODEL: small methods -/
theorem i64_le {a b : Int32} : a.toInt64 ≤ b.toInt64 ↔ a ≤ b := by
  rw [Int64.le_iff_toInt_le, Int32.le_iff_toInt_le, Int32.toInt_toInt64, Int32.toInt_toInt64]
theorem cmp_lt {x : Int32} {a : Int32} {A : Int64} (ha : A = a.toInt64) : lg_cmp x.toInt64 A < 0 ↔ ¬ a ≤ x := by
  rw [lg_cmp_lt, ha, ← Int64.not_le, i64_le]
theorem cmp_gt {x : Int32} {a : Int32} {A : Int64} (ha : A = a.toInt64) : 0 < lg_cmp x.toInt64 A ↔ ¬ x ≤ a := by
  rw [lg_cmp_gt, ha, ← Int64.not_le, i64_le]
set_option maxHeartbeats 1600000 in
theorem C_X8_in {l : Launch} {G : GE} {h : Hp} {x a b : Int32} {A B : Int64} (ha : A = a.toInt64) (hb : B = b.toInt64) : CT l G mX8_in [vL x.toInt64, vL A, vL B] h (fun r h' => r = some (bi (a ≤ x ∧ x ≤ b)) ∧ h' = h) := by
  refine CT.of (lv := [_, _, _, _, _, _]) (by decide +kernel) (Nat.le_of_ble_eq_true rfl) rfl ?_
  refine E_lload_n (pc := 0) 0 dX8_in_0 rfl rfl ?_
  refine E_lload_n (pc := 1) 2 dX8_in_1 rfl rfl ?_
  refine E_lcmp (pc := 2) dX8_in_2 ?_
  refine E_if_lt (pc := 3) 17 dX8_in_3 rfl (fun q3 => ?_) (fun q3 => ?_)
  · have hq := (cmp_lt ha).mp q3
    refine E_iconst (pc := 17) (0) dX8_in_17 (by decide) ?_
    refine E_zret (pc := 18) dX8_in_18 rfl rfl ?_
    exact ⟨by grind [bi], rfl⟩
  · have hq := mt (cmp_lt ha).mpr q3
    refine E_lload_n (pc := 6) 0 dX8_in_6 rfl rfl ?_
    refine E_lload (pc := 7) 4 dX8_in_7 rfl ?_
    refine E_lcmp (pc := 9) dX8_in_9 ?_
    refine E_if_gt (pc := 10) 17 dX8_in_10 rfl (fun q10 => ?_) (fun q10 => ?_)
    · have hq2 := (cmp_gt hb).mp q10
      refine E_iconst (pc := 17) (0) dX8_in_17 (by decide) ?_
      refine E_zret (pc := 18) dX8_in_18 rfl rfl ?_
      exact ⟨by grind [bi], rfl⟩
    · have hq2 := mt (cmp_gt hb).mpr q10
      refine E_iconst (pc := 13) (1) dX8_in_13 (by decide) ?_
      refine E_goto (pc := 14) 18 dX8_in_14 rfl ?_
      refine E_zret (pc := 18) dX8_in_18 rfl rfl ?_
      exact ⟨by grind [bi], rfl⟩
set_option maxHeartbeats 1600000 in
theorem C_X8_inL {l : Launch} {G : GE} {h : Hp} {x A B : Int64} : CT l G mX8_in [vL x, vL A, vL B] h (fun r h' => r = some (bi (A ≤ x ∧ x ≤ B)) ∧ h' = h) := by
  refine CT.of (lv := [_, _, _, _, _, _]) (by decide +kernel) (Nat.le_of_ble_eq_true rfl) rfl ?_
  refine E_lload_n (pc := 0) 0 dX8_in_0 rfl rfl ?_
  refine E_lload_n (pc := 1) 2 dX8_in_1 rfl rfl ?_
  refine E_lcmp (pc := 2) dX8_in_2 ?_
  refine E_if_lt (pc := 3) 17 dX8_in_3 rfl (fun q3 => ?_) (fun q3 => ?_)
  · have hq := mt Int64.not_lt.mpr (not_not_intro ((lg_cmp_lt _ _).mp q3))
    refine E_iconst (pc := 17) (0) dX8_in_17 (by decide) ?_
    refine E_zret (pc := 18) dX8_in_18 rfl rfl ?_
    exact ⟨by grind [bi], rfl⟩
  · have hq := Int64.not_lt.mp (mt (lg_cmp_lt _ _).mpr q3)
    refine E_lload_n (pc := 6) 0 dX8_in_6 rfl rfl ?_
    refine E_lload (pc := 7) 4 dX8_in_7 rfl ?_
    refine E_lcmp (pc := 9) dX8_in_9 ?_
    refine E_if_gt (pc := 10) 17 dX8_in_10 rfl (fun q10 => ?_) (fun q10 => ?_)
    · have hq2 := mt Int64.not_lt.mpr (not_not_intro ((lg_cmp_gt _ _).mp q10))
      refine E_iconst (pc := 17) (0) dX8_in_17 (by decide) ?_
      refine E_zret (pc := 18) dX8_in_18 rfl rfl ?_
      exact ⟨by grind [bi], rfl⟩
    · have hq2 := Int64.not_lt.mp (mt (lg_cmp_gt _ _).mpr q10)
      refine E_iconst (pc := 13) (1) dX8_in_13 (by decide) ?_
      refine E_goto (pc := 14) 18 dX8_in_14 rfl ?_
      refine E_zret (pc := 18) dX8_in_18 rfl rfl ?_
      exact ⟨by grind [bi], rfl⟩
set_option maxHeartbeats 1600000 in
theorem C_X8_isNumber {l : Launch} {G : GE} {h : Hp} {w : Int32} : CT l G mX8_isNumber [vI w] h (fun r h' => r = some (bi (0 ≤ w ∧ w ≤ 5)) ∧ h' = h) := by
  refine CT.of (lv := [_]) (by decide +kernel) (Nat.le_of_ble_eq_true rfl) rfl ?_
  refine E_iload_n (pc := 0) 0 dX8_isNumber_0 rfl rfl ?_
  refine E_i2l (pc := 1) dX8_isNumber_1 ?_
  refine E_lconst (pc := 2) (0) dX8_isNumber_2 (by decide) ?_
  refine E_ldc2 (pc := 3) (5) dX8_isNumber_3 kk_RX8_133 ?_
  refine E_callS1 (pc := 6) dX8_isNumber_6 (C_X8_in (a := 0) (b := 5) (by decide) (by decide)) rfl ks_RX8_71 rfl ⟨Nat.le_of_ble_eq_true rfl, Nat.le_of_ble_eq_true rfl, Nat.le_of_ble_eq_true rfl, Nat.le_of_ble_eq_true rfl⟩ (Nat.le_of_ble_eq_true rfl) ?_
  refine E_zret (pc := 9) dX8_isNumber_9 rfl (by first | rfl | exact nar_bi) ?_
  first | exact ⟨rfl, rfl⟩ | exact ⟨by grind [bi], rfl⟩
set_option maxHeartbeats 1600000 in
theorem C_X8_isPart {l : Launch} {G : GE} {h : Hp} {w : Int32} : CT l G mX8_isPart [vI w] h (fun r h' => r = some (bi (0 ≤ w ∧ w ≤ 3)) ∧ h' = h) := by
  refine CT.of (lv := [_]) (by decide +kernel) (Nat.le_of_ble_eq_true rfl) rfl ?_
  refine E_iload_n (pc := 0) 0 dX8_isPart_0 rfl rfl ?_
  refine E_i2l (pc := 1) dX8_isPart_1 ?_
  refine E_lconst (pc := 2) (0) dX8_isPart_2 (by decide) ?_
  refine E_ldc2 (pc := 3) (3) dX8_isPart_3 kk_RX8_142 ?_
  refine E_callS1 (pc := 6) dX8_isPart_6 (C_X8_in (a := 0) (b := 3) (by decide) (by decide)) rfl ks_RX8_71 rfl ⟨Nat.le_of_ble_eq_true rfl, Nat.le_of_ble_eq_true rfl, Nat.le_of_ble_eq_true rfl, Nat.le_of_ble_eq_true rfl⟩ (Nat.le_of_ble_eq_true rfl) ?_
  refine E_zret (pc := 9) dX8_isPart_9 rfl (by first | rfl | exact nar_bi) ?_
  first | exact ⟨rfl, rfl⟩ | exact ⟨by grind [bi], rfl⟩
set_option maxHeartbeats 1600000 in
theorem C_X8_isJumper {l : Launch} {G : GE} {h : Hp} {w : Int32} : CT l G mX8_isJumper [vR g_model 0, vI w] h (fun r h' => r = some (bi (0 ≤ w ∧ w ≤ h g_model 0 22 - 1)) ∧ h' = h) := by
  refine CT.of (lv := [_, _]) (by decide +kernel) (Nat.le_of_ble_eq_true rfl) rfl ?_
  refine E_iload_n (pc := 0) 1 dX8_isJumper_0 rfl rfl ?_
  refine E_i2l (pc := 1) dX8_isJumper_1 ?_
  refine E_lconst (pc := 2) (0) dX8_isJumper_2 (by decide) ?_
  refine E_aload_n (pc := 3) 0 dX8_isJumper_3 rfl rfl ?_
  refine E_getI (pc := 4) dX8_isJumper_4 fl_RX8_242 rfl rfl ?_
  refine E_iconst (pc := 7) (1) dX8_isJumper_7 (by decide) ?_
  refine E_isub (pc := 8) dX8_isJumper_8 ?_
  refine E_i2l (pc := 9) dX8_isJumper_9 ?_
  refine E_callS1 (pc := 10) dX8_isJumper_10 (C_X8_in (a := 0) (by decide) rfl) rfl ks_RX8_71 rfl ⟨Nat.le_of_ble_eq_true rfl, Nat.le_of_ble_eq_true rfl, Nat.le_of_ble_eq_true rfl, Nat.le_of_ble_eq_true rfl⟩ (Nat.le_of_ble_eq_true rfl) ?_
  refine E_zret (pc := 13) dX8_isJumper_13 rfl (by first | rfl | exact nar_bi) ?_
  first | exact ⟨rfl, rfl⟩ | exact ⟨by grind [bi], rfl⟩
set_option maxHeartbeats 1600000 in
theorem C_X8_fault {l : Launch} {G : GE} {h : Hp}  : CT l G mX8_fault [vR g_model 0] h (fun r h' => r = some (h g_model 0 2) ∧ h' = h) := by
  refine CT.of (lv := [_]) (by decide +kernel) (Nat.le_of_ble_eq_true rfl) rfl ?_
  refine E_aload_n (pc := 0) 0 dX8_fault_0 rfl rfl ?_
  refine E_getI (pc := 1) dX8_fault_1 fl_RX8_128 rfl rfl ?_
  refine E_iret (pc := 4) dX8_fault_4 rfl ?_
  first | exact ⟨rfl, rfl⟩ | exact ⟨by grind [bi], rfl⟩
set_option maxHeartbeats 1600000 in
theorem C_X8_torn {l : Launch} {G : GE} {h : Hp}  : CT l G mX8_torn [vR g_model 0] h (fun r h' => r = some (h g_model 0 29) ∧ h' = h) := by
  refine CT.of (lv := [_]) (by decide +kernel) (Nat.le_of_ble_eq_true rfl) rfl ?_
  refine E_aload_n (pc := 0) 0 dX8_torn_0 rfl rfl ?_
  refine E_getI (pc := 1) dX8_torn_1 fl_RX8_273 rfl rfl ?_
  refine E_iret (pc := 4) dX8_torn_4 rfl ?_
  first | exact ⟨rfl, rfl⟩ | exact ⟨by grind [bi], rfl⟩
set_option maxHeartbeats 1600000 in
theorem C_X8_size {l : Launch} {G : GE} {h : Hp} {v : Int32} : CT l G mX8_size [vI v] h (fun r h' => r = some (absI v) ∧ h' = h) := by
  refine CT.of (lv := [_]) (by decide +kernel) (Nat.le_of_ble_eq_true rfl) rfl ?_
  refine E_iload_n (pc := 0) 0 dX8_size_0 rfl rfl ?_
  refine E_if_ge (pc := 1) 9 dX8_size_1 rfl (fun q1 => ?_) (fun q1 => ?_)
  · refine E_iload_n (pc := 9) 0 dX8_size_9 rfl rfl ?_
    refine E_iret (pc := 10) dX8_size_10 rfl ?_
    exact ⟨by grind [absI], rfl⟩
  · refine E_iload_n (pc := 4) 0 dX8_size_4 rfl rfl ?_
    refine E_ineg (pc := 5) dX8_size_5 ?_
    refine E_goto (pc := 6) 10 dX8_size_6 rfl ?_
    refine E_iret (pc := 10) dX8_size_10 rfl ?_
    exact ⟨by grind [absI], rfl⟩
set_option maxHeartbeats 1600000 in
theorem C_X8_doesBear {l : Launch} {G : GE} {h : Hp} {pit part : Int32} : CT l G mX8_doesBear [vI pit, vI part] h (fun r h' => r = some (bi (pit = 2 ∨ part = 3 ∨ pit = 1 ∧ part = 2)) ∧ h' = h) := by
  refine CT.of (lv := [_, _]) (by decide +kernel) (Nat.le_of_ble_eq_true rfl) rfl ?_
  refine E_iload_n (pc := 0) 0 dX8_doesBear_0 rfl rfl ?_
  refine E_iconst (pc := 1) (2) dX8_doesBear_1 (by decide) ?_
  refine E_icmp_eq (pc := 2) 20 dX8_doesBear_2 rfl (fun q2 => ?_) (fun q2 => ?_)
  · refine E_iconst (pc := 20) (1) dX8_doesBear_20 (by decide) ?_
    refine E_goto (pc := 21) 25 dX8_doesBear_21 rfl ?_
    refine E_zret (pc := 25) dX8_doesBear_25 rfl (by first | rfl | exact nar_bi) ?_
    first | exact ⟨rfl, rfl⟩ | exact ⟨by grind [bi], rfl⟩
  · refine E_iload_n (pc := 5) 1 dX8_doesBear_5 rfl rfl ?_
    refine E_iconst (pc := 6) (3) dX8_doesBear_6 (by decide) ?_
    refine E_icmp_eq (pc := 7) 20 dX8_doesBear_7 rfl (fun q7 => ?_) (fun q7 => ?_)
    · refine E_iconst (pc := 20) (1) dX8_doesBear_20 (by decide) ?_
      refine E_goto (pc := 21) 25 dX8_doesBear_21 rfl ?_
      refine E_zret (pc := 25) dX8_doesBear_25 rfl (by first | rfl | exact nar_bi) ?_
      first | exact ⟨rfl, rfl⟩ | exact ⟨by grind [bi], rfl⟩
    · refine E_iload_n (pc := 10) 0 dX8_doesBear_10 rfl rfl ?_
      refine E_iconst (pc := 11) (1) dX8_doesBear_11 (by decide) ?_
      refine E_icmp_ne (pc := 12) 24 dX8_doesBear_12 rfl (fun q12 => ?_) (fun q12 => ?_)
      · refine E_iconst (pc := 24) (0) dX8_doesBear_24 (by decide) ?_
        refine E_zret (pc := 25) dX8_doesBear_25 rfl (by first | rfl | exact nar_bi) ?_
        first | exact ⟨rfl, rfl⟩ | exact ⟨by grind [bi], rfl⟩
      · refine E_iload_n (pc := 15) 1 dX8_doesBear_15 rfl rfl ?_
        refine E_iconst (pc := 16) (2) dX8_doesBear_16 (by decide) ?_
        refine E_icmp_ne (pc := 17) 24 dX8_doesBear_17 rfl (fun q17 => ?_) (fun q17 => ?_)
        · refine E_iconst (pc := 24) (0) dX8_doesBear_24 (by decide) ?_
          refine E_zret (pc := 25) dX8_doesBear_25 rfl (by first | rfl | exact nar_bi) ?_
          first | exact ⟨rfl, rfl⟩ | exact ⟨by grind [bi], rfl⟩
        · refine E_iconst (pc := 20) (1) dX8_doesBear_20 (by decide) ?_
          refine E_goto (pc := 21) 25 dX8_doesBear_21 rfl ?_
          refine E_zret (pc := 25) dX8_doesBear_25 rfl (by first | rfl | exact nar_bi) ?_
          first | exact ⟨rfl, rfl⟩ | exact ⟨by grind [bi], rfl⟩
set_option maxHeartbeats 1600000 in
theorem C_X8_isWay {l : Launch} {G : GE} {h : Hp} {w : Int32} : CT l G mX8_isWay [vR g_model 0, vI w] h (fun r h' => r = some (bi ((0 ≤ w ∧ w ≤ 5) ∧ 0 < h g_m_tenths 0 (ixN w))) ∧ h' = h) := by
  refine CT.of (lv := [_, _]) (by decide +kernel) (Nat.le_of_ble_eq_true rfl) rfl ?_
  refine E_iload_n (pc := 0) 1 dX8_isWay_0 rfl rfl ?_
  refine E_callS1 (pc := 1) dX8_isWay_1 C_X8_isNumber rfl ks_RX8_135 rfl ⟨Nat.le_of_ble_eq_true rfl, Nat.le_of_ble_eq_true rfl, Nat.le_of_ble_eq_true rfl, Nat.le_of_ble_eq_true rfl⟩ (Nat.le_of_ble_eq_true rfl) ?_
  refine E_if_eq (pc := 4) 20 dX8_isWay_4 rfl (fun q4 => ?_) (fun q4 => ?_)
  · refine E_iconst (pc := 20) (0) dX8_isWay_20 (by decide) ?_
    refine E_zret (pc := 21) dX8_isWay_21 rfl (by first | rfl | exact nar_bi) ?_
    first | exact ⟨rfl, rfl⟩ | exact ⟨by grind [bi], rfl⟩
  · refine E_aload_n (pc := 7) 0 dX8_isWay_7 rfl rfl ?_
    refine E_getR0 (pc := 8) dX8_isWay_8 fl_RX8_37 rfl rfl ?_
    refine E_iload_n (pc := 11) 1 dX8_isWay_11 rfl rfl ?_
    refine E_iald (pc := 12) dX8_isWay_12 rfl (ixl 5 (by grind [bi]) (by grind [bi]) (by decide)) ?_
    refine E_if_le (pc := 13) 20 dX8_isWay_13 rfl (fun q13 => ?_) (fun q13 => ?_)
    · refine E_iconst (pc := 20) (0) dX8_isWay_20 (by decide) ?_
      refine E_zret (pc := 21) dX8_isWay_21 rfl (by first | rfl | exact nar_bi) ?_
      first | exact ⟨rfl, rfl⟩ | exact ⟨by grind [bi], rfl⟩
    · refine E_iconst (pc := 16) (1) dX8_isWay_16 (by decide) ?_
      refine E_goto (pc := 17) 21 dX8_isWay_17 rfl ?_
      refine E_zret (pc := 21) dX8_isWay_21 rfl (by first | rfl | exact nar_bi) ?_
      first | exact ⟨rfl, rfl⟩ | exact ⟨by grind [bi], rfl⟩
set_option maxHeartbeats 1600000 in
theorem C_X8_isTenth {l : Launch} {G : GE} {h : Hp} {w t : Int32} : CT l G mX8_isTenth [vR g_model 0, vI w, vI t] h (fun r h' => r = some (bi (((0 ≤ w ∧ w ≤ 5) ∧ 0 < h g_m_tenths 0 (ixN w)) ∧ 0 ≤ t ∧ t ≤ h g_m_tenths 0 (ixN w) - 1)) ∧ h' = h) := by
  refine CT.of (lv := [_, _, _]) (by decide +kernel) (Nat.le_of_ble_eq_true rfl) rfl ?_
  refine E_aload_n (pc := 0) 0 dX8_isTenth_0 rfl rfl ?_
  refine E_iload_n (pc := 1) 1 dX8_isTenth_1 rfl rfl ?_
  refine E_callV1 (pc := 2) dX8_isTenth_2 C_X8_isWay rfl kv_RX8_139 rfl rfl rfl ⟨Nat.le_of_ble_eq_true rfl, Nat.le_of_ble_eq_true rfl, Nat.le_of_ble_eq_true rfl, Nat.le_of_ble_eq_true rfl⟩ (Nat.le_of_ble_eq_true rfl) ?_
  refine E_if_eq (pc := 5) 30 dX8_isTenth_5 rfl (fun q5 => ?_) (fun q5 => ?_)
  · refine E_iconst (pc := 30) (0) dX8_isTenth_30 (by decide) ?_
    refine E_zret (pc := 31) dX8_isTenth_31 rfl (by first | rfl | exact nar_bi) ?_
    first | exact ⟨rfl, rfl⟩ | exact ⟨by grind [bi], rfl⟩
  · refine E_iload_n (pc := 8) 2 dX8_isTenth_8 rfl rfl ?_
    refine E_i2l (pc := 9) dX8_isTenth_9 ?_
    refine E_lconst (pc := 10) (0) dX8_isTenth_10 (by decide) ?_
    refine E_aload_n (pc := 11) 0 dX8_isTenth_11 rfl rfl ?_
    refine E_getR0 (pc := 12) dX8_isTenth_12 fl_RX8_37 rfl rfl ?_
    refine E_iload_n (pc := 15) 1 dX8_isTenth_15 rfl rfl ?_
    refine E_iald (pc := 16) dX8_isTenth_16 rfl (ixl 5 (by grind [bi]) (by grind [bi]) (by decide)) ?_
    refine E_iconst (pc := 17) (1) dX8_isTenth_17 (by decide) ?_
    refine E_isub (pc := 18) dX8_isTenth_18 ?_
    refine E_i2l (pc := 19) dX8_isTenth_19 ?_
    refine E_callS1 (pc := 20) dX8_isTenth_20 (C_X8_in (a := 0) (by decide) rfl) rfl ks_RX8_71 rfl ⟨Nat.le_of_ble_eq_true rfl, Nat.le_of_ble_eq_true rfl, Nat.le_of_ble_eq_true rfl, Nat.le_of_ble_eq_true rfl⟩ (Nat.le_of_ble_eq_true rfl) ?_
    refine E_if_eq (pc := 23) 30 dX8_isTenth_23 rfl (fun q23 => ?_) (fun q23 => ?_)
    · refine E_iconst (pc := 30) (0) dX8_isTenth_30 (by decide) ?_
      refine E_zret (pc := 31) dX8_isTenth_31 rfl (by first | rfl | exact nar_bi) ?_
      first | exact ⟨rfl, rfl⟩ | exact ⟨by grind [bi], rfl⟩
    · refine E_iconst (pc := 26) (1) dX8_isTenth_26 (by decide) ?_
      refine E_goto (pc := 27) 31 dX8_isTenth_27 rfl ?_
      refine E_zret (pc := 31) dX8_isTenth_31 rfl (by first | rfl | exact nar_bi) ?_
      first | exact ⟨rfl, rfl⟩ | exact ⟨by grind [bi], rfl⟩
set_option maxHeartbeats 1600000 in
theorem C_X8_end {l : Launch} {G : GE} {h : Hp} {n : Int32} : CT l G mX8_end [vR g_model 0, vI n] h (fun r h' => r = some (if 0 ≤ n ∧ n ≤ h g_model 0 1 then h g_model 0 1 else -1) ∧ h' = if 0 ≤ n ∧ n ≤ h g_model 0 1 then hset h g_model 0 1 n else h) := by
  refine CT.of (lv := [_, _, _]) (by decide +kernel) (Nat.le_of_ble_eq_true rfl) rfl ?_
  refine E_iload_n (pc := 0) 1 dX8_end_0 rfl rfl ?_
  refine E_i2l (pc := 1) dX8_end_1 ?_
  refine E_lconst (pc := 2) (0) dX8_end_2 (by decide) ?_
  refine E_aload_n (pc := 3) 0 dX8_end_3 rfl rfl ?_
  refine E_getI (pc := 4) dX8_end_4 fl_RX8_67 rfl rfl ?_
  refine E_i2l (pc := 7) dX8_end_7 ?_
  refine E_callS1 (pc := 8) dX8_end_8 (C_X8_in (a := 0) (by decide) rfl) rfl ks_RX8_71 rfl ⟨Nat.le_of_ble_eq_true rfl, Nat.le_of_ble_eq_true rfl, Nat.le_of_ble_eq_true rfl, Nat.le_of_ble_eq_true rfl⟩ (Nat.le_of_ble_eq_true rfl) ?_
  refine E_if_ne (pc := 11) 16 dX8_end_11 rfl (fun q11 => ?_) (fun q11 => ?_)
  · refine E_aload_n (pc := 16) 0 dX8_end_16 rfl rfl ?_
    refine E_getI (pc := 17) dX8_end_17 fl_RX8_67 rfl rfl ?_
    refine E_istore_n (pc := 20) 2 dX8_end_20 rfl (Nat.le_of_ble_eq_true rfl) rfl (lz := [_, _, _]) rfl ?_
    refine E_aload_n (pc := 21) 0 dX8_end_21 rfl rfl ?_
    refine E_iload_n (pc := 22) 1 dX8_end_22 rfl rfl ?_
    refine E_put (pc := 23) dX8_end_23 fp_RX8_67 rfl rfl ?_
    refine E_iload_n (pc := 26) 2 dX8_end_26 rfl rfl ?_
    refine E_iret (pc := 27) dX8_end_27 rfl ?_
    exact ⟨by grind [bi], by grind [bi]⟩
  · refine E_iconst (pc := 14) (-1) dX8_end_14 (by decide) ?_
    refine E_iret (pc := 15) dX8_end_15 rfl ?_
    exact ⟨by grind [bi], by grind [bi]⟩
set_option maxHeartbeats 1600000 in
theorem C_X8_rule {l : Launch} {G : GE} {h : Hp} {n : Int32} : CT l G mX8_rule [vR g_model 0, vI n] h (fun r h' => r = some (if 0 ≤ n ∧ n ≤ 17 then h g_m_holds 0 (ixN n) else -1) ∧ h' = h) := by
  refine CT.of (lv := [_, _]) (by decide +kernel) (Nat.le_of_ble_eq_true rfl) rfl ?_
  refine E_iload_n (pc := 0) 1 dX8_rule_0 rfl rfl ?_
  refine E_i2l (pc := 1) dX8_rule_1 ?_
  refine E_lconst (pc := 2) (0) dX8_rule_2 (by decide) ?_
  refine E_ldc2 (pc := 3) (17) dX8_rule_3 kk_RX8_131 ?_
  refine E_callS1 (pc := 6) dX8_rule_6 (C_X8_in (a := 0) (b := 17) (by decide) (by decide)) rfl ks_RX8_71 rfl ⟨Nat.le_of_ble_eq_true rfl, Nat.le_of_ble_eq_true rfl, Nat.le_of_ble_eq_true rfl, Nat.le_of_ble_eq_true rfl⟩ (Nat.le_of_ble_eq_true rfl) ?_
  refine E_if_eq (pc := 9) 21 dX8_rule_9 rfl (fun q9 => ?_) (fun q9 => ?_)
  · refine E_iconst (pc := 21) (-1) dX8_rule_21 (by decide) ?_
    refine E_iret (pc := 22) dX8_rule_22 rfl ?_
    exact ⟨by grind [bi], by grind [bi]⟩
  · refine E_aload_n (pc := 12) 0 dX8_rule_12 rfl rfl ?_
    refine E_getR0 (pc := 13) dX8_rule_13 fl_RX8_28 rfl rfl ?_
    refine E_iload_n (pc := 16) 1 dX8_rule_16 rfl rfl ?_
    refine E_iald (pc := 17) dX8_rule_17 rfl (ixl 17 (by grind [bi]) (by grind [bi]) (by decide)) ?_
    refine E_goto (pc := 18) 22 dX8_rule_18 rfl ?_
    refine E_iret (pc := 22) dX8_rule_22 rfl ?_
    exact ⟨by grind [bi], by grind [bi]⟩
theorem nI_64 (w i : Nat) : 64 * nI w + nI i = nI (64 * w + i) := by rw [show (64 : Int32) = nI 64 from rfl, pk_mul, nI_add]
set_option maxHeartbeats 1600000 in
theorem C_X8_clear {l : Launch} {G : GE} {h : Hp} {w : Nat} (hw : w ≤ 5) : CT l G mX8_clear [vR g_model 0, vI (nI w)] h (fun r h' => r = none ∧ h' = fed (fun _ => 0) h g_m_numbers (64 * w) 64) := by
  refine CT.of (lv := [_, _, _]) (by decide +kernel) (Nat.le_of_ble_eq_true rfl) rfl ?_
  refine E_iconst (pc := 0) (0) dX8_clear_0 (by decide) ?_
  refine E_istore_n (pc := 1) 2 dX8_clear_1 rfl (Nat.le_of_ble_eq_true rfl) rfl (lz := [_, _, _]) rfl ?_
  refine E_heq (fed_0 (fun _ => 0) h g_m_numbers (64 * w)).symm ?_
  refine down (P := fun i => Ev l G mX8_clear _ 2 [some (vR g_model 0), some (vI (nI w)), some (vI (nI i))] [] (fed (fun _ => 0) h g_m_numbers (64 * w) i)) 64 ?_ ?_ 0 (Nat.zero_le _)
  · refine E_iload_n (pc := 2) 2 dX8_clear_2 rfl rfl ?_
    refine E_bipush (pc := 3) (64) dX8_clear_3 (by decide) ?_
    refine E_icmp_ge (pc := 5) 26 dX8_clear_5 rfl (fun q5 => ?_) (fun q5 => absurd (show (64 : Int32) ≤ 64 by decide) q5)
    refine E_vret (pc := 26) dX8_clear_26 rfl ?_
    first | exact ⟨rfl, rfl⟩ | exact ⟨by grind [bi], rfl⟩
  · intro i hi hn
    refine E_iload_n (pc := 2) 2 dX8_clear_2 rfl rfl ?_
    refine E_bipush (pc := 3) (64) dX8_clear_3 (by decide) ?_
    refine E_icmp_ge (pc := 5) 26 dX8_clear_5 rfl (fun q5 => absurd q5 (nI_ge (b := 64) hi (by decide))) (fun q5 => ?_)
    refine E_aload_n (pc := 8) 0 dX8_clear_8 rfl rfl ?_
    refine E_getR0 (pc := 9) dX8_clear_9 fl_RX8_34 rfl rfl ?_
    refine E_bipush (pc := 12) (64) dX8_clear_12 (by decide) ?_
    refine E_iload_n (pc := 14) 1 dX8_clear_14 rfl rfl ?_
    refine E_imul (pc := 15) dX8_clear_15 ?_
    refine E_iload_n (pc := 16) 2 dX8_clear_16 rfl rfl ?_
    refine E_iadd (pc := 17) dX8_clear_17 ?_
    refine E_top (nI_64 w i) ?_
    refine E_iconst (pc := 18) (0) dX8_clear_18 (by decide) ?_
    refine E_iast (pc := 19) dX8_clear_19 rfl (vp_in_nI (by omega) (by decide)) ?_
    refine E_iincN (pc := 20) 2 dX8_clear_20 (Nat.le_of_ble_eq_true rfl) rfl rfl (lz := [_, _, _]) rfl ?_
    refine E_goto (pc := 23) 2 dX8_clear_23 rfl ?_
    exact E_heq (by rw [ixN_nI (by omega)]; exact fed_s (fun _ => 0) h g_m_numbers (64 * w) i) hn
