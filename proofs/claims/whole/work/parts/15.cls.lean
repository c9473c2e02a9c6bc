/-! the class: small methods -/
set_option maxHeartbeats 1600000 in
theorem C_X7_within {l : Launch} {G : GE} {h : Hp} {v a b : Int32} : CT l G mX7_within [vI v, vI a, vI b] h (fun r h' => r = some (bi (a ≤ v ∧ v ≤ b)) ∧ h' = h) := by
  refine CT.of (lv := [_, _, _]) (by decide +kernel) (Nat.le_of_ble_eq_true rfl) rfl ?_
  refine E_iload_n (pc := 0) 0 dX7_within_0 rfl rfl ?_
  refine E_iload_n (pc := 1) 1 dX7_within_1 rfl rfl ?_
  refine E_icmp_lt (pc := 2) 14 dX7_within_2 rfl (fun q2 => ?_) (fun q2 => ?_)
  · refine E_iconst (pc := 14) (0) dX7_within_14 (by decide) ?_
    refine E_zret (pc := 15) dX7_within_15 rfl (by first | rfl | exact nar_bi) ?_
    first | exact ⟨rfl, rfl⟩ | exact ⟨by grind [bi], rfl⟩
  · refine E_iload_n (pc := 5) 0 dX7_within_5 rfl rfl ?_
    refine E_iload_n (pc := 6) 2 dX7_within_6 rfl rfl ?_
    refine E_icmp_gt (pc := 7) 14 dX7_within_7 rfl (fun q7 => ?_) (fun q7 => ?_)
    · refine E_iconst (pc := 14) (0) dX7_within_14 (by decide) ?_
      refine E_zret (pc := 15) dX7_within_15 rfl (by first | rfl | exact nar_bi) ?_
      first | exact ⟨rfl, rfl⟩ | exact ⟨by grind [bi], rfl⟩
    · refine E_iconst (pc := 10) (1) dX7_within_10 (by decide) ?_
      refine E_goto (pc := 11) 15 dX7_within_11 rfl ?_
      refine E_zret (pc := 15) dX7_within_15 rfl (by first | rfl | exact nar_bi) ?_
      first | exact ⟨rfl, rfl⟩ | exact ⟨by grind [bi], rfl⟩
set_option maxHeartbeats 1600000 in
theorem C_X7_isWayNumber {l : Launch} {G : GE} {h : Hp} {w : Int32} : CT l G mX7_isWayNumber [vI w] h (fun r h' => r = some (bi (0 ≤ w ∧ w ≤ 5)) ∧ h' = h) := by
  refine CT.of (lv := [_]) (by decide +kernel) (Nat.le_of_ble_eq_true rfl) rfl ?_
  refine E_iload_n (pc := 0) 0 dX7_isWayNumber_0 rfl rfl ?_
  refine E_iconst (pc := 1) (0) dX7_isWayNumber_1 (by decide) ?_
  refine E_iconst (pc := 2) (5) dX7_isWayNumber_2 (by decide) ?_
  refine E_callS1 (pc := 3) dX7_isWayNumber_3 C_X7_within rfl ks_RX7_76 rfl ⟨Nat.le_of_ble_eq_true rfl, Nat.le_of_ble_eq_true rfl, Nat.le_of_ble_eq_true rfl, Nat.le_of_ble_eq_true rfl⟩ (Nat.le_of_ble_eq_true rfl) ?_
  refine E_zret (pc := 6) dX7_isWayNumber_6 rfl (by first | rfl | exact nar_bi) ?_
  first | exact ⟨rfl, rfl⟩ | exact ⟨by grind [bi], rfl⟩
set_option maxHeartbeats 1600000 in
theorem C_X7_isPart {l : Launch} {G : GE} {h : Hp} {w : Int32} : CT l G mX7_isPart [vI w] h (fun r h' => r = some (bi (0 ≤ w ∧ w ≤ 3)) ∧ h' = h) := by
  refine CT.of (lv := [_]) (by decide +kernel) (Nat.le_of_ble_eq_true rfl) rfl ?_
  refine E_iload_n (pc := 0) 0 dX7_isPart_0 rfl rfl ?_
  refine E_iconst (pc := 1) (0) dX7_isPart_1 (by decide) ?_
  refine E_iconst (pc := 2) (3) dX7_isPart_2 (by decide) ?_
  refine E_callS1 (pc := 3) dX7_isPart_3 C_X7_within rfl ks_RX7_76 rfl ⟨Nat.le_of_ble_eq_true rfl, Nat.le_of_ble_eq_true rfl, Nat.le_of_ble_eq_true rfl, Nat.le_of_ble_eq_true rfl⟩ (Nat.le_of_ble_eq_true rfl) ?_
  refine E_zret (pc := 6) dX7_isPart_6 rfl (by first | rfl | exact nar_bi) ?_
  first | exact ⟨rfl, rfl⟩ | exact ⟨by grind [bi], rfl⟩
set_option maxHeartbeats 1600000 in
theorem C_X7_isSheet {l : Launch} {G : GE} {h : Hp} {w : Int32} : CT l G mX7_isSheet [vI w] h (fun r h' => r = some (bi (0 ≤ w ∧ w ≤ 3)) ∧ h' = h) := by
  refine CT.of (lv := [_]) (by decide +kernel) (Nat.le_of_ble_eq_true rfl) rfl ?_
  refine E_iload_n (pc := 0) 0 dX7_isSheet_0 rfl rfl ?_
  refine E_iconst (pc := 1) (0) dX7_isSheet_1 (by decide) ?_
  refine E_iconst (pc := 2) (3) dX7_isSheet_2 (by decide) ?_
  refine E_callS1 (pc := 3) dX7_isSheet_3 C_X7_within rfl ks_RX7_76 rfl ⟨Nat.le_of_ble_eq_true rfl, Nat.le_of_ble_eq_true rfl, Nat.le_of_ble_eq_true rfl, Nat.le_of_ble_eq_true rfl⟩ (Nat.le_of_ble_eq_true rfl) ?_
  refine E_zret (pc := 6) dX7_isSheet_6 rfl (by first | rfl | exact nar_bi) ?_
  first | exact ⟨rfl, rfl⟩ | exact ⟨by grind [bi], rfl⟩
set_option maxHeartbeats 1600000 in
theorem C_X4_isLane {l : Launch} {G : GE} {h : Hp} {w : Int32} : CT l G mX4_isLane [vI w] h (fun r h' => r = some (bi (0 ≤ w ∧ w ≤ 2)) ∧ h' = h) := by
  refine CT.of (lv := [_]) (by decide +kernel) (Nat.le_of_ble_eq_true rfl) rfl ?_
  refine E_iload_n (pc := 0) 0 dX4_isLane_0 rfl rfl ?_
  refine E_iconst (pc := 1) (0) dX4_isLane_1 (by decide) ?_
  refine E_iconst (pc := 2) (2) dX4_isLane_2 (by decide) ?_
  refine E_callN1 (pc := 3) dX4_isLane_3 C_X7_within rfl kn_RX4_17 rfl ⟨Nat.le_of_ble_eq_true rfl, Nat.le_of_ble_eq_true rfl, Nat.le_of_ble_eq_true rfl, Nat.le_of_ble_eq_true rfl⟩ (Nat.le_of_ble_eq_true rfl) ?_
  refine E_zret (pc := 6) dX4_isLane_6 rfl (by first | rfl | exact nar_bi) ?_
  first | exact ⟨rfl, rfl⟩ | exact ⟨by grind [bi], rfl⟩
set_option maxHeartbeats 1600000 in
theorem C_X6_isNumber {l : Launch} {G : GE} {h : Hp} {w : Int32} : CT l G mX6_isNumber [vI w] h (fun r h' => r = some (bi (-9 ≤ w ∧ w ≤ 9)) ∧ h' = h) := by
  refine CT.of (lv := [_]) (by decide +kernel) (Nat.le_of_ble_eq_true rfl) rfl ?_
  refine E_iload_n (pc := 0) 0 dX6_isNumber_0 rfl rfl ?_
  refine E_bipush (pc := 1) (-9) dX6_isNumber_1 (by decide) ?_
  refine E_bipush (pc := 3) (9) dX6_isNumber_3 (by decide) ?_
  refine E_callN1 (pc := 5) dX6_isNumber_5 C_X7_within rfl kn_RX6_15 rfl ⟨Nat.le_of_ble_eq_true rfl, Nat.le_of_ble_eq_true rfl, Nat.le_of_ble_eq_true rfl, Nat.le_of_ble_eq_true rfl⟩ (Nat.le_of_ble_eq_true rfl) ?_
  refine E_zret (pc := 8) dX6_isNumber_8 rfl (by first | rfl | exact nar_bi) ?_
  first | exact ⟨rfl, rfl⟩ | exact ⟨by grind [bi], rfl⟩
set_option maxHeartbeats 1600000 in
theorem C_X6_canHave {l : Launch} {G : GE} {h : Hp} {n f : Int32} : CT l G mX6_canHave [vI n, vI f] h (fun r h' => r = some (bi ((2 ≤ n ∧ n ≤ 8) ∧ 1 ≤ f ∧ f ≤ 2)) ∧ h' = h) := by
  refine CT.of (lv := [_, _]) (by decide +kernel) (Nat.le_of_ble_eq_true rfl) rfl ?_
  refine E_iload_n (pc := 0) 0 dX6_canHave_0 rfl rfl ?_
  refine E_iconst (pc := 1) (2) dX6_canHave_1 (by decide) ?_
  refine E_bipush (pc := 2) (8) dX6_canHave_2 (by decide) ?_
  refine E_callN1 (pc := 4) dX6_canHave_4 C_X7_within rfl kn_RX6_15 rfl ⟨Nat.le_of_ble_eq_true rfl, Nat.le_of_ble_eq_true rfl, Nat.le_of_ble_eq_true rfl, Nat.le_of_ble_eq_true rfl⟩ (Nat.le_of_ble_eq_true rfl) ?_
  refine E_if_eq (pc := 7) 23 dX6_canHave_7 rfl (fun q7 => ?_) (fun q7 => ?_)
  · refine E_iconst (pc := 23) (0) dX6_canHave_23 (by decide) ?_
    refine E_zret (pc := 24) dX6_canHave_24 rfl (by first | rfl | exact nar_bi) ?_
    first | exact ⟨rfl, rfl⟩ | exact ⟨by grind [bi], rfl⟩
  · refine E_iload_n (pc := 10) 1 dX6_canHave_10 rfl rfl ?_
    refine E_iconst (pc := 11) (1) dX6_canHave_11 (by decide) ?_
    refine E_iconst (pc := 12) (2) dX6_canHave_12 (by decide) ?_
    refine E_callN1 (pc := 13) dX6_canHave_13 C_X7_within rfl kn_RX6_15 rfl ⟨Nat.le_of_ble_eq_true rfl, Nat.le_of_ble_eq_true rfl, Nat.le_of_ble_eq_true rfl, Nat.le_of_ble_eq_true rfl⟩ (Nat.le_of_ble_eq_true rfl) ?_
    refine E_if_eq (pc := 16) 23 dX6_canHave_16 rfl (fun q16 => ?_) (fun q16 => ?_)
    · refine E_iconst (pc := 23) (0) dX6_canHave_23 (by decide) ?_
      refine E_zret (pc := 24) dX6_canHave_24 rfl (by first | rfl | exact nar_bi) ?_
      first | exact ⟨rfl, rfl⟩ | exact ⟨by grind [bi], rfl⟩
    · refine E_iconst (pc := 19) (1) dX6_canHave_19 (by decide) ?_
      refine E_goto (pc := 20) 24 dX6_canHave_20 rfl ?_
      refine E_zret (pc := 24) dX6_canHave_24 rfl (by first | rfl | exact nar_bi) ?_
      first | exact ⟨rfl, rfl⟩ | exact ⟨by grind [bi], rfl⟩
set_option maxHeartbeats 1600000 in
theorem C_X6_spot {l : Launch} {G : GE} {h : Hp} {t p : Int32} : CT l G mX6_spot [vI t, vI p] h (fun r h' => r = some (8 * t + 2 * p) ∧ h' = h) := by
  refine CT.of (lv := [_, _]) (by decide +kernel) (Nat.le_of_ble_eq_true rfl) rfl ?_
  refine E_bipush (pc := 0) (8) dX6_spot_0 (by decide) ?_
  refine E_iload_n (pc := 2) 0 dX6_spot_2 rfl rfl ?_
  refine E_imul (pc := 3) dX6_spot_3 ?_
  refine E_iconst (pc := 4) (2) dX6_spot_4 (by decide) ?_
  refine E_iload_n (pc := 5) 1 dX6_spot_5 rfl rfl ?_
  refine E_imul (pc := 6) dX6_spot_6 ?_
  refine E_iadd (pc := 7) dX6_spot_7 ?_
  refine E_iret (pc := 8) dX6_spot_8 rfl ?_
  first | exact ⟨rfl, rfl⟩ | exact ⟨by grind [bi], rfl⟩
set_option maxHeartbeats 1600000 in
theorem C_X6_step {l : Launch} {G : GE} {h : Hp} {c : Int32} : CT l G mX6_step [vI c] h (fun r h' => r = some (if c &&& 1 = 0 then 1 else -1) ∧ h' = h) := by
  refine CT.of (lv := [_]) (by decide +kernel) (Nat.le_of_ble_eq_true rfl) rfl ?_
  refine E_iload_n (pc := 0) 0 dX6_step_0 rfl rfl ?_
  refine E_iconst (pc := 1) (1) dX6_step_1 (by decide) ?_
  refine E_iand (pc := 2) dX6_step_2 ?_
  refine E_if_ne (pc := 3) 10 dX6_step_3 rfl (fun q3 => ?_) (fun q3 => ?_)
  · refine E_iconst (pc := 10) (-1) dX6_step_10 (by decide) ?_
    refine E_iret (pc := 11) dX6_step_11 rfl ?_
    first | exact ⟨rfl, rfl⟩ | exact ⟨by grind [bi], rfl⟩
  · refine E_iconst (pc := 6) (1) dX6_step_6 (by decide) ?_
    refine E_goto (pc := 7) 11 dX6_step_7 rfl ?_
    refine E_iret (pc := 11) dX6_step_11 rfl ?_
    first | exact ⟨rfl, rfl⟩ | exact ⟨by grind [bi], rfl⟩
set_option maxHeartbeats 1600000 in
theorem C_X7_cube {l : Launch} {G : GE} {h : Hp} {v : Int32} : CT l G mX7_cube [vI v] h (fun r h' => r = some (v * v * v) ∧ h' = h) := by
  refine CT.of (lv := [_]) (by decide +kernel) (Nat.le_of_ble_eq_true rfl) rfl ?_
  refine E_iload_n (pc := 0) 0 dX7_cube_0 rfl rfl ?_
  refine E_iload_n (pc := 1) 0 dX7_cube_1 rfl rfl ?_
  refine E_imul (pc := 2) dX7_cube_2 ?_
  refine E_iload_n (pc := 3) 0 dX7_cube_3 rfl rfl ?_
  refine E_imul (pc := 4) dX7_cube_4 ?_
  refine E_iret (pc := 5) dX7_cube_5 rfl ?_
  first | exact ⟨rfl, rfl⟩ | exact ⟨by grind [bi], rfl⟩
set_option maxHeartbeats 1600000 in
theorem C_X1_isLetter {l : Launch} {G : GE} {h : Hp} {w : Int32} : CT l G mX1_isLetter [vI w] h (fun r h' => r = some (bi (97 ≤ w ∧ w ≤ 122)) ∧ h' = h) := by
  refine CT.of (lv := [_]) (by decide +kernel) (Nat.le_of_ble_eq_true rfl) rfl ?_
  refine E_iload_n (pc := 0) 0 dX1_isLetter_0 rfl rfl ?_
  refine E_bipush (pc := 1) (97) dX1_isLetter_1 (by decide) ?_
  refine E_bipush (pc := 3) (122) dX1_isLetter_3 (by decide) ?_
  refine E_callN1 (pc := 5) dX1_isLetter_5 C_X7_within rfl kn_RX1_61 rfl ⟨Nat.le_of_ble_eq_true rfl, Nat.le_of_ble_eq_true rfl, Nat.le_of_ble_eq_true rfl, Nat.le_of_ble_eq_true rfl⟩ (Nat.le_of_ble_eq_true rfl) ?_
  refine E_zret (pc := 8) dX1_isLetter_8 rfl (by first | rfl | exact nar_bi) ?_
  first | exact ⟨rfl, rfl⟩ | exact ⟨by grind [bi], rfl⟩
set_option maxHeartbeats 1600000 in
theorem C_X1_isFigure {l : Launch} {G : GE} {h : Hp} {w : Int32} : CT l G mX1_isFigure [vI w] h (fun r h' => r = some (bi (48 ≤ w ∧ w ≤ 57)) ∧ h' = h) := by
  refine CT.of (lv := [_]) (by decide +kernel) (Nat.le_of_ble_eq_true rfl) rfl ?_
  refine E_iload_n (pc := 0) 0 dX1_isFigure_0 rfl rfl ?_
  refine E_bipush (pc := 1) (48) dX1_isFigure_1 (by decide) ?_
  refine E_bipush (pc := 3) (57) dX1_isFigure_3 (by decide) ?_
  refine E_callN1 (pc := 5) dX1_isFigure_5 C_X7_within rfl kn_RX1_61 rfl ⟨Nat.le_of_ble_eq_true rfl, Nat.le_of_ble_eq_true rfl, Nat.le_of_ble_eq_true rfl, Nat.le_of_ble_eq_true rfl⟩ (Nat.le_of_ble_eq_true rfl) ?_
  refine E_zret (pc := 8) dX1_isFigure_8 rfl (by first | rfl | exact nar_bi) ?_
  first | exact ⟨rfl, rfl⟩ | exact ⟨by grind [bi], rfl⟩
set_option maxHeartbeats 1600000 in
theorem C_X7_dividedDown {l : Launch} {G : GE} {h : Hp} {v d : Int32} : CT l G mX7_dividedDown [vI v, vI d] h (fun r h' => r = some (if d < 1 then 0 else fdiv v d) ∧ h' = h) := by
  refine CT.of (lv := [_, _]) (by decide +kernel) (Nat.le_of_ble_eq_true rfl) rfl ?_
  refine E_iload_n (pc := 0) 1 dX7_dividedDown_0 rfl rfl ?_
  refine E_iconst (pc := 1) (1) dX7_dividedDown_1 (by decide) ?_
  refine E_icmp_ge (pc := 2) 9 dX7_dividedDown_2 rfl (fun q2 => ?_) (fun q2 => ?_)
  · refine E_iload_n (pc := 9) 0 dX7_dividedDown_9 rfl rfl ?_
    refine E_iload_n (pc := 10) 1 dX7_dividedDown_10 rfl rfl ?_
    refine E_callS1 (pc := 11) dX7_dividedDown_11 (C_J9_floorDiv_7cf53 (by grind)) rfl ks_RX7_335 rfl ⟨Nat.le_of_ble_eq_true rfl, Nat.le_of_ble_eq_true rfl, Nat.le_of_ble_eq_true rfl, Nat.le_of_ble_eq_true rfl⟩ (Nat.le_of_ble_eq_true rfl) ?_
    refine E_iret (pc := 14) dX7_dividedDown_14 rfl ?_
    first | exact ⟨rfl, rfl⟩ | exact ⟨by grind [bi], rfl⟩
  · refine E_iconst (pc := 5) (0) dX7_dividedDown_5 (by decide) ?_
    refine E_goto (pc := 6) 14 dX7_dividedDown_6 rfl ?_
    refine E_iret (pc := 14) dX7_dividedDown_14 rfl ?_
    first | exact ⟨rfl, rfl⟩ | exact ⟨by grind [bi], rfl⟩
def gSlips (high bar d : Int32) : Int32 := if 0 < (if high - bar + 1 < d + 1 then high - bar + 1 else d + 1) then (if high - bar + 1 < d + 1 then high - bar + 1 else d + 1) else 0
set_option maxHeartbeats 1600000 in
theorem C_X7_goodSlips {l : Launch} {G : GE} {h : Hp} {high bar d : Int32} : CT l G mX7_goodSlips [vI high, vI bar, vI d] h (fun r h' => r = some (gSlips high bar d) ∧ h' = h) := by
  refine CT.of (lv := [_, _, _]) (by decide +kernel) (Nat.le_of_ble_eq_true rfl) rfl ?_
  refine E_iconst (pc := 0) (0) dX7_goodSlips_0 (by decide) ?_
  refine E_iload_n (pc := 1) 2 dX7_goodSlips_1 rfl rfl ?_
  refine E_iconst (pc := 2) (1) dX7_goodSlips_2 (by decide) ?_
  refine E_iadd (pc := 3) dX7_goodSlips_3 ?_
  refine E_iload_n (pc := 4) 0 dX7_goodSlips_4 rfl rfl ?_
  refine E_iload_n (pc := 5) 1 dX7_goodSlips_5 rfl rfl ?_
  refine E_isub (pc := 6) dX7_goodSlips_6 ?_
  refine E_iconst (pc := 7) (1) dX7_goodSlips_7 (by decide) ?_
  refine E_iadd (pc := 8) dX7_goodSlips_8 ?_
  refine E_callS1 (pc := 9) dX7_goodSlips_9 C_J9_min_7cf53 rfl ks_RX7_224 rfl ⟨Nat.le_of_ble_eq_true rfl, Nat.le_of_ble_eq_true rfl, Nat.le_of_ble_eq_true rfl, Nat.le_of_ble_eq_true rfl⟩ (Nat.le_of_ble_eq_true rfl) ?_
  refine E_callS1 (pc := 12) dX7_goodSlips_12 C_J9_max_7cf53 rfl ks_RX7_332 rfl ⟨Nat.le_of_ble_eq_true rfl, Nat.le_of_ble_eq_true rfl, Nat.le_of_ble_eq_true rfl, Nat.le_of_ble_eq_true rfl⟩ (Nat.le_of_ble_eq_true rfl) ?_
  refine E_iret (pc := 15) dX7_goodSlips_15 rfl ?_
  first | exact ⟨rfl, rfl⟩ | exact ⟨by grind [bi], rfl⟩
set_option maxHeartbeats 1600000 in
theorem C_X7_goodInThree {l : Launch} {G : GE} {h : Hp} {high bar d : Int32} : CT l G mX7_goodInThree [vI high, vI bar, vI d] h (fun r h' => r = some ((d + 1) * (d + 1) * (d + 1) - (d + 1 - gSlips high bar d) * (d + 1 - gSlips high bar d) * (d + 1 - gSlips high bar d)) ∧ h' = h) := by
  refine CT.of (lv := [_, _, _]) (by decide +kernel) (Nat.le_of_ble_eq_true rfl) rfl ?_
  refine E_iload_n (pc := 0) 2 dX7_goodInThree_0 rfl rfl ?_
  refine E_iconst (pc := 1) (1) dX7_goodInThree_1 (by decide) ?_
  refine E_iadd (pc := 2) dX7_goodInThree_2 ?_
  refine E_callS1 (pc := 3) dX7_goodInThree_3 C_X7_cube rfl ks_RX7_270 rfl ⟨Nat.le_of_ble_eq_true rfl, Nat.le_of_ble_eq_true rfl, Nat.le_of_ble_eq_true rfl, Nat.le_of_ble_eq_true rfl⟩ (Nat.le_of_ble_eq_true rfl) ?_
  refine E_iload_n (pc := 6) 2 dX7_goodInThree_6 rfl rfl ?_
  refine E_iconst (pc := 7) (1) dX7_goodInThree_7 (by decide) ?_
  refine E_iadd (pc := 8) dX7_goodInThree_8 ?_
  refine E_iload_n (pc := 9) 0 dX7_goodInThree_9 rfl rfl ?_
  refine E_iload_n (pc := 10) 1 dX7_goodInThree_10 rfl rfl ?_
  refine E_iload_n (pc := 11) 2 dX7_goodInThree_11 rfl rfl ?_
  refine E_callS1 (pc := 12) dX7_goodInThree_12 C_X7_goodSlips rfl ks_RX7_273 rfl ⟨Nat.le_of_ble_eq_true rfl, Nat.le_of_ble_eq_true rfl, Nat.le_of_ble_eq_true rfl, Nat.le_of_ble_eq_true rfl⟩ (Nat.le_of_ble_eq_true rfl) ?_
  refine E_isub (pc := 15) dX7_goodInThree_15 ?_
  refine E_callS1 (pc := 16) dX7_goodInThree_16 C_X7_cube rfl ks_RX7_270 rfl ⟨Nat.le_of_ble_eq_true rfl, Nat.le_of_ble_eq_true rfl, Nat.le_of_ble_eq_true rfl, Nat.le_of_ble_eq_true rfl⟩ (Nat.le_of_ble_eq_true rfl) ?_
  refine E_isub (pc := 19) dX7_goodInThree_19 ?_
  refine E_iret (pc := 20) dX7_goodInThree_20 rfl ?_
  first | exact ⟨rfl, rfl⟩ | exact ⟨by grind [bi], rfl⟩
set_option maxHeartbeats 1600000 in
theorem C_X4_isNothing {l : Launch} {G : GE} {h : Hp} {k : Nat} : CT l G mX4_isNothing [vR g_sheet k] h (fun r h' => r = some (bi (h g_sheet k 0 = -1)) ∧ h' = h) := by
  refine CT.of (lv := [_]) (by decide +kernel) (Nat.le_of_ble_eq_true rfl) rfl ?_
  refine E_aload_n (pc := 0) 0 dX4_isNothing_0 rfl rfl ?_
  refine E_getI (pc := 1) dX4_isNothing_1 fl_RX4_9 rfl rfl ?_
  refine E_iconst (pc := 4) (-1) dX4_isNothing_4 (by decide) ?_
  refine E_icmp_ne (pc := 5) 12 dX4_isNothing_5 rfl (fun q5 => ?_) (fun q5 => ?_)
  · refine E_iconst (pc := 12) (0) dX4_isNothing_12 (by decide) ?_
    refine E_zret (pc := 13) dX4_isNothing_13 rfl (by first | rfl | exact nar_bi) ?_
    first | exact ⟨rfl, rfl⟩ | exact ⟨by grind [bi], rfl⟩
  · refine E_iconst (pc := 8) (1) dX4_isNothing_8 (by decide) ?_
    refine E_goto (pc := 9) 13 dX4_isNothing_9 rfl ?_
    refine E_zret (pc := 13) dX4_isNothing_13 rfl (by first | rfl | exact nar_bi) ?_
    first | exact ⟨rfl, rfl⟩ | exact ⟨by grind [bi], rfl⟩
set_option maxHeartbeats 1600000 in
theorem C_X4_hasCell {l : Launch} {G : GE} {h : Hp} {k : Nat} {i : Int32} : CT l G mX4_hasCell [vR g_sheet k, vI i] h (fun r h' => r = some (bi (0 ≤ i ∧ i ≤ h g_sheet k 1 - 1)) ∧ h' = h) := by
  refine CT.of (lv := [_, _]) (by decide +kernel) (Nat.le_of_ble_eq_true rfl) rfl ?_
  refine E_iload_n (pc := 0) 1 dX4_hasCell_0 rfl rfl ?_
  refine E_iconst (pc := 1) (0) dX4_hasCell_1 (by decide) ?_
  refine E_aload_n (pc := 2) 0 dX4_hasCell_2 rfl rfl ?_
  refine E_getI (pc := 3) dX4_hasCell_3 fl_RX4_23 rfl rfl ?_
  refine E_iconst (pc := 6) (1) dX4_hasCell_6 (by decide) ?_
  refine E_isub (pc := 7) dX4_hasCell_7 ?_
  refine E_callN1 (pc := 8) dX4_hasCell_8 C_X7_within rfl kn_RX4_17 rfl ⟨Nat.le_of_ble_eq_true rfl, Nat.le_of_ble_eq_true rfl, Nat.le_of_ble_eq_true rfl, Nat.le_of_ble_eq_true rfl⟩ (Nat.le_of_ble_eq_true rfl) ?_
  refine E_zret (pc := 11) dX4_hasCell_11 rfl (by first | rfl | exact nar_bi) ?_
  first | exact ⟨rfl, rfl⟩ | exact ⟨by grind [bi], rfl⟩
set_option maxHeartbeats 1600000 in
theorem C_X2_has {l : Launch} {G : GE} {h : Hp} {i : Int32} : CT l G mX2_has [vR g_ring 0, vI i] h (fun r h' => r = some (bi (0 ≤ i ∧ i ≤ h g_ring 0 3 - 1)) ∧ h' = h) := by
  refine CT.of (lv := [_, _]) (by decide +kernel) (Nat.le_of_ble_eq_true rfl) rfl ?_
  refine E_iload_n (pc := 0) 1 dX2_has_0 rfl rfl ?_
  refine E_iconst (pc := 1) (0) dX2_has_1 (by decide) ?_
  refine E_aload_n (pc := 2) 0 dX2_has_2 rfl rfl ?_
  refine E_getI (pc := 3) dX2_has_3 fl_RX2_21 rfl rfl ?_
  refine E_iconst (pc := 6) (1) dX2_has_6 (by decide) ?_
  refine E_isub (pc := 7) dX2_has_7 ?_
  refine E_callN1 (pc := 8) dX2_has_8 C_X7_within rfl kn_RX2_25 rfl ⟨Nat.le_of_ble_eq_true rfl, Nat.le_of_ble_eq_true rfl, Nat.le_of_ble_eq_true rfl, Nat.le_of_ble_eq_true rfl⟩ (Nat.le_of_ble_eq_true rfl) ?_
  refine E_zret (pc := 11) dX2_has_11 rfl (by first | rfl | exact nar_bi) ?_
  first | exact ⟨rfl, rfl⟩ | exact ⟨by grind [bi], rfl⟩
set_option maxHeartbeats 1600000 in
theorem C_X6_countNumbers {l : Launch} {G : GE} {h : Hp} {k : Nat} : CT l G mX6_countNumbers [vR g_way k] h (fun r h' => r = some (8 * h g_way k 1) ∧ h' = h) := by
  refine CT.of (lv := [_]) (by decide +kernel) (Nat.le_of_ble_eq_true rfl) rfl ?_
  refine E_bipush (pc := 0) (8) dX6_countNumbers_0 (by decide) ?_
  refine E_aload_n (pc := 2) 0 dX6_countNumbers_2 rfl rfl ?_
  refine E_getI (pc := 3) dX6_countNumbers_3 fl_RX6_19 rfl rfl ?_
  refine E_imul (pc := 6) dX6_countNumbers_6 ?_
  refine E_iret (pc := 7) dX6_countNumbers_7 rfl ?_
  first | exact ⟨rfl, rfl⟩ | exact ⟨by grind [bi], rfl⟩
set_option maxHeartbeats 1600000 in
theorem C_X7_fault {l : Launch} {G : GE} {h : Hp}  : CT l G mX7_fault [vR g_oab 0] h (fun r h' => r = some (h g_reader 0 3) ∧ h' = h) := by
  refine CT.of (lv := [_]) (by decide +kernel) (Nat.le_of_ble_eq_true rfl) rfl ?_
  refine E_aload_n (pc := 0) 0 dX7_fault_0 rfl rfl ?_
  refine E_getR0 (pc := 1) dX7_fault_1 fl_RX7_19 rfl rfl ?_
  refine E_getI (pc := 4) dX7_fault_4 fl_RX7_84 rfl rfl ?_
  refine E_iret (pc := 7) dX7_fault_7 rfl ?_
  first | exact ⟨rfl, rfl⟩ | exact ⟨by grind [bi], rfl⟩
set_option maxHeartbeats 1600000 in
theorem C_X7_torn {l : Launch} {G : GE} {h : Hp}  : CT l G mX7_torn [vR g_oab 0] h (fun r h' => r = some (h g_oab 0 9) ∧ h' = h) := by
  refine CT.of (lv := [_]) (by decide +kernel) (Nat.le_of_ble_eq_true rfl) rfl ?_
  refine E_aload_n (pc := 0) 0 dX7_torn_0 rfl rfl ?_
  refine E_getI (pc := 1) dX7_torn_1 fl_RX7_312 rfl rfl ?_
  refine E_iret (pc := 4) dX7_torn_4 rfl ?_
  first | exact ⟨rfl, rfl⟩ | exact ⟨by grind [bi], rfl⟩
set_option maxHeartbeats 1600000 in
theorem C_X3_total {l : Launch} {G : GE} {h : Hp}  : CT l G mX3_total [vR g_rules 0] h (fun r h' => r = some (h g_values 0 0 + h g_values 0 1 + h g_values 0 2 + h g_values 0 3) ∧ h' = h) := by
  refine CT.of (lv := [_, _, _]) (by decide +kernel) (Nat.le_of_ble_eq_true rfl) rfl ?_
  refine E_iconst (pc := 0) (0) dX3_total_0 (by decide) ?_
  refine E_istore_n (pc := 1) 1 dX3_total_1 rfl (Nat.le_of_ble_eq_true rfl) rfl (lz := [_, _, _]) rfl ?_
  refine E_iconst (pc := 2) (0) dX3_total_2 (by decide) ?_
  refine E_istore_n (pc := 3) 2 dX3_total_3 rfl (Nat.le_of_ble_eq_true rfl) rfl (lz := [_, _, _]) rfl ?_
  refine E_iload_n (pc := 4) 2 dX3_total_4 rfl rfl ?_
  refine E_iconst (pc := 5) (4) dX3_total_5 (by decide) ?_
  refine E_icmp_ge (pc := 6) 24 dX3_total_6 rfl (fun q6 => absurd q6 (by decide)) (fun _ => ?_)
  refine E_iload_n (pc := 9) 1 dX3_total_9 rfl rfl ?_
  refine E_aload_n (pc := 10) 0 dX3_total_10 rfl rfl ?_
  refine E_getR0 (pc := 11) dX3_total_11 fl_RX3_11 rfl rfl ?_
  refine E_iload_n (pc := 14) 2 dX3_total_14 rfl rfl ?_
  refine E_iald (pc := 15) dX3_total_15 rfl (by unfold vp_in; decide) ?_
  refine E_iadd (pc := 16) dX3_total_16 ?_
  refine E_istore_n (pc := 17) 1 dX3_total_17 rfl (Nat.le_of_ble_eq_true rfl) rfl (lz := [_, _, _]) rfl ?_
  refine E_iincN (pc := 18) 2 dX3_total_18 (Nat.le_of_ble_eq_true rfl) rfl rfl (lz := [_, _, _]) rfl ?_
  refine E_goto (pc := 21) 4 dX3_total_21 rfl ?_
  refine E_iload_n (pc := 4) 2 dX3_total_4 rfl rfl ?_
  refine E_iconst (pc := 5) (4) dX3_total_5 (by decide) ?_
  refine E_icmp_ge (pc := 6) 24 dX3_total_6 rfl (fun q6 => absurd q6 (by decide)) (fun _ => ?_)
  refine E_iload_n (pc := 9) 1 dX3_total_9 rfl rfl ?_
  refine E_aload_n (pc := 10) 0 dX3_total_10 rfl rfl ?_
  refine E_getR0 (pc := 11) dX3_total_11 fl_RX3_11 rfl rfl ?_
  refine E_iload_n (pc := 14) 2 dX3_total_14 rfl rfl ?_
  refine E_iald (pc := 15) dX3_total_15 rfl (by unfold vp_in; decide) ?_
  refine E_iadd (pc := 16) dX3_total_16 ?_
  refine E_istore_n (pc := 17) 1 dX3_total_17 rfl (Nat.le_of_ble_eq_true rfl) rfl (lz := [_, _, _]) rfl ?_
  refine E_iincN (pc := 18) 2 dX3_total_18 (Nat.le_of_ble_eq_true rfl) rfl rfl (lz := [_, _, _]) rfl ?_
  refine E_goto (pc := 21) 4 dX3_total_21 rfl ?_
  refine E_iload_n (pc := 4) 2 dX3_total_4 rfl rfl ?_
  refine E_iconst (pc := 5) (4) dX3_total_5 (by decide) ?_
  refine E_icmp_ge (pc := 6) 24 dX3_total_6 rfl (fun q6 => absurd q6 (by decide)) (fun _ => ?_)
  refine E_iload_n (pc := 9) 1 dX3_total_9 rfl rfl ?_
  refine E_aload_n (pc := 10) 0 dX3_total_10 rfl rfl ?_
  refine E_getR0 (pc := 11) dX3_total_11 fl_RX3_11 rfl rfl ?_
  refine E_iload_n (pc := 14) 2 dX3_total_14 rfl rfl ?_
  refine E_iald (pc := 15) dX3_total_15 rfl (by unfold vp_in; decide) ?_
  refine E_iadd (pc := 16) dX3_total_16 ?_
  refine E_istore_n (pc := 17) 1 dX3_total_17 rfl (Nat.le_of_ble_eq_true rfl) rfl (lz := [_, _, _]) rfl ?_
  refine E_iincN (pc := 18) 2 dX3_total_18 (Nat.le_of_ble_eq_true rfl) rfl rfl (lz := [_, _, _]) rfl ?_
  refine E_goto (pc := 21) 4 dX3_total_21 rfl ?_
  refine E_iload_n (pc := 4) 2 dX3_total_4 rfl rfl ?_
  refine E_iconst (pc := 5) (4) dX3_total_5 (by decide) ?_
  refine E_icmp_ge (pc := 6) 24 dX3_total_6 rfl (fun q6 => absurd q6 (by decide)) (fun _ => ?_)
  refine E_iload_n (pc := 9) 1 dX3_total_9 rfl rfl ?_
  refine E_aload_n (pc := 10) 0 dX3_total_10 rfl rfl ?_
  refine E_getR0 (pc := 11) dX3_total_11 fl_RX3_11 rfl rfl ?_
  refine E_iload_n (pc := 14) 2 dX3_total_14 rfl rfl ?_
  refine E_iald (pc := 15) dX3_total_15 rfl (by unfold vp_in; decide) ?_
  refine E_iadd (pc := 16) dX3_total_16 ?_
  refine E_istore_n (pc := 17) 1 dX3_total_17 rfl (Nat.le_of_ble_eq_true rfl) rfl (lz := [_, _, _]) rfl ?_
  refine E_iincN (pc := 18) 2 dX3_total_18 (Nat.le_of_ble_eq_true rfl) rfl rfl (lz := [_, _, _]) rfl ?_
  refine E_goto (pc := 21) 4 dX3_total_21 rfl ?_
  refine E_iload_n (pc := 4) 2 dX3_total_4 rfl rfl ?_
  refine E_iconst (pc := 5) (4) dX3_total_5 (by decide) ?_
  refine E_icmp_ge (pc := 6) 24 dX3_total_6 rfl (fun _ => ?_) (fun q6 => absurd q6 (by decide))
  refine E_iload_n (pc := 24) 1 dX3_total_24 rfl rfl ?_
  refine E_iret (pc := 25) dX3_total_25 rfl ?_
  exact ⟨by rw [Int32.zero_add]; rfl, rfl⟩
set_option maxHeartbeats 1600000 in
theorem C_X3_middleAt {l : Launch} {G : GE} {h : Hp} {t ax : Int32} : CT l G mX3_middleAt [vR g_rules 0, vI t, vI ax] h (fun r h' => r = some (if ax = 0 then h g_values 0 8 * t - h g_values 0 10 else h g_values 0 11 + h g_values 0 7 * t - h g_values 0 9 * t * t) ∧ h' = h) := by
  refine CT.of (lv := [_, _, _]) (by decide +kernel) (Nat.le_of_ble_eq_true rfl) rfl ?_
  refine E_iload_n (pc := 0) 2 dX3_middleAt_0 rfl rfl ?_
  refine E_if_ne (pc := 1) 22 dX3_middleAt_1 rfl (fun q1 => ?_) (fun q1 => ?_)
  · refine E_aload_n (pc := 22) 0 dX3_middleAt_22 rfl rfl ?_
    refine E_getR0 (pc := 23) dX3_middleAt_23 fl_RX3_11 rfl rfl ?_
    refine E_bipush (pc := 26) (11) dX3_middleAt_26 (by decide) ?_
    refine E_iald (pc := 28) dX3_middleAt_28 rfl (by unfold vp_in; decide) ?_
    refine E_aload_n (pc := 29) 0 dX3_middleAt_29 rfl rfl ?_
    refine E_getR0 (pc := 30) dX3_middleAt_30 fl_RX3_11 rfl rfl ?_
    refine E_bipush (pc := 33) (7) dX3_middleAt_33 (by decide) ?_
    refine E_iald (pc := 35) dX3_middleAt_35 rfl (by unfold vp_in; decide) ?_
    refine E_iload_n (pc := 36) 1 dX3_middleAt_36 rfl rfl ?_
    refine E_imul (pc := 37) dX3_middleAt_37 ?_
    refine E_iadd (pc := 38) dX3_middleAt_38 ?_
    refine E_aload_n (pc := 39) 0 dX3_middleAt_39 rfl rfl ?_
    refine E_getR0 (pc := 40) dX3_middleAt_40 fl_RX3_11 rfl rfl ?_
    refine E_bipush (pc := 43) (9) dX3_middleAt_43 (by decide) ?_
    refine E_iald (pc := 45) dX3_middleAt_45 rfl (by unfold vp_in; decide) ?_
    refine E_iload_n (pc := 46) 1 dX3_middleAt_46 rfl rfl ?_
    refine E_imul (pc := 47) dX3_middleAt_47 ?_
    refine E_iload_n (pc := 48) 1 dX3_middleAt_48 rfl rfl ?_
    refine E_imul (pc := 49) dX3_middleAt_49 ?_
    refine E_isub (pc := 50) dX3_middleAt_50 ?_
    refine E_iret (pc := 51) dX3_middleAt_51 rfl ?_
    first | exact ⟨rfl, rfl⟩ | exact ⟨by grind [bi], rfl⟩
  · refine E_aload_n (pc := 4) 0 dX3_middleAt_4 rfl rfl ?_
    refine E_getR0 (pc := 5) dX3_middleAt_5 fl_RX3_11 rfl rfl ?_
    refine E_bipush (pc := 8) (8) dX3_middleAt_8 (by decide) ?_
    refine E_iald (pc := 10) dX3_middleAt_10 rfl (by unfold vp_in; decide) ?_
    refine E_iload_n (pc := 11) 1 dX3_middleAt_11 rfl rfl ?_
    refine E_imul (pc := 12) dX3_middleAt_12 ?_
    refine E_aload_n (pc := 13) 0 dX3_middleAt_13 rfl rfl ?_
    refine E_getR0 (pc := 14) dX3_middleAt_14 fl_RX3_11 rfl rfl ?_
    refine E_bipush (pc := 17) (10) dX3_middleAt_17 (by decide) ?_
    refine E_iald (pc := 19) dX3_middleAt_19 rfl (by unfold vp_in; decide) ?_
    refine E_isub (pc := 20) dX3_middleAt_20 ?_
    refine E_iret (pc := 21) dX3_middleAt_21 rfl ?_
    first | exact ⟨rfl, rfl⟩ | exact ⟨by grind [bi], rfl⟩
