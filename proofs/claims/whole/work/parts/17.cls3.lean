/-! the class: tape; public calls that are short -/
def byC (v : Int64) (i : Nat) : Int32 := ((v.toUInt64 >>> ((56 - 8 * nI i).toInt64.toUInt64 &&& Int64.toUInt64 63)).toInt64).toInt32 &&& 255
/-- a row with the bytes of v from L on, i of them laid -/
def fed (by' : Nat → Int32) (h : Hp) (t L i : Nat) : Hp := hsetA h t 0 (fun j => if L ≤ j ∧ j < L + i then by' (j - L) else h t 0 j)
theorem fed_0 (by' : Nat → Int32) (h : Hp) (t L : Nat) : fed by' h t L 0 = h := by
  unfold fed
  rw [show (fun j => if L ≤ j ∧ j < L + 0 then by' (j - L) else h t 0 j) = h t 0 from by funext j; rw [if_neg (by omega)]]
  exact hsetA_self h t 0
theorem fed_s (by' : Nat → Int32) (h : Hp) (t L i : Nat) : hset (fed by' h t L i) t 0 (L + i) (by' i) = fed by' h t L (i + 1) := by
  unfold fed
  rw [hset_hsetA]
  congr 1
  funext j
  unfold upd
  show (if j = L + i then by' i else if L ≤ j ∧ j < L + i then by' (j - L) else h t 0 j) = if L ≤ j ∧ j < L + (i + 1) then by' (j - L) else h t 0 j
  by_cases h1 : j = L + i
  · rw [if_pos h1, if_pos (by omega), show j - L = i by omega]
  · by_cases h2 : L ≤ j ∧ j < L + i
    · rw [if_neg h1, if_pos h2, if_pos (by omega)]
    · rw [if_neg h1, if_neg h2, if_neg (by omega)]
theorem fed_t (by' : Nat → Int32) (h : Hp) (t L i : Nat) {t' i' : Nat} (hne : (t', i') ≠ (t, 0)) : fed by' h t L i t' i' = h t' i' := hsetA_other hne
set_option maxHeartbeats 1600000 in
theorem C_X5_addEight {l : Launch} {G : GE} {h : Hp} {v : Int64} {L : Nat} (hL : h g_tape 0 1 = nI L) (hL2 : L ≤ 200) : CT l G mX5_addEight [vR g_tape 0, vL v] h (fun r h' => r = some (bi (L ≤ 192)) ∧ h' = if L ≤ 192 then hset (fed (byC v) h g_tapeB L 8) g_tape 0 1 (nI (L + 8)) else h) := by
  refine CT.of (lv := [_, _, _, _]) (by decide +kernel) (Nat.le_of_ble_eq_true rfl) rfl ?_
  refine E_aload_n (pc := 0) 0 dX5_addEight_0 rfl rfl ?_
  refine E_getI (pc := 1) dX5_addEight_1 fl_RX5_13 rfl rfl ?_
  refine E_bipush (pc := 4) (8) dX5_addEight_4 (by decide) ?_
  refine E_iadd (pc := 6) dX5_addEight_6 ?_
  refine E_sipush (pc := 7) (200) dX5_addEight_7 (by decide) ?_
  refine E_eq (st' := [vI 200, vI (nI (L + 8))]) rfl (by rw [hL, show (8 : Int32) = nI 8 from rfl, nI_add]) rfl ?_
  refine E_icmp_le (pc := 10) 15 dX5_addEight_10 rfl (fun q10 => ?_) (fun q10 => ?_)
  · have hq : L ≤ 192 := by have := (nI_leI (b := 200) (by omega) (by decide)).mp q10; omega
    refine E_iconst (pc := 15) (0) dX5_addEight_15 (by decide) ?_
    refine E_istore_n (pc := 16) 3 dX5_addEight_16 rfl (Nat.le_of_ble_eq_true rfl) rfl (lz := [_, _, _, _]) rfl ?_
    refine E_heq (fed_0 (byC v) _ g_tapeB L).symm ?_
    refine down (P := fun i => Ev l G mX5_addEight _ 17 [some (vR g_tape 0), some (vL v), none, some (vI (nI i))] [] (fed (byC v) h g_tapeB L i)) 8 ?_ ?_ 0 (Nat.zero_le _)
    · refine E_iload_n (pc := 17) 3 dX5_addEight_17 rfl rfl ?_
      refine E_bipush (pc := 18) (8) dX5_addEight_18 (by decide) ?_
      refine E_icmp_ge (pc := 20) 54 dX5_addEight_20 rfl (fun q20 => ?_) (fun q20 => absurd (show (8 : Int32) ≤ 8 by decide) q20)
      refine E_aload_n (pc := 54) 0 dX5_addEight_54 rfl rfl ?_
      refine E_dup (pc := 55) dX5_addEight_55 (fun _ z => by cases z) ?_
      refine E_eq (st' := [vR g_tape 0, vR g_tape 0]) rfl rfl rfl ?_
      refine E_getI (pc := 56) dX5_addEight_56 fl_RX5_13 rfl rfl ?_
      refine E_bipush (pc := 59) (8) dX5_addEight_59 (by decide) ?_
      refine E_iadd (pc := 61) dX5_addEight_61 ?_
      refine E_eq (st' := [vI (nI (L + 8)), vR g_tape 0]) rfl (by rw [fed_t _ _ _ _ _ (by decide), hL, show (8 : Int32) = nI 8 from rfl, nI_add]) rfl ?_
      refine E_put (pc := 62) dX5_addEight_62 fp_RX5_13 rfl rfl ?_
      refine E_iconst (pc := 65) (1) dX5_addEight_65 (by decide) ?_
      refine E_zret (pc := 66) dX5_addEight_66 rfl rfl ?_
      exact ⟨by rw [bi_t hq], by rw [if_pos hq]⟩
    · intro i hi hn
      refine E_iload_n (pc := 17) 3 dX5_addEight_17 rfl rfl ?_
      refine E_bipush (pc := 18) (8) dX5_addEight_18 (by decide) ?_
      refine E_icmp_ge (pc := 20) 54 dX5_addEight_20 rfl (fun q20 => absurd q20 (nI_ge (b := 8) hi (by decide))) (fun q20 => ?_)
      refine E_aload_n (pc := 23) 0 dX5_addEight_23 rfl rfl ?_
      refine E_getR0 (pc := 24) dX5_addEight_24 fl_RX5_9 rfl rfl ?_
      refine E_aload_n (pc := 27) 0 dX5_addEight_27 rfl rfl ?_
      refine E_getI (pc := 28) dX5_addEight_28 fl_RX5_13 rfl rfl ?_
      refine E_iload_n (pc := 31) 3 dX5_addEight_31 rfl rfl ?_
      refine E_iadd (pc := 32) dX5_addEight_32 ?_
      refine E_eq (st' := [vI (nI (L + i)), vR g_tapeB 0]) rfl (by rw [fed_t _ _ _ _ _ (by decide), hL, nI_add]) rfl ?_
      refine E_lload_n (pc := 33) 1 dX5_addEight_33 rfl rfl ?_
      refine E_bipush (pc := 34) (56) dX5_addEight_34 (by decide) ?_
      refine E_bipush (pc := 36) (8) dX5_addEight_36 (by decide) ?_
      refine E_iload_n (pc := 38) 3 dX5_addEight_38 rfl rfl ?_
      refine E_imul (pc := 39) dX5_addEight_39 ?_
      refine E_isub (pc := 40) dX5_addEight_40 ?_
      refine E_lushr (pc := 41) dX5_addEight_41 ?_
      refine E_l2i (pc := 42) dX5_addEight_42 ?_
      refine E_sipush (pc := 43) (255) dX5_addEight_43 (by decide) ?_
      refine E_iand (pc := 46) dX5_addEight_46 ?_
      refine E_iast (pc := 47) dX5_addEight_47 rfl (vp_in_nI (by omega) (by decide)) ?_
      refine E_iincN (pc := 48) 3 dX5_addEight_48 (Nat.le_of_ble_eq_true rfl) rfl rfl (lz := [_, _, _, _]) rfl ?_
      refine E_goto (pc := 51) 17 dX5_addEight_51 rfl ?_
      exact E_heq (by rw [ixN_nI (by omega)]; exact fed_s (byC v) h g_tapeB L i) hn
  · refine E_iconst (pc := 13) (0) dX5_addEight_13 (by decide) ?_
    refine E_zret (pc := 14) dX5_addEight_14 rfl rfl ?_
    exact ⟨by rw [bi_f]; intro hz; exact q10 ((nI_leI (b := 200) (by omega) (by decide)).mpr (by omega)), by rw [if_neg]; intro hz; exact q10 ((nI_leI (b := 200) (by omega) (by decide)).mpr (by omega))⟩
set_option maxHeartbeats 1600000 in
theorem C_X7_feed {l : Launch} {G : GE} {h : Hp} {v : Int64} {L : Nat} (hL : h g_tape 0 1 = nI L) (hL2 : L ≤ 200) : CT l G mX7_feed [vR g_oab 0, vL v] h (fun r h' => r = some (if L ≤ 192 then nI (L + 8) else -3) ∧ h' = if L ≤ 192 then hset (fed (byC v) h g_tapeB L 8) g_tape 0 1 (nI (L + 8)) else h) := by
  refine CT.of (lv := [_, _, _]) (by decide +kernel) (Nat.le_of_ble_eq_true rfl) rfl ?_
  refine E_aload_n (pc := 0) 0 dX7_feed_0 rfl rfl ?_
  refine E_getR0 (pc := 1) dX7_feed_1 fl_RX7_10 rfl rfl ?_
  refine E_lload_n (pc := 4) 1 dX7_feed_4 rfl rfl ?_
  refine E_callV1 (pc := 5) dX7_feed_5 (C_X5_addEight hL hL2) rfl kv_RX7_68 rfl rfl rfl ⟨Nat.le_of_ble_eq_true rfl, Nat.le_of_ble_eq_true rfl, Nat.le_of_ble_eq_true rfl, Nat.le_of_ble_eq_true rfl⟩ (Nat.le_of_ble_eq_true rfl) ?_
  refine E_if_eq (pc := 8) 21 dX7_feed_8 rfl (fun q8 => ?_) (fun q8 => ?_)
  · have hq := bi_0.mp q8
    refine E_bipush (pc := 21) (-3) dX7_feed_21 (by decide) ?_
    refine E_iret (pc := 23) dX7_feed_23 rfl ?_
    first | exact ⟨by rw [if_pos hq], rfl⟩ | exact ⟨by rw [if_neg hq], rfl⟩
  · have hq : L ≤ 192 := by have := mt bi_0.mpr q8; omega
    refine E_aload_n (pc := 11) 0 dX7_feed_11 rfl rfl ?_
    refine E_getR0 (pc := 12) dX7_feed_12 fl_RX7_10 rfl rfl ?_
    refine E_getI (pc := 15) dX7_feed_15 fl_RX7_72 rfl rfl ?_
    refine E_eq (st' := [vI (nI (L + 8))]) rfl (by rw [if_pos hq]; rfl) rfl ?_
    refine E_goto (pc := 18) 23 dX7_feed_18 rfl ?_
    refine E_iret (pc := 23) dX7_feed_23 rfl ?_
    first | exact ⟨by rw [if_pos hq], rfl⟩ | exact ⟨by rw [if_neg hq], rfl⟩
set_option maxHeartbeats 1600000 in
theorem C_X7_end {l : Launch} {G : GE} {h : Hp} {n : Int32} : CT l G mX7_end [vR g_oab 0, vI n] h (fun r h' => r = some (if 0 ≤ n ∧ n ≤ h g_tape 0 1 then h g_tape 0 1 else -1) ∧ h' = if 0 ≤ n ∧ n ≤ h g_tape 0 1 then hset h g_tape 0 1 n else h) := by
  refine CT.of (lv := [_, _, _]) (by decide +kernel) (Nat.le_of_ble_eq_true rfl) rfl ?_
  refine E_iload_n (pc := 0) 1 dX7_end_0 rfl rfl ?_
  refine E_iconst (pc := 1) (0) dX7_end_1 (by decide) ?_
  refine E_aload_n (pc := 2) 0 dX7_end_2 rfl rfl ?_
  refine E_getR0 (pc := 3) dX7_end_3 fl_RX7_10 rfl rfl ?_
  refine E_getI (pc := 6) dX7_end_6 fl_RX7_72 rfl rfl ?_
  refine E_callS1 (pc := 9) dX7_end_9 C_X7_within rfl ks_RX7_76 rfl ⟨Nat.le_of_ble_eq_true rfl, Nat.le_of_ble_eq_true rfl, Nat.le_of_ble_eq_true rfl, Nat.le_of_ble_eq_true rfl⟩ (Nat.le_of_ble_eq_true rfl) ?_
  refine E_if_ne (pc := 12) 17 dX7_end_12 rfl (fun q12 => ?_) (fun q12 => ?_)
  · refine E_aload_n (pc := 17) 0 dX7_end_17 rfl rfl ?_
    refine E_getR0 (pc := 18) dX7_end_18 fl_RX7_10 rfl rfl ?_
    refine E_getI (pc := 21) dX7_end_21 fl_RX7_72 rfl rfl ?_
    refine E_istore_n (pc := 24) 2 dX7_end_24 rfl (Nat.le_of_ble_eq_true rfl) rfl (lz := [_, _, _]) rfl ?_
    refine E_aload_n (pc := 25) 0 dX7_end_25 rfl rfl ?_
    refine E_getR0 (pc := 26) dX7_end_26 fl_RX7_10 rfl rfl ?_
    refine E_iload_n (pc := 29) 1 dX7_end_29 rfl rfl ?_
    refine E_put (pc := 30) dX7_end_30 fp_RX7_72 rfl rfl ?_
    refine E_iload_n (pc := 33) 2 dX7_end_33 rfl rfl ?_
    refine E_iret (pc := 34) dX7_end_34 rfl ?_
    exact ⟨by grind [bi], by grind [bi]⟩
  · refine E_iconst (pc := 15) (-1) dX7_end_15 (by decide) ?_
    refine E_iret (pc := 16) dX7_end_16 rfl ?_
    exact ⟨by grind [bi], by grind [bi]⟩
set_option maxHeartbeats 1600000 in
theorem C_X7_rule {l : Launch} {G : GE} {h : Hp} {n : Int32} : CT l G mX7_rule [vR g_oab 0, vI n] h (fun r h' => r = some (if 0 ≤ n ∧ n ≤ 17 then h g_values 0 (ixN n) else -1) ∧ h' = h) := by
  refine CT.of (lv := [_, _]) (by decide +kernel) (Nat.le_of_ble_eq_true rfl) rfl ?_
  refine E_iload_n (pc := 0) 1 dX7_rule_0 rfl rfl ?_
  refine E_iconst (pc := 1) (0) dX7_rule_1 (by decide) ?_
  refine E_bipush (pc := 2) (17) dX7_rule_2 (by decide) ?_
  refine E_callS1 (pc := 4) dX7_rule_4 C_X7_within rfl ks_RX7_76 rfl ⟨Nat.le_of_ble_eq_true rfl, Nat.le_of_ble_eq_true rfl, Nat.le_of_ble_eq_true rfl, Nat.le_of_ble_eq_true rfl⟩ (Nat.le_of_ble_eq_true rfl) ?_
  refine E_if_eq (pc := 7) 22 dX7_rule_7 rfl (fun q7 => ?_) (fun q7 => ?_)
  · refine E_iconst (pc := 22) (-1) dX7_rule_22 (by decide) ?_
    refine E_iret (pc := 23) dX7_rule_23 rfl ?_
    exact ⟨by grind [bi], by grind [bi]⟩
  · refine E_aload_n (pc := 10) 0 dX7_rule_10 rfl rfl ?_
    refine E_getR0 (pc := 11) dX7_rule_11 fl_RX7_26 rfl rfl ?_
    refine E_getR0 (pc := 14) dX7_rule_14 fl_RX7_97 rfl rfl ?_
    refine E_iload_n (pc := 17) 1 dX7_rule_17 rfl rfl ?_
    refine E_iald (pc := 18) dX7_rule_18 rfl (ixl 17 (by grind [bi]) (by grind [bi]) (by decide)) ?_
    refine E_goto (pc := 19) 23 dX7_rule_19 rfl ?_
    refine E_iret (pc := 23) dX7_rule_23 rfl ?_
    exact ⟨by grind [bi], by grind [bi]⟩
set_option maxHeartbeats 1600000 in
theorem C_X7_way {l : Launch} {G : GE} {h : Hp} {w n f : Int32} : CT l G mX7_way [vR g_oab 0, vI w, vI n, vI f] h (fun r h' => r = some (if (0 ≤ w ∧ w ≤ 5) ∧ (2 ≤ n ∧ n ≤ 8) ∧ 1 ≤ f ∧ f ≤ 2 then h g_way (ixN w) 1 else -1) ∧ h' = if (0 ≤ w ∧ w ≤ 5) ∧ (2 ≤ n ∧ n ≤ 8) ∧ 1 ≤ f ∧ f ≤ 2 then clr (hset (hset h g_way (ixN w) 1 n) g_way (ixN w) 2 f) g_nums (ixN w) 64 else h) := by
  refine CT.of (lv := [_, _, _, _, _]) (by decide +kernel) (Nat.le_of_ble_eq_true rfl) rfl ?_
  refine E_iload_n (pc := 0) 1 dX7_way_0 rfl rfl ?_
  refine E_callS1 (pc := 1) dX7_way_1 C_X7_isWayNumber rfl ks_RX7_100 rfl ⟨Nat.le_of_ble_eq_true rfl, Nat.le_of_ble_eq_true rfl, Nat.le_of_ble_eq_true rfl, Nat.le_of_ble_eq_true rfl⟩ (Nat.le_of_ble_eq_true rfl) ?_
  refine E_if_eq (pc := 4) 15 dX7_way_4 rfl (fun q4 => ?_) (fun q4 => ?_)
  · refine E_iconst (pc := 15) (-1) dX7_way_15 (by decide) ?_
    refine E_iret (pc := 16) dX7_way_16 rfl ?_
    exact ⟨by grind [bi], by grind [bi]⟩
  · refine E_iload_n (pc := 7) 2 dX7_way_7 rfl rfl ?_
    refine E_iload_n (pc := 8) 3 dX7_way_8 rfl rfl ?_
    refine E_callS1 (pc := 9) dX7_way_9 C_X6_canHave rfl ks_RX7_104 rfl ⟨Nat.le_of_ble_eq_true rfl, Nat.le_of_ble_eq_true rfl, Nat.le_of_ble_eq_true rfl, Nat.le_of_ble_eq_true rfl⟩ (Nat.le_of_ble_eq_true rfl) ?_
    refine E_if_ne (pc := 12) 17 dX7_way_12 rfl (fun q12 => ?_) (fun q12 => ?_)
    · refine E_aload_n (pc := 17) 0 dX7_way_17 rfl rfl ?_
      refine E_getR0 (pc := 18) dX7_way_18 fl_RX7_32 rfl rfl ?_
      refine E_iload_n (pc := 21) 1 dX7_way_21 rfl rfl ?_
      refine E_aald (pc := 22) dX7_way_22 rfl ⟨_, fun _ => rfl⟩ (ixl 5 (by grind [bi]) (by grind [bi]) (by decide)) ?_
      refine E_getI (pc := 23) dX7_way_23 fl_RX7_108 rfl rfl ?_
      refine E_istore (pc := 26) 4 dX7_way_26 (Nat.le_of_ble_eq_true rfl) rfl (lz := [_, _, _, _, _]) rfl ?_
      refine E_aload_n (pc := 28) 0 dX7_way_28 rfl rfl ?_
      refine E_getR0 (pc := 29) dX7_way_29 fl_RX7_32 rfl rfl ?_
      refine E_iload_n (pc := 32) 1 dX7_way_32 rfl rfl ?_
      refine E_aald (pc := 33) dX7_way_33 rfl ⟨_, fun _ => rfl⟩ (ixl 5 (by grind [bi]) (by grind [bi]) (by decide)) ?_
      refine E_iload_n (pc := 34) 2 dX7_way_34 rfl rfl ?_
      refine E_iload_n (pc := 35) 3 dX7_way_35 rfl rfl ?_
      refine E_callV0 (pc := 36) dX7_way_36 C_X6_begin rfl kv_RX7_111 rfl rfl rfl ⟨Nat.le_of_ble_eq_true rfl, Nat.le_of_ble_eq_true rfl, Nat.le_of_ble_eq_true rfl, Nat.le_of_ble_eq_true rfl⟩ (Nat.le_of_ble_eq_true rfl) ?_
      refine E_iload (pc := 39) 4 dX7_way_39 rfl ?_
      refine E_iret (pc := 41) dX7_way_41 rfl ?_
      exact ⟨by grind [bi], by grind [bi]⟩
    · refine E_iconst (pc := 15) (-1) dX7_way_15 (by decide) ?_
      refine E_iret (pc := 16) dX7_way_16 rfl ?_
      exact ⟨by grind [bi], by grind [bi]⟩
set_option maxHeartbeats 1600000 in
theorem C_X7_at {l : Launch} {G : GE} {h : Hp} {w t p a : Int32} (hT : h g_way (ixN w) 1 ≤ 8) : CT l G mX7_at [vR g_oab 0, vI w, vI t, vI p, vI a] h (fun r h' => r = some (if (((0 ≤ w ∧ w ≤ 5) ∧ 0 < h g_way (ixN w) 1) ∧ (0 ≤ t ∧ t ≤ h g_way (ixN w) 1 - 1) ∧ 0 ≤ p ∧ p ≤ 3) ∧ 0 ≤ a ∧ a ≤ 1 then h g_nums (ixN w) (ixN (8 * t + 2 * p + a)) else -1000) ∧ h' = h) := by
  refine CT.of (lv := [_, _, _, _, _]) (by decide +kernel) (Nat.le_of_ble_eq_true rfl) rfl ?_
  refine E_aload_n (pc := 0) 0 dX7_at_0 rfl rfl ?_
  refine E_iload_n (pc := 1) 1 dX7_at_1 rfl rfl ?_
  refine E_iload_n (pc := 2) 2 dX7_at_2 rfl rfl ?_
  refine E_iload_n (pc := 3) 3 dX7_at_3 rfl rfl ?_
  refine E_callV1 (pc := 4) dX7_at_4 C_X7_isPartOfWay rfl kv_RX7_115 rfl rfl rfl ⟨Nat.le_of_ble_eq_true rfl, Nat.le_of_ble_eq_true rfl, Nat.le_of_ble_eq_true rfl, Nat.le_of_ble_eq_true rfl⟩ (Nat.le_of_ble_eq_true rfl) ?_
  refine E_if_eq (pc := 7) 20 dX7_at_7 rfl (fun q7 => ?_) (fun q7 => ?_)
  · refine E_sipush (pc := 20) (-1000) dX7_at_20 (by decide) ?_
    refine E_iret (pc := 23) dX7_at_23 rfl ?_
    exact ⟨by grind [bi], by grind [bi]⟩
  · refine E_iload (pc := 10) 4 dX7_at_10 rfl ?_
    refine E_iconst (pc := 12) (0) dX7_at_12 (by decide) ?_
    refine E_iconst (pc := 13) (1) dX7_at_13 (by decide) ?_
    refine E_callS1 (pc := 14) dX7_at_14 C_X7_within rfl ks_RX7_76 rfl ⟨Nat.le_of_ble_eq_true rfl, Nat.le_of_ble_eq_true rfl, Nat.le_of_ble_eq_true rfl, Nat.le_of_ble_eq_true rfl⟩ (Nat.le_of_ble_eq_true rfl) ?_
    refine E_if_ne (pc := 17) 24 dX7_at_17 rfl (fun q17 => ?_) (fun q17 => ?_)
    · refine E_aload_n (pc := 24) 0 dX7_at_24 rfl rfl ?_
      refine E_getR0 (pc := 25) dX7_at_25 fl_RX7_32 rfl rfl ?_
      refine E_iload_n (pc := 28) 1 dX7_at_28 rfl rfl ?_
      refine E_aald (pc := 29) dX7_at_29 rfl ⟨_, fun _ => rfl⟩ (ixl 5 (by grind [bi]) (by grind [bi]) (by decide)) ?_
      refine E_getR0 (pc := 30) dX7_at_30 fl_RX7_125 rfl rfl ?_
      refine E_iload_n (pc := 33) 2 dX7_at_33 rfl rfl ?_
      refine E_iload_n (pc := 34) 3 dX7_at_34 rfl rfl ?_
      refine E_callS1 (pc := 35) dX7_at_35 C_X6_spot rfl ks_RX7_121 rfl ⟨Nat.le_of_ble_eq_true rfl, Nat.le_of_ble_eq_true rfl, Nat.le_of_ble_eq_true rfl, Nat.le_of_ble_eq_true rfl⟩ (Nat.le_of_ble_eq_true rfl) ?_
      refine E_iload (pc := 38) 4 dX7_at_38 rfl ?_
      refine E_iadd (pc := 40) dX7_at_40 ?_
      refine E_iald (pc := 41) dX7_at_41 rfl (ix3 (by grind [bi]) (by grind [bi]) (by grind [bi]) (by grind [bi]) (by grind [bi]) (by grind [bi])) ?_
      refine E_iret (pc := 42) dX7_at_42 rfl ?_
      exact ⟨by grind [bi], by grind [bi]⟩
    · refine E_sipush (pc := 20) (-1000) dX7_at_20 (by decide) ?_
      refine E_iret (pc := 23) dX7_at_23 rfl ?_
      exact ⟨by grind [bi], by grind [bi]⟩
set_option maxHeartbeats 1600000 in
theorem C_X7_of {l : Launch} {G : GE} {h : Hp} {w a : Int32} : CT l G mX7_of [vR g_oab 0, vI w, vI a] h (fun r h' => r = some (if ((0 ≤ w ∧ w ≤ 5) ∧ 0 < h g_way (ixN w) 1) ∧ 0 ≤ a ∧ a ≤ 1 then (if a = 0 then h g_way (ixN w) 1 else h g_way (ixN w) 2) else -1) ∧ h' = h) := by
  refine CT.of (lv := [_, _, _]) (by decide +kernel) (Nat.le_of_ble_eq_true rfl) rfl ?_
  refine E_aload_n (pc := 0) 0 dX7_of_0 rfl rfl ?_
  refine E_iload_n (pc := 1) 1 dX7_of_1 rfl rfl ?_
  refine E_callV1 (pc := 2) dX7_of_2 C_X7_isWay rfl kv_RX7_128 rfl rfl rfl ⟨Nat.le_of_ble_eq_true rfl, Nat.le_of_ble_eq_true rfl, Nat.le_of_ble_eq_true rfl, Nat.le_of_ble_eq_true rfl⟩ (Nat.le_of_ble_eq_true rfl) ?_
  refine E_if_eq (pc := 5) 17 dX7_of_5 rfl (fun q5 => ?_) (fun q5 => ?_)
  · refine E_iconst (pc := 17) (-1) dX7_of_17 (by decide) ?_
    refine E_iret (pc := 18) dX7_of_18 rfl ?_
    exact ⟨by grind [bi], by grind [bi]⟩
  · refine E_iload_n (pc := 8) 2 dX7_of_8 rfl rfl ?_
    refine E_iconst (pc := 9) (0) dX7_of_9 (by decide) ?_
    refine E_iconst (pc := 10) (1) dX7_of_10 (by decide) ?_
    refine E_callS1 (pc := 11) dX7_of_11 C_X7_within rfl ks_RX7_76 rfl ⟨Nat.le_of_ble_eq_true rfl, Nat.le_of_ble_eq_true rfl, Nat.le_of_ble_eq_true rfl, Nat.le_of_ble_eq_true rfl⟩ (Nat.le_of_ble_eq_true rfl) ?_
    refine E_if_ne (pc := 14) 19 dX7_of_14 rfl (fun q14 => ?_) (fun q14 => ?_)
    · refine E_iload_n (pc := 19) 2 dX7_of_19 rfl rfl ?_
      refine E_if_ne (pc := 20) 35 dX7_of_20 rfl (fun q20 => ?_) (fun q20 => ?_)
      · refine E_aload_n (pc := 35) 0 dX7_of_35 rfl rfl ?_
        refine E_getR0 (pc := 36) dX7_of_36 fl_RX7_32 rfl rfl ?_
        refine E_iload_n (pc := 39) 1 dX7_of_39 rfl rfl ?_
        refine E_aald (pc := 40) dX7_of_40 rfl ⟨_, fun _ => rfl⟩ (ixl 5 (by grind [bi]) (by grind [bi]) (by decide)) ?_
        refine E_getI (pc := 41) dX7_of_41 fl_RX7_131 rfl rfl ?_
        refine E_iret (pc := 44) dX7_of_44 rfl ?_
        exact ⟨by grind [bi], by grind [bi]⟩
      · refine E_aload_n (pc := 23) 0 dX7_of_23 rfl rfl ?_
        refine E_getR0 (pc := 24) dX7_of_24 fl_RX7_32 rfl rfl ?_
        refine E_iload_n (pc := 27) 1 dX7_of_27 rfl rfl ?_
        refine E_aald (pc := 28) dX7_of_28 rfl ⟨_, fun _ => rfl⟩ (ixl 5 (by grind [bi]) (by grind [bi]) (by decide)) ?_
        refine E_getI (pc := 29) dX7_of_29 fl_RX7_108 rfl rfl ?_
        refine E_goto (pc := 32) 44 dX7_of_32 rfl ?_
        refine E_iret (pc := 44) dX7_of_44 rfl ?_
        exact ⟨by grind [bi], by grind [bi]⟩
    · refine E_iconst (pc := 17) (-1) dX7_of_17 (by decide) ?_
      refine E_iret (pc := 18) dX7_of_18 rfl ?_
      exact ⟨by grind [bi], by grind [bi]⟩
set_option maxHeartbeats 1600000 in
theorem C_X7_copy {l : Launch} {G : GE} {h : Hp} {w z : Int32} : CT l G mX7_copy [vR g_oab 0, vI w, vI z] h (fun r h' => r = some (if ((0 ≤ w ∧ w ≤ 5) ∧ 0 < h g_way (ixN w) 1) ∧ 0 ≤ z ∧ z ≤ 5 then 1 else -1) ∧ h' = if ((0 ≤ w ∧ w ≤ 5) ∧ 0 < h g_way (ixN w) 1) ∧ 0 ≤ z ∧ z ≤ 5 then hsetA (hset (hset h g_way (ixN z) 1 (h g_way (ixN w) 1)) g_way (ixN z) 2 (hset h g_way (ixN z) 1 (h g_way (ixN w) 1) g_way (ixN w) 2)) g_nums (ixN z) (va_cpy (h g_nums (ixN w)) (h g_nums (ixN z)) 0 0 64) else h) := by
  refine CT.of (lv := [_, _, _]) (by decide +kernel) (Nat.le_of_ble_eq_true rfl) rfl ?_
  refine E_aload_n (pc := 0) 0 dX7_copy_0 rfl rfl ?_
  refine E_iload_n (pc := 1) 1 dX7_copy_1 rfl rfl ?_
  refine E_callV1 (pc := 2) dX7_copy_2 C_X7_isWay rfl kv_RX7_128 rfl rfl rfl ⟨Nat.le_of_ble_eq_true rfl, Nat.le_of_ble_eq_true rfl, Nat.le_of_ble_eq_true rfl, Nat.le_of_ble_eq_true rfl⟩ (Nat.le_of_ble_eq_true rfl) ?_
  refine E_if_eq (pc := 5) 15 dX7_copy_5 rfl (fun q5 => ?_) (fun q5 => ?_)
  · refine E_iconst (pc := 15) (-1) dX7_copy_15 (by decide) ?_
    refine E_iret (pc := 16) dX7_copy_16 rfl ?_
    exact ⟨by grind [bi], by grind [bi]⟩
  · refine E_iload_n (pc := 8) 2 dX7_copy_8 rfl rfl ?_
    refine E_callS1 (pc := 9) dX7_copy_9 C_X7_isWayNumber rfl ks_RX7_100 rfl ⟨Nat.le_of_ble_eq_true rfl, Nat.le_of_ble_eq_true rfl, Nat.le_of_ble_eq_true rfl, Nat.le_of_ble_eq_true rfl⟩ (Nat.le_of_ble_eq_true rfl) ?_
    refine E_if_ne (pc := 12) 17 dX7_copy_12 rfl (fun q12 => ?_) (fun q12 => ?_)
    · refine E_aload_n (pc := 17) 0 dX7_copy_17 rfl rfl ?_
      refine E_getR0 (pc := 18) dX7_copy_18 fl_RX7_32 rfl rfl ?_
      refine E_iload_n (pc := 21) 2 dX7_copy_21 rfl rfl ?_
      refine E_aald (pc := 22) dX7_copy_22 rfl ⟨_, fun _ => rfl⟩ (ixl 5 (by grind [bi]) (by grind [bi]) (by decide)) ?_
      refine E_aload_n (pc := 23) 0 dX7_copy_23 rfl rfl ?_
      refine E_getR0 (pc := 24) dX7_copy_24 fl_RX7_32 rfl rfl ?_
      refine E_iload_n (pc := 27) 1 dX7_copy_27 rfl rfl ?_
      refine E_aald (pc := 28) dX7_copy_28 rfl ⟨_, fun _ => rfl⟩ (ixl 5 (by grind [bi]) (by grind [bi]) (by decide)) ?_
      refine E_callV0 (pc := 29) dX7_copy_29 C_X6_become rfl kv_RX7_134 rfl rfl rfl ⟨Nat.le_of_ble_eq_true rfl, Nat.le_of_ble_eq_true rfl, Nat.le_of_ble_eq_true rfl, Nat.le_of_ble_eq_true rfl⟩ (Nat.le_of_ble_eq_true rfl) ?_
      refine E_iconst (pc := 32) (1) dX7_copy_32 (by decide) ?_
      refine E_iret (pc := 33) dX7_copy_33 rfl ?_
      exact ⟨by grind [bi], by grind [bi]⟩
    · refine E_iconst (pc := 15) (-1) dX7_copy_15 (by decide) ?_
      refine E_iret (pc := 16) dX7_copy_16 rfl ?_
      exact ⟨by grind [bi], by grind [bi]⟩
set_option maxHeartbeats 1600000 in
theorem C_X7_put {l : Launch} {G : GE} {h : Hp} {w t p x y : Int32} (hT : h g_way (ixN w) 1 ≤ 8) : CT l G mX7_put [vR g_oab 0, vI w, vI t, vI p, vI x, vI y] h (fun r h' => r = some (if (((0 ≤ w ∧ w ≤ 5) ∧ 0 < h g_way (ixN w) 1) ∧ (0 ≤ t ∧ t ≤ h g_way (ixN w) 1 - 1) ∧ 0 ≤ p ∧ p ≤ 3) ∧ (-9 ≤ x ∧ x ≤ 9) ∧ -9 ≤ y ∧ y ≤ 9 then 1 else -1) ∧ h' = if (((0 ≤ w ∧ w ≤ 5) ∧ 0 < h g_way (ixN w) 1) ∧ (0 ≤ t ∧ t ≤ h g_way (ixN w) 1 - 1) ∧ 0 ≤ p ∧ p ≤ 3) ∧ (-9 ≤ x ∧ x ≤ 9) ∧ -9 ≤ y ∧ y ≤ 9 then hset (hset h g_nums (ixN w) (ixN (8 * t + 2 * p)) x) g_nums (ixN w) (ixN (8 * t + 2 * p + 1)) y else h) := by
  refine CT.of (lv := [_, _, _, _, _, _, _]) (by decide +kernel) (Nat.le_of_ble_eq_true rfl) rfl ?_
  refine E_aload_n (pc := 0) 0 dX7_put_0 rfl rfl ?_
  refine E_iload_n (pc := 1) 1 dX7_put_1 rfl rfl ?_
  refine E_iload_n (pc := 2) 2 dX7_put_2 rfl rfl ?_
  refine E_iload_n (pc := 3) 3 dX7_put_3 rfl rfl ?_
  refine E_callV1 (pc := 4) dX7_put_4 C_X7_isPartOfWay rfl kv_RX7_115 rfl rfl rfl ⟨Nat.le_of_ble_eq_true rfl, Nat.le_of_ble_eq_true rfl, Nat.le_of_ble_eq_true rfl, Nat.le_of_ble_eq_true rfl⟩ (Nat.le_of_ble_eq_true rfl) ?_
  refine E_if_eq (pc := 7) 26 dX7_put_7 rfl (fun q7 => ?_) (fun q7 => ?_)
  · refine E_iconst (pc := 26) (-1) dX7_put_26 (by decide) ?_
    refine E_iret (pc := 27) dX7_put_27 rfl ?_
    exact ⟨by grind (splits := 24) [bi], by grind (splits := 24) [bi]⟩
  · refine E_iload (pc := 10) 4 dX7_put_10 rfl ?_
    refine E_callS1 (pc := 12) dX7_put_12 C_X6_isNumber rfl ks_RX7_118 rfl ⟨Nat.le_of_ble_eq_true rfl, Nat.le_of_ble_eq_true rfl, Nat.le_of_ble_eq_true rfl, Nat.le_of_ble_eq_true rfl⟩ (Nat.le_of_ble_eq_true rfl) ?_
    refine E_if_eq (pc := 15) 26 dX7_put_15 rfl (fun q15 => ?_) (fun q15 => ?_)
    · refine E_iconst (pc := 26) (-1) dX7_put_26 (by decide) ?_
      refine E_iret (pc := 27) dX7_put_27 rfl ?_
      exact ⟨by grind (splits := 24) [bi], by grind (splits := 24) [bi]⟩
    · refine E_iload (pc := 18) 5 dX7_put_18 rfl ?_
      refine E_callS1 (pc := 20) dX7_put_20 C_X6_isNumber rfl ks_RX7_118 rfl ⟨Nat.le_of_ble_eq_true rfl, Nat.le_of_ble_eq_true rfl, Nat.le_of_ble_eq_true rfl, Nat.le_of_ble_eq_true rfl⟩ (Nat.le_of_ble_eq_true rfl) ?_
      refine E_if_ne (pc := 23) 28 dX7_put_23 rfl (fun q23 => ?_) (fun q23 => ?_)
      · refine E_iload_n (pc := 28) 2 dX7_put_28 rfl rfl ?_
        refine E_iload_n (pc := 29) 3 dX7_put_29 rfl rfl ?_
        refine E_callS1 (pc := 30) dX7_put_30 C_X6_spot rfl ks_RX7_121 rfl ⟨Nat.le_of_ble_eq_true rfl, Nat.le_of_ble_eq_true rfl, Nat.le_of_ble_eq_true rfl, Nat.le_of_ble_eq_true rfl⟩ (Nat.le_of_ble_eq_true rfl) ?_
        refine E_istore (pc := 33) 6 dX7_put_33 (Nat.le_of_ble_eq_true rfl) rfl (lz := [_, _, _, _, _, _, _]) rfl ?_
        refine E_aload_n (pc := 35) 0 dX7_put_35 rfl rfl ?_
        refine E_getR0 (pc := 36) dX7_put_36 fl_RX7_32 rfl rfl ?_
        refine E_iload_n (pc := 39) 1 dX7_put_39 rfl rfl ?_
        refine E_aald (pc := 40) dX7_put_40 rfl ⟨_, fun _ => rfl⟩ (ixl 5 (by grind [bi]) (by grind [bi]) (by decide)) ?_
        refine E_getR0 (pc := 41) dX7_put_41 fl_RX7_125 rfl rfl ?_
        refine E_iload (pc := 44) 6 dX7_put_44 rfl ?_
        refine E_iload (pc := 46) 4 dX7_put_46 rfl ?_
        refine E_iast (pc := 48) dX7_put_48 rfl (ix2 (by grind [bi]) (by grind [bi]) (by grind [bi]) (by grind [bi])) ?_
        refine E_aload_n (pc := 49) 0 dX7_put_49 rfl rfl ?_
        refine E_getR0 (pc := 50) dX7_put_50 fl_RX7_32 rfl rfl ?_
        refine E_iload_n (pc := 53) 1 dX7_put_53 rfl rfl ?_
        refine E_aald (pc := 54) dX7_put_54 rfl ⟨_, fun _ => rfl⟩ (ixl 5 (by grind [bi]) (by grind [bi]) (by decide)) ?_
        refine E_getR0 (pc := 55) dX7_put_55 fl_RX7_125 rfl rfl ?_
        refine E_iload (pc := 58) 6 dX7_put_58 rfl ?_
        refine E_iconst (pc := 60) (1) dX7_put_60 (by decide) ?_
        refine E_iadd (pc := 61) dX7_put_61 ?_
        refine E_iload (pc := 62) 5 dX7_put_62 rfl ?_
        refine E_iast (pc := 64) dX7_put_64 rfl (ix3 (by grind [bi]) (by grind [bi]) (by grind [bi]) (by grind [bi]) (by decide) (by decide)) ?_
        refine E_iconst (pc := 65) (1) dX7_put_65 (by decide) ?_
        refine E_iret (pc := 66) dX7_put_66 rfl ?_
        exact ⟨by grind (splits := 24) [bi], by grind (splits := 24) [bi]⟩
      · refine E_iconst (pc := 26) (-1) dX7_put_26 (by decide) ?_
        refine E_iret (pc := 27) dX7_put_27 rfl ?_
        exact ⟨by grind (splits := 24) [bi], by grind (splits := 24) [bi]⟩
set_option maxHeartbeats 1600000 in
theorem C_X7_jumper {l : Launch} {G : GE} {h : Hp} {w : Int32} (hc : 0 ≤ h g_ring 0 3) : CT l G mX7_jumper [vR g_oab 0, vI w] h (fun r h' => r = some (if 0 ≤ w ∧ w ≤ 5 then (if h g_ring 0 3 < 12 then h g_ring 0 3 + 1 else -3) else -1) ∧ h' = if (0 ≤ w ∧ w ≤ 5) ∧ h g_ring 0 3 < 12 then hset (hset h g_held 0 (ixN (h g_ring 0 3)) w) g_ring 0 3 (h g_ring 0 3 + 1) else h) := by
  refine CT.of (lv := [_, _]) (by decide +kernel) (Nat.le_of_ble_eq_true rfl) rfl ?_
  refine E_iload_n (pc := 0) 1 dX7_jumper_0 rfl rfl ?_
  refine E_callS1 (pc := 1) dX7_jumper_1 C_X7_isWayNumber rfl ks_RX7_100 rfl ⟨Nat.le_of_ble_eq_true rfl, Nat.le_of_ble_eq_true rfl, Nat.le_of_ble_eq_true rfl, Nat.le_of_ble_eq_true rfl⟩ (Nat.le_of_ble_eq_true rfl) ?_
  refine E_if_ne (pc := 4) 9 dX7_jumper_4 rfl (fun q4 => ?_) (fun q4 => ?_)
  · refine E_aload_n (pc := 9) 0 dX7_jumper_9 rfl rfl ?_
    refine E_getR0 (pc := 10) dX7_jumper_10 fl_RX7_57 rfl rfl ?_
    refine E_iload_n (pc := 13) 1 dX7_jumper_13 rfl rfl ?_
    refine E_callV1 (pc := 14) dX7_jumper_14 (C_X2_join hc) rfl kv_RX7_229 rfl rfl rfl ⟨Nat.le_of_ble_eq_true rfl, Nat.le_of_ble_eq_true rfl, Nat.le_of_ble_eq_true rfl, Nat.le_of_ble_eq_true rfl⟩ (Nat.le_of_ble_eq_true rfl) ?_
    refine E_if_eq (pc := 17) 30 dX7_jumper_17 rfl (fun q17 => ?_) (fun q17 => ?_)
    · refine E_bipush (pc := 30) (-3) dX7_jumper_30 (by decide) ?_
      refine E_iret (pc := 32) dX7_jumper_32 rfl ?_
      exact ⟨by grind [bi, hset], by grind [bi]⟩
    · refine E_aload_n (pc := 20) 0 dX7_jumper_20 rfl rfl ?_
      refine E_getR0 (pc := 21) dX7_jumper_21 fl_RX7_57 rfl rfl ?_
      refine E_getI (pc := 24) dX7_jumper_24 fl_RX7_232 rfl rfl ?_
      refine E_goto (pc := 27) 32 dX7_jumper_27 rfl ?_
      refine E_iret (pc := 32) dX7_jumper_32 rfl ?_
      exact ⟨by grind [bi, hset], by grind [bi]⟩
  · refine E_iconst (pc := 7) (-1) dX7_jumper_7 (by decide) ?_
    refine E_iret (pc := 8) dX7_jumper_8 rfl ?_
    exact ⟨by grind [bi, hset], by grind [bi]⟩
set_option maxHeartbeats 1600000 in
theorem C_X7_takes {l : Launch} {G : GE} {h : Hp} {j w : Int32} (hc0 : 0 ≤ h g_ring 0 3) (hc : h g_ring 0 3 ≤ 12) : CT l G mX7_takes [vR g_oab 0, vI j, vI w] h (fun r h' => r = some (if (0 ≤ j ∧ j ≤ h g_ring 0 3 - 1) ∧ 0 ≤ w ∧ w ≤ 5 then h g_held 0 (ixN j) else -1) ∧ h' = if (0 ≤ j ∧ j ≤ h g_ring 0 3 - 1) ∧ 0 ≤ w ∧ w ≤ 5 then hset h g_held 0 (ixN j) w else h) := by
  refine CT.of (lv := [_, _, _, _]) (by decide +kernel) (Nat.le_of_ble_eq_true rfl) rfl ?_
  refine E_aload_n (pc := 0) 0 dX7_takes_0 rfl rfl ?_
  refine E_getR0 (pc := 1) dX7_takes_1 fl_RX7_57 rfl rfl ?_
  refine E_iload_n (pc := 4) 1 dX7_takes_4 rfl rfl ?_
  refine E_callV1 (pc := 5) dX7_takes_5 C_X2_has rfl kv_RX7_235 rfl rfl rfl ⟨Nat.le_of_ble_eq_true rfl, Nat.le_of_ble_eq_true rfl, Nat.le_of_ble_eq_true rfl, Nat.le_of_ble_eq_true rfl⟩ (Nat.le_of_ble_eq_true rfl) ?_
  refine E_if_eq (pc := 8) 18 dX7_takes_8 rfl (fun q8 => ?_) (fun q8 => ?_)
  · refine E_iconst (pc := 18) (-1) dX7_takes_18 (by decide) ?_
    refine E_iret (pc := 19) dX7_takes_19 rfl ?_
    exact ⟨by grind [bi], by grind [bi]⟩
  · refine E_iload_n (pc := 11) 2 dX7_takes_11 rfl rfl ?_
    refine E_callS1 (pc := 12) dX7_takes_12 C_X7_isWayNumber rfl ks_RX7_100 rfl ⟨Nat.le_of_ble_eq_true rfl, Nat.le_of_ble_eq_true rfl, Nat.le_of_ble_eq_true rfl, Nat.le_of_ble_eq_true rfl⟩ (Nat.le_of_ble_eq_true rfl) ?_
    refine E_if_ne (pc := 15) 20 dX7_takes_15 rfl (fun q15 => ?_) (fun q15 => ?_)
    · refine E_aload_n (pc := 20) 0 dX7_takes_20 rfl rfl ?_
      refine E_getR0 (pc := 21) dX7_takes_21 fl_RX7_57 rfl rfl ?_
      refine E_getR0 (pc := 24) dX7_takes_24 fl_RX7_238 rfl rfl ?_
      refine E_iload_n (pc := 27) 1 dX7_takes_27 rfl rfl ?_
      refine E_iald (pc := 28) dX7_takes_28 rfl (ixl 11 (by grind [bi]) (by grind [bi]) (by decide)) ?_
      refine E_istore_n (pc := 29) 3 dX7_takes_29 rfl (Nat.le_of_ble_eq_true rfl) rfl (lz := [_, _, _, _]) rfl ?_
      refine E_aload_n (pc := 30) 0 dX7_takes_30 rfl rfl ?_
      refine E_getR0 (pc := 31) dX7_takes_31 fl_RX7_57 rfl rfl ?_
      refine E_getR0 (pc := 34) dX7_takes_34 fl_RX7_238 rfl rfl ?_
      refine E_iload_n (pc := 37) 1 dX7_takes_37 rfl rfl ?_
      refine E_iload_n (pc := 38) 2 dX7_takes_38 rfl rfl ?_
      refine E_iast (pc := 39) dX7_takes_39 rfl (ixl 11 (by grind [bi]) (by grind [bi]) (by decide)) ?_
      refine E_iload_n (pc := 40) 3 dX7_takes_40 rfl rfl ?_
      refine E_iret (pc := 41) dX7_takes_41 rfl ?_
      exact ⟨by grind [bi], by grind [bi]⟩
    · refine E_iconst (pc := 18) (-1) dX7_takes_18 (by decide) ?_
      refine E_iret (pc := 19) dX7_takes_19 rfl ?_
      exact ⟨by grind [bi], by grind [bi]⟩
set_option maxHeartbeats 1600000 in
theorem C_X7_sheet {l : Launch} {G : GE} {h : Hp} {k a n : Int32} : CT l G mX7_sheet [vR g_oab 0, vI k, vI a, vI n] h (fun r h' => r = some (if (0 ≤ k ∧ k ≤ 3) ∧ (0 ≤ a ∧ a ≤ 2) ∧ n ≤ 64 then (if 0 ≤ n then 1 else -14) else -1) ∧ h' = if ((0 ≤ k ∧ k ≤ 3) ∧ (0 ≤ a ∧ a ≤ 2) ∧ n ≤ 64) ∧ 0 ≤ n then clr (hset (hset h g_sheet (ixN k) 0 a) g_sheet (ixN k) 1 n) g_cells (ixN k) (ixN n) else h) := by
  refine CT.of (lv := [_, _, _, _]) (by decide +kernel) (Nat.le_of_ble_eq_true rfl) rfl ?_
  refine E_iload_n (pc := 0) 1 dX7_sheet_0 rfl rfl ?_
  refine E_callS1 (pc := 1) dX7_sheet_1 C_X7_isSheet rfl ks_RX7_286 rfl ⟨Nat.le_of_ble_eq_true rfl, Nat.le_of_ble_eq_true rfl, Nat.le_of_ble_eq_true rfl, Nat.le_of_ble_eq_true rfl⟩ (Nat.le_of_ble_eq_true rfl) ?_
  refine E_if_eq (pc := 4) 20 dX7_sheet_4 rfl (fun q4 => ?_) (fun q4 => ?_)
  · refine E_iconst (pc := 20) (-1) dX7_sheet_20 (by decide) ?_
    refine E_iret (pc := 21) dX7_sheet_21 rfl ?_
    exact ⟨by grind [bi], by grind [bi]⟩
  · refine E_iload_n (pc := 7) 2 dX7_sheet_7 rfl rfl ?_
    refine E_callS1 (pc := 8) dX7_sheet_8 C_X4_isLane rfl ks_RX7_289 rfl ⟨Nat.le_of_ble_eq_true rfl, Nat.le_of_ble_eq_true rfl, Nat.le_of_ble_eq_true rfl, Nat.le_of_ble_eq_true rfl⟩ (Nat.le_of_ble_eq_true rfl) ?_
    refine E_if_eq (pc := 11) 20 dX7_sheet_11 rfl (fun q11 => ?_) (fun q11 => ?_)
    · refine E_iconst (pc := 20) (-1) dX7_sheet_20 (by decide) ?_
      refine E_iret (pc := 21) dX7_sheet_21 rfl ?_
      exact ⟨by grind [bi], by grind [bi]⟩
    · refine E_iload_n (pc := 14) 3 dX7_sheet_14 rfl rfl ?_
      refine E_bipush (pc := 15) (64) dX7_sheet_15 (by decide) ?_
      refine E_icmp_le (pc := 17) 22 dX7_sheet_17 rfl (fun q17 => ?_) (fun q17 => ?_)
      · refine E_iload_n (pc := 22) 3 dX7_sheet_22 rfl rfl ?_
        refine E_if_ge (pc := 23) 29 dX7_sheet_23 rfl (fun q23 => ?_) (fun q23 => ?_)
        · obtain ⟨n', hn', rfl⟩ := natof (x := n) 64 (by decide) q23 q17
          refine E_aload_n (pc := 29) 0 dX7_sheet_29 rfl rfl ?_
          refine E_getR0 (pc := 30) dX7_sheet_30 fl_RX7_63 rfl rfl ?_
          refine E_iload_n (pc := 33) 1 dX7_sheet_33 rfl rfl ?_
          refine E_aald (pc := 34) dX7_sheet_34 rfl ⟨_, fun _ => rfl⟩ (ixl 3 (by grind [bi]) (by grind [bi]) (by decide)) ?_
          refine E_iload_n (pc := 35) 2 dX7_sheet_35 rfl rfl ?_
          refine E_iload_n (pc := 36) 3 dX7_sheet_36 rfl rfl ?_
          refine E_callV0 (pc := 37) dX7_sheet_37 (C_X4_begin hn') rfl kv_RX7_292 rfl rfl rfl ⟨Nat.le_of_ble_eq_true rfl, Nat.le_of_ble_eq_true rfl, Nat.le_of_ble_eq_true rfl, Nat.le_of_ble_eq_true rfl⟩ (Nat.le_of_ble_eq_true rfl) ?_
          refine E_iconst (pc := 40) (1) dX7_sheet_40 (by decide) ?_
          refine E_iret (pc := 41) dX7_sheet_41 rfl ?_
          exact ⟨by grind [bi], by rw [ixN_nI (by omega)]; grind [bi]⟩
        · refine E_bipush (pc := 26) (-14) dX7_sheet_26 (by decide) ?_
          refine E_iret (pc := 28) dX7_sheet_28 rfl ?_
          exact ⟨by grind [bi], by grind [bi]⟩
      · refine E_iconst (pc := 20) (-1) dX7_sheet_20 (by decide) ?_
        refine E_iret (pc := 21) dX7_sheet_21 rfl ?_
        exact ⟨by grind [bi], by grind [bi]⟩
set_option maxHeartbeats 1600000 in
theorem C_X7_lay {l : Launch} {G : GE} {h : Hp} {k i v : Int32} (hz : h g_sheet (ixN k) 1 ≤ 64) (hz0 : 0 ≤ h g_sheet (ixN k) 1) : CT l G mX7_lay [vR g_oab 0, vI k, vI i, vI v] h (fun r h' => r = some (if 0 ≤ k ∧ k ≤ 3 then (if h g_sheet (ixN k) 0 = -1 then -11 else if 0 ≤ i ∧ i ≤ h g_sheet (ixN k) 1 - 1 then 1 else -12) else -1) ∧ h' = if (0 ≤ k ∧ k ≤ 3) ∧ ¬ h g_sheet (ixN k) 0 = -1 ∧ 0 ≤ i ∧ i ≤ h g_sheet (ixN k) 1 - 1 then hset h g_cells (ixN k) (ixN i) (if h g_sheet (ixN k) 0 = 0 then v.toInt8.toInt32 else if h g_sheet (ixN k) 0 = 1 then v.toInt16.toInt32 else v) else h) := by
  refine CT.of (lv := [_, _, _, _]) (by decide +kernel) (Nat.le_of_ble_eq_true rfl) rfl ?_
  refine E_iload_n (pc := 0) 1 dX7_lay_0 rfl rfl ?_
  refine E_callS1 (pc := 1) dX7_lay_1 C_X7_isSheet rfl ks_RX7_286 rfl ⟨Nat.le_of_ble_eq_true rfl, Nat.le_of_ble_eq_true rfl, Nat.le_of_ble_eq_true rfl, Nat.le_of_ble_eq_true rfl⟩ (Nat.le_of_ble_eq_true rfl) ?_
  refine E_if_ne (pc := 4) 9 dX7_lay_4 rfl (fun q4 => ?_) (fun q4 => ?_)
  · refine E_aload_n (pc := 9) 0 dX7_lay_9 rfl rfl ?_
    refine E_getR0 (pc := 10) dX7_lay_10 fl_RX7_63 rfl rfl ?_
    refine E_iload_n (pc := 13) 1 dX7_lay_13 rfl rfl ?_
    refine E_aald (pc := 14) dX7_lay_14 rfl ⟨_, fun _ => rfl⟩ (ixl 3 (by grind [bi]) (by grind [bi]) (by decide)) ?_
    refine E_callV1 (pc := 15) dX7_lay_15 C_X4_isNothing rfl kv_RX7_293 rfl rfl rfl ⟨Nat.le_of_ble_eq_true rfl, Nat.le_of_ble_eq_true rfl, Nat.le_of_ble_eq_true rfl, Nat.le_of_ble_eq_true rfl⟩ (Nat.le_of_ble_eq_true rfl) ?_
    refine E_if_eq (pc := 18) 24 dX7_lay_18 rfl (fun q18 => ?_) (fun q18 => ?_)
    · refine E_aload_n (pc := 24) 0 dX7_lay_24 rfl rfl ?_
      refine E_getR0 (pc := 25) dX7_lay_25 fl_RX7_63 rfl rfl ?_
      refine E_iload_n (pc := 28) 1 dX7_lay_28 rfl rfl ?_
      refine E_aald (pc := 29) dX7_lay_29 rfl ⟨_, fun _ => rfl⟩ (ixl 3 (by grind [bi]) (by grind [bi]) (by decide)) ?_
      refine E_iload_n (pc := 30) 2 dX7_lay_30 rfl rfl ?_
      refine E_callV1 (pc := 31) dX7_lay_31 C_X4_hasCell rfl kv_RX7_296 rfl rfl rfl ⟨Nat.le_of_ble_eq_true rfl, Nat.le_of_ble_eq_true rfl, Nat.le_of_ble_eq_true rfl, Nat.le_of_ble_eq_true rfl⟩ (Nat.le_of_ble_eq_true rfl) ?_
      refine E_if_ne (pc := 34) 40 dX7_lay_34 rfl (fun q34 => ?_) (fun q34 => ?_)
      · refine E_aload_n (pc := 40) 0 dX7_lay_40 rfl rfl ?_
        refine E_getR0 (pc := 41) dX7_lay_41 fl_RX7_63 rfl rfl ?_
        refine E_iload_n (pc := 44) 1 dX7_lay_44 rfl rfl ?_
        refine E_aald (pc := 45) dX7_lay_45 rfl ⟨_, fun _ => rfl⟩ (ixl 3 (by grind [bi]) (by grind [bi]) (by decide)) ?_
        refine E_iload_n (pc := 46) 2 dX7_lay_46 rfl rfl ?_
        refine E_iload_n (pc := 47) 3 dX7_lay_47 rfl rfl ?_
        refine E_callV0 (pc := 48) dX7_lay_48 (C_X4_write (ixl 63 (by grind [bi]) (by grind [bi]) (by decide))) rfl kv_RX7_299 rfl rfl rfl ⟨Nat.le_of_ble_eq_true rfl, Nat.le_of_ble_eq_true rfl, Nat.le_of_ble_eq_true rfl, Nat.le_of_ble_eq_true rfl⟩ (Nat.le_of_ble_eq_true rfl) ?_
        refine E_iconst (pc := 51) (1) dX7_lay_51 (by decide) ?_
        refine E_iret (pc := 52) dX7_lay_52 rfl ?_
        exact ⟨by grind (splits := 24) [bi], by grind (splits := 24) [bi]⟩
      · refine E_bipush (pc := 37) (-12) dX7_lay_37 (by decide) ?_
        refine E_iret (pc := 39) dX7_lay_39 rfl ?_
        exact ⟨by grind (splits := 24) [bi], by grind (splits := 24) [bi]⟩
    · refine E_bipush (pc := 21) (-11) dX7_lay_21 (by decide) ?_
      refine E_iret (pc := 23) dX7_lay_23 rfl ?_
      exact ⟨by grind (splits := 24) [bi], by grind (splits := 24) [bi]⟩
  · refine E_iconst (pc := 7) (-1) dX7_lay_7 (by decide) ?_
    refine E_iret (pc := 8) dX7_lay_8 rfl ?_
    exact ⟨by grind (splits := 24) [bi], by grind (splits := 24) [bi]⟩
