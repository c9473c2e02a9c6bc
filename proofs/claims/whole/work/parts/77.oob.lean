/-! calls on a way or a sheet that isn't there -/
set_option maxHeartbeats 1600000 in
theorem C_at7b {l : Launch} {G : GE} {h : Hp} {w t p a : Int32} (hw : ¬ (0 ≤ w ∧ w ≤ 5)) : CT l G mX7_at [vR g_oab 0, vI w, vI t, vI p, vI a] h (fun r h' => r = some (-1000) ∧ h' = h) := by
  refine CT.of (lv := [_, _, _, _, _]) (by decide +kernel) (Nat.le_of_ble_eq_true rfl) rfl ?_
  refine E_aload_n (pc := 0) 0 dX7_at_0 rfl rfl ?_
  refine E_iload_n (pc := 1) 1 dX7_at_1 rfl rfl ?_
  refine E_iload_n (pc := 2) 2 dX7_at_2 rfl rfl ?_
  refine E_iload_n (pc := 3) 3 dX7_at_3 rfl rfl ?_
  refine E_callV1 (pc := 4) dX7_at_4 C_X7_isPartOfWay rfl kv_RX7_115 rfl rfl rfl ⟨Nat.le_of_ble_eq_true rfl, Nat.le_of_ble_eq_true rfl, Nat.le_of_ble_eq_true rfl, Nat.le_of_ble_eq_true rfl⟩ (Nat.le_of_ble_eq_true rfl) ?_
  refine E_if_eq (pc := 7) 20 dX7_at_7 rfl (fun q7 => ?_) (fun q7 => absurd (bi_f (fun z => hw z.1.1)) q7)
  refine E_sipush (pc := 20) (-1000) dX7_at_20 (by decide) ?_
  refine E_iret (pc := 23) dX7_at_23 rfl ?_
  first | exact ⟨rfl, rfl⟩ | exact ⟨by grind [bi], rfl⟩
set_option maxHeartbeats 1600000 in
theorem C_at8b {l : Launch} {G : GE} {h : Hp} {w t p a : Int32} (hw : ¬ (0 ≤ w ∧ w ≤ 5)) : CT l G mX8_at [vR g_model 0, vI w, vI t, vI p, vI a] h (fun r h' => r = some (-1000) ∧ h' = h) := by
  refine CT.of (lv := [_, _, _, _, _]) (by decide +kernel) (Nat.le_of_ble_eq_true rfl) rfl ?_
  refine E_aload_n (pc := 0) 0 dX8_at_0 rfl rfl ?_
  refine E_iload_n (pc := 1) 1 dX8_at_1 rfl rfl ?_
  refine E_iload_n (pc := 2) 2 dX8_at_2 rfl rfl ?_
  refine E_callV1 (pc := 3) dX8_at_3 C_X8_isTenth rfl kv_RX8_151 rfl rfl rfl ⟨Nat.le_of_ble_eq_true rfl, Nat.le_of_ble_eq_true rfl, Nat.le_of_ble_eq_true rfl, Nat.le_of_ble_eq_true rfl⟩ (Nat.le_of_ble_eq_true rfl) ?_
  refine E_if_eq (pc := 6) 39 dX8_at_6 rfl (fun q6 => ?_) (fun q6 => absurd (bi_f (fun z => hw z.1.1)) q6)
  refine E_sipush (pc := 39) (-1000) dX8_at_39 (by decide) ?_
  refine E_iret (pc := 42) dX8_at_42 rfl ?_
  first | exact ⟨rfl, rfl⟩ | exact ⟨by grind [bi], rfl⟩
set_option maxHeartbeats 1600000 in
theorem C_put7b {l : Launch} {G : GE} {h : Hp} {w t p x y : Int32} (hw : ¬ (0 ≤ w ∧ w ≤ 5)) : CT l G mX7_put [vR g_oab 0, vI w, vI t, vI p, vI x, vI y] h (fun r h' => r = some (-1) ∧ h' = h) := by
  refine CT.of (lv := [_, _, _, _, _, _, _]) (by decide +kernel) (Nat.le_of_ble_eq_true rfl) rfl ?_
  refine E_aload_n (pc := 0) 0 dX7_put_0 rfl rfl ?_
  refine E_iload_n (pc := 1) 1 dX7_put_1 rfl rfl ?_
  refine E_iload_n (pc := 2) 2 dX7_put_2 rfl rfl ?_
  refine E_iload_n (pc := 3) 3 dX7_put_3 rfl rfl ?_
  refine E_callV1 (pc := 4) dX7_put_4 C_X7_isPartOfWay rfl kv_RX7_115 rfl rfl rfl ⟨Nat.le_of_ble_eq_true rfl, Nat.le_of_ble_eq_true rfl, Nat.le_of_ble_eq_true rfl, Nat.le_of_ble_eq_true rfl⟩ (Nat.le_of_ble_eq_true rfl) ?_
  refine E_if_eq (pc := 7) 26 dX7_put_7 rfl (fun q7 => ?_) (fun q7 => absurd (bi_f (fun z => hw z.1.1)) q7)
  refine E_iconst (pc := 26) (-1) dX7_put_26 (by decide) ?_
  refine E_iret (pc := 27) dX7_put_27 rfl ?_
  first | exact ⟨rfl, rfl⟩ | exact ⟨by grind [bi], rfl⟩
set_option maxHeartbeats 1600000 in
theorem C_put8b {l : Launch} {G : GE} {h : Hp} {w t p x y : Int32} (hw : ¬ (0 ≤ w ∧ w ≤ 5)) : CT l G mX8_put [vR g_model 0, vI w, vI t, vI p, vI x, vI y] h (fun r h' => r = some (-1) ∧ h' = h) := by
  refine CT.of (lv := [_, _, _, _, _, _]) (by decide +kernel) (Nat.le_of_ble_eq_true rfl) rfl ?_
  refine E_aload_n (pc := 0) 0 dX8_put_0 rfl rfl ?_
  refine E_iload_n (pc := 1) 1 dX8_put_1 rfl rfl ?_
  refine E_iload_n (pc := 2) 2 dX8_put_2 rfl rfl ?_
  refine E_callV1 (pc := 3) dX8_put_3 C_X8_isTenth rfl kv_RX8_151 rfl rfl rfl ⟨Nat.le_of_ble_eq_true rfl, Nat.le_of_ble_eq_true rfl, Nat.le_of_ble_eq_true rfl, Nat.le_of_ble_eq_true rfl⟩ (Nat.le_of_ble_eq_true rfl) ?_
  refine E_if_eq (pc := 6) 46 dX8_put_6 rfl (fun q6 => ?_) (fun q6 => absurd (bi_f (fun z => hw z.1.1)) q6)
  refine E_iconst (pc := 46) (-1) dX8_put_46 (by decide) ?_
  refine E_iret (pc := 47) dX8_put_47 rfl ?_
  first | exact ⟨rfl, rfl⟩ | exact ⟨by grind [bi], rfl⟩
set_option maxHeartbeats 1600000 in
theorem C_place8b {l : Launch} {G : GE} {h : Hp} {w t p a : Int32} (hw : ¬ (0 ≤ w ∧ w ≤ 5)) : CT l G mX8_place [vR g_model 0, vI w, vI t, vI p, vI a] h (fun r h' => r = some (-1000000) ∧ h' = h) := by
  refine CT.of (lv := [_, _, _, _, _]) (by decide +kernel) (Nat.le_of_ble_eq_true rfl) rfl ?_
  refine E_aload_n (pc := 0) 0 dX8_place_0 rfl rfl ?_
  refine E_iload_n (pc := 1) 1 dX8_place_1 rfl rfl ?_
  refine E_iload_n (pc := 2) 2 dX8_place_2 rfl rfl ?_
  refine E_callV1 (pc := 3) dX8_place_3 C_X8_isTenth rfl kv_RX8_151 rfl rfl rfl ⟨Nat.le_of_ble_eq_true rfl, Nat.le_of_ble_eq_true rfl, Nat.le_of_ble_eq_true rfl, Nat.le_of_ble_eq_true rfl⟩ (Nat.le_of_ble_eq_true rfl) ?_
  refine E_if_eq (pc := 6) 39 dX8_place_6 rfl (fun q6 => ?_) (fun q6 => absurd (bi_f (fun z => hw z.1.1)) q6)
  refine E_ldc (pc := 39) (-1000000) dX8_place_39 kk_RX8_176 ?_
  refine E_iret (pc := 41) dX8_place_41 rfl ?_
  first | exact ⟨rfl, rfl⟩ | exact ⟨by grind [bi], rfl⟩
set_option maxHeartbeats 1600000 in
theorem C_near8b {l : Launch} {G : GE} {h : Hp} {w t p : Int32} (hw : ¬ (0 ≤ w ∧ w ≤ 5)) : CT l G mX8_near [vR g_model 0, vI w, vI t, vI p] h (fun r h' => r = some (-1) ∧ h' = h) := by
  refine CT.of (lv := [_, _, _, _]) (by decide +kernel) (Nat.le_of_ble_eq_true rfl) rfl ?_
  refine E_aload_n (pc := 0) 0 dX8_near_0 rfl rfl ?_
  refine E_iload_n (pc := 1) 1 dX8_near_1 rfl rfl ?_
  refine E_iload_n (pc := 2) 2 dX8_near_2 rfl rfl ?_
  refine E_callV1 (pc := 3) dX8_near_3 C_X8_isTenth rfl kv_RX8_151 rfl rfl rfl ⟨Nat.le_of_ble_eq_true rfl, Nat.le_of_ble_eq_true rfl, Nat.le_of_ble_eq_true rfl, Nat.le_of_ble_eq_true rfl⟩ (Nat.le_of_ble_eq_true rfl) ?_
  refine E_if_eq (pc := 6) 34 dX8_near_6 rfl (fun q6 => ?_) (fun q6 => absurd (bi_f (fun z => hw z.1.1)) q6)
  refine E_iconst (pc := 34) (-1) dX8_near_34 (by decide) ?_
  refine E_iret (pc := 35) dX8_near_35 rfl ?_
  first | exact ⟨rfl, rfl⟩ | exact ⟨by grind [bi], rfl⟩
set_option maxHeartbeats 1600000 in
theorem C_lay7b {l : Launch} {G : GE} {h : Hp} {k i v : Int32} (hw : ¬ (0 ≤ k ∧ k ≤ 3)) : CT l G mX7_lay [vR g_oab 0, vI k, vI i, vI v] h (fun r h' => r = some (-1) ∧ h' = h) := by
  refine CT.of (lv := [_, _, _, _]) (by decide +kernel) (Nat.le_of_ble_eq_true rfl) rfl ?_
  refine E_iload_n (pc := 0) 1 dX7_lay_0 rfl rfl ?_
  refine E_callS1 (pc := 1) dX7_lay_1 C_X7_isSheet rfl ks_RX7_286 rfl ⟨Nat.le_of_ble_eq_true rfl, Nat.le_of_ble_eq_true rfl, Nat.le_of_ble_eq_true rfl, Nat.le_of_ble_eq_true rfl⟩ (Nat.le_of_ble_eq_true rfl) ?_
  refine E_if_ne (pc := 4) 9 dX7_lay_4 rfl (fun q4 => absurd (bi_f hw) q4) (fun q4 => ?_)
  refine E_iconst (pc := 7) (-1) dX7_lay_7 (by decide) ?_
  refine E_iret (pc := 8) dX7_lay_8 rfl ?_
  first | exact ⟨rfl, rfl⟩ | exact ⟨by grind [bi], rfl⟩
set_option maxHeartbeats 1600000 in
theorem C_lay8b {l : Launch} {G : GE} {h : Hp} {k i v : Int32} (hw : ¬ (0 ≤ k ∧ k ≤ 3)) : CT l G mX8_lay [vR g_model 0, vI k, vI i, vI v] h (fun r h' => r = some (-1) ∧ h' = h) := by
  refine CT.of (lv := [_, _, _, _]) (by decide +kernel) (Nat.le_of_ble_eq_true rfl) rfl ?_
  refine E_iload_n (pc := 0) 1 dX8_lay_0 rfl rfl ?_
  refine E_i2l (pc := 1) dX8_lay_1 ?_
  refine E_lconst (pc := 2) (0) dX8_lay_2 (by decide) ?_
  refine E_ldc2 (pc := 3) (3) dX8_lay_3 kk_RX8_142 ?_
  refine E_callS1 (pc := 6) dX8_lay_6 (C_X8_in (a := 0) (b := 3) (by decide) (by decide)) rfl ks_RX8_71 rfl ⟨Nat.le_of_ble_eq_true rfl, Nat.le_of_ble_eq_true rfl, Nat.le_of_ble_eq_true rfl, Nat.le_of_ble_eq_true rfl⟩ (Nat.le_of_ble_eq_true rfl) ?_
  refine E_if_ne (pc := 9) 14 dX8_lay_9 rfl (fun q9 => absurd (bi_f hw) q9) (fun q9 => ?_)
  refine E_iconst (pc := 12) (-1) dX8_lay_12 (by decide) ?_
  refine E_iret (pc := 13) dX8_lay_13 rfl ?_
  first | exact ⟨rfl, rfl⟩ | exact ⟨by grind [bi], rfl⟩
