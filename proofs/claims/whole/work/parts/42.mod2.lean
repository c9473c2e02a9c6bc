/-! the model: ways, ring, sheets -/
theorem natq {x : Int32} (b : Int32) (n : Nat) (hb : b = nI n) (hn : n < 2 ^ 31) (h0 : 0 ≤ x) (h1 : x ≤ b) : ∃ j : Nat, j ≤ n ∧ x = nI j := natof n hn h0 (hb ▸ h1)
abbrev mN (h : Hp) (w : Nat) : Nat → Int32 := fun i => h g_m_numbers 0 (64 * w + i)
theorem nI_its (w t p a : Nat) : 64 * nI w + 8 * nI t + 2 * nI p + nI a = nI (64 * w + (8 * t + 2 * p + a)) := by
  rw [show (64 : Int32) = nI 64 from rfl, show (8 : Int32) = nI 8 from rfl, show (2 : Int32) = nI 2 from rfl, pk_mul, pk_mul, pk_mul, nI_add, nI_add, nI_add]
  congr 1
  omega
theorem nI_its0 (w t p : Nat) : 64 * nI w + 8 * nI t + 2 * nI p = nI (64 * w + (8 * t + 2 * p)) := by
  rw [show (64 : Int32) = nI 64 from rfl, show (8 : Int32) = nI 8 from rfl, show (2 : Int32) = nI 2 from rfl, pk_mul, pk_mul, pk_mul, nI_add, nI_add]
  congr 1
  omega
set_option maxHeartbeats 1600000 in
theorem C_X8_its {l : Launch} {G : GE} {h : Hp} {w t p ax : Nat} (hw : w ≤ 5) (ht : t ≤ 7) (hp : p ≤ 3) (ha : ax ≤ 1) : CT l G mX8_its [vR g_model 0, vI (nI w), vI (nI t), vI (nI p), vI (nI ax)] h (fun r h' => r = some (mN h w (8 * t + 2 * p + ax)) ∧ h' = h) := by
  refine CT.of (lv := [_, _, _, _, _]) (by decide +kernel) (Nat.le_of_ble_eq_true rfl) rfl ?_
  refine E_aload_n (pc := 0) 0 dX8_its_0 rfl rfl ?_
  refine E_getR0 (pc := 1) dX8_its_1 fl_RX8_34 rfl rfl ?_
  refine E_bipush (pc := 4) (64) dX8_its_4 (by decide) ?_
  refine E_iload_n (pc := 6) 1 dX8_its_6 rfl rfl ?_
  refine E_imul (pc := 7) dX8_its_7 ?_
  refine E_bipush (pc := 8) (8) dX8_its_8 (by decide) ?_
  refine E_iload_n (pc := 10) 2 dX8_its_10 rfl rfl ?_
  refine E_imul (pc := 11) dX8_its_11 ?_
  refine E_iadd (pc := 12) dX8_its_12 ?_
  refine E_iconst (pc := 13) (2) dX8_its_13 (by decide) ?_
  refine E_iload_n (pc := 14) 3 dX8_its_14 rfl rfl ?_
  refine E_imul (pc := 15) dX8_its_15 ?_
  refine E_iadd (pc := 16) dX8_its_16 ?_
  refine E_iload (pc := 17) 4 dX8_its_17 rfl ?_
  refine E_iadd (pc := 19) dX8_its_19 ?_
  refine E_top (nI_its w t p ax) ?_
  refine E_iald (pc := 20) dX8_its_20 rfl (vp_in_nI (by omega) (by decide)) ?_
  refine E_iret (pc := 21) dX8_its_21 rfl ?_
  exact ⟨by rw [ixN_nI (by omega)], rfl⟩
set_option maxHeartbeats 1600000 in
theorem C_X8_way {l : Launch} {G : GE} {h : Hp} {w n f : Int32} : CT l G mX8_way [vR g_model 0, vI w, vI n, vI f] h (fun r h' => r = some (if (0 ≤ w ∧ w ≤ 5) ∧ (2 ≤ n ∧ n ≤ 8) ∧ 1 ≤ f ∧ f ≤ 2 then h g_m_tenths 0 (ixN w) else -1) ∧ h' = if (0 ≤ w ∧ w ≤ 5) ∧ (2 ≤ n ∧ n ≤ 8) ∧ 1 ≤ f ∧ f ≤ 2 then hset (hset (fed (fun _ => 0) h g_m_numbers (64 * ixN w) 64) g_m_tenths 0 (ixN w) n) g_m_feet 0 (ixN w) f else h) := by
  refine CT.of (lv := [_, _, _, _, _]) (by decide +kernel) (Nat.le_of_ble_eq_true rfl) rfl ?_
  refine E_iload_n (pc := 0) 1 dX8_way_0 rfl rfl ?_
  refine E_callS1 (pc := 1) dX8_way_1 C_X8_isNumber rfl ks_RX8_135 rfl ⟨Nat.le_of_ble_eq_true rfl, Nat.le_of_ble_eq_true rfl, Nat.le_of_ble_eq_true rfl, Nat.le_of_ble_eq_true rfl⟩ (Nat.le_of_ble_eq_true rfl) ?_
  refine E_if_eq (pc := 4) 33 dX8_way_4 rfl (fun q4 => ?_) (fun q4 => ?_)
  · refine E_iconst (pc := 33) (-1) dX8_way_33 (by decide) ?_
    refine E_iret (pc := 34) dX8_way_34 rfl ?_
    exact ⟨by grind [bi], by grind [bi]⟩
  · refine E_iload_n (pc := 7) 2 dX8_way_7 rfl rfl ?_
    refine E_i2l (pc := 8) dX8_way_8 ?_
    refine E_ldc2 (pc := 9) (2) dX8_way_9 kk_RX8_144 ?_
    refine E_ldc2 (pc := 12) (8) dX8_way_12 kk_RX8_146 ?_
    refine E_callS1 (pc := 15) dX8_way_15 (C_X8_in (a := 2) (b := 8) (by decide) (by decide)) rfl ks_RX8_71 rfl ⟨Nat.le_of_ble_eq_true rfl, Nat.le_of_ble_eq_true rfl, Nat.le_of_ble_eq_true rfl, Nat.le_of_ble_eq_true rfl⟩ (Nat.le_of_ble_eq_true rfl) ?_
    refine E_if_eq (pc := 18) 33 dX8_way_18 rfl (fun q18 => ?_) (fun q18 => ?_)
    · refine E_iconst (pc := 33) (-1) dX8_way_33 (by decide) ?_
      refine E_iret (pc := 34) dX8_way_34 rfl ?_
      exact ⟨by grind [bi], by grind [bi]⟩
    · refine E_iload_n (pc := 21) 3 dX8_way_21 rfl rfl ?_
      refine E_i2l (pc := 22) dX8_way_22 ?_
      refine E_lconst (pc := 23) (1) dX8_way_23 (by decide) ?_
      refine E_ldc2 (pc := 24) (2) dX8_way_24 kk_RX8_144 ?_
      refine E_callS1 (pc := 27) dX8_way_27 (C_X8_in (a := 1) (b := 2) (by decide) (by decide)) rfl ks_RX8_71 rfl ⟨Nat.le_of_ble_eq_true rfl, Nat.le_of_ble_eq_true rfl, Nat.le_of_ble_eq_true rfl, Nat.le_of_ble_eq_true rfl⟩ (Nat.le_of_ble_eq_true rfl) ?_
      refine E_if_ne (pc := 30) 35 dX8_way_30 rfl (fun q30 => ?_) (fun q30 => ?_)
      · obtain ⟨w', hw', rfl⟩ := natq (x := w) 5 5 rfl (by decide) (by grind [bi]) (by grind [bi])
        have ew : ixN (nI w') = w' := ixN_nI (by omega)
        refine E_aload_n (pc := 35) 0 dX8_way_35 rfl rfl ?_
        refine E_getR0 (pc := 36) dX8_way_36 fl_RX8_37 rfl rfl ?_
        refine E_iload_n (pc := 39) 1 dX8_way_39 rfl rfl ?_
        refine E_iald (pc := 40) dX8_way_40 rfl (ixl 5 (by grind [bi]) (by grind [bi]) (by decide)) ?_
        refine E_istore (pc := 41) 4 dX8_way_41 (Nat.le_of_ble_eq_true rfl) rfl (lz := [_, _, _, _, _]) rfl ?_
        refine E_aload_n (pc := 43) 0 dX8_way_43 rfl rfl ?_
        refine E_iload_n (pc := 44) 1 dX8_way_44 rfl rfl ?_
        refine E_callV0 (pc := 45) dX8_way_45 (C_X8_clear hw') rfl kv_RX8_148 rfl rfl rfl ⟨Nat.le_of_ble_eq_true rfl, Nat.le_of_ble_eq_true rfl, Nat.le_of_ble_eq_true rfl, Nat.le_of_ble_eq_true rfl⟩ (Nat.le_of_ble_eq_true rfl) ?_
        refine E_aload_n (pc := 48) 0 dX8_way_48 rfl rfl ?_
        refine E_getR0 (pc := 49) dX8_way_49 fl_RX8_37 rfl rfl ?_
        refine E_iload_n (pc := 52) 1 dX8_way_52 rfl rfl ?_
        refine E_iload_n (pc := 53) 2 dX8_way_53 rfl rfl ?_
        refine E_iast (pc := 54) dX8_way_54 rfl (ixl 5 (by grind [bi]) (by grind [bi]) (by decide)) ?_
        refine E_aload_n (pc := 55) 0 dX8_way_55 rfl rfl ?_
        refine E_getR0 (pc := 56) dX8_way_56 fl_RX8_40 rfl rfl ?_
        refine E_iload_n (pc := 59) 1 dX8_way_59 rfl rfl ?_
        refine E_iload_n (pc := 60) 3 dX8_way_60 rfl rfl ?_
        refine E_iast (pc := 61) dX8_way_61 rfl (ixl 5 (by grind [bi]) (by grind [bi]) (by decide)) ?_
        refine E_iload (pc := 62) 4 dX8_way_62 rfl ?_
        refine E_iret (pc := 64) dX8_way_64 rfl ?_
        exact ⟨by grind [bi], by rw [if_pos (by grind [bi]), ew]⟩
      · refine E_iconst (pc := 33) (-1) dX8_way_33 (by decide) ?_
        refine E_iret (pc := 34) dX8_way_34 rfl ?_
        exact ⟨by grind [bi], by grind [bi]⟩
theorem ixN_its {w t p a : Int32} (hw0 : 0 ≤ w) (hw : w ≤ 5) (ht0 : 0 ≤ t) (ht : t ≤ 7) (hp0 : 0 ≤ p) (hp : p ≤ 3) (ha0 : 0 ≤ a) (ha : a ≤ 1) : ixN (64 * w + 8 * t + 2 * p + a) = 64 * ixN w + (8 * ixN t + 2 * ixN p + ixN a) ∧ vp_in (64 * w + 8 * t + 2 * p + a) 384 := by
  obtain ⟨w', hw', rfl⟩ := natof (x := w) 5 (by decide) hw0 hw
  obtain ⟨t', ht', rfl⟩ := natof (x := t) 7 (by decide) ht0 ht
  obtain ⟨p', hp', rfl⟩ := natof (x := p) 3 (by decide) hp0 hp
  obtain ⟨a', ha', rfl⟩ := natof (x := a) 1 (by decide) ha0 ha
  rw [nI_its, ixN_nI (by omega), ixN_nI (by omega), ixN_nI (by omega), ixN_nI (by omega), ixN_nI (by omega)]
  exact ⟨rfl, vp_in_nI (by omega) (by decide)⟩
theorem ixN_its0 {w t p : Int32} (hw0 : 0 ≤ w) (hw : w ≤ 5) (ht0 : 0 ≤ t) (ht : t ≤ 7) (hp0 : 0 ≤ p) (hp : p ≤ 3) : ixN (64 * w + 8 * t + 2 * p) = 64 * ixN w + (8 * ixN t + 2 * ixN p) ∧ vp_in (64 * w + 8 * t + 2 * p) 384 := by
  obtain ⟨w', hw', rfl⟩ := natof (x := w) 5 (by decide) hw0 hw
  obtain ⟨t', ht', rfl⟩ := natof (x := t) 7 (by decide) ht0 ht
  obtain ⟨p', hp', rfl⟩ := natof (x := p) 3 (by decide) hp0 hp
  rw [nI_its0, ixN_nI (by omega), ixN_nI (by omega), ixN_nI (by omega), ixN_nI (by omega)]
  exact ⟨rfl, vp_in_nI (by omega) (by decide)⟩
set_option maxHeartbeats 1600000 in
theorem C_X8_put {l : Launch} {G : GE} {h : Hp} {w t p x y : Int32} (hT : h g_m_tenths 0 (ixN w) ≤ 8) : CT l G mX8_put [vR g_model 0, vI w, vI t, vI p, vI x, vI y] h (fun r h' => r = some (if (((0 ≤ w ∧ w ≤ 5) ∧ 0 < h g_m_tenths 0 (ixN w)) ∧ (0 ≤ t ∧ t ≤ h g_m_tenths 0 (ixN w) - 1) ∧ 0 ≤ p ∧ p ≤ 3) ∧ (-9 ≤ x ∧ x ≤ 9) ∧ -9 ≤ y ∧ y ≤ 9 then 1 else -1) ∧ h' = if (((0 ≤ w ∧ w ≤ 5) ∧ 0 < h g_m_tenths 0 (ixN w)) ∧ (0 ≤ t ∧ t ≤ h g_m_tenths 0 (ixN w) - 1) ∧ 0 ≤ p ∧ p ≤ 3) ∧ (-9 ≤ x ∧ x ≤ 9) ∧ -9 ≤ y ∧ y ≤ 9 then hset (hset h g_m_numbers 0 (64 * ixN w + (8 * ixN t + 2 * ixN p)) x) g_m_numbers 0 (64 * ixN w + (8 * ixN t + 2 * ixN p + 1)) y else h) := by
  refine CT.of (lv := [_, _, _, _, _, _]) (by decide +kernel) (Nat.le_of_ble_eq_true rfl) rfl ?_
  refine E_aload_n (pc := 0) 0 dX8_put_0 rfl rfl ?_
  refine E_iload_n (pc := 1) 1 dX8_put_1 rfl rfl ?_
  refine E_iload_n (pc := 2) 2 dX8_put_2 rfl rfl ?_
  refine E_callV1 (pc := 3) dX8_put_3 C_X8_isTenth rfl kv_RX8_151 rfl rfl rfl ⟨Nat.le_of_ble_eq_true rfl, Nat.le_of_ble_eq_true rfl, Nat.le_of_ble_eq_true rfl, Nat.le_of_ble_eq_true rfl⟩ (Nat.le_of_ble_eq_true rfl) ?_
  refine E_if_eq (pc := 6) 46 dX8_put_6 rfl (fun q6 => ?_) (fun q6 => ?_)
  · refine E_iconst (pc := 46) (-1) dX8_put_46 (by decide) ?_
    refine E_iret (pc := 47) dX8_put_47 rfl ?_
    exact ⟨by grind (splits := 24) [bi], by grind (splits := 24) [bi]⟩
  · refine E_iload_n (pc := 9) 3 dX8_put_9 rfl rfl ?_
    refine E_callS1 (pc := 10) dX8_put_10 C_X8_isPart rfl ks_RX8_155 rfl ⟨Nat.le_of_ble_eq_true rfl, Nat.le_of_ble_eq_true rfl, Nat.le_of_ble_eq_true rfl, Nat.le_of_ble_eq_true rfl⟩ (Nat.le_of_ble_eq_true rfl) ?_
    refine E_if_eq (pc := 13) 46 dX8_put_13 rfl (fun q13 => ?_) (fun q13 => ?_)
    · refine E_iconst (pc := 46) (-1) dX8_put_46 (by decide) ?_
      refine E_iret (pc := 47) dX8_put_47 rfl ?_
      exact ⟨by grind (splits := 24) [bi], by grind (splits := 24) [bi]⟩
    · refine E_iload (pc := 16) 4 dX8_put_16 rfl ?_
      refine E_i2l (pc := 18) dX8_put_18 ?_
      refine E_ldc2 (pc := 19) (-9) dX8_put_19 kk_RX8_158 ?_
      refine E_ldc2 (pc := 22) (9) dX8_put_22 kk_RX8_160 ?_
      refine E_callS1 (pc := 25) dX8_put_25 (C_X8_in (a := -9) (b := 9) (by decide) (by decide)) rfl ks_RX8_71 rfl ⟨Nat.le_of_ble_eq_true rfl, Nat.le_of_ble_eq_true rfl, Nat.le_of_ble_eq_true rfl, Nat.le_of_ble_eq_true rfl⟩ (Nat.le_of_ble_eq_true rfl) ?_
      refine E_if_eq (pc := 28) 46 dX8_put_28 rfl (fun q28 => ?_) (fun q28 => ?_)
      · refine E_iconst (pc := 46) (-1) dX8_put_46 (by decide) ?_
        refine E_iret (pc := 47) dX8_put_47 rfl ?_
        exact ⟨by grind (splits := 24) [bi], by grind (splits := 24) [bi]⟩
      · refine E_iload (pc := 31) 5 dX8_put_31 rfl ?_
        refine E_i2l (pc := 33) dX8_put_33 ?_
        refine E_ldc2 (pc := 34) (-9) dX8_put_34 kk_RX8_158 ?_
        refine E_ldc2 (pc := 37) (9) dX8_put_37 kk_RX8_160 ?_
        refine E_callS1 (pc := 40) dX8_put_40 (C_X8_in (a := -9) (b := 9) (by decide) (by decide)) rfl ks_RX8_71 rfl ⟨Nat.le_of_ble_eq_true rfl, Nat.le_of_ble_eq_true rfl, Nat.le_of_ble_eq_true rfl, Nat.le_of_ble_eq_true rfl⟩ (Nat.le_of_ble_eq_true rfl) ?_
        refine E_if_ne (pc := 43) 48 dX8_put_43 rfl (fun q43 => ?_) (fun q43 => ?_)
        · have e0 := ixN_its0 (w := w) (t := t) (p := p) (by grind [bi]) (by grind [bi]) (by grind [bi]) (by grind [bi]) (by grind [bi]) (by grind [bi])
          have e1 := ixN_its (w := w) (t := t) (p := p) (a := 1) (by grind [bi]) (by grind [bi]) (by grind [bi]) (by grind [bi]) (by grind [bi]) (by grind [bi]) (by decide) (by decide)
          refine E_aload_n (pc := 48) 0 dX8_put_48 rfl rfl ?_
          refine E_getR0 (pc := 49) dX8_put_49 fl_RX8_34 rfl rfl ?_
          refine E_bipush (pc := 52) (64) dX8_put_52 (by decide) ?_
          refine E_iload_n (pc := 54) 1 dX8_put_54 rfl rfl ?_
          refine E_imul (pc := 55) dX8_put_55 ?_
          refine E_bipush (pc := 56) (8) dX8_put_56 (by decide) ?_
          refine E_iload_n (pc := 58) 2 dX8_put_58 rfl rfl ?_
          refine E_imul (pc := 59) dX8_put_59 ?_
          refine E_iadd (pc := 60) dX8_put_60 ?_
          refine E_iconst (pc := 61) (2) dX8_put_61 (by decide) ?_
          refine E_iload_n (pc := 62) 3 dX8_put_62 rfl rfl ?_
          refine E_imul (pc := 63) dX8_put_63 ?_
          refine E_iadd (pc := 64) dX8_put_64 ?_
          refine E_iload (pc := 65) 4 dX8_put_65 rfl ?_
          refine E_iast (pc := 67) dX8_put_67 rfl e0.2 ?_
          refine E_aload_n (pc := 68) 0 dX8_put_68 rfl rfl ?_
          refine E_getR0 (pc := 69) dX8_put_69 fl_RX8_34 rfl rfl ?_
          refine E_bipush (pc := 72) (64) dX8_put_72 (by decide) ?_
          refine E_iload_n (pc := 74) 1 dX8_put_74 rfl rfl ?_
          refine E_imul (pc := 75) dX8_put_75 ?_
          refine E_bipush (pc := 76) (8) dX8_put_76 (by decide) ?_
          refine E_iload_n (pc := 78) 2 dX8_put_78 rfl rfl ?_
          refine E_imul (pc := 79) dX8_put_79 ?_
          refine E_iadd (pc := 80) dX8_put_80 ?_
          refine E_iconst (pc := 81) (2) dX8_put_81 (by decide) ?_
          refine E_iload_n (pc := 82) 3 dX8_put_82 rfl rfl ?_
          refine E_imul (pc := 83) dX8_put_83 ?_
          refine E_iadd (pc := 84) dX8_put_84 ?_
          refine E_iconst (pc := 85) (1) dX8_put_85 (by decide) ?_
          refine E_iadd (pc := 86) dX8_put_86 ?_
          refine E_iload (pc := 87) 5 dX8_put_87 rfl ?_
          refine E_iast (pc := 89) dX8_put_89 rfl e1.2 ?_
          refine E_iconst (pc := 90) (1) dX8_put_90 (by decide) ?_
          refine E_iret (pc := 91) dX8_put_91 rfl ?_
          exact ⟨by grind (splits := 24) [bi], by rw [if_pos (by grind (splits := 24) [bi]), e0.1, e1.1]; rfl⟩
        · refine E_iconst (pc := 46) (-1) dX8_put_46 (by decide) ?_
          refine E_iret (pc := 47) dX8_put_47 rfl ?_
          exact ⟨by grind (splits := 24) [bi], by grind (splits := 24) [bi]⟩
set_option maxHeartbeats 1600000 in
theorem C_X8_at {l : Launch} {G : GE} {h : Hp} {w t p a : Int32} (hT : h g_m_tenths 0 (ixN w) ≤ 8) : CT l G mX8_at [vR g_model 0, vI w, vI t, vI p, vI a] h (fun r h' => r = some (if (((0 ≤ w ∧ w ≤ 5) ∧ 0 < h g_m_tenths 0 (ixN w)) ∧ (0 ≤ t ∧ t ≤ h g_m_tenths 0 (ixN w) - 1) ∧ 0 ≤ p ∧ p ≤ 3) ∧ 0 ≤ a ∧ a ≤ 1 then mN h (ixN w) (8 * ixN t + 2 * ixN p + ixN a) else -1000) ∧ h' = h) := by
  refine CT.of (lv := [_, _, _, _, _]) (by decide +kernel) (Nat.le_of_ble_eq_true rfl) rfl ?_
  refine E_aload_n (pc := 0) 0 dX8_at_0 rfl rfl ?_
  refine E_iload_n (pc := 1) 1 dX8_at_1 rfl rfl ?_
  refine E_iload_n (pc := 2) 2 dX8_at_2 rfl rfl ?_
  refine E_callV1 (pc := 3) dX8_at_3 C_X8_isTenth rfl kv_RX8_151 rfl rfl rfl ⟨Nat.le_of_ble_eq_true rfl, Nat.le_of_ble_eq_true rfl, Nat.le_of_ble_eq_true rfl, Nat.le_of_ble_eq_true rfl⟩ (Nat.le_of_ble_eq_true rfl) ?_
  refine E_if_eq (pc := 6) 39 dX8_at_6 rfl (fun q6 => ?_) (fun q6 => ?_)
  · refine E_sipush (pc := 39) (-1000) dX8_at_39 (by decide) ?_
    refine E_iret (pc := 42) dX8_at_42 rfl ?_
    exact ⟨by grind (splits := 24) [bi], rfl⟩
  · refine E_iload_n (pc := 9) 3 dX8_at_9 rfl rfl ?_
    refine E_callS1 (pc := 10) dX8_at_10 C_X8_isPart rfl ks_RX8_155 rfl ⟨Nat.le_of_ble_eq_true rfl, Nat.le_of_ble_eq_true rfl, Nat.le_of_ble_eq_true rfl, Nat.le_of_ble_eq_true rfl⟩ (Nat.le_of_ble_eq_true rfl) ?_
    refine E_if_eq (pc := 13) 39 dX8_at_13 rfl (fun q13 => ?_) (fun q13 => ?_)
    · refine E_sipush (pc := 39) (-1000) dX8_at_39 (by decide) ?_
      refine E_iret (pc := 42) dX8_at_42 rfl ?_
      exact ⟨by grind (splits := 24) [bi], rfl⟩
    · refine E_iload (pc := 16) 4 dX8_at_16 rfl ?_
      refine E_i2l (pc := 18) dX8_at_18 ?_
      refine E_lconst (pc := 19) (0) dX8_at_19 (by decide) ?_
      refine E_lconst (pc := 20) (1) dX8_at_20 (by decide) ?_
      refine E_callS1 (pc := 21) dX8_at_21 (C_X8_in (a := 0) (b := 1) (by decide) (by decide)) rfl ks_RX8_71 rfl ⟨Nat.le_of_ble_eq_true rfl, Nat.le_of_ble_eq_true rfl, Nat.le_of_ble_eq_true rfl, Nat.le_of_ble_eq_true rfl⟩ (Nat.le_of_ble_eq_true rfl) ?_
      refine E_if_eq (pc := 24) 39 dX8_at_24 rfl (fun q24 => ?_) (fun q24 => ?_)
      · refine E_sipush (pc := 39) (-1000) dX8_at_39 (by decide) ?_
        refine E_iret (pc := 42) dX8_at_42 rfl ?_
        exact ⟨by grind (splits := 24) [bi], rfl⟩
      · obtain ⟨w', hw', ew⟩ := natq (x := w) 5 5 rfl (by decide) (by grind [bi]) (by grind [bi])
        obtain ⟨t', ht', et⟩ := natq (x := t) 7 7 rfl (by decide) (by grind [bi]) (by grind [bi])
        obtain ⟨p', hp', ep⟩ := natq (x := p) 3 3 rfl (by decide) (by grind [bi]) (by grind [bi])
        obtain ⟨a', ha', ea⟩ := natq (x := a) 1 1 rfl (by decide) (by grind [bi]) (by grind [bi])
        refine E_eq (st' := [vI (nI a'), vI (nI p'), vI (nI t'), vI (nI w'), vR g_model 0].drop 5) (by rw [ew, et, ep, ea]) rfl rfl ?_
        refine E_aload_n (pc := 27) 0 dX8_at_27 rfl rfl ?_
        refine E_iload_n (pc := 28) 1 dX8_at_28 rfl rfl ?_
        refine E_iload_n (pc := 29) 2 dX8_at_29 rfl rfl ?_
        refine E_iload_n (pc := 30) 3 dX8_at_30 rfl rfl ?_
        refine E_iload (pc := 31) 4 dX8_at_31 rfl ?_
        refine E_callV1 (pc := 33) dX8_at_33 (C_X8_its hw' ht' hp' ha') rfl kv_RX8_162 rfl rfl rfl ⟨Nat.le_of_ble_eq_true rfl, Nat.le_of_ble_eq_true rfl, Nat.le_of_ble_eq_true rfl, Nat.le_of_ble_eq_true rfl⟩ (Nat.le_of_ble_eq_true rfl) ?_
        refine E_top (y := mN h (ixN w) (8 * ixN t + 2 * ixN p + ixN a)) (by rw [ew, et, ep, ea, ixN_nI (by omega), ixN_nI (by omega), ixN_nI (by omega), ixN_nI (by omega)]) ?_
        refine E_goto (pc := 36) 42 dX8_at_36 rfl ?_
        refine E_iret (pc := 42) dX8_at_42 rfl ?_
        exact ⟨by grind (splits := 24) [bi], rfl⟩
set_option maxHeartbeats 1600000 in
theorem C_X8_of {l : Launch} {G : GE} {h : Hp} {w a : Int32} : CT l G mX8_of [vR g_model 0, vI w, vI a] h (fun r h' => r = some (if ((0 ≤ w ∧ w ≤ 5) ∧ 0 < h g_m_tenths 0 (ixN w)) ∧ 0 ≤ a ∧ a ≤ 1 then (if a = 0 then h g_m_tenths 0 (ixN w) else h g_m_feet 0 (ixN w)) else -1) ∧ h' = h) := by
  refine CT.of (lv := [_, _, _]) (by decide +kernel) (Nat.le_of_ble_eq_true rfl) rfl ?_
  refine E_aload_n (pc := 0) 0 dX8_of_0 rfl rfl ?_
  refine E_iload_n (pc := 1) 1 dX8_of_1 rfl rfl ?_
  refine E_callV1 (pc := 2) dX8_of_2 C_X8_isWay rfl kv_RX8_139 rfl rfl rfl ⟨Nat.le_of_ble_eq_true rfl, Nat.le_of_ble_eq_true rfl, Nat.le_of_ble_eq_true rfl, Nat.le_of_ble_eq_true rfl⟩ (Nat.le_of_ble_eq_true rfl) ?_
  refine E_if_eq (pc := 5) 40 dX8_of_5 rfl (fun q5 => ?_) (fun q5 => ?_)
  · refine E_iconst (pc := 40) (-1) dX8_of_40 (by decide) ?_
    refine E_iret (pc := 41) dX8_of_41 rfl ?_
    exact ⟨by grind [bi], by grind [bi]⟩
  · refine E_iload_n (pc := 8) 2 dX8_of_8 rfl rfl ?_
    refine E_i2l (pc := 9) dX8_of_9 ?_
    refine E_lconst (pc := 10) (0) dX8_of_10 (by decide) ?_
    refine E_lconst (pc := 11) (1) dX8_of_11 (by decide) ?_
    refine E_callS1 (pc := 12) dX8_of_12 (C_X8_in (a := 0) (b := 1) (by decide) (by decide)) rfl ks_RX8_71 rfl ⟨Nat.le_of_ble_eq_true rfl, Nat.le_of_ble_eq_true rfl, Nat.le_of_ble_eq_true rfl, Nat.le_of_ble_eq_true rfl⟩ (Nat.le_of_ble_eq_true rfl) ?_
    refine E_if_eq (pc := 15) 40 dX8_of_15 rfl (fun q15 => ?_) (fun q15 => ?_)
    · refine E_iconst (pc := 40) (-1) dX8_of_40 (by decide) ?_
      refine E_iret (pc := 41) dX8_of_41 rfl ?_
      exact ⟨by grind [bi], by grind [bi]⟩
    · refine E_iload_n (pc := 18) 2 dX8_of_18 rfl rfl ?_
      refine E_if_ne (pc := 19) 31 dX8_of_19 rfl (fun q19 => ?_) (fun q19 => ?_)
      · refine E_aload_n (pc := 31) 0 dX8_of_31 rfl rfl ?_
        refine E_getR0 (pc := 32) dX8_of_32 fl_RX8_40 rfl rfl ?_
        refine E_iload_n (pc := 35) 1 dX8_of_35 rfl rfl ?_
        refine E_iald (pc := 36) dX8_of_36 rfl (ixl 5 (by grind [bi]) (by grind [bi]) (by decide)) ?_
        refine E_goto (pc := 37) 41 dX8_of_37 rfl ?_
        refine E_iret (pc := 41) dX8_of_41 rfl ?_
        exact ⟨by grind [bi], by grind [bi]⟩
      · refine E_aload_n (pc := 22) 0 dX8_of_22 rfl rfl ?_
        refine E_getR0 (pc := 23) dX8_of_23 fl_RX8_37 rfl rfl ?_
        refine E_iload_n (pc := 26) 1 dX8_of_26 rfl rfl ?_
        refine E_iald (pc := 27) dX8_of_27 rfl (ixl 5 (by grind [bi]) (by grind [bi]) (by decide)) ?_
        refine E_goto (pc := 28) 41 dX8_of_28 rfl ?_
        refine E_iret (pc := 41) dX8_of_41 rfl ?_
        exact ⟨by grind [bi], by grind [bi]⟩
