/-! the model: small changes -/
theorem div2 {c : Nat} (hc : c < 2 ^ 31) : nI c / 2 = nI (c / 2) := pk_div (d := 2) hc (by decide) (by decide)
theorem rem2 {c : Nat} (hc : c < 2 ^ 31) : nI c - nI c / 2 * 2 = nI (c % 2) := by
  rw [div2 hc, show (2 : Int32) = nI 2 from rfl, pk_mul, pk_sub (by omega)]
  congr 1
  omega
theorem rem2_0 {c : Nat} (hc : c < 2 ^ 31) : nI c - nI c / 2 * 2 = 0 ↔ c % 2 = 0 := by
  rw [rem2 hc]
  exact ⟨fun e => (nI_eq (b := 0) (by omega) (by decide)).mp e, fun e => by rw [e]; rfl⟩
abbrev chP (N : Nat → Int32) (T c : Nat) : Prop := c < 16 * T ∧ okN (N (c / 2) + stp c)
set_option maxHeartbeats 1600000 in
theorem C_X8_changed {l : Launch} {G : GE} {h : Hp} {w T c : Nat} (hw : w ≤ 5) (hT : h g_m_tenths 0 w = nI T) (hT8 : T ≤ 8) (hc : c < 128) : CT l G mX8_changed [vR g_model 0, vI (nI w), vI (nI c)] h (fun r h' => r = some (if chP (mN h w) T c then nI (64 * w + c / 2) else -4) ∧ h' = h) := by
  refine CT.of (lv := [_, _, _, _, _]) (by decide +kernel) (Nat.le_of_ble_eq_true rfl) rfl ?_
  refine E_iload_n (pc := 0) 2 dX8_changed_0 rfl rfl ?_
  refine E_iconst (pc := 1) (2) dX8_changed_1 (by decide) ?_
  refine E_idiv (pc := 2) dX8_changed_2 (by decide) ?_
  refine E_top (y := nI (c / 2)) (div2 (by omega)) ?_
  refine E_istore_n (pc := 3) 3 dX8_changed_3 rfl (Nat.le_of_ble_eq_true rfl) rfl (lz := [_, _, _, _, _]) rfl ?_
  refine E_iload_n (pc := 4) 3 dX8_changed_4 rfl rfl ?_
  refine E_bipush (pc := 5) (8) dX8_changed_5 (by decide) ?_
  refine E_aload_n (pc := 7) 0 dX8_changed_7 rfl rfl ?_
  refine E_getR0 (pc := 8) dX8_changed_8 fl_RX8_37 rfl rfl ?_
  refine E_iload_n (pc := 11) 1 dX8_changed_11 rfl rfl ?_
  refine E_iald (pc := 12) dX8_changed_12 rfl (vp_in_nI (by omega) (by decide)) ?_
  refine E_imul (pc := 13) dX8_changed_13 ?_
  refine E_top (y := nI (8 * T)) (by rw [ixN_nI (by omega), hT, show (8 : Int32) = nI 8 from rfl, pk_mul]) ?_
  refine E_icmp_ge (pc := 14) 43 dX8_changed_14 rfl (fun q14 => ?_) (fun q14 => ?_)
  · have h1 : ¬ c < 16 * T := by have := (nI_leI (by omega) (by omega)).mp q14; omega
    refine E_bipush (pc := 43) (99) dX8_changed_43 (by decide) ?_
    refine E_istore (pc := 45) 4 dX8_changed_45 (Nat.le_of_ble_eq_true rfl) rfl (lz := [_, _, _, _, _]) rfl ?_
    refine E_iload (pc := 47) 4 dX8_changed_47 rfl ?_
    refine E_i2l (pc := 49) dX8_changed_49 ?_
    refine E_ldc2 (pc := 50) (-9) dX8_changed_50 kk_RX8_158 ?_
    refine E_ldc2 (pc := 53) (9) dX8_changed_53 kk_RX8_160 ?_
    refine E_callS1 (pc := 56) dX8_changed_56 (C_X8_in (a := -9) (b := 9) (by decide) (by decide)) rfl ks_RX8_71 rfl ⟨Nat.le_of_ble_eq_true rfl, Nat.le_of_ble_eq_true rfl, Nat.le_of_ble_eq_true rfl, Nat.le_of_ble_eq_true rfl⟩ (Nat.le_of_ble_eq_true rfl) ?_
    refine E_if_eq (pc := 59) 71 dX8_changed_59 rfl (fun q59 => ?_) (fun q59 => absurd (bi_f (show ¬ ((-9 : Int32) ≤ 99 ∧ (99 : Int32) ≤ 9) by decide)) q59)
    refine E_bipush (pc := 71) (-4) dX8_changed_71 (by decide) ?_
    refine E_iret (pc := 73) dX8_changed_73 rfl ?_
    exact ⟨congrArg some (if_neg (fun z => h1 z.1)).symm, rfl⟩
  · have h1 : c < 16 * T := by have := mt (nI_leI (a := 8 * T) (b := c / 2) (by omega) (by omega)).mpr q14; omega
    refine E_aload_n (pc := 17) 0 dX8_changed_17 rfl rfl ?_
    refine E_getR0 (pc := 18) dX8_changed_18 fl_RX8_34 rfl rfl ?_
    refine E_bipush (pc := 21) (64) dX8_changed_21 (by decide) ?_
    refine E_iload_n (pc := 23) 1 dX8_changed_23 rfl rfl ?_
    refine E_imul (pc := 24) dX8_changed_24 ?_
    refine E_iload_n (pc := 25) 3 dX8_changed_25 rfl rfl ?_
    refine E_iadd (pc := 26) dX8_changed_26 ?_
    refine E_top (nI_64 w (c / 2)) ?_
    refine E_iald (pc := 27) dX8_changed_27 rfl (vp_in_nI (by omega) (by decide)) ?_
    refine E_top (y := mN h w (c / 2)) (by rw [ixN_nI (by omega)]) ?_
    refine E_iload_n (pc := 28) 2 dX8_changed_28 rfl rfl ?_
    refine E_iconst (pc := 29) (2) dX8_changed_29 (by decide) ?_
    refine E_irem (pc := 30) dX8_changed_30 (by decide) ?_
    refine E_if_ne (pc := 31) 38 dX8_changed_31 rfl (fun q31 => ?_) (fun q31 => ?_)
    · have h2 : stp c = -1 := if_neg (mt (rem2_0 (by omega)).mpr q31)
      refine E_iconst (pc := 38) (-1) dX8_changed_38 (by decide) ?_
      refine E_iadd (pc := 39) dX8_changed_39 ?_
      refine E_top (y := mN h w (c / 2) + stp c) (by rw [h2]) ?_
      refine E_goto (pc := 40) 45 dX8_changed_40 rfl ?_
      refine E_istore (pc := 45) 4 dX8_changed_45 (Nat.le_of_ble_eq_true rfl) rfl (lz := [_, _, _, _, _]) rfl ?_
      refine E_iload (pc := 47) 4 dX8_changed_47 rfl ?_
      refine E_i2l (pc := 49) dX8_changed_49 ?_
      refine E_ldc2 (pc := 50) (-9) dX8_changed_50 kk_RX8_158 ?_
      refine E_ldc2 (pc := 53) (9) dX8_changed_53 kk_RX8_160 ?_
      refine E_callS1 (pc := 56) dX8_changed_56 (C_X8_in (a := -9) (b := 9) (by decide) (by decide)) rfl ks_RX8_71 rfl ⟨Nat.le_of_ble_eq_true rfl, Nat.le_of_ble_eq_true rfl, Nat.le_of_ble_eq_true rfl, Nat.le_of_ble_eq_true rfl⟩ (Nat.le_of_ble_eq_true rfl) ?_
      refine E_if_eq (pc := 59) 71 dX8_changed_59 rfl (fun q59 => ?_) (fun q59 => ?_)
      · refine E_bipush (pc := 71) (-4) dX8_changed_71 (by decide) ?_
        refine E_iret (pc := 73) dX8_changed_73 rfl ?_
        first | exact ⟨congrArg some (if_neg (fun z => bi_0.mp q59 z.2)).symm, rfl⟩ | exact ⟨congrArg some (if_pos ⟨h1, Decidable.of_not_not (fun z => q59 (bi_0.mpr z))⟩).symm, rfl⟩
      · refine E_bipush (pc := 62) (64) dX8_changed_62 (by decide) ?_
        refine E_iload_n (pc := 64) 1 dX8_changed_64 rfl rfl ?_
        refine E_imul (pc := 65) dX8_changed_65 ?_
        refine E_iload_n (pc := 66) 3 dX8_changed_66 rfl rfl ?_
        refine E_iadd (pc := 67) dX8_changed_67 ?_
        refine E_top (nI_64 w (c / 2)) ?_
        refine E_goto (pc := 68) 73 dX8_changed_68 rfl ?_
        refine E_iret (pc := 73) dX8_changed_73 rfl ?_
        first | exact ⟨congrArg some (if_neg (fun z => bi_0.mp q59 z.2)).symm, rfl⟩ | exact ⟨congrArg some (if_pos ⟨h1, Decidable.of_not_not (fun z => q59 (bi_0.mpr z))⟩).symm, rfl⟩
    · have h2 : stp c = 1 := if_pos ((rem2_0 (by omega)).mp q31)
      refine E_iconst (pc := 34) (1) dX8_changed_34 (by decide) ?_
      refine E_goto (pc := 35) 39 dX8_changed_35 rfl ?_
      refine E_iadd (pc := 39) dX8_changed_39 ?_
      refine E_top (y := mN h w (c / 2) + stp c) (by rw [h2]) ?_
      refine E_goto (pc := 40) 45 dX8_changed_40 rfl ?_
      refine E_istore (pc := 45) 4 dX8_changed_45 (Nat.le_of_ble_eq_true rfl) rfl (lz := [_, _, _, _, _]) rfl ?_
      refine E_iload (pc := 47) 4 dX8_changed_47 rfl ?_
      refine E_i2l (pc := 49) dX8_changed_49 ?_
      refine E_ldc2 (pc := 50) (-9) dX8_changed_50 kk_RX8_158 ?_
      refine E_ldc2 (pc := 53) (9) dX8_changed_53 kk_RX8_160 ?_
      refine E_callS1 (pc := 56) dX8_changed_56 (C_X8_in (a := -9) (b := 9) (by decide) (by decide)) rfl ks_RX8_71 rfl ⟨Nat.le_of_ble_eq_true rfl, Nat.le_of_ble_eq_true rfl, Nat.le_of_ble_eq_true rfl, Nat.le_of_ble_eq_true rfl⟩ (Nat.le_of_ble_eq_true rfl) ?_
      refine E_if_eq (pc := 59) 71 dX8_changed_59 rfl (fun q59 => ?_) (fun q59 => ?_)
      · refine E_bipush (pc := 71) (-4) dX8_changed_71 (by decide) ?_
        refine E_iret (pc := 73) dX8_changed_73 rfl ?_
        first | exact ⟨congrArg some (if_neg (fun z => bi_0.mp q59 z.2)).symm, rfl⟩ | exact ⟨congrArg some (if_pos ⟨h1, Decidable.of_not_not (fun z => q59 (bi_0.mpr z))⟩).symm, rfl⟩
      · refine E_bipush (pc := 62) (64) dX8_changed_62 (by decide) ?_
        refine E_iload_n (pc := 64) 1 dX8_changed_64 rfl rfl ?_
        refine E_imul (pc := 65) dX8_changed_65 ?_
        refine E_iload_n (pc := 66) 3 dX8_changed_66 rfl rfl ?_
        refine E_iadd (pc := 67) dX8_changed_67 ?_
        refine E_top (nI_64 w (c / 2)) ?_
        refine E_goto (pc := 68) 73 dX8_changed_68 rfl ?_
        refine E_iret (pc := 73) dX8_changed_73 rfl ?_
        first | exact ⟨congrArg some (if_neg (fun z => bi_0.mp q59 z.2)).symm, rfl⟩ | exact ⟨congrArg some (if_pos ⟨h1, Decidable.of_not_not (fun z => q59 (bi_0.mpr z))⟩).symm, rfl⟩
theorem mN_set {h : Hp} {w i : Nat} {v : Int32} : mN (hset h g_m_numbers 0 (64 * w + i) v) w = upd (mN h w) i v := by
  funext j
  show hset h g_m_numbers 0 (64 * w + i) v g_m_numbers 0 (64 * w + j) = upd (mN h w) i v j
  unfold hset upd
  by_cases e : j = i
  · rw [if_pos ⟨rfl, rfl, by omega⟩, if_pos e]
  · rw [if_neg (fun z => e (by omega)), if_neg e]
theorem chN_RN {N : Nat → Int32} {T c : Nat} (hN : RN N) (hc : chP N T c) : RN (chN N c) := by
  intro i hi
  unfold chN upd
  by_cases e : i = c / 2
  · rw [if_pos e]; exact hc.2
  · rw [if_neg e]; exact hN i hi
theorem mN_ch {h : Hp} {w c : Nat} : mN (hset h g_m_numbers 0 (64 * w + c / 2) (h g_m_numbers 0 (64 * w + c / 2) + stp c)) w = chN (mN h w) c := mN_set
theorem hset_o2 {h : Hp} {t i k t' : Nat} {v : Int32} (hne : t' ≠ t) : hset h t i k v t' = h t' := by
  funext b c
  unfold hset
  rw [if_neg (fun z => hne z.1)]
set_option maxHeartbeats 1600000 in
theorem C_X8_worthBy {l : Launch} {G : GE} {h : Hp} {w T c : Nat} (hV : RV (h g_m_holds 0)) (hN : RN (mN h w)) (hw : w ≤ 5) (hT : h g_m_tenths 0 w = nI T) (hT1 : 1 ≤ T) (hT8 : T ≤ 8) (hc : c < 128) (hP : chP (mN h w) T c) : CT l G mX8_worthBy [vR g_model 0, vI (nI w), vI (nI c)] h (fun r h' => r = some (sWorth (h g_m_holds 0) (chN (mN h w) c) T (h g_m_feet 0 w)) ∧ h' = h) := by
  refine CT.of (lv := [_, _, _, _, _, _]) (by decide +kernel) (Nat.le_of_ble_eq_true rfl) rfl ?_
  have hb : c / 2 < 64 := by omega
  refine E_aload_n (pc := 0) 0 dX8_worthBy_0 rfl rfl ?_
  refine E_iload_n (pc := 1) 1 dX8_worthBy_1 rfl rfl ?_
  refine E_iload_n (pc := 2) 2 dX8_worthBy_2 rfl rfl ?_
  refine E_callV1 (pc := 3) dX8_worthBy_3 (C_X8_changed hw hT hT8 hc) rfl kv_RX8_215 rfl rfl rfl ⟨Nat.le_of_ble_eq_true rfl, Nat.le_of_ble_eq_true rfl, Nat.le_of_ble_eq_true rfl, Nat.le_of_ble_eq_true rfl⟩ (Nat.le_of_ble_eq_true rfl) ?_
  refine E_top (y := nI (64 * w + c / 2)) (if_pos hP) ?_
  refine E_istore_n (pc := 6) 3 dX8_worthBy_6 rfl (Nat.le_of_ble_eq_true rfl) rfl (lz := [_, _, _, _, _, _]) rfl ?_
  refine E_iload_n (pc := 7) 2 dX8_worthBy_7 rfl rfl ?_
  refine E_iconst (pc := 8) (2) dX8_worthBy_8 (by decide) ?_
  refine E_irem (pc := 9) dX8_worthBy_9 (by decide) ?_
  refine E_if_ne (pc := 10) 17 dX8_worthBy_10 rfl (fun q10 => ?_) (fun q10 => ?_)
  · have h2 : -1 = stp c := (if_neg (mt (rem2_0 (by omega)).mpr q10)).symm
    refine E_iconst (pc := 17) (-1) dX8_worthBy_17 (by decide) ?_
    refine E_top h2 ?_
    refine E_istore (pc := 18) 4 dX8_worthBy_18 (Nat.le_of_ble_eq_true rfl) rfl (lz := [_, _, _, _, _, _]) rfl ?_
    have hi : vp_in (nI (64 * w + c / 2)) 384 := vp_in_nI (by omega) (by decide)
    have ei : ixN (nI (64 * w + c / 2)) = 64 * w + c / 2 := ixN_nI (by omega)
    refine E_aload_n (pc := 20) 0 dX8_worthBy_20 rfl rfl ?_
    refine E_getR0 (pc := 21) dX8_worthBy_21 fl_RX8_34 rfl rfl ?_
    refine E_iload_n (pc := 24) 3 dX8_worthBy_24 rfl rfl ?_
    refine E_dup2 (pc := 25) dX8_worthBy_25 (fun _ z => by cases z) (fun _ z => by cases z) ?_
    refine E_iald (pc := 26) dX8_worthBy_26 rfl hi ?_
    refine E_iload (pc := 27) 4 dX8_worthBy_27 rfl ?_
    refine E_iadd (pc := 29) dX8_worthBy_29 ?_
    refine E_iast (pc := 30) dX8_worthBy_30 rfl hi ?_
    refine E_heq (h' := hset h g_m_numbers 0 (64 * w + c / 2) (h g_m_numbers 0 (64 * w + c / 2) + stp c)) (by rw [ei]) ?_
    refine E_aload_n (pc := 31) 0 dX8_worthBy_31 rfl rfl ?_
    refine E_iload_n (pc := 32) 1 dX8_worthBy_32 rfl rfl ?_
    refine E_aload_n (pc := 33) 0 dX8_worthBy_33 rfl rfl ?_
    refine E_getR0 (pc := 34) dX8_worthBy_34 fl_RX8_40 rfl rfl ?_
    refine E_iload_n (pc := 37) 1 dX8_worthBy_37 rfl rfl ?_
    refine E_iald (pc := 38) dX8_worthBy_38 rfl (vp_in_nI (by omega) (by decide)) ?_
    refine E_top (y := h g_m_feet 0 w) (by rw [ixN_nI (by omega), hset_o2 (by decide)]) ?_
    refine E_callV1 (pc := 39) dX8_worthBy_39 (C_X8_worthOf (by rw [hset_o2 (by decide)]; exact hV) (by rw [mN_ch]; exact chN_RN hN hP) hw (by rw [hset_o2 (by decide)]; exact hT) hT1 hT8) rfl kv_RX8_212 rfl rfl rfl ⟨Nat.le_of_ble_eq_true rfl, Nat.le_of_ble_eq_true rfl, Nat.le_of_ble_eq_true rfl, Nat.le_of_ble_eq_true rfl⟩ (Nat.le_of_ble_eq_true rfl) ?_
    refine E_top (y := sWorth (h g_m_holds 0) (chN (mN h w) c) T (h g_m_feet 0 w)) (by rw [mN_ch, hset_o2 (by decide)]) ?_
    refine E_istore (pc := 42) 5 dX8_worthBy_42 (Nat.le_of_ble_eq_true rfl) rfl (lz := [_, _, _, _, _, _]) rfl ?_
    refine E_aload_n (pc := 44) 0 dX8_worthBy_44 rfl rfl ?_
    refine E_getR0 (pc := 45) dX8_worthBy_45 fl_RX8_34 rfl rfl ?_
    refine E_iload_n (pc := 48) 3 dX8_worthBy_48 rfl rfl ?_
    refine E_dup2 (pc := 49) dX8_worthBy_49 (fun _ z => by cases z) (fun _ z => by cases z) ?_
    refine E_iald (pc := 50) dX8_worthBy_50 rfl hi ?_
    refine E_iload (pc := 51) 4 dX8_worthBy_51 rfl ?_
    refine E_isub (pc := 53) dX8_worthBy_53 ?_
    refine E_iast (pc := 54) dX8_worthBy_54 rfl hi ?_
    refine E_heq (h' := h) (by rw [ei, hset_same, hset_eq, Int32.add_sub_cancel, hset_self]) ?_
    refine E_iload (pc := 55) 5 dX8_worthBy_55 rfl ?_
    refine E_iret (pc := 57) dX8_worthBy_57 rfl ?_
    first | exact ⟨rfl, rfl⟩ | exact ⟨by grind [bi], rfl⟩
  · have h2 : 1 = stp c := (if_pos ((rem2_0 (by omega)).mp q10)).symm
    refine E_iconst (pc := 13) (1) dX8_worthBy_13 (by decide) ?_
    refine E_goto (pc := 14) 18 dX8_worthBy_14 rfl ?_
    refine E_top h2 ?_
    refine E_istore (pc := 18) 4 dX8_worthBy_18 (Nat.le_of_ble_eq_true rfl) rfl (lz := [_, _, _, _, _, _]) rfl ?_
    have hi : vp_in (nI (64 * w + c / 2)) 384 := vp_in_nI (by omega) (by decide)
    have ei : ixN (nI (64 * w + c / 2)) = 64 * w + c / 2 := ixN_nI (by omega)
    refine E_aload_n (pc := 20) 0 dX8_worthBy_20 rfl rfl ?_
    refine E_getR0 (pc := 21) dX8_worthBy_21 fl_RX8_34 rfl rfl ?_
    refine E_iload_n (pc := 24) 3 dX8_worthBy_24 rfl rfl ?_
    refine E_dup2 (pc := 25) dX8_worthBy_25 (fun _ z => by cases z) (fun _ z => by cases z) ?_
    refine E_iald (pc := 26) dX8_worthBy_26 rfl hi ?_
    refine E_iload (pc := 27) 4 dX8_worthBy_27 rfl ?_
    refine E_iadd (pc := 29) dX8_worthBy_29 ?_
    refine E_iast (pc := 30) dX8_worthBy_30 rfl hi ?_
    refine E_heq (h' := hset h g_m_numbers 0 (64 * w + c / 2) (h g_m_numbers 0 (64 * w + c / 2) + stp c)) (by rw [ei]) ?_
    refine E_aload_n (pc := 31) 0 dX8_worthBy_31 rfl rfl ?_
    refine E_iload_n (pc := 32) 1 dX8_worthBy_32 rfl rfl ?_
    refine E_aload_n (pc := 33) 0 dX8_worthBy_33 rfl rfl ?_
    refine E_getR0 (pc := 34) dX8_worthBy_34 fl_RX8_40 rfl rfl ?_
    refine E_iload_n (pc := 37) 1 dX8_worthBy_37 rfl rfl ?_
    refine E_iald (pc := 38) dX8_worthBy_38 rfl (vp_in_nI (by omega) (by decide)) ?_
    refine E_top (y := h g_m_feet 0 w) (by rw [ixN_nI (by omega), hset_o2 (by decide)]) ?_
    refine E_callV1 (pc := 39) dX8_worthBy_39 (C_X8_worthOf (by rw [hset_o2 (by decide)]; exact hV) (by rw [mN_ch]; exact chN_RN hN hP) hw (by rw [hset_o2 (by decide)]; exact hT) hT1 hT8) rfl kv_RX8_212 rfl rfl rfl ⟨Nat.le_of_ble_eq_true rfl, Nat.le_of_ble_eq_true rfl, Nat.le_of_ble_eq_true rfl, Nat.le_of_ble_eq_true rfl⟩ (Nat.le_of_ble_eq_true rfl) ?_
    refine E_top (y := sWorth (h g_m_holds 0) (chN (mN h w) c) T (h g_m_feet 0 w)) (by rw [mN_ch, hset_o2 (by decide)]) ?_
    refine E_istore (pc := 42) 5 dX8_worthBy_42 (Nat.le_of_ble_eq_true rfl) rfl (lz := [_, _, _, _, _, _]) rfl ?_
    refine E_aload_n (pc := 44) 0 dX8_worthBy_44 rfl rfl ?_
    refine E_getR0 (pc := 45) dX8_worthBy_45 fl_RX8_34 rfl rfl ?_
    refine E_iload_n (pc := 48) 3 dX8_worthBy_48 rfl rfl ?_
    refine E_dup2 (pc := 49) dX8_worthBy_49 (fun _ z => by cases z) (fun _ z => by cases z) ?_
    refine E_iald (pc := 50) dX8_worthBy_50 rfl hi ?_
    refine E_iload (pc := 51) 4 dX8_worthBy_51 rfl ?_
    refine E_isub (pc := 53) dX8_worthBy_53 ?_
    refine E_iast (pc := 54) dX8_worthBy_54 rfl hi ?_
    refine E_heq (h' := h) (by rw [ei, hset_same, hset_eq, Int32.add_sub_cancel, hset_self]) ?_
    refine E_iload (pc := 55) 5 dX8_worthBy_55 rfl ?_
    refine E_iret (pc := 57) dX8_worthBy_57 rfl ?_
    first | exact ⟨rfl, rfl⟩ | exact ⟨by grind [bi], rfl⟩
theorem nI_nn {a b : Nat} (ha : a < 2 ^ 31) (hb : 0 < b) (hb2 : b < 2 ^ 31) : 0 ≤ nI a / nI b := by
  rw [pk_div ha hb hb2]
  exact nI_pos' (Nat.lt_of_le_of_lt (Nat.div_le_self a b) ha)
theorem divD_nn {v d : Int32} (hv : 0 ≤ v) : 0 ≤ divD v d := by
  unfold divD
  by_cases hd : d < 1
  · rw [if_pos hd]; exact Int32.le_refl _
  · rw [if_neg hd]
    have hd1 := Int32.not_lt.mp hd
    have hd0 : 0 ≤ d := Int32.le_trans (by decide) hd1
    rw [fdiv_pos hv hd0]
    obtain ⟨a, ha, rfl⟩ := nI_of (Int32.not_lt.mpr hv)
    obtain ⟨b, hb, rfl⟩ := nI_of (Int32.not_lt.mpr hd0)
    have : 1 ≤ b := (nI_leI (a := 1) (by decide) hb).mp hd1
    exact nI_nn ha this hb
theorem sHigh_ge (V N : Nat → Int32) (T : Nat) : sHigh V N T = -4 ∨ 0 ≤ sHigh V N T := by
  unfold sHigh clearsA
  split
  · split
    · exact Or.inr (by decide)
    · split
      · exact Or.inl rfl
      · rename_i hz
        right
        have := divD_nn (d := tot V) (Int32.not_lt.mp hz)
        unfold minI
        split
        · exact this
        · decide
  · exact Or.inl rfl
theorem sWorth_ge (V N : Nat → Int32) (T : Nat) (F : Int32) : -1 ≤ sWorth V N T F := by
  unfold sWorth valA
  split
  · split
    · exact Int32.le_refl _
    · rename_i hz
      exact Int32.le_trans (by decide) ((sHigh_ge V N T).resolve_left hz)
  · exact Int32.le_refl _
theorem chgF_y {V N : Nat → Int32} {T c : Nat} {F : Int32} (h : chP N T c) : chgF V N T F c = sWorth V (chN N c) T F := if_pos h
theorem chgF_n {V N : Nat → Int32} {T c : Nat} {F : Int32} (h : ¬ chP N T c) : chgF V N T F c = -1000 := if_neg h
set_option maxHeartbeats 1600000 in
theorem C_X8_worth {l : Launch} {G : GE} {h : Hp} {w c : Int32} (hI : MK h) : CT l G mX8_worth [vR g_model 0, vI w, vI c] h (fun r h' => r = some (if isM h w then (if c = -1 then sWorth (h g_m_holds 0) (mN h (ixN w)) (ixN (h g_m_tenths 0 (ixN w))) (h g_m_feet 0 (ixN w)) else if c < 0 then -1000 else chgF (h g_m_holds 0) (mN h (ixN w)) (ixN (h g_m_tenths 0 (ixN w))) (h g_m_feet 0 (ixN w)) (ixN c)) else -1000) ∧ h' = h) := by
  refine CT.of (lv := [_, _, _]) (by decide +kernel) (Nat.le_of_ble_eq_true rfl) rfl ?_
  refine E_aload_n (pc := 0) 0 dX8_worth_0 rfl rfl ?_
  refine E_iload_n (pc := 1) 1 dX8_worth_1 rfl rfl ?_
  refine E_callV1 (pc := 2) dX8_worth_2 C_X8_isWay rfl kv_RX8_139 rfl rfl rfl ⟨Nat.le_of_ble_eq_true rfl, Nat.le_of_ble_eq_true rfl, Nat.le_of_ble_eq_true rfl, Nat.le_of_ble_eq_true rfl⟩ (Nat.le_of_ble_eq_true rfl) ?_
  refine E_if_eq (pc := 5) 22 dX8_worth_5 rfl (fun q5 => ?_) (fun q5 => ?_)
  · have hg : ¬ isM h w := bi_0.mp q5
    rw [if_neg hg]
    refine E_sipush (pc := 22) (-1000) dX8_worth_22 (by decide) ?_
    refine E_iret (pc := 25) dX8_worth_25 rfl ?_
    first | exact ⟨rfl, rfl⟩ | exact ⟨congrArg some hr.symm, rfl⟩
  · have hg : isM h w := Decidable.of_not_not (fun z => q5 (bi_0.mpr z))
    obtain ⟨k, T, hk, ew, hT1, hT8, hT, e1, e2⟩ := isM_nat hI hg
    rw [if_pos hg, e2, e1]
    clear hg q5 e1 e2
    subst ew
    refine E_iload_n (pc := 8) 2 dX8_worth_8 rfl rfl ?_
    refine E_i2l (pc := 9) dX8_worth_9 ?_
    refine E_ldc2 (pc := 10) (-1) dX8_worth_10 kk_RX8_218 ?_
    refine E_ldc2 (pc := 13) (127) dX8_worth_13 kk_RX8_220 ?_
    refine E_callS1 (pc := 16) dX8_worth_16 (C_X8_in (a := -1) (b := 127) (by decide) (by decide)) rfl ks_RX8_71 rfl ⟨Nat.le_of_ble_eq_true rfl, Nat.le_of_ble_eq_true rfl, Nat.le_of_ble_eq_true rfl, Nat.le_of_ble_eq_true rfl⟩ (Nat.le_of_ble_eq_true rfl) ?_
    refine E_if_ne (pc := 19) 26 dX8_worth_19 rfl (fun q19 => ?_) (fun q19 => ?_)
    · have hz : -1 ≤ c ∧ c ≤ 127 := Decidable.of_not_not (fun z => q19 (bi_0.mpr z))
      refine E_iload_n (pc := 26) 2 dX8_worth_26 rfl rfl ?_
      refine E_if_ge (pc := 27) 42 dX8_worth_27 rfl (fun q27 => ?_) (fun q27 => ?_)
      · obtain ⟨c', hc', ec⟩ := natof (x := c) 127 (by decide) q27 hz.2
        have hn1 : ¬ nI c' = -1 := fun z => nI_pos (n := c') (by omega) (by rw [z]; decide)
        have hn2 : ¬ nI c' < 0 := nI_pos (by omega)
        subst ec
        rw [if_neg hn1, if_neg hn2, ixN_nI (show c' < 2 ^ 31 by omega)]
        refine E_aload_n (pc := 42) 0 dX8_worth_42 rfl rfl ?_
        refine E_iload_n (pc := 43) 1 dX8_worth_43 rfl rfl ?_
        refine E_iload_n (pc := 44) 2 dX8_worth_44 rfl rfl ?_
        refine E_callV1 (pc := 45) dX8_worth_45 (C_X8_changed hk hT hT8 (by omega)) rfl kv_RX8_215 rfl rfl rfl ⟨Nat.le_of_ble_eq_true rfl, Nat.le_of_ble_eq_true rfl, Nat.le_of_ble_eq_true rfl, Nat.le_of_ble_eq_true rfl⟩ (Nat.le_of_ble_eq_true rfl) ?_
        refine E_bipush (pc := 48) (-4) dX8_worth_48 (by decide) ?_
        refine E_icmp_ne (pc := 50) 59 dX8_worth_50 rfl (fun q50 => ?_) (fun q50 => ?_)
        · have hP : chP (mN h k) T c' := Decidable.of_not_not (fun z => q50 (if_neg z))
          refine E_aload_n (pc := 59) 0 dX8_worth_59 rfl rfl ?_
          refine E_iload_n (pc := 60) 1 dX8_worth_60 rfl rfl ?_
          refine E_iload_n (pc := 61) 2 dX8_worth_61 rfl rfl ?_
          refine E_callV1 (pc := 62) dX8_worth_62 (C_X8_worthBy hI.1 (hI.2.1 k (by omega)) hk hT hT1 hT8 (by omega) hP) rfl kv_RX8_222 rfl rfl rfl ⟨Nat.le_of_ble_eq_true rfl, Nat.le_of_ble_eq_true rfl, Nat.le_of_ble_eq_true rfl, Nat.le_of_ble_eq_true rfl⟩ (Nat.le_of_ble_eq_true rfl) ?_
          refine E_iret (pc := 65) dX8_worth_65 rfl ?_
          first | exact ⟨congrArg some (chgF_n hP).symm, rfl⟩ | exact ⟨congrArg some (chgF_y hP).symm, rfl⟩
        · have hP : ¬ chP (mN h k) T c' := fun z => nI_ne4 (n := 64 * k + c' / 2) (by omega) ((if_pos z).symm.trans q50)
          refine E_sipush (pc := 53) (-1000) dX8_worth_53 (by decide) ?_
          refine E_goto (pc := 56) 65 dX8_worth_56 rfl ?_
          refine E_iret (pc := 65) dX8_worth_65 rfl ?_
          first | exact ⟨congrArg some (chgF_n hP).symm, rfl⟩ | exact ⟨congrArg some (chgF_y hP).symm, rfl⟩
      · refine E_aload_n (pc := 30) 0 dX8_worth_30 rfl rfl ?_
        refine E_iload_n (pc := 31) 1 dX8_worth_31 rfl rfl ?_
        refine E_aload_n (pc := 32) 0 dX8_worth_32 rfl rfl ?_
        refine E_getR0 (pc := 33) dX8_worth_33 fl_RX8_40 rfl rfl ?_
        refine E_iload_n (pc := 36) 1 dX8_worth_36 rfl rfl ?_
        refine E_iald (pc := 37) dX8_worth_37 rfl (vp_in_nI (by omega) (by decide)) ?_
        refine E_top (y := h g_m_feet 0 k) (by rw [ixN_nI (by omega)]) ?_
        refine E_callV1 (pc := 38) dX8_worth_38 (C_X8_worthOf hI.1 (hI.2.1 k (by omega)) hk hT hT1 hT8) rfl kv_RX8_212 rfl rfl rfl ⟨Nat.le_of_ble_eq_true rfl, Nat.le_of_ble_eq_true rfl, Nat.le_of_ble_eq_true rfl, Nat.le_of_ble_eq_true rfl⟩ (Nat.le_of_ble_eq_true rfl) ?_
        refine E_iret (pc := 41) dX8_worth_41 rfl ?_
        exact ⟨by rw [if_pos (by grind)], rfl⟩
    · have hr : (if c = -1 then sWorth (h g_m_holds 0) (mN h k) T (h g_m_feet 0 k) else if c < 0 then -1000 else chgF (h g_m_holds 0) (mN h k) T (h g_m_feet 0 k) (ixN c)) = -1000 := by
        have hz := bi_0.mp q19
        rw [if_neg (fun z => hz (by rw [z]; decide))]
        by_cases hc : c < 0
        · rw [if_pos hc]
        · rw [if_neg hc]
          obtain ⟨n, hn, rfl⟩ := nI_of hc
          refine chgF_n (fun z => hz ?_)
          rw [ixN_nI hn] at z
          exact ⟨Int32.le_trans (by decide) (nI_pos' hn), nI_le (b := 127) (by have := z.1; omega) (by decide)⟩
      refine E_sipush (pc := 22) (-1000) dX8_worth_22 (by decide) ?_
      refine E_iret (pc := 25) dX8_worth_25 rfl ?_
      first | exact ⟨rfl, rfl⟩ | exact ⟨congrArg some hr.symm, rfl⟩
