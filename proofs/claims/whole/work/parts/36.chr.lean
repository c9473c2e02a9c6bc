/-! String.charAt, of the text of names -/
set_option maxHeartbeats 1600000 in
theorem C_J0_isLatin1_aae02 {l : Launch} {G : GE} {h : Hp}  : CT l G mJ0_isLatin1_aae02 [vR 64 0] h (fun r h' => r = some (1) ∧ h' = h) := by
  refine CT.of (lv := [_]) (by decide +kernel) (Nat.le_of_ble_eq_true rfl) rfl ?_
  refine E_getCS (pc := 0) dJ0_isLatin1_aae02_0 rfl ?_
  refine E_if_eq (pc := 3) 17 dJ0_isLatin1_aae02_3 rfl (fun q3 => absurd q3 (by decide)) (fun q3 => ?_)
  refine E_aload_n (pc := 6) 0 dJ0_isLatin1_aae02_6 rfl rfl ?_
  refine E_strCod (pc := 7) dJ0_isLatin1_aae02_7 rfl ?_
  refine E_if_ne (pc := 10) 17 dJ0_isLatin1_aae02_10 rfl (fun q10 => absurd rfl q10) (fun q10 => ?_)
  refine E_iconst (pc := 13) (1) dJ0_isLatin1_aae02_13 (by decide) ?_
  refine E_goto (pc := 14) 18 dJ0_isLatin1_aae02_14 rfl ?_
  refine E_zret (pc := 18) dJ0_isLatin1_aae02_18 rfl rfl ?_
  first | exact ⟨rfl, rfl⟩ | exact ⟨by grind [bi], rfl⟩
set_option maxHeartbeats 1600000 in
theorem C_J0_checkIndex_df160 {l : Launch} {G : GE} {h : Hp} {i n : Int32} (h0 : ¬ i < 0) (h1 : i < n) : CT l G mJ0_checkIndex_df160 [vI i, vI n] h (fun r h' => r = none ∧ h' = h) := by
  refine CT.of (lv := [_, _]) (by decide +kernel) (Nat.le_of_ble_eq_true rfl) rfl ?_
  refine E_iload_n (pc := 0) 0 dJ0_checkIndex_df160_0 rfl rfl ?_
  refine E_iload_n (pc := 1) 1 dJ0_checkIndex_df160_1 rfl rfl ?_
  refine E_chk (pc := 2) rfl dJ0_checkIndex_df160_2 dJ0_checkIndex_df160_5 h0 h1 ⟨Nat.le_of_ble_eq_true rfl, Nat.le_of_ble_eq_true rfl, Nat.le_of_ble_eq_true rfl, Nat.le_of_ble_eq_true rfl⟩ (Nat.le_of_ble_eq_true rfl) ?_
  refine E_pop (pc := 8) dJ0_checkIndex_df160_8 (fun _ z => by cases z) ?_
  refine E_vret (pc := 9) dJ0_checkIndex_df160_9 rfl ?_
  first | exact ⟨rfl, rfl⟩ | exact ⟨by grind [bi], rfl⟩
theorem str_ch : ∀ i, i < 78 → (((strBytes.getD i 0) &&& 255).toUInt32 % 65536).toInt32 = strBytes.getD i 0 := by decide +kernel
set_option maxHeartbeats 1600000 in
theorem C_J1_charAt_3b067 {l : Launch} {G : GE} {h : Hp} {i : Nat} (hi : i < 78) : CT l G mJ1_charAt_3b067 [vR 65 0, vI (nI i)] h (fun r h' => r = some (strBytes.getD i 0) ∧ h' = h) := by
  refine CT.of (lv := [_, _]) (by decide +kernel) (Nat.le_of_ble_eq_true rfl) rfl ?_
  refine E_iload_n (pc := 0) 1 dJ1_charAt_3b067_0 rfl rfl ?_
  refine E_aload_n (pc := 1) 0 dJ1_charAt_3b067_1 rfl rfl ?_
  refine E_lenB (pc := 2) dJ1_charAt_3b067_2 ?_
  refine E_callS0 (pc := 3) dJ1_charAt_3b067_3 (C_J0_checkIndex_df160 (nI_pos (by omega)) (nI_lt (b := 78) hi (by decide))) rfl ks_RJ1_9 rfl ⟨Nat.le_of_ble_eq_true rfl, Nat.le_of_ble_eq_true rfl, Nat.le_of_ble_eq_true rfl, Nat.le_of_ble_eq_true rfl⟩ (Nat.le_of_ble_eq_true rfl) ?_
  refine E_aload_n (pc := 6) 0 dJ1_charAt_3b067_6 rfl rfl ?_
  refine E_iload_n (pc := 7) 1 dJ1_charAt_3b067_7 rfl rfl ?_
  refine E_baldB (pc := 8) dJ1_charAt_3b067_8 (vp_in_nI hi (by decide)) ?_
  refine E_sipush (pc := 9) (255) dJ1_charAt_3b067_9 (by decide) ?_
  refine E_iand (pc := 12) dJ1_charAt_3b067_12 ?_
  refine E_i2c (pc := 13) dJ1_charAt_3b067_13 ?_
  refine E_top (y := strBytes.getD i 0) (by rw [ixN_nI (by omega)]; exact str_ch i hi) ?_
  refine E_zret (pc := 14) dJ1_charAt_3b067_14 rfl (by rw [← str_ch i hi]; exact pk_nc _) ?_
  first | exact ⟨rfl, rfl⟩ | exact ⟨by grind [bi], rfl⟩
set_option maxHeartbeats 1600000 in
theorem C_J0_charAt_5068e {l : Launch} {G : GE} {h : Hp} {i : Nat} (hi : i < 78) : CT l G mJ0_charAt_5068e [vR 64 0, vI (nI i)] h (fun r h' => r = some (strBytes.getD i 0) ∧ h' = h) := by
  refine CT.of (lv := [_, _]) (by decide +kernel) (Nat.le_of_ble_eq_true rfl) rfl ?_
  refine E_aload_n (pc := 0) 0 dJ0_charAt_5068e_0 rfl rfl ?_
  refine E_callStr (pc := 1) dJ0_charAt_5068e_1 C_J0_isLatin1_aae02 rfl kv_RJ0_492 rfl rfl ⟨Nat.le_of_ble_eq_true rfl, Nat.le_of_ble_eq_true rfl, Nat.le_of_ble_eq_true rfl, Nat.le_of_ble_eq_true rfl⟩ (Nat.le_of_ble_eq_true rfl) ?_
  refine E_if_eq (pc := 4) 16 dJ0_charAt_5068e_4 rfl (fun q4 => absurd q4 (by decide)) (fun q4 => ?_)
  refine E_aload_n (pc := 7) 0 dJ0_charAt_5068e_7 rfl rfl ?_
  refine E_strVal (pc := 8) dJ0_charAt_5068e_8 rfl ?_
  refine E_iload_n (pc := 11) 1 dJ0_charAt_5068e_11 rfl rfl ?_
  refine E_callS1 (pc := 12) dJ0_charAt_5068e_12 (C_J1_charAt_3b067 hi) rfl ks_RJ0_495 rfl ⟨Nat.le_of_ble_eq_true rfl, Nat.le_of_ble_eq_true rfl, Nat.le_of_ble_eq_true rfl, Nat.le_of_ble_eq_true rfl⟩ (Nat.le_of_ble_eq_true rfl) ?_
  refine E_zret (pc := 15) dJ0_charAt_5068e_15 rfl (by rw [← str_ch i hi]; exact pk_nc _) ?_
  first | exact ⟨rfl, rfl⟩ | exact ⟨by grind [bi], rfl⟩
/-! the reader: names, numbers, tokens -/
/-- the byte at place a + i of a name that ends before b; a blank behind it -/
def sgn (B : Nat → Int32) (a b i : Nat) : Int32 := if a + i < b then B (a + i) else 32
abbrev isNm (B : Nat → Int32) (a b n : Nat) : Prop := b - a ≤ 6 ∧ ¬ ∃ i, i < 6 ∧ ¬ sgn B a b i = strBytes.getD (6 * n + i) 0
set_option maxHeartbeats 1600000 in
theorem C_X1_isName {l : Launch} {G : GE} {h : Hp} {a b n L : Nat} (ha : h g_reader 0 2 = nI a) (hb : h g_reader 0 4 = nI b) (hab : a ≤ b) (hbL : b ≤ 200) (hn : n < 13) : CT l G mX1_isName [vR g_reader 0, vR g_tape 0, vI (nI n)] h (fun r h' => r = some (bi (isNm (h g_tapeB 0) a b n)) ∧ h' = h) := by
  refine CT.of (lv := [_, _, _, _, _]) (by decide +kernel) (Nat.le_of_ble_eq_true rfl) rfl ?_
  refine E_aload_n (pc := 0) 0 dX1_isName_0 rfl rfl ?_
  refine E_getI (pc := 1) dX1_isName_1 fl_RX1_33 rfl rfl ?_
  refine E_aload_n (pc := 4) 0 dX1_isName_4 rfl rfl ?_
  refine E_getI (pc := 5) dX1_isName_5 fl_RX1_71 rfl rfl ?_
  refine E_isub (pc := 8) dX1_isName_8 ?_
  refine E_bipush (pc := 9) (6) dX1_isName_9 (by decide) ?_
  refine E_eq (st' := [vI 6, vI (nI (b - a))]) rfl (by rw [ha, hb, pk_sub hab]) rfl ?_
  refine E_icmp_le (pc := 11) 16 dX1_isName_11 rfl (fun q11 => ?_) (fun q11 => ?_)
  · have h6 : b - a ≤ 6 := (nI_leI (b := 6) (by omega) (by decide)).mp q11
    refine E_iconst (pc := 16) (0) dX1_isName_16 (by decide) ?_
    refine E_istore_n (pc := 17) 3 dX1_isName_17 rfl (Nat.le_of_ble_eq_true rfl) rfl (lz := [_, _, _, _, _]) rfl ?_
    refine down (P := fun i => (∀ j, j < i → sgn (h g_tapeB 0) a b j = strBytes.getD (6 * n + j) 0) → Ev l G mX1_isName _ 18 [some (vR g_reader 0), some (vR g_tape 0), some (vI (nI n)), some (vI (nI i)), none] [] h) 6 ?_ ?_ 0 (Nat.zero_le _) (fun j hj => absurd hj (Nat.not_lt_zero j))
    · intro ho
      refine E_iload_n (pc := 18) 3 dX1_isName_18 rfl rfl ?_
      refine E_bipush (pc := 19) (6) dX1_isName_19 (by decide) ?_
      refine E_icmp_ge (pc := 21) 79 dX1_isName_21 rfl (fun q21 => ?_) (fun q21 => absurd (show (6 : Int32) ≤ 6 by decide) q21)
      refine E_iconst (pc := 79) (1) dX1_isName_79 (by decide) ?_
      refine E_zret (pc := 80) dX1_isName_80 rfl rfl ?_
      exact ⟨congrArg some (bi_t (show isNm (h g_tapeB 0) a b n from ⟨h6, fun ⟨i, z1, z2⟩ => z2 (ho i z1)⟩)).symm, rfl⟩
    · intro i hi hm ho
      refine E_iload_n (pc := 18) 3 dX1_isName_18 rfl rfl ?_
      refine E_bipush (pc := 19) (6) dX1_isName_19 (by decide) ?_
      refine E_icmp_ge (pc := 21) 79 dX1_isName_21 rfl (fun q21 => absurd q21 (nI_ge (b := 6) hi (by decide))) (fun q21 => ?_)
      refine E_aload_n (pc := 24) 0 dX1_isName_24 rfl rfl ?_
      refine E_getI (pc := 25) dX1_isName_25 fl_RX1_71 rfl rfl ?_
      refine E_iload_n (pc := 28) 3 dX1_isName_28 rfl rfl ?_
      refine E_iadd (pc := 29) dX1_isName_29 ?_
      refine E_aload_n (pc := 30) 0 dX1_isName_30 rfl rfl ?_
      refine E_getI (pc := 31) dX1_isName_31 fl_RX1_33 rfl rfl ?_
      refine E_eq (st' := [vI (nI b), vI (nI (a + i))]) rfl (by rw [ha, hb, nI_add]) rfl ?_
      refine E_icmp_ge (pc := 34) 51 dX1_isName_34 rfl (fun q34 => ?_) (fun q34 => ?_)
      · have hs : sgn (h g_tapeB 0) a b i = 32 := if_neg (fun z => nI_ge z (by omega) q34)
        refine E_bipush (pc := 51) (32) dX1_isName_51 (by decide) ?_
        first | refine E_top (y := sgn (h g_tapeB 0) a b i) (by rw [hs, ixN_nI (by omega)]) ?_ | refine E_top (y := sgn (h g_tapeB 0) a b i) hs.symm ?_
        refine E_istore (pc := 53) 4 dX1_isName_53 (Nat.le_of_ble_eq_true rfl) rfl (lz := [_, _, _, _, _]) rfl ?_
        refine E_iload (pc := 55) 4 dX1_isName_55 rfl ?_
        refine E_ldcS (pc := 57) dX1_isName_57 rfl ?_
        refine E_bipush (pc := 59) (6) dX1_isName_59 (by decide) ?_
        refine E_iload_n (pc := 61) 2 dX1_isName_61 rfl rfl ?_
        refine E_imul (pc := 62) dX1_isName_62 ?_
        refine E_iload_n (pc := 63) 3 dX1_isName_63 rfl rfl ?_
        refine E_iadd (pc := 64) dX1_isName_64 ?_
        refine E_eq (st' := [vI (nI (6 * n + i)), vR 64 0, vI (sgn (h g_tapeB 0) a b i)]) rfl (by rw [show (6 : Int32) = nI 6 from rfl, pk_mul, nI_add]) rfl ?_
        refine E_callStr (pc := 65) dX1_isName_65 (C_J0_charAt_5068e (i := 6 * n + i) (by omega)) rfl kv_RX1_93 rfl rfl ⟨Nat.le_of_ble_eq_true rfl, Nat.le_of_ble_eq_true rfl, Nat.le_of_ble_eq_true rfl, Nat.le_of_ble_eq_true rfl⟩ (Nat.le_of_ble_eq_true rfl) ?_
        refine E_icmp_eq (pc := 68) 73 dX1_isName_68 rfl (fun q68 => ?_) (fun q68 => ?_)
        · refine E_iincN (pc := 73) 3 dX1_isName_73 (Nat.le_of_ble_eq_true rfl) rfl rfl (lz := [_, _, _, _, _]) rfl ?_
          refine E_goto (pc := 76) 18 dX1_isName_76 rfl ?_
          exact E_drop 4 (hm (lt_s ho q68))
        · refine E_iconst (pc := 71) (0) dX1_isName_71 (by decide) ?_
          refine E_zret (pc := 72) dX1_isName_72 rfl rfl ?_
          exact ⟨congrArg some (bi_f (show ¬ isNm (h g_tapeB 0) a b n from fun z => z.2 ⟨i, hi, q68⟩)).symm, rfl⟩
      · have hlt : a + i < b := Nat.not_le.mp (fun z => q34 (nI_le z (by omega)))
        have hs : sgn (h g_tapeB 0) a b i = h g_tapeB 0 (a + i) := if_pos hlt
        refine E_aload_n (pc := 37) 1 dX1_isName_37 rfl rfl ?_
        refine E_getR0 (pc := 38) dX1_isName_38 fl_RX1_68 rfl rfl ?_
        refine E_aload_n (pc := 41) 0 dX1_isName_41 rfl rfl ?_
        refine E_getI (pc := 42) dX1_isName_42 fl_RX1_71 rfl rfl ?_
        refine E_iload_n (pc := 45) 3 dX1_isName_45 rfl rfl ?_
        refine E_iadd (pc := 46) dX1_isName_46 ?_
        refine E_eq (st' := [vI (nI (a + i)), vR g_tapeB 0]) rfl (by rw [ha, nI_add]) rfl ?_
        refine E_iald (pc := 47) dX1_isName_47 rfl (vp_in_nI (by omega) (by decide)) ?_
        refine E_goto (pc := 48) 53 dX1_isName_48 rfl ?_
        first | refine E_top (y := sgn (h g_tapeB 0) a b i) (by rw [hs, ixN_nI (by omega)]) ?_ | refine E_top (y := sgn (h g_tapeB 0) a b i) hs.symm ?_
        refine E_istore (pc := 53) 4 dX1_isName_53 (Nat.le_of_ble_eq_true rfl) rfl (lz := [_, _, _, _, _]) rfl ?_
        refine E_iload (pc := 55) 4 dX1_isName_55 rfl ?_
        refine E_ldcS (pc := 57) dX1_isName_57 rfl ?_
        refine E_bipush (pc := 59) (6) dX1_isName_59 (by decide) ?_
        refine E_iload_n (pc := 61) 2 dX1_isName_61 rfl rfl ?_
        refine E_imul (pc := 62) dX1_isName_62 ?_
        refine E_iload_n (pc := 63) 3 dX1_isName_63 rfl rfl ?_
        refine E_iadd (pc := 64) dX1_isName_64 ?_
        refine E_eq (st' := [vI (nI (6 * n + i)), vR 64 0, vI (sgn (h g_tapeB 0) a b i)]) rfl (by rw [show (6 : Int32) = nI 6 from rfl, pk_mul, nI_add]) rfl ?_
        refine E_callStr (pc := 65) dX1_isName_65 (C_J0_charAt_5068e (i := 6 * n + i) (by omega)) rfl kv_RX1_93 rfl rfl ⟨Nat.le_of_ble_eq_true rfl, Nat.le_of_ble_eq_true rfl, Nat.le_of_ble_eq_true rfl, Nat.le_of_ble_eq_true rfl⟩ (Nat.le_of_ble_eq_true rfl) ?_
        refine E_icmp_eq (pc := 68) 73 dX1_isName_68 rfl (fun q68 => ?_) (fun q68 => ?_)
        · refine E_iincN (pc := 73) 3 dX1_isName_73 (Nat.le_of_ble_eq_true rfl) rfl rfl (lz := [_, _, _, _, _]) rfl ?_
          refine E_goto (pc := 76) 18 dX1_isName_76 rfl ?_
          exact E_drop 4 (hm (lt_s ho q68))
        · refine E_iconst (pc := 71) (0) dX1_isName_71 (by decide) ?_
          refine E_zret (pc := 72) dX1_isName_72 rfl rfl ?_
          exact ⟨congrArg some (bi_f (show ¬ isNm (h g_tapeB 0) a b n from fun z => z.2 ⟨i, hi, q68⟩)).symm, rfl⟩
  · refine E_iconst (pc := 14) (0) dX1_isName_14 (by decide) ?_
    refine E_zret (pc := 15) dX1_isName_15 rfl rfl ?_
    exact ⟨congrArg some (bi_f (fun z => q11 (nI_le (b := 6) z.1 (by decide)))).symm, rfl⟩
