/-! the judge: what it measures, tenth by tenth -/
theorem nar_bz {p : Prop} [Decidable p] : vp_nar .boolean (bi p) = bi p := by
  unfold vp_nar
  rw [nar_bi]
set_option maxHeartbeats 1600000 in
theorem C_X0_isHasty {l : Launch} {G : GE} {h : Hp} {k t T : Nat} (hT : h g_way k 1 = nI T) (hT8 : T ≤ 8) (ht : t ≤ 7) : CT l G mX0_isHasty [vR g_judge 0, vR g_way k, vI (nI t)] h (fun r h' => r = some (bi (sHasty (h g_values 0) (h g_nums k) T t)) ∧ h' = h) := by
  refine CT.of (lv := [_, _, _, _, _]) (by decide +kernel) (Nat.le_of_ble_eq_true rfl) rfl ?_
  refine E_iload_n (pc := 0) 2 dX0_isHasty_0 rfl rfl ?_
  refine E_iconst (pc := 1) (1) dX0_isHasty_1 (by decide) ?_
  refine E_iadd (pc := 2) dX0_isHasty_2 ?_
  refine E_aload_n (pc := 3) 1 dX0_isHasty_3 rfl rfl ?_
  refine E_getI (pc := 4) dX0_isHasty_4 fl_RX0_69 rfl rfl ?_
  refine E_eq (st' := [vI (nI T), vI (nI (t + 1))]) rfl (by rw [hT, nI_succ]) rfl ?_
  refine E_icmp_lt (pc := 7) 12 dX0_isHasty_7 rfl (fun q7 => ?_) (fun q7 => ?_)
  · have htT : t + 1 < T := (nI_ltI (by omega) (by omega)).mp q7
    refine E_bipush (pc := 12) (8) dX0_isHasty_12 (by decide) ?_
    refine E_iload_n (pc := 14) 2 dX0_isHasty_14 rfl rfl ?_
    refine E_iconst (pc := 15) (1) dX0_isHasty_15 (by decide) ?_
    refine E_iadd (pc := 16) dX0_isHasty_16 ?_
    refine E_imul (pc := 17) dX0_isHasty_17 ?_
    refine E_top (y := nI (8 * (t + 1))) (by rw [← nI_succ, show (8 : Int32) = nI 8 from rfl, pk_mul]) ?_
    refine E_istore_n (pc := 18) 3 dX0_isHasty_18 rfl (Nat.le_of_ble_eq_true rfl) rfl (lz := [_, _, _, _, _]) rfl ?_
    refine E_iload_n (pc := 19) 3 dX0_isHasty_19 rfl rfl ?_
    refine E_istore (pc := 20) 4 dX0_isHasty_20 (Nat.le_of_ble_eq_true rfl) rfl (lz := [_, _, _, _, _]) rfl ?_
    refine down (P := fun i => (∀ j, j < i → ¬ sHastyP (h g_values 0) (h g_nums k) (8 * t + j)) → Ev l G mX0_isHasty _ 22 [some (vR g_judge 0), some (vR g_way k), some (vI (nI t)), some (vI (nI (8 * (t + 1)))), some (vI (nI (8 * (t + 1) + i)))] [] h) 8 ?_ ?_ 0 (Nat.zero_le _) (fun j hj => absurd hj (Nat.not_lt_zero j))
    · intro ho
      refine E_iload (pc := 22) 4 dX0_isHasty_22 rfl ?_
      refine E_iload_n (pc := 24) 3 dX0_isHasty_24 rfl rfl ?_
      refine E_bipush (pc := 25) (8) dX0_isHasty_25 (by decide) ?_
      refine E_iadd (pc := 27) dX0_isHasty_27 ?_
      refine E_eq (st' := [vI (nI (8 * (t + 1) + 8)), vI (nI (8 * (t + 1) + 8))]) rfl (by rw [show (8 : Int32) = nI 8 from rfl, nI_add]) rfl ?_
      refine E_icmp_ge (pc := 28) 73 dX0_isHasty_28 rfl (fun q28 => ?_) (fun q28 => absurd (Int32.le_refl _) q28)
      refine E_iconst (pc := 73) (0) dX0_isHasty_73 (by decide) ?_
      refine E_zret (pc := 74) dX0_isHasty_74 rfl rfl ?_
      exact ⟨congrArg some (bi_f (fun z => z.2.elim (fun i hz => ho i hz.1 hz.2))).symm, rfl⟩
    · intro i hi hn ho
      refine E_iload (pc := 22) 4 dX0_isHasty_22 rfl ?_
      refine E_iload_n (pc := 24) 3 dX0_isHasty_24 rfl rfl ?_
      refine E_bipush (pc := 25) (8) dX0_isHasty_25 (by decide) ?_
      refine E_iadd (pc := 27) dX0_isHasty_27 ?_
      refine E_eq (st' := [vI (nI (8 * (t + 1) + 8)), vI (nI (8 * (t + 1) + i))]) rfl (by rw [show (8 : Int32) = nI 8 from rfl, nI_add]) rfl ?_
      refine E_icmp_ge (pc := 28) 73 dX0_isHasty_28 rfl (fun q28 => absurd q28 (nI_ge (by omega) (by omega))) (fun q28 => ?_)
      refine E_aload_n (pc := 31) 1 dX0_isHasty_31 rfl rfl ?_
      refine E_getR0 (pc := 32) dX0_isHasty_32 fl_RX0_50 rfl rfl ?_
      refine E_iload (pc := 35) 4 dX0_isHasty_35 rfl ?_
      refine E_iald (pc := 37) dX0_isHasty_37 rfl (vp_in_nI (by omega) (by decide)) ?_
      refine E_aload_n (pc := 38) 1 dX0_isHasty_38 rfl rfl ?_
      refine E_getR0 (pc := 39) dX0_isHasty_39 fl_RX0_50 rfl rfl ?_
      refine E_iload (pc := 42) 4 dX0_isHasty_42 rfl ?_
      refine E_bipush (pc := 44) (8) dX0_isHasty_44 (by decide) ?_
      refine E_isub (pc := 46) dX0_isHasty_46 ?_
      refine E_top (y := nI (8 * t + i)) (by rw [show (8 : Int32) = nI 8 from rfl, pk_sub (by omega)]; congr 1; omega) ?_
      refine E_iald (pc := 47) dX0_isHasty_47 rfl (vp_in_nI (by omega) (by decide)) ?_
      refine E_isub (pc := 48) dX0_isHasty_48 ?_
      refine E_callS1 (pc := 49) dX0_isHasty_49 C_J9_abs_0f7a4 rfl ks_RX0_63 rfl ⟨Nat.le_of_ble_eq_true rfl, Nat.le_of_ble_eq_true rfl, Nat.le_of_ble_eq_true rfl, Nat.le_of_ble_eq_true rfl⟩ (Nat.le_of_ble_eq_true rfl) ?_
      refine E_aload_n (pc := 52) 0 dX0_isHasty_52 rfl rfl ?_
      refine E_getR0 (pc := 53) dX0_isHasty_53 fl_RX0_36 rfl rfl ?_
      refine E_getR0 (pc := 56) dX0_isHasty_56 fl_RX0_60 rfl rfl ?_
      refine E_bipush (pc := 59) (13) dX0_isHasty_59 (by decide) ?_
      refine E_iald (pc := 61) dX0_isHasty_61 rfl (by unfold vp_in; decide) ?_
      refine E_eq (st' := [vI (h g_values 0 13), vI (absI (h g_nums k (8 * t + i + 8) - h g_nums k (8 * t + i)))]) rfl (by rw [ixN_nI (by omega), ixN_nI (by omega), show 8 * (t + 1) + i = 8 * t + i + 8 by omega]; rfl) rfl ?_
      refine E_icmp_le (pc := 62) 67 dX0_isHasty_62 rfl (fun q62 => ?_) (fun q62 => ?_)
      · refine E_iincN (pc := 67) 4 dX0_isHasty_67 (Nat.le_of_ble_eq_true rfl) rfl rfl (lz := [_, _, _, _, _]) rfl ?_
        refine E_goto (pc := 70) 22 dX0_isHasty_70 rfl ?_
        exact hn (lt_s ho (Int32.not_lt.mpr q62))
      · refine E_iconst (pc := 65) (1) dX0_isHasty_65 (by decide) ?_
        refine E_zret (pc := 66) dX0_isHasty_66 rfl rfl ?_
        exact ⟨congrArg some (bi_t (show sHasty (h g_values 0) (h g_nums k) T t from ⟨htT, i, hi, Int32.not_le.mp q62⟩)).symm, rfl⟩
  · refine E_iconst (pc := 10) (0) dX0_isHasty_10 (by decide) ?_
    refine E_zret (pc := 11) dX0_isHasty_11 rfl rfl ?_
    exact ⟨congrArg some (bi_f (fun z => q7 (nI_lt z.1 (by omega)))).symm, rfl⟩
/-- the heap in the midst of measurePlaces -/
def mpp (h : Hp) (k t p : Nat) : Hp := mp h t (sLA (h g_values 0) (h g_nums k) t p) (sMA (h g_values 0) (h g_nums k) t p) (sLU (h g_values 0) (h g_nums k) t p) (sLP (h g_values 0) (h g_nums k) t (h g_lPart 0 t) p)
theorem mpp_o (h : Hp) (k t p : Nat) {a b : Nat} (ha : a ≠ g_lAcr ∧ a ≠ g_mAcr ∧ a ≠ g_lUp ∧ a ≠ g_lPart) : mpp h k t p a b = h a b := mp_o _ _ _ _ _ _ ha
set_option maxHeartbeats 1600000 in
theorem C_X0_measurePlaces {l : Launch} {G : GE} {h : Hp} {k t : Nat} (ht : t ≤ 7) : CT l G mX0_measurePlaces [vR g_judge 0, vR g_way k, vI (nI t)] h (fun r h' => r = none ∧ h' = mpp h k t 4) := by
  refine CT.of (lv := [_, _, _, _, _, _, _, _, _]) (by decide +kernel) (Nat.le_of_ble_eq_true rfl) rfl ?_
  refine E_aload_n (pc := 0) 0 dX0_measurePlaces_0 rfl rfl ?_
  refine E_getR0 (pc := 1) dX0_measurePlaces_1 fl_RX0_36 rfl rfl ?_
  refine E_callV1 (pc := 4) dX0_measurePlaces_4 C_X3_total rfl kv_RX0_44 rfl rfl rfl ⟨Nat.le_of_ble_eq_true rfl, Nat.le_of_ble_eq_true rfl, Nat.le_of_ble_eq_true rfl, Nat.le_of_ble_eq_true rfl⟩ (Nat.le_of_ble_eq_true rfl) ?_
  refine E_istore_n (pc := 7) 3 dX0_measurePlaces_7 rfl (Nat.le_of_ble_eq_true rfl) rfl (lz := [_, _, _, _, _, _, _, _, _]) rfl ?_
  refine E_aload_n (pc := 8) 0 dX0_measurePlaces_8 rfl rfl ?_
  refine E_aload_n (pc := 9) 1 dX0_measurePlaces_9 rfl rfl ?_
  refine E_iload_n (pc := 10) 2 dX0_measurePlaces_10 rfl rfl ?_
  refine E_iconst (pc := 11) (0) dX0_measurePlaces_11 (by decide) ?_
  refine E_callV1 (pc := 12) dX0_measurePlaces_12 (C_X0_baseOf (ax := 0) ht (by decide)) rfl kv_RX0_40 rfl rfl rfl ⟨Nat.le_of_ble_eq_true rfl, Nat.le_of_ble_eq_true rfl, Nat.le_of_ble_eq_true rfl, Nat.le_of_ble_eq_true rfl⟩ (Nat.le_of_ble_eq_true rfl) ?_
  refine E_istore (pc := 15) 4 dX0_measurePlaces_15 (Nat.le_of_ble_eq_true rfl) rfl (lz := [_, _, _, _, _, _, _, _, _]) rfl ?_
  refine E_aload_n (pc := 17) 0 dX0_measurePlaces_17 rfl rfl ?_
  refine E_aload_n (pc := 18) 1 dX0_measurePlaces_18 rfl rfl ?_
  refine E_iload_n (pc := 19) 2 dX0_measurePlaces_19 rfl rfl ?_
  refine E_iconst (pc := 20) (1) dX0_measurePlaces_20 (by decide) ?_
  refine E_callV1 (pc := 21) dX0_measurePlaces_21 (C_X0_baseOf (ax := 1) ht (by decide)) rfl kv_RX0_40 rfl rfl rfl ⟨Nat.le_of_ble_eq_true rfl, Nat.le_of_ble_eq_true rfl, Nat.le_of_ble_eq_true rfl, Nat.le_of_ble_eq_true rfl⟩ (Nat.le_of_ble_eq_true rfl) ?_
  refine E_istore (pc := 24) 5 dX0_measurePlaces_24 (Nat.le_of_ble_eq_true rfl) rfl (lz := [_, _, _, _, _, _, _, _, _]) rfl ?_
  refine E_aload_n (pc := 26) 0 dX0_measurePlaces_26 rfl rfl ?_
  refine E_getR0 (pc := 27) dX0_measurePlaces_27 fl_RX0_11 rfl rfl ?_
  refine E_iload_n (pc := 30) 2 dX0_measurePlaces_30 rfl rfl ?_
  refine E_ldc (pc := 31) (1000000) dX0_measurePlaces_31 kk_RX0_87 ?_
  refine E_iast (pc := 33) dX0_measurePlaces_33 rfl (vp_in_nI (by omega) (by decide)) ?_
  refine E_aload_n (pc := 34) 0 dX0_measurePlaces_34 rfl rfl ?_
  refine E_getR0 (pc := 35) dX0_measurePlaces_35 fl_RX0_17 rfl rfl ?_
  refine E_iload_n (pc := 38) 2 dX0_measurePlaces_38 rfl rfl ?_
  refine E_ldc (pc := 39) (-1000000) dX0_measurePlaces_39 kk_RX0_88 ?_
  refine E_iast (pc := 41) dX0_measurePlaces_41 rfl (vp_in_nI (by omega) (by decide)) ?_
  refine E_aload_n (pc := 42) 0 dX0_measurePlaces_42 rfl rfl ?_
  refine E_getR0 (pc := 43) dX0_measurePlaces_43 fl_RX0_20 rfl rfl ?_
  refine E_iload_n (pc := 46) 2 dX0_measurePlaces_46 rfl rfl ?_
  refine E_ldc (pc := 47) (1000000) dX0_measurePlaces_47 kk_RX0_87 ?_
  refine E_iast (pc := 49) dX0_measurePlaces_49 rfl (vp_in_nI (by omega) (by decide)) ?_
  refine E_iconst (pc := 50) (0) dX0_measurePlaces_50 (by decide) ?_
  refine E_istore (pc := 51) 6 dX0_measurePlaces_51 (Nat.le_of_ble_eq_true rfl) rfl (lz := [_, _, _, _, _, _, _, _, _]) rfl ?_
  refine E_heq (h' := mpp h k t 0) (by rw [ixN_nI (by omega)]; exact mp_0 h t _ _ _) ?_
  refine down (P := fun p => Ev l G mX0_measurePlaces _ 53 [some (vR g_judge 0), some (vR g_way k), some (vI (nI t)), some (vI (tot (h g_values 0))), some (vI (sBase (h g_values 0) (h g_nums k) t 0)), some (vI (sBase (h g_values 0) (h g_nums k) t 1)), some (vI (nI p)), none, none] [] (mpp h k t p)) 4 ?_ ?_ 0 (Nat.zero_le _)
  · refine E_iload (pc := 53) 6 dX0_measurePlaces_53 rfl ?_
    refine E_iconst (pc := 55) (4) dX0_measurePlaces_55 (by decide) ?_
    refine E_icmp_ge (pc := 56) 173 dX0_measurePlaces_56 rfl (fun q56 => ?_) (fun q56 => absurd (show (4 : Int32) ≤ 4 by decide) q56)
    refine E_vret (pc := 173) dX0_measurePlaces_173 rfl ?_
    first | exact ⟨rfl, rfl⟩ | exact ⟨by grind [bi], rfl⟩
  · intro p hp hn
    refine E_iload (pc := 53) 6 dX0_measurePlaces_53 rfl ?_
    refine E_iconst (pc := 55) (4) dX0_measurePlaces_55 (by decide) ?_
    refine E_icmp_ge (pc := 56) 173 dX0_measurePlaces_56 rfl (fun q56 => absurd q56 (nI_ge (b := 4) hp (by decide))) (fun q56 => ?_)
    refine E_iload (pc := 59) 4 dX0_measurePlaces_59 rfl ?_
    refine E_iload_n (pc := 61) 3 dX0_measurePlaces_61 rfl rfl ?_
    refine E_aload_n (pc := 62) 1 dX0_measurePlaces_62 rfl rfl ?_
    refine E_getR0 (pc := 63) dX0_measurePlaces_63 fl_RX0_50 rfl rfl ?_
    refine E_iload_n (pc := 66) 2 dX0_measurePlaces_66 rfl rfl ?_
    refine E_iload (pc := 67) 6 dX0_measurePlaces_67 rfl ?_
    refine E_callS1 (pc := 69) dX0_measurePlaces_69 C_X6_spot rfl ks_RX0_53 rfl ⟨Nat.le_of_ble_eq_true rfl, Nat.le_of_ble_eq_true rfl, Nat.le_of_ble_eq_true rfl, Nat.le_of_ble_eq_true rfl⟩ (Nat.le_of_ble_eq_true rfl) ?_
    refine E_iald (pc := 72) dX0_measurePlaces_72 rfl (vin2 ht (by omega)) ?_
    refine E_imul (pc := 73) dX0_measurePlaces_73 ?_
    refine E_iadd (pc := 74) dX0_measurePlaces_74 ?_
    refine E_top (y := sPlace (h g_values 0) (h g_nums k) t p 0) (by rw [mpp_o h k t p (by decide), e_ixB (by omega)]; rfl) ?_
    refine E_istore (pc := 75) 7 dX0_measurePlaces_75 (Nat.le_of_ble_eq_true rfl) rfl (lz := [_, _, _, _, _, _, _, _, _]) rfl ?_
    refine E_iload (pc := 77) 5 dX0_measurePlaces_77 rfl ?_
    refine E_iload_n (pc := 79) 3 dX0_measurePlaces_79 rfl rfl ?_
    refine E_aload_n (pc := 80) 1 dX0_measurePlaces_80 rfl rfl ?_
    refine E_getR0 (pc := 81) dX0_measurePlaces_81 fl_RX0_50 rfl rfl ?_
    refine E_iload_n (pc := 84) 2 dX0_measurePlaces_84 rfl rfl ?_
    refine E_iload (pc := 85) 6 dX0_measurePlaces_85 rfl ?_
    refine E_callS1 (pc := 87) dX0_measurePlaces_87 C_X6_spot rfl ks_RX0_53 rfl ⟨Nat.le_of_ble_eq_true rfl, Nat.le_of_ble_eq_true rfl, Nat.le_of_ble_eq_true rfl, Nat.le_of_ble_eq_true rfl⟩ (Nat.le_of_ble_eq_true rfl) ?_
    refine E_iconst (pc := 90) (1) dX0_measurePlaces_90 (by decide) ?_
    refine E_iadd (pc := 91) dX0_measurePlaces_91 ?_
    refine E_iald (pc := 92) dX0_measurePlaces_92 rfl (vin3 (a := 1) ht (by omega) (by decide)) ?_
    refine E_imul (pc := 93) dX0_measurePlaces_93 ?_
    refine E_iadd (pc := 94) dX0_measurePlaces_94 ?_
    refine E_top (y := sPlace (h g_values 0) (h g_nums k) t p 1) (by rw [mpp_o h k t p (by decide), show (1 : Int32) = nI 1 from rfl, e_ixA (by omega)]; rfl) ?_
    refine E_istore (pc := 95) 8 dX0_measurePlaces_95 (Nat.le_of_ble_eq_true rfl) rfl (lz := [_, _, _, _, _, _, _, _, _]) rfl ?_
    refine E_aload_n (pc := 97) 0 dX0_measurePlaces_97 rfl rfl ?_
    refine E_getR0 (pc := 98) dX0_measurePlaces_98 fl_RX0_11 rfl rfl ?_
    refine E_iload_n (pc := 101) 2 dX0_measurePlaces_101 rfl rfl ?_
    refine E_aload_n (pc := 102) 0 dX0_measurePlaces_102 rfl rfl ?_
    refine E_getR0 (pc := 103) dX0_measurePlaces_103 fl_RX0_11 rfl rfl ?_
    refine E_iload_n (pc := 106) 2 dX0_measurePlaces_106 rfl rfl ?_
    refine E_iald (pc := 107) dX0_measurePlaces_107 rfl (vp_in_nI (by omega) (by decide)) ?_
    refine E_top (y := sLA (h g_values 0) (h g_nums k) t p) (by rw [ixN_nI (by omega)]; exact mp_r1 _ _ _ _ _ _) ?_
    refine E_iload (pc := 108) 7 dX0_measurePlaces_108 rfl ?_
    refine E_callS1 (pc := 110) dX0_measurePlaces_110 C_J9_min_7cf53 rfl ks_RX0_89 rfl ⟨Nat.le_of_ble_eq_true rfl, Nat.le_of_ble_eq_true rfl, Nat.le_of_ble_eq_true rfl, Nat.le_of_ble_eq_true rfl⟩ (Nat.le_of_ble_eq_true rfl) ?_
    refine E_top (y := sLA (h g_values 0) (h g_nums k) t (p + 1)) rfl ?_
    refine E_iast (pc := 113) dX0_measurePlaces_113 rfl (vp_in_nI (by omega) (by decide)) ?_
    refine E_heq (h' := mp h t (sLA (h g_values 0) (h g_nums k) t (p + 1)) (sMA (h g_values 0) (h g_nums k) t p) (sLU (h g_values 0) (h g_nums k) t p) (sLP (h g_values 0) (h g_nums k) t (h g_lPart 0 t) p)) (by rw [ixN_nI (by omega)]; exact mp_1 _ _ _ _ _ _ _) ?_
    refine E_aload_n (pc := 114) 0 dX0_measurePlaces_114 rfl rfl ?_
    refine E_getR0 (pc := 115) dX0_measurePlaces_115 fl_RX0_17 rfl rfl ?_
    refine E_iload_n (pc := 118) 2 dX0_measurePlaces_118 rfl rfl ?_
    refine E_aload_n (pc := 119) 0 dX0_measurePlaces_119 rfl rfl ?_
    refine E_getR0 (pc := 120) dX0_measurePlaces_120 fl_RX0_17 rfl rfl ?_
    refine E_iload_n (pc := 123) 2 dX0_measurePlaces_123 rfl rfl ?_
    refine E_iald (pc := 124) dX0_measurePlaces_124 rfl (vp_in_nI (by omega) (by decide)) ?_
    refine E_top (y := sMA (h g_values 0) (h g_nums k) t p) (by rw [ixN_nI (by omega)]; exact mp_r2 _ _ _ _ _ _) ?_
    refine E_iload (pc := 125) 7 dX0_measurePlaces_125 rfl ?_
    refine E_callS1 (pc := 127) dX0_measurePlaces_127 C_J9_max_7cf53 rfl ks_RX0_92 rfl ⟨Nat.le_of_ble_eq_true rfl, Nat.le_of_ble_eq_true rfl, Nat.le_of_ble_eq_true rfl, Nat.le_of_ble_eq_true rfl⟩ (Nat.le_of_ble_eq_true rfl) ?_
    refine E_top (y := sMA (h g_values 0) (h g_nums k) t (p + 1)) rfl ?_
    refine E_iast (pc := 130) dX0_measurePlaces_130 rfl (vp_in_nI (by omega) (by decide)) ?_
    refine E_heq (h' := mp h t (sLA (h g_values 0) (h g_nums k) t (p + 1)) (sMA (h g_values 0) (h g_nums k) t (p + 1)) (sLU (h g_values 0) (h g_nums k) t p) (sLP (h g_values 0) (h g_nums k) t (h g_lPart 0 t) p)) (by rw [ixN_nI (by omega)]; exact mp_2 _ _ _ _ _ _ _) ?_
    refine E_iload (pc := 131) 8 dX0_measurePlaces_131 rfl ?_
    refine E_aload_n (pc := 133) 0 dX0_measurePlaces_133 rfl rfl ?_
    refine E_getR0 (pc := 134) dX0_measurePlaces_134 fl_RX0_20 rfl rfl ?_
    refine E_iload_n (pc := 137) 2 dX0_measurePlaces_137 rfl rfl ?_
    refine E_iald (pc := 138) dX0_measurePlaces_138 rfl (vp_in_nI (by omega) (by decide)) ?_
    refine E_top (y := sLU (h g_values 0) (h g_nums k) t p) (by rw [ixN_nI (by omega)]; exact mp_r3 _ _ _ _ _ _) ?_
    refine E_icmp_ge (pc := 139) 167 dX0_measurePlaces_139 rfl (fun q139 => ?_) (fun q139 => ?_)
    · have hc : ¬ (sPlace (h g_values 0) (h g_nums k) t p 1 < sLU (h g_values 0) (h g_nums k) t p ∧ sNear (h g_values 0) (sPlace (h g_values 0) (h g_nums k) t p 0)) := fun z => Int32.not_lt.mpr q139 z.1
      refine E_iincN (pc := 167) 6 dX0_measurePlaces_167 (Nat.le_of_ble_eq_true rfl) rfl rfl (lz := [_, _, _, _, _, _, _, _, _]) rfl ?_
      refine E_goto (pc := 170) 53 dX0_measurePlaces_170 rfl ?_
      refine E_drop 7 (E_drop 8 (E_heq ?_ hn))
      first | (unfold mpp; rw [sLU, sLP, if_neg hc, if_neg hc]; done) | (unfold mpp; rw [sLU, sLP, if_pos hc, if_pos hc, ixN_nI (by omega), mp_3, mp_4])
    · refine E_aload_n (pc := 142) 0 dX0_measurePlaces_142 rfl rfl ?_
      refine E_iload (pc := 143) 7 dX0_measurePlaces_143 rfl ?_
      refine E_callV1 (pc := 145) dX0_measurePlaces_145 C_X0_isNear rfl kv_RX0_95 rfl rfl rfl ⟨Nat.le_of_ble_eq_true rfl, Nat.le_of_ble_eq_true rfl, Nat.le_of_ble_eq_true rfl, Nat.le_of_ble_eq_true rfl⟩ (Nat.le_of_ble_eq_true rfl) ?_
      refine E_top (y := bi (sNear (h g_values 0) (sPlace (h g_values 0) (h g_nums k) t p 0))) (by rw [mp_o _ _ _ _ _ _ (by decide)]) ?_
      refine E_if_eq (pc := 148) 167 dX0_measurePlaces_148 rfl (fun q148 => ?_) (fun q148 => ?_)
      · have hc : ¬ (sPlace (h g_values 0) (h g_nums k) t p 1 < sLU (h g_values 0) (h g_nums k) t p ∧ sNear (h g_values 0) (sPlace (h g_values 0) (h g_nums k) t p 0)) := fun z => bi_0.mp q148 z.2
        refine E_iincN (pc := 167) 6 dX0_measurePlaces_167 (Nat.le_of_ble_eq_true rfl) rfl rfl (lz := [_, _, _, _, _, _, _, _, _]) rfl ?_
        refine E_goto (pc := 170) 53 dX0_measurePlaces_170 rfl ?_
        refine E_drop 7 (E_drop 8 (E_heq ?_ hn))
        first | (unfold mpp; rw [sLU, sLP, if_neg hc, if_neg hc]; done) | (unfold mpp; rw [sLU, sLP, if_pos hc, if_pos hc, ixN_nI (by omega), mp_3, mp_4])
      · have hc : sPlace (h g_values 0) (h g_nums k) t p 1 < sLU (h g_values 0) (h g_nums k) t p ∧ sNear (h g_values 0) (sPlace (h g_values 0) (h g_nums k) t p 0) := ⟨Int32.not_le.mp q139, Decidable.of_not_not (fun z => q148 (bi_0.mpr z))⟩
        refine E_aload_n (pc := 151) 0 dX0_measurePlaces_151 rfl rfl ?_
        refine E_getR0 (pc := 152) dX0_measurePlaces_152 fl_RX0_20 rfl rfl ?_
        refine E_iload_n (pc := 155) 2 dX0_measurePlaces_155 rfl rfl ?_
        refine E_iload (pc := 156) 8 dX0_measurePlaces_156 rfl ?_
        refine E_iast (pc := 158) dX0_measurePlaces_158 rfl (vp_in_nI (by omega) (by decide)) ?_
        refine E_aload_n (pc := 159) 0 dX0_measurePlaces_159 rfl rfl ?_
        refine E_getR0 (pc := 160) dX0_measurePlaces_160 fl_RX0_23 rfl rfl ?_
        refine E_iload_n (pc := 163) 2 dX0_measurePlaces_163 rfl rfl ?_
        refine E_iload (pc := 164) 6 dX0_measurePlaces_164 rfl ?_
        refine E_iast (pc := 166) dX0_measurePlaces_166 rfl (vp_in_nI (by omega) (by decide)) ?_
        refine E_iincN (pc := 167) 6 dX0_measurePlaces_167 (Nat.le_of_ble_eq_true rfl) rfl rfl (lz := [_, _, _, _, _, _, _, _, _]) rfl ?_
        refine E_goto (pc := 170) 53 dX0_measurePlaces_170 rfl ?_
        refine E_drop 7 (E_drop 8 (E_heq ?_ hn))
        first | (unfold mpp; rw [sLU, sLP, if_neg hc, if_neg hc]; done) | (unfold mpp; rw [sLU, sLP, if_pos hc, if_pos hc, ixN_nI (by omega), mp_3, mp_4])
