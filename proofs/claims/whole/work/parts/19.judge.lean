/-! the judge: what it measures -/
set_option maxHeartbeats 1600000 in
theorem C_X0_baseOf {l : Launch} {G : GE} {h : Hp} {k t ax : Nat} (ht : t ≤ 7) (ha : ax ≤ 1) : CT l G mX0_baseOf [vR g_judge 0, vR g_way k, vI (nI t), vI (nI ax)] h (fun r h' => r = some (sBase (h g_values 0) (h g_nums k) t ax) ∧ h' = h) := by
  refine CT.of (lv := [_, _, _, _, _, _]) (by decide +kernel) (Nat.le_of_ble_eq_true rfl) rfl ?_
  refine E_aload_n (pc := 0) 0 dX0_baseOf_0 rfl rfl ?_
  refine E_getR0 (pc := 1) dX0_baseOf_1 fl_RX0_36 rfl rfl ?_
  refine E_callV1 (pc := 4) dX0_baseOf_4 C_X3_total rfl kv_RX0_44 rfl rfl rfl ⟨Nat.le_of_ble_eq_true rfl, Nat.le_of_ble_eq_true rfl, Nat.le_of_ble_eq_true rfl, Nat.le_of_ble_eq_true rfl⟩ (Nat.le_of_ble_eq_true rfl) ?_
  refine E_aload_n (pc := 7) 0 dX0_baseOf_7 rfl rfl ?_
  refine E_getR0 (pc := 8) dX0_baseOf_8 fl_RX0_36 rfl rfl ?_
  refine E_iload_n (pc := 11) 2 dX0_baseOf_11 rfl rfl ?_
  refine E_iload_n (pc := 12) 3 dX0_baseOf_12 rfl rfl ?_
  refine E_callV1 (pc := 13) dX0_baseOf_13 C_X3_middleAt rfl kv_RX0_57 rfl rfl rfl ⟨Nat.le_of_ble_eq_true rfl, Nat.le_of_ble_eq_true rfl, Nat.le_of_ble_eq_true rfl, Nat.le_of_ble_eq_true rfl⟩ (Nat.le_of_ble_eq_true rfl) ?_
  refine E_imul (pc := 16) dX0_baseOf_16 ?_
  refine E_istore (pc := 17) 4 dX0_baseOf_17 (Nat.le_of_ble_eq_true rfl) rfl (lz := [_, _, _, _, _, _]) rfl ?_
  refine E_iconst (pc := 19) (0) dX0_baseOf_19 (by decide) ?_
  refine E_istore (pc := 20) 5 dX0_baseOf_20 (Nat.le_of_ble_eq_true rfl) rfl (lz := [_, _, _, _, _, _]) rfl ?_
  refine down (P := fun p => Ev l G mX0_baseOf _ 22 [some (vR g_judge 0), some (vR g_way k), some (vI (nI t)), some (vI (nI ax)), some (vI (bsF (h g_values 0) (h g_nums k) t ax p)), some (vI (nI p))] [] h) 4 ?_ ?_ 0 (Nat.zero_le _)
  · refine E_iload (pc := 22) 5 dX0_baseOf_22 rfl ?_
    refine E_iconst (pc := 24) (4) dX0_baseOf_24 (by decide) ?_
    refine E_icmp_ge (pc := 25) 63 dX0_baseOf_25 rfl (fun q25 => ?_) (fun q25 => absurd (show (4 : Int32) ≤ 4 by decide) q25)
    refine E_iload (pc := 63) 4 dX0_baseOf_63 rfl ?_
    refine E_iret (pc := 65) dX0_baseOf_65 rfl ?_
    exact ⟨rfl, rfl⟩
  · intro p hp hn
    refine E_iload (pc := 22) 5 dX0_baseOf_22 rfl ?_
    refine E_iconst (pc := 24) (4) dX0_baseOf_24 (by decide) ?_
    refine E_icmp_ge (pc := 25) 63 dX0_baseOf_25 rfl (fun q25 => absurd q25 (nI_ge (b := 4) hp (by decide))) (fun q25 => ?_)
    refine E_iload (pc := 28) 4 dX0_baseOf_28 rfl ?_
    refine E_aload_n (pc := 30) 0 dX0_baseOf_30 rfl rfl ?_
    refine E_getR0 (pc := 31) dX0_baseOf_31 fl_RX0_36 rfl rfl ?_
    refine E_getR0 (pc := 34) dX0_baseOf_34 fl_RX0_60 rfl rfl ?_
    refine E_iload (pc := 37) 5 dX0_baseOf_37 rfl ?_
    refine E_iald (pc := 39) dX0_baseOf_39 rfl (vp_in_nI (by omega) (by decide)) ?_
    refine E_aload_n (pc := 40) 1 dX0_baseOf_40 rfl rfl ?_
    refine E_getR0 (pc := 41) dX0_baseOf_41 fl_RX0_50 rfl rfl ?_
    refine E_iload_n (pc := 44) 2 dX0_baseOf_44 rfl rfl ?_
    refine E_iload (pc := 45) 5 dX0_baseOf_45 rfl ?_
    refine E_callS1 (pc := 47) dX0_baseOf_47 C_X6_spot rfl ks_RX0_53 rfl ⟨Nat.le_of_ble_eq_true rfl, Nat.le_of_ble_eq_true rfl, Nat.le_of_ble_eq_true rfl, Nat.le_of_ble_eq_true rfl⟩ (Nat.le_of_ble_eq_true rfl) ?_
    refine E_iload_n (pc := 50) 3 dX0_baseOf_50 rfl rfl ?_
    refine E_iadd (pc := 51) dX0_baseOf_51 ?_
    refine E_iald (pc := 52) dX0_baseOf_52 rfl (vin3 ht (by omega) ha) ?_
    refine E_imul (pc := 53) dX0_baseOf_53 ?_
    refine E_isub (pc := 54) dX0_baseOf_54 ?_
    refine E_top (y := bsF (h g_values 0) (h g_nums k) t ax (p + 1)) (by rw [ixN_nI (by omega), e_ixA (by omega)]; rfl) ?_
    refine E_istore (pc := 55) 4 dX0_baseOf_55 (Nat.le_of_ble_eq_true rfl) rfl (lz := [_, _, _, _, _, _]) rfl ?_
    refine E_iincN (pc := 57) 5 dX0_baseOf_57 (Nat.le_of_ble_eq_true rfl) rfl rfl (lz := [_, _, _, _, _, _]) rfl ?_
    refine E_goto (pc := 60) 22 dX0_baseOf_60 rfl ?_
    exact hn
set_option maxHeartbeats 1600000 in
theorem C_X0_placeOf {l : Launch} {G : GE} {h : Hp} {k t p ax : Nat} (ht : t ≤ 7) (hp : p ≤ 3) (ha : ax ≤ 1) : CT l G mX0_placeOf [vR g_judge 0, vR g_way k, vI (nI t), vI (nI p), vI (nI ax)] h (fun r h' => r = some (sPlace (h g_values 0) (h g_nums k) t p ax) ∧ h' = h) := by
  refine CT.of (lv := [_, _, _, _, _]) (by decide +kernel) (Nat.le_of_ble_eq_true rfl) rfl ?_
  refine E_aload_n (pc := 0) 0 dX0_placeOf_0 rfl rfl ?_
  refine E_aload_n (pc := 1) 1 dX0_placeOf_1 rfl rfl ?_
  refine E_iload_n (pc := 2) 2 dX0_placeOf_2 rfl rfl ?_
  refine E_iload (pc := 3) 4 dX0_placeOf_3 rfl ?_
  refine E_callV1 (pc := 5) dX0_placeOf_5 (C_X0_baseOf ht ha) rfl kv_RX0_40 rfl rfl rfl ⟨Nat.le_of_ble_eq_true rfl, Nat.le_of_ble_eq_true rfl, Nat.le_of_ble_eq_true rfl, Nat.le_of_ble_eq_true rfl⟩ (Nat.le_of_ble_eq_true rfl) ?_
  refine E_aload_n (pc := 8) 0 dX0_placeOf_8 rfl rfl ?_
  refine E_getR0 (pc := 9) dX0_placeOf_9 fl_RX0_36 rfl rfl ?_
  refine E_callV1 (pc := 12) dX0_placeOf_12 C_X3_total rfl kv_RX0_44 rfl rfl rfl ⟨Nat.le_of_ble_eq_true rfl, Nat.le_of_ble_eq_true rfl, Nat.le_of_ble_eq_true rfl, Nat.le_of_ble_eq_true rfl⟩ (Nat.le_of_ble_eq_true rfl) ?_
  refine E_aload_n (pc := 15) 1 dX0_placeOf_15 rfl rfl ?_
  refine E_getR0 (pc := 16) dX0_placeOf_16 fl_RX0_50 rfl rfl ?_
  refine E_iload_n (pc := 19) 2 dX0_placeOf_19 rfl rfl ?_
  refine E_iload_n (pc := 20) 3 dX0_placeOf_20 rfl rfl ?_
  refine E_callS1 (pc := 21) dX0_placeOf_21 C_X6_spot rfl ks_RX0_53 rfl ⟨Nat.le_of_ble_eq_true rfl, Nat.le_of_ble_eq_true rfl, Nat.le_of_ble_eq_true rfl, Nat.le_of_ble_eq_true rfl⟩ (Nat.le_of_ble_eq_true rfl) ?_
  refine E_iload (pc := 24) 4 dX0_placeOf_24 rfl ?_
  refine E_iadd (pc := 26) dX0_placeOf_26 ?_
  refine E_iald (pc := 27) dX0_placeOf_27 rfl (vin3 ht hp ha) ?_
  refine E_imul (pc := 28) dX0_placeOf_28 ?_
  refine E_iadd (pc := 29) dX0_placeOf_29 ?_
  refine E_iret (pc := 30) dX0_placeOf_30 rfl ?_
  exact ⟨by unfold sPlace; rw [e_ixA (by omega)]; rfl, rfl⟩
set_option maxHeartbeats 1600000 in
theorem C_X0_isNear {l : Launch} {G : GE} {h : Hp} {x : Int32} : CT l G mX0_isNear [vR g_judge 0, vI x] h (fun r h' => r = some (bi (sNear (h g_values 0) x)) ∧ h' = h) := by
  refine CT.of (lv := [_, _]) (by decide +kernel) (Nat.le_of_ble_eq_true rfl) rfl ?_
  refine E_iload_n (pc := 0) 1 dX0_isNear_0 rfl rfl ?_
  refine E_callS1 (pc := 1) dX0_isNear_1 C_J9_abs_0f7a4 rfl ks_RX0_63 rfl ⟨Nat.le_of_ble_eq_true rfl, Nat.le_of_ble_eq_true rfl, Nat.le_of_ble_eq_true rfl, Nat.le_of_ble_eq_true rfl⟩ (Nat.le_of_ble_eq_true rfl) ?_
  refine E_aload_n (pc := 4) 0 dX0_isNear_4 rfl rfl ?_
  refine E_getR0 (pc := 5) dX0_isNear_5 fl_RX0_36 rfl rfl ?_
  refine E_callV1 (pc := 8) dX0_isNear_8 C_X3_total rfl kv_RX0_44 rfl rfl rfl ⟨Nat.le_of_ble_eq_true rfl, Nat.le_of_ble_eq_true rfl, Nat.le_of_ble_eq_true rfl, Nat.le_of_ble_eq_true rfl⟩ (Nat.le_of_ble_eq_true rfl) ?_
  refine E_aload_n (pc := 11) 0 dX0_isNear_11 rfl rfl ?_
  refine E_getR0 (pc := 12) dX0_isNear_12 fl_RX0_36 rfl rfl ?_
  refine E_getR0 (pc := 15) dX0_isNear_15 fl_RX0_60 rfl rfl ?_
  refine E_bipush (pc := 18) (12) dX0_isNear_18 (by decide) ?_
  refine E_iald (pc := 20) dX0_isNear_20 rfl (by unfold vp_in; decide) ?_
  refine E_imul (pc := 21) dX0_isNear_21 ?_
  refine E_icmp_gt (pc := 22) 29 dX0_isNear_22 rfl (fun q22 => ?_) (fun q22 => ?_)
  · refine E_iconst (pc := 29) (0) dX0_isNear_29 (by decide) ?_
    refine E_zret (pc := 30) dX0_isNear_30 rfl rfl ?_
    exact ⟨by first | exact congrArg some (bi_f (fun z => Int32.not_le.mpr q22 z)).symm | exact congrArg some (bi_t (Int32.not_lt.mp q22)).symm, rfl⟩
  · refine E_iconst (pc := 25) (1) dX0_isNear_25 (by decide) ?_
    refine E_goto (pc := 26) 30 dX0_isNear_26 rfl ?_
    refine E_zret (pc := 30) dX0_isNear_30 rfl rfl ?_
    exact ⟨by first | exact congrArg some (bi_f (fun z => Int32.not_le.mpr q22 z)).symm | exact congrArg some (bi_t (Int32.not_lt.mp q22)).symm, rfl⟩
set_option maxHeartbeats 1600000 in
theorem C_X0_isBent {l : Launch} {G : GE} {h : Hp} {k t : Nat} (ht : t ≤ 7) : CT l G mX0_isBent [vR g_judge 0, vR g_way k, vI (nI t)] h (fun r h' => r = some (bi (sBent (h g_values 0) (h g_nums k) t)) ∧ h' = h) := by
  refine CT.of (lv := [_, _, _, _, _, _]) (by decide +kernel) (Nat.le_of_ble_eq_true rfl) rfl ?_
  refine E_iconst (pc := 0) (0) dX0_isBent_0 (by decide) ?_
  refine E_istore_n (pc := 1) 3 dX0_isBent_1 rfl (Nat.le_of_ble_eq_true rfl) rfl (lz := [_, _, _, _, _, _]) rfl ?_
  refine down (P := fun p => (∀ j, j < p → ¬ sBentP (h g_values 0) (h g_nums k) t j) → Ev l G mX0_isBent _ 2 [some (vR g_judge 0), some (vR g_way k), some (vI (nI t)), some (vI (nI p)), none, none] [] h) 3 ?_ ?_ 0 (Nat.zero_le _) (fun j hj => absurd hj (Nat.not_lt_zero j))
  · intro ho
    refine E_iload_n (pc := 2) 3 dX0_isBent_2 rfl rfl ?_
    refine E_iconst (pc := 3) (3) dX0_isBent_3 (by decide) ?_
    refine E_icmp_ge (pc := 4) 83 dX0_isBent_4 rfl (fun q4 => ?_) (fun q4 => absurd (show (3 : Int32) ≤ 3 by decide) q4)
    refine E_iconst (pc := 83) (0) dX0_isBent_83 (by decide) ?_
    refine E_zret (pc := 84) dX0_isBent_84 rfl rfl ?_
    exact ⟨congrArg some (bi_f (fun z => z.elim (ho 0 (by decide)) (fun z => z.elim (ho 1 (by decide)) (ho 2 (by decide))))).symm, rfl⟩
  · intro p hp hn ho
    refine E_iload_n (pc := 2) 3 dX0_isBent_2 rfl rfl ?_
    refine E_iconst (pc := 3) (3) dX0_isBent_3 (by decide) ?_
    refine E_icmp_ge (pc := 4) 83 dX0_isBent_4 rfl (fun q4 => absurd q4 (nI_ge (b := 3) hp (by decide))) (fun q4 => ?_)
    refine E_iload_n (pc := 7) 2 dX0_isBent_7 rfl rfl ?_
    refine E_iload_n (pc := 8) 3 dX0_isBent_8 rfl rfl ?_
    refine E_callS1 (pc := 9) dX0_isBent_9 C_X6_spot rfl ks_RX0_53 rfl ⟨Nat.le_of_ble_eq_true rfl, Nat.le_of_ble_eq_true rfl, Nat.le_of_ble_eq_true rfl, Nat.le_of_ble_eq_true rfl⟩ (Nat.le_of_ble_eq_true rfl) ?_
    refine E_istore (pc := 12) 4 dX0_isBent_12 (Nat.le_of_ble_eq_true rfl) rfl (lz := [_, _, _, _, _, _]) rfl ?_
    refine E_aload_n (pc := 14) 1 dX0_isBent_14 rfl rfl ?_
    refine E_getR0 (pc := 15) dX0_isBent_15 fl_RX0_50 rfl rfl ?_
    refine E_iload (pc := 18) 4 dX0_isBent_18 rfl ?_
    refine E_iald (pc := 20) dX0_isBent_20 rfl (vin2 ht (by omega)) ?_
    refine E_aload_n (pc := 21) 1 dX0_isBent_21 rfl rfl ?_
    refine E_getR0 (pc := 22) dX0_isBent_22 fl_RX0_50 rfl rfl ?_
    refine E_iload (pc := 25) 4 dX0_isBent_25 rfl ?_
    refine E_iconst (pc := 27) (2) dX0_isBent_27 (by decide) ?_
    refine E_iadd (pc := 28) dX0_isBent_28 ?_
    refine E_iald (pc := 29) dX0_isBent_29 rfl (vinA (a := 2) (by omega)) ?_
    refine E_isub (pc := 30) dX0_isBent_30 ?_
    refine E_callS1 (pc := 31) dX0_isBent_31 C_J9_abs_0f7a4 rfl ks_RX0_63 rfl ⟨Nat.le_of_ble_eq_true rfl, Nat.le_of_ble_eq_true rfl, Nat.le_of_ble_eq_true rfl, Nat.le_of_ble_eq_true rfl⟩ (Nat.le_of_ble_eq_true rfl) ?_
    refine E_aload_n (pc := 34) 1 dX0_isBent_34 rfl rfl ?_
    refine E_getR0 (pc := 35) dX0_isBent_35 fl_RX0_50 rfl rfl ?_
    refine E_iload (pc := 38) 4 dX0_isBent_38 rfl ?_
    refine E_iconst (pc := 40) (1) dX0_isBent_40 (by decide) ?_
    refine E_iadd (pc := 41) dX0_isBent_41 ?_
    refine E_iald (pc := 42) dX0_isBent_42 rfl (vinA (a := 1) (by omega)) ?_
    refine E_aload_n (pc := 43) 1 dX0_isBent_43 rfl rfl ?_
    refine E_getR0 (pc := 44) dX0_isBent_44 fl_RX0_50 rfl rfl ?_
    refine E_iload (pc := 47) 4 dX0_isBent_47 rfl ?_
    refine E_iconst (pc := 49) (3) dX0_isBent_49 (by decide) ?_
    refine E_iadd (pc := 50) dX0_isBent_50 ?_
    refine E_iald (pc := 51) dX0_isBent_51 rfl (vinA (a := 3) (by omega)) ?_
    refine E_isub (pc := 52) dX0_isBent_52 ?_
    refine E_callS1 (pc := 53) dX0_isBent_53 C_J9_abs_0f7a4 rfl ks_RX0_63 rfl ⟨Nat.le_of_ble_eq_true rfl, Nat.le_of_ble_eq_true rfl, Nat.le_of_ble_eq_true rfl, Nat.le_of_ble_eq_true rfl⟩ (Nat.le_of_ble_eq_true rfl) ?_
    refine E_iadd (pc := 56) dX0_isBent_56 ?_
    refine E_istore (pc := 57) 5 dX0_isBent_57 (Nat.le_of_ble_eq_true rfl) rfl (lz := [_, _, _, _, _, _]) rfl ?_
    refine E_iload (pc := 59) 5 dX0_isBent_59 rfl ?_
    refine E_aload_n (pc := 61) 0 dX0_isBent_61 rfl rfl ?_
    refine E_getR0 (pc := 62) dX0_isBent_62 fl_RX0_36 rfl rfl ?_
    refine E_getR0 (pc := 65) dX0_isBent_65 fl_RX0_60 rfl rfl ?_
    refine E_iconst (pc := 68) (4) dX0_isBent_68 (by decide) ?_
    refine E_iload_n (pc := 69) 3 dX0_isBent_69 rfl rfl ?_
    refine E_iadd (pc := 70) dX0_isBent_70 ?_
    refine E_iald (pc := 71) dX0_isBent_71 rfl (vin4 (a := 4) (by omega) (by decide)) ?_
    refine E_eq (st' := [vI (h g_values 0 (4 + p)), vI (absI (h g_nums k (8 * t + 2 * p) - h g_nums k (8 * t + 2 * p + 2)) + absI (h g_nums k (8 * t + 2 * p + 1) - h g_nums k (8 * t + 2 * p + 3)))]) rfl (by rw [← e_ixB (t := t) (p := p) (by omega), ← e_ix4 (a := 4) (p := p) (by omega), e_ixB (t := t) (p := p) (by omega), ← e_ixA (a := 2) (by omega), ← e_ixA (a := 1) (by omega), ← e_ixA (a := 3) (by omega), ← e_ixB (t := t) (p := p) (by omega)]; rfl) rfl ?_
    refine E_icmp_le (pc := 72) 77 dX0_isBent_72 rfl (fun q72 => ?_) (fun q72 => ?_)
    · refine E_iincN (pc := 77) 3 dX0_isBent_77 (Nat.le_of_ble_eq_true rfl) rfl rfl (lz := [_, _, _, _, _, _]) rfl ?_
      refine E_goto (pc := 80) 2 dX0_isBent_80 rfl ?_
      refine E_drop 4 (E_drop 5 (hn (lt_s ho (Int32.not_lt.mpr q72))))
    · refine E_iconst (pc := 75) (1) dX0_isBent_75 (by decide) ?_
      refine E_zret (pc := 76) dX0_isBent_76 rfl rfl ?_
      refine ⟨congrArg some (bi_t (?_ : sBent (h g_values 0) (h g_nums k) t)).symm, rfl⟩
      have hb : sBentP (h g_values 0) (h g_nums k) t p := Int32.not_le.mp q72
      rcases (show p = 0 ∨ p = 1 ∨ p = 2 by omega) with rfl | rfl | rfl
      · exact Or.inl hb
      · exact Or.inr (Or.inl hb)
      · exact Or.inr (Or.inr hb)
