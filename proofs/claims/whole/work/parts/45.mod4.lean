/-! the model: place, near, high, lowest -/
set_option maxHeartbeats 1600000 in
theorem C_X8_isNear {l : Launch} {G : GE} {h : Hp} {w t p : Nat} (hV : RV (h g_m_holds 0)) (hN : RN (mN h w)) (hw : w ≤ 5) (ht : t ≤ 7) (hp : p ≤ 3) : CT l G mX8_isNear [vR g_model 0, vI (nI w), vI (nI t), vI (nI p)] h (fun r h' => r = some (bi (sNear (h g_m_holds 0) (sPlace (h g_m_holds 0) (mN h w) t p 0))) ∧ h' = h) := by
  refine CT.of (lv := [_, _, _, _, _]) (by decide +kernel) (Nat.le_of_ble_eq_true rfl) rfl ?_
  refine E_aload_n (pc := 0) 0 dX8_isNear_0 rfl rfl ?_
  refine E_iload_n (pc := 1) 1 dX8_isNear_1 rfl rfl ?_
  refine E_iload_n (pc := 2) 2 dX8_isNear_2 rfl rfl ?_
  refine E_iload_n (pc := 3) 3 dX8_isNear_3 rfl rfl ?_
  refine E_iconst (pc := 4) (0) dX8_isNear_4 (by decide) ?_
  refine E_callV1 (pc := 5) dX8_isNear_5 (C_X8_placeOf (ax := 0) hw ht hp (by decide)) rfl kv_RX8_173 rfl rfl rfl ⟨Nat.le_of_ble_eq_true rfl, Nat.le_of_ble_eq_true rfl, Nat.le_of_ble_eq_true rfl, Nat.le_of_ble_eq_true rfl⟩ (Nat.le_of_ble_eq_true rfl) ?_
  refine E_istore (pc := 8) 4 dX8_isNear_8 (Nat.le_of_ble_eq_true rfl) rfl (lz := [_, _, _, _, _]) rfl ?_
  refine E_iload (pc := 10) 4 dX8_isNear_10 rfl ?_
  refine E_i2l (pc := 12) dX8_isNear_12 ?_
  refine E_aload_n (pc := 13) 0 dX8_isNear_13 rfl rfl ?_
  refine E_callV1 (pc := 14) dX8_isNear_14 C_X8_whole rfl kv_RX8_166 rfl rfl rfl ⟨Nat.le_of_ble_eq_true rfl, Nat.le_of_ble_eq_true rfl, Nat.le_of_ble_eq_true rfl, Nat.le_of_ble_eq_true rfl⟩ (Nat.le_of_ble_eq_true rfl) ?_
  refine E_ineg (pc := 17) dX8_isNear_17 ?_
  refine E_aload_n (pc := 18) 0 dX8_isNear_18 rfl rfl ?_
  refine E_getR0 (pc := 19) dX8_isNear_19 fl_RX8_28 rfl rfl ?_
  refine E_bipush (pc := 22) (12) dX8_isNear_22 (by decide) ?_
  refine E_iald (pc := 24) dX8_isNear_24 rfl (by unfold vp_in; decide) ?_
  refine E_imul (pc := 25) dX8_isNear_25 ?_
  refine E_i2l (pc := 26) dX8_isNear_26 ?_
  refine E_aload_n (pc := 27) 0 dX8_isNear_27 rfl rfl ?_
  refine E_callV1 (pc := 28) dX8_isNear_28 C_X8_whole rfl kv_RX8_166 rfl rfl rfl ⟨Nat.le_of_ble_eq_true rfl, Nat.le_of_ble_eq_true rfl, Nat.le_of_ble_eq_true rfl, Nat.le_of_ble_eq_true rfl⟩ (Nat.le_of_ble_eq_true rfl) ?_
  refine E_aload_n (pc := 31) 0 dX8_isNear_31 rfl rfl ?_
  refine E_getR0 (pc := 32) dX8_isNear_32 fl_RX8_28 rfl rfl ?_
  refine E_bipush (pc := 35) (12) dX8_isNear_35 (by decide) ?_
  refine E_iald (pc := 37) dX8_isNear_37 rfl (by unfold vp_in; decide) ?_
  refine E_imul (pc := 38) dX8_isNear_38 ?_
  refine E_i2l (pc := 39) dX8_isNear_39 ?_
  refine E_callS1 (pc := 40) dX8_isNear_40 (C_X8_in rfl rfl) rfl ks_RX8_71 rfl ⟨Nat.le_of_ble_eq_true rfl, Nat.le_of_ble_eq_true rfl, Nat.le_of_ble_eq_true rfl, Nat.le_of_ble_eq_true rfl⟩ (Nat.le_of_ble_eq_true rfl) ?_
  refine E_zret (pc := 43) dX8_isNear_43 rfl (by first | rfl | exact nar_bi) ?_
  exact ⟨congrArg some (bi_congr (nearV hV hN ht hp)), rfl⟩
set_option maxHeartbeats 1600000 in
theorem C_X8_place {l : Launch} {G : GE} {h : Hp} {w t p a : Int32} (hT : h g_m_tenths 0 (ixN w) ≤ 8) : CT l G mX8_place [vR g_model 0, vI w, vI t, vI p, vI a] h (fun r h' => r = some (if (((0 ≤ w ∧ w ≤ 5) ∧ 0 < h g_m_tenths 0 (ixN w)) ∧ (0 ≤ t ∧ t ≤ h g_m_tenths 0 (ixN w) - 1) ∧ 0 ≤ p ∧ p ≤ 3) ∧ 0 ≤ a ∧ a ≤ 1 then sPlace (h g_m_holds 0) (mN h (ixN w)) (ixN t) (ixN p) (ixN a) else -1000000) ∧ h' = h) := by
  refine CT.of (lv := [_, _, _, _, _]) (by decide +kernel) (Nat.le_of_ble_eq_true rfl) rfl ?_
  refine E_aload_n (pc := 0) 0 dX8_place_0 rfl rfl ?_
  refine E_iload_n (pc := 1) 1 dX8_place_1 rfl rfl ?_
  refine E_iload_n (pc := 2) 2 dX8_place_2 rfl rfl ?_
  refine E_callV1 (pc := 3) dX8_place_3 C_X8_isTenth rfl kv_RX8_151 rfl rfl rfl ⟨Nat.le_of_ble_eq_true rfl, Nat.le_of_ble_eq_true rfl, Nat.le_of_ble_eq_true rfl, Nat.le_of_ble_eq_true rfl⟩ (Nat.le_of_ble_eq_true rfl) ?_
  refine E_if_eq (pc := 6) 39 dX8_place_6 rfl (fun q6 => ?_) (fun q6 => ?_)
  · refine E_ldc (pc := 39) (-1000000) dX8_place_39 kk_RX8_176 ?_
    refine E_iret (pc := 41) dX8_place_41 rfl ?_
    exact ⟨by grind (splits := 24) [bi], rfl⟩
  · refine E_iload_n (pc := 9) 3 dX8_place_9 rfl rfl ?_
    refine E_callS1 (pc := 10) dX8_place_10 C_X8_isPart rfl ks_RX8_155 rfl ⟨Nat.le_of_ble_eq_true rfl, Nat.le_of_ble_eq_true rfl, Nat.le_of_ble_eq_true rfl, Nat.le_of_ble_eq_true rfl⟩ (Nat.le_of_ble_eq_true rfl) ?_
    refine E_if_eq (pc := 13) 39 dX8_place_13 rfl (fun q13 => ?_) (fun q13 => ?_)
    · refine E_ldc (pc := 39) (-1000000) dX8_place_39 kk_RX8_176 ?_
      refine E_iret (pc := 41) dX8_place_41 rfl ?_
      exact ⟨by grind (splits := 24) [bi], rfl⟩
    · refine E_iload (pc := 16) 4 dX8_place_16 rfl ?_
      refine E_i2l (pc := 18) dX8_place_18 ?_
      refine E_lconst (pc := 19) (0) dX8_place_19 (by decide) ?_
      refine E_lconst (pc := 20) (1) dX8_place_20 (by decide) ?_
      refine E_callS1 (pc := 21) dX8_place_21 (C_X8_in (a := 0) (b := 1) (by decide) (by decide)) rfl ks_RX8_71 rfl ⟨Nat.le_of_ble_eq_true rfl, Nat.le_of_ble_eq_true rfl, Nat.le_of_ble_eq_true rfl, Nat.le_of_ble_eq_true rfl⟩ (Nat.le_of_ble_eq_true rfl) ?_
      refine E_if_eq (pc := 24) 39 dX8_place_24 rfl (fun q24 => ?_) (fun q24 => ?_)
      · refine E_ldc (pc := 39) (-1000000) dX8_place_39 kk_RX8_176 ?_
        refine E_iret (pc := 41) dX8_place_41 rfl ?_
        exact ⟨by grind (splits := 24) [bi], rfl⟩
      · obtain ⟨w', hw', ew⟩ := natq (x := w) 5 5 rfl (by decide) (by grind [bi]) (by grind [bi])
        obtain ⟨t', ht', et⟩ := natq (x := t) 7 7 rfl (by decide) (by grind [bi]) (by grind [bi])
        obtain ⟨p', hp', ep⟩ := natq (x := p) 3 3 rfl (by decide) (by grind [bi]) (by grind [bi])
        obtain ⟨a', ha', ea⟩ := natq (x := a) 1 1 rfl (by decide) (by grind [bi]) (by grind [bi])
        refine E_eq (st' := []) (by rw [ew, et, ep, ea]) rfl rfl ?_
        refine E_aload_n (pc := 27) 0 dX8_place_27 rfl rfl ?_
        refine E_iload_n (pc := 28) 1 dX8_place_28 rfl rfl ?_
        refine E_iload_n (pc := 29) 2 dX8_place_29 rfl rfl ?_
        refine E_iload_n (pc := 30) 3 dX8_place_30 rfl rfl ?_
        refine E_iload (pc := 31) 4 dX8_place_31 rfl ?_
        refine E_callV1 (pc := 33) dX8_place_33 (C_X8_placeOf hw' ht' hp' ha') rfl kv_RX8_173 rfl rfl rfl ⟨Nat.le_of_ble_eq_true rfl, Nat.le_of_ble_eq_true rfl, Nat.le_of_ble_eq_true rfl, Nat.le_of_ble_eq_true rfl⟩ (Nat.le_of_ble_eq_true rfl) ?_
        refine E_top (y := sPlace (h g_m_holds 0) (mN h (ixN w)) (ixN t) (ixN p) (ixN a)) (by rw [ew, et, ep, ea, ixN_nI (by omega), ixN_nI (by omega), ixN_nI (by omega), ixN_nI (by omega)]) ?_
        refine E_goto (pc := 36) 41 dX8_place_36 rfl ?_
        refine E_iret (pc := 41) dX8_place_41 rfl ?_
        exact ⟨by grind (splits := 24) [bi], rfl⟩
set_option maxHeartbeats 1600000 in
theorem C_X8_near {l : Launch} {G : GE} {h : Hp} {w t p : Int32} (hV : RV (h g_m_holds 0)) (hN : ∀ k, k < 6 → RN (mN h k)) (hT : h g_m_tenths 0 (ixN w) ≤ 8) : CT l G mX8_near [vR g_model 0, vI w, vI t, vI p] h (fun r h' => r = some (if ((0 ≤ w ∧ w ≤ 5) ∧ 0 < h g_m_tenths 0 (ixN w)) ∧ (0 ≤ t ∧ t ≤ h g_m_tenths 0 (ixN w) - 1) ∧ 0 ≤ p ∧ p ≤ 3 then bi (sNear (h g_m_holds 0) (sPlace (h g_m_holds 0) (mN h (ixN w)) (ixN t) (ixN p) 0)) else -1) ∧ h' = h) := by
  refine CT.of (lv := [_, _, _, _]) (by decide +kernel) (Nat.le_of_ble_eq_true rfl) rfl ?_
  refine E_aload_n (pc := 0) 0 dX8_near_0 rfl rfl ?_
  refine E_iload_n (pc := 1) 1 dX8_near_1 rfl rfl ?_
  refine E_iload_n (pc := 2) 2 dX8_near_2 rfl rfl ?_
  refine E_callV1 (pc := 3) dX8_near_3 C_X8_isTenth rfl kv_RX8_151 rfl rfl rfl ⟨Nat.le_of_ble_eq_true rfl, Nat.le_of_ble_eq_true rfl, Nat.le_of_ble_eq_true rfl, Nat.le_of_ble_eq_true rfl⟩ (Nat.le_of_ble_eq_true rfl) ?_
  refine E_if_eq (pc := 6) 34 dX8_near_6 rfl (fun q6 => ?_) (fun q6 => ?_)
  · refine E_iconst (pc := 34) (-1) dX8_near_34 (by decide) ?_
    refine E_iret (pc := 35) dX8_near_35 rfl ?_
    exact ⟨by grind (splits := 24) [bi], rfl⟩
  · refine E_iload_n (pc := 9) 3 dX8_near_9 rfl rfl ?_
    refine E_callS1 (pc := 10) dX8_near_10 C_X8_isPart rfl ks_RX8_155 rfl ⟨Nat.le_of_ble_eq_true rfl, Nat.le_of_ble_eq_true rfl, Nat.le_of_ble_eq_true rfl, Nat.le_of_ble_eq_true rfl⟩ (Nat.le_of_ble_eq_true rfl) ?_
    refine E_if_eq (pc := 13) 34 dX8_near_13 rfl (fun q13 => ?_) (fun q13 => ?_)
    · refine E_iconst (pc := 34) (-1) dX8_near_34 (by decide) ?_
      refine E_iret (pc := 35) dX8_near_35 rfl ?_
      exact ⟨by grind (splits := 24) [bi], rfl⟩
    · obtain ⟨w', hw', ew⟩ := natq (x := w) 5 5 rfl (by decide) (by grind [bi]) (by grind [bi])
      obtain ⟨t', ht', et⟩ := natq (x := t) 7 7 rfl (by decide) (by grind [bi]) (by grind [bi])
      obtain ⟨p', hp', ep⟩ := natq (x := p) 3 3 rfl (by decide) (by grind [bi]) (by grind [bi])
      refine E_eq (st' := []) (by rw [ew, et, ep]) rfl rfl ?_
      refine E_aload_n (pc := 16) 0 dX8_near_16 rfl rfl ?_
      refine E_iload_n (pc := 17) 1 dX8_near_17 rfl rfl ?_
      refine E_iload_n (pc := 18) 2 dX8_near_18 rfl rfl ?_
      refine E_iload_n (pc := 19) 3 dX8_near_19 rfl rfl ?_
      refine E_callV1 (pc := 20) dX8_near_20 (C_X8_isNear hV (hN w' (by omega)) hw' ht' hp') rfl kv_RX8_177 rfl rfl rfl ⟨Nat.le_of_ble_eq_true rfl, Nat.le_of_ble_eq_true rfl, Nat.le_of_ble_eq_true rfl, Nat.le_of_ble_eq_true rfl⟩ (Nat.le_of_ble_eq_true rfl) ?_
      refine E_top (y := bi (sNear (h g_m_holds 0) (sPlace (h g_m_holds 0) (mN h (ixN w)) (ixN t) (ixN p) 0))) (by rw [ew, et, ep, ixN_nI (by omega), ixN_nI (by omega), ixN_nI (by omega)]) ?_
      refine E_if_eq (pc := 23) 30 dX8_near_23 rfl (fun q23 => ?_) (fun q23 => ?_)
      · refine E_iconst (pc := 30) (0) dX8_near_30 (by decide) ?_
        refine E_goto (pc := 31) 35 dX8_near_31 rfl ?_
        refine E_iret (pc := 35) dX8_near_35 rfl ?_
        exact ⟨by grind (splits := 24) [bi], rfl⟩
      · refine E_iconst (pc := 26) (1) dX8_near_26 (by decide) ?_
        refine E_goto (pc := 27) 35 dX8_near_27 rfl ?_
        refine E_iret (pc := 35) dX8_near_35 rfl ?_
        exact ⟨by grind (splits := 24) [bi], rfl⟩
abbrev acP (V N : Nat → Int32) (T p : Nat) : Prop := ∀ j, j < p → sPlace V N 0 j 0 < 0 ∧ 0 < sPlace V N (T - 1) j 0
theorem acP_iff (V N : Nat → Int32) (T : Nat) : acP V N T 4 ↔ sGets V N T := by
  unfold sGets acP
  rw [sMA_lt, sLA_gt]
  exact ⟨fun z => ⟨fun j hj => (z j hj).1, fun j hj => (z j hj).2⟩, fun z j hj => ⟨z.1 j hj, z.2 j hj⟩⟩
set_option maxHeartbeats 1600000 in
theorem C_X8_getsAcross {l : Launch} {G : GE} {h : Hp} {w T : Nat} (hw : w ≤ 5) (hT : h g_m_tenths 0 w = nI T) (hT1 : 1 ≤ T) (hT8 : T ≤ 8) : CT l G mX8_getsAcross [vR g_model 0, vI (nI w)] h (fun r h' => r = some (bi (sGets (h g_m_holds 0) (mN h w) T)) ∧ h' = h) := by
  refine CT.of (lv := [_, _, _, _]) (by decide +kernel) (Nat.le_of_ble_eq_true rfl) rfl ?_
  refine E_iconst (pc := 0) (1) dX8_getsAcross_0 (by decide) ?_
  refine E_istore_n (pc := 1) 2 dX8_getsAcross_1 rfl (Nat.le_of_ble_eq_true rfl) rfl (lz := [_, _, _, _]) rfl ?_
  refine E_iconst (pc := 2) (0) dX8_getsAcross_2 (by decide) ?_
  refine E_istore_n (pc := 3) 3 dX8_getsAcross_3 rfl (Nat.le_of_ble_eq_true rfl) rfl (lz := [_, _, _, _]) rfl ?_
  refine down (P := fun p => ∀ x : Int32, (x = 0 ∨ x = 1) → (x = 1 ↔ acP (h g_m_holds 0) (mN h w) T p) → Ev l G mX8_getsAcross _ 4 [some (vR g_model 0), some (vI (nI w)), some (vI x), some (vI (nI p))] [] h) 4 ?_ ?_ 0 (Nat.zero_le _) 1 (Or.inr rfl) ⟨fun _ j hj => absurd hj (Nat.not_lt_zero j), fun _ => rfl⟩
  · intro x hx ho
    refine E_iload_n (pc := 4) 3 dX8_getsAcross_4 rfl rfl ?_
    refine E_iconst (pc := 5) (4) dX8_getsAcross_5 (by decide) ?_
    refine E_icmp_ge (pc := 6) 54 dX8_getsAcross_6 rfl (fun q6 => ?_) (fun q6 => absurd (show (4 : Int32) ≤ 4 by decide) q6)
    refine E_iload_n (pc := 54) 2 dX8_getsAcross_54 rfl rfl ?_
    refine E_zret (pc := 55) dX8_getsAcross_55 rfl (by rcases hx with rfl | rfl <;> rfl) ?_
    rw [acP_iff] at ho
    refine ⟨congrArg some ?_, rfl⟩
    by_cases hg : sGets (h g_m_holds 0) (mN h w) T
    · rw [bi_t hg]; exact ho.mpr hg
    · rw [bi_f hg]; exact hx.resolve_right (fun e => hg (ho.mp e))
  · intro p hp hn x hx ho
    have hs : acP (h g_m_holds 0) (mN h w) T (p + 1) ↔ acP (h g_m_holds 0) (mN h w) T p ∧ sPlace (h g_m_holds 0) (mN h w) 0 p 0 < 0 ∧ 0 < sPlace (h g_m_holds 0) (mN h w) (T - 1) p 0 :=
      ⟨fun z => ⟨fun j hj => z j (Nat.lt_succ_of_lt hj), z p (Nat.lt_succ_self p)⟩, fun z j hj => (Nat.lt_succ_iff_lt_or_eq.mp hj).elim (z.1 j) (fun e => e ▸ z.2)⟩
    refine E_iload_n (pc := 4) 3 dX8_getsAcross_4 rfl rfl ?_
    refine E_iconst (pc := 5) (4) dX8_getsAcross_5 (by decide) ?_
    refine E_icmp_ge (pc := 6) 54 dX8_getsAcross_6 rfl (fun q6 => absurd q6 (nI_ge (b := 4) hp (by decide))) (fun q6 => ?_)
    refine E_iload_n (pc := 9) 2 dX8_getsAcross_9 rfl rfl ?_
    refine E_if_eq (pc := 10) 46 dX8_getsAcross_10 rfl (fun q10 => ?_) (fun q10 => ?_)
    · refine E_iconst (pc := 46) (0) dX8_getsAcross_46 (by decide) ?_
      refine E_istore_n (pc := 47) 2 dX8_getsAcross_47 rfl (Nat.le_of_ble_eq_true rfl) rfl (lz := [_, _, _, _]) rfl ?_
      refine E_iincN (pc := 48) 3 dX8_getsAcross_48 (Nat.le_of_ble_eq_true rfl) rfl rfl (lz := [_, _, _, _]) rfl ?_
      refine E_goto (pc := 51) 4 dX8_getsAcross_51 rfl ?_
      refine hn _ (by decide) ?_
      rw [hs]
      have e01 : ¬ (0 : Int32) = 1 := by decide
      first | exact ⟨fun z => absurd z e01, fun z => absurd (ho.mpr z.1) (by rw [q10]; decide)⟩ | exact ⟨fun z => absurd z e01, fun z => absurd z.2.1 (Int32.not_lt.mpr q21)⟩ | exact ⟨fun z => absurd z e01, fun z => absurd z.2.2 (Int32.not_lt.mpr q39)⟩ | exact ⟨fun _ => ⟨ho.mp (hx.resolve_left q10), Int32.not_le.mp q21, Int32.not_le.mp q39⟩, fun _ => rfl⟩
    · refine E_aload_n (pc := 13) 0 dX8_getsAcross_13 rfl rfl ?_
      refine E_iload_n (pc := 14) 1 dX8_getsAcross_14 rfl rfl ?_
      refine E_iconst (pc := 15) (0) dX8_getsAcross_15 (by decide) ?_
      refine E_iload_n (pc := 16) 3 dX8_getsAcross_16 rfl rfl ?_
      refine E_iconst (pc := 17) (0) dX8_getsAcross_17 (by decide) ?_
      refine E_callV1 (pc := 18) dX8_getsAcross_18 (C_X8_placeOf (t := 0) (ax := 0) hw (by decide) (by omega) (by decide)) rfl kv_RX8_173 rfl rfl rfl ⟨Nat.le_of_ble_eq_true rfl, Nat.le_of_ble_eq_true rfl, Nat.le_of_ble_eq_true rfl, Nat.le_of_ble_eq_true rfl⟩ (Nat.le_of_ble_eq_true rfl) ?_
      refine E_if_ge (pc := 21) 46 dX8_getsAcross_21 rfl (fun q21 => ?_) (fun q21 => ?_)
      · refine E_iconst (pc := 46) (0) dX8_getsAcross_46 (by decide) ?_
        refine E_istore_n (pc := 47) 2 dX8_getsAcross_47 rfl (Nat.le_of_ble_eq_true rfl) rfl (lz := [_, _, _, _]) rfl ?_
        refine E_iincN (pc := 48) 3 dX8_getsAcross_48 (Nat.le_of_ble_eq_true rfl) rfl rfl (lz := [_, _, _, _]) rfl ?_
        refine E_goto (pc := 51) 4 dX8_getsAcross_51 rfl ?_
        refine hn _ (by decide) ?_
        rw [hs]
        have e01 : ¬ (0 : Int32) = 1 := by decide
        first | exact ⟨fun z => absurd z e01, fun z => absurd (ho.mpr z.1) (by rw [q10]; decide)⟩ | exact ⟨fun z => absurd z e01, fun z => absurd z.2.1 (Int32.not_lt.mpr q21)⟩ | exact ⟨fun z => absurd z e01, fun z => absurd z.2.2 (Int32.not_lt.mpr q39)⟩ | exact ⟨fun _ => ⟨ho.mp (hx.resolve_left q10), Int32.not_le.mp q21, Int32.not_le.mp q39⟩, fun _ => rfl⟩
      · refine E_aload_n (pc := 24) 0 dX8_getsAcross_24 rfl rfl ?_
        refine E_iload_n (pc := 25) 1 dX8_getsAcross_25 rfl rfl ?_
        refine E_aload_n (pc := 26) 0 dX8_getsAcross_26 rfl rfl ?_
        refine E_getR0 (pc := 27) dX8_getsAcross_27 fl_RX8_37 rfl rfl ?_
        refine E_iload_n (pc := 30) 1 dX8_getsAcross_30 rfl rfl ?_
        refine E_iald (pc := 31) dX8_getsAcross_31 rfl (vp_in_nI (by omega) (by decide)) ?_
        refine E_iconst (pc := 32) (1) dX8_getsAcross_32 (by decide) ?_
        refine E_isub (pc := 33) dX8_getsAcross_33 ?_
        refine E_top (y := nI (T - 1)) (by rw [ixN_nI (by omega), hT, show (1 : Int32) = nI 1 from rfl, pk_sub (by omega)]) ?_
        refine E_iload_n (pc := 34) 3 dX8_getsAcross_34 rfl rfl ?_
        refine E_iconst (pc := 35) (0) dX8_getsAcross_35 (by decide) ?_
        refine E_callV1 (pc := 36) dX8_getsAcross_36 (C_X8_placeOf (ax := 0) hw (by omega) (by omega) (by decide)) rfl kv_RX8_173 rfl rfl rfl ⟨Nat.le_of_ble_eq_true rfl, Nat.le_of_ble_eq_true rfl, Nat.le_of_ble_eq_true rfl, Nat.le_of_ble_eq_true rfl⟩ (Nat.le_of_ble_eq_true rfl) ?_
        refine E_if_le (pc := 39) 46 dX8_getsAcross_39 rfl (fun q39 => ?_) (fun q39 => ?_)
        · refine E_iconst (pc := 46) (0) dX8_getsAcross_46 (by decide) ?_
          refine E_istore_n (pc := 47) 2 dX8_getsAcross_47 rfl (Nat.le_of_ble_eq_true rfl) rfl (lz := [_, _, _, _]) rfl ?_
          refine E_iincN (pc := 48) 3 dX8_getsAcross_48 (Nat.le_of_ble_eq_true rfl) rfl rfl (lz := [_, _, _, _]) rfl ?_
          refine E_goto (pc := 51) 4 dX8_getsAcross_51 rfl ?_
          refine hn _ (by decide) ?_
          rw [hs]
          have e01 : ¬ (0 : Int32) = 1 := by decide
          first | exact ⟨fun z => absurd z e01, fun z => absurd (ho.mpr z.1) (by rw [q10]; decide)⟩ | exact ⟨fun z => absurd z e01, fun z => absurd z.2.1 (Int32.not_lt.mpr q21)⟩ | exact ⟨fun z => absurd z e01, fun z => absurd z.2.2 (Int32.not_lt.mpr q39)⟩ | exact ⟨fun _ => ⟨ho.mp (hx.resolve_left q10), Int32.not_le.mp q21, Int32.not_le.mp q39⟩, fun _ => rfl⟩
        · refine E_iconst (pc := 42) (1) dX8_getsAcross_42 (by decide) ?_
          refine E_goto (pc := 43) 47 dX8_getsAcross_43 rfl ?_
          refine E_istore_n (pc := 47) 2 dX8_getsAcross_47 rfl (Nat.le_of_ble_eq_true rfl) rfl (lz := [_, _, _, _]) rfl ?_
          refine E_iincN (pc := 48) 3 dX8_getsAcross_48 (Nat.le_of_ble_eq_true rfl) rfl rfl (lz := [_, _, _, _]) rfl ?_
          refine E_goto (pc := 51) 4 dX8_getsAcross_51 rfl ?_
          refine hn _ (by decide) ?_
          rw [hs]
          have e01 : ¬ (0 : Int32) = 1 := by decide
          first | exact ⟨fun z => absurd z e01, fun z => absurd (ho.mpr z.1) (by rw [q10]; decide)⟩ | exact ⟨fun z => absurd z e01, fun z => absurd z.2.1 (Int32.not_lt.mpr q21)⟩ | exact ⟨fun z => absurd z e01, fun z => absurd z.2.2 (Int32.not_lt.mpr q39)⟩ | exact ⟨fun _ => ⟨ho.mp (hx.resolve_left q10), Int32.not_le.mp q21, Int32.not_le.mp q39⟩, fun _ => rfl⟩
theorem mlI_a {V N : Nat → Int32} {t p : Nat} {b l : Int32} (hc : sNear V (sPlace V N t p 0)) (hq : (mlI V N t b l p).1 = -4) : mlI V N t b l (p + 1) = (4 * nI t + nI p, sPlace V N t p 1) := if_pos ⟨hc, Or.inl hq⟩
theorem mlI_b {V N : Nat → Int32} {t p : Nat} {b l : Int32} (hc : sNear V (sPlace V N t p 0)) (hq : ¬ (mlI V N t b l p).2 ≤ sPlace V N t p 1) : mlI V N t b l (p + 1) = (4 * nI t + nI p, sPlace V N t p 1) := if_pos ⟨hc, Or.inr (Int32.not_le.mp hq)⟩
theorem mlI_c {V N : Nat → Int32} {t p : Nat} {b l : Int32} (hc : ¬ sNear V (sPlace V N t p 0)) : mlI V N t b l (p + 1) = mlI V N t b l p := if_neg (fun z => hc z.1)
theorem mlI_d {V N : Nat → Int32} {t p : Nat} {b l : Int32} (h1 : ¬ (mlI V N t b l p).1 = -4) (hq : (mlI V N t b l p).2 ≤ sPlace V N t p 1) : mlI V N t b l (p + 1) = mlI V N t b l p := if_neg (fun z => z.2.elim h1 (fun y => Int32.not_lt.mpr hq y))
set_option maxHeartbeats 1600000 in
theorem C_X8_lowestOf {l : Launch} {G : GE} {h : Hp} {w T : Nat} (hV : RV (h g_m_holds 0)) (hN : RN (mN h w)) (hw : w ≤ 5) (hT : h g_m_tenths 0 w = nI T) (hT8 : T ≤ 8) : CT l G mX8_lowestOf [vR g_model 0, vI (nI w)] h (fun r h' => r = some ((mlO (h g_m_holds 0) (mN h w) T).1) ∧ h' = h) := by
  refine CT.of (lv := [_, _, _, _, _, _, _]) (by decide +kernel) (Nat.le_of_ble_eq_true rfl) rfl ?_
  refine E_bipush (pc := 0) (-4) dX8_lowestOf_0 (by decide) ?_
  refine E_istore_n (pc := 2) 2 dX8_lowestOf_2 rfl (Nat.le_of_ble_eq_true rfl) rfl (lz := [_, _, _, _, _, _, _]) rfl ?_
  refine E_iconst (pc := 3) (0) dX8_lowestOf_3 (by decide) ?_
  refine E_istore_n (pc := 4) 3 dX8_lowestOf_4 rfl (Nat.le_of_ble_eq_true rfl) rfl (lz := [_, _, _, _, _, _, _]) rfl ?_
  refine E_iconst (pc := 5) (0) dX8_lowestOf_5 (by decide) ?_
  refine E_istore (pc := 6) 4 dX8_lowestOf_6 (Nat.le_of_ble_eq_true rfl) rfl (lz := [_, _, _, _, _, _, _]) rfl ?_
  refine down (P := fun t => Ev l G mX8_lowestOf _ 8 [some (vR g_model 0), some (vI (nI w)), some (vI (mlO (h g_m_holds 0) (mN h w) t).1), some (vI (mlO (h g_m_holds 0) (mN h w) t).2), some (vI (nI t)), none, none] [] h) T ?_ ?_ 0 (Nat.zero_le _)
  · refine E_iload (pc := 8) 4 dX8_lowestOf_8 rfl ?_
    refine E_aload_n (pc := 10) 0 dX8_lowestOf_10 rfl rfl ?_
    refine E_getR0 (pc := 11) dX8_lowestOf_11 fl_RX8_37 rfl rfl ?_
    refine E_iload_n (pc := 14) 1 dX8_lowestOf_14 rfl rfl ?_
    refine E_iald (pc := 15) dX8_lowestOf_15 rfl (vp_in_nI (by omega) (by decide)) ?_
    refine E_top (y := nI T) (by rw [ixN_nI (by omega)]; exact hT) ?_
    refine E_icmp_ge (pc := 16) 87 dX8_lowestOf_16 rfl (fun q16 => ?_) (fun q16 => absurd (Int32.le_refl _) q16)
    refine E_iload_n (pc := 87) 2 dX8_lowestOf_87 rfl rfl ?_
    refine E_iret (pc := 88) dX8_lowestOf_88 rfl ?_
    first | exact ⟨rfl, rfl⟩ | exact ⟨by grind [bi], rfl⟩
  · intro t ht hn
    refine E_iload (pc := 8) 4 dX8_lowestOf_8 rfl ?_
    refine E_aload_n (pc := 10) 0 dX8_lowestOf_10 rfl rfl ?_
    refine E_getR0 (pc := 11) dX8_lowestOf_11 fl_RX8_37 rfl rfl ?_
    refine E_iload_n (pc := 14) 1 dX8_lowestOf_14 rfl rfl ?_
    refine E_iald (pc := 15) dX8_lowestOf_15 rfl (vp_in_nI (by omega) (by decide)) ?_
    refine E_top (y := nI T) (by rw [ixN_nI (by omega)]; exact hT) ?_
    refine E_icmp_ge (pc := 16) 87 dX8_lowestOf_16 rfl (fun q16 => absurd q16 (nI_ge ht (by omega))) (fun q16 => ?_)
    refine E_iconst (pc := 19) (0) dX8_lowestOf_19 (by decide) ?_
    refine E_istore (pc := 20) 5 dX8_lowestOf_20 (Nat.le_of_ble_eq_true rfl) rfl (lz := [_, _, _, _, _, _, _]) rfl ?_
    refine down (P := fun p => Ev l G mX8_lowestOf _ 22 [some (vR g_model 0), some (vI (nI w)), some (vI (mlI (h g_m_holds 0) (mN h w) t (mlO (h g_m_holds 0) (mN h w) t).1 (mlO (h g_m_holds 0) (mN h w) t).2 p).1), some (vI (mlI (h g_m_holds 0) (mN h w) t (mlO (h g_m_holds 0) (mN h w) t).1 (mlO (h g_m_holds 0) (mN h w) t).2 p).2), some (vI (nI t)), some (vI (nI p)), none] [] h) 4 ?_ ?_ 0 (Nat.zero_le _)
    · refine E_iload (pc := 22) 5 dX8_lowestOf_22 rfl ?_
      refine E_iconst (pc := 24) (4) dX8_lowestOf_24 (by decide) ?_
      refine E_icmp_ge (pc := 25) 81 dX8_lowestOf_25 rfl (fun q25 => ?_) (fun q25 => absurd (show (4 : Int32) ≤ 4 by decide) q25)
      refine E_iincN (pc := 81) 4 dX8_lowestOf_81 (Nat.le_of_ble_eq_true rfl) rfl rfl (lz := [_, _, _, _, _, _, _]) rfl ?_
      refine E_goto (pc := 84) 8 dX8_lowestOf_84 rfl ?_
      exact E_drop 5 hn
    · intro p hp hm
      refine E_iload (pc := 22) 5 dX8_lowestOf_22 rfl ?_
      refine E_iconst (pc := 24) (4) dX8_lowestOf_24 (by decide) ?_
      refine E_icmp_ge (pc := 25) 81 dX8_lowestOf_25 rfl (fun q25 => absurd q25 (nI_ge (b := 4) hp (by decide))) (fun q25 => ?_)
      refine E_aload_n (pc := 28) 0 dX8_lowestOf_28 rfl rfl ?_
      refine E_iload_n (pc := 29) 1 dX8_lowestOf_29 rfl rfl ?_
      refine E_iload (pc := 30) 4 dX8_lowestOf_30 rfl ?_
      refine E_iload (pc := 32) 5 dX8_lowestOf_32 rfl ?_
      refine E_callV1 (pc := 34) dX8_lowestOf_34 (C_X8_isNear hV hN hw (by omega) (by omega)) rfl kv_RX8_177 rfl rfl rfl ⟨Nat.le_of_ble_eq_true rfl, Nat.le_of_ble_eq_true rfl, Nat.le_of_ble_eq_true rfl, Nat.le_of_ble_eq_true rfl⟩ (Nat.le_of_ble_eq_true rfl) ?_
      refine E_if_eq (pc := 37) 75 dX8_lowestOf_37 rfl (fun q37 => ?_) (fun q37 => ?_)
      · have hc := bi_0.mp q37
        refine E_drop 6 ?_
        refine E_iincN (pc := 75) 5 dX8_lowestOf_75 (Nat.le_of_ble_eq_true rfl) rfl rfl (lz := [_, _, _, _, _, _, _]) rfl ?_
        refine E_goto (pc := 78) 22 dX8_lowestOf_78 rfl ?_
        first | (rw [mlI_c hc] at hm; exact hm) | (rw [mlI_a hc q55] at hm; exact hm) | (rw [mlI_d q55 q61] at hm; exact hm) | (rw [mlI_b hc q61] at hm; exact hm)
      · have hc : sNear (h g_m_holds 0) (sPlace (h g_m_holds 0) (mN h w) t p 0) := Decidable.of_not_not (fun z => q37 (bi_0.mpr z))
        refine E_aload_n (pc := 40) 0 dX8_lowestOf_40 rfl rfl ?_
        refine E_iload_n (pc := 41) 1 dX8_lowestOf_41 rfl rfl ?_
        refine E_iload (pc := 42) 4 dX8_lowestOf_42 rfl ?_
        refine E_iload (pc := 44) 5 dX8_lowestOf_44 rfl ?_
        refine E_iconst (pc := 46) (1) dX8_lowestOf_46 (by decide) ?_
        refine E_callV1 (pc := 47) dX8_lowestOf_47 (C_X8_placeOf (ax := 1) hw (by omega) (by omega) (by decide)) rfl kv_RX8_173 rfl rfl rfl ⟨Nat.le_of_ble_eq_true rfl, Nat.le_of_ble_eq_true rfl, Nat.le_of_ble_eq_true rfl, Nat.le_of_ble_eq_true rfl⟩ (Nat.le_of_ble_eq_true rfl) ?_
        refine E_istore (pc := 50) 6 dX8_lowestOf_50 (Nat.le_of_ble_eq_true rfl) rfl (lz := [_, _, _, _, _, _, _]) rfl ?_
        refine E_iload_n (pc := 52) 2 dX8_lowestOf_52 rfl rfl ?_
        refine E_bipush (pc := 53) (-4) dX8_lowestOf_53 (by decide) ?_
        refine E_icmp_eq (pc := 55) 64 dX8_lowestOf_55 rfl (fun q55 => ?_) (fun q55 => ?_)
        · refine E_iconst (pc := 64) (4) dX8_lowestOf_64 (by decide) ?_
          refine E_iload (pc := 65) 4 dX8_lowestOf_65 rfl ?_
          refine E_imul (pc := 67) dX8_lowestOf_67 ?_
          refine E_iload (pc := 68) 5 dX8_lowestOf_68 rfl ?_
          refine E_iadd (pc := 70) dX8_lowestOf_70 ?_
          refine E_istore_n (pc := 71) 2 dX8_lowestOf_71 rfl (Nat.le_of_ble_eq_true rfl) rfl (lz := [_, _, _, _, _, _, _]) rfl ?_
          refine E_iload (pc := 72) 6 dX8_lowestOf_72 rfl ?_
          refine E_istore_n (pc := 74) 3 dX8_lowestOf_74 rfl (Nat.le_of_ble_eq_true rfl) rfl (lz := [_, _, _, _, _, _, _]) rfl ?_
          refine E_drop 6 ?_
          refine E_iincN (pc := 75) 5 dX8_lowestOf_75 (Nat.le_of_ble_eq_true rfl) rfl rfl (lz := [_, _, _, _, _, _, _]) rfl ?_
          refine E_goto (pc := 78) 22 dX8_lowestOf_78 rfl ?_
          first | (rw [mlI_c hc] at hm; exact hm) | (rw [mlI_a hc q55] at hm; exact hm) | (rw [mlI_d q55 q61] at hm; exact hm) | (rw [mlI_b hc q61] at hm; exact hm)
        · refine E_iload (pc := 58) 6 dX8_lowestOf_58 rfl ?_
          refine E_iload_n (pc := 60) 3 dX8_lowestOf_60 rfl rfl ?_
          refine E_icmp_ge (pc := 61) 75 dX8_lowestOf_61 rfl (fun q61 => ?_) (fun q61 => ?_)
          · refine E_drop 6 ?_
            refine E_iincN (pc := 75) 5 dX8_lowestOf_75 (Nat.le_of_ble_eq_true rfl) rfl rfl (lz := [_, _, _, _, _, _, _]) rfl ?_
            refine E_goto (pc := 78) 22 dX8_lowestOf_78 rfl ?_
            first | (rw [mlI_c hc] at hm; exact hm) | (rw [mlI_a hc q55] at hm; exact hm) | (rw [mlI_d q55 q61] at hm; exact hm) | (rw [mlI_b hc q61] at hm; exact hm)
          · refine E_iconst (pc := 64) (4) dX8_lowestOf_64 (by decide) ?_
            refine E_iload (pc := 65) 4 dX8_lowestOf_65 rfl ?_
            refine E_imul (pc := 67) dX8_lowestOf_67 ?_
            refine E_iload (pc := 68) 5 dX8_lowestOf_68 rfl ?_
            refine E_iadd (pc := 70) dX8_lowestOf_70 ?_
            refine E_istore_n (pc := 71) 2 dX8_lowestOf_71 rfl (Nat.le_of_ble_eq_true rfl) rfl (lz := [_, _, _, _, _, _, _]) rfl ?_
            refine E_iload (pc := 72) 6 dX8_lowestOf_72 rfl ?_
            refine E_istore_n (pc := 74) 3 dX8_lowestOf_74 rfl (Nat.le_of_ble_eq_true rfl) rfl (lz := [_, _, _, _, _, _, _]) rfl ?_
            refine E_drop 6 ?_
            refine E_iincN (pc := 75) 5 dX8_lowestOf_75 (Nat.le_of_ble_eq_true rfl) rfl rfl (lz := [_, _, _, _, _, _, _]) rfl ?_
            refine E_goto (pc := 78) 22 dX8_lowestOf_78 rfl ?_
            first | (rw [mlI_c hc] at hm; exact hm) | (rw [mlI_a hc q55] at hm; exact hm) | (rw [mlI_d q55 q61] at hm; exact hm) | (rw [mlI_b hc q61] at hm; exact hm)
