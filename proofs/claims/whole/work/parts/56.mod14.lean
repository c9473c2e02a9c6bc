/-! the model: jumpers -/
set_option maxHeartbeats 1600000 in
theorem C_X8_haveWay {l : Launch} {G : GE} {h : Hp} {C : Nat} {w : Int32} (hC : h g_model 0 22 = nI C) (hC12 : C ≤ 12) : CT l G mX8_haveWay [vR g_model 0, vI w] h (fun r h' => r = some (nI (cntW (h g_m_jumpers 0) w C)) ∧ h' = h) := by
  refine CT.of (lv := [_, _, _, _]) (by decide +kernel) (Nat.le_of_ble_eq_true rfl) rfl ?_
  refine E_iconst (pc := 0) (0) dX8_haveWay_0 (by decide) ?_
  refine E_istore_n (pc := 1) 2 dX8_haveWay_1 rfl (Nat.le_of_ble_eq_true rfl) rfl (lz := [_, _, _, _]) rfl ?_
  refine E_iconst (pc := 2) (0) dX8_haveWay_2 (by decide) ?_
  refine E_istore_n (pc := 3) 3 dX8_haveWay_3 rfl (Nat.le_of_ble_eq_true rfl) rfl (lz := [_, _, _, _]) rfl ?_
  refine down (P := fun i => Ev l G mX8_haveWay _ 4 [some (vR g_model 0), some (vI w), some (vI (nI (cntW (h g_m_jumpers 0) w i))), some (vI (nI i))] [] h) C ?_ ?_ 0 (Nat.zero_le _)
  · refine E_iload_n (pc := 4) 3 dX8_haveWay_4 rfl rfl ?_
    refine E_aload_n (pc := 5) 0 dX8_haveWay_5 rfl rfl ?_
    refine E_getI (pc := 6) dX8_haveWay_6 fl_RX8_242 rfl rfl ?_
    refine E_top (y := nI C) hC ?_
    refine E_icmp_ge (pc := 9) 36 dX8_haveWay_9 rfl (fun q9 => ?_) (fun q9 => absurd (Int32.le_refl _) q9)
    refine E_iload_n (pc := 36) 2 dX8_haveWay_36 rfl rfl ?_
    refine E_iret (pc := 37) dX8_haveWay_37 rfl ?_
    exact ⟨rfl, rfl⟩
  · intro i hi hn
    refine E_iload_n (pc := 4) 3 dX8_haveWay_4 rfl rfl ?_
    refine E_aload_n (pc := 5) 0 dX8_haveWay_5 rfl rfl ?_
    refine E_getI (pc := 6) dX8_haveWay_6 fl_RX8_242 rfl rfl ?_
    refine E_top (y := nI C) hC ?_
    refine E_icmp_ge (pc := 9) 36 dX8_haveWay_9 rfl (fun q9 => absurd q9 (nI_ge hi (by omega))) (fun q9 => ?_)
    refine E_iload_n (pc := 12) 2 dX8_haveWay_12 rfl rfl ?_
    refine E_aload_n (pc := 13) 0 dX8_haveWay_13 rfl rfl ?_
    refine E_getR0 (pc := 14) dX8_haveWay_14 fl_RX8_46 rfl rfl ?_
    refine E_iload_n (pc := 17) 3 dX8_haveWay_17 rfl rfl ?_
    refine E_iald (pc := 18) dX8_haveWay_18 rfl (vp_in_nI (by omega) (by decide)) ?_
    refine E_top (y := h g_m_jumpers 0 i) (by rw [ixN_nI (by omega)]) ?_
    refine E_iload_n (pc := 19) 1 dX8_haveWay_19 rfl rfl ?_
    refine E_icmp_ne (pc := 20) 27 dX8_haveWay_20 rfl (fun q20 => ?_) (fun q20 => ?_)
    · have hl : cntW (h g_m_jumpers 0) w (i + 1) = cntW (h g_m_jumpers 0) w i := if_neg q20
      refine E_iconst (pc := 27) (0) dX8_haveWay_27 (by decide) ?_
      refine E_iadd (pc := 28) dX8_haveWay_28 ?_
      refine E_top (y := nI (cntW (h g_m_jumpers 0) w (i + 1))) (by rw [hl]; first | (rw [nI_succ]; done) | (rw [Int32.add_zero]; done)) ?_
      refine E_istore_n (pc := 29) 2 dX8_haveWay_29 rfl (Nat.le_of_ble_eq_true rfl) rfl (lz := [_, _, _, _]) rfl ?_
      refine E_iincN (pc := 30) 3 dX8_haveWay_30 (Nat.le_of_ble_eq_true rfl) rfl rfl (lz := [_, _, _, _]) rfl ?_
      refine E_goto (pc := 33) 4 dX8_haveWay_33 rfl ?_
      exact hn
    · have hl : cntW (h g_m_jumpers 0) w (i + 1) = cntW (h g_m_jumpers 0) w i + 1 := if_pos q20
      refine E_iconst (pc := 23) (1) dX8_haveWay_23 (by decide) ?_
      refine E_goto (pc := 24) 28 dX8_haveWay_24 rfl ?_
      refine E_iadd (pc := 28) dX8_haveWay_28 ?_
      refine E_top (y := nI (cntW (h g_m_jumpers 0) w (i + 1))) (by rw [hl]; first | (rw [nI_succ]; done) | (rw [Int32.add_zero]; done)) ?_
      refine E_istore_n (pc := 29) 2 dX8_haveWay_29 rfl (Nat.le_of_ble_eq_true rfl) rfl (lz := [_, _, _, _]) rfl ?_
      refine E_iincN (pc := 30) 3 dX8_haveWay_30 (Nat.le_of_ble_eq_true rfl) rfl rfl (lz := [_, _, _, _]) rfl ?_
      refine E_goto (pc := 33) 4 dX8_haveWay_33 rfl ?_
      exact hn
theorem mv_same {h h' : Hp} (e1 : h' g_m_tenths = h g_m_tenths) (e2 : h' g_m_holds = h g_m_holds) (e3 : h' g_m_numbers = h g_m_numbers) (e4 : h' g_m_feet = h g_m_feet) : mv h' = mv h := by
  funext k
  unfold mv mN
  rw [e1, e2, e3, e4]
theorem MK_same {h h' : Hp} (hI : MK h) (e1 : h' g_m_tenths = h g_m_tenths) (e2 : h' g_m_holds = h g_m_holds) (e3 : h' g_m_numbers = h g_m_numbers) : MK h' := by
  unfold MK mN
  rw [e1, e2, e3]
  exact hI
set_option maxHeartbeats 1600000 in
theorem C_X8_layWorths {l : Launch} {G : GE} {h : Hp} (hI : MK h) : CT l G mX8_layWorths [vR g_model 0] h (fun r h' => r = none ∧ h' = fed (mv h) h g_m_worths 0 6) := by
  refine CT.of (lv := [_, _]) (by decide +kernel) (Nat.le_of_ble_eq_true rfl) rfl ?_
  refine E_iconst (pc := 0) (0) dX8_layWorths_0 (by decide) ?_
  refine E_istore_n (pc := 1) 1 dX8_layWorths_1 rfl (Nat.le_of_ble_eq_true rfl) rfl (lz := [_, _]) rfl ?_
  refine E_heq (fed_0 (mv h) h g_m_worths 0).symm ?_
  refine down (P := fun i => Ev l G mX8_layWorths _ 2 [some (vR g_model 0), some (vI (nI i))] [] (fed (mv h) h g_m_worths 0 i)) 6 ?_ ?_ 0 (Nat.zero_le _)
  · refine E_iload_n (pc := 2) 1 dX8_layWorths_2 rfl rfl ?_
    refine E_bipush (pc := 3) (6) dX8_layWorths_3 (by decide) ?_
    refine E_icmp_ge (pc := 5) 25 dX8_layWorths_5 rfl (fun q5 => ?_) (fun q5 => absurd (show (6 : Int32) ≤ 6 by decide) q5)
    refine E_vret (pc := 25) dX8_layWorths_25 rfl ?_
    first | exact ⟨rfl, rfl⟩ | exact ⟨by grind [bi], rfl⟩
  · intro i hi hn
    have e1 : ∀ a, a ≠ g_m_worths → fed (mv h) h g_m_worths 0 i a = h a := fun a ha => by funext b; exact fed_t _ _ _ _ _ (fun z => ha (congrArg Prod.fst z))
    have e2 : mv (fed (mv h) h g_m_worths 0 i) i = mv h i := by rw [mv_same (e1 _ (by decide)) (e1 _ (by decide)) (e1 _ (by decide)) (e1 _ (by decide))]
    refine E_iload_n (pc := 2) 1 dX8_layWorths_2 rfl rfl ?_
    refine E_bipush (pc := 3) (6) dX8_layWorths_3 (by decide) ?_
    refine E_icmp_ge (pc := 5) 25 dX8_layWorths_5 rfl (fun q5 => absurd q5 (nI_ge (b := 6) hi (by decide))) (fun q5 => ?_)
    refine E_aload_n (pc := 8) 0 dX8_layWorths_8 rfl rfl ?_
    refine E_getR0 (pc := 9) dX8_layWorths_9 fl_RX8_55 rfl rfl ?_
    refine E_iload_n (pc := 12) 1 dX8_layWorths_12 rfl rfl ?_
    refine E_aload_n (pc := 13) 0 dX8_layWorths_13 rfl rfl ?_
    refine E_iload_n (pc := 14) 1 dX8_layWorths_14 rfl rfl ?_
    refine E_callV1 (pc := 15) dX8_layWorths_15 (C_X8_worthOrNone (MK_same hI (e1 _ (by decide)) (e1 _ (by decide)) (e1 _ (by decide))) (by omega)) rfl kv_RX8_230 rfl rfl rfl ⟨Nat.le_of_ble_eq_true rfl, Nat.le_of_ble_eq_true rfl, Nat.le_of_ble_eq_true rfl, Nat.le_of_ble_eq_true rfl⟩ (Nat.le_of_ble_eq_true rfl) ?_
    refine E_top e2 ?_
    refine E_iast (pc := 18) dX8_layWorths_18 rfl (vp_in_nI (by omega) (by decide)) ?_
    refine E_iincN (pc := 19) 1 dX8_layWorths_19 (Nat.le_of_ble_eq_true rfl) rfl rfl (lz := [_, _]) rfl ?_
    refine E_goto (pc := 22) 2 dX8_layWorths_22 rfl ?_
    exact E_heq (by rw [ixN_nI (by omega)]; have := fed_s (mv h) h g_m_worths 0 i; rw [Nat.zero_add] at this; exact this) hn
set_option maxHeartbeats 1600000 in
theorem C_X8_keepJumpers {l : Launch} {G : GE} {h : Hp}  : CT l G mX8_keepJumpers [vR g_model 0] h (fun r h' => r = none ∧ h' = fed (h g_m_jumpers 0) h g_m_before 0 12) := by
  refine CT.of (lv := [_, _]) (by decide +kernel) (Nat.le_of_ble_eq_true rfl) rfl ?_
  refine E_iconst (pc := 0) (0) dX8_keepJumpers_0 (by decide) ?_
  refine E_istore_n (pc := 1) 1 dX8_keepJumpers_1 rfl (Nat.le_of_ble_eq_true rfl) rfl (lz := [_, _]) rfl ?_
  refine E_heq (fed_0 (h g_m_jumpers 0) h g_m_before 0).symm ?_
  refine down (P := fun i => Ev l G mX8_keepJumpers _ 2 [some (vR g_model 0), some (vI (nI i))] [] (fed (h g_m_jumpers 0) h g_m_before 0 i)) 12 ?_ ?_ 0 (Nat.zero_le _)
  · refine E_iload_n (pc := 2) 1 dX8_keepJumpers_2 rfl rfl ?_
    refine E_bipush (pc := 3) (12) dX8_keepJumpers_3 (by decide) ?_
    refine E_icmp_ge (pc := 5) 26 dX8_keepJumpers_5 rfl (fun q5 => ?_) (fun q5 => absurd (show (12 : Int32) ≤ 12 by decide) q5)
    refine E_vret (pc := 26) dX8_keepJumpers_26 rfl ?_
    first | exact ⟨rfl, rfl⟩ | exact ⟨by grind [bi], rfl⟩
  · intro i hi hn
    refine E_iload_n (pc := 2) 1 dX8_keepJumpers_2 rfl rfl ?_
    refine E_bipush (pc := 3) (12) dX8_keepJumpers_3 (by decide) ?_
    refine E_icmp_ge (pc := 5) 26 dX8_keepJumpers_5 rfl (fun q5 => absurd q5 (nI_ge (b := 12) hi (by decide))) (fun q5 => ?_)
    refine E_aload_n (pc := 8) 0 dX8_keepJumpers_8 rfl rfl ?_
    refine E_getR0 (pc := 9) dX8_keepJumpers_9 fl_RX8_52 rfl rfl ?_
    refine E_iload_n (pc := 12) 1 dX8_keepJumpers_12 rfl rfl ?_
    refine E_aload_n (pc := 13) 0 dX8_keepJumpers_13 rfl rfl ?_
    refine E_getR0 (pc := 14) dX8_keepJumpers_14 fl_RX8_46 rfl rfl ?_
    refine E_iload_n (pc := 17) 1 dX8_keepJumpers_17 rfl rfl ?_
    refine E_iald (pc := 18) dX8_keepJumpers_18 rfl (vp_in_nI (by omega) (by decide)) ?_
    refine E_top (y := h g_m_jumpers 0 i) (by rw [ixN_nI (by omega), fed_t _ _ _ _ _ (by decide)]) ?_
    refine E_iast (pc := 19) dX8_keepJumpers_19 rfl (vp_in_nI (by omega) (by decide)) ?_
    refine E_iincN (pc := 20) 1 dX8_keepJumpers_20 (Nat.le_of_ble_eq_true rfl) rfl rfl (lz := [_, _]) rfl ?_
    refine E_goto (pc := 23) 2 dX8_keepJumpers_23 rfl ?_
    exact E_heq (by rw [ixN_nI (by omega)]; have := fed_s (h g_m_jumpers 0) h g_m_before 0 i; rw [Nat.zero_add] at this; exact this) hn
set_option maxHeartbeats 1600000 in
theorem C_X8_jumpersBack {l : Launch} {G : GE} {h : Hp}  : CT l G mX8_jumpersBack [vR g_model 0] h (fun r h' => r = none ∧ h' = fed (h g_m_before 0) h g_m_jumpers 0 12) := by
  refine CT.of (lv := [_, _]) (by decide +kernel) (Nat.le_of_ble_eq_true rfl) rfl ?_
  refine E_iconst (pc := 0) (0) dX8_jumpersBack_0 (by decide) ?_
  refine E_istore_n (pc := 1) 1 dX8_jumpersBack_1 rfl (Nat.le_of_ble_eq_true rfl) rfl (lz := [_, _]) rfl ?_
  refine E_heq (fed_0 (h g_m_before 0) h g_m_jumpers 0).symm ?_
  refine down (P := fun i => Ev l G mX8_jumpersBack _ 2 [some (vR g_model 0), some (vI (nI i))] [] (fed (h g_m_before 0) h g_m_jumpers 0 i)) 12 ?_ ?_ 0 (Nat.zero_le _)
  · refine E_iload_n (pc := 2) 1 dX8_jumpersBack_2 rfl rfl ?_
    refine E_bipush (pc := 3) (12) dX8_jumpersBack_3 (by decide) ?_
    refine E_icmp_ge (pc := 5) 26 dX8_jumpersBack_5 rfl (fun q5 => ?_) (fun q5 => absurd (show (12 : Int32) ≤ 12 by decide) q5)
    refine E_vret (pc := 26) dX8_jumpersBack_26 rfl ?_
    first | exact ⟨rfl, rfl⟩ | exact ⟨by grind [bi], rfl⟩
  · intro i hi hn
    refine E_iload_n (pc := 2) 1 dX8_jumpersBack_2 rfl rfl ?_
    refine E_bipush (pc := 3) (12) dX8_jumpersBack_3 (by decide) ?_
    refine E_icmp_ge (pc := 5) 26 dX8_jumpersBack_5 rfl (fun q5 => absurd q5 (nI_ge (b := 12) hi (by decide))) (fun q5 => ?_)
    refine E_aload_n (pc := 8) 0 dX8_jumpersBack_8 rfl rfl ?_
    refine E_getR0 (pc := 9) dX8_jumpersBack_9 fl_RX8_46 rfl rfl ?_
    refine E_iload_n (pc := 12) 1 dX8_jumpersBack_12 rfl rfl ?_
    refine E_aload_n (pc := 13) 0 dX8_jumpersBack_13 rfl rfl ?_
    refine E_getR0 (pc := 14) dX8_jumpersBack_14 fl_RX8_52 rfl rfl ?_
    refine E_iload_n (pc := 17) 1 dX8_jumpersBack_17 rfl rfl ?_
    refine E_iald (pc := 18) dX8_jumpersBack_18 rfl (vp_in_nI (by omega) (by decide)) ?_
    refine E_top (y := h g_m_before 0 i) (by rw [ixN_nI (by omega), fed_t _ _ _ _ _ (by decide)]) ?_
    refine E_iast (pc := 19) dX8_jumpersBack_19 rfl (vp_in_nI (by omega) (by decide)) ?_
    refine E_iincN (pc := 20) 1 dX8_jumpersBack_20 (Nat.le_of_ble_eq_true rfl) rfl rfl (lz := [_, _]) rfl ?_
    refine E_goto (pc := 23) 2 dX8_jumpersBack_23 rfl ?_
    exact E_heq (by rw [ixN_nI (by omega)]; have := fed_s (h g_m_before 0) h g_m_jumpers 0 i; rw [Nat.zero_add] at this; exact this) hn
/-- the ring: how many jumpers, how far they see, habit -/
def MG (h : Hp) (C S : Nat) : Prop := h g_model 0 22 = nI C ∧ C ≤ 12 ∧ h g_m_holds 0 17 = nI S ∧ S ≤ 5 ∧ 0 ≤ h g_m_holds 0 16 ∧ h g_m_holds 0 16 ≤ 20
def wR (f : Nat → Int32) : Prop := ∀ k, k < 6 → -1 ≤ f k ∧ f k ≤ 999
set_option maxHeartbeats 1600000 in
theorem C_X8_taken {l : Launch} {G : GE} {h : Hp} {j C S : Nat} (hG : MG h C S) (hr : rgS (h g_m_jumpers 0) C) (hw : wR (h g_m_worths 0)) (hj : j < C) : CT l G mX8_taken [vR g_model 0, vI (nI j)] h (fun r h' => r = some (yrF (h g_m_worths 0) C S (h g_m_holds 0 16) (h g_m_jumpers 0) j) ∧ h' = h) := by
  refine CT.of (lv := [_, _, _, _, _, _, _, _]) (by decide +kernel) (Nat.le_of_ble_eq_true rfl) rfl ?_
  obtain ⟨hC, hC12, hS, hS5, hh⟩ := hG
  obtain ⟨o, ho, eo⟩ := hr j hj
  have hf : h g_m_worths 0 o ≤ h g_m_worths 0 o + h g_m_holds 0 16 := hab_le (hw o ho) hh
  have hc0 : ¬ nI C = 0 := nI_ne0 (by omega) (by omega)
  refine E_aload_n (pc := 0) 0 dX8_taken_0 rfl rfl ?_
  refine E_getR0 (pc := 1) dX8_taken_1 fl_RX8_46 rfl rfl ?_
  refine E_iload_n (pc := 4) 1 dX8_taken_4 rfl rfl ?_
  refine E_iald (pc := 5) dX8_taken_5 rfl (vp_in_nI (by omega) (by decide)) ?_
  refine E_top (y := nI o) (by rw [ixN_nI (by omega)]; exact eo) ?_
  refine E_istore_n (pc := 6) 2 dX8_taken_6 rfl (Nat.le_of_ble_eq_true rfl) rfl (lz := [_, _, _, _, _, _, _, _]) rfl ?_
  refine E_iload_n (pc := 7) 2 dX8_taken_7 rfl rfl ?_
  refine E_istore_n (pc := 8) 3 dX8_taken_8 rfl (Nat.le_of_ble_eq_true rfl) rfl (lz := [_, _, _, _, _, _, _, _]) rfl ?_
  refine E_aload_n (pc := 9) 0 dX8_taken_9 rfl rfl ?_
  refine E_getR0 (pc := 10) dX8_taken_10 fl_RX8_55 rfl rfl ?_
  refine E_iload_n (pc := 13) 2 dX8_taken_13 rfl rfl ?_
  refine E_iald (pc := 14) dX8_taken_14 rfl (vp_in_nI (by omega) (by decide)) ?_
  refine E_aload_n (pc := 15) 0 dX8_taken_15 rfl rfl ?_
  refine E_getR0 (pc := 16) dX8_taken_16 fl_RX8_28 rfl rfl ?_
  refine E_bipush (pc := 19) (16) dX8_taken_19 (by decide) ?_
  refine E_iald (pc := 21) dX8_taken_21 rfl (by unfold vp_in; decide) ?_
  refine E_iadd (pc := 22) dX8_taken_22 ?_
  refine E_top (y := h g_m_worths 0 o + h g_m_holds 0 16) (by rw [ixN_nI (by omega)]; rfl) ?_
  refine E_istore (pc := 23) 4 dX8_taken_23 (Nat.le_of_ble_eq_true rfl) rfl (lz := [_, _, _, _, _, _, _, _]) rfl ?_
  refine E_aload_n (pc := 25) 0 dX8_taken_25 rfl rfl ?_
  refine E_getR0 (pc := 26) dX8_taken_26 fl_RX8_28 rfl rfl ?_
  refine E_bipush (pc := 29) (17) dX8_taken_29 (by decide) ?_
  refine E_iald (pc := 31) dX8_taken_31 rfl (by unfold vp_in; decide) ?_
  refine E_top (y := nI S) hS ?_
  refine E_ineg (pc := 32) dX8_taken_32 ?_
  refine E_istore (pc := 33) 5 dX8_taken_33 (Nat.le_of_ble_eq_true rfl) rfl (lz := [_, _, _, _, _, _, _, _]) rfl ?_
  refine E_eq (lv' := [some (vR g_model 0), some (vI (nI j)), some (vI (nI o)), some (vI (nI o)), some (vI (h g_m_worths 0 o + h g_m_holds 0 16)), some (vI (-(nI S) + nI 0)), none, none]) (by rw [nI_0, Int32.add_zero]) rfl rfl ?_
  refine down (P := fun i => ∀ b m, b < 6 → Bs (h g_m_worths 0) o (h g_m_worths 0 o + h g_m_holds 0 16) (seenA (h g_m_jumpers 0) C j S i) b m → Ev l G mX8_taken _ 35 [some (vR g_model 0), some (vI (nI j)), some (vI (nI o)), some (vI (nI b)), some (vI m), some (vI (-(nI S) + nI i)), none, none] [] h) (2 * S + 1) ?_ ?_ 0 (Nat.zero_le _) o _ ho (Or.inl ⟨rfl, rfl, fun w hw => hw.2.elim (fun i z => absurd z.1 (Nat.not_lt_zero i))⟩)
  · intro b m hb hB
    refine E_iload (pc := 35) 5 dX8_taken_35 rfl ?_
    refine E_aload_n (pc := 37) 0 dX8_taken_37 rfl rfl ?_
    refine E_getR0 (pc := 38) dX8_taken_38 fl_RX8_28 rfl rfl ?_
    refine E_bipush (pc := 41) (17) dX8_taken_41 (by decide) ?_
    refine E_iald (pc := 43) dX8_taken_43 rfl (by unfold vp_in; decide) ?_
    refine E_top (y := nI S) hS ?_
    refine E_icmp_gt (pc := 44) 126 dX8_taken_44 rfl (fun q44 => ?_) (fun q44 => absurd (far_yes S (by omega)) q44)
    refine E_iload_n (pc := 126) 3 dX8_taken_126 rfl rfl ?_
    refine E_iret (pc := 127) dX8_taken_127 rfl ?_
    exact ⟨congrArg some (yrF_Bs hr hj ho eo hf hB).symm, rfl⟩
  · intro i hi hn b m hb hB
    obtain ⟨x, hx, ex⟩ := hr (rix C j S i) (rix_lt (by omega))
    have hrl := rix_lt (C := C) (j := j) (S := S) (i := i) (by omega)
    have hA : ∀ w, seenA (h g_m_jumpers 0) C j S (i + 1) w ↔ seenA (h g_m_jumpers 0) C j S i w ∨ w = x := by
      intro w
      constructor
      · rintro ⟨h1, k, hk, z⟩
        rcases Nat.lt_succ_iff_lt_or_eq.mp hk with hk | rfl
        · exact Or.inl ⟨h1, k, hk, z⟩
        · rw [ex] at z; exact Or.inr ((nI_eq (by omega) (by omega)).mp z).symm
      · rintro (⟨h1, k, hk, z⟩ | rfl)
        · exact ⟨h1, k, Nat.lt_succ_of_lt hk, z⟩
        · exact ⟨hx, i, Nat.lt_succ_self i, ex⟩
    refine E_iload (pc := 35) 5 dX8_taken_35 rfl ?_
    refine E_aload_n (pc := 37) 0 dX8_taken_37 rfl rfl ?_
    refine E_getR0 (pc := 38) dX8_taken_38 fl_RX8_28 rfl rfl ?_
    refine E_bipush (pc := 41) (17) dX8_taken_41 (by decide) ?_
    refine E_iald (pc := 43) dX8_taken_43 rfl (by unfold vp_in; decide) ?_
    refine E_top (y := nI S) hS ?_
    refine E_icmp_gt (pc := 44) 126 dX8_taken_44 rfl (fun q44 => absurd q44 (far_no S (by omega) i hi)) (fun q44 => ?_)
    refine E_aload_n (pc := 47) 0 dX8_taken_47 rfl rfl ?_
    refine E_getR0 (pc := 48) dX8_taken_48 fl_RX8_46 rfl rfl ?_
    refine E_iload_n (pc := 51) 1 dX8_taken_51 rfl rfl ?_
    refine E_iload (pc := 52) 5 dX8_taken_52 rfl ?_
    refine E_iadd (pc := 54) dX8_taken_54 ?_
    refine E_aload_n (pc := 55) 0 dX8_taken_55 rfl rfl ?_
    refine E_getI (pc := 56) dX8_taken_56 fl_RX8_242 rfl rfl ?_
    refine E_eq (st' := [vI (nI C), vI (nI j + (-(nI S) + nI i)), vR g_m_jumpers 0]) rfl (by rw [hC]) rfl ?_
    refine E_irem (pc := 59) dX8_taken_59 hc0 ?_
    refine E_aload_n (pc := 60) 0 dX8_taken_60 rfl rfl ?_
    refine E_getI (pc := 61) dX8_taken_61 fl_RX8_242 rfl rfl ?_
    refine E_eq (st' := [vI (nI C), vI (nI j + (-(nI S) + nI i) - (nI j + (-(nI S) + nI i)) / nI C * nI C), vR g_m_jumpers 0]) rfl (by rw [hC]) rfl ?_
    refine E_iadd (pc := 64) dX8_taken_64 ?_
    refine E_aload_n (pc := 65) 0 dX8_taken_65 rfl rfl ?_
    refine E_getI (pc := 66) dX8_taken_66 fl_RX8_242 rfl rfl ?_
    refine E_eq (st' := [vI (nI C), vI (nI j + (-(nI S) + nI i) - (nI j + (-(nI S) + nI i)) / nI C * nI C + nI C), vR g_m_jumpers 0]) rfl (by rw [hC]) rfl ?_
    refine E_irem (pc := 69) dX8_taken_69 hc0 ?_
    refine E_top (y := nI (rix C j S i)) (mm_ix C (by omega) j hj S (by omega) i hi) ?_
    refine E_iald (pc := 70) dX8_taken_70 rfl (vp_in_nI (by omega) (by decide)) ?_
    refine E_top (y := nI x) (by rw [ixN_nI (by omega)]; exact ex) ?_
    refine E_istore (pc := 71) 6 dX8_taken_71 (Nat.le_of_ble_eq_true rfl) rfl (lz := [_, _, _, _, _, _, _, _]) rfl ?_
    refine E_aload_n (pc := 73) 0 dX8_taken_73 rfl rfl ?_
    refine E_getR0 (pc := 74) dX8_taken_74 fl_RX8_55 rfl rfl ?_
    refine E_iload (pc := 77) 6 dX8_taken_77 rfl ?_
    refine E_iald (pc := 79) dX8_taken_79 rfl (vp_in_nI (by omega) (by decide)) ?_
    refine E_top (y := h g_m_worths 0 x) (by rw [ixN_nI (by omega)]) ?_
    refine E_istore (pc := 80) 7 dX8_taken_80 (Nat.le_of_ble_eq_true rfl) rfl (lz := [_, _, _, _, _, _, _, _]) rfl ?_
    refine E_iload (pc := 82) 6 dX8_taken_82 rfl ?_
    refine E_iload_n (pc := 84) 2 dX8_taken_84 rfl rfl ?_
    refine E_icmp_eq (pc := 85) 120 dX8_taken_85 rfl (fun q85 => ?_) (fun q85 => ?_)
    · have hB2 := hB.keep hA (fun z => absurd ((nI_eq (by omega) (by omega)).mp q85) z)
      refine E_iinc (pc := 120) 5 (1) dX8_taken_120 (Nat.le_of_ble_eq_true rfl) rfl rfl (by decide) (lz := [_, _, _, _, _, _, _, _]) rfl ?_
      refine E_goto (pc := 123) 35 dX8_taken_123 rfl ?_
      refine E_drop 6 (E_drop 7 ?_)
      first | exact E_eq (by rw [nI_succ, Int32.add_assoc]; rfl) rfl rfl (hn _ _ hx hB2) | exact E_eq (by rw [nI_succ, Int32.add_assoc]; rfl) rfl rfl (hn _ _ hb hB2)
    · have hxo : x ≠ o := fun z => q85 (congrArg nI z)
      refine E_iload (pc := 88) 7 dX8_taken_88 rfl ?_
      refine E_iload (pc := 90) 4 dX8_taken_90 rfl ?_
      refine E_icmp_gt (pc := 92) 113 dX8_taken_92 rfl (fun q92 => ?_) (fun q92 => ?_)
      · have hB2 := hB.take hA hxo (Or.inl q92)
        refine E_iload (pc := 113) 6 dX8_taken_113 rfl ?_
        refine E_istore_n (pc := 115) 3 dX8_taken_115 rfl (Nat.le_of_ble_eq_true rfl) rfl (lz := [_, _, _, _, _, _, _, _]) rfl ?_
        refine E_iload (pc := 116) 7 dX8_taken_116 rfl ?_
        refine E_istore (pc := 118) 4 dX8_taken_118 (Nat.le_of_ble_eq_true rfl) rfl (lz := [_, _, _, _, _, _, _, _]) rfl ?_
        refine E_iinc (pc := 120) 5 (1) dX8_taken_120 (Nat.le_of_ble_eq_true rfl) rfl rfl (by decide) (lz := [_, _, _, _, _, _, _, _]) rfl ?_
        refine E_goto (pc := 123) 35 dX8_taken_123 rfl ?_
        refine E_drop 6 (E_drop 7 ?_)
        first | exact E_eq (by rw [nI_succ, Int32.add_assoc]; rfl) rfl rfl (hn _ _ hx hB2) | exact E_eq (by rw [nI_succ, Int32.add_assoc]; rfl) rfl rfl (hn _ _ hb hB2)
      · refine E_iload (pc := 95) 7 dX8_taken_95 rfl ?_
        refine E_iload (pc := 97) 4 dX8_taken_97 rfl ?_
        refine E_icmp_ne (pc := 99) 120 dX8_taken_99 rfl (fun q99 => ?_) (fun q99 => ?_)
        · have hB2 := hB.keep hA (fun _ => ⟨q92, fun z => absurd z q99⟩)
          refine E_iinc (pc := 120) 5 (1) dX8_taken_120 (Nat.le_of_ble_eq_true rfl) rfl rfl (by decide) (lz := [_, _, _, _, _, _, _, _]) rfl ?_
          refine E_goto (pc := 123) 35 dX8_taken_123 rfl ?_
          refine E_drop 6 (E_drop 7 ?_)
          first | exact E_eq (by rw [nI_succ, Int32.add_assoc]; rfl) rfl rfl (hn _ _ hx hB2) | exact E_eq (by rw [nI_succ, Int32.add_assoc]; rfl) rfl rfl (hn _ _ hb hB2)
        · refine E_iload_n (pc := 102) 3 dX8_taken_102 rfl rfl ?_
          refine E_iload_n (pc := 103) 2 dX8_taken_103 rfl rfl ?_
          refine E_icmp_eq (pc := 104) 120 dX8_taken_104 rfl (fun q104 => ?_) (fun q104 => ?_)
          · have hB2 := hB.keep hA (fun _ => ⟨q92, fun _ => Or.inl ((nI_eq (by omega) (by omega)).mp q104)⟩)
            refine E_iinc (pc := 120) 5 (1) dX8_taken_120 (Nat.le_of_ble_eq_true rfl) rfl rfl (by decide) (lz := [_, _, _, _, _, _, _, _]) rfl ?_
            refine E_goto (pc := 123) 35 dX8_taken_123 rfl ?_
            refine E_drop 6 (E_drop 7 ?_)
            first | exact E_eq (by rw [nI_succ, Int32.add_assoc]; rfl) rfl rfl (hn _ _ hx hB2) | exact E_eq (by rw [nI_succ, Int32.add_assoc]; rfl) rfl rfl (hn _ _ hb hB2)
          · refine E_iload (pc := 107) 6 dX8_taken_107 rfl ?_
            refine E_iload_n (pc := 109) 3 dX8_taken_109 rfl rfl ?_
            refine E_icmp_ge (pc := 110) 120 dX8_taken_110 rfl (fun q110 => ?_) (fun q110 => ?_)
            · have hB2 := hB.keep hA (fun _ => ⟨q92, fun _ => Or.inr ((nI_leI (by omega) (by omega)).mp q110)⟩)
              refine E_iinc (pc := 120) 5 (1) dX8_taken_120 (Nat.le_of_ble_eq_true rfl) rfl rfl (by decide) (lz := [_, _, _, _, _, _, _, _]) rfl ?_
              refine E_goto (pc := 123) 35 dX8_taken_123 rfl ?_
              refine E_drop 6 (E_drop 7 ?_)
              first | exact E_eq (by rw [nI_succ, Int32.add_assoc]; rfl) rfl rfl (hn _ _ hx hB2) | exact E_eq (by rw [nI_succ, Int32.add_assoc]; rfl) rfl rfl (hn _ _ hb hB2)
            · have hB2 := hB.take hA hxo (Or.inr ⟨q99, fun z => q104 (congrArg nI z), by have := mt (nI_leI (a := b) (b := x) (by omega) (by omega)).mpr q110; omega⟩)
              refine E_iload (pc := 113) 6 dX8_taken_113 rfl ?_
              refine E_istore_n (pc := 115) 3 dX8_taken_115 rfl (Nat.le_of_ble_eq_true rfl) rfl (lz := [_, _, _, _, _, _, _, _]) rfl ?_
              refine E_iload (pc := 116) 7 dX8_taken_116 rfl ?_
              refine E_istore (pc := 118) 4 dX8_taken_118 (Nat.le_of_ble_eq_true rfl) rfl (lz := [_, _, _, _, _, _, _, _]) rfl ?_
              refine E_iinc (pc := 120) 5 (1) dX8_taken_120 (Nat.le_of_ble_eq_true rfl) rfl rfl (by decide) (lz := [_, _, _, _, _, _, _, _]) rfl ?_
              refine E_goto (pc := 123) 35 dX8_taken_123 rfl ?_
              refine E_drop 6 (E_drop 7 ?_)
              first | exact E_eq (by rw [nI_succ, Int32.add_assoc]; rfl) rfl rfl (hn _ _ hx hB2) | exact E_eq (by rw [nI_succ, Int32.add_assoc]; rfl) rfl rfl (hn _ _ hb hB2)
