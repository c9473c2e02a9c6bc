/-! the class: public calls by the judge -/
abbrev isW (h : Hp) (w : Int32) : Prop := (0 ≤ w ∧ w ≤ 5) ∧ 0 < h g_way (ixN w) 1
/-- every way has at most eight tenths -/
def WT (h : Hp) : Prop := ∀ k, k < 6 → ∃ T, T ≤ 8 ∧ h g_way k 1 = nI T
theorem WT.get {h : Hp} (hI : WT h) {w : Int32} (hw : isW h w) : ∃ T, 1 ≤ T ∧ T ≤ 8 ∧ h g_way (ixN w) 1 = nI T ∧ ixN (h g_way (ixN w) 1) = T ∧ ixN w < 6 ∧ vp_in w 6 := by
  have hx : vp_in w 6 := ixl 5 hw.1.1 hw.1.2 (by decide)
  have hk := ixN_lt hx
  obtain ⟨T, h1, h2⟩ := hI _ hk
  refine ⟨T, ?_, h1, h2, by rw [h2, ixN_nI (by omega)], hk, hx⟩
  rcases Nat.eq_zero_or_pos T with h3 | h3
  · have := hw.2
    rw [h2, h3] at this
    exact absurd this (by decide)
  · exact h3
/-- what a call that only asks keeps -/
abbrev ess (a b : Nat) : Prop := noS a ∧ a ≠ g_worths ∧ a ≠ g_now ∧ a ≠ g_then ∧ ¬ ((a = g_way ∨ a = g_nums) ∧ b = 6)
def Kp (h h' : Hp) : Prop := ∀ a b, ess a b → h' a b = h a b
theorem Kp.rfl {h : Hp} : Kp h h := fun _ _ _ => Eq.refl _
theorem Kp.trans {h h' h'' : Hp} (a : Kp h h') (b : Kp h' h'') : Kp h h'' := fun x y e => (b x y e).trans (a x y e)
theorem Kp_meas {h : Hp} {k T i : Nat} : Kp h (measN h k T i) := fun a b e => by rw [measN_t e.1.1]
theorem Kp_S {h h' : Hp} (s : SmS h h') : Kp h h' := fun a b e => by rw [s a e.1]
theorem Kp_J {h h' : Hp} (s : SmJ h h') : Kp h h' := fun a b e => by rw [s a e.1.1]
set_option maxHeartbeats 1600000 in
theorem C_X7_place {l : Launch} {G : GE} {h : Hp} {w t p a : Int32} (hI : WT h) : CT l G mX7_place [vR g_oab 0, vI w, vI t, vI p, vI a] h (fun r h' => r = some (if (isW h w ∧ (0 ≤ t ∧ t ≤ h g_way (ixN w) 1 - 1) ∧ 0 ≤ p ∧ p ≤ 3) ∧ 0 ≤ a ∧ a ≤ 1 then sPlace (h g_values 0) (h g_nums (ixN w)) (ixN t) (ixN p) (ixN a) else -1000000) ∧ h' = h) := by
  refine CT.of (lv := [_, _, _, _, _]) (by decide +kernel) (Nat.le_of_ble_eq_true rfl) rfl ?_
  refine E_aload_n (pc := 0) 0 dX7_place_0 rfl rfl ?_
  refine E_iload_n (pc := 1) 1 dX7_place_1 rfl rfl ?_
  refine E_iload_n (pc := 2) 2 dX7_place_2 rfl rfl ?_
  refine E_iload_n (pc := 3) 3 dX7_place_3 rfl rfl ?_
  refine E_callV1 (pc := 4) dX7_place_4 C_X7_isPartOfWay rfl kv_RX7_115 rfl rfl rfl ⟨Nat.le_of_ble_eq_true rfl, Nat.le_of_ble_eq_true rfl, Nat.le_of_ble_eq_true rfl, Nat.le_of_ble_eq_true rfl⟩ (Nat.le_of_ble_eq_true rfl) ?_
  refine E_if_eq (pc := 7) 20 dX7_place_7 rfl (fun q7 => ?_) (fun q7 => ?_)
  · refine E_ldc (pc := 20) (-1000000) dX7_place_20 kk_RX7_138 ?_
    refine E_iret (pc := 22) dX7_place_22 rfl ?_
    first | exact ⟨by rw [if_neg (fun z => bi_0.mp q7 z.1)], rfl⟩ | exact ⟨by rw [if_neg (fun z => bi_0.mp q17 z.2)], rfl⟩
  · refine E_iload (pc := 10) 4 dX7_place_10 rfl ?_
    refine E_iconst (pc := 12) (0) dX7_place_12 (by decide) ?_
    refine E_iconst (pc := 13) (1) dX7_place_13 (by decide) ?_
    refine E_callS1 (pc := 14) dX7_place_14 C_X7_within rfl ks_RX7_76 rfl ⟨Nat.le_of_ble_eq_true rfl, Nat.le_of_ble_eq_true rfl, Nat.le_of_ble_eq_true rfl, Nat.le_of_ble_eq_true rfl⟩ (Nat.le_of_ble_eq_true rfl) ?_
    refine E_if_ne (pc := 17) 23 dX7_place_17 rfl (fun q17 => ?_) (fun q17 => ?_)
    · have hc : isW h w ∧ (0 ≤ t ∧ t ≤ h g_way (ixN w) 1 - 1) ∧ 0 ≤ p ∧ p ≤ 3 := Decidable.of_not_not (fun z => q7 (bi_0.mpr z))
      have ha : 0 ≤ a ∧ a ≤ 1 := Decidable.of_not_not (fun z => q17 (bi_0.mpr z))
      obtain ⟨T, hT1, hT8, hT, hTi, hk, hx⟩ := hI.get hc.1
      have ht7 : t ≤ nI (T - 1) := by rw [hT, show (1 : Int32) = nI 1 from rfl, pk_sub hT1] at hc; exact hc.2.1.2
      obtain ⟨t', ht', rfl⟩ := natof (T - 1) (by omega) hc.2.1.1 ht7
      obtain ⟨p', hp', rfl⟩ := natof 3 (by decide) hc.2.2.1 hc.2.2.2
      obtain ⟨a', ha', rfl⟩ := natof 1 (by decide) ha.1 ha.2
      refine E_aload_n (pc := 23) 0 dX7_place_23 rfl rfl ?_
      refine E_getR0 (pc := 24) dX7_place_24 fl_RX7_46 rfl rfl ?_
      refine E_aload_n (pc := 27) 0 dX7_place_27 rfl rfl ?_
      refine E_getR0 (pc := 28) dX7_place_28 fl_RX7_32 rfl rfl ?_
      refine E_iload_n (pc := 31) 1 dX7_place_31 rfl rfl ?_
      refine E_aald (pc := 32) dX7_place_32 rfl ⟨_, fun _ => rfl⟩ hx ?_
      refine E_iload_n (pc := 33) 2 dX7_place_33 rfl rfl ?_
      refine E_iload_n (pc := 34) 3 dX7_place_34 rfl rfl ?_
      refine E_iload (pc := 35) 4 dX7_place_35 rfl ?_
      refine E_callV1 (pc := 37) dX7_place_37 (C_X0_placeOf (by omega) hp' ha') rfl kv_RX7_139 rfl rfl rfl ⟨Nat.le_of_ble_eq_true rfl, Nat.le_of_ble_eq_true rfl, Nat.le_of_ble_eq_true rfl, Nat.le_of_ble_eq_true rfl⟩ (Nat.le_of_ble_eq_true rfl) ?_
      refine E_iret (pc := 40) dX7_place_40 rfl ?_
      exact ⟨by rw [if_pos ⟨hc, ha⟩, ixN_nI (by omega), ixN_nI (by omega), ixN_nI (by omega)], rfl⟩
    · refine E_ldc (pc := 20) (-1000000) dX7_place_20 kk_RX7_138 ?_
      refine E_iret (pc := 22) dX7_place_22 rfl ?_
      first | exact ⟨by rw [if_neg (fun z => bi_0.mp q7 z.1)], rfl⟩ | exact ⟨by rw [if_neg (fun z => bi_0.mp q17 z.2)], rfl⟩
set_option maxHeartbeats 1600000 in
theorem C_X7_near {l : Launch} {G : GE} {h : Hp} {w t p : Int32} (hI : WT h) : CT l G mX7_near [vR g_oab 0, vI w, vI t, vI p] h (fun r h' => r = some (if isW h w ∧ (0 ≤ t ∧ t ≤ h g_way (ixN w) 1 - 1) ∧ 0 ≤ p ∧ p ≤ 3 then bi (sNear (h g_values 0) (sPlace (h g_values 0) (h g_nums (ixN w)) (ixN t) (ixN p) 0)) else -1) ∧ h' = h) := by
  refine CT.of (lv := [_, _, _, _]) (by decide +kernel) (Nat.le_of_ble_eq_true rfl) rfl ?_
  refine E_aload_n (pc := 0) 0 dX7_near_0 rfl rfl ?_
  refine E_iload_n (pc := 1) 1 dX7_near_1 rfl rfl ?_
  refine E_iload_n (pc := 2) 2 dX7_near_2 rfl rfl ?_
  refine E_iload_n (pc := 3) 3 dX7_near_3 rfl rfl ?_
  refine E_callV1 (pc := 4) dX7_near_4 C_X7_isPartOfWay rfl kv_RX7_115 rfl rfl rfl ⟨Nat.le_of_ble_eq_true rfl, Nat.le_of_ble_eq_true rfl, Nat.le_of_ble_eq_true rfl, Nat.le_of_ble_eq_true rfl⟩ (Nat.le_of_ble_eq_true rfl) ?_
  refine E_if_ne (pc := 7) 12 dX7_near_7 rfl (fun q7 => ?_) (fun q7 => ?_)
  · have hc : isW h w ∧ (0 ≤ t ∧ t ≤ h g_way (ixN w) 1 - 1) ∧ 0 ≤ p ∧ p ≤ 3 := Decidable.of_not_not (fun z => q7 (bi_0.mpr z))
    obtain ⟨T, hT1, hT8, hT, hTi, hk, hx⟩ := hI.get hc.1
    have ht7 : t ≤ nI (T - 1) := by rw [hT, show (1 : Int32) = nI 1 from rfl, pk_sub hT1] at hc; exact hc.2.1.2
    obtain ⟨t', ht', rfl⟩ := natof (T - 1) (by omega) hc.2.1.1 ht7
    obtain ⟨p', hp', rfl⟩ := natof 3 (by decide) hc.2.2.1 hc.2.2.2
    refine E_aload_n (pc := 12) 0 dX7_near_12 rfl rfl ?_
    refine E_getR0 (pc := 13) dX7_near_13 fl_RX7_46 rfl rfl ?_
    refine E_aload_n (pc := 16) 0 dX7_near_16 rfl rfl ?_
    refine E_getR0 (pc := 17) dX7_near_17 fl_RX7_46 rfl rfl ?_
    refine E_aload_n (pc := 20) 0 dX7_near_20 rfl rfl ?_
    refine E_getR0 (pc := 21) dX7_near_21 fl_RX7_32 rfl rfl ?_
    refine E_iload_n (pc := 24) 1 dX7_near_24 rfl rfl ?_
    refine E_aald (pc := 25) dX7_near_25 rfl ⟨_, fun _ => rfl⟩ hx ?_
    refine E_iload_n (pc := 26) 2 dX7_near_26 rfl rfl ?_
    refine E_iload_n (pc := 27) 3 dX7_near_27 rfl rfl ?_
    refine E_iconst (pc := 28) (0) dX7_near_28 (by decide) ?_
    refine E_callV1 (pc := 29) dX7_near_29 (C_X0_placeOf (ax := 0) (by omega) hp' (by decide)) rfl kv_RX7_139 rfl rfl rfl ⟨Nat.le_of_ble_eq_true rfl, Nat.le_of_ble_eq_true rfl, Nat.le_of_ble_eq_true rfl, Nat.le_of_ble_eq_true rfl⟩ (Nat.le_of_ble_eq_true rfl) ?_
    refine E_callV1 (pc := 32) dX7_near_32 C_X0_isNear rfl kv_RX7_143 rfl rfl rfl ⟨Nat.le_of_ble_eq_true rfl, Nat.le_of_ble_eq_true rfl, Nat.le_of_ble_eq_true rfl, Nat.le_of_ble_eq_true rfl⟩ (Nat.le_of_ble_eq_true rfl) ?_
    refine E_if_eq (pc := 35) 42 dX7_near_35 rfl (fun q35 => ?_) (fun q35 => ?_)
    · refine E_iconst (pc := 42) (0) dX7_near_42 (by decide) ?_
      refine E_iret (pc := 43) dX7_near_43 rfl ?_
      first | exact ⟨by rw [if_pos hc, ixN_nI (by omega), ixN_nI (by omega)]; exact congrArg some q35.symm, rfl⟩ | exact ⟨by rw [if_pos hc, ixN_nI (by omega), ixN_nI (by omega)]; exact congrArg some (bi_t (Decidable.of_not_not (fun z => q35 (bi_0.mpr z)))).symm, rfl⟩
    · refine E_iconst (pc := 38) (1) dX7_near_38 (by decide) ?_
      refine E_goto (pc := 39) 43 dX7_near_39 rfl ?_
      refine E_iret (pc := 43) dX7_near_43 rfl ?_
      first | exact ⟨by rw [if_pos hc, ixN_nI (by omega), ixN_nI (by omega)]; exact congrArg some q35.symm, rfl⟩ | exact ⟨by rw [if_pos hc, ixN_nI (by omega), ixN_nI (by omega)]; exact congrArg some (bi_t (Decidable.of_not_not (fun z => q35 (bi_0.mpr z)))).symm, rfl⟩
  · refine E_iconst (pc := 10) (-1) dX7_near_10 (by decide) ?_
    refine E_iret (pc := 11) dX7_near_11 rfl ?_
    exact ⟨by rw [if_neg (fun z => bi_0.mp q7 z)], rfl⟩
set_option maxHeartbeats 1600000 in
theorem C_X7_high {l : Launch} {G : GE} {h : Hp} {w : Int32} (hI : WT h) : CT l G mX7_high [vR g_oab 0, vI w] h (fun r h' => r = some (if isW h w then sHigh (h g_values 0) (h g_nums (ixN w)) (ixN (h g_way (ixN w) 1)) else -1) ∧ Kp h h') := by
  refine CT.of (lv := [_, _]) (by decide +kernel) (Nat.le_of_ble_eq_true rfl) rfl ?_
  refine E_aload_n (pc := 0) 0 dX7_high_0 rfl rfl ?_
  refine E_iload_n (pc := 1) 1 dX7_high_1 rfl rfl ?_
  refine E_callV1 (pc := 2) dX7_high_2 C_X7_isWay rfl kv_RX7_128 rfl rfl rfl ⟨Nat.le_of_ble_eq_true rfl, Nat.le_of_ble_eq_true rfl, Nat.le_of_ble_eq_true rfl, Nat.le_of_ble_eq_true rfl⟩ (Nat.le_of_ble_eq_true rfl) ?_
  refine E_if_ne (pc := 5) 10 dX7_high_5 rfl (fun q5 => ?_) (fun q5 => ?_)
  · have hw : isW h w := Decidable.of_not_not (fun z => q5 (bi_0.mpr z))
    obtain ⟨T, hT1, hT8, hT, hTi, hk, hx⟩ := hI.get hw
    refine E_aload_n (pc := 10) 0 dX7_high_10 rfl rfl ?_
    refine E_getR0 (pc := 11) dX7_high_11 fl_RX7_46 rfl rfl ?_
    refine E_aload_n (pc := 14) 0 dX7_high_14 rfl rfl ?_
    refine E_getR0 (pc := 15) dX7_high_15 fl_RX7_32 rfl rfl ?_
    refine E_iload_n (pc := 18) 1 dX7_high_18 rfl rfl ?_
    refine E_aald (pc := 19) dX7_high_19 rfl ⟨_, fun _ => rfl⟩ hx ?_
    refine E_callV0 (pc := 20) dX7_high_20 (C_X0_measure hT hT8) rfl kv_RX7_146 rfl rfl rfl ⟨Nat.le_of_ble_eq_true rfl, Nat.le_of_ble_eq_true rfl, Nat.le_of_ble_eq_true rfl, Nat.le_of_ble_eq_true rfl⟩ (Nat.le_of_ble_eq_true rfl) ?_
    refine E_aload_n (pc := 23) 0 dX7_high_23 rfl rfl ?_
    refine E_getR0 (pc := 24) dX7_high_24 fl_RX7_46 rfl rfl ?_
    refine E_aload_n (pc := 27) 0 dX7_high_27 rfl rfl ?_
    refine E_getR0 (pc := 28) dX7_high_28 fl_RX7_32 rfl rfl ?_
    refine E_iload_n (pc := 31) 1 dX7_high_31 rfl rfl ?_
    refine E_aald (pc := 32) dX7_high_32 rfl ⟨_, fun _ => rfl⟩ hx ?_
    refine E_callV1 (pc := 33) dX7_high_33 (C_X0_clears (T := T) (by rw [measN_t (by decide)]; exact hT) hT1 hT8) rfl kv_RX7_149 rfl rfl rfl ⟨Nat.le_of_ble_eq_true rfl, Nat.le_of_ble_eq_true rfl, Nat.le_of_ble_eq_true rfl, Nat.le_of_ble_eq_true rfl⟩ (Nat.le_of_ble_eq_true rfl) ?_
    refine E_iret (pc := 36) dX7_high_36 rfl ?_
    exact ⟨by rw [if_pos hw, hTi, measN_t (a := g_values) (by decide), measN_all.high hT1 hT8], Kp_meas⟩
  · refine E_iconst (pc := 8) (-1) dX7_high_8 (by decide) ?_
    refine E_iret (pc := 9) dX7_high_9 rfl ?_
    exact ⟨by rw [if_neg (bi_0.mp q5)], Kp.rfl⟩
set_option maxHeartbeats 1600000 in
theorem C_X7_barred {l : Launch} {G : GE} {h : Hp} {w : Int32} (hI : WT h) : CT l G mX7_barred [vR g_oab 0, vI w] h (fun r h' => r = some (if isW h w then sWhy (h g_values 0) (h g_nums (ixN w)) (ixN (h g_way (ixN w) 1)) (h g_way (ixN w) 2) else -1) ∧ Kp h h') := by
  refine CT.of (lv := [_, _]) (by decide +kernel) (Nat.le_of_ble_eq_true rfl) rfl ?_
  refine E_aload_n (pc := 0) 0 dX7_barred_0 rfl rfl ?_
  refine E_iload_n (pc := 1) 1 dX7_barred_1 rfl rfl ?_
  refine E_callV1 (pc := 2) dX7_barred_2 C_X7_isWay rfl kv_RX7_128 rfl rfl rfl ⟨Nat.le_of_ble_eq_true rfl, Nat.le_of_ble_eq_true rfl, Nat.le_of_ble_eq_true rfl, Nat.le_of_ble_eq_true rfl⟩ (Nat.le_of_ble_eq_true rfl) ?_
  refine E_if_ne (pc := 5) 10 dX7_barred_5 rfl (fun q5 => ?_) (fun q5 => ?_)
  · have hw : isW h w := Decidable.of_not_not (fun z => q5 (bi_0.mpr z))
    obtain ⟨T, hT1, hT8, hT, hTi, hk, hx⟩ := hI.get hw
    refine E_aload_n (pc := 10) 0 dX7_barred_10 rfl rfl ?_
    refine E_getR0 (pc := 11) dX7_barred_11 fl_RX7_46 rfl rfl ?_
    refine E_aload_n (pc := 14) 0 dX7_barred_14 rfl rfl ?_
    refine E_getR0 (pc := 15) dX7_barred_15 fl_RX7_32 rfl rfl ?_
    refine E_iload_n (pc := 18) 1 dX7_barred_18 rfl rfl ?_
    refine E_aald (pc := 19) dX7_barred_19 rfl ⟨_, fun _ => rfl⟩ hx ?_
    refine E_callV0 (pc := 20) dX7_barred_20 (C_X0_measure hT hT8) rfl kv_RX7_146 rfl rfl rfl ⟨Nat.le_of_ble_eq_true rfl, Nat.le_of_ble_eq_true rfl, Nat.le_of_ble_eq_true rfl, Nat.le_of_ble_eq_true rfl⟩ (Nat.le_of_ble_eq_true rfl) ?_
    refine E_aload_n (pc := 23) 0 dX7_barred_23 rfl rfl ?_
    refine E_getR0 (pc := 24) dX7_barred_24 fl_RX7_46 rfl rfl ?_
    refine E_aload_n (pc := 27) 0 dX7_barred_27 rfl rfl ?_
    refine E_getR0 (pc := 28) dX7_barred_28 fl_RX7_32 rfl rfl ?_
    refine E_iload_n (pc := 31) 1 dX7_barred_31 rfl rfl ?_
    refine E_aald (pc := 32) dX7_barred_32 rfl ⟨_, fun _ => rfl⟩ hx ?_
    refine E_callV1 (pc := 33) dX7_barred_33 (C_X0_whyBarred (T := T) (by rw [measN_t (by decide)]; exact hT) hT1 hT8) rfl kv_RX7_174 rfl rfl rfl ⟨Nat.le_of_ble_eq_true rfl, Nat.le_of_ble_eq_true rfl, Nat.le_of_ble_eq_true rfl, Nat.le_of_ble_eq_true rfl⟩ (Nat.le_of_ble_eq_true rfl) ?_
    refine E_iret (pc := 36) dX7_barred_36 rfl ?_
    exact ⟨by rw [if_pos hw, hTi, measN_t (a := g_values) (by decide), measN_t (a := g_nums) (by decide), measN_t (a := g_way) (by decide), measN_all.why], Kp_meas⟩
  · refine E_iconst (pc := 8) (-1) dX7_barred_8 (by decide) ?_
    refine E_iret (pc := 9) dX7_barred_9 rfl ?_
    exact ⟨by rw [if_neg (bi_0.mp q5)], Kp.rfl⟩
/-! the part that is lowest -/
theorem sLP_z (V N : Nat → Int32) (t : Nat) (z : Int32) : ∀ p, sLU V N t p = 1000000 ∨ sLP V N t z p = sLP V N t 0 p
  | 0 => Or.inl rfl
  | p + 1 => by
    unfold sLU sLP
    by_cases hc : sPlace V N t p 1 < sLU V N t p ∧ sNear V (sPlace V N t p 0)
    · right; rw [if_pos hc, if_pos hc]
    · rw [if_neg hc, if_neg hc, if_neg hc]; exact sLP_z V N t z p
theorem measN_lp {h : Hp} {k T : Nat} : ∀ i, ∀ u, u < i → ∃ z, measN h k T i g_lPart 0 u = sLP (h g_values 0) (h g_nums k) u z 4
  | 0, u, hu => absurd hu (Nat.not_lt_zero u)
  | i + 1, u, hu => by
    show ∃ z, mT (measN h k T i) k T i g_lPart 0 u = _
    rw [mT_places (by decide) (by decide)]
    by_cases e : u = i
    · subst e
      refine ⟨measN h k T u g_lPart 0 u, ?_⟩
      have := mp_r4 (measN h k T u) u (sLA (measN h k T u g_values 0) (measN h k T u g_nums k) u 4) (sMA (measN h k T u g_values 0) (measN h k T u g_nums k) u 4) (sLU (measN h k T u g_values 0) (measN h k T u g_nums k) u 4) (sLP (measN h k T u g_values 0) (measN h k T u g_nums k) u (measN h k T u g_lPart 0 u) 4)
      rw [measN_t (a := g_values) (by decide), measN_t (a := g_nums) (by decide)] at this
      unfold mpp
      rw [measN_t (a := g_values) (by decide), measN_t (a := g_nums) (by decide)]
      exact this
    · rw [mpp_k e]
      exact measN_lp i u (by omega)
theorem lowF_lt (u : Nat → Int32) : ∀ i, (lowF u i).1 = -1 ∨ ∃ j, j < i ∧ (lowF u i).1 = nI j ∧ (lowF u i).2 = u j ∧ u j < 1000000
  | 0 => Or.inl rfl
  | i + 1 => by
    have hle : (lowF u i).2 ≤ 1000000 := by
      rcases lowF_lt u i with e | ⟨j, -, -, e1, e2⟩
      · have key : ∀ i, (lowF u i).1 = -1 → i < 2 ^ 31 → (lowF u i).2 = 1000000 ∨ ∃ j, j < i ∧ (lowF u i).1 = nI j := by
          intro i _ _
          induction i with
          | zero => exact Or.inl rfl
          | succ i ih =>
            unfold lowF
            by_cases hc : u i < (lowF u i).2
            · rw [if_pos hc]; exact Or.inr ⟨i, Nat.lt_succ_self i, rfl⟩
            · rw [if_neg hc]
              rcases lowF_or u i with q | ⟨j, hj, q⟩
              · rcases ih q (by omega) with r | ⟨j, hj, r⟩
                · exact Or.inl r
                · exact Or.inr ⟨j, Nat.lt_succ_of_lt hj, r⟩
              · exact Or.inr ⟨j, Nat.lt_succ_of_lt hj, q⟩
        have mono : ∀ i, (lowF u i).2 ≤ 1000000 := by
          intro i
          induction i with
          | zero => exact Int32.le_refl _
          | succ i ih =>
            unfold lowF
            by_cases hc : u i < (lowF u i).2
            · rw [if_pos hc]; exact Int32.le_of_lt (Int32.lt_of_lt_of_le hc ih)
            · rw [if_neg hc]; exact ih
        exact mono i
      · rw [e1]; exact Int32.le_of_lt e2
    unfold lowF
    by_cases hc : u i < (lowF u i).2
    · rw [if_pos hc]; exact Or.inr ⟨i, Nat.lt_succ_self i, rfl, rfl, Int32.lt_of_lt_of_le hc hle⟩
    · rw [if_neg hc]
      rcases lowF_lt u i with e | ⟨j, hj, e⟩
      · exact Or.inl e
      · exact Or.inr ⟨j, Nat.lt_succ_of_lt hj, e⟩
abbrev sU (V N : Nat → Int32) : Nat → Int32 := fun t => sLU V N t 4
def sLowest (V N : Nat → Int32) (T : Nat) : Int32 := if (lowF (sU V N) T).1 < 0 ∨ sHigh V N T = -4 then -4 else 4 * (lowF (sU V N) T).1 + sLP V N (ixN (lowF (sU V N) T).1) 0 4
theorem meas_low {h : Hp} {k T : Nat} : lowF (measN h k T T g_lUp 0) T = lowF (sU (h g_values 0) (h g_nums k)) T := lowF_congr T (fun t ht => (measN_all t ht).1.2.2.1)
set_option maxHeartbeats 1600000 in
theorem C_X7_lowest {l : Launch} {G : GE} {h : Hp} {w : Int32} (hI : WT h) : CT l G mX7_lowest [vR g_oab 0, vI w] h (fun r h' => r = some (if isW h w then sLowest (h g_values 0) (h g_nums (ixN w)) (ixN (h g_way (ixN w) 1)) else -1) ∧ Kp h h') := by
  refine CT.of (lv := [_, _, _]) (by decide +kernel) (Nat.le_of_ble_eq_true rfl) rfl ?_
  refine E_aload_n (pc := 0) 0 dX7_lowest_0 rfl rfl ?_
  refine E_iload_n (pc := 1) 1 dX7_lowest_1 rfl rfl ?_
  refine E_callV1 (pc := 2) dX7_lowest_2 C_X7_isWay rfl kv_RX7_128 rfl rfl rfl ⟨Nat.le_of_ble_eq_true rfl, Nat.le_of_ble_eq_true rfl, Nat.le_of_ble_eq_true rfl, Nat.le_of_ble_eq_true rfl⟩ (Nat.le_of_ble_eq_true rfl) ?_
  refine E_if_ne (pc := 5) 10 dX7_lowest_5 rfl (fun q5 => ?_) (fun q5 => ?_)
  · have hw : isW h w := Decidable.of_not_not (fun z => q5 (bi_0.mpr z))
    obtain ⟨T, hT1, hT8, hT, hTi, hk, hx⟩ := hI.get hw
    refine E_aload_n (pc := 10) 0 dX7_lowest_10 rfl rfl ?_
    refine E_getR0 (pc := 11) dX7_lowest_11 fl_RX7_46 rfl rfl ?_
    refine E_aload_n (pc := 14) 0 dX7_lowest_14 rfl rfl ?_
    refine E_getR0 (pc := 15) dX7_lowest_15 fl_RX7_32 rfl rfl ?_
    refine E_iload_n (pc := 18) 1 dX7_lowest_18 rfl rfl ?_
    refine E_aald (pc := 19) dX7_lowest_19 rfl ⟨_, fun _ => rfl⟩ hx ?_
    refine E_callV0 (pc := 20) dX7_lowest_20 (C_X0_measure hT hT8) rfl kv_RX7_146 rfl rfl rfl ⟨Nat.le_of_ble_eq_true rfl, Nat.le_of_ble_eq_true rfl, Nat.le_of_ble_eq_true rfl, Nat.le_of_ble_eq_true rfl⟩ (Nat.le_of_ble_eq_true rfl) ?_
    refine E_aload_n (pc := 23) 0 dX7_lowest_23 rfl rfl ?_
    refine E_getR0 (pc := 24) dX7_lowest_24 fl_RX7_46 rfl rfl ?_
    refine E_aload_n (pc := 27) 0 dX7_lowest_27 rfl rfl ?_
    refine E_getR0 (pc := 28) dX7_lowest_28 fl_RX7_32 rfl rfl ?_
    refine E_iload_n (pc := 31) 1 dX7_lowest_31 rfl rfl ?_
    refine E_aald (pc := 32) dX7_lowest_32 rfl ⟨_, fun _ => rfl⟩ hx ?_
    refine E_callV1 (pc := 33) dX7_lowest_33 (C_X0_lowestTenth (T := T) (by rw [measN_t (by decide)]; exact hT) hT8) rfl kv_RX7_153 rfl rfl rfl ⟨Nat.le_of_ble_eq_true rfl, Nat.le_of_ble_eq_true rfl, Nat.le_of_ble_eq_true rfl, Nat.le_of_ble_eq_true rfl⟩ (Nat.le_of_ble_eq_true rfl) ?_
    refine E_top (y := (lowF (sU (h g_values 0) (h g_nums (ixN w))) T).1) (by rw [meas_low]) ?_
    refine E_istore_n (pc := 36) 2 dX7_lowest_36 rfl (Nat.le_of_ble_eq_true rfl) rfl (lz := [_, _, _]) rfl ?_
    refine E_iload_n (pc := 37) 2 dX7_lowest_37 rfl rfl ?_
    refine E_if_lt (pc := 38) 59 dX7_lowest_38 rfl (fun q38 => ?_) (fun q38 => ?_)
    · refine E_bipush (pc := 59) (-4) dX7_lowest_59 (by decide) ?_
      refine E_iret (pc := 61) dX7_lowest_61 rfl ?_
      first | exact ⟨by rw [if_pos hw, hTi, sLowest, if_pos (Or.inl q38)], Kp_meas⟩ | exact ⟨by rw [if_pos hw, hTi, sLowest, if_pos (Or.inr q56)], Kp_meas⟩
    · refine E_aload_n (pc := 41) 0 dX7_lowest_41 rfl rfl ?_
      refine E_getR0 (pc := 42) dX7_lowest_42 fl_RX7_46 rfl rfl ?_
      refine E_aload_n (pc := 45) 0 dX7_lowest_45 rfl rfl ?_
      refine E_getR0 (pc := 46) dX7_lowest_46 fl_RX7_32 rfl rfl ?_
      refine E_iload_n (pc := 49) 1 dX7_lowest_49 rfl rfl ?_
      refine E_aald (pc := 50) dX7_lowest_50 rfl ⟨_, fun _ => rfl⟩ hx ?_
      refine E_callV1 (pc := 51) dX7_lowest_51 (C_X0_clears (T := T) (by rw [measN_t (by decide)]; exact hT) hT1 hT8) rfl kv_RX7_149 rfl rfl rfl ⟨Nat.le_of_ble_eq_true rfl, Nat.le_of_ble_eq_true rfl, Nat.le_of_ble_eq_true rfl, Nat.le_of_ble_eq_true rfl⟩ (Nat.le_of_ble_eq_true rfl) ?_
      refine E_top (y := sHigh (h g_values 0) (h g_nums (ixN w)) T) (by rw [measN_t (a := g_values) (by decide), measN_all.high hT1 hT8]) ?_
      refine E_bipush (pc := 54) (-4) dX7_lowest_54 (by decide) ?_
      refine E_icmp_ne (pc := 56) 62 dX7_lowest_56 rfl (fun q56 => ?_) (fun q56 => ?_)
      · have hlo := lowF_lt (sU (h g_values 0) (h g_nums (ixN w))) T
        have hlo2 : ∃ j, j < T ∧ (lowF (sU (h g_values 0) (h g_nums (ixN w))) T).1 = nI j ∧ sLU (h g_values 0) (h g_nums (ixN w)) j 4 < 1000000 := hlo.elim (fun e => absurd (show (lowF (sU (h g_values 0) (h g_nums (ixN w))) T).1 < 0 by rw [e]; decide) q38) (fun ⟨j, a, b, c, d⟩ => ⟨j, a, b, d⟩)
        obtain ⟨j, hj, ej, hlt⟩ := hlo2
        refine E_iconst (pc := 62) (4) dX7_lowest_62 (by decide) ?_
        refine E_iload_n (pc := 63) 2 dX7_lowest_63 rfl rfl ?_
        refine E_imul (pc := 64) dX7_lowest_64 ?_
        refine E_aload_n (pc := 65) 0 dX7_lowest_65 rfl rfl ?_
        refine E_getR0 (pc := 66) dX7_lowest_66 fl_RX7_46 rfl rfl ?_
        refine E_getR0 (pc := 69) dX7_lowest_69 fl_RX7_156 rfl rfl ?_
        refine E_iload_n (pc := 72) 2 dX7_lowest_72 rfl rfl ?_
        refine E_iald (pc := 73) dX7_lowest_73 rfl (by rw [ej]; exact vp_in_nI (by omega) (by decide)) ?_
        refine E_iadd (pc := 74) dX7_lowest_74 ?_
        refine E_iret (pc := 75) dX7_lowest_75 rfl ?_
        refine ⟨?_, Kp_meas⟩
        rw [if_pos hw, hTi, sLowest, if_neg (fun z => z.elim q38 q56), ej, ixN_nI (by omega)]
        obtain ⟨z, ez⟩ := measN_lp (h := h) (k := ixN w) (T := T) T j hj
        rw [ez, (sLP_z (h g_values 0) (h g_nums (ixN w)) j z 4).resolve_left (fun e => by rw [e] at hlt; exact absurd hlt (by decide))]
      · refine E_bipush (pc := 59) (-4) dX7_lowest_59 (by decide) ?_
        refine E_iret (pc := 61) dX7_lowest_61 rfl ?_
        first | exact ⟨by rw [if_pos hw, hTi, sLowest, if_pos (Or.inl q38)], Kp_meas⟩ | exact ⟨by rw [if_pos hw, hTi, sLowest, if_pos (Or.inr q56)], Kp_meas⟩
  · refine E_iconst (pc := 8) (-1) dX7_lowest_8 (by decide) ?_
    refine E_iret (pc := 9) dX7_lowest_9 rfl ?_
    exact ⟨by rw [if_neg (bi_0.mp q5)], Kp.rfl⟩
def sUnder (V N : Nat → Int32) (T : Nat) : Int32 := if sHigh V N T = -4 ∨ (lowF (sU V N) T).1 < 0 then -1000004 else gtMid V (sU V N) T - tot V * sHigh V N T
set_option maxHeartbeats 1600000 in
theorem C_X7_under {l : Launch} {G : GE} {h : Hp} {w : Int32} (hI : WT h) : CT l G mX7_under [vR g_oab 0, vI w] h (fun r h' => r = some (if isW h w then sUnder (h g_values 0) (h g_nums (ixN w)) (ixN (h g_way (ixN w) 1)) else -1000000) ∧ Kp h h') := by
  refine CT.of (lv := [_, _, _]) (by decide +kernel) (Nat.le_of_ble_eq_true rfl) rfl ?_
  refine E_aload_n (pc := 0) 0 dX7_under_0 rfl rfl ?_
  refine E_iload_n (pc := 1) 1 dX7_under_1 rfl rfl ?_
  refine E_callV1 (pc := 2) dX7_under_2 C_X7_isWay rfl kv_RX7_128 rfl rfl rfl ⟨Nat.le_of_ble_eq_true rfl, Nat.le_of_ble_eq_true rfl, Nat.le_of_ble_eq_true rfl, Nat.le_of_ble_eq_true rfl⟩ (Nat.le_of_ble_eq_true rfl) ?_
  refine E_if_ne (pc := 5) 11 dX7_under_5 rfl (fun q5 => ?_) (fun q5 => ?_)
  · have hw : isW h w := Decidable.of_not_not (fun z => q5 (bi_0.mpr z))
    obtain ⟨T, hT1, hT8, hT, hTi, hk, hx⟩ := hI.get hw
    refine E_aload_n (pc := 11) 0 dX7_under_11 rfl rfl ?_
    refine E_getR0 (pc := 12) dX7_under_12 fl_RX7_46 rfl rfl ?_
    refine E_aload_n (pc := 15) 0 dX7_under_15 rfl rfl ?_
    refine E_getR0 (pc := 16) dX7_under_16 fl_RX7_32 rfl rfl ?_
    refine E_iload_n (pc := 19) 1 dX7_under_19 rfl rfl ?_
    refine E_aald (pc := 20) dX7_under_20 rfl ⟨_, fun _ => rfl⟩ hx ?_
    refine E_callV0 (pc := 21) dX7_under_21 (C_X0_measure hT hT8) rfl kv_RX7_146 rfl rfl rfl ⟨Nat.le_of_ble_eq_true rfl, Nat.le_of_ble_eq_true rfl, Nat.le_of_ble_eq_true rfl, Nat.le_of_ble_eq_true rfl⟩ (Nat.le_of_ble_eq_true rfl) ?_
    refine E_aload_n (pc := 24) 0 dX7_under_24 rfl rfl ?_
    refine E_getR0 (pc := 25) dX7_under_25 fl_RX7_46 rfl rfl ?_
    refine E_aload_n (pc := 28) 0 dX7_under_28 rfl rfl ?_
    refine E_getR0 (pc := 29) dX7_under_29 fl_RX7_32 rfl rfl ?_
    refine E_iload_n (pc := 32) 1 dX7_under_32 rfl rfl ?_
    refine E_aald (pc := 33) dX7_under_33 rfl ⟨_, fun _ => rfl⟩ hx ?_
    refine E_callV1 (pc := 34) dX7_under_34 (C_X0_clears (T := T) (by rw [measN_t (by decide)]; exact hT) hT1 hT8) rfl kv_RX7_149 rfl rfl rfl ⟨Nat.le_of_ble_eq_true rfl, Nat.le_of_ble_eq_true rfl, Nat.le_of_ble_eq_true rfl, Nat.le_of_ble_eq_true rfl⟩ (Nat.le_of_ble_eq_true rfl) ?_
    refine E_top (y := sHigh (h g_values 0) (h g_nums (ixN w)) T) (by rw [measN_t (a := g_values) (by decide), measN_all.high hT1 hT8]) ?_
    refine E_istore_n (pc := 37) 2 dX7_under_37 rfl (Nat.le_of_ble_eq_true rfl) rfl (lz := [_, _, _]) rfl ?_
    refine E_iload_n (pc := 38) 2 dX7_under_38 rfl rfl ?_
    refine E_bipush (pc := 39) (-4) dX7_under_39 (by decide) ?_
    refine E_icmp_eq (pc := 41) 60 dX7_under_41 rfl (fun q41 => ?_) (fun q41 => ?_)
    · refine E_ldc (pc := 60) (-1000004) dX7_under_60 kk_RX7_159 ?_
      refine E_iret (pc := 62) dX7_under_62 rfl ?_
      first | exact ⟨by rw [if_pos hw, hTi, sUnder, if_pos (Or.inl q41)], Kp_meas⟩ | exact ⟨by rw [if_pos hw, hTi, sUnder, if_pos (Or.inr (Int32.not_le.mp q57))], Kp_meas⟩
    · refine E_aload_n (pc := 44) 0 dX7_under_44 rfl rfl ?_
      refine E_getR0 (pc := 45) dX7_under_45 fl_RX7_46 rfl rfl ?_
      refine E_aload_n (pc := 48) 0 dX7_under_48 rfl rfl ?_
      refine E_getR0 (pc := 49) dX7_under_49 fl_RX7_32 rfl rfl ?_
      refine E_iload_n (pc := 52) 1 dX7_under_52 rfl rfl ?_
      refine E_aald (pc := 53) dX7_under_53 rfl ⟨_, fun _ => rfl⟩ hx ?_
      refine E_callV1 (pc := 54) dX7_under_54 (C_X0_lowestTenth (T := T) (by rw [measN_t (by decide)]; exact hT) hT8) rfl kv_RX7_153 rfl rfl rfl ⟨Nat.le_of_ble_eq_true rfl, Nat.le_of_ble_eq_true rfl, Nat.le_of_ble_eq_true rfl, Nat.le_of_ble_eq_true rfl⟩ (Nat.le_of_ble_eq_true rfl) ?_
      refine E_top (y := (lowF (sU (h g_values 0) (h g_nums (ixN w))) T).1) (by rw [meas_low]) ?_
      refine E_if_ge (pc := 57) 63 dX7_under_57 rfl (fun q57 => ?_) (fun q57 => ?_)
      · refine E_aload_n (pc := 63) 0 dX7_under_63 rfl rfl ?_
        refine E_getR0 (pc := 64) dX7_under_64 fl_RX7_46 rfl rfl ?_
        refine E_aload_n (pc := 67) 0 dX7_under_67 rfl rfl ?_
        refine E_getR0 (pc := 68) dX7_under_68 fl_RX7_32 rfl rfl ?_
        refine E_iload_n (pc := 71) 1 dX7_under_71 rfl rfl ?_
        refine E_aald (pc := 72) dX7_under_72 rfl ⟨_, fun _ => rfl⟩ hx ?_
        refine E_callV1 (pc := 73) dX7_under_73 (C_X0_greatestMiddle (T := T) (by rw [measN_t (by decide)]; exact hT) hT8) rfl kv_RX7_160 rfl rfl rfl ⟨Nat.le_of_ble_eq_true rfl, Nat.le_of_ble_eq_true rfl, Nat.le_of_ble_eq_true rfl, Nat.le_of_ble_eq_true rfl⟩ (Nat.le_of_ble_eq_true rfl) ?_
        refine E_top (y := gtMid (h g_values 0) (sU (h g_values 0) (h g_nums (ixN w))) T) (by rw [measN_t (a := g_values) (by decide)]; exact gtMid_congr T (fun t ht => (measN_all t ht).1.2.2.1)) ?_
        refine E_aload_n (pc := 76) 0 dX7_under_76 rfl rfl ?_
        refine E_getR0 (pc := 77) dX7_under_77 fl_RX7_26 rfl rfl ?_
        refine E_callV1 (pc := 80) dX7_under_80 C_X3_total rfl kv_RX7_163 rfl rfl rfl ⟨Nat.le_of_ble_eq_true rfl, Nat.le_of_ble_eq_true rfl, Nat.le_of_ble_eq_true rfl, Nat.le_of_ble_eq_true rfl⟩ (Nat.le_of_ble_eq_true rfl) ?_
        refine E_iload_n (pc := 83) 2 dX7_under_83 rfl rfl ?_
        refine E_imul (pc := 84) dX7_under_84 ?_
        refine E_isub (pc := 85) dX7_under_85 ?_
        refine E_iret (pc := 86) dX7_under_86 rfl ?_
        exact ⟨by rw [if_pos hw, hTi, sUnder, if_neg (fun z => z.elim q41 (Int32.not_lt.mpr q57)), measN_t (a := g_values) (by decide)]; rfl, Kp_meas⟩
      · refine E_ldc (pc := 60) (-1000004) dX7_under_60 kk_RX7_159 ?_
        refine E_iret (pc := 62) dX7_under_62 rfl ?_
        first | exact ⟨by rw [if_pos hw, hTi, sUnder, if_pos (Or.inl q41)], Kp_meas⟩ | exact ⟨by rw [if_pos hw, hTi, sUnder, if_pos (Or.inr (Int32.not_le.mp q57))], Kp_meas⟩
  · refine E_ldc (pc := 8) (-1000000) dX7_under_8 kk_RX7_138 ?_
    refine E_iret (pc := 10) dX7_under_10 rfl ?_
    exact ⟨by rw [if_neg (bi_0.mp q5)], Kp.rfl⟩
abbrev sGets (V N : Nat → Int32) (T : Nat) : Prop := sMA V N 0 4 < 0 ∧ 0 < sLA V N (T - 1) 4
def sOrder (V N : Nat → Int32) (T : Nat) : Int32 := if sGets V N T then ordO (fun p => faF V N p T 0) T else -4
set_option maxHeartbeats 1600000 in
theorem C_X7_order {l : Launch} {G : GE} {h : Hp} {w : Int32} (hI : WT h) : CT l G mX7_order [vR g_oab 0, vI w] h (fun r h' => r = some (if isW h w then sOrder (h g_values 0) (h g_nums (ixN w)) (ixN (h g_way (ixN w) 1)) else -1) ∧ Kp h h') := by
  refine CT.of (lv := [_, _]) (by decide +kernel) (Nat.le_of_ble_eq_true rfl) rfl ?_
  refine E_aload_n (pc := 0) 0 dX7_order_0 rfl rfl ?_
  refine E_iload_n (pc := 1) 1 dX7_order_1 rfl rfl ?_
  refine E_callV1 (pc := 2) dX7_order_2 C_X7_isWay rfl kv_RX7_128 rfl rfl rfl ⟨Nat.le_of_ble_eq_true rfl, Nat.le_of_ble_eq_true rfl, Nat.le_of_ble_eq_true rfl, Nat.le_of_ble_eq_true rfl⟩ (Nat.le_of_ble_eq_true rfl) ?_
  refine E_if_ne (pc := 5) 10 dX7_order_5 rfl (fun q5 => ?_) (fun q5 => ?_)
  · have hw : isW h w := Decidable.of_not_not (fun z => q5 (bi_0.mpr z))
    obtain ⟨T, hT1, hT8, hT, hTi, hk, hx⟩ := hI.get hw
    refine E_aload_n (pc := 10) 0 dX7_order_10 rfl rfl ?_
    refine E_getR0 (pc := 11) dX7_order_11 fl_RX7_46 rfl rfl ?_
    refine E_aload_n (pc := 14) 0 dX7_order_14 rfl rfl ?_
    refine E_getR0 (pc := 15) dX7_order_15 fl_RX7_32 rfl rfl ?_
    refine E_iload_n (pc := 18) 1 dX7_order_18 rfl rfl ?_
    refine E_aald (pc := 19) dX7_order_19 rfl ⟨_, fun _ => rfl⟩ hx ?_
    refine E_callV0 (pc := 20) dX7_order_20 (C_X0_measure hT hT8) rfl kv_RX7_146 rfl rfl rfl ⟨Nat.le_of_ble_eq_true rfl, Nat.le_of_ble_eq_true rfl, Nat.le_of_ble_eq_true rfl, Nat.le_of_ble_eq_true rfl⟩ (Nat.le_of_ble_eq_true rfl) ?_
    refine E_aload_n (pc := 23) 0 dX7_order_23 rfl rfl ?_
    refine E_getR0 (pc := 24) dX7_order_24 fl_RX7_46 rfl rfl ?_
    refine E_aload_n (pc := 27) 0 dX7_order_27 rfl rfl ?_
    refine E_getR0 (pc := 28) dX7_order_28 fl_RX7_32 rfl rfl ?_
    refine E_iload_n (pc := 31) 1 dX7_order_31 rfl rfl ?_
    refine E_aald (pc := 32) dX7_order_32 rfl ⟨_, fun _ => rfl⟩ hx ?_
    refine E_callV1 (pc := 33) dX7_order_33 (C_X0_getsAcross (T := T) (by rw [measN_t (by decide)]; exact hT) hT1 hT8) rfl kv_RX7_167 rfl rfl rfl ⟨Nat.le_of_ble_eq_true rfl, Nat.le_of_ble_eq_true rfl, Nat.le_of_ble_eq_true rfl, Nat.le_of_ble_eq_true rfl⟩ (Nat.le_of_ble_eq_true rfl) ?_
    refine E_top (y := bi (sGets (h g_values 0) (h g_nums (ixN w)) T)) (by rw [(measN_all 0 (by omega)).1.2.1, (measN_all (T - 1) (by omega)).1.1]) ?_
    refine E_if_eq (pc := 36) 55 dX7_order_36 rfl (fun q36 => ?_) (fun q36 => ?_)
    · have hg := bi_0.mp q36
      refine E_bipush (pc := 55) (-4) dX7_order_55 (by decide) ?_
      refine E_iret (pc := 57) dX7_order_57 rfl ?_
      first | exact ⟨by rw [if_pos hw, hTi, sOrder, if_neg hg], Kp_meas⟩ | exact ⟨by rw [if_pos hw, hTi, sOrder, if_pos hg, measN_t (a := g_values) (by decide), measN_t (a := g_nums) (by decide)], Kp_meas⟩
    · have hg : sGets (h g_values 0) (h g_nums (ixN w)) T := Decidable.of_not_not (fun z => q36 (bi_0.mpr z))
      refine E_aload_n (pc := 39) 0 dX7_order_39 rfl rfl ?_
      refine E_getR0 (pc := 40) dX7_order_40 fl_RX7_46 rfl rfl ?_
      refine E_aload_n (pc := 43) 0 dX7_order_43 rfl rfl ?_
      refine E_getR0 (pc := 44) dX7_order_44 fl_RX7_32 rfl rfl ?_
      refine E_iload_n (pc := 47) 1 dX7_order_47 rfl rfl ?_
      refine E_aald (pc := 48) dX7_order_48 rfl ⟨_, fun _ => rfl⟩ hx ?_
      refine E_callV1 (pc := 49) dX7_order_49 (C_X0_orderOfParts (T := T) (by rw [measN_t (by decide)]; exact hT) hT8) rfl kv_RX7_171 rfl rfl rfl ⟨Nat.le_of_ble_eq_true rfl, Nat.le_of_ble_eq_true rfl, Nat.le_of_ble_eq_true rfl, Nat.le_of_ble_eq_true rfl⟩ (Nat.le_of_ble_eq_true rfl) ?_
      refine E_goto (pc := 52) 57 dX7_order_52 rfl ?_
      refine E_iret (pc := 57) dX7_order_57 rfl ?_
      first | exact ⟨by rw [if_pos hw, hTi, sOrder, if_neg hg], Kp_meas⟩ | exact ⟨by rw [if_pos hw, hTi, sOrder, if_pos hg, measN_t (a := g_values) (by decide), measN_t (a := g_nums) (by decide)], Kp_meas⟩
  · refine E_iconst (pc := 8) (-1) dX7_order_8 (by decide) ?_
    refine E_iret (pc := 9) dX7_order_9 rfl ?_
    exact ⟨by rw [if_neg (bi_0.mp q5)], Kp.rfl⟩
def ptF (N : Nat → Int32) (T : Nat) : Nat → Int32
  | 0 => 0
  | i + 1 => if bearsA N T (nI i) then ptF N T i ||| (1 <<< (nI i &&& 31)) else ptF N T i
set_option maxHeartbeats 1600000 in
theorem C_X7_pits {l : Launch} {G : GE} {h : Hp} {w : Int32} (hI : WT h) : CT l G mX7_pits [vR g_oab 0, vI w] h (fun r h' => r = some (if isW h w then ptF (h g_nums (ixN w)) (ixN (h g_way (ixN w) 1)) 3 else -1) ∧ h' = h) := by
  refine CT.of (lv := [_, _, _, _]) (by decide +kernel) (Nat.le_of_ble_eq_true rfl) rfl ?_
  refine E_aload_n (pc := 0) 0 dX7_pits_0 rfl rfl ?_
  refine E_iload_n (pc := 1) 1 dX7_pits_1 rfl rfl ?_
  refine E_callV1 (pc := 2) dX7_pits_2 C_X7_isWay rfl kv_RX7_128 rfl rfl rfl ⟨Nat.le_of_ble_eq_true rfl, Nat.le_of_ble_eq_true rfl, Nat.le_of_ble_eq_true rfl, Nat.le_of_ble_eq_true rfl⟩ (Nat.le_of_ble_eq_true rfl) ?_
  refine E_if_ne (pc := 5) 10 dX7_pits_5 rfl (fun q5 => ?_) (fun q5 => ?_)
  · have hw : isW h w := Decidable.of_not_not (fun z => q5 (bi_0.mpr z))
    obtain ⟨T, hT1, hT8, hT, hTi, hk, hx⟩ := hI.get hw
    refine E_iconst (pc := 10) (0) dX7_pits_10 (by decide) ?_
    refine E_istore_n (pc := 11) 2 dX7_pits_11 rfl (Nat.le_of_ble_eq_true rfl) rfl (lz := [_, _, _, _]) rfl ?_
    refine E_iconst (pc := 12) (0) dX7_pits_12 (by decide) ?_
    refine E_istore_n (pc := 13) 3 dX7_pits_13 rfl (Nat.le_of_ble_eq_true rfl) rfl (lz := [_, _, _, _]) rfl ?_
    refine down (P := fun i => Ev l G mX7_pits _ 14 [some (vR g_oab 0), some (vI w), some (vI (ptF (h g_nums (ixN w)) T i)), some (vI (nI i))] [] h) 3 ?_ ?_ 0 (Nat.zero_le _)
    · refine E_iload_n (pc := 14) 3 dX7_pits_14 rfl rfl ?_
      refine E_iconst (pc := 15) (2) dX7_pits_15 (by decide) ?_
      refine E_icmp_gt (pc := 16) 44 dX7_pits_16 rfl (fun q16 => ?_) (fun q16 => absurd (show (2 : Int32) < 3 by decide) q16)
      refine E_iload_n (pc := 44) 2 dX7_pits_44 rfl rfl ?_
      refine E_iret (pc := 45) dX7_pits_45 rfl ?_
      exact ⟨by rw [if_pos hw, hTi], rfl⟩
    · intro i hi hn
      refine E_iload_n (pc := 14) 3 dX7_pits_14 rfl rfl ?_
      refine E_iconst (pc := 15) (2) dX7_pits_15 (by decide) ?_
      refine E_icmp_gt (pc := 16) 44 dX7_pits_16 rfl (fun q16 => absurd q16 (nI_nlt (b := i) (a := 2) (by omega) (by decide))) (fun q16 => ?_)
      refine E_iload_n (pc := 19) 3 dX7_pits_19 rfl rfl ?_
      refine E_aload_n (pc := 20) 0 dX7_pits_20 rfl rfl ?_
      refine E_getR0 (pc := 21) dX7_pits_21 fl_RX7_32 rfl rfl ?_
      refine E_iload_n (pc := 24) 1 dX7_pits_24 rfl rfl ?_
      refine E_aald (pc := 25) dX7_pits_25 rfl ⟨_, fun _ => rfl⟩ hx ?_
      refine E_callS1 (pc := 26) dX7_pits_26 (C_X0_pitBears hT hT1 hT8) rfl ks_RX7_177 rfl ⟨Nat.le_of_ble_eq_true rfl, Nat.le_of_ble_eq_true rfl, Nat.le_of_ble_eq_true rfl, Nat.le_of_ble_eq_true rfl⟩ (Nat.le_of_ble_eq_true rfl) ?_
      refine E_if_eq (pc := 29) 38 dX7_pits_29 rfl (fun q29 => ?_) (fun q29 => ?_)
      · have hl : ptF (h g_nums (ixN w)) T (i + 1) = ptF (h g_nums (ixN w)) T i := if_neg (bi_0.mp q29)
        refine E_iincN (pc := 38) 3 dX7_pits_38 (Nat.le_of_ble_eq_true rfl) rfl rfl (lz := [_, _, _, _]) rfl ?_
        refine E_goto (pc := 41) 14 dX7_pits_41 rfl ?_
        rw [hl] at hn
        exact hn
      · have hl : ptF (h g_nums (ixN w)) T (i + 1) = ptF (h g_nums (ixN w)) T i ||| (1 <<< (nI i &&& 31)) := if_pos (Decidable.of_not_not (fun z => q29 (bi_0.mpr z)))
        refine E_iload_n (pc := 32) 2 dX7_pits_32 rfl rfl ?_
        refine E_iconst (pc := 33) (1) dX7_pits_33 (by decide) ?_
        refine E_iload_n (pc := 34) 3 dX7_pits_34 rfl rfl ?_
        refine E_ishl (pc := 35) dX7_pits_35 ?_
        refine E_ior (pc := 36) dX7_pits_36 ?_
        refine E_istore_n (pc := 37) 2 dX7_pits_37 rfl (Nat.le_of_ble_eq_true rfl) rfl (lz := [_, _, _, _]) rfl ?_
        refine E_iincN (pc := 38) 3 dX7_pits_38 (Nat.le_of_ble_eq_true rfl) rfl rfl (lz := [_, _, _, _]) rfl ?_
        refine E_goto (pc := 41) 14 dX7_pits_41 rfl ?_
        rw [hl] at hn
        exact hn
  · refine E_iconst (pc := 8) (-1) dX7_pits_8 (by decide) ?_
    refine E_iret (pc := 9) dX7_pits_9 rfl ?_
    exact ⟨by rw [if_neg (bi_0.mp q5)], rfl⟩
