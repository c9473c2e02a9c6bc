/-! the class: jumpers -/
/-- the place of the neighbour -/
def rix (C j S i : Nat) : Nat := (j + i + 5 * C - S) % C
theorem fm_ix : ∀ C, C < 13 → ∀ j, j < C → ∀ S, S < 6 → ∀ i, i < 2 * S + 1 → fmod (nI j + (-(nI S) + nI i)) (nI C) = nI (rix C j S i) := by decide +kernel
theorem far_no : ∀ S, S < 6 → ∀ i, i < 2 * S + 1 → ¬ nI S < -(nI S) + nI i := by decide +kernel
theorem far_yes : ∀ S, S < 6 → nI S < -(nI S) + nI (2 * S + 1) := by decide +kernel
theorem rix_lt {C j S i : Nat} (h : 0 < C) : rix C j S i < C := Nat.mod_lt _ h
def sbF (s : Nat → Int32) (C j S : Nat) : Nat → Int32
  | 0 => 0
  | i + 1 => sbF s C j S i ||| (1 <<< (s (rix C j S i) &&& 31))
set_option maxHeartbeats 1600000 in
theorem C_X2_seenBits {l : Launch} {G : GE} {h : Hp} {j S C : Nat} (hC : h g_ring 0 3 = nI C) (hC12 : C ≤ 12) (hj : j < C) (hS : S ≤ 5) : CT l G mX2_seenBits [vR g_ring 0, vI (nI j), vI (nI S)] h (fun r h' => r = some (sbF (h g_now 0) C j S (2 * S + 1)) ∧ h' = h) := by
  refine CT.of (lv := [_, _, _, _, _]) (by decide +kernel) (Nat.le_of_ble_eq_true rfl) rfl ?_
  have hcp : ¬ h g_ring 0 3 ≤ 0 := by rw [hC]; exact nI_nle (by omega) (by omega)
  have hc0 : ¬ nI C = 0 := nI_ne0 (by omega) (by omega)
  refine E_iconst (pc := 0) (0) dX2_seenBits_0 (by decide) ?_
  refine E_istore_n (pc := 1) 3 dX2_seenBits_1 rfl (Nat.le_of_ble_eq_true rfl) rfl (lz := [_, _, _, _, _]) rfl ?_
  refine E_aload_n (pc := 2) 0 dX2_seenBits_2 rfl rfl ?_
  refine E_getI (pc := 3) dX2_seenBits_3 fl_RX2_21 rfl rfl ?_
  refine E_if_le (pc := 6) 46 dX2_seenBits_6 rfl (fun q6 => absurd q6 hcp) (fun q6 => ?_)
  refine E_iload_n (pc := 9) 2 dX2_seenBits_9 rfl rfl ?_
  refine E_ineg (pc := 10) dX2_seenBits_10 ?_
  refine E_istore (pc := 11) 4 dX2_seenBits_11 (Nat.le_of_ble_eq_true rfl) rfl (lz := [_, _, _, _, _]) rfl ?_
  refine E_eq (lv' := [some (vR g_ring 0), some (vI (nI j)), some (vI (nI S)), some (vI 0), some (vI (-(nI S) + nI 0))]) (by rw [nI_0, Int32.add_zero]) rfl rfl ?_
  refine down (P := fun i => Ev l G mX2_seenBits _ 13 [some (vR g_ring 0), some (vI (nI j)), some (vI (nI S)), some (vI (sbF (h g_now 0) C j S i)), some (vI (-(nI S) + nI i))] [] h) (2 * S + 1) ?_ ?_ 0 (Nat.zero_le _)
  · refine E_iload (pc := 13) 4 dX2_seenBits_13 rfl ?_
    refine E_iload_n (pc := 15) 2 dX2_seenBits_15 rfl rfl ?_
    refine E_icmp_gt (pc := 16) 46 dX2_seenBits_16 rfl (fun q16 => ?_) (fun q16 => absurd (far_yes S (by omega)) q16)
    refine E_iload_n (pc := 46) 3 dX2_seenBits_46 rfl rfl ?_
    refine E_iret (pc := 47) dX2_seenBits_47 rfl ?_
    first | exact ⟨rfl, rfl⟩ | exact ⟨by grind [bi], rfl⟩
  · intro i hi hn
    refine E_iload (pc := 13) 4 dX2_seenBits_13 rfl ?_
    refine E_iload_n (pc := 15) 2 dX2_seenBits_15 rfl rfl ?_
    refine E_icmp_gt (pc := 16) 46 dX2_seenBits_16 rfl (fun q16 => absurd q16 (far_no S (by omega) i hi)) (fun q16 => ?_)
    refine E_iload_n (pc := 19) 3 dX2_seenBits_19 rfl rfl ?_
    refine E_iconst (pc := 20) (1) dX2_seenBits_20 (by decide) ?_
    refine E_aload_n (pc := 21) 0 dX2_seenBits_21 rfl rfl ?_
    refine E_getR0 (pc := 22) dX2_seenBits_22 fl_RX2_15 rfl rfl ?_
    refine E_iload_n (pc := 25) 1 dX2_seenBits_25 rfl rfl ?_
    refine E_iload (pc := 26) 4 dX2_seenBits_26 rfl ?_
    refine E_iadd (pc := 28) dX2_seenBits_28 ?_
    refine E_aload_n (pc := 29) 0 dX2_seenBits_29 rfl rfl ?_
    refine E_getI (pc := 30) dX2_seenBits_30 fl_RX2_21 rfl rfl ?_
    refine E_eq (st' := [vI (nI C), vI (nI j + (-(nI S) + nI i)), vR g_now 0, vI 1, vI (sbF (h g_now 0) C j S i)]) rfl (by rw [hC]) rfl ?_
    refine E_callS1 (pc := 33) dX2_seenBits_33 (C_J9_floorMod_7cf53 hc0) rfl ks_RX2_48 rfl ⟨Nat.le_of_ble_eq_true rfl, Nat.le_of_ble_eq_true rfl, Nat.le_of_ble_eq_true rfl, Nat.le_of_ble_eq_true rfl⟩ (Nat.le_of_ble_eq_true rfl) ?_
    refine E_top (y := nI (rix C j S i)) (fm_ix C (by omega) j hj S (by omega) i hi) ?_
    refine E_iald (pc := 36) dX2_seenBits_36 rfl (vp_in_nI (Nat.lt_of_lt_of_le (rix_lt (by omega)) hC12) (by decide)) ?_
    refine E_top (y := h g_now 0 (rix C j S i)) (by rw [ixN_nI (by have := rix_lt (C := C) (j := j) (S := S) (i := i) (by omega); omega)]) ?_
    refine E_ishl (pc := 37) dX2_seenBits_37 ?_
    refine E_ior (pc := 38) dX2_seenBits_38 ?_
    refine E_istore_n (pc := 39) 3 dX2_seenBits_39 rfl (Nat.le_of_ble_eq_true rfl) rfl (lz := [_, _, _, _, _]) rfl ?_
    refine E_iinc (pc := 40) 4 (1) dX2_seenBits_40 (Nat.le_of_ble_eq_true rfl) rfl rfl (by decide) (lz := [_, _, _, _, _]) rfl ?_
    refine E_goto (pc := 43) 13 dX2_seenBits_43 rfl ?_
    exact E_eq (by rw [nI_succ, Int32.add_assoc]; rfl) rfl rfl hn
/-- what one takes: of the ways seen the first of the greatest above one's own and habit -/
def chF (f : Nat → Int32) (bits own habit : Int32) : Nat → Int32 × Int32
  | 0 => (own, f (ixN own) + habit)
  | w + 1 => if ¬ bits &&& (1 <<< (nI w &&& 31)) = 0 ∧ (chF f bits own habit w).2 < f w then (nI w, f w) else chF f bits own habit w
set_option maxHeartbeats 1600000 in
theorem C_X2_choice {l : Launch} {G : GE} {h : Hp} {o : Nat} {bits habit : Int32} (ho : o < 6) : CT l G mX2_choice [vI (nI o), vI bits, vR g_worths 0, vI habit] h (fun r h' => r = some ((chF (h g_worths 0) bits (nI o) habit 6).1) ∧ h' = h) := by
  refine CT.of (lv := [_, _, _, _, _, _, _]) (by decide +kernel) (Nat.le_of_ble_eq_true rfl) rfl ?_
  refine E_iload_n (pc := 0) 0 dX2_choice_0 rfl rfl ?_
  refine E_istore (pc := 1) 4 dX2_choice_1 (Nat.le_of_ble_eq_true rfl) rfl (lz := [_, _, _, _, _, _, _]) rfl ?_
  refine E_aload_n (pc := 3) 2 dX2_choice_3 rfl rfl ?_
  refine E_iload_n (pc := 4) 0 dX2_choice_4 rfl rfl ?_
  refine E_iald (pc := 5) dX2_choice_5 rfl (vp_in_nI (by omega) (by decide)) ?_
  refine E_iload_n (pc := 6) 3 dX2_choice_6 rfl rfl ?_
  refine E_iadd (pc := 7) dX2_choice_7 ?_
  refine E_istore (pc := 8) 5 dX2_choice_8 (Nat.le_of_ble_eq_true rfl) rfl (lz := [_, _, _, _, _, _, _]) rfl ?_
  refine E_iconst (pc := 10) (0) dX2_choice_10 (by decide) ?_
  refine E_istore (pc := 11) 6 dX2_choice_11 (Nat.le_of_ble_eq_true rfl) rfl (lz := [_, _, _, _, _, _, _]) rfl ?_
  refine down (P := fun i => Ev l G mX2_choice _ 13 [some (vI (nI o)), some (vI bits), some (vR g_worths 0), some (vI habit), some (vI (chF (h g_worths 0) bits (nI o) habit i).1), some (vI (chF (h g_worths 0) bits (nI o) habit i).2), some (vI (nI i))] [] h) 6 ?_ ?_ 0 (Nat.zero_le _)
  · refine E_iload (pc := 13) 6 dX2_choice_13 rfl ?_
    refine E_bipush (pc := 15) (6) dX2_choice_15 (by decide) ?_
    refine E_icmp_ge (pc := 17) 54 dX2_choice_17 rfl (fun q17 => ?_) (fun q17 => absurd (show (6 : Int32) ≤ 6 by decide) q17)
    refine E_iload (pc := 54) 4 dX2_choice_54 rfl ?_
    refine E_iret (pc := 56) dX2_choice_56 rfl ?_
    first | exact ⟨rfl, rfl⟩ | exact ⟨by grind [bi], rfl⟩
  · intro i hi hn
    refine E_iload (pc := 13) 6 dX2_choice_13 rfl ?_
    refine E_bipush (pc := 15) (6) dX2_choice_15 (by decide) ?_
    refine E_icmp_ge (pc := 17) 54 dX2_choice_17 rfl (fun q17 => absurd q17 (nI_ge (b := 6) hi (by decide))) (fun q17 => ?_)
    refine E_iload_n (pc := 20) 1 dX2_choice_20 rfl rfl ?_
    refine E_iconst (pc := 21) (1) dX2_choice_21 (by decide) ?_
    refine E_iload (pc := 22) 6 dX2_choice_22 rfl ?_
    refine E_ishl (pc := 24) dX2_choice_24 ?_
    refine E_iand (pc := 25) dX2_choice_25 ?_
    refine E_if_eq (pc := 26) 48 dX2_choice_26 rfl (fun q26 => ?_) (fun q26 => ?_)
    · have hl : chF (h g_worths 0) bits (nI o) habit (i + 1) = chF (h g_worths 0) bits (nI o) habit i := if_neg (fun z => z.1 q26)
      refine E_iincN (pc := 48) 6 dX2_choice_48 (Nat.le_of_ble_eq_true rfl) rfl rfl (lz := [_, _, _, _, _, _, _]) rfl ?_
      refine E_goto (pc := 51) 13 dX2_choice_51 rfl ?_
      rw [hl] at hn
      exact hn
    · refine E_aload_n (pc := 29) 2 dX2_choice_29 rfl rfl ?_
      refine E_iload (pc := 30) 6 dX2_choice_30 rfl ?_
      refine E_iald (pc := 32) dX2_choice_32 rfl (vp_in_nI (by omega) (by decide)) ?_
      refine E_top (y := h g_worths 0 i) (by rw [ixN_nI (by omega)]) ?_
      refine E_iload (pc := 33) 5 dX2_choice_33 rfl ?_
      refine E_icmp_le (pc := 35) 48 dX2_choice_35 rfl (fun q35 => ?_) (fun q35 => ?_)
      · have hl : chF (h g_worths 0) bits (nI o) habit (i + 1) = chF (h g_worths 0) bits (nI o) habit i := if_neg (fun z => Int32.not_lt.mpr q35 z.2)
        refine E_iincN (pc := 48) 6 dX2_choice_48 (Nat.le_of_ble_eq_true rfl) rfl rfl (lz := [_, _, _, _, _, _, _]) rfl ?_
        refine E_goto (pc := 51) 13 dX2_choice_51 rfl ?_
        rw [hl] at hn
        exact hn
      · have hl : chF (h g_worths 0) bits (nI o) habit (i + 1) = (nI i, h g_worths 0 i) := if_pos ⟨q26, Int32.not_le.mp q35⟩
        refine E_aload_n (pc := 38) 2 dX2_choice_38 rfl rfl ?_
        refine E_iload (pc := 39) 6 dX2_choice_39 rfl ?_
        refine E_iald (pc := 41) dX2_choice_41 rfl (vp_in_nI (by omega) (by decide)) ?_
        refine E_top (y := h g_worths 0 i) (by rw [ixN_nI (by omega)]) ?_
        refine E_istore (pc := 42) 5 dX2_choice_42 (Nat.le_of_ble_eq_true rfl) rfl (lz := [_, _, _, _, _, _, _]) rfl ?_
        refine E_iload (pc := 44) 6 dX2_choice_44 rfl ?_
        refine E_istore (pc := 46) 4 dX2_choice_46 (Nat.le_of_ble_eq_true rfl) rfl (lz := [_, _, _, _, _, _, _]) rfl ?_
        refine E_iincN (pc := 48) 6 dX2_choice_48 (Nat.le_of_ble_eq_true rfl) rfl rfl (lz := [_, _, _, _, _, _, _]) rfl ?_
        refine E_goto (pc := 51) 13 dX2_choice_51 rfl ?_
        rw [hl] at hn
        exact hn
theorem chF_or (f : Nat → Int32) (bits own habit : Int32) : ∀ i, (chF f bits own habit i).1 = own ∨ ∃ w, w < i ∧ (chF f bits own habit i).1 = nI w
  | 0 => Or.inl rfl
  | i + 1 => by
    unfold chF
    by_cases hc : ¬ bits &&& (1 <<< (nI i &&& 31)) = 0 ∧ (chF f bits own habit i).2 < f i
    · rw [if_pos hc]; exact Or.inr ⟨i, Nat.lt_succ_self i, rfl⟩
    · rw [if_neg hc]
      rcases chF_or f bits own habit i with e | ⟨w, hw, e⟩
      · exact Or.inl e
      · exact Or.inr ⟨w, Nat.lt_succ_of_lt hw, e⟩
/-- what jumper j has a year later -/
def yrF (f : Nat → Int32) (C S : Nat) (habit : Int32) (s : Nat → Int32) (j : Nat) : Int32 := (chF f (sbF s C j S (2 * S + 1)) (s j) habit 6).1
/-- jumpers up to C have ways -/
def rgS (s : Nat → Int32) (C : Nat) : Prop := ∀ j, j < C → ∃ a, a < 6 ∧ s j = nI a
theorem yrF_rg {f : Nat → Int32} {C S : Nat} {habit : Int32} {s : Nat → Int32} (hs : rgS s C) : rgS (yrF f C S habit s) C := by
  intro j hj
  unfold yrF
  rcases chF_or f (sbF s C j S (2 * S + 1)) (s j) habit 6 with e | ⟨w, hw, e⟩
  · rw [e]; exact hs j hj
  · exact ⟨w, hw, e⟩
theorem sbF_congr {s s' : Nat → Int32} {C j S : Nat} (hC : 0 < C) (e : ∀ i, i < C → s i = s' i) : ∀ i, sbF s C j S i = sbF s' C j S i
  | 0 => rfl
  | i + 1 => by
    unfold sbF
    rw [sbF_congr hC e i, e _ (rix_lt hC)]
theorem yrF_congr {f : Nat → Int32} {C S : Nat} {habit : Int32} {s s' : Nat → Int32} (e : ∀ i, i < C → s i = s' i) {j : Nat} (hj : j < C) : yrF f C S habit s j = yrF f C S habit s' j := by
  unfold yrF
  rw [sbF_congr (by omega) e, e j hj]
set_option maxHeartbeats 1600000 in
theorem C_X2_goYear {l : Launch} {G : GE} {h : Hp} {C S : Nat} (hC : h g_ring 0 3 = nI C) (hC12 : C ≤ 12) (hS : h g_values 0 17 = nI S) (hS5 : S ≤ 5) (hr : rgS (h g_now 0) C) : CT l G mX2_goYear [vR g_ring 0, vR g_worths 0, vR g_rules 0] h (fun r h' => r = none ∧ (∀ a, a ≠ g_now → a ≠ g_then → h' a = h a) ∧ ∀ j, j < C → h' g_now 0 j = yrF (h g_worths 0) C S (h g_values 0 16) (h g_now 0) j) := by
  refine CT.of (lv := [_, _, _, _]) (by decide +kernel) (Nat.le_of_ble_eq_true rfl) rfl ?_
  refine E_iconst (pc := 0) (0) dX2_goYear_0 (by decide) ?_
  refine E_istore_n (pc := 1) 3 dX2_goYear_1 rfl (Nat.le_of_ble_eq_true rfl) rfl (lz := [_, _, _, _]) rfl ?_
  refine down (P := fun i => ∀ h2, (∀ a, a ≠ g_then → h2 a = h a) → (∀ j, j < i → h2 g_then 0 j = yrF (h g_worths 0) C S (h g_values 0 16) (h g_now 0) j) → Ev l G mX2_goYear _ 2 [some (vR g_ring 0), some (vR g_worths 0), some (vR g_rules 0), some (vI (nI i))] [] h2) C ?_ ?_ 0 (Nat.zero_le _) h (fun _ _ => rfl) (fun j hj => absurd hj (Nat.not_lt_zero j))
  · intro h2 e1 e2
    refine E_iload_n (pc := 2) 3 dX2_goYear_2 rfl rfl ?_
    refine E_aload_n (pc := 3) 0 dX2_goYear_3 rfl rfl ?_
    refine E_getI (pc := 4) dX2_goYear_4 fl_RX2_21 rfl rfl ?_
    refine E_eq (st' := [vI (nI C), vI (nI C)]) rfl (by rw [e1 g_ring (by decide), hC]) rfl ?_
    refine E_icmp_ge (pc := 7) 51 dX2_goYear_7 rfl (fun q7 => ?_) (fun q7 => absurd (Int32.le_refl _) q7)
    refine E_aload_n (pc := 51) 0 dX2_goYear_51 rfl rfl ?_
    refine E_getR0 (pc := 52) dX2_goYear_52 fl_RX2_18 rfl rfl ?_
    refine E_iconst (pc := 55) (0) dX2_goYear_55 (by decide) ?_
    refine E_aload_n (pc := 56) 0 dX2_goYear_56 rfl rfl ?_
    refine E_getR0 (pc := 57) dX2_goYear_57 fl_RX2_15 rfl rfl ?_
    refine E_iconst (pc := 60) (0) dX2_goYear_60 (by decide) ?_
    refine E_aload_n (pc := 61) 0 dX2_goYear_61 rfl rfl ?_
    refine E_getI (pc := 62) dX2_goYear_62 fl_RX2_21 rfl rfl ?_
    refine E_eq (st' := [vI (nI C), vI 0, vR g_now 0, vI 0, vR g_then 0]) rfl (by rw [e1 g_ring (by decide), hC]) rfl ?_
    refine E_copy (pc := 65) dX2_goYear_65 kc_RX2_29 rfl rfl ⟨Nat.le_of_ble_eq_true rfl, Nat.le_of_ble_eq_true rfl⟩ (by decide) (by decide) (nI_pos (by omega)) (by show 0 + ixN (nI C) ≤ 12; rw [ixN_nI (by omega)]; omega) (by show 0 + ixN (nI C) ≤ 12; rw [ixN_nI (by omega)]; omega) ?_
    refine E_vret (pc := 68) dX2_goYear_68 rfl ?_
    exact ⟨rfl, fun a h1 h3 => by rw [hsetA_t h1]; exact e1 a h3, fun j hj => by rw [hsetA_arr]; show va_cpy (h2 g_then 0) (h2 g_now 0) 0 0 (ixN (nI C)) j = _; rw [ixN_nI (by omega), cpy_lt hj]; exact e2 j hj⟩
  · intro i hi hn h2 e1 e2
    obtain ⟨o, ho, eo⟩ := hr i hi
    refine E_iload_n (pc := 2) 3 dX2_goYear_2 rfl rfl ?_
    refine E_aload_n (pc := 3) 0 dX2_goYear_3 rfl rfl ?_
    refine E_getI (pc := 4) dX2_goYear_4 fl_RX2_21 rfl rfl ?_
    refine E_eq (st' := [vI (nI C), vI (nI i)]) rfl (by rw [e1 g_ring (by decide), hC]) rfl ?_
    refine E_icmp_ge (pc := 7) 51 dX2_goYear_7 rfl (fun q7 => absurd q7 (nI_ge hi (by omega))) (fun q7 => ?_)
    refine E_aload_n (pc := 10) 0 dX2_goYear_10 rfl rfl ?_
    refine E_getR0 (pc := 11) dX2_goYear_11 fl_RX2_18 rfl rfl ?_
    refine E_iload_n (pc := 14) 3 dX2_goYear_14 rfl rfl ?_
    refine E_aload_n (pc := 15) 0 dX2_goYear_15 rfl rfl ?_
    refine E_getR0 (pc := 16) dX2_goYear_16 fl_RX2_15 rfl rfl ?_
    refine E_iload_n (pc := 19) 3 dX2_goYear_19 rfl rfl ?_
    refine E_iald (pc := 20) dX2_goYear_20 rfl (vp_in_nI (by omega) (by decide)) ?_
    refine E_top (y := nI o) (by rw [ixN_nI (by omega), e1 g_now (by decide)]; exact eo) ?_
    refine E_aload_n (pc := 21) 0 dX2_goYear_21 rfl rfl ?_
    refine E_iload_n (pc := 22) 3 dX2_goYear_22 rfl rfl ?_
    refine E_aload_n (pc := 23) 2 dX2_goYear_23 rfl rfl ?_
    refine E_getR0 (pc := 24) dX2_goYear_24 fl_RX2_35 rfl rfl ?_
    refine E_bipush (pc := 27) (17) dX2_goYear_27 (by decide) ?_
    refine E_iald (pc := 29) dX2_goYear_29 rfl (by unfold vp_in; decide) ?_
    refine E_top (y := nI S) (by rw [e1 g_values (by decide)]; exact hS) ?_
    refine E_callV1 (pc := 30) dX2_goYear_30 (C_X2_seenBits (by rw [e1 g_ring (by decide)]; exact hC) hC12 hi hS5) rfl kv_RX2_40 rfl rfl rfl ⟨Nat.le_of_ble_eq_true rfl, Nat.le_of_ble_eq_true rfl, Nat.le_of_ble_eq_true rfl, Nat.le_of_ble_eq_true rfl⟩ (Nat.le_of_ble_eq_true rfl) ?_
    refine E_aload_n (pc := 33) 1 dX2_goYear_33 rfl rfl ?_
    refine E_aload_n (pc := 34) 2 dX2_goYear_34 rfl rfl ?_
    refine E_getR0 (pc := 35) dX2_goYear_35 fl_RX2_35 rfl rfl ?_
    refine E_bipush (pc := 38) (16) dX2_goYear_38 (by decide) ?_
    refine E_iald (pc := 40) dX2_goYear_40 rfl (by unfold vp_in; decide) ?_
    refine E_top (y := h g_values 0 16) (by rw [e1 g_values (by decide)]; rfl) ?_
    refine E_callS1 (pc := 41) dX2_goYear_41 (C_X2_choice ho) rfl ks_RX2_44 rfl ⟨Nat.le_of_ble_eq_true rfl, Nat.le_of_ble_eq_true rfl, Nat.le_of_ble_eq_true rfl, Nat.le_of_ble_eq_true rfl⟩ (Nat.le_of_ble_eq_true rfl) ?_
    refine E_top (y := yrF (h g_worths 0) C S (h g_values 0 16) (h g_now 0) i) (by rw [e1 g_worths (by decide), e1 g_now (by decide), yrF, eo]) ?_
    refine E_iast (pc := 44) dX2_goYear_44 rfl (vp_in_nI (by omega) (by decide)) ?_
    refine E_iincN (pc := 45) 3 dX2_goYear_45 (Nat.le_of_ble_eq_true rfl) rfl rfl (lz := [_, _, _, _]) rfl ?_
    refine E_goto (pc := 48) 2 dX2_goYear_48 rfl ?_
    exact hn _ (fun a ha => by rw [hset_t ha]; exact e1 a ha) (by rw [ixN_nI (by omega)]; exact lt_s (fun j hj => by rw [hset_k (by omega)]; exact e2 j hj) (hset_eq _ _ _ _ _))
/-- what jumpers have n years later -/
def yrN (f : Nat → Int32) (C S : Nat) (habit : Int32) : Nat → (Nat → Int32) → Nat → Int32
  | 0, s => s
  | n + 1, s => yrN f C S habit n (yrF f C S habit s)
theorem yrN_congr {f : Nat → Int32} {C S : Nat} {habit : Int32} : ∀ (n : Nat) {s s' : Nat → Int32}, (∀ i, i < C → s i = s' i) → ∀ j, j < C → yrN f C S habit n s j = yrN f C S habit n s' j
  | 0, _, _, e, j, hj => e j hj
  | n + 1, _, _, e, j, hj => yrN_congr n (fun i hi => yrF_congr e hi) j hj
theorem yrN_rg {f : Nat → Int32} {C S : Nat} {habit : Int32} : ∀ (n : Nat) {s : Nat → Int32}, rgS s C → rgS (yrN f C S habit n s) C
  | 0, _, h => h
  | n + 1, _, h => yrN_rg n (yrF_rg h)
theorem yrF_congrF {f f' : Nat → Int32} {C S : Nat} {habit : Int32} {s : Nat → Int32} (hs : rgS s C) (e : ∀ i, i < 6 → f i = f' i) {j : Nat} (hj : j < C) : yrF f C S habit s j = yrF f' C S habit s j := by
  unfold yrF
  obtain ⟨a, ha, ea⟩ := hs j hj
  have key : ∀ i, i ≤ 6 → chF f (sbF s C j S (2 * S + 1)) (s j) habit i = chF f' (sbF s C j S (2 * S + 1)) (s j) habit i := by
    intro i
    induction i with
    | zero => intro _; unfold chF; rw [ea, ixN_nI (by omega), e a ha]
    | succ i ih => intro hi; unfold chF; rw [ih (by omega), e i (by omega)]
  rw [key 6 (Nat.le_refl 6)]
theorem yrN_congrF {f f' : Nat → Int32} {C S : Nat} {habit : Int32} (e : ∀ i, i < 6 → f i = f' i) : ∀ (n : Nat) {s : Nat → Int32}, rgS s C → ∀ j, j < C → yrN f C S habit n s j = yrN f' C S habit n s j
  | 0, _, _, _, _ => rfl
  | n + 1, s, hs, j, hj => by
    show yrN f C S habit n (yrF f C S habit s) j = yrN f' C S habit n (yrF f' C S habit s) j
    rw [yrN_congrF e n (yrF_rg hs) j hj]
    exact yrN_congr n (fun i hi => yrF_congrF hs e hi) j hj
