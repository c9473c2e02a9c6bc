/-! the class: years, who, all, odd, counts -/
def unF (s s0 : Nat → Int32) : Nat → Int32
  | 0 => 0
  | j + 1 => if s j = s0 j then unF s s0 j else unF s s0 j ||| (1 <<< (nI j &&& 31))
set_option maxHeartbeats 1600000 in
theorem C_X2_unlikeHeld {l : Launch} {G : GE} {h : Hp} {C : Nat} (hC : h g_ring 0 3 = nI C) (hC12 : C ≤ 12) : CT l G mX2_unlikeHeld [vR g_ring 0] h (fun r h' => r = some (unF (h g_now 0) (h g_held 0) C) ∧ h' = h) := by
  refine CT.of (lv := [_, _, _]) (by decide +kernel) (Nat.le_of_ble_eq_true rfl) rfl ?_
  refine E_iconst (pc := 0) (0) dX2_unlikeHeld_0 (by decide) ?_
  refine E_istore_n (pc := 1) 1 dX2_unlikeHeld_1 rfl (Nat.le_of_ble_eq_true rfl) rfl (lz := [_, _, _]) rfl ?_
  refine E_iconst (pc := 2) (0) dX2_unlikeHeld_2 (by decide) ?_
  refine E_istore_n (pc := 3) 2 dX2_unlikeHeld_3 rfl (Nat.le_of_ble_eq_true rfl) rfl (lz := [_, _, _]) rfl ?_
  refine down (P := fun i => Ev l G mX2_unlikeHeld _ 4 [some (vR g_ring 0), some (vI (unF (h g_now 0) (h g_held 0) i)), some (vI (nI i))] [] h) C ?_ ?_ 0 (Nat.zero_le _)
  · refine E_iload_n (pc := 4) 2 dX2_unlikeHeld_4 rfl rfl ?_
    refine E_aload_n (pc := 5) 0 dX2_unlikeHeld_5 rfl rfl ?_
    refine E_getI (pc := 6) dX2_unlikeHeld_6 fl_RX2_21 rfl rfl ?_
    refine E_top (y := nI C) hC ?_
    refine E_icmp_ge (pc := 9) 39 dX2_unlikeHeld_9 rfl (fun q9 => ?_) (fun q9 => absurd (Int32.le_refl _) q9)
    refine E_iload_n (pc := 39) 1 dX2_unlikeHeld_39 rfl rfl ?_
    refine E_iret (pc := 40) dX2_unlikeHeld_40 rfl ?_
    first | exact ⟨rfl, rfl⟩ | exact ⟨by grind [bi], rfl⟩
  · intro i hi hn
    refine E_iload_n (pc := 4) 2 dX2_unlikeHeld_4 rfl rfl ?_
    refine E_aload_n (pc := 5) 0 dX2_unlikeHeld_5 rfl rfl ?_
    refine E_getI (pc := 6) dX2_unlikeHeld_6 fl_RX2_21 rfl rfl ?_
    refine E_top (y := nI C) hC ?_
    refine E_icmp_ge (pc := 9) 39 dX2_unlikeHeld_9 rfl (fun q9 => absurd q9 (nI_ge hi (by omega))) (fun q9 => ?_)
    refine E_aload_n (pc := 12) 0 dX2_unlikeHeld_12 rfl rfl ?_
    refine E_getR0 (pc := 13) dX2_unlikeHeld_13 fl_RX2_15 rfl rfl ?_
    refine E_iload_n (pc := 16) 2 dX2_unlikeHeld_16 rfl rfl ?_
    refine E_iald (pc := 17) dX2_unlikeHeld_17 rfl (vp_in_nI (by omega) (by decide)) ?_
    refine E_aload_n (pc := 18) 0 dX2_unlikeHeld_18 rfl rfl ?_
    refine E_getR0 (pc := 19) dX2_unlikeHeld_19 fl_RX2_11 rfl rfl ?_
    refine E_iload_n (pc := 22) 2 dX2_unlikeHeld_22 rfl rfl ?_
    refine E_iald (pc := 23) dX2_unlikeHeld_23 rfl (vp_in_nI (by omega) (by decide)) ?_
    refine E_eq (st' := [vI (h g_held 0 i), vI (h g_now 0 i)]) rfl (by rw [ixN_nI (by omega)]) rfl ?_
    refine E_icmp_eq (pc := 24) 33 dX2_unlikeHeld_24 rfl (fun q24 => ?_) (fun q24 => ?_)
    · have hl : unF (h g_now 0) (h g_held 0) (i + 1) = unF (h g_now 0) (h g_held 0) i := if_pos q24
      refine E_iincN (pc := 33) 2 dX2_unlikeHeld_33 (Nat.le_of_ble_eq_true rfl) rfl rfl (lz := [_, _, _]) rfl ?_
      refine E_goto (pc := 36) 4 dX2_unlikeHeld_36 rfl ?_
      rw [hl] at hn
      exact hn
    · have hl : unF (h g_now 0) (h g_held 0) (i + 1) = unF (h g_now 0) (h g_held 0) i ||| (1 <<< (nI i &&& 31)) := if_neg q24
      refine E_iload_n (pc := 27) 1 dX2_unlikeHeld_27 rfl rfl ?_
      refine E_iconst (pc := 28) (1) dX2_unlikeHeld_28 (by decide) ?_
      refine E_iload_n (pc := 29) 2 dX2_unlikeHeld_29 rfl rfl ?_
      refine E_ishl (pc := 30) dX2_unlikeHeld_30 ?_
      refine E_ior (pc := 31) dX2_unlikeHeld_31 ?_
      refine E_istore_n (pc := 32) 1 dX2_unlikeHeld_32 rfl (Nat.le_of_ble_eq_true rfl) rfl (lz := [_, _, _]) rfl ?_
      refine E_iincN (pc := 33) 2 dX2_unlikeHeld_33 (Nat.le_of_ble_eq_true rfl) rfl rfl (lz := [_, _, _]) rfl ?_
      refine E_goto (pc := 36) 4 dX2_unlikeHeld_36 rfl ?_
      rw [hl] at hn
      exact hn
def cntW (s : Nat → Int32) (w : Int32) : Nat → Nat
  | 0 => 0
  | j + 1 => if s j = w then cntW s w j + 1 else cntW s w j
theorem cntW_le (s : Nat → Int32) (w : Int32) : ∀ j, cntW s w j ≤ j
  | 0 => Nat.le_refl 0
  | j + 1 => by
    have := cntW_le s w j
    unfold cntW
    by_cases e : s j = w
    · rw [if_pos e]; omega
    · rw [if_neg e]; omega
theorem cntW_congr {s s' : Nat → Int32} {w : Int32} : ∀ j, (∀ i, i < j → s i = s' i) → cntW s w j = cntW s' w j
  | 0, _ => rfl
  | j + 1, e => by
    unfold cntW
    rw [cntW_congr j (fun i hi => e i (Nat.lt_succ_of_lt hi)), e j (Nat.lt_succ_self j)]
set_option maxHeartbeats 1600000 in
theorem C_X2_countIn {l : Launch} {G : GE} {h : Hp} {C t : Nat} {w : Int32} (ht : t = g_held ∨ t = g_now) (hC : h g_ring 0 3 = nI C) (hC12 : C ≤ 12) : CT l G mX2_countIn [vR g_ring 0, vR t 0, vI w] h (fun r h' => r = some (nI (cntW (h t 0) w C)) ∧ h' = h) := by
  refine CT.of (lv := [_, _, _, _, _]) (by decide +kernel) (Nat.le_of_ble_eq_true rfl) rfl ?_
  have hs : sh t = some (.inr (.inl (0, 12))) := by rcases ht with rfl | rfl <;> rfl
  refine E_iconst (pc := 0) (0) dX2_countIn_0 (by decide) ?_
  refine E_istore_n (pc := 1) 3 dX2_countIn_1 rfl (Nat.le_of_ble_eq_true rfl) rfl (lz := [_, _, _, _, _]) rfl ?_
  refine E_iconst (pc := 2) (0) dX2_countIn_2 (by decide) ?_
  refine E_istore (pc := 3) 4 dX2_countIn_3 (Nat.le_of_ble_eq_true rfl) rfl (lz := [_, _, _, _, _]) rfl ?_
  refine down (P := fun i => Ev l G mX2_countIn _ 5 [some (vR g_ring 0), some (vR t 0), some (vI w), some (vI (nI (cntW (h t 0) w i))), some (vI (nI i))] [] h) C ?_ ?_ 0 (Nat.zero_le _)
  · refine E_iload (pc := 5) 4 dX2_countIn_5 rfl ?_
    refine E_aload_n (pc := 7) 0 dX2_countIn_7 rfl rfl ?_
    refine E_getI (pc := 8) dX2_countIn_8 fl_RX2_21 rfl rfl ?_
    refine E_top (y := nI C) hC ?_
    refine E_icmp_ge (pc := 11) 31 dX2_countIn_11 rfl (fun q11 => ?_) (fun q11 => absurd (Int32.le_refl _) q11)
    refine E_iload_n (pc := 31) 3 dX2_countIn_31 rfl rfl ?_
    refine E_iret (pc := 32) dX2_countIn_32 rfl ?_
    first | exact ⟨rfl, rfl⟩ | exact ⟨by grind [bi], rfl⟩
  · intro i hi hn
    refine E_iload (pc := 5) 4 dX2_countIn_5 rfl ?_
    refine E_aload_n (pc := 7) 0 dX2_countIn_7 rfl rfl ?_
    refine E_getI (pc := 8) dX2_countIn_8 fl_RX2_21 rfl rfl ?_
    refine E_top (y := nI C) hC ?_
    refine E_icmp_ge (pc := 11) 31 dX2_countIn_11 rfl (fun q11 => absurd q11 (nI_ge hi (by omega))) (fun q11 => ?_)
    refine E_aload_n (pc := 14) 1 dX2_countIn_14 rfl rfl ?_
    refine E_iload (pc := 15) 4 dX2_countIn_15 rfl ?_
    refine E_iald (pc := 17) dX2_countIn_17 hs (vp_in_nI (by omega) (by decide)) ?_
    refine E_top (y := h t 0 i) (by rw [ixN_nI (by omega)]) ?_
    refine E_iload_n (pc := 18) 2 dX2_countIn_18 rfl rfl ?_
    refine E_icmp_ne (pc := 19) 25 dX2_countIn_19 rfl (fun q19 => ?_) (fun q19 => ?_)
    · have hl : cntW (h t 0) w (i + 1) = cntW (h t 0) w i := if_neg q19
      refine E_iincN (pc := 25) 4 dX2_countIn_25 (Nat.le_of_ble_eq_true rfl) rfl rfl (lz := [_, _, _, _, _]) rfl ?_
      refine E_goto (pc := 28) 5 dX2_countIn_28 rfl ?_
      rw [hl] at hn
      exact hn
    · have hl : cntW (h t 0) w (i + 1) = cntW (h t 0) w i + 1 := if_pos q19
      refine E_iincN (pc := 22) 3 dX2_countIn_22 (Nat.le_of_ble_eq_true rfl) rfl rfl (lz := [_, _, _, _, _]) rfl ?_
      refine E_iincN (pc := 25) 4 dX2_countIn_25 (Nat.le_of_ble_eq_true rfl) rfl rfl (lz := [_, _, _, _, _]) rfl ?_
      refine E_goto (pc := 28) 5 dX2_countIn_28 rfl ?_
      rw [hl] at hn
      exact hn
set_option maxHeartbeats 1600000 in
theorem C_X2_isOfOneWay {l : Launch} {G : GE} {h : Hp} {C : Nat} (hC : h g_ring 0 3 = nI C) (hC12 : C ≤ 12) : CT l G mX2_isOfOneWay [vR g_ring 0] h (fun r h' => r = some (bi (cntW (h g_now 0) (h g_now 0 0) C = C)) ∧ h' = h) := by
  refine CT.of (lv := [_]) (by decide +kernel) (Nat.le_of_ble_eq_true rfl) rfl ?_
  refine E_aload_n (pc := 0) 0 dX2_isOfOneWay_0 rfl rfl ?_
  refine E_aload_n (pc := 1) 0 dX2_isOfOneWay_1 rfl rfl ?_
  refine E_getR0 (pc := 2) dX2_isOfOneWay_2 fl_RX2_15 rfl rfl ?_
  refine E_aload_n (pc := 5) 0 dX2_isOfOneWay_5 rfl rfl ?_
  refine E_getR0 (pc := 6) dX2_isOfOneWay_6 fl_RX2_15 rfl rfl ?_
  refine E_iconst (pc := 9) (0) dX2_isOfOneWay_9 (by decide) ?_
  refine E_iald (pc := 10) dX2_isOfOneWay_10 rfl (by unfold vp_in; decide) ?_
  refine E_top (y := h g_now 0 0) rfl ?_
  refine E_callV1 (pc := 11) dX2_isOfOneWay_11 (C_X2_countIn (Or.inr rfl) hC hC12) rfl kv_RX2_53 rfl rfl rfl ⟨Nat.le_of_ble_eq_true rfl, Nat.le_of_ble_eq_true rfl, Nat.le_of_ble_eq_true rfl, Nat.le_of_ble_eq_true rfl⟩ (Nat.le_of_ble_eq_true rfl) ?_
  refine E_aload_n (pc := 14) 0 dX2_isOfOneWay_14 rfl rfl ?_
  refine E_getI (pc := 15) dX2_isOfOneWay_15 fl_RX2_21 rfl rfl ?_
  refine E_top (y := nI C) hC ?_
  refine E_icmp_ne (pc := 18) 25 dX2_isOfOneWay_18 rfl (fun q18 => ?_) (fun q18 => ?_)
  · refine E_iconst (pc := 25) (0) dX2_isOfOneWay_25 (by decide) ?_
    refine E_zret (pc := 26) dX2_isOfOneWay_26 rfl rfl ?_
    first | exact ⟨congrArg some (bi_f (fun z => q18 (congrArg nI z))).symm, rfl⟩ | exact ⟨congrArg some (bi_t ((nI_eq (by have := cntW_le (h g_now 0) (h g_now 0 0) C; omega) (by omega)).mp q18)).symm, rfl⟩
  · refine E_iconst (pc := 21) (1) dX2_isOfOneWay_21 (by decide) ?_
    refine E_goto (pc := 22) 26 dX2_isOfOneWay_22 rfl ?_
    refine E_zret (pc := 26) dX2_isOfOneWay_26 rfl rfl ?_
    first | exact ⟨congrArg some (bi_f (fun z => q18 (congrArg nI z))).symm, rfl⟩ | exact ⟨congrArg some (bi_t ((nI_eq (by have := cntW_le (h g_now 0) (h g_now 0 0) C; omega) (by omega)).mp q18)).symm, rfl⟩
def hbF (s : Nat → Int32) : Nat → Int32
  | 0 => 0
  | j + 1 => hbF s j ||| (1 <<< (s j &&& 31))
set_option maxHeartbeats 1600000 in
theorem C_X2_heldBits {l : Launch} {G : GE} {h : Hp} {C : Nat} (hC : h g_ring 0 3 = nI C) (hC12 : C ≤ 12) : CT l G mX2_heldBits [vR g_ring 0] h (fun r h' => r = some (hbF (h g_held 0) C) ∧ h' = h) := by
  refine CT.of (lv := [_, _, _]) (by decide +kernel) (Nat.le_of_ble_eq_true rfl) rfl ?_
  refine E_iconst (pc := 0) (0) dX2_heldBits_0 (by decide) ?_
  refine E_istore_n (pc := 1) 1 dX2_heldBits_1 rfl (Nat.le_of_ble_eq_true rfl) rfl (lz := [_, _, _]) rfl ?_
  refine E_iconst (pc := 2) (0) dX2_heldBits_2 (by decide) ?_
  refine E_istore_n (pc := 3) 2 dX2_heldBits_3 rfl (Nat.le_of_ble_eq_true rfl) rfl (lz := [_, _, _]) rfl ?_
  refine down (P := fun i => Ev l G mX2_heldBits _ 4 [some (vR g_ring 0), some (vI (hbF (h g_held 0) i)), some (vI (nI i))] [] h) C ?_ ?_ 0 (Nat.zero_le _)
  · refine E_iload_n (pc := 4) 2 dX2_heldBits_4 rfl rfl ?_
    refine E_aload_n (pc := 5) 0 dX2_heldBits_5 rfl rfl ?_
    refine E_getI (pc := 6) dX2_heldBits_6 fl_RX2_21 rfl rfl ?_
    refine E_top (y := nI C) hC ?_
    refine E_icmp_ge (pc := 9) 29 dX2_heldBits_9 rfl (fun q9 => ?_) (fun q9 => absurd (Int32.le_refl _) q9)
    refine E_iload_n (pc := 29) 1 dX2_heldBits_29 rfl rfl ?_
    refine E_iret (pc := 30) dX2_heldBits_30 rfl ?_
    first | exact ⟨rfl, rfl⟩ | exact ⟨by grind [bi], rfl⟩
  · intro i hi hn
    refine E_iload_n (pc := 4) 2 dX2_heldBits_4 rfl rfl ?_
    refine E_aload_n (pc := 5) 0 dX2_heldBits_5 rfl rfl ?_
    refine E_getI (pc := 6) dX2_heldBits_6 fl_RX2_21 rfl rfl ?_
    refine E_top (y := nI C) hC ?_
    refine E_icmp_ge (pc := 9) 29 dX2_heldBits_9 rfl (fun q9 => absurd q9 (nI_ge hi (by omega))) (fun q9 => ?_)
    refine E_iload_n (pc := 12) 1 dX2_heldBits_12 rfl rfl ?_
    refine E_iconst (pc := 13) (1) dX2_heldBits_13 (by decide) ?_
    refine E_aload_n (pc := 14) 0 dX2_heldBits_14 rfl rfl ?_
    refine E_getR0 (pc := 15) dX2_heldBits_15 fl_RX2_11 rfl rfl ?_
    refine E_iload_n (pc := 18) 2 dX2_heldBits_18 rfl rfl ?_
    refine E_iald (pc := 19) dX2_heldBits_19 rfl (vp_in_nI (by omega) (by decide)) ?_
    refine E_top (y := h g_held 0 i) (by rw [ixN_nI (by omega)]) ?_
    refine E_ishl (pc := 20) dX2_heldBits_20 ?_
    refine E_ior (pc := 21) dX2_heldBits_21 ?_
    refine E_istore_n (pc := 22) 1 dX2_heldBits_22 rfl (Nat.le_of_ble_eq_true rfl) rfl (lz := [_, _, _]) rfl ?_
    refine E_iincN (pc := 23) 2 dX2_heldBits_23 (Nat.le_of_ble_eq_true rfl) rfl rfl (lz := [_, _, _]) rfl ?_
    refine E_goto (pc := 26) 4 dX2_heldBits_26 rfl ?_
    exact hn
/-- the ring and the rule of seeing are in bounds -/
def RG (h : Hp) (C S : Nat) : Prop := h g_ring 0 3 = nI C ∧ C ≤ 12 ∧ h g_values 0 17 = nI S ∧ S ≤ 5
/-- what years touch besides -/
def Ky (h h' : Hp) : Prop := ∀ a, noS a → a ≠ g_worths → a ≠ g_now → a ≠ g_then → h' a = h a
theorem Ky_Kp {h h' : Hp} (k : Ky h h') : Kp h h' := fun a b e => by rw [k a e.1 e.2.1 e.2.2.1 e.2.2.2.1]
set_option maxHeartbeats 1600000 in
theorem C_X7_goYears {l : Launch} {G : GE} {h : Hp} {n C S : Nat} (hI : WT h) (hn20 : n ≤ 20) (hG : RG h C S) (hr : rgS (h g_now 0) C) : CT l G mX7_goYears [vR g_oab 0, vI (nI n)] h (fun r h' => r = none ∧ Ky h h' ∧ ∀ j, j < C → h' g_now 0 j = yrN (wv h) C S (h g_values 0 16) n (h g_now 0) j) := by
  refine CT.of (lv := [_, _, _]) (by decide +kernel) (Nat.le_of_ble_eq_true rfl) rfl ?_
  refine E_aload_n (pc := 0) 0 dX7_goYears_0 rfl rfl ?_
  refine E_callV (pc := 1) dX7_goYears_1 (C_X7_weighWays hI) rfl kv_RX7_256 rfl rfl rfl ⟨Nat.le_of_ble_eq_true rfl, Nat.le_of_ble_eq_true rfl, Nat.le_of_ble_eq_true rfl, Nat.le_of_ble_eq_true rfl⟩ (Nat.le_of_ble_eq_true rfl) ?_
  rintro _ h1 ⟨rfl, k1, v1⟩
  refine E_iconst (pc := 4) (0) dX7_goYears_4 (by decide) ?_
  refine E_istore_n (pc := 5) 2 dX7_goYears_5 rfl (Nat.le_of_ble_eq_true rfl) rfl (lz := [_, _, _]) rfl ?_
  refine down (P := fun i => ∀ h2, Ky h h2 → (∀ k, k < 6 → h2 g_worths 0 k = wv h k) → rgS (h2 g_now 0) C → (∀ j, j < C → yrN (wv h) C S (h g_values 0 16) (n - i) (h2 g_now 0) j = yrN (wv h) C S (h g_values 0 16) n (h g_now 0) j) → Ev l G mX7_goYears _ 6 [some (vR g_oab 0), some (vI (nI n)), some (vI (nI i))] [] h2) n ?_ ?_ 0 (Nat.zero_le _) h1 (fun a e1 e2 e3 e4 => k1 a e1 e2) v1 (by rw [k1 g_now (by decide) (by decide)]; exact hr) (fun j hj => by rw [k1 g_now (by decide) (by decide)]; rfl)
  · intro h2 ky hv rg hy
    rw [Nat.sub_self] at hy
    refine E_iload_n (pc := 6) 2 dX7_goYears_6 rfl rfl ?_
    refine E_iload_n (pc := 7) 1 dX7_goYears_7 rfl rfl ?_
    refine E_icmp_ge (pc := 8) 32 dX7_goYears_8 rfl (fun q8 => ?_) (fun q8 => absurd (Int32.le_refl _) q8)
    refine E_vret (pc := 32) dX7_goYears_32 rfl ?_
    exact ⟨rfl, ky, hy⟩
  · intro i hi hn h2 ky hv rg hy
    rw [show n - i = (n - (i + 1)) + 1 by omega] at hy
    refine E_iload_n (pc := 6) 2 dX7_goYears_6 rfl rfl ?_
    refine E_iload_n (pc := 7) 1 dX7_goYears_7 rfl rfl ?_
    refine E_icmp_ge (pc := 8) 32 dX7_goYears_8 rfl (fun q8 => absurd q8 (nI_ge hi (by omega))) (fun q8 => ?_)
    refine E_aload_n (pc := 11) 0 dX7_goYears_11 rfl rfl ?_
    refine E_getR0 (pc := 12) dX7_goYears_12 fl_RX7_57 rfl rfl ?_
    refine E_aload_n (pc := 15) 0 dX7_goYears_15 rfl rfl ?_
    refine E_getR0 (pc := 16) dX7_goYears_16 fl_RX7_50 rfl rfl ?_
    refine E_aload_n (pc := 19) 0 dX7_goYears_19 rfl rfl ?_
    refine E_getR0 (pc := 20) dX7_goYears_20 fl_RX7_26 rfl rfl ?_
    refine E_callV (pc := 23) dX7_goYears_23 (C_X2_goYear (C := C) (S := S) (by rw [ky g_ring (by decide) (by decide) (by decide) (by decide)]; exact hG.1) hG.2.1 (by rw [ky g_values (by decide) (by decide) (by decide) (by decide)]; exact hG.2.2.1) hG.2.2.2 rg) rfl kv_RX7_263 rfl rfl rfl ⟨Nat.le_of_ble_eq_true rfl, Nat.le_of_ble_eq_true rfl, Nat.le_of_ble_eq_true rfl, Nat.le_of_ble_eq_true rfl⟩ (Nat.le_of_ble_eq_true rfl) ?_
    rintro _ h4 ⟨rfl, s1, s2⟩
    refine E_iincN (pc := 26) 2 dX7_goYears_26 (Nat.le_of_ble_eq_true rfl) rfl rfl (lz := [_, _, _]) rfl ?_
    refine E_goto (pc := 29) 6 dX7_goYears_29 rfl ?_
    have s3 : ∀ j, j < C → h4 g_now 0 j = yrF (wv h) C S (h g_values 0 16) (h2 g_now 0) j := fun j hj => by rw [s2 j hj, ky g_values (by decide) (by decide) (by decide) (by decide)]; exact yrF_congrF rg hv hj
    exact hn h4 (fun a e1 e2 e3 e4 => by rw [s1 a e3 e4]; exact ky a e1 e2 e3 e4) (by rw [s1 g_worths (by decide) (by decide)]; exact hv) (fun j hj => by rw [s3 j hj]; exact yrF_rg rg j hj) (fun j hj => by rw [← hy j hj]; exact yrN_congr _ s3 j hj)
theorem RG.cn {h : Hp} {C S : Nat} (g : RG h C S) : ¬ h g_ring 0 3 < 0 := by rw [g.1]; exact nI_pos (by have := g.2.1; omega)
theorem RG.cl {h : Hp} {C S : Nat} (g : RG h C S) : (h g_ring 0 3).toNatClampNeg = C := by rw [g.1]; exact nI_clamp (by have := g.2.1; omega)
theorem RG.same {h h' : Hp} {C S : Nat} (g : RG h C S) (e1 : h' g_ring = h g_ring) (e2 : h' g_values = h g_values) : RG h' C S := ⟨by rw [e1]; exact g.1, g.2.1, by rw [e2]; exact g.2.2.1, g.2.2.2⟩
theorem beg_now {h : Hp} {C S : Nat} (g : RG h C S) : ∀ j, j < C → hsetA h g_now 0 (va_cpy (h g_held 0) (h g_now 0) 0 0 (h g_ring 0 3).toNatClampNeg) g_now 0 j = h g_held 0 j := fun j hj => by rw [hsetA_arr, g.cl, cpy_lt hj]
theorem rgS_eq {s s' : Nat → Int32} {C : Nat} (hs : rgS s C) (e : ∀ j, j < C → s' j = s j) : rgS s' C := fun j hj => by rw [e j hj]; exact hs j hj
theorem unF_congr {s s' s0 : Nat → Int32} : ∀ j, (∀ i, i < j → s i = s' i) → unF s s0 j = unF s' s0 j
  | 0, _ => rfl
  | j + 1, e => by
    unfold unF
    rw [unF_congr j (fun i hi => e i (Nat.lt_succ_of_lt hi)), e j (Nat.lt_succ_self j)]
theorem wv_same {h h' : Hp} (e1 : h' g_way = h g_way) (e2 : h' g_nums = h g_nums) (e3 : h' g_values = h g_values) : wv h' = wv h := by
  funext k
  unfold wv
  rw [e1, e2, e3]
/-- all is kept but the ways that jumpers have -/
def KpH (h h' : Hp) : Prop := ∀ a b, ess a b → a ≠ g_held → h' a b = h a b
set_option maxHeartbeats 1600000 in
theorem C_X7_years {l : Launch} {G : GE} {h : Hp} {n : Int32} {C S : Nat} (hI : WT h) (hG : RG h C S) (hr : rgS (h g_held 0) C) : CT l G mX7_years [vR g_oab 0, vI n] h (fun r h' => if 1 ≤ n ∧ n ≤ 20 then r = some (unF (yrN (wv h) C S (h g_values 0 16) (ixN n) (h g_held 0)) (h g_held 0) C) ∧ KpH h h' ∧ ∀ j, j < C → h' g_held 0 j = yrN (wv h) C S (h g_values 0 16) (ixN n) (h g_held 0) j else r = some (-1) ∧ h' = h) := by
  refine CT.of (lv := [_, _, _]) (by decide +kernel) (Nat.le_of_ble_eq_true rfl) rfl ?_
  refine E_iload_n (pc := 0) 1 dX7_years_0 rfl rfl ?_
  refine E_iconst (pc := 1) (1) dX7_years_1 (by decide) ?_
  refine E_bipush (pc := 2) (20) dX7_years_2 (by decide) ?_
  refine E_callS1 (pc := 4) dX7_years_4 C_X7_within rfl ks_RX7_76 rfl ⟨Nat.le_of_ble_eq_true rfl, Nat.le_of_ble_eq_true rfl, Nat.le_of_ble_eq_true rfl, Nat.le_of_ble_eq_true rfl⟩ (Nat.le_of_ble_eq_true rfl) ?_
  refine E_if_ne (pc := 7) 12 dX7_years_7 rfl (fun q7 => ?_) (fun q7 => ?_)
  · have hn : 1 ≤ n ∧ n ≤ 20 := Decidable.of_not_not (fun z => q7 (bi_0.mpr z))
    obtain ⟨m, hm, rfl⟩ := natof (x := n) 20 (by decide) (Int32.le_trans (by decide) hn.1) hn.2
    refine E_aload_n (pc := 12) 0 dX7_years_12 rfl rfl ?_
    refine E_getR0 (pc := 13) dX7_years_13 fl_RX7_57 rfl rfl ?_
    refine E_callV0 (pc := 16) dX7_years_16 (C_X2_begin hG.cn (by rw [hG.cl]; exact hG.2.1)) rfl kv_RX7_241 rfl rfl rfl ⟨Nat.le_of_ble_eq_true rfl, Nat.le_of_ble_eq_true rfl, Nat.le_of_ble_eq_true rfl, Nat.le_of_ble_eq_true rfl⟩ (Nat.le_of_ble_eq_true rfl) ?_
    generalize hh1 : hsetA h g_now 0 (va_cpy (h g_held 0) (h g_now 0) 0 0 (h g_ring 0 3).toNatClampNeg) = h1
    have n1 : ∀ j, j < C → h1 g_now 0 j = h g_held 0 j := by rw [← hh1]; exact beg_now hG
    have s1 : ∀ a, a ≠ g_now → h1 a = h a := fun a ha => by rw [← hh1]; exact hsetA_t ha
    have w1 : wv h1 = wv h := wv_same (s1 _ (by decide)) (s1 _ (by decide)) (s1 _ (by decide))
    refine E_aload_n (pc := 19) 0 dX7_years_19 rfl rfl ?_
    refine E_iload_n (pc := 20) 1 dX7_years_20 rfl rfl ?_
    refine E_callV (pc := 21) dX7_years_21 (C_X7_goYears (C := C) (S := S) (by intro k hk; rw [s1 g_way (by decide)]; exact hI k hk) hm (hG.same (s1 _ (by decide)) (s1 _ (by decide))) (rgS_eq hr n1)) rfl kv_RX7_243 rfl rfl rfl ⟨Nat.le_of_ble_eq_true rfl, Nat.le_of_ble_eq_true rfl, Nat.le_of_ble_eq_true rfl, Nat.le_of_ble_eq_true rfl⟩ (Nat.le_of_ble_eq_true rfl) ?_
    rintro _ h2 ⟨rfl, ky, hy⟩
    rw [w1, s1 g_values (by decide)] at hy
    have hy2 : ∀ j, j < C → h2 g_now 0 j = yrN (wv h) C S (h g_values 0 16) m (h g_held 0) j := fun j hj => by rw [hy j hj]; exact yrN_congr m n1 j hj
    have e1 : h2 g_held = h g_held := (ky g_held (by decide) (by decide) (by decide) (by decide)).trans (s1 _ (by decide))
    have e2 : h2 g_ring = h g_ring := (ky g_ring (by decide) (by decide) (by decide) (by decide)).trans (s1 _ (by decide))
    have e3 : h2 g_values = h g_values := (ky g_values (by decide) (by decide) (by decide) (by decide)).trans (s1 _ (by decide))
    have g2 : RG h2 C S := hG.same e2 e3
    refine E_aload_n (pc := 24) 0 dX7_years_24 rfl rfl ?_
    refine E_getR0 (pc := 25) dX7_years_25 fl_RX7_57 rfl rfl ?_
    refine E_callV1 (pc := 28) dX7_years_28 (C_X2_unlikeHeld g2.1 g2.2.1) rfl kv_RX7_246 rfl rfl rfl ⟨Nat.le_of_ble_eq_true rfl, Nat.le_of_ble_eq_true rfl, Nat.le_of_ble_eq_true rfl, Nat.le_of_ble_eq_true rfl⟩ (Nat.le_of_ble_eq_true rfl) ?_
    refine E_istore_n (pc := 31) 2 dX7_years_31 rfl (Nat.le_of_ble_eq_true rfl) rfl (lz := [_, _, _]) rfl ?_
    refine E_aload_n (pc := 32) 0 dX7_years_32 rfl rfl ?_
    refine E_getR0 (pc := 33) dX7_years_33 fl_RX7_57 rfl rfl ?_
    refine E_callV0 (pc := 36) dX7_years_36 (C_X2_keep g2.cn (by rw [g2.cl]; exact g2.2.1)) rfl kv_RX7_249 rfl rfl rfl ⟨Nat.le_of_ble_eq_true rfl, Nat.le_of_ble_eq_true rfl, Nat.le_of_ble_eq_true rfl, Nat.le_of_ble_eq_true rfl⟩ (Nat.le_of_ble_eq_true rfl) ?_
    refine E_iload_n (pc := 39) 2 dX7_years_39 rfl rfl ?_
    refine E_iret (pc := 40) dX7_years_40 rfl ?_
    rw [if_pos hn, ixN_nI (by omega)]
    refine ⟨?_, fun a b e ha => ?_, fun j hj => ?_⟩
    · rw [e1, unF_congr C hy2]
    · rw [hsetA_t ha, ky a e.1 e.2.1 e.2.2.1 e.2.2.2.1, s1 a e.2.2.1]
    · rw [hsetA_arr, g2.cl, cpy_lt hj]; exact hy2 j hj
  · refine E_iconst (pc := 10) (-1) dX7_years_10 (by decide) ?_
    refine E_iret (pc := 11) dX7_years_11 rfl ?_
    rw [if_neg (bi_0.mp q7)]
    exact ⟨rfl, rfl⟩
set_option maxHeartbeats 1600000 in
theorem C_X7_who {l : Launch} {G : GE} {h : Hp} {w : Int32} {C S : Nat} (hG : RG h C S) : CT l G mX7_who [vR g_oab 0, vI w] h (fun r h' => r = some (if 0 ≤ w ∧ w ≤ 5 then nI (cntW (h g_held 0) w C) else -1) ∧ h' = h) := by
  refine CT.of (lv := [_, _]) (by decide +kernel) (Nat.le_of_ble_eq_true rfl) rfl ?_
  refine E_iload_n (pc := 0) 1 dX7_who_0 rfl rfl ?_
  refine E_callS1 (pc := 1) dX7_who_1 C_X7_isWayNumber rfl ks_RX7_100 rfl ⟨Nat.le_of_ble_eq_true rfl, Nat.le_of_ble_eq_true rfl, Nat.le_of_ble_eq_true rfl, Nat.le_of_ble_eq_true rfl⟩ (Nat.le_of_ble_eq_true rfl) ?_
  refine E_if_eq (pc := 4) 25 dX7_who_4 rfl (fun q4 => ?_) (fun q4 => ?_)
  · refine E_iconst (pc := 25) (-1) dX7_who_25 (by decide) ?_
    refine E_iret (pc := 26) dX7_who_26 rfl ?_
    first | exact ⟨by rw [if_neg (bi_0.mp q4)], rfl⟩ | exact ⟨by rw [if_pos (Decidable.of_not_not (fun z => q4 (bi_0.mpr z)))], rfl⟩
  · refine E_aload_n (pc := 7) 0 dX7_who_7 rfl rfl ?_
    refine E_getR0 (pc := 8) dX7_who_8 fl_RX7_57 rfl rfl ?_
    refine E_aload_n (pc := 11) 0 dX7_who_11 rfl rfl ?_
    refine E_getR0 (pc := 12) dX7_who_12 fl_RX7_57 rfl rfl ?_
    refine E_getR0 (pc := 15) dX7_who_15 fl_RX7_238 rfl rfl ?_
    refine E_iload_n (pc := 18) 1 dX7_who_18 rfl rfl ?_
    refine E_callV1 (pc := 19) dX7_who_19 (C_X2_countIn (Or.inl rfl) hG.1 hG.2.1) rfl kv_RX7_252 rfl rfl rfl ⟨Nat.le_of_ble_eq_true rfl, Nat.le_of_ble_eq_true rfl, Nat.le_of_ble_eq_true rfl, Nat.le_of_ble_eq_true rfl⟩ (Nat.le_of_ble_eq_true rfl) ?_
    refine E_goto (pc := 22) 26 dX7_who_22 rfl ?_
    refine E_iret (pc := 26) dX7_who_26 rfl ?_
    first | exact ⟨by rw [if_neg (bi_0.mp q4)], rfl⟩ | exact ⟨by rw [if_pos (Decidable.of_not_not (fun z => q4 (bi_0.mpr z)))], rfl⟩
/-- years till all have one way -/
def alF (f : Nat → Int32) (C S : Nat) (habit : Int32) : Nat → Nat → (Nat → Int32) → Int32
  | 0, _, _ => -4
  | n + 1, y, s => if cntW s (s 0) C = C then nI y else alF f C S habit n (y + 1) (yrF f C S habit s)
theorem alF_congr {f : Nat → Int32} {C S : Nat} {habit : Int32} (hC : 0 < C) : ∀ (n y : Nat) {s s' : Nat → Int32}, (∀ i, i < C → s i = s' i) → alF f C S habit n y s = alF f C S habit n y s'
  | 0, _, _, _, _ => rfl
  | n + 1, y, s, s', e => by
    unfold alF
    rw [e 0 hC, cntW_congr C e, alF_congr hC n (y + 1) (fun i hi => yrF_congr e hi)]
set_option maxHeartbeats 1600000 in
theorem C_X7_all {l : Launch} {G : GE} {h : Hp} {C S : Nat} (hI : WT h) (hG : RG h C S) (hr : rgS (h g_held 0) C) : CT l G mX7_all [vR g_oab 0] h (fun r h' => r = some (if C = 0 then -2 else alF (wv h) C S (h g_values 0 16) 41 0 (h g_held 0)) ∧ Kp h h') := by
  refine CT.of (lv := [_, _]) (by decide +kernel) (Nat.le_of_ble_eq_true rfl) rfl ?_
  refine E_aload_n (pc := 0) 0 dX7_all_0 rfl rfl ?_
  refine E_getR0 (pc := 1) dX7_all_1 fl_RX7_57 rfl rfl ?_
  refine E_getI (pc := 4) dX7_all_4 fl_RX7_232 rfl rfl ?_
  refine E_top (y := nI C) hG.1 ?_
  refine E_if_ne (pc := 7) 13 dX7_all_7 rfl (fun q7 => ?_) (fun q7 => ?_)
  · have hC0 : ¬ C = 0 := fun z => q7 (by rw [z]; rfl)
    refine E_aload_n (pc := 13) 0 dX7_all_13 rfl rfl ?_
    refine E_callV (pc := 14) dX7_all_14 (C_X7_weighWays hI) rfl kv_RX7_256 rfl rfl rfl ⟨Nat.le_of_ble_eq_true rfl, Nat.le_of_ble_eq_true rfl, Nat.le_of_ble_eq_true rfl, Nat.le_of_ble_eq_true rfl⟩ (Nat.le_of_ble_eq_true rfl) ?_
    rintro _ h0 ⟨rfl, k0, v0⟩
    have g0 : RG h0 C S := hG.same (k0 _ (by decide) (by decide)) (k0 _ (by decide) (by decide))
    have e0 : h0 g_held = h g_held := k0 _ (by decide) (by decide)
    refine E_aload_n (pc := 17) 0 dX7_all_17 rfl rfl ?_
    refine E_getR0 (pc := 18) dX7_all_18 fl_RX7_57 rfl rfl ?_
    refine E_callV0 (pc := 21) dX7_all_21 (C_X2_begin g0.cn (by rw [g0.cl]; exact g0.2.1)) rfl kv_RX7_241 rfl rfl rfl ⟨Nat.le_of_ble_eq_true rfl, Nat.le_of_ble_eq_true rfl, Nat.le_of_ble_eq_true rfl, Nat.le_of_ble_eq_true rfl⟩ (Nat.le_of_ble_eq_true rfl) ?_
    generalize hh1 : hsetA h0 g_now 0 (va_cpy (h0 g_held 0) (h0 g_now 0) 0 0 (h0 g_ring 0 3).toNatClampNeg) = h1
    have n1 : ∀ j, j < C → h1 g_now 0 j = h g_held 0 j := by rw [← hh1, ← e0]; exact beg_now g0
    have s1 : ∀ a, a ≠ g_now → h1 a = h0 a := fun a ha => by rw [← hh1]; exact hsetA_t ha
    refine E_iconst (pc := 24) (0) dX7_all_24 (by decide) ?_
    refine E_istore_n (pc := 25) 1 dX7_all_25 rfl (Nat.le_of_ble_eq_true rfl) rfl (lz := [_, _]) rfl ?_
    refine down (P := fun i => ∀ h2, Ky h h2 → (∀ k, k < 6 → h2 g_worths 0 k = wv h k) → rgS (h2 g_now 0) C → alF (wv h) C S (h g_values 0 16) (41 - i) i (h2 g_now 0) = alF (wv h) C S (h g_values 0 16) 41 0 (h g_held 0) → Ev l G mX7_all _ 26 [some (vR g_oab 0), some (vI (nI i))] [] h2) 41 ?_ ?_ 0 (Nat.zero_le _) h1 (fun a a1 a2 a3 a4 => (s1 a a3).trans (k0 a a1 a2)) (by rw [s1 g_worths (by decide)]; exact v0) (rgS_eq hr n1) (alF_congr (by omega) 41 0 n1)
    · intro h2 ky hv rg hy
      refine E_iload_n (pc := 26) 1 dX7_all_26 rfl rfl ?_
      refine E_bipush (pc := 27) (40) dX7_all_27 (by decide) ?_
      refine E_icmp_gt (pc := 29) 65 dX7_all_29 rfl (fun q29 => ?_) (fun q29 => absurd (show (40 : Int32) < 41 by decide) q29)
      refine E_bipush (pc := 65) (-4) dX7_all_65 (by decide) ?_
      refine E_iret (pc := 67) dX7_all_67 rfl ?_
      exact ⟨by rw [if_neg hC0, ← hy]; rfl, Ky_Kp ky⟩
    · intro i hi hn h2 ky hv rg hy
      have g2 : RG h2 C S := hG.same (ky _ (by decide) (by decide) (by decide) (by decide)) (ky _ (by decide) (by decide) (by decide) (by decide))
      rw [show 41 - i = (41 - (i + 1)) + 1 by omega] at hy
      refine E_iload_n (pc := 26) 1 dX7_all_26 rfl rfl ?_
      refine E_bipush (pc := 27) (40) dX7_all_27 (by decide) ?_
      refine E_icmp_gt (pc := 29) 65 dX7_all_29 rfl (fun q29 => absurd q29 (nI_nlt (a := 40) (b := i) (by omega) (by decide))) (fun q29 => ?_)
      refine E_aload_n (pc := 32) 0 dX7_all_32 rfl rfl ?_
      refine E_getR0 (pc := 33) dX7_all_33 fl_RX7_57 rfl rfl ?_
      refine E_callV1 (pc := 36) dX7_all_36 (C_X2_isOfOneWay g2.1 g2.2.1) rfl kv_RX7_259 rfl rfl rfl ⟨Nat.le_of_ble_eq_true rfl, Nat.le_of_ble_eq_true rfl, Nat.le_of_ble_eq_true rfl, Nat.le_of_ble_eq_true rfl⟩ (Nat.le_of_ble_eq_true rfl) ?_
      refine E_if_eq (pc := 39) 44 dX7_all_39 rfl (fun q39 => ?_) (fun q39 => ?_)
      · have hq := bi_0.mp q39
        refine E_aload_n (pc := 44) 0 dX7_all_44 rfl rfl ?_
        refine E_getR0 (pc := 45) dX7_all_45 fl_RX7_57 rfl rfl ?_
        refine E_aload_n (pc := 48) 0 dX7_all_48 rfl rfl ?_
        refine E_getR0 (pc := 49) dX7_all_49 fl_RX7_50 rfl rfl ?_
        refine E_aload_n (pc := 52) 0 dX7_all_52 rfl rfl ?_
        refine E_getR0 (pc := 53) dX7_all_53 fl_RX7_26 rfl rfl ?_
        refine E_callV (pc := 56) dX7_all_56 (C_X2_goYear (C := C) (S := S) g2.1 g2.2.1 g2.2.2.1 g2.2.2.2 rg) rfl kv_RX7_263 rfl rfl rfl ⟨Nat.le_of_ble_eq_true rfl, Nat.le_of_ble_eq_true rfl, Nat.le_of_ble_eq_true rfl, Nat.le_of_ble_eq_true rfl⟩ (Nat.le_of_ble_eq_true rfl) ?_
        rintro _ h4 ⟨rfl, t1, t2⟩
        refine E_iincN (pc := 59) 1 dX7_all_59 (Nat.le_of_ble_eq_true rfl) rfl rfl (lz := [_, _]) rfl ?_
        refine E_goto (pc := 62) 26 dX7_all_62 rfl ?_
        have t3 : ∀ j, j < C → h4 g_now 0 j = yrF (wv h) C S (h g_values 0 16) (h2 g_now 0) j := fun j hj => by rw [t2 j hj, ky g_values (by decide) (by decide) (by decide) (by decide)]; exact yrF_congrF rg hv hj
        exact hn h4 (fun a a1 a2 a3 a4 => by rw [t1 a a3 a4]; exact ky a a1 a2 a3 a4) (by rw [t1 g_worths (by decide) (by decide)]; exact hv) (fun j hj => by rw [t3 j hj]; exact yrF_rg rg j hj) ((alF_congr (by omega) _ _ t3).trans ((if_neg hq).symm.trans hy))
      · have hq : cntW (h2 g_now 0) (h2 g_now 0 0) C = C := Decidable.of_not_not (fun z => q39 (bi_0.mpr z))
        refine E_iload_n (pc := 42) 1 dX7_all_42 rfl rfl ?_
        refine E_iret (pc := 43) dX7_all_43 rfl ?_
        exact ⟨by rw [if_neg hC0, ← hy]; exact congrArg some (if_pos hq).symm, Ky_Kp ky⟩
  · have hC0 : C = 0 := (nI_eq (b := 0) (by have := hG.2.1; omega) (by decide)).mp q7
    refine E_bipush (pc := 10) (-2) dX7_all_10 (by decide) ?_
    refine E_iret (pc := 12) dX7_all_12 rfl ?_
    exact ⟨by rw [if_pos hC0], Kp.rfl⟩
set_option maxHeartbeats 1600000 in
theorem C_X7_odd {l : Launch} {G : GE} {h : Hp} {j w n : Int32} {C S : Nat} (hI : WT h) (hG : RG h C S) (hr : rgS (h g_held 0) C) : CT l G mX7_odd [vR g_oab 0, vI j, vI w, vI n] h (fun r h' => r = some (if (0 ≤ j ∧ j ≤ nI C - 1) ∧ (0 ≤ w ∧ w ≤ 5) ∧ 0 ≤ n ∧ n ≤ 20 then nI (cntW (yrN (wv h) C S (h g_values 0 16) (ixN n) (upd (h g_held 0) (ixN j) w)) w C) else -1) ∧ Kp h h') := by
  refine CT.of (lv := [_, _, _, _]) (by decide +kernel) (Nat.le_of_ble_eq_true rfl) rfl ?_
  refine E_aload_n (pc := 0) 0 dX7_odd_0 rfl rfl ?_
  refine E_getR0 (pc := 1) dX7_odd_1 fl_RX7_57 rfl rfl ?_
  refine E_iload_n (pc := 4) 1 dX7_odd_4 rfl rfl ?_
  refine E_callV1 (pc := 5) dX7_odd_5 C_X2_has rfl kv_RX7_235 rfl rfl rfl ⟨Nat.le_of_ble_eq_true rfl, Nat.le_of_ble_eq_true rfl, Nat.le_of_ble_eq_true rfl, Nat.le_of_ble_eq_true rfl⟩ (Nat.le_of_ble_eq_true rfl) ?_
  refine E_top (y := bi (0 ≤ j ∧ j ≤ nI C - 1)) (by rw [hG.1]) ?_
  refine E_if_eq (pc := 8) 28 dX7_odd_8 rfl (fun q8 => ?_) (fun q8 => ?_)
  · refine E_iconst (pc := 28) (-1) dX7_odd_28 (by decide) ?_
    refine E_iret (pc := 29) dX7_odd_29 rfl ?_
    first | exact ⟨by rw [if_neg (fun z => bi_0.mp q8 z.1)], Kp.rfl⟩ | exact ⟨by rw [if_neg (fun z => bi_0.mp q15 z.2.1)], Kp.rfl⟩ | exact ⟨by rw [if_neg (fun z => bi_0.mp q25 z.2.2)], Kp.rfl⟩
  · refine E_iload_n (pc := 11) 2 dX7_odd_11 rfl rfl ?_
    refine E_callS1 (pc := 12) dX7_odd_12 C_X7_isWayNumber rfl ks_RX7_100 rfl ⟨Nat.le_of_ble_eq_true rfl, Nat.le_of_ble_eq_true rfl, Nat.le_of_ble_eq_true rfl, Nat.le_of_ble_eq_true rfl⟩ (Nat.le_of_ble_eq_true rfl) ?_
    refine E_if_eq (pc := 15) 28 dX7_odd_15 rfl (fun q15 => ?_) (fun q15 => ?_)
    · refine E_iconst (pc := 28) (-1) dX7_odd_28 (by decide) ?_
      refine E_iret (pc := 29) dX7_odd_29 rfl ?_
      first | exact ⟨by rw [if_neg (fun z => bi_0.mp q8 z.1)], Kp.rfl⟩ | exact ⟨by rw [if_neg (fun z => bi_0.mp q15 z.2.1)], Kp.rfl⟩ | exact ⟨by rw [if_neg (fun z => bi_0.mp q25 z.2.2)], Kp.rfl⟩
    · refine E_iload_n (pc := 18) 3 dX7_odd_18 rfl rfl ?_
      refine E_iconst (pc := 19) (0) dX7_odd_19 (by decide) ?_
      refine E_bipush (pc := 20) (20) dX7_odd_20 (by decide) ?_
      refine E_callS1 (pc := 22) dX7_odd_22 C_X7_within rfl ks_RX7_76 rfl ⟨Nat.le_of_ble_eq_true rfl, Nat.le_of_ble_eq_true rfl, Nat.le_of_ble_eq_true rfl, Nat.le_of_ble_eq_true rfl⟩ (Nat.le_of_ble_eq_true rfl) ?_
      refine E_if_ne (pc := 25) 30 dX7_odd_25 rfl (fun q25 => ?_) (fun q25 => ?_)
      · have hj : 0 ≤ j ∧ j ≤ nI C - 1 := Decidable.of_not_not (fun z => q8 (bi_0.mpr z))
        have hw : 0 ≤ w ∧ w ≤ 5 := Decidable.of_not_not (fun z => q15 (bi_0.mpr z))
        have hn : 0 ≤ n ∧ n ≤ 20 := Decidable.of_not_not (fun z => q25 (bi_0.mpr z))
        have hC0 : 0 < C := Nat.pos_of_ne_zero (fun z => by rw [z] at hj; exact absurd (Int32.le_trans hj.1 hj.2) (by decide))
        have hj2 := hj
        rw [show (1 : Int32) = nI 1 from rfl, pk_sub hC0] at hj2
        obtain ⟨j', hj', rfl⟩ := natof (x := j) (C - 1) (by have := hG.2.1; omega) hj2.1 hj2.2
        obtain ⟨w', hw', rfl⟩ := natof (x := w) 5 (by decide) hw.1 hw.2
        obtain ⟨m, hm, rfl⟩ := natof (x := n) 20 (by decide) hn.1 hn.2
        refine E_aload_n (pc := 30) 0 dX7_odd_30 rfl rfl ?_
        refine E_getR0 (pc := 31) dX7_odd_31 fl_RX7_57 rfl rfl ?_
        refine E_callV0 (pc := 34) dX7_odd_34 (C_X2_begin hG.cn (by rw [hG.cl]; exact hG.2.1)) rfl kv_RX7_241 rfl rfl rfl ⟨Nat.le_of_ble_eq_true rfl, Nat.le_of_ble_eq_true rfl, Nat.le_of_ble_eq_true rfl, Nat.le_of_ble_eq_true rfl⟩ (Nat.le_of_ble_eq_true rfl) ?_
        refine E_aload_n (pc := 37) 0 dX7_odd_37 rfl rfl ?_
        refine E_getR0 (pc := 38) dX7_odd_38 fl_RX7_57 rfl rfl ?_
        refine E_getR0 (pc := 41) dX7_odd_41 fl_RX7_267 rfl rfl ?_
        refine E_iload_n (pc := 44) 1 dX7_odd_44 rfl rfl ?_
        refine E_iload_n (pc := 45) 2 dX7_odd_45 rfl rfl ?_
        refine E_iast (pc := 46) dX7_odd_46 rfl (vp_in_nI (by have := hG.2.1; omega) (by decide)) ?_
        refine E_heq (h' := hset (hsetA h g_now 0 (va_cpy (h g_held 0) (h g_now 0) 0 0 (h g_ring 0 3).toNatClampNeg)) g_now 0 j' (nI w')) (by rw [ixN_nI (by have := hG.2.1; omega)]) ?_
        generalize hh1 : hset (hsetA h g_now 0 (va_cpy (h g_held 0) (h g_now 0) 0 0 (h g_ring 0 3).toNatClampNeg)) g_now 0 j' (nI w') = h1
        have n1 : ∀ x, x < C → h1 g_now 0 x = upd (h g_held 0) j' (nI w') x := fun x hx => by rw [← hh1, hset_arr]; unfold upd; by_cases e : x = j'; exact (by rw [if_pos e, if_pos e]); rw [if_neg e, if_neg e, beg_now hG x hx]
        have s1 : ∀ a, a ≠ g_now → h1 a = h a := fun a ha => by rw [← hh1, hset_t ha]; exact hsetA_t ha
        have w1 : wv h1 = wv h := wv_same (s1 _ (by decide)) (s1 _ (by decide)) (s1 _ (by decide))
        have r1 : rgS (upd (h g_held 0) j' (nI w')) C := fun x hx => by unfold upd; by_cases e : x = j'; exact ⟨w', by omega, by rw [if_pos e]⟩; rw [if_neg e]; exact hr x hx
        refine E_aload_n (pc := 47) 0 dX7_odd_47 rfl rfl ?_
        refine E_iload_n (pc := 48) 3 dX7_odd_48 rfl rfl ?_
        refine E_callV (pc := 49) dX7_odd_49 (C_X7_goYears (C := C) (S := S) (by intro k hk; rw [s1 g_way (by decide)]; exact hI k hk) hm (hG.same (s1 _ (by decide)) (s1 _ (by decide))) (rgS_eq r1 n1)) rfl kv_RX7_243 rfl rfl rfl ⟨Nat.le_of_ble_eq_true rfl, Nat.le_of_ble_eq_true rfl, Nat.le_of_ble_eq_true rfl, Nat.le_of_ble_eq_true rfl⟩ (Nat.le_of_ble_eq_true rfl) ?_
        rintro _ h2 ⟨rfl, ky, hy⟩
        rw [w1, s1 g_values (by decide)] at hy
        have hy2 : ∀ x, x < C → h2 g_now 0 x = yrN (wv h) C S (h g_values 0 16) m (upd (h g_held 0) j' (nI w')) x := fun x hx => by rw [hy x hx]; exact yrN_congr m n1 x hx
        have g2 : RG h2 C S := hG.same ((ky g_ring (by decide) (by decide) (by decide) (by decide)).trans (s1 _ (by decide))) ((ky g_values (by decide) (by decide) (by decide) (by decide)).trans (s1 _ (by decide)))
        refine E_aload_n (pc := 52) 0 dX7_odd_52 rfl rfl ?_
        refine E_getR0 (pc := 53) dX7_odd_53 fl_RX7_57 rfl rfl ?_
        refine E_aload_n (pc := 56) 0 dX7_odd_56 rfl rfl ?_
        refine E_getR0 (pc := 57) dX7_odd_57 fl_RX7_57 rfl rfl ?_
        refine E_getR0 (pc := 60) dX7_odd_60 fl_RX7_267 rfl rfl ?_
        refine E_iload_n (pc := 63) 2 dX7_odd_63 rfl rfl ?_
        refine E_callV1 (pc := 64) dX7_odd_64 (C_X2_countIn (Or.inr rfl) g2.1 g2.2.1) rfl kv_RX7_252 rfl rfl rfl ⟨Nat.le_of_ble_eq_true rfl, Nat.le_of_ble_eq_true rfl, Nat.le_of_ble_eq_true rfl, Nat.le_of_ble_eq_true rfl⟩ (Nat.le_of_ble_eq_true rfl) ?_
        refine E_iret (pc := 67) dX7_odd_67 rfl ?_
        exact ⟨by rw [if_pos (show (0 ≤ nI j' ∧ nI j' ≤ nI C - 1) ∧ (0 ≤ nI w' ∧ nI w' ≤ 5) ∧ 0 ≤ nI m ∧ nI m ≤ 20 from ⟨hj, hw, hn⟩), ixN_nI (show j' < 2 ^ 31 by have := hG.2.1; omega), ixN_nI (show m < 2 ^ 31 by omega), cntW_congr C hy2], fun a b e => by rw [ky a e.1 e.2.1 e.2.2.1 e.2.2.2.1, s1 a e.2.2.1]⟩
      · refine E_iconst (pc := 28) (-1) dX7_odd_28 (by decide) ?_
        refine E_iret (pc := 29) dX7_odd_29 rfl ?_
        first | exact ⟨by rw [if_neg (fun z => bi_0.mp q8 z.1)], Kp.rfl⟩ | exact ⟨by rw [if_neg (fun z => bi_0.mp q15 z.2.1)], Kp.rfl⟩ | exact ⟨by rw [if_neg (fun z => bi_0.mp q25 z.2.2)], Kp.rfl⟩
