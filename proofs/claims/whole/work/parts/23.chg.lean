/-! small changes -/
def stp (c : Nat) : Int32 := if c % 2 = 0 then 1 else -1
abbrev okN (x : Int32) : Prop := -9 ≤ x ∧ x ≤ 9
theorem shr1 {c : Nat} (hc : c < 2 ^ 31) : nI c >>> ((1 : Int32) &&& 31) = nI (c / 2) := pk_shrN (k := 1) hc _ (by decide)
theorem and1 {c : Nat} (hc : c < 2 ^ 31) : nI c &&& 1 = nI (c % 2) := pk_andN (by omega) 1 (by decide)
theorem stp_eq {c : Nat} (hc : c < 2 ^ 31) : (if nI c &&& 1 = 0 then (1 : Int32) else -1) = stp c := by
  rw [and1 hc]
  unfold stp
  by_cases h : c % 2 = 0
  · rw [h]; rfl
  · rw [if_neg h, if_neg]
    rw [show c % 2 = 1 by omega]
    decide
set_option maxHeartbeats 1600000 in
theorem C_hasChangeN {l : Launch} {G : GE} {h : Hp} {k T c : Nat} (hT : h g_way k 1 = nI T) (hT8 : T ≤ 8) (hc : c < 2 ^ 31) : CT l G mX6_hasChange [vR g_way k, vI (nI c)] h (fun r h' => r = some (bi (c < 16 * T ∧ okN (h g_nums k (c / 2) + stp c))) ∧ h' = h) := by
  refine CT.of (lv := [_, _]) (by decide +kernel) (Nat.le_of_ble_eq_true rfl) rfl ?_
  refine E_iload_n (pc := 0) 1 dX6_hasChange_0 rfl rfl ?_
  refine E_iconst (pc := 1) (0) dX6_hasChange_1 (by decide) ?_
  refine E_bipush (pc := 2) (16) dX6_hasChange_2 (by decide) ?_
  refine E_aload_n (pc := 4) 0 dX6_hasChange_4 rfl rfl ?_
  refine E_getI (pc := 5) dX6_hasChange_5 fl_RX6_19 rfl rfl ?_
  refine E_imul (pc := 8) dX6_hasChange_8 ?_
  refine E_iconst (pc := 9) (1) dX6_hasChange_9 (by decide) ?_
  refine E_isub (pc := 10) dX6_hasChange_10 ?_
  refine E_top (y := nI (16 * T) - 1) (by rw [hT, show (16 : Int32) = nI 16 from rfl, pk_mul]) ?_
  refine E_callN1 (pc := 11) dX6_hasChange_11 C_X7_within rfl kn_RX6_15 rfl ⟨Nat.le_of_ble_eq_true rfl, Nat.le_of_ble_eq_true rfl, Nat.le_of_ble_eq_true rfl, Nat.le_of_ble_eq_true rfl⟩ (Nat.le_of_ble_eq_true rfl) ?_
  refine E_if_eq (pc := 14) 40 dX6_hasChange_14 rfl (fun q14 => ?_) (fun q14 => ?_)
  · have h1 : ¬ c < 16 * T := by
      intro h3
      refine bi_0.mp q14 ⟨nI_pos' hc, ?_⟩
      rw [show (1 : Int32) = nI 1 from rfl, pk_sub (by omega)]
      exact nI_le (by omega) (by omega)
    refine E_iconst (pc := 40) (0) dX6_hasChange_40 (by decide) ?_
    refine E_zret (pc := 41) dX6_hasChange_41 rfl rfl ?_
    first | exact ⟨congrArg some (bi_f (fun z => h1 z.1)).symm, rfl⟩ | exact ⟨congrArg some (bi_f (fun z => h4 z.2)).symm, rfl⟩ | exact ⟨congrArg some (bi_t ⟨h1, h4⟩).symm, rfl⟩
  · have h1 : c < 16 * T := by
      have h2 : (0 : Int32) ≤ nI c ∧ nI c ≤ nI (16 * T) - 1 := Decidable.of_not_not (fun z => q14 (bi_0.mpr z))
      rcases Nat.eq_zero_or_pos T with h3 | h3
      · rw [h3] at h2
        exact absurd (Int32.le_trans h2.1 h2.2) (by decide)
      · rw [show (1 : Int32) = nI 1 from rfl, pk_sub (by omega)] at h2
        have := (nI_leI (by omega) (by omega)).mp h2.2
        omega
    refine E_aload_n (pc := 17) 0 dX6_hasChange_17 rfl rfl ?_
    refine E_getR0 (pc := 18) dX6_hasChange_18 fl_RX6_11 rfl rfl ?_
    refine E_iload_n (pc := 21) 1 dX6_hasChange_21 rfl rfl ?_
    refine E_iconst (pc := 22) (1) dX6_hasChange_22 (by decide) ?_
    refine E_ishr (pc := 23) dX6_hasChange_23 ?_
    refine E_eq (st' := [vI (nI (c / 2)), vR g_nums k]) rfl (by rw [shr1 hc]) rfl ?_
    refine E_iald (pc := 24) dX6_hasChange_24 rfl (vp_in_nI (by omega) (by decide)) ?_
    refine E_iload_n (pc := 25) 1 dX6_hasChange_25 rfl rfl ?_
    refine E_callS1 (pc := 26) dX6_hasChange_26 C_X6_step rfl ks_RX6_40 rfl ⟨Nat.le_of_ble_eq_true rfl, Nat.le_of_ble_eq_true rfl, Nat.le_of_ble_eq_true rfl, Nat.le_of_ble_eq_true rfl⟩ (Nat.le_of_ble_eq_true rfl) ?_
    refine E_iadd (pc := 29) dX6_hasChange_29 ?_
    refine E_top (y := h g_nums k (c / 2) + stp c) (by rw [ixN_nI (by omega), stp_eq hc]) ?_
    refine E_callS1 (pc := 30) dX6_hasChange_30 C_X6_isNumber rfl ks_RX6_32 rfl ⟨Nat.le_of_ble_eq_true rfl, Nat.le_of_ble_eq_true rfl, Nat.le_of_ble_eq_true rfl, Nat.le_of_ble_eq_true rfl⟩ (Nat.le_of_ble_eq_true rfl) ?_
    refine E_if_eq (pc := 33) 40 dX6_hasChange_33 rfl (fun q33 => ?_) (fun q33 => ?_)
    · have h4 := bi_0.mp q33
      refine E_iconst (pc := 40) (0) dX6_hasChange_40 (by decide) ?_
      refine E_zret (pc := 41) dX6_hasChange_41 rfl rfl ?_
      first | exact ⟨congrArg some (bi_f (fun z => h1 z.1)).symm, rfl⟩ | exact ⟨congrArg some (bi_f (fun z => h4 z.2)).symm, rfl⟩ | exact ⟨congrArg some (bi_t ⟨h1, h4⟩).symm, rfl⟩
    · have h4 : okN (h g_nums k (c / 2) + stp c) := Decidable.of_not_not (fun z => q33 (bi_0.mpr z))
      refine E_iconst (pc := 36) (1) dX6_hasChange_36 (by decide) ?_
      refine E_goto (pc := 37) 41 dX6_hasChange_37 rfl ?_
      refine E_zret (pc := 41) dX6_hasChange_41 rfl rfl ?_
      first | exact ⟨congrArg some (bi_f (fun z => h1 z.1)).symm, rfl⟩ | exact ⟨congrArg some (bi_f (fun z => h4 z.2)).symm, rfl⟩ | exact ⟨congrArg some (bi_t ⟨h1, h4⟩).symm, rfl⟩
set_option maxHeartbeats 1600000 in
theorem C_hasChangeM {l : Launch} {G : GE} {h : Hp} {k : Nat} {c : Int32} (hc : c < 0) : CT l G mX6_hasChange [vR g_way k, vI c] h (fun r h' => r = some (0) ∧ h' = h) := by
  refine CT.of (lv := [_, _]) (by decide +kernel) (Nat.le_of_ble_eq_true rfl) rfl ?_
  refine E_iload_n (pc := 0) 1 dX6_hasChange_0 rfl rfl ?_
  refine E_iconst (pc := 1) (0) dX6_hasChange_1 (by decide) ?_
  refine E_bipush (pc := 2) (16) dX6_hasChange_2 (by decide) ?_
  refine E_aload_n (pc := 4) 0 dX6_hasChange_4 rfl rfl ?_
  refine E_getI (pc := 5) dX6_hasChange_5 fl_RX6_19 rfl rfl ?_
  refine E_imul (pc := 8) dX6_hasChange_8 ?_
  refine E_iconst (pc := 9) (1) dX6_hasChange_9 (by decide) ?_
  refine E_isub (pc := 10) dX6_hasChange_10 ?_
  refine E_callN1 (pc := 11) dX6_hasChange_11 C_X7_within rfl kn_RX6_15 rfl ⟨Nat.le_of_ble_eq_true rfl, Nat.le_of_ble_eq_true rfl, Nat.le_of_ble_eq_true rfl, Nat.le_of_ble_eq_true rfl⟩ (Nat.le_of_ble_eq_true rfl) ?_
  refine E_if_eq (pc := 14) 40 dX6_hasChange_14 rfl (fun q14 => ?_) (fun q14 => absurd (bi_f (fun z => Int32.not_lt.mpr z.1 hc)) q14)
  refine E_iconst (pc := 40) (0) dX6_hasChange_40 (by decide) ?_
  refine E_zret (pc := 41) dX6_hasChange_41 rfl rfl ?_
  first | exact ⟨rfl, rfl⟩ | exact ⟨by grind [bi], rfl⟩
set_option maxHeartbeats 1600000 in
theorem C_X6_change {l : Launch} {G : GE} {h : Hp} {k c : Nat} (hc : c < 128) : CT l G mX6_change [vR g_way k, vI (nI c)] h (fun r h' => r = none ∧ h' = hset h g_nums k (c / 2) (h g_nums k (c / 2) + stp c)) := by
  refine CT.of (lv := [_, _]) (by decide +kernel) (Nat.le_of_ble_eq_true rfl) rfl ?_
  refine E_aload_n (pc := 0) 0 dX6_change_0 rfl rfl ?_
  refine E_getR0 (pc := 1) dX6_change_1 fl_RX6_11 rfl rfl ?_
  refine E_iload_n (pc := 4) 1 dX6_change_4 rfl rfl ?_
  refine E_iconst (pc := 5) (1) dX6_change_5 (by decide) ?_
  refine E_ishr (pc := 6) dX6_change_6 ?_
  refine E_eq (st' := [vI (nI (c / 2)), vR g_nums k]) rfl (by rw [shr1 (by omega)]) rfl ?_
  refine E_dup2 (pc := 7) dX6_change_7 (fun _ z => by cases z) (fun _ z => by cases z) ?_
  refine E_iald (pc := 8) dX6_change_8 rfl (vp_in_nI (by omega) (by decide)) ?_
  refine E_iload_n (pc := 9) 1 dX6_change_9 rfl rfl ?_
  refine E_callS1 (pc := 10) dX6_change_10 C_X6_step rfl ks_RX6_40 rfl ⟨Nat.le_of_ble_eq_true rfl, Nat.le_of_ble_eq_true rfl, Nat.le_of_ble_eq_true rfl, Nat.le_of_ble_eq_true rfl⟩ (Nat.le_of_ble_eq_true rfl) ?_
  refine E_iadd (pc := 13) dX6_change_13 ?_
  refine E_top (y := h g_nums k (c / 2) + stp c) (by rw [ixN_nI (by omega), stp_eq (by omega)]) ?_
  refine E_iast (pc := 14) dX6_change_14 rfl (vp_in_nI (by omega) (by decide)) ?_
  refine E_vret (pc := 15) dX6_change_15 rfl ?_
  exact ⟨rfl, by rw [ixN_nI (by omega)]⟩
set_option maxHeartbeats 1600000 in
theorem C_X6_changeBack {l : Launch} {G : GE} {h : Hp} {k c : Nat} (hc : c < 128) : CT l G mX6_changeBack [vR g_way k, vI (nI c)] h (fun r h' => r = none ∧ h' = hset h g_nums k (c / 2) (h g_nums k (c / 2) - stp c)) := by
  refine CT.of (lv := [_, _]) (by decide +kernel) (Nat.le_of_ble_eq_true rfl) rfl ?_
  refine E_aload_n (pc := 0) 0 dX6_changeBack_0 rfl rfl ?_
  refine E_getR0 (pc := 1) dX6_changeBack_1 fl_RX6_11 rfl rfl ?_
  refine E_iload_n (pc := 4) 1 dX6_changeBack_4 rfl rfl ?_
  refine E_iconst (pc := 5) (1) dX6_changeBack_5 (by decide) ?_
  refine E_ishr (pc := 6) dX6_changeBack_6 ?_
  refine E_eq (st' := [vI (nI (c / 2)), vR g_nums k]) rfl (by rw [shr1 (by omega)]) rfl ?_
  refine E_dup2 (pc := 7) dX6_changeBack_7 (fun _ z => by cases z) (fun _ z => by cases z) ?_
  refine E_iald (pc := 8) dX6_changeBack_8 rfl (vp_in_nI (by omega) (by decide)) ?_
  refine E_iload_n (pc := 9) 1 dX6_changeBack_9 rfl rfl ?_
  refine E_callS1 (pc := 10) dX6_changeBack_10 C_X6_step rfl ks_RX6_40 rfl ⟨Nat.le_of_ble_eq_true rfl, Nat.le_of_ble_eq_true rfl, Nat.le_of_ble_eq_true rfl, Nat.le_of_ble_eq_true rfl⟩ (Nat.le_of_ble_eq_true rfl) ?_
  refine E_isub (pc := 13) dX6_changeBack_13 ?_
  refine E_top (y := h g_nums k (c / 2) - stp c) (by rw [ixN_nI (by omega), stp_eq (by omega)]) ?_
  refine E_iast (pc := 14) dX6_changeBack_14 rfl (vp_in_nI (by omega) (by decide)) ?_
  refine E_vret (pc := 15) dX6_changeBack_15 rfl ?_
  exact ⟨rfl, by rw [ixN_nI (by omega)]⟩
def unl (f g : Nat → Int32) : Nat → Nat
  | 0 => 0
  | i + 1 => if f i = g i then unl f g i else unl f g i + 1
theorem unl_le (f g : Nat → Int32) : ∀ i, unl f g i ≤ i
  | 0 => Nat.le_refl 0
  | i + 1 => by
    have := unl_le f g i
    unfold unl
    by_cases h : f i = g i
    · rw [if_pos h]; omega
    · rw [if_neg h]; omega
set_option maxHeartbeats 1600000 in
theorem C_X6_unlikeNumbers {l : Launch} {G : GE} {h : Hp} {k j T : Nat} (hT : h g_way k 1 = nI T) (hT8 : T ≤ 8) : CT l G mX6_unlikeNumbers [vR g_way k, vR g_way j] h (fun r h' => r = some (nI (unl (h g_nums k) (h g_nums j) (8 * T))) ∧ h' = h) := by
  refine CT.of (lv := [_, _, _, _]) (by decide +kernel) (Nat.le_of_ble_eq_true rfl) rfl ?_
  refine E_iconst (pc := 0) (0) dX6_unlikeNumbers_0 (by decide) ?_
  refine E_istore_n (pc := 1) 2 dX6_unlikeNumbers_1 rfl (Nat.le_of_ble_eq_true rfl) rfl (lz := [_, _, _, _]) rfl ?_
  refine E_iconst (pc := 2) (0) dX6_unlikeNumbers_2 (by decide) ?_
  refine E_istore_n (pc := 3) 3 dX6_unlikeNumbers_3 rfl (Nat.le_of_ble_eq_true rfl) rfl (lz := [_, _, _, _]) rfl ?_
  refine down (P := fun i => Ev l G mX6_unlikeNumbers _ 4 [some (vR g_way k), some (vR g_way j), some (vI (nI (unl (h g_nums k) (h g_nums j) i))), some (vI (nI i))] [] h) (8 * T) ?_ ?_ 0 (Nat.zero_le _)
  · refine E_iload_n (pc := 4) 3 dX6_unlikeNumbers_4 rfl rfl ?_
    refine E_aload_n (pc := 5) 0 dX6_unlikeNumbers_5 rfl rfl ?_
    refine E_callV1 (pc := 6) dX6_unlikeNumbers_6 C_X6_countNumbers rfl kv_RX6_36 rfl rfl rfl ⟨Nat.le_of_ble_eq_true rfl, Nat.le_of_ble_eq_true rfl, Nat.le_of_ble_eq_true rfl, Nat.le_of_ble_eq_true rfl⟩ (Nat.le_of_ble_eq_true rfl) ?_
    refine E_top (y := nI (8 * T)) (by rw [hT, show (8 : Int32) = nI 8 from rfl, pk_mul]) ?_
    refine E_icmp_ge (pc := 9) 36 dX6_unlikeNumbers_9 rfl (fun q9 => ?_) (fun q9 => absurd (Int32.le_refl _) q9)
    refine E_iload_n (pc := 36) 2 dX6_unlikeNumbers_36 rfl rfl ?_
    refine E_iret (pc := 37) dX6_unlikeNumbers_37 rfl ?_
    first | exact ⟨rfl, rfl⟩ | exact ⟨by grind [bi], rfl⟩
  · intro i hi hn
    refine E_iload_n (pc := 4) 3 dX6_unlikeNumbers_4 rfl rfl ?_
    refine E_aload_n (pc := 5) 0 dX6_unlikeNumbers_5 rfl rfl ?_
    refine E_callV1 (pc := 6) dX6_unlikeNumbers_6 C_X6_countNumbers rfl kv_RX6_36 rfl rfl rfl ⟨Nat.le_of_ble_eq_true rfl, Nat.le_of_ble_eq_true rfl, Nat.le_of_ble_eq_true rfl, Nat.le_of_ble_eq_true rfl⟩ (Nat.le_of_ble_eq_true rfl) ?_
    refine E_top (y := nI (8 * T)) (by rw [hT, show (8 : Int32) = nI 8 from rfl, pk_mul]) ?_
    refine E_icmp_ge (pc := 9) 36 dX6_unlikeNumbers_9 rfl (fun q9 => absurd q9 (nI_ge hi (by omega))) (fun q9 => ?_)
    refine E_aload_n (pc := 12) 0 dX6_unlikeNumbers_12 rfl rfl ?_
    refine E_getR0 (pc := 13) dX6_unlikeNumbers_13 fl_RX6_11 rfl rfl ?_
    refine E_iload_n (pc := 16) 3 dX6_unlikeNumbers_16 rfl rfl ?_
    refine E_iald (pc := 17) dX6_unlikeNumbers_17 rfl (vp_in_nI (by omega) (by decide)) ?_
    refine E_aload_n (pc := 18) 1 dX6_unlikeNumbers_18 rfl rfl ?_
    refine E_getR0 (pc := 19) dX6_unlikeNumbers_19 fl_RX6_11 rfl rfl ?_
    refine E_iload_n (pc := 22) 3 dX6_unlikeNumbers_22 rfl rfl ?_
    refine E_iald (pc := 23) dX6_unlikeNumbers_23 rfl (vp_in_nI (by omega) (by decide)) ?_
    refine E_eq (st' := [vI (h g_nums j i), vI (h g_nums k i)]) rfl (by rw [ixN_nI (by omega)]) rfl ?_
    refine E_icmp_eq (pc := 24) 30 dX6_unlikeNumbers_24 rfl (fun q24 => ?_) (fun q24 => ?_)
    · have hl : unl (h g_nums k) (h g_nums j) (i + 1) = unl (h g_nums k) (h g_nums j) i := if_pos q24
      refine E_iincN (pc := 30) 3 dX6_unlikeNumbers_30 (Nat.le_of_ble_eq_true rfl) rfl rfl (lz := [_, _, _, _]) rfl ?_
      refine E_goto (pc := 33) 4 dX6_unlikeNumbers_33 rfl ?_
      rw [hl] at hn
      exact hn
    · have hl : unl (h g_nums k) (h g_nums j) (i + 1) = unl (h g_nums k) (h g_nums j) i + 1 := if_neg q24
      refine E_iincN (pc := 27) 2 dX6_unlikeNumbers_27 (Nat.le_of_ble_eq_true rfl) rfl rfl (lz := [_, _, _, _]) rfl ?_
      refine E_iincN (pc := 30) 3 dX6_unlikeNumbers_30 (Nat.le_of_ble_eq_true rfl) rfl rfl (lz := [_, _, _, _]) rfl ?_
      refine E_goto (pc := 33) 4 dX6_unlikeNumbers_33 rfl ?_
      rw [hl] at hn
      exact hn
abbrev inB (N : Nat → Int32) (t : Nat) : Prop := ¬ ∃ i, i < 8 ∧ ¬ okN (N (8 * t + i))
set_option maxHeartbeats 1600000 in
theorem C_X6_isTenthInBounds {l : Launch} {G : GE} {h : Hp} {k t : Nat} (ht : t ≤ 7) : CT l G mX6_isTenthInBounds [vR g_way k, vI (nI t)] h (fun r h' => r = some (bi (inB (h g_nums k) t)) ∧ h' = h) := by
  refine CT.of (lv := [_, _, _]) (by decide +kernel) (Nat.le_of_ble_eq_true rfl) rfl ?_
  refine E_bipush (pc := 0) (8) dX6_isTenthInBounds_0 (by decide) ?_
  refine E_iload_n (pc := 2) 1 dX6_isTenthInBounds_2 rfl rfl ?_
  refine E_imul (pc := 3) dX6_isTenthInBounds_3 ?_
  refine E_top (y := nI (8 * t)) (by rw [show (8 : Int32) = nI 8 from rfl, pk_mul]) ?_
  refine E_istore_n (pc := 4) 2 dX6_isTenthInBounds_4 rfl (Nat.le_of_ble_eq_true rfl) rfl (lz := [_, _, _]) rfl ?_
  refine down (P := fun i => (∀ j, j < i → okN (h g_nums k (8 * t + j))) → Ev l G mX6_isTenthInBounds _ 5 [some (vR g_way k), some (vI (nI t)), some (vI (nI (8 * t + i)))] [] h) 8 ?_ ?_ 0 (Nat.zero_le _) (fun j hj => absurd hj (Nat.not_lt_zero j))
  · intro ho
    refine E_iload_n (pc := 5) 2 dX6_isTenthInBounds_5 rfl rfl ?_
    refine E_bipush (pc := 6) (8) dX6_isTenthInBounds_6 (by decide) ?_
    refine E_iload_n (pc := 8) 1 dX6_isTenthInBounds_8 rfl rfl ?_
    refine E_iconst (pc := 9) (1) dX6_isTenthInBounds_9 (by decide) ?_
    refine E_iadd (pc := 10) dX6_isTenthInBounds_10 ?_
    refine E_imul (pc := 11) dX6_isTenthInBounds_11 ?_
    refine E_top (y := nI (8 * t + 8)) (by rw [← nI_succ, show (8 : Int32) = nI 8 from rfl, pk_mul]; rfl) ?_
    refine E_icmp_ge (pc := 12) 35 dX6_isTenthInBounds_12 rfl (fun q12 => ?_) (fun q12 => absurd (Int32.le_refl _) q12)
    refine E_iconst (pc := 35) (1) dX6_isTenthInBounds_35 (by decide) ?_
    refine E_zret (pc := 36) dX6_isTenthInBounds_36 rfl rfl ?_
    exact ⟨congrArg some (bi_t (show inB (h g_nums k) t from fun ⟨i, h1, h2⟩ => h2 (ho i h1))).symm, rfl⟩
  · intro i hi hn ho
    refine E_iload_n (pc := 5) 2 dX6_isTenthInBounds_5 rfl rfl ?_
    refine E_bipush (pc := 6) (8) dX6_isTenthInBounds_6 (by decide) ?_
    refine E_iload_n (pc := 8) 1 dX6_isTenthInBounds_8 rfl rfl ?_
    refine E_iconst (pc := 9) (1) dX6_isTenthInBounds_9 (by decide) ?_
    refine E_iadd (pc := 10) dX6_isTenthInBounds_10 ?_
    refine E_imul (pc := 11) dX6_isTenthInBounds_11 ?_
    refine E_top (y := nI (8 * t + 8)) (by rw [← nI_succ, show (8 : Int32) = nI 8 from rfl, pk_mul]; rfl) ?_
    refine E_icmp_ge (pc := 12) 35 dX6_isTenthInBounds_12 rfl (fun q12 => absurd q12 (nI_ge (by omega) (by omega))) (fun q12 => ?_)
    refine E_aload_n (pc := 15) 0 dX6_isTenthInBounds_15 rfl rfl ?_
    refine E_getR0 (pc := 16) dX6_isTenthInBounds_16 fl_RX6_11 rfl rfl ?_
    refine E_iload_n (pc := 19) 2 dX6_isTenthInBounds_19 rfl rfl ?_
    refine E_iald (pc := 20) dX6_isTenthInBounds_20 rfl (vp_in_nI (by omega) (by decide)) ?_
    refine E_top (y := h g_nums k (8 * t + i)) (by rw [ixN_nI (by omega)]) ?_
    refine E_callS1 (pc := 21) dX6_isTenthInBounds_21 C_X6_isNumber rfl ks_RX6_32 rfl ⟨Nat.le_of_ble_eq_true rfl, Nat.le_of_ble_eq_true rfl, Nat.le_of_ble_eq_true rfl, Nat.le_of_ble_eq_true rfl⟩ (Nat.le_of_ble_eq_true rfl) ?_
    refine E_if_ne (pc := 24) 29 dX6_isTenthInBounds_24 rfl (fun q24 => ?_) (fun q24 => ?_)
    · have h4 : okN (h g_nums k (8 * t + i)) := Decidable.of_not_not (fun z => q24 (bi_0.mpr z))
      refine E_iincN (pc := 29) 2 dX6_isTenthInBounds_29 (Nat.le_of_ble_eq_true rfl) rfl rfl (lz := [_, _, _]) rfl ?_
      refine E_goto (pc := 32) 5 dX6_isTenthInBounds_32 rfl ?_
      exact hn (lt_s ho h4)
    · refine E_iconst (pc := 27) (0) dX6_isTenthInBounds_27 (by decide) ?_
      refine E_zret (pc := 28) dX6_isTenthInBounds_28 rfl rfl ?_
      exact ⟨congrArg some (bi_f (show ¬ inB (h g_nums k) t from fun z => z ⟨i, hi, bi_0.mp q24⟩)).symm, rfl⟩
