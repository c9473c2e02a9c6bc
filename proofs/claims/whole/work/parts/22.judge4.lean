/-! the judge: order, barred, worth -/
/-- the first tenth from i on, n at most, in which the part isn't behind the bar -/
def faF (V N : Nat → Int32) (p : Nat) : Nat → Nat → Nat
  | 0, i => i
  | n + 1, i => if sPlace V N i p 0 < 0 then faF V N p n (i + 1) else i
theorem faF_le (V N : Nat → Int32) (p : Nat) : ∀ n i, faF V N p n i ≤ i + n
  | 0, i => Nat.le_refl i
  | n + 1, i => by
    unfold faF
    by_cases hc : sPlace V N i p 0 < 0
    · rw [if_pos hc]; have := faF_le V N p n (i + 1); omega
    · rw [if_neg hc]; omega
set_option maxHeartbeats 1600000 in
theorem C_X0_firstAcross {l : Launch} {G : GE} {h : Hp} {k T p : Nat} (hT : h g_way k 1 = nI T) (hT8 : T ≤ 8) (hp : p ≤ 3) : CT l G mX0_firstAcross [vR g_judge 0, vR g_way k, vI (nI p)] h (fun r h' => r = some (nI (faF (h g_values 0) (h g_nums k) p T 0)) ∧ h' = h) := by
  refine CT.of (lv := [_, _, _, _]) (by decide +kernel) (Nat.le_of_ble_eq_true rfl) rfl ?_
  refine E_iconst (pc := 0) (0) dX0_firstAcross_0 (by decide) ?_
  refine E_istore_n (pc := 1) 3 dX0_firstAcross_1 rfl (Nat.le_of_ble_eq_true rfl) rfl (lz := [_, _, _, _]) rfl ?_
  refine down (P := fun i => faF (h g_values 0) (h g_nums k) p (T - i) i = faF (h g_values 0) (h g_nums k) p T 0 → Ev l G mX0_firstAcross _ 2 [some (vR g_judge 0), some (vR g_way k), some (vI (nI p)), some (vI (nI i))] [] h) T ?_ ?_ 0 (Nat.zero_le _) rfl
  · intro hf
    refine E_iload_n (pc := 2) 3 dX0_firstAcross_2 rfl rfl ?_
    refine E_aload_n (pc := 3) 1 dX0_firstAcross_3 rfl rfl ?_
    refine E_getI (pc := 4) dX0_firstAcross_4 fl_RX0_69 rfl rfl ?_
    refine E_top (y := nI T) hT ?_
    refine E_icmp_ge (pc := 7) 27 dX0_firstAcross_7 rfl (fun q7 => ?_) (fun q7 => absurd (Int32.le_refl _) q7)
    refine E_iload_n (pc := 27) 3 dX0_firstAcross_27 rfl rfl ?_
    refine E_iret (pc := 28) dX0_firstAcross_28 rfl ?_
    exact ⟨by rw [← hf, Nat.sub_self]; rfl, rfl⟩
  · intro i hi hn hf
    have hs : T - i = (T - (i + 1)) + 1 := by omega
    rw [hs] at hf
    refine E_iload_n (pc := 2) 3 dX0_firstAcross_2 rfl rfl ?_
    refine E_aload_n (pc := 3) 1 dX0_firstAcross_3 rfl rfl ?_
    refine E_getI (pc := 4) dX0_firstAcross_4 fl_RX0_69 rfl rfl ?_
    refine E_top (y := nI T) hT ?_
    refine E_icmp_ge (pc := 7) 27 dX0_firstAcross_7 rfl (fun q7 => absurd q7 (nI_ge hi (by omega))) (fun q7 => ?_)
    refine E_aload_n (pc := 10) 0 dX0_firstAcross_10 rfl rfl ?_
    refine E_aload_n (pc := 11) 1 dX0_firstAcross_11 rfl rfl ?_
    refine E_iload_n (pc := 12) 3 dX0_firstAcross_12 rfl rfl ?_
    refine E_iload_n (pc := 13) 2 dX0_firstAcross_13 rfl rfl ?_
    refine E_iconst (pc := 14) (0) dX0_firstAcross_14 (by decide) ?_
    refine E_callV1 (pc := 15) dX0_firstAcross_15 (C_X0_placeOf (ax := 0) (by omega) hp (by decide)) rfl kv_RX0_114 rfl rfl rfl ⟨Nat.le_of_ble_eq_true rfl, Nat.le_of_ble_eq_true rfl, Nat.le_of_ble_eq_true rfl, Nat.le_of_ble_eq_true rfl⟩ (Nat.le_of_ble_eq_true rfl) ?_
    refine E_if_ge (pc := 18) 27 dX0_firstAcross_18 rfl (fun q18 => ?_) (fun q18 => ?_)
    · refine E_iload_n (pc := 27) 3 dX0_firstAcross_27 rfl rfl ?_
      refine E_iret (pc := 28) dX0_firstAcross_28 rfl ?_
      exact ⟨by rw [← hf]; unfold faF; rw [if_neg (Int32.not_lt.mpr q18)], rfl⟩
    · have hf2 : faF (h g_values 0) (h g_nums k) p (T - (i + 1)) (i + 1) = faF (h g_values 0) (h g_nums k) p T 0 := by rw [← hf]; exact (if_pos (Int32.not_le.mp q18)).symm
      refine E_iincN (pc := 21) 3 dX0_firstAcross_21 (Nat.le_of_ble_eq_true rfl) rfl rfl (lz := [_, _, _, _]) rfl ?_
      refine E_goto (pc := 24) 2 dX0_firstAcross_24 rfl ?_
      exact hn hf2
def ordI (f : Nat → Nat) (t : Nat) (x : Int32) : Nat → Int32
  | 0 => x
  | p + 1 => if f p = t then ordI f t x p * 4 + nI p else ordI f t x p
def ordO (f : Nat → Nat) : Nat → Int32
  | 0 => 0
  | t + 1 => ordI f t (ordO f t) 4
set_option maxHeartbeats 1600000 in
theorem C_X0_orderOfParts {l : Launch} {G : GE} {h : Hp} {k T : Nat} (hT : h g_way k 1 = nI T) (hT8 : T ≤ 8) : CT l G mX0_orderOfParts [vR g_judge 0, vR g_way k] h (fun r h' => r = some (ordO (fun p => faF (h g_values 0) (h g_nums k) p T 0) T) ∧ h' = h) := by
  refine CT.of (lv := [_, _, _, _, _]) (by decide +kernel) (Nat.le_of_ble_eq_true rfl) rfl ?_
  refine E_iconst (pc := 0) (0) dX0_orderOfParts_0 (by decide) ?_
  refine E_istore_n (pc := 1) 2 dX0_orderOfParts_1 rfl (Nat.le_of_ble_eq_true rfl) rfl (lz := [_, _, _, _, _]) rfl ?_
  refine E_iconst (pc := 2) (0) dX0_orderOfParts_2 (by decide) ?_
  refine E_istore_n (pc := 3) 3 dX0_orderOfParts_3 rfl (Nat.le_of_ble_eq_true rfl) rfl (lz := [_, _, _, _, _]) rfl ?_
  refine down (P := fun t => Ev l G mX0_orderOfParts _ 4 [some (vR g_judge 0), some (vR g_way k), some (vI (ordO (fun p => faF (h g_values 0) (h g_nums k) p T 0) t)), some (vI (nI t)), none] [] h) T ?_ ?_ 0 (Nat.zero_le _)
  · refine E_iload_n (pc := 4) 3 dX0_orderOfParts_4 rfl rfl ?_
    refine E_aload_n (pc := 5) 1 dX0_orderOfParts_5 rfl rfl ?_
    refine E_getI (pc := 6) dX0_orderOfParts_6 fl_RX0_69 rfl rfl ?_
    refine E_top (y := nI T) hT ?_
    refine E_icmp_ge (pc := 9) 51 dX0_orderOfParts_9 rfl (fun q9 => ?_) (fun q9 => absurd (Int32.le_refl _) q9)
    refine E_iload_n (pc := 51) 2 dX0_orderOfParts_51 rfl rfl ?_
    refine E_iret (pc := 52) dX0_orderOfParts_52 rfl ?_
    first | exact ⟨rfl, rfl⟩ | exact ⟨by grind [bi], rfl⟩
  · intro t ht hn
    refine E_iload_n (pc := 4) 3 dX0_orderOfParts_4 rfl rfl ?_
    refine E_aload_n (pc := 5) 1 dX0_orderOfParts_5 rfl rfl ?_
    refine E_getI (pc := 6) dX0_orderOfParts_6 fl_RX0_69 rfl rfl ?_
    refine E_top (y := nI T) hT ?_
    refine E_icmp_ge (pc := 9) 51 dX0_orderOfParts_9 rfl (fun q9 => absurd q9 (nI_ge ht (by omega))) (fun q9 => ?_)
    refine E_iconst (pc := 12) (0) dX0_orderOfParts_12 (by decide) ?_
    refine E_istore (pc := 13) 4 dX0_orderOfParts_13 (Nat.le_of_ble_eq_true rfl) rfl (lz := [_, _, _, _, _]) rfl ?_
    refine down (P := fun p => Ev l G mX0_orderOfParts _ 15 [some (vR g_judge 0), some (vR g_way k), some (vI (ordI (fun p => faF (h g_values 0) (h g_nums k) p T 0) t (ordO (fun p => faF (h g_values 0) (h g_nums k) p T 0) t) p)), some (vI (nI t)), some (vI (nI p))] [] h) 4 ?_ ?_ 0 (Nat.zero_le _)
    · refine E_iload (pc := 15) 4 dX0_orderOfParts_15 rfl ?_
      refine E_iconst (pc := 17) (4) dX0_orderOfParts_17 (by decide) ?_
      refine E_icmp_ge (pc := 18) 45 dX0_orderOfParts_18 rfl (fun q18 => ?_) (fun q18 => absurd (show (4 : Int32) ≤ 4 by decide) q18)
      refine E_iincN (pc := 45) 3 dX0_orderOfParts_45 (Nat.le_of_ble_eq_true rfl) rfl rfl (lz := [_, _, _, _, _]) rfl ?_
      refine E_goto (pc := 48) 4 dX0_orderOfParts_48 rfl ?_
      exact E_drop 4 hn
    · intro p hp hm
      refine E_iload (pc := 15) 4 dX0_orderOfParts_15 rfl ?_
      refine E_iconst (pc := 17) (4) dX0_orderOfParts_17 (by decide) ?_
      refine E_icmp_ge (pc := 18) 45 dX0_orderOfParts_18 rfl (fun q18 => absurd q18 (nI_ge (b := 4) hp (by decide))) (fun q18 => ?_)
      refine E_aload_n (pc := 21) 0 dX0_orderOfParts_21 rfl rfl ?_
      refine E_aload_n (pc := 22) 1 dX0_orderOfParts_22 rfl rfl ?_
      refine E_iload (pc := 23) 4 dX0_orderOfParts_23 rfl ?_
      refine E_callV1 (pc := 25) dX0_orderOfParts_25 (C_X0_firstAcross hT hT8 (by omega)) rfl kv_RX0_110 rfl rfl rfl ⟨Nat.le_of_ble_eq_true rfl, Nat.le_of_ble_eq_true rfl, Nat.le_of_ble_eq_true rfl, Nat.le_of_ble_eq_true rfl⟩ (Nat.le_of_ble_eq_true rfl) ?_
      refine E_iload_n (pc := 28) 3 dX0_orderOfParts_28 rfl rfl ?_
      refine E_icmp_ne (pc := 29) 39 dX0_orderOfParts_29 rfl (fun q29 => ?_) (fun q29 => ?_)
      · have hl : ordI (fun p => faF (h g_values 0) (h g_nums k) p T 0) t (ordO (fun p => faF (h g_values 0) (h g_nums k) p T 0) t) (p + 1) = ordI (fun p => faF (h g_values 0) (h g_nums k) p T 0) t (ordO (fun p => faF (h g_values 0) (h g_nums k) p T 0) t) p := if_neg (fun z => q29 (congrArg nI z))
        refine E_iincN (pc := 39) 4 dX0_orderOfParts_39 (Nat.le_of_ble_eq_true rfl) rfl rfl (lz := [_, _, _, _, _]) rfl ?_
        refine E_goto (pc := 42) 15 dX0_orderOfParts_42 rfl ?_
        rw [hl] at hm
        exact hm
      · have hl : ordI (fun p => faF (h g_values 0) (h g_nums k) p T 0) t (ordO (fun p => faF (h g_values 0) (h g_nums k) p T 0) t) (p + 1) = ordI (fun p => faF (h g_values 0) (h g_nums k) p T 0) t (ordO (fun p => faF (h g_values 0) (h g_nums k) p T 0) t) p * 4 + nI p := if_pos ((nI_eq (by have := faF_le (h g_values 0) (h g_nums k) p T 0; omega) (by omega)).mp q29)
        refine E_iload_n (pc := 32) 2 dX0_orderOfParts_32 rfl rfl ?_
        refine E_iconst (pc := 33) (4) dX0_orderOfParts_33 (by decide) ?_
        refine E_imul (pc := 34) dX0_orderOfParts_34 ?_
        refine E_iload (pc := 35) 4 dX0_orderOfParts_35 rfl ?_
        refine E_iadd (pc := 37) dX0_orderOfParts_37 ?_
        refine E_istore_n (pc := 38) 2 dX0_orderOfParts_38 rfl (Nat.le_of_ble_eq_true rfl) rfl (lz := [_, _, _, _, _]) rfl ?_
        refine E_iincN (pc := 39) 4 dX0_orderOfParts_39 (Nat.le_of_ble_eq_true rfl) rfl rfl (lz := [_, _, _, _, _]) rfl ?_
        refine E_goto (pc := 42) 15 dX0_orderOfParts_42 rfl ?_
        rw [hl] at hm
        exact hm
theorem landF_or (N : Nat → Int32) (T : Nat) : ∀ p, ∃ j, j ≤ p ∧ landF N T p = nI j
  | 0 => ⟨0, Nat.le_refl 0, rfl⟩
  | p + 1 => by
    unfold landF
    by_cases hc : N (8 * (T - 1) + 2 * (p + 1) + 1) ≤ N (8 * (T - 1) + 2 * ixN (landF N T p) + 1)
    · rw [if_pos hc]; exact ⟨p + 1, Nat.le_refl _, rfl⟩
    · rw [if_neg hc]
      obtain ⟨j, hj, e⟩ := landF_or N T p
      exact ⟨j, Nat.le_succ_of_le hj, e⟩
set_option maxHeartbeats 1600000 in
theorem C_X0_pitBears {l : Launch} {G : GE} {h : Hp} {k T : Nat} {pit : Int32} (hT : h g_way k 1 = nI T) (hT1 : 1 ≤ T) (hT8 : T ≤ 8) : CT l G mX0_pitBears [vI pit, vR g_way k] h (fun r h' => r = some (bi (bearsA (h g_nums k) T pit)) ∧ h' = h) := by
  refine CT.of (lv := [_, _, _, _, _]) (by decide +kernel) (Nat.le_of_ble_eq_true rfl) rfl ?_
  refine E_iconst (pc := 0) (0) dX0_pitBears_0 (by decide) ?_
  refine E_istore_n (pc := 1) 2 dX0_pitBears_1 rfl (Nat.le_of_ble_eq_true rfl) rfl (lz := [_, _, _, _, _]) rfl ?_
  refine E_aload_n (pc := 2) 1 dX0_pitBears_2 rfl rfl ?_
  refine E_getI (pc := 3) dX0_pitBears_3 fl_RX0_69 rfl rfl ?_
  refine E_iconst (pc := 6) (1) dX0_pitBears_6 (by decide) ?_
  refine E_isub (pc := 7) dX0_pitBears_7 ?_
  refine E_top (y := nI (T - 1)) (by rw [hT, show (1 : Int32) = nI 1 from rfl, pk_sub (by omega)]) ?_
  refine E_istore_n (pc := 8) 3 dX0_pitBears_8 rfl (Nat.le_of_ble_eq_true rfl) rfl (lz := [_, _, _, _, _]) rfl ?_
  refine E_iconst (pc := 9) (1) dX0_pitBears_9 (by decide) ?_
  refine E_istore (pc := 10) 4 dX0_pitBears_10 (Nat.le_of_ble_eq_true rfl) rfl (lz := [_, _, _, _, _]) rfl ?_
  refine down (P := fun p => Ev l G mX0_pitBears _ 12 [some (vI pit), some (vR g_way k), some (vI (landF (h g_nums k) T p)), some (vI (nI (T - 1))), some (vI (nI (p + 1)))] [] h) 3 ?_ ?_ 0 (Nat.zero_le _)
  · refine E_iload (pc := 12) 4 dX0_pitBears_12 rfl ?_
    refine E_iconst (pc := 14) (4) dX0_pitBears_14 (by decide) ?_
    refine E_icmp_ge (pc := 15) 55 dX0_pitBears_15 rfl (fun q15 => ?_) (fun q15 => absurd (show (4 : Int32) ≤ 4 by decide) q15)
    refine E_iload_n (pc := 55) 0 dX0_pitBears_55 rfl rfl ?_
    refine E_iconst (pc := 56) (2) dX0_pitBears_56 (by decide) ?_
    refine E_icmp_eq (pc := 57) 67 dX0_pitBears_57 rfl (fun q57 => ?_) (fun q57 => ?_)
    · refine E_iconst (pc := 67) (1) dX0_pitBears_67 (by decide) ?_
      refine E_goto (pc := 68) 72 dX0_pitBears_68 rfl ?_
      refine E_zret (pc := 72) dX0_pitBears_72 rfl rfl ?_
      exact ⟨by grind [bi], rfl⟩
    · refine E_iload_n (pc := 60) 2 dX0_pitBears_60 rfl rfl ?_
      refine E_iconst (pc := 61) (3) dX0_pitBears_61 (by decide) ?_
      refine E_iload_n (pc := 62) 0 dX0_pitBears_62 rfl rfl ?_
      refine E_isub (pc := 63) dX0_pitBears_63 ?_
      refine E_icmp_lt (pc := 64) 71 dX0_pitBears_64 rfl (fun q64 => ?_) (fun q64 => ?_)
      · refine E_iconst (pc := 71) (0) dX0_pitBears_71 (by decide) ?_
        refine E_zret (pc := 72) dX0_pitBears_72 rfl rfl ?_
        exact ⟨by grind [bi], rfl⟩
      · refine E_iconst (pc := 67) (1) dX0_pitBears_67 (by decide) ?_
        refine E_goto (pc := 68) 72 dX0_pitBears_68 rfl ?_
        refine E_zret (pc := 72) dX0_pitBears_72 rfl rfl ?_
        exact ⟨by grind [bi], rfl⟩
  · intro p hp hn
    obtain ⟨j, hj, ej⟩ := landF_or (h g_nums k) T p
    refine E_iload (pc := 12) 4 dX0_pitBears_12 rfl ?_
    refine E_iconst (pc := 14) (4) dX0_pitBears_14 (by decide) ?_
    refine E_icmp_ge (pc := 15) 55 dX0_pitBears_15 rfl (fun q15 => absurd q15 (nI_ge (a := p + 1) (b := 4) (by omega) (by decide))) (fun q15 => ?_)
    refine E_aload_n (pc := 18) 1 dX0_pitBears_18 rfl rfl ?_
    refine E_getR0 (pc := 19) dX0_pitBears_19 fl_RX0_50 rfl rfl ?_
    refine E_iload_n (pc := 22) 3 dX0_pitBears_22 rfl rfl ?_
    refine E_iload (pc := 23) 4 dX0_pitBears_23 rfl ?_
    refine E_callS1 (pc := 25) dX0_pitBears_25 C_X6_spot rfl ks_RX0_53 rfl ⟨Nat.le_of_ble_eq_true rfl, Nat.le_of_ble_eq_true rfl, Nat.le_of_ble_eq_true rfl, Nat.le_of_ble_eq_true rfl⟩ (Nat.le_of_ble_eq_true rfl) ?_
    refine E_iconst (pc := 28) (1) dX0_pitBears_28 (by decide) ?_
    refine E_iadd (pc := 29) dX0_pitBears_29 ?_
    refine E_iald (pc := 30) dX0_pitBears_30 rfl (vinA (a := 1) (by omega)) ?_
    refine E_aload_n (pc := 31) 1 dX0_pitBears_31 rfl rfl ?_
    refine E_getR0 (pc := 32) dX0_pitBears_32 fl_RX0_50 rfl rfl ?_
    refine E_iload_n (pc := 35) 3 dX0_pitBears_35 rfl rfl ?_
    refine E_eq (st' := [vI (nI (T - 1)), vR g_nums k, vI (h g_nums k (8 * (T - 1) + 2 * (p + 1) + 1))]) rfl (by rw [show (1 : Int32) = nI 1 from rfl, e_ixA (by omega)]) rfl ?_
    refine E_iload_n (pc := 36) 2 dX0_pitBears_36 rfl rfl ?_
    refine E_eq (st' := [vI (nI j), vI (nI (T - 1)), vR g_nums k, vI (h g_nums k (8 * (T - 1) + 2 * (p + 1) + 1))]) rfl (by rw [ej]) rfl ?_
    refine E_callS1 (pc := 37) dX0_pitBears_37 C_X6_spot rfl ks_RX0_53 rfl ⟨Nat.le_of_ble_eq_true rfl, Nat.le_of_ble_eq_true rfl, Nat.le_of_ble_eq_true rfl, Nat.le_of_ble_eq_true rfl⟩ (Nat.le_of_ble_eq_true rfl) ?_
    refine E_iconst (pc := 40) (1) dX0_pitBears_40 (by decide) ?_
    refine E_iadd (pc := 41) dX0_pitBears_41 ?_
    refine E_iald (pc := 42) dX0_pitBears_42 rfl (vinA (a := 1) (by omega)) ?_
    refine E_top (y := h g_nums k (8 * (T - 1) + 2 * ixN (landF (h g_nums k) T p) + 1)) (by rw [show (1 : Int32) = nI 1 from rfl, e_ixA (by omega), ej, ixN_nI (by omega)]) ?_
    refine E_icmp_gt (pc := 43) 49 dX0_pitBears_43 rfl (fun q43 => ?_) (fun q43 => ?_)
    · have hl : landF (h g_nums k) T (p + 1) = landF (h g_nums k) T p := if_neg (fun z => Int32.not_le.mpr q43 z)
      refine E_iincN (pc := 49) 4 dX0_pitBears_49 (Nat.le_of_ble_eq_true rfl) rfl rfl (lz := [_, _, _, _, _]) rfl ?_
      refine E_goto (pc := 52) 12 dX0_pitBears_52 rfl ?_
      rw [hl] at hn
      exact hn
    · have hl : landF (h g_nums k) T (p + 1) = nI (p + 1) := if_pos (Int32.not_lt.mp q43)
      refine E_iload (pc := 46) 4 dX0_pitBears_46 rfl ?_
      refine E_istore_n (pc := 48) 2 dX0_pitBears_48 rfl (Nat.le_of_ble_eq_true rfl) rfl (lz := [_, _, _, _, _]) rfl ?_
      refine E_iincN (pc := 49) 4 dX0_pitBears_49 (Nat.le_of_ble_eq_true rfl) rfl rfl (lz := [_, _, _, _, _]) rfl ?_
      refine E_goto (pc := 52) 12 dX0_pitBears_52 rfl ?_
      rw [hl] at hn
      exact hn
set_option maxHeartbeats 1600000 in
theorem C_X0_whyBarred {l : Launch} {G : GE} {h : Hp} {k T : Nat} (hT : h g_way k 1 = nI T) (hT1 : 1 ≤ T) (hT8 : T ≤ 8) : CT l G mX0_whyBarred [vR g_judge 0, vR g_way k] h (fun r h' => r = some (whyA (h g_values 0) (h g_nums k) (h g_bent 0) (h g_hasty 0) T (h g_way k 2)) ∧ h' = h) := by
  refine CT.of (lv := [_, _, _]) (by decide +kernel) (Nat.le_of_ble_eq_true rfl) rfl ?_
  refine E_iconst (pc := 0) (0) dX0_whyBarred_0 (by decide) ?_
  refine E_istore_n (pc := 1) 2 dX0_whyBarred_1 rfl (Nat.le_of_ble_eq_true rfl) rfl (lz := [_, _, _]) rfl ?_
  refine down (P := fun i => (∀ j, j < i → h g_bent 0 j = 0) → Ev l G mX0_whyBarred _ 2 [some (vR g_judge 0), some (vR g_way k), some (vI (nI i))] [] h) T ?_ ?_ 0 (Nat.zero_le _) (fun j hj => absurd hj (Nat.not_lt_zero j))
  · intro hb
    have hb2 : ¬ ∃ t, t < T ∧ ¬ h g_bent 0 t = 0 := fun ⟨t, h1, h2⟩ => h2 (hb t h1)
    refine E_iload_n (pc := 2) 2 dX0_whyBarred_2 rfl rfl ?_
    refine E_aload_n (pc := 3) 1 dX0_whyBarred_3 rfl rfl ?_
    refine E_getI (pc := 4) dX0_whyBarred_4 fl_RX0_69 rfl rfl ?_
    refine E_top (y := nI T) hT ?_
    refine E_icmp_ge (pc := 7) 27 dX0_whyBarred_7 rfl (fun q7 => ?_) (fun q7 => absurd (Int32.le_refl _) q7)
    refine E_iconst (pc := 27) (0) dX0_whyBarred_27 (by decide) ?_
    refine E_istore_n (pc := 28) 2 dX0_whyBarred_28 rfl (Nat.le_of_ble_eq_true rfl) rfl (lz := [_, _, _]) rfl ?_
    refine down (P := fun i => (∀ j, j < i → h g_hasty 0 j = 0) → Ev l G mX0_whyBarred _ 29 [some (vR g_judge 0), some (vR g_way k), some (vI (nI i))] [] h) T ?_ ?_ 0 (Nat.zero_le _) (fun j hj => absurd hj (Nat.not_lt_zero j))
    · intro hh
      have hh2 : ¬ ∃ t, t < T ∧ ¬ h g_hasty 0 t = 0 := fun ⟨t, h1, h2⟩ => h2 (hh t h1)
      refine E_iload_n (pc := 29) 2 dX0_whyBarred_29 rfl rfl ?_
      refine E_aload_n (pc := 30) 1 dX0_whyBarred_30 rfl rfl ?_
      refine E_getI (pc := 31) dX0_whyBarred_31 fl_RX0_69 rfl rfl ?_
      refine E_top (y := nI T) hT ?_
      refine E_icmp_ge (pc := 34) 54 dX0_whyBarred_34 rfl (fun q34 => ?_) (fun q34 => absurd (Int32.le_refl _) q34)
      refine E_aload_n (pc := 54) 1 dX0_whyBarred_54 rfl rfl ?_
      refine E_getI (pc := 55) dX0_whyBarred_55 fl_RX0_118 rfl rfl ?_
      refine E_aload_n (pc := 58) 0 dX0_whyBarred_58 rfl rfl ?_
      refine E_getR0 (pc := 59) dX0_whyBarred_59 fl_RX0_36 rfl rfl ?_
      refine E_getR0 (pc := 62) dX0_whyBarred_62 fl_RX0_60 rfl rfl ?_
      refine E_bipush (pc := 65) (14) dX0_whyBarred_65 (by decide) ?_
      refine E_iald (pc := 67) dX0_whyBarred_67 rfl (by unfold vp_in; decide) ?_
      refine E_top (y := h g_values 0 14) rfl ?_
      refine E_icmp_le (pc := 68) 73 dX0_whyBarred_68 rfl (fun q68 => ?_) (fun q68 => ?_)
      · refine E_aload_n (pc := 73) 0 dX0_whyBarred_73 rfl rfl ?_
        refine E_getR0 (pc := 74) dX0_whyBarred_74 fl_RX0_36 rfl rfl ?_
        refine E_getR0 (pc := 77) dX0_whyBarred_77 fl_RX0_60 rfl rfl ?_
        refine E_bipush (pc := 80) (15) dX0_whyBarred_80 (by decide) ?_
        refine E_iald (pc := 82) dX0_whyBarred_82 rfl (by unfold vp_in; decide) ?_
        refine E_top (y := h g_values 0 15) rfl ?_
        refine E_aload_n (pc := 83) 1 dX0_whyBarred_83 rfl rfl ?_
        refine E_callS1 (pc := 84) dX0_whyBarred_84 (C_X0_pitBears hT hT1 hT8) rfl ks_RX0_121 rfl ⟨Nat.le_of_ble_eq_true rfl, Nat.le_of_ble_eq_true rfl, Nat.le_of_ble_eq_true rfl, Nat.le_of_ble_eq_true rfl⟩ (Nat.le_of_ble_eq_true rfl) ?_
        refine E_if_eq (pc := 87) 94 dX0_whyBarred_87 rfl (fun q87 => ?_) (fun q87 => ?_)
        · have hp := bi_0.mp q87
          refine E_iconst (pc := 94) (4) dX0_whyBarred_94 (by decide) ?_
          refine E_iret (pc := 95) dX0_whyBarred_95 rfl ?_
          first | exact ⟨by unfold whyA; rw [if_neg hb2, if_neg hh2, if_neg (Int32.not_lt.mpr q68), if_pos hp], rfl⟩ | exact ⟨by unfold whyA; rw [if_neg hb2, if_neg hh2, if_neg (Int32.not_lt.mpr q68), if_neg hp], rfl⟩
        · have hp : bearsA (h g_nums k) T (h g_values 0 15) := Decidable.of_not_not (fun z => q87 (bi_0.mpr z))
          refine E_iconst (pc := 90) (0) dX0_whyBarred_90 (by decide) ?_
          refine E_goto (pc := 91) 95 dX0_whyBarred_91 rfl ?_
          refine E_iret (pc := 95) dX0_whyBarred_95 rfl ?_
          first | exact ⟨by unfold whyA; rw [if_neg hb2, if_neg hh2, if_neg (Int32.not_lt.mpr q68), if_pos hp], rfl⟩ | exact ⟨by unfold whyA; rw [if_neg hb2, if_neg hh2, if_neg (Int32.not_lt.mpr q68), if_neg hp], rfl⟩
      · refine E_iconst (pc := 71) (3) dX0_whyBarred_71 (by decide) ?_
        refine E_iret (pc := 72) dX0_whyBarred_72 rfl ?_
        exact ⟨by unfold whyA; rw [if_neg hb2, if_neg hh2, if_pos (Int32.not_le.mp q68)], rfl⟩
    · intro i hi hn hh
      refine E_iload_n (pc := 29) 2 dX0_whyBarred_29 rfl rfl ?_
      refine E_aload_n (pc := 30) 1 dX0_whyBarred_30 rfl rfl ?_
      refine E_getI (pc := 31) dX0_whyBarred_31 fl_RX0_69 rfl rfl ?_
      refine E_top (y := nI T) hT ?_
      refine E_icmp_ge (pc := 34) 54 dX0_whyBarred_34 rfl (fun q34 => absurd q34 (nI_ge hi (by omega))) (fun q34 => ?_)
      refine E_aload_n (pc := 37) 0 dX0_whyBarred_37 rfl rfl ?_
      refine E_getR0 (pc := 38) dX0_whyBarred_38 fl_RX0_30 rfl rfl ?_
      refine E_iload_n (pc := 41) 2 dX0_whyBarred_41 rfl rfl ?_
      refine E_zald (pc := 42) dX0_whyBarred_42 rfl (vp_in_nI (by omega) (by decide)) ?_
      refine E_top (y := h g_hasty 0 i) (by rw [ixN_nI (by omega)]) ?_
      refine E_if_eq (pc := 43) 48 dX0_whyBarred_43 rfl (fun q43 => ?_) (fun q43 => ?_)
      · refine E_iincN (pc := 48) 2 dX0_whyBarred_48 (Nat.le_of_ble_eq_true rfl) rfl rfl (lz := [_, _, _]) rfl ?_
        refine E_goto (pc := 51) 29 dX0_whyBarred_51 rfl ?_
        exact hn (lt_s hh q43)
      · refine E_iconst (pc := 46) (2) dX0_whyBarred_46 (by decide) ?_
        refine E_iret (pc := 47) dX0_whyBarred_47 rfl ?_
        exact ⟨by unfold whyA; rw [if_neg hb2, if_pos ⟨i, hi, q43⟩], rfl⟩
  · intro i hi hn hb
    refine E_iload_n (pc := 2) 2 dX0_whyBarred_2 rfl rfl ?_
    refine E_aload_n (pc := 3) 1 dX0_whyBarred_3 rfl rfl ?_
    refine E_getI (pc := 4) dX0_whyBarred_4 fl_RX0_69 rfl rfl ?_
    refine E_top (y := nI T) hT ?_
    refine E_icmp_ge (pc := 7) 27 dX0_whyBarred_7 rfl (fun q7 => absurd q7 (nI_ge hi (by omega))) (fun q7 => ?_)
    refine E_aload_n (pc := 10) 0 dX0_whyBarred_10 rfl rfl ?_
    refine E_getR0 (pc := 11) dX0_whyBarred_11 fl_RX0_26 rfl rfl ?_
    refine E_iload_n (pc := 14) 2 dX0_whyBarred_14 rfl rfl ?_
    refine E_zald (pc := 15) dX0_whyBarred_15 rfl (vp_in_nI (by omega) (by decide)) ?_
    refine E_top (y := h g_bent 0 i) (by rw [ixN_nI (by omega)]) ?_
    refine E_if_eq (pc := 16) 21 dX0_whyBarred_16 rfl (fun q16 => ?_) (fun q16 => ?_)
    · refine E_iincN (pc := 21) 2 dX0_whyBarred_21 (Nat.le_of_ble_eq_true rfl) rfl rfl (lz := [_, _, _]) rfl ?_
      refine E_goto (pc := 24) 2 dX0_whyBarred_24 rfl ?_
      exact hn (lt_s hb q16)
    · refine E_iconst (pc := 19) (1) dX0_whyBarred_19 (by decide) ?_
      refine E_iret (pc := 20) dX0_whyBarred_20 rfl ?_
      exact ⟨by unfold whyA; rw [if_pos ⟨i, hi, q16⟩], rfl⟩
set_option maxHeartbeats 1600000 in
theorem C_X0_value {l : Launch} {G : GE} {h : Hp} {k T : Nat} (hT : h g_way k 1 = nI T) (hT1 : 1 ≤ T) (hT8 : T ≤ 8) : CT l G mX0_value [vR g_judge 0, vR g_way k] h (fun r h' => r = some (valA (whyA (h g_values 0) (h g_nums k) (h g_bent 0) (h g_hasty 0) T (h g_way k 2)) (clearsA (h g_values 0) (h g_lAcr 0) (h g_mAcr 0) (h g_lUp 0) T)) ∧ h' = h) := by
  refine CT.of (lv := [_, _, _]) (by decide +kernel) (Nat.le_of_ble_eq_true rfl) rfl ?_
  refine E_aload_n (pc := 0) 0 dX0_value_0 rfl rfl ?_
  refine E_aload_n (pc := 1) 1 dX0_value_1 rfl rfl ?_
  refine E_callV1 (pc := 2) dX0_value_2 (C_X0_whyBarred hT hT1 hT8) rfl kv_RX0_125 rfl rfl rfl ⟨Nat.le_of_ble_eq_true rfl, Nat.le_of_ble_eq_true rfl, Nat.le_of_ble_eq_true rfl, Nat.le_of_ble_eq_true rfl⟩ (Nat.le_of_ble_eq_true rfl) ?_
  refine E_if_eq (pc := 5) 10 dX0_value_5 rfl (fun q5 => ?_) (fun q5 => ?_)
  · refine E_aload_n (pc := 10) 0 dX0_value_10 rfl rfl ?_
    refine E_aload_n (pc := 11) 1 dX0_value_11 rfl rfl ?_
    refine E_callV1 (pc := 12) dX0_value_12 (C_X0_clears hT hT1 hT8) rfl kv_RX0_128 rfl rfl rfl ⟨Nat.le_of_ble_eq_true rfl, Nat.le_of_ble_eq_true rfl, Nat.le_of_ble_eq_true rfl, Nat.le_of_ble_eq_true rfl⟩ (Nat.le_of_ble_eq_true rfl) ?_
    refine E_istore_n (pc := 15) 2 dX0_value_15 rfl (Nat.le_of_ble_eq_true rfl) rfl (lz := [_, _, _]) rfl ?_
    refine E_iload_n (pc := 16) 2 dX0_value_16 rfl rfl ?_
    refine E_bipush (pc := 17) (-4) dX0_value_17 (by decide) ?_
    refine E_icmp_ne (pc := 19) 26 dX0_value_19 rfl (fun q19 => ?_) (fun q19 => ?_)
    · refine E_iload_n (pc := 26) 2 dX0_value_26 rfl rfl ?_
      refine E_iret (pc := 27) dX0_value_27 rfl ?_
      first | exact ⟨by unfold valA; rw [if_pos q5, if_pos q19], rfl⟩ | exact ⟨by unfold valA; rw [if_pos q5, if_neg q19], rfl⟩
    · refine E_iconst (pc := 22) (-1) dX0_value_22 (by decide) ?_
      refine E_goto (pc := 23) 27 dX0_value_23 rfl ?_
      refine E_iret (pc := 27) dX0_value_27 rfl ?_
      first | exact ⟨by unfold valA; rw [if_pos q5, if_pos q19], rfl⟩ | exact ⟨by unfold valA; rw [if_pos q5, if_neg q19], rfl⟩
  · refine E_iconst (pc := 8) (-1) dX0_value_8 (by decide) ?_
    refine E_iret (pc := 9) dX0_value_9 rfl ?_
    exact ⟨by unfold valA; rw [if_neg q5], rfl⟩
