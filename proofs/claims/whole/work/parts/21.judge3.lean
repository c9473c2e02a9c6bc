/-! the judge: a tenth, a way; what it reads off -/
theorem hset_t {h : Hp} {t i k : Nat} {v : Int32} {a : Nat} (hne : a ≠ t) : hset h t i k v a = h a := by
  funext b
  exact hset_other (fun e => hne (congrArg Prod.fst e))
def mT (h : Hp) (k T t : Nat) : Hp :=
  if 0 < t then hset (hset (hset (mpp h k t 4) g_bent 0 t (bi (sBent (h g_values 0) (h g_nums k) t))) g_hasty 0 t (bi (sHasty (h g_values 0) (h g_nums k) T t))) g_hasty 0 (t - 1) (bi (sHasty (h g_values 0) (h g_nums k) T (t - 1)))
  else hset (hset (mpp h k t 4) g_bent 0 t (bi (sBent (h g_values 0) (h g_nums k) t))) g_hasty 0 t (bi (sHasty (h g_values 0) (h g_nums k) T t))
abbrev noJ (a : Nat) : Prop := a ≠ g_lAcr ∧ a ≠ g_mAcr ∧ a ≠ g_lUp ∧ a ≠ g_lPart ∧ a ≠ g_bent ∧ a ≠ g_hasty
theorem mpp_t {h : Hp} {k t p a : Nat} (ha : noJ a) : mpp h k t p a = h a := by
  funext b
  exact mpp_o h k t p ⟨ha.1, ha.2.1, ha.2.2.1, ha.2.2.2.1⟩
theorem mT_t {h : Hp} {k T t a : Nat} (ha : noJ a) : mT h k T t a = h a := by
  unfold mT
  by_cases h0 : 0 < t
  · rw [if_pos h0, hset_t ha.2.2.2.2.2, hset_t ha.2.2.2.2.2, hset_t ha.2.2.2.2.1, mpp_t ha]
  · rw [if_neg h0, hset_t ha.2.2.2.2.2, hset_t ha.2.2.2.2.1, mpp_t ha]
set_option maxHeartbeats 1600000 in
theorem C_X0_measureTenth {l : Launch} {G : GE} {h : Hp} {k t T : Nat} (hT : h g_way k 1 = nI T) (hT8 : T ≤ 8) (ht : t ≤ 7) : CT l G mX0_measureTenth [vR g_judge 0, vR g_way k, vI (nI t)] h (fun r h' => r = none ∧ h' = mT h k T t) := by
  refine CT.of (lv := [_, _, _]) (by decide +kernel) (Nat.le_of_ble_eq_true rfl) rfl ?_
  refine E_aload_n (pc := 0) 0 dX0_measureTenth_0 rfl rfl ?_
  refine E_aload_n (pc := 1) 1 dX0_measureTenth_1 rfl rfl ?_
  refine E_iload_n (pc := 2) 2 dX0_measureTenth_2 rfl rfl ?_
  refine E_callV0 (pc := 3) dX0_measureTenth_3 (C_X0_measurePlaces ht) rfl kv_RX0_77 rfl rfl rfl ⟨Nat.le_of_ble_eq_true rfl, Nat.le_of_ble_eq_true rfl, Nat.le_of_ble_eq_true rfl, Nat.le_of_ble_eq_true rfl⟩ (Nat.le_of_ble_eq_true rfl) ?_
  refine E_aload_n (pc := 6) 0 dX0_measureTenth_6 rfl rfl ?_
  refine E_getR0 (pc := 7) dX0_measureTenth_7 fl_RX0_26 rfl rfl ?_
  refine E_iload_n (pc := 10) 2 dX0_measureTenth_10 rfl rfl ?_
  refine E_aload_n (pc := 11) 0 dX0_measureTenth_11 rfl rfl ?_
  refine E_aload_n (pc := 12) 1 dX0_measureTenth_12 rfl rfl ?_
  refine E_iload_n (pc := 13) 2 dX0_measureTenth_13 rfl rfl ?_
  refine E_callV1 (pc := 14) dX0_measureTenth_14 (C_X0_isBent ht) rfl kv_RX0_80 rfl rfl rfl ⟨Nat.le_of_ble_eq_true rfl, Nat.le_of_ble_eq_true rfl, Nat.le_of_ble_eq_true rfl, Nat.le_of_ble_eq_true rfl⟩ (Nat.le_of_ble_eq_true rfl) ?_
  refine E_top (y := bi (sBent (h g_values 0) (h g_nums k) t)) (by rw [mpp_t (a := g_values) (by decide), mpp_t (a := g_nums) (by decide)]) ?_
  refine E_zast (pc := 17) dX0_measureTenth_17 rfl (vp_in_nI (by omega) (by decide)) ?_
  refine E_heq (h' := hset (mpp h k t 4) g_bent 0 t (bi (sBent (h g_values 0) (h g_nums k) t))) (by rw [ixN_nI (by omega), nar_bz]) ?_
  refine E_aload_n (pc := 18) 0 dX0_measureTenth_18 rfl rfl ?_
  refine E_getR0 (pc := 19) dX0_measureTenth_19 fl_RX0_30 rfl rfl ?_
  refine E_iload_n (pc := 22) 2 dX0_measureTenth_22 rfl rfl ?_
  refine E_aload_n (pc := 23) 0 dX0_measureTenth_23 rfl rfl ?_
  refine E_aload_n (pc := 24) 1 dX0_measureTenth_24 rfl rfl ?_
  refine E_iload_n (pc := 25) 2 dX0_measureTenth_25 rfl rfl ?_
  refine E_callV1 (pc := 26) dX0_measureTenth_26 (C_X0_isHasty (T := T) (by rw [hset_t (by decide), mpp_t (by decide)]; exact hT) hT8 ht) rfl kv_RX0_84 rfl rfl rfl ⟨Nat.le_of_ble_eq_true rfl, Nat.le_of_ble_eq_true rfl, Nat.le_of_ble_eq_true rfl, Nat.le_of_ble_eq_true rfl⟩ (Nat.le_of_ble_eq_true rfl) ?_
  refine E_top (y := bi (sHasty (h g_values 0) (h g_nums k) T t)) (by rw [hset_t (by decide), hset_t (by decide), mpp_t (a := g_values) (by decide), mpp_t (a := g_nums) (by decide)]) ?_
  refine E_zast (pc := 29) dX0_measureTenth_29 rfl (vp_in_nI (by omega) (by decide)) ?_
  refine E_heq (h' := hset (hset (mpp h k t 4) g_bent 0 t (bi (sBent (h g_values 0) (h g_nums k) t))) g_hasty 0 t (bi (sHasty (h g_values 0) (h g_nums k) T t))) (by rw [ixN_nI (by omega), nar_bz]) ?_
  refine E_iload_n (pc := 30) 2 dX0_measureTenth_30 rfl rfl ?_
  refine E_if_le (pc := 31) 50 dX0_measureTenth_31 rfl (fun q31 => ?_) (fun q31 => ?_)
  · have h0 : ¬ 0 < t := fun z => nI_nle z (by omega) q31
    refine E_vret (pc := 50) dX0_measureTenth_50 rfl ?_
    unfold mT
    first | exact ⟨rfl, by rw [if_neg h0]⟩ | exact ⟨rfl, by rw [if_pos h0, ixN_nI (by omega), nar_bz]⟩
  · have h0 : 0 < t := Nat.pos_of_ne_zero (fun z => q31 (by rw [z]; decide))
    refine E_aload_n (pc := 34) 0 dX0_measureTenth_34 rfl rfl ?_
    refine E_getR0 (pc := 35) dX0_measureTenth_35 fl_RX0_30 rfl rfl ?_
    refine E_iload_n (pc := 38) 2 dX0_measureTenth_38 rfl rfl ?_
    refine E_iconst (pc := 39) (1) dX0_measureTenth_39 (by decide) ?_
    refine E_isub (pc := 40) dX0_measureTenth_40 ?_
    refine E_eq (st' := [vI (nI (t - 1)), vR g_hasty 0]) rfl (by rw [show (1 : Int32) = nI 1 from rfl, pk_sub (by omega)]) rfl ?_
    refine E_aload_n (pc := 41) 0 dX0_measureTenth_41 rfl rfl ?_
    refine E_aload_n (pc := 42) 1 dX0_measureTenth_42 rfl rfl ?_
    refine E_iload_n (pc := 43) 2 dX0_measureTenth_43 rfl rfl ?_
    refine E_iconst (pc := 44) (1) dX0_measureTenth_44 (by decide) ?_
    refine E_isub (pc := 45) dX0_measureTenth_45 ?_
    refine E_eq (st' := [vI (nI (t - 1)), vR g_way k, vR g_judge 0, vI (nI (t - 1)), vR g_hasty 0]) rfl (by rw [show (1 : Int32) = nI 1 from rfl, pk_sub (by omega)]) rfl ?_
    refine E_callV1 (pc := 46) dX0_measureTenth_46 (C_X0_isHasty (T := T) (t := t - 1) (by rw [hset_t (by decide), hset_t (by decide), mpp_t (by decide)]; exact hT) hT8 (by omega)) rfl kv_RX0_84 rfl rfl rfl ⟨Nat.le_of_ble_eq_true rfl, Nat.le_of_ble_eq_true rfl, Nat.le_of_ble_eq_true rfl, Nat.le_of_ble_eq_true rfl⟩ (Nat.le_of_ble_eq_true rfl) ?_
    refine E_top (y := bi (sHasty (h g_values 0) (h g_nums k) T (t - 1))) (by rw [hset_t (by decide), hset_t (by decide), hset_t (by decide), hset_t (by decide), mpp_t (a := g_values) (by decide), mpp_t (a := g_nums) (by decide)]) ?_
    refine E_zast (pc := 49) dX0_measureTenth_49 rfl (vp_in_nI (by omega) (by decide)) ?_
    refine E_vret (pc := 50) dX0_measureTenth_50 rfl ?_
    unfold mT
    first | exact ⟨rfl, by rw [if_neg h0]⟩ | exact ⟨rfl, by rw [if_pos h0, ixN_nI (by omega), nar_bz]⟩
def measN (h : Hp) (k T : Nat) : Nat → Hp
  | 0 => h
  | i + 1 => mT (measN h k T i) k T i
theorem measN_t {h : Hp} {k T a : Nat} (ha : noJ a) : ∀ i, measN h k T i a = h a
  | 0 => rfl
  | i + 1 => (mT_t ha).trans (measN_t ha i)
set_option maxHeartbeats 1600000 in
theorem C_X0_measure {l : Launch} {G : GE} {h : Hp} {k T : Nat} (hT : h g_way k 1 = nI T) (hT8 : T ≤ 8) : CT l G mX0_measure [vR g_judge 0, vR g_way k] h (fun r h' => r = none ∧ h' = measN h k T T) := by
  refine CT.of (lv := [_, _, _]) (by decide +kernel) (Nat.le_of_ble_eq_true rfl) rfl ?_
  refine E_iconst (pc := 0) (0) dX0_measure_0 (by decide) ?_
  refine E_istore_n (pc := 1) 2 dX0_measure_1 rfl (Nat.le_of_ble_eq_true rfl) rfl (lz := [_, _, _]) rfl ?_
  refine down (P := fun i => Ev l G mX0_measure _ 2 [some (vR g_judge 0), some (vR g_way k), some (vI (nI i))] [] (measN h k T i)) T ?_ ?_ 0 (Nat.zero_le _)
  · refine E_iload_n (pc := 2) 2 dX0_measure_2 rfl rfl ?_
    refine E_aload_n (pc := 3) 1 dX0_measure_3 rfl rfl ?_
    refine E_getI (pc := 4) dX0_measure_4 fl_RX0_69 rfl rfl ?_
    refine E_eq (st' := [vI (nI T), vI (nI T)]) rfl (by rw [measN_t (by decide), hT]) rfl ?_
    refine E_icmp_ge (pc := 7) 22 dX0_measure_7 rfl (fun q7 => ?_) (fun q7 => absurd (Int32.le_refl _) q7)
    refine E_vret (pc := 22) dX0_measure_22 rfl ?_
    first | exact ⟨rfl, rfl⟩ | exact ⟨by grind [bi], rfl⟩
  · intro i hi hn
    refine E_iload_n (pc := 2) 2 dX0_measure_2 rfl rfl ?_
    refine E_aload_n (pc := 3) 1 dX0_measure_3 rfl rfl ?_
    refine E_getI (pc := 4) dX0_measure_4 fl_RX0_69 rfl rfl ?_
    refine E_eq (st' := [vI (nI T), vI (nI i)]) rfl (by rw [measN_t (by decide), hT]) rfl ?_
    refine E_icmp_ge (pc := 7) 22 dX0_measure_7 rfl (fun q7 => absurd q7 (nI_ge hi (by omega))) (fun q7 => ?_)
    refine E_aload_n (pc := 10) 0 dX0_measure_10 rfl rfl ?_
    refine E_aload_n (pc := 11) 1 dX0_measure_11 rfl rfl ?_
    refine E_iload_n (pc := 12) 2 dX0_measure_12 rfl rfl ?_
    refine E_callV0 (pc := 13) dX0_measure_13 (C_X0_measureTenth (T := T) (by rw [measN_t (by decide)]; exact hT) hT8 (by omega)) rfl kv_RX0_73 rfl rfl rfl ⟨Nat.le_of_ble_eq_true rfl, Nat.le_of_ble_eq_true rfl, Nat.le_of_ble_eq_true rfl, Nat.le_of_ble_eq_true rfl⟩ (Nat.le_of_ble_eq_true rfl) ?_
    refine E_iincN (pc := 16) 2 dX0_measure_16 (Nat.le_of_ble_eq_true rfl) rfl rfl (lz := [_, _, _]) rfl ?_
    refine E_goto (pc := 19) 2 dX0_measure_19 rfl ?_
    exact hn
set_option maxHeartbeats 1600000 in
theorem C_X0_getsAcross {l : Launch} {G : GE} {h : Hp} {k T : Nat} (hT : h g_way k 1 = nI T) (hT1 : 1 ≤ T) (hT8 : T ≤ 8) : CT l G mX0_getsAcross [vR g_judge 0, vR g_way k] h (fun r h' => r = some (bi (h g_mAcr 0 0 < 0 ∧ 0 < h g_lAcr 0 (T - 1))) ∧ h' = h) := by
  refine CT.of (lv := [_, _]) (by decide +kernel) (Nat.le_of_ble_eq_true rfl) rfl ?_
  refine E_aload_n (pc := 0) 0 dX0_getsAcross_0 rfl rfl ?_
  refine E_getR0 (pc := 1) dX0_getsAcross_1 fl_RX0_17 rfl rfl ?_
  refine E_iconst (pc := 4) (0) dX0_getsAcross_4 (by decide) ?_
  refine E_iald (pc := 5) dX0_getsAcross_5 rfl (by unfold vp_in; decide) ?_
  refine E_top (y := h g_mAcr 0 0) rfl ?_
  refine E_if_ge (pc := 6) 27 dX0_getsAcross_6 rfl (fun q6 => ?_) (fun q6 => ?_)
  · refine E_iconst (pc := 27) (0) dX0_getsAcross_27 (by decide) ?_
    refine E_zret (pc := 28) dX0_getsAcross_28 rfl rfl ?_
    exact ⟨by grind [bi], rfl⟩
  · refine E_aload_n (pc := 9) 0 dX0_getsAcross_9 rfl rfl ?_
    refine E_getR0 (pc := 10) dX0_getsAcross_10 fl_RX0_11 rfl rfl ?_
    refine E_aload_n (pc := 13) 1 dX0_getsAcross_13 rfl rfl ?_
    refine E_getI (pc := 14) dX0_getsAcross_14 fl_RX0_69 rfl rfl ?_
    refine E_iconst (pc := 17) (1) dX0_getsAcross_17 (by decide) ?_
    refine E_isub (pc := 18) dX0_getsAcross_18 ?_
    refine E_eq (st' := [vI (nI (T - 1)), vR g_lAcr 0]) rfl (by rw [hT, show (1 : Int32) = nI 1 from rfl, pk_sub (by omega)]) rfl ?_
    refine E_iald (pc := 19) dX0_getsAcross_19 rfl (vp_in_nI (by omega) (by decide)) ?_
    refine E_top (y := h g_lAcr 0 (T - 1)) (by rw [ixN_nI (by omega)]) ?_
    refine E_if_le (pc := 20) 27 dX0_getsAcross_20 rfl (fun q20 => ?_) (fun q20 => ?_)
    · refine E_iconst (pc := 27) (0) dX0_getsAcross_27 (by decide) ?_
      refine E_zret (pc := 28) dX0_getsAcross_28 rfl rfl ?_
      exact ⟨by grind [bi], rfl⟩
    · refine E_iconst (pc := 23) (1) dX0_getsAcross_23 (by decide) ?_
      refine E_goto (pc := 24) 28 dX0_getsAcross_24 rfl ?_
      refine E_zret (pc := 28) dX0_getsAcross_28 rfl rfl ?_
      exact ⟨by grind [bi], rfl⟩
theorem lowF_or (u : Nat → Int32) : ∀ i, (lowF u i).1 = -1 ∨ ∃ j, j < i ∧ (lowF u i).1 = nI j
  | 0 => Or.inl rfl
  | i + 1 => by
    unfold lowF
    by_cases hc : u i < (lowF u i).2
    · rw [if_pos hc]; exact Or.inr ⟨i, Nat.lt_succ_self i, rfl⟩
    · rw [if_neg hc]
      rcases lowF_or u i with e | ⟨j, hj, e⟩
      · exact Or.inl e
      · exact Or.inr ⟨j, Nat.lt_succ_of_lt hj, e⟩
set_option maxHeartbeats 1600000 in
theorem C_X0_lowestTenth {l : Launch} {G : GE} {h : Hp} {k T : Nat} (hT : h g_way k 1 = nI T) (hT8 : T ≤ 8) : CT l G mX0_lowestTenth [vR g_judge 0, vR g_way k] h (fun r h' => r = some ((lowF (h g_lUp 0) T).1) ∧ h' = h) := by
  refine CT.of (lv := [_, _, _, _, _]) (by decide +kernel) (Nat.le_of_ble_eq_true rfl) rfl ?_
  refine E_iconst (pc := 0) (-1) dX0_lowestTenth_0 (by decide) ?_
  refine E_istore_n (pc := 1) 2 dX0_lowestTenth_1 rfl (Nat.le_of_ble_eq_true rfl) rfl (lz := [_, _, _, _, _]) rfl ?_
  refine E_ldc (pc := 2) (1000000) dX0_lowestTenth_2 kk_RX0_87 ?_
  refine E_istore_n (pc := 4) 3 dX0_lowestTenth_4 rfl (Nat.le_of_ble_eq_true rfl) rfl (lz := [_, _, _, _, _]) rfl ?_
  refine E_iconst (pc := 5) (0) dX0_lowestTenth_5 (by decide) ?_
  refine E_istore (pc := 6) 4 dX0_lowestTenth_6 (Nat.le_of_ble_eq_true rfl) rfl (lz := [_, _, _, _, _]) rfl ?_
  refine down (P := fun i => Ev l G mX0_lowestTenth _ 8 [some (vR g_judge 0), some (vR g_way k), some (vI (lowF (h g_lUp 0) i).1), some (vI (lowF (h g_lUp 0) i).2), some (vI (nI i))] [] h) T ?_ ?_ 0 (Nat.zero_le _)
  · refine E_iload (pc := 8) 4 dX0_lowestTenth_8 rfl ?_
    refine E_aload_n (pc := 10) 1 dX0_lowestTenth_10 rfl rfl ?_
    refine E_getI (pc := 11) dX0_lowestTenth_11 fl_RX0_69 rfl rfl ?_
    refine E_top (y := nI T) hT ?_
    refine E_icmp_ge (pc := 14) 45 dX0_lowestTenth_14 rfl (fun q14 => ?_) (fun q14 => absurd (Int32.le_refl _) q14)
    refine E_iload_n (pc := 45) 2 dX0_lowestTenth_45 rfl rfl ?_
    refine E_iret (pc := 46) dX0_lowestTenth_46 rfl ?_
    first | exact ⟨rfl, rfl⟩ | exact ⟨by grind [bi], rfl⟩
  · intro i hi hn
    refine E_iload (pc := 8) 4 dX0_lowestTenth_8 rfl ?_
    refine E_aload_n (pc := 10) 1 dX0_lowestTenth_10 rfl rfl ?_
    refine E_getI (pc := 11) dX0_lowestTenth_11 fl_RX0_69 rfl rfl ?_
    refine E_top (y := nI T) hT ?_
    refine E_icmp_ge (pc := 14) 45 dX0_lowestTenth_14 rfl (fun q14 => absurd q14 (nI_ge hi (by omega))) (fun q14 => ?_)
    refine E_aload_n (pc := 17) 0 dX0_lowestTenth_17 rfl rfl ?_
    refine E_getR0 (pc := 18) dX0_lowestTenth_18 fl_RX0_20 rfl rfl ?_
    refine E_iload (pc := 21) 4 dX0_lowestTenth_21 rfl ?_
    refine E_iald (pc := 23) dX0_lowestTenth_23 rfl (vp_in_nI (by omega) (by decide)) ?_
    refine E_top (y := h g_lUp 0 i) (by rw [ixN_nI (by omega)]) ?_
    refine E_iload_n (pc := 24) 3 dX0_lowestTenth_24 rfl rfl ?_
    refine E_icmp_ge (pc := 25) 39 dX0_lowestTenth_25 rfl (fun q25 => ?_) (fun q25 => ?_)
    · have hl : lowF (h g_lUp 0) (i + 1) = lowF (h g_lUp 0) i := if_neg (Int32.not_lt.mpr q25)
      refine E_iincN (pc := 39) 4 dX0_lowestTenth_39 (Nat.le_of_ble_eq_true rfl) rfl rfl (lz := [_, _, _, _, _]) rfl ?_
      refine E_goto (pc := 42) 8 dX0_lowestTenth_42 rfl ?_
      rw [hl] at hn
      exact hn
    · have hl : lowF (h g_lUp 0) (i + 1) = (nI i, h g_lUp 0 i) := if_pos (Int32.not_le.mp q25)
      refine E_aload_n (pc := 28) 0 dX0_lowestTenth_28 rfl rfl ?_
      refine E_getR0 (pc := 29) dX0_lowestTenth_29 fl_RX0_20 rfl rfl ?_
      refine E_iload (pc := 32) 4 dX0_lowestTenth_32 rfl ?_
      refine E_iald (pc := 34) dX0_lowestTenth_34 rfl (vp_in_nI (by omega) (by decide)) ?_
      refine E_top (y := h g_lUp 0 i) (by rw [ixN_nI (by omega)]) ?_
      refine E_istore_n (pc := 35) 3 dX0_lowestTenth_35 rfl (Nat.le_of_ble_eq_true rfl) rfl (lz := [_, _, _, _, _]) rfl ?_
      refine E_iload (pc := 36) 4 dX0_lowestTenth_36 rfl ?_
      refine E_istore_n (pc := 38) 2 dX0_lowestTenth_38 rfl (Nat.le_of_ble_eq_true rfl) rfl (lz := [_, _, _, _, _]) rfl ?_
      refine E_iincN (pc := 39) 4 dX0_lowestTenth_39 (Nat.le_of_ble_eq_true rfl) rfl rfl (lz := [_, _, _, _, _]) rfl ?_
      refine E_goto (pc := 42) 8 dX0_lowestTenth_42 rfl ?_
      rw [hl] at hn
      exact hn
set_option maxHeartbeats 1600000 in
theorem C_X0_clears {l : Launch} {G : GE} {h : Hp} {k T : Nat} (hT : h g_way k 1 = nI T) (hT1 : 1 ≤ T) (hT8 : T ≤ 8) : CT l G mX0_clears [vR g_judge 0, vR g_way k] h (fun r h' => r = some (clearsA (h g_values 0) (h g_lAcr 0) (h g_mAcr 0) (h g_lUp 0) T) ∧ h' = h) := by
  refine CT.of (lv := [_, _, _]) (by decide +kernel) (Nat.le_of_ble_eq_true rfl) rfl ?_
  refine E_aload_n (pc := 0) 0 dX0_clears_0 rfl rfl ?_
  refine E_aload_n (pc := 1) 1 dX0_clears_1 rfl rfl ?_
  refine E_callV1 (pc := 2) dX0_clears_2 (C_X0_getsAcross hT hT1 hT8) rfl kv_RX0_99 rfl rfl rfl ⟨Nat.le_of_ble_eq_true rfl, Nat.le_of_ble_eq_true rfl, Nat.le_of_ble_eq_true rfl, Nat.le_of_ble_eq_true rfl⟩ (Nat.le_of_ble_eq_true rfl) ?_
  refine E_if_ne (pc := 5) 11 dX0_clears_5 rfl (fun q5 => ?_) (fun q5 => ?_)
  · have hg : h g_mAcr 0 0 < 0 ∧ 0 < h g_lAcr 0 (T - 1) := Decidable.of_not_not (fun z => q5 (bi_0.mpr z))
    refine E_aload_n (pc := 11) 0 dX0_clears_11 rfl rfl ?_
    refine E_aload_n (pc := 12) 1 dX0_clears_12 rfl rfl ?_
    refine E_callV1 (pc := 13) dX0_clears_13 (C_X0_lowestTenth hT hT8) rfl kv_RX0_103 rfl rfl rfl ⟨Nat.le_of_ble_eq_true rfl, Nat.le_of_ble_eq_true rfl, Nat.le_of_ble_eq_true rfl, Nat.le_of_ble_eq_true rfl⟩ (Nat.le_of_ble_eq_true rfl) ?_
    refine E_istore_n (pc := 16) 2 dX0_clears_16 rfl (Nat.le_of_ble_eq_true rfl) rfl (lz := [_, _, _]) rfl ?_
    refine E_iload_n (pc := 17) 2 dX0_clears_17 rfl rfl ?_
    refine E_if_ge (pc := 18) 25 dX0_clears_18 rfl (fun q18 => ?_) (fun q18 => ?_)
    · have hx : vp_in (lowF (h g_lUp 0) T).1 8 := by
        rcases lowF_or (h g_lUp 0) T with e | ⟨j, hj, e⟩
        · rw [e] at q18; exact absurd q18 (by decide)
        · rw [e]; exact vp_in_nI (by omega) (by decide)
      refine E_aload_n (pc := 25) 0 dX0_clears_25 rfl rfl ?_
      refine E_getR0 (pc := 26) dX0_clears_26 fl_RX0_20 rfl rfl ?_
      refine E_iload_n (pc := 29) 2 dX0_clears_29 rfl rfl ?_
      refine E_iald (pc := 30) dX0_clears_30 rfl hx ?_
      refine E_if_ge (pc := 31) 37 dX0_clears_31 rfl (fun q31 => ?_) (fun q31 => ?_)
      · refine E_sipush (pc := 37) (999) dX0_clears_37 (by decide) ?_
        refine E_aload_n (pc := 40) 0 dX0_clears_40 rfl rfl ?_
        refine E_getR0 (pc := 41) dX0_clears_41 fl_RX0_20 rfl rfl ?_
        refine E_iload_n (pc := 44) 2 dX0_clears_44 rfl rfl ?_
        refine E_iald (pc := 45) dX0_clears_45 rfl hx ?_
        refine E_aload_n (pc := 46) 0 dX0_clears_46 rfl rfl ?_
        refine E_getR0 (pc := 47) dX0_clears_47 fl_RX0_36 rfl rfl ?_
        refine E_callV1 (pc := 50) dX0_clears_50 C_X3_total rfl kv_RX0_44 rfl rfl rfl ⟨Nat.le_of_ble_eq_true rfl, Nat.le_of_ble_eq_true rfl, Nat.le_of_ble_eq_true rfl, Nat.le_of_ble_eq_true rfl⟩ (Nat.le_of_ble_eq_true rfl) ?_
        refine E_callN1 (pc := 53) dX0_clears_53 C_X7_dividedDown rfl kn_RX0_107 rfl ⟨Nat.le_of_ble_eq_true rfl, Nat.le_of_ble_eq_true rfl, Nat.le_of_ble_eq_true rfl, Nat.le_of_ble_eq_true rfl⟩ (Nat.le_of_ble_eq_true rfl) ?_
        refine E_callS1 (pc := 56) dX0_clears_56 C_J9_min_7cf53 rfl ks_RX0_89 rfl ⟨Nat.le_of_ble_eq_true rfl, Nat.le_of_ble_eq_true rfl, Nat.le_of_ble_eq_true rfl, Nat.le_of_ble_eq_true rfl⟩ (Nat.le_of_ble_eq_true rfl) ?_
        refine E_iret (pc := 59) dX0_clears_59 rfl ?_
        exact ⟨by unfold clearsA; rw [if_pos hg, if_neg (Int32.not_lt.mpr q18), if_neg (Int32.not_lt.mpr q31)]; rfl, rfl⟩
      · refine E_bipush (pc := 34) (-4) dX0_clears_34 (by decide) ?_
        refine E_iret (pc := 36) dX0_clears_36 rfl ?_
        exact ⟨by unfold clearsA; rw [if_pos hg, if_neg (Int32.not_lt.mpr q18), if_pos (Int32.not_le.mp q31)], rfl⟩
    · refine E_sipush (pc := 21) (999) dX0_clears_21 (by decide) ?_
      refine E_iret (pc := 24) dX0_clears_24 rfl ?_
      exact ⟨by unfold clearsA; rw [if_pos hg, if_pos (Int32.not_le.mp q18)], rfl⟩
  · have hg := bi_0.mp q5
    refine E_bipush (pc := 8) (-4) dX0_clears_8 (by decide) ?_
    refine E_iret (pc := 10) dX0_clears_10 rfl ?_
    exact ⟨by unfold clearsA; rw [if_neg hg], rfl⟩
set_option maxHeartbeats 1600000 in
theorem C_X0_greatestMiddle {l : Launch} {G : GE} {h : Hp} {k T : Nat} (hT : h g_way k 1 = nI T) (hT8 : T ≤ 8) : CT l G mX0_greatestMiddle [vR g_judge 0, vR g_way k] h (fun r h' => r = some (gtMid (h g_values 0) (h g_lUp 0) T) ∧ h' = h) := by
  refine CT.of (lv := [_, _, _, _]) (by decide +kernel) (Nat.le_of_ble_eq_true rfl) rfl ?_
  refine E_ldc (pc := 0) (-1000000) dX0_greatestMiddle_0 kk_RX0_88 ?_
  refine E_istore_n (pc := 2) 2 dX0_greatestMiddle_2 rfl (Nat.le_of_ble_eq_true rfl) rfl (lz := [_, _, _, _]) rfl ?_
  refine E_iconst (pc := 3) (0) dX0_greatestMiddle_3 (by decide) ?_
  refine E_istore_n (pc := 4) 3 dX0_greatestMiddle_4 rfl (Nat.le_of_ble_eq_true rfl) rfl (lz := [_, _, _, _]) rfl ?_
  refine down (P := fun i => Ev l G mX0_greatestMiddle _ 5 [some (vR g_judge 0), some (vR g_way k), some (vI (gtMid (h g_values 0) (h g_lUp 0) i)), some (vI (nI i))] [] h) T ?_ ?_ 0 (Nat.zero_le _)
  · refine E_iload_n (pc := 5) 3 dX0_greatestMiddle_5 rfl rfl ?_
    refine E_aload_n (pc := 6) 1 dX0_greatestMiddle_6 rfl rfl ?_
    refine E_getI (pc := 7) dX0_greatestMiddle_7 fl_RX0_69 rfl rfl ?_
    refine E_top (y := nI T) hT ?_
    refine E_icmp_ge (pc := 10) 52 dX0_greatestMiddle_10 rfl (fun q10 => ?_) (fun q10 => absurd (Int32.le_refl _) q10)
    refine E_iload_n (pc := 52) 2 dX0_greatestMiddle_52 rfl rfl ?_
    refine E_iret (pc := 53) dX0_greatestMiddle_53 rfl ?_
    first | exact ⟨rfl, rfl⟩ | exact ⟨by grind [bi], rfl⟩
  · intro i hi hn
    refine E_iload_n (pc := 5) 3 dX0_greatestMiddle_5 rfl rfl ?_
    refine E_aload_n (pc := 6) 1 dX0_greatestMiddle_6 rfl rfl ?_
    refine E_getI (pc := 7) dX0_greatestMiddle_7 fl_RX0_69 rfl rfl ?_
    refine E_top (y := nI T) hT ?_
    refine E_icmp_ge (pc := 10) 52 dX0_greatestMiddle_10 rfl (fun q10 => absurd q10 (nI_ge hi (by omega))) (fun q10 => ?_)
    refine E_aload_n (pc := 13) 0 dX0_greatestMiddle_13 rfl rfl ?_
    refine E_getR0 (pc := 14) dX0_greatestMiddle_14 fl_RX0_20 rfl rfl ?_
    refine E_iload_n (pc := 17) 3 dX0_greatestMiddle_17 rfl rfl ?_
    refine E_iald (pc := 18) dX0_greatestMiddle_18 rfl (vp_in_nI (by omega) (by decide)) ?_
    refine E_top (y := h g_lUp 0 i) (by rw [ixN_nI (by omega)]) ?_
    refine E_ldc (pc := 19) (1000000) dX0_greatestMiddle_19 kk_RX0_87 ?_
    refine E_icmp_ge (pc := 21) 46 dX0_greatestMiddle_21 rfl (fun q21 => ?_) (fun q21 => ?_)
    · have hl : gtMid (h g_values 0) (h g_lUp 0) (i + 1) = gtMid (h g_values 0) (h g_lUp 0) i := if_neg (Int32.not_lt.mpr q21)
      refine E_iincN (pc := 46) 3 dX0_greatestMiddle_46 (Nat.le_of_ble_eq_true rfl) rfl rfl (lz := [_, _, _, _]) rfl ?_
      refine E_goto (pc := 49) 5 dX0_greatestMiddle_49 rfl ?_
      rw [hl] at hn
      exact hn
    · have hl : gtMid (h g_values 0) (h g_lUp 0) (i + 1) = maxI (gtMid (h g_values 0) (h g_lUp 0) i) (tot (h g_values 0) * sMid (h g_values 0) (nI i) 1) := if_pos (Int32.not_le.mp q21)
      refine E_iload_n (pc := 24) 2 dX0_greatestMiddle_24 rfl rfl ?_
      refine E_aload_n (pc := 25) 0 dX0_greatestMiddle_25 rfl rfl ?_
      refine E_getR0 (pc := 26) dX0_greatestMiddle_26 fl_RX0_36 rfl rfl ?_
      refine E_callV1 (pc := 29) dX0_greatestMiddle_29 C_X3_total rfl kv_RX0_44 rfl rfl rfl ⟨Nat.le_of_ble_eq_true rfl, Nat.le_of_ble_eq_true rfl, Nat.le_of_ble_eq_true rfl, Nat.le_of_ble_eq_true rfl⟩ (Nat.le_of_ble_eq_true rfl) ?_
      refine E_aload_n (pc := 32) 0 dX0_greatestMiddle_32 rfl rfl ?_
      refine E_getR0 (pc := 33) dX0_greatestMiddle_33 fl_RX0_36 rfl rfl ?_
      refine E_iload_n (pc := 36) 3 dX0_greatestMiddle_36 rfl rfl ?_
      refine E_iconst (pc := 37) (1) dX0_greatestMiddle_37 (by decide) ?_
      refine E_callV1 (pc := 38) dX0_greatestMiddle_38 C_X3_middleAt rfl kv_RX0_57 rfl rfl rfl ⟨Nat.le_of_ble_eq_true rfl, Nat.le_of_ble_eq_true rfl, Nat.le_of_ble_eq_true rfl, Nat.le_of_ble_eq_true rfl⟩ (Nat.le_of_ble_eq_true rfl) ?_
      refine E_imul (pc := 41) dX0_greatestMiddle_41 ?_
      refine E_callS1 (pc := 42) dX0_greatestMiddle_42 C_J9_max_7cf53 rfl ks_RX0_92 rfl ⟨Nat.le_of_ble_eq_true rfl, Nat.le_of_ble_eq_true rfl, Nat.le_of_ble_eq_true rfl, Nat.le_of_ble_eq_true rfl⟩ (Nat.le_of_ble_eq_true rfl) ?_
      refine E_istore_n (pc := 45) 2 dX0_greatestMiddle_45 rfl (Nat.le_of_ble_eq_true rfl) rfl (lz := [_, _, _, _]) rfl ?_
      refine E_iincN (pc := 46) 3 dX0_greatestMiddle_46 (Nat.le_of_ble_eq_true rfl) rfl rfl (lz := [_, _, _, _]) rfl ?_
      refine E_goto (pc := 49) 5 dX0_greatestMiddle_49 rfl ?_
      rw [hl] at hn
      exact hn
