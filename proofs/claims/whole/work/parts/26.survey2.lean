/-! the judge: survey -/
/-- what survey finds of change c -/
def chgF (V N : Nat → Int32) (T : Nat) (F : Int32) (c : Nat) : Int32 := if c < 16 * T ∧ okN (N (c / 2) + stp c) then sWorth V (chN N c) T F else -1000
/-- what survey leaves as it was -/
abbrev noS (a : Nat) : Prop := noJ a ∧ a ≠ g_judge ∧ a ≠ g_chgd
def SmS (h h' : Hp) : Prop := ∀ a, noS a → h' a = h a
def bad0 (h : Hp) (i : Nat) : Hp := hsetA h g_chgd 0 (fun j => if j < i then -1000 else h g_chgd 0 j)
theorem bad0_0 (h : Hp) : bad0 h 0 = h := by
  unfold bad0
  rw [show (fun j => if j < 0 then (-1000 : Int32) else h g_chgd 0 j) = h g_chgd 0 from by funext j; simp]
  exact hsetA_self h g_chgd 0
theorem bad0_s (h : Hp) (i : Nat) : hset (bad0 h i) g_chgd 0 i (-1000) = bad0 h (i + 1) := by
  unfold bad0
  rw [hset_hsetA]
  congr 1
  funext j
  unfold upd
  show (if j = i then -1000 else if j < i then -1000 else h g_chgd 0 j) = if j < i + 1 then -1000 else h g_chgd 0 j
  by_cases h1 : j = i
  · rw [if_pos h1, if_pos (by omega)]
  · by_cases h2 : j < i
    · rw [if_neg h1, if_pos h2, if_pos (by omega)]
    · rw [if_neg h1, if_neg h2, if_neg (by omega)]
theorem hsetA_t {h : Hp} {t i : Nat} {f : Nat → Int32} {a : Nat} (hne : a ≠ t) : hsetA h t i f a = h a := by
  funext b
  exact hsetA_other (fun e => hne (congrArg Prod.fst e))
/-- survey's heap when changes up to c are looked at -/
def svI (h0 h : Hp) (V N : Nat → Int32) (T : Nat) (F : Int32) (c : Nat) : Prop := SmS h0 h ∧ h g_judge 0 7 = sWorth V N T F ∧ ∀ j, j < 128 → h g_chgd 0 j = if j < c then chgF V N T F j else -1000
theorem svI_skip {h0 h : Hp} {V N : Nat → Int32} {T : Nat} {F : Int32} {c : Nat} (hs : svI h0 h V N T F c) (hc : chgF V N T F c = -1000) : svI h0 h V N T F (c + 1) := by
  refine ⟨hs.1, hs.2.1, fun j hj => ?_⟩
  rw [hs.2.2 j hj]
  by_cases h1 : j < c
  · rw [if_pos h1, if_pos (by omega)]
  · by_cases h2 : j = c
    · rw [if_neg h1, if_pos (by omega), h2, hc]
    · rw [if_neg h1, if_neg (by omega)]
theorem svI_put {h0 h : Hp} {V N : Nat → Int32} {T : Nat} {F : Int32} {c : Nat} (hs : svI h0 h V N T F c) : svI h0 (hset h g_chgd 0 c (chgF V N T F c)) V N T F (c + 1) := by
  refine ⟨fun a ha => by rw [hset_t ha.2.2]; exact hs.1 a ha, by rw [hset_t (by decide)]; exact hs.2.1, fun j hj => ?_⟩
  by_cases h2 : j = c
  · rw [h2, hset_eq, if_pos (by omega)]
  · rw [hset_k h2, hs.2.2 j hj]
    by_cases h1 : j < c
    · rw [if_pos h1, if_pos (by omega)]
    · rw [if_neg h1, if_neg (by omega)]
theorem svI_sm {h0 h h' : Hp} {V N : Nat → Int32} {T : Nat} {F : Int32} {c : Nat} (hs : svI h0 h V N T F c) (hj : SmJ h h') : svI h0 h' V N T F c :=
  ⟨fun a ha => (hj a ha.1).trans (hs.1 a ha), by rw [hj g_judge (by decide)]; exact hs.2.1, fun j hj' => by rw [hj g_chgd (by decide)]; exact hs.2.2 j hj'⟩
theorem chgF_beyond {V N : Nat → Int32} {T : Nat} {F : Int32} {c : Nat} (h : 16 * T ≤ c) : chgF V N T F c = -1000 := if_neg (fun z => absurd z.1 (by omega))
theorem svI_end {h0 h : Hp} {V N : Nat → Int32} {T : Nat} {F : Int32} (hs : svI h0 h V N T F (16 * T)) : ∀ j, j < 128 → h g_chgd 0 j = chgF V N T F j := by
  intro j hj
  rw [hs.2.2 j hj]
  by_cases h9 : j < 16 * T
  · rw [if_pos h9]
  · rw [if_neg h9, chgF_beyond (by omega)]
set_option maxHeartbeats 1600000 in
theorem C_X0_survey {l : Launch} {G : GE} {h : Hp} {k T : Nat} {F : Int32} (hT : h g_way k 1 = nI T) (hF : h g_way k 2 = F) (hT1 : 1 ≤ T) (hT8 : T ≤ 8) : CT l G mX0_survey [vR g_judge 0, vR g_way k] h (fun r h' => r = none ∧ SmS h h' ∧ h' g_judge 0 7 = sWorth (h g_values 0) (h g_nums k) T F ∧ ∀ j, j < 128 → h' g_chgd 0 j = chgF (h g_values 0) (h g_nums k) T F j) := by
  refine CT.of (lv := [_, _, _, _, _]) (by decide +kernel) (Nat.le_of_ble_eq_true rfl) rfl ?_
  refine E_aload_n (pc := 0) 0 dX0_survey_0 rfl rfl ?_
  refine E_aload_n (pc := 1) 1 dX0_survey_1 rfl rfl ?_
  refine E_callV0 (pc := 2) dX0_survey_2 (C_X0_measure hT hT8) rfl kv_RX0_141 rfl rfl rfl ⟨Nat.le_of_ble_eq_true rfl, Nat.le_of_ble_eq_true rfl, Nat.le_of_ble_eq_true rfl, Nat.le_of_ble_eq_true rfl⟩ (Nat.le_of_ble_eq_true rfl) ?_
  refine E_aload_n (pc := 5) 0 dX0_survey_5 rfl rfl ?_
  refine E_aload_n (pc := 6) 0 dX0_survey_6 rfl rfl ?_
  refine E_aload_n (pc := 7) 1 dX0_survey_7 rfl rfl ?_
  refine E_callV1 (pc := 8) dX0_survey_8 (C_X0_value (T := T) (by rw [measN_t (by decide)]; exact hT) hT1 hT8) rfl kv_RX0_135 rfl rfl rfl ⟨Nat.le_of_ble_eq_true rfl, Nat.le_of_ble_eq_true rfl, Nat.le_of_ble_eq_true rfl, Nat.le_of_ble_eq_true rfl⟩ (Nat.le_of_ble_eq_true rfl) ?_
  refine E_top (y := sWorth (h g_values 0) (h g_nums k) T F) (by rw [measN_t (a := g_values) (by decide), measN_t (a := g_nums) (by decide), measN_t (a := g_way) (by decide), hF]; exact measN_all.worth hT1 hT8) ?_
  refine E_put (pc := 11) dX0_survey_11 fp_RX0_145 rfl rfl ?_
  refine E_iconst (pc := 14) (0) dX0_survey_14 (by decide) ?_
  refine E_istore_n (pc := 15) 2 dX0_survey_15 rfl (Nat.le_of_ble_eq_true rfl) rfl (lz := [_, _, _, _, _]) rfl ?_
  generalize hh1 : hset (measN h k T T) g_judge 0 7 (sWorth (h g_values 0) (h g_nums k) T F) = h1
  have s1 : ∀ a, noS a → h1 a = h a := fun a ha => by rw [← hh1, hset_t ha.2.1, measN_t ha.1]
  have o1 : h1 g_judge 0 7 = sWorth (h g_values 0) (h g_nums k) T F := by rw [← hh1]; exact hset_eq _ _ _ _ _
  have m1 : Ms h1 (h g_values 0) (h g_nums k) T := by rw [← hh1]; exact measN_all.same (hset_t (by decide)) (hset_t (by decide)) (hset_t (by decide)) (hset_t (by decide)) (hset_t (by decide))
  refine E_heq (bad0_0 h1).symm ?_
  refine down (P := fun i => Ev l G mX0_survey _ 16 [some (vR g_judge 0), some (vR g_way k), some (vI (nI i)), none, none] [] (bad0 h1 i)) 128 ?_ ?_ 0 (Nat.zero_le _)
  · refine E_iload_n (pc := 16) 2 dX0_survey_16 rfl rfl ?_
    refine E_sipush (pc := 17) (128) dX0_survey_17 (by decide) ?_
    refine E_icmp_ge (pc := 20) 38 dX0_survey_20 rfl (fun q20 => ?_) (fun q20 => absurd (show (128 : Int32) ≤ 128 by decide) q20)
    refine E_iconst (pc := 38) (0) dX0_survey_38 (by decide) ?_
    refine E_istore_n (pc := 39) 2 dX0_survey_39 rfl (Nat.le_of_ble_eq_true rfl) rfl (lz := [_, _, _, _, _]) rfl ?_
    have sv0 : svI h (bad0 h1 128) (h g_values 0) (h g_nums k) T F (16 * 0) := ⟨fun a ha => by unfold bad0; rw [hsetA_t ha.2.2]; exact s1 a ha, by unfold bad0; rw [hsetA_t (by decide)]; exact o1, fun j hj => by unfold bad0; rw [hsetA_arr, if_pos hj, if_neg (by omega)]⟩
    have m0 : Ms (bad0 h1 128) (h g_values 0) (h g_nums k) T := m1.same (hsetA_t (by decide)) (hsetA_t (by decide)) (hsetA_t (by decide)) (hsetA_t (by decide)) (hsetA_t (by decide))
    refine down (P := fun t => ∀ h2, svI h h2 (h g_values 0) (h g_nums k) T F (16 * t) → Ms h2 (h g_values 0) (h g_nums k) T → Ev l G mX0_survey _ 40 [some (vR g_judge 0), some (vR g_way k), some (vI (nI t)), none, none] [] h2) T ?_ ?_ 0 (Nat.zero_le _) _ sv0 m0
    · intro h2 sv m2
      refine E_iload_n (pc := 40) 2 dX0_survey_40 rfl rfl ?_
      refine E_aload_n (pc := 41) 1 dX0_survey_41 rfl rfl ?_
      refine E_getI (pc := 42) dX0_survey_42 fl_RX0_69 rfl rfl ?_
      refine E_eq (st' := [vI (nI T), vI (nI T)]) rfl (by rw [sv.1 g_way (by decide), hT]) rfl ?_
      refine E_icmp_ge (pc := 45) 106 dX0_survey_45 rfl (fun q45 => ?_) (fun q45 => absurd (Int32.le_refl _) q45)
      refine E_vret (pc := 106) dX0_survey_106 rfl ?_
      exact ⟨rfl, sv.1, sv.2.1, svI_end sv⟩
    · intro t ht hn h2 sv m2
      refine E_iload_n (pc := 40) 2 dX0_survey_40 rfl rfl ?_
      refine E_aload_n (pc := 41) 1 dX0_survey_41 rfl rfl ?_
      refine E_getI (pc := 42) dX0_survey_42 fl_RX0_69 rfl rfl ?_
      refine E_eq (st' := [vI (nI T), vI (nI t)]) rfl (by rw [sv.1 g_way (by decide), hT]) rfl ?_
      refine E_icmp_ge (pc := 45) 106 dX0_survey_45 rfl (fun q45 => absurd q45 (nI_ge ht (by omega))) (fun q45 => ?_)
      refine E_bipush (pc := 48) (16) dX0_survey_48 (by decide) ?_
      refine E_iload_n (pc := 50) 2 dX0_survey_50 rfl rfl ?_
      refine E_imul (pc := 51) dX0_survey_51 ?_
      refine E_top (y := nI (16 * t)) (by rw [show (16 : Int32) = nI 16 from rfl, pk_mul]) ?_
      refine E_istore_n (pc := 52) 3 dX0_survey_52 rfl (Nat.le_of_ble_eq_true rfl) rfl (lz := [_, _, _, _, _]) rfl ?_
      refine E_iload_n (pc := 53) 3 dX0_survey_53 rfl rfl ?_
      refine E_istore (pc := 54) 4 dX0_survey_54 (Nat.le_of_ble_eq_true rfl) rfl (lz := [_, _, _, _, _]) rfl ?_
      refine down (P := fun c => ∀ h3, svI h h3 (h g_values 0) (h g_nums k) T F (16 * t + c) → MsO h3 (h g_values 0) (h g_nums k) T t → Ev l G mX0_survey _ 56 [some (vR g_judge 0), some (vR g_way k), some (vI (nI t)), some (vI (nI (16 * t))), some (vI (nI (16 * t + c)))] [] h3) 16 ?_ ?_ 0 (Nat.zero_le _) h2 sv (m2.off t)
      · intro h3 sv3 m3
        refine E_iload (pc := 56) 4 dX0_survey_56 rfl ?_
        refine E_iload_n (pc := 58) 3 dX0_survey_58 rfl rfl ?_
        refine E_bipush (pc := 59) (16) dX0_survey_59 (by decide) ?_
        refine E_iadd (pc := 61) dX0_survey_61 ?_
        refine E_eq (st' := [vI (nI (16 * t + 16)), vI (nI (16 * t + 16))]) rfl (by rw [show (16 : Int32) = nI 16 from rfl, nI_add]) rfl ?_
        refine E_icmp_ge (pc := 62) 94 dX0_survey_62 rfl (fun q62 => ?_) (fun q62 => absurd (Int32.le_refl _) q62)
        refine E_aload_n (pc := 94) 0 dX0_survey_94 rfl rfl ?_
        refine E_aload_n (pc := 95) 1 dX0_survey_95 rfl rfl ?_
        refine E_iload_n (pc := 96) 2 dX0_survey_96 rfl rfl ?_
        refine E_callV0 (pc := 97) dX0_survey_97 (C_X0_measureTenth (T := T) (by rw [sv3.1 g_way (by decide)]; exact hT) hT8 (by omega)) rfl kv_RX0_73 rfl rfl rfl ⟨Nat.le_of_ble_eq_true rfl, Nat.le_of_ble_eq_true rfl, Nat.le_of_ble_eq_true rfl, Nat.le_of_ble_eq_true rfl⟩ (Nat.le_of_ble_eq_true rfl) ?_
        refine E_iincN (pc := 100) 2 dX0_survey_100 (Nat.le_of_ble_eq_true rfl) rfl rfl (lz := [_, _, _, _, _]) rfl ?_
        refine E_goto (pc := 103) 40 dX0_survey_103 rfl ?_
        refine E_drop 3 (E_drop 4 (hn _ (svI_sm sv3 (fun a ha => mT_t ha)) ?_))
        have m9 := MsO.all (h := h3) (k := k) (T := T) (t := t) (by rw [sv3.1 g_values (by decide), sv3.1 g_nums (by decide)]; exact m3)
        rw [sv3.1 g_values (by decide), sv3.1 g_nums (by decide)] at m9
        exact m9
      · intro c hc hm h3 sv3 m3
        have e1 : h3 g_way = h g_way := sv3.1 g_way (by decide)
        have e2 : h3 g_values = h g_values := sv3.1 g_values (by decide)
        have e3 : h3 g_nums = h g_nums := sv3.1 g_nums (by decide)
        refine E_iload (pc := 56) 4 dX0_survey_56 rfl ?_
        refine E_iload_n (pc := 58) 3 dX0_survey_58 rfl rfl ?_
        refine E_bipush (pc := 59) (16) dX0_survey_59 (by decide) ?_
        refine E_iadd (pc := 61) dX0_survey_61 ?_
        refine E_eq (st' := [vI (nI (16 * t + 16)), vI (nI (16 * t + c))]) rfl (by rw [show (16 : Int32) = nI 16 from rfl, nI_add]) rfl ?_
        refine E_icmp_ge (pc := 62) 94 dX0_survey_62 rfl (fun q62 => absurd q62 (nI_ge (by omega) (by omega))) (fun q62 => ?_)
        refine E_aload_n (pc := 65) 1 dX0_survey_65 rfl rfl ?_
        refine E_iload (pc := 66) 4 dX0_survey_66 rfl ?_
        refine E_callV1 (pc := 68) dX0_survey_68 (C_hasChangeN (T := T) (by rw [e1]; exact hT) hT8 (by omega)) rfl kv_RX0_148 rfl rfl rfl ⟨Nat.le_of_ble_eq_true rfl, Nat.le_of_ble_eq_true rfl, Nat.le_of_ble_eq_true rfl, Nat.le_of_ble_eq_true rfl⟩ (Nat.le_of_ble_eq_true rfl) ?_
        refine E_if_eq (pc := 71) 88 dX0_survey_71 rfl (fun q71 => ?_) (fun q71 => ?_)
        · have hz : chgF (h g_values 0) (h g_nums k) T F (16 * t + c) = -1000 := if_neg (by have := bi_0.mp q71; rw [e3] at this; exact this)
          first | (refine E_heq (h' := hset h4 g_chgd 0 (16 * t + c) (chgF (h g_values 0) (h g_nums k) T F (16 * t + c))) (by rw [ixN_nI (by omega)]) ?_) | skip
          refine E_iincN (pc := 88) 4 dX0_survey_88 (Nat.le_of_ble_eq_true rfl) rfl rfl (lz := [_, _, _, _, _]) rfl ?_
          refine E_goto (pc := 91) 56 dX0_survey_91 rfl ?_
          first | exact hm _ (svI_skip sv3 hz) m3 | exact hm _ (svI_put (svI_sm sv3 sj)) (mo.same (hset_t (by decide)) (hset_t (by decide)) (hset_t (by decide)) (hset_t (by decide)) (hset_t (by decide)))
        · have hz : 16 * t + c < 16 * T ∧ okN (h g_nums k ((16 * t + c) / 2) + stp (16 * t + c)) := by have := Decidable.of_not_not (fun z => q71 (bi_0.mpr z)); rw [e3] at this; exact this
          refine E_aload_n (pc := 74) 0 dX0_survey_74 rfl rfl ?_
          refine E_getR0 (pc := 75) dX0_survey_75 fl_RX0_33 rfl rfl ?_
          refine E_iload (pc := 78) 4 dX0_survey_78 rfl ?_
          refine E_aload_n (pc := 80) 0 dX0_survey_80 rfl rfl ?_
          refine E_aload_n (pc := 81) 1 dX0_survey_81 rfl rfl ?_
          refine E_iload (pc := 82) 4 dX0_survey_82 rfl ?_
          refine E_callV (pc := 84) dX0_survey_84 (C_X0_valueWith (T := T) (F := F) (by rw [e1]; exact hT) (by rw [e1]; exact hF) hT1 hT8 (by omega) (by rw [e2, e3, show (16 * t + c) / 16 = t by omega]; exact m3)) rfl kv_RX0_151 rfl rfl rfl ⟨Nat.le_of_ble_eq_true rfl, Nat.le_of_ble_eq_true rfl, Nat.le_of_ble_eq_true rfl, Nat.le_of_ble_eq_true rfl⟩ (Nat.le_of_ble_eq_true rfl) ?_
          rintro _ h4 ⟨rfl, sj, mo⟩
          rw [e2, e3] at mo
          rw [show (16 * t + c) / 16 = t by omega] at mo
          refine E_eq (st' := [vI (chgF (h g_values 0) (h g_nums k) T F (16 * t + c)), vI (nI (16 * t + c)), vR g_chgd 0]) rfl (by rw [e2, e3, chgF, if_pos hz]; rfl) rfl ?_
          refine E_iast (pc := 87) dX0_survey_87 rfl (vp_in_nI (by omega) (by decide)) ?_
          first | (refine E_heq (h' := hset h4 g_chgd 0 (16 * t + c) (chgF (h g_values 0) (h g_nums k) T F (16 * t + c))) (by rw [ixN_nI (by omega)]) ?_) | skip
          refine E_iincN (pc := 88) 4 dX0_survey_88 (Nat.le_of_ble_eq_true rfl) rfl rfl (lz := [_, _, _, _, _]) rfl ?_
          refine E_goto (pc := 91) 56 dX0_survey_91 rfl ?_
          first | exact hm _ (svI_skip sv3 hz) m3 | exact hm _ (svI_put (svI_sm sv3 sj)) (mo.same (hset_t (by decide)) (hset_t (by decide)) (hset_t (by decide)) (hset_t (by decide)) (hset_t (by decide)))
  · intro i hi hn
    refine E_iload_n (pc := 16) 2 dX0_survey_16 rfl rfl ?_
    refine E_sipush (pc := 17) (128) dX0_survey_17 (by decide) ?_
    refine E_icmp_ge (pc := 20) 38 dX0_survey_20 rfl (fun q20 => absurd q20 (nI_ge (b := 128) hi (by decide))) (fun q20 => ?_)
    refine E_aload_n (pc := 23) 0 dX0_survey_23 rfl rfl ?_
    refine E_getR0 (pc := 24) dX0_survey_24 fl_RX0_33 rfl rfl ?_
    refine E_iload_n (pc := 27) 2 dX0_survey_27 rfl rfl ?_
    refine E_sipush (pc := 28) (-1000) dX0_survey_28 (by decide) ?_
    refine E_iast (pc := 31) dX0_survey_31 rfl (vp_in_nI (by omega) (by decide)) ?_
    refine E_iincN (pc := 32) 2 dX0_survey_32 (Nat.le_of_ble_eq_true rfl) rfl rfl (lz := [_, _, _, _, _]) rfl ?_
    refine E_goto (pc := 35) 16 dX0_survey_35 rfl ?_
    exact E_heq (by rw [ixN_nI (by omega)]; exact bad0_s h1 i) hn
/-- the first of the greatest of f above own, up to i -/
def bstF (own : Int32) (f : Nat → Int32) : Nat → Int32 × Int32
  | 0 => (-4, own)
  | i + 1 => if (bstF own f i).2 < f i then (nI i, f i) else bstF own f i
set_option maxHeartbeats 1600000 in
theorem C_X0_bestChange {l : Launch} {G : GE} {h : Hp}  : CT l G mX0_bestChange [vR g_judge 0] h (fun r h' => r = some ((bstF (h g_judge 0 7) (h g_chgd 0) 128).1) ∧ h' = h) := by
  refine CT.of (lv := [_, _, _, _]) (by decide +kernel) (Nat.le_of_ble_eq_true rfl) rfl ?_
  refine E_bipush (pc := 0) (-4) dX0_bestChange_0 (by decide) ?_
  refine E_istore_n (pc := 2) 1 dX0_bestChange_2 rfl (Nat.le_of_ble_eq_true rfl) rfl (lz := [_, _, _, _]) rfl ?_
  refine E_aload_n (pc := 3) 0 dX0_bestChange_3 rfl rfl ?_
  refine E_getI (pc := 4) dX0_bestChange_4 fl_RX0_145 rfl rfl ?_
  refine E_istore_n (pc := 7) 2 dX0_bestChange_7 rfl (Nat.le_of_ble_eq_true rfl) rfl (lz := [_, _, _, _]) rfl ?_
  refine E_iconst (pc := 8) (0) dX0_bestChange_8 (by decide) ?_
  refine E_istore_n (pc := 9) 3 dX0_bestChange_9 rfl (Nat.le_of_ble_eq_true rfl) rfl (lz := [_, _, _, _]) rfl ?_
  refine down (P := fun i => Ev l G mX0_bestChange _ 10 [some (vR g_judge 0), some (vI (bstF (h g_judge 0 7) (h g_chgd 0) i).1), some (vI (bstF (h g_judge 0 7) (h g_chgd 0) i).2), some (vI (nI i))] [] h) 128 ?_ ?_ 0 (Nat.zero_le _)
  · refine E_iload_n (pc := 10) 3 dX0_bestChange_10 rfl rfl ?_
    refine E_sipush (pc := 11) (128) dX0_bestChange_11 (by decide) ?_
    refine E_icmp_ge (pc := 14) 42 dX0_bestChange_14 rfl (fun q14 => ?_) (fun q14 => absurd (show (128 : Int32) ≤ 128 by decide) q14)
    refine E_iload_n (pc := 42) 1 dX0_bestChange_42 rfl rfl ?_
    refine E_iret (pc := 43) dX0_bestChange_43 rfl ?_
    first | exact ⟨rfl, rfl⟩ | exact ⟨by grind [bi], rfl⟩
  · intro i hi hn
    refine E_iload_n (pc := 10) 3 dX0_bestChange_10 rfl rfl ?_
    refine E_sipush (pc := 11) (128) dX0_bestChange_11 (by decide) ?_
    refine E_icmp_ge (pc := 14) 42 dX0_bestChange_14 rfl (fun q14 => absurd q14 (nI_ge (b := 128) hi (by decide))) (fun q14 => ?_)
    refine E_aload_n (pc := 17) 0 dX0_bestChange_17 rfl rfl ?_
    refine E_getR0 (pc := 18) dX0_bestChange_18 fl_RX0_33 rfl rfl ?_
    refine E_iload_n (pc := 21) 3 dX0_bestChange_21 rfl rfl ?_
    refine E_iald (pc := 22) dX0_bestChange_22 rfl (vp_in_nI (by omega) (by decide)) ?_
    refine E_top (y := h g_chgd 0 i) (by rw [ixN_nI (by omega)]) ?_
    refine E_iload_n (pc := 23) 2 dX0_bestChange_23 rfl rfl ?_
    refine E_icmp_le (pc := 24) 36 dX0_bestChange_24 rfl (fun q24 => ?_) (fun q24 => ?_)
    · have hl : bstF (h g_judge 0 7) (h g_chgd 0) (i + 1) = bstF (h g_judge 0 7) (h g_chgd 0) i := if_neg (Int32.not_lt.mpr q24)
      refine E_iincN (pc := 36) 3 dX0_bestChange_36 (Nat.le_of_ble_eq_true rfl) rfl rfl (lz := [_, _, _, _]) rfl ?_
      refine E_goto (pc := 39) 10 dX0_bestChange_39 rfl ?_
      rw [hl] at hn
      exact hn
    · have hl : bstF (h g_judge 0 7) (h g_chgd 0) (i + 1) = (nI i, h g_chgd 0 i) := if_pos (Int32.not_le.mp q24)
      refine E_aload_n (pc := 27) 0 dX0_bestChange_27 rfl rfl ?_
      refine E_getR0 (pc := 28) dX0_bestChange_28 fl_RX0_33 rfl rfl ?_
      refine E_iload_n (pc := 31) 3 dX0_bestChange_31 rfl rfl ?_
      refine E_iald (pc := 32) dX0_bestChange_32 rfl (vp_in_nI (by omega) (by decide)) ?_
      refine E_top (y := h g_chgd 0 i) (by rw [ixN_nI (by omega)]) ?_
      refine E_istore_n (pc := 33) 2 dX0_bestChange_33 rfl (Nat.le_of_ble_eq_true rfl) rfl (lz := [_, _, _, _]) rfl ?_
      refine E_iload_n (pc := 34) 3 dX0_bestChange_34 rfl rfl ?_
      refine E_istore_n (pc := 35) 1 dX0_bestChange_35 rfl (Nat.le_of_ble_eq_true rfl) rfl (lz := [_, _, _, _]) rfl ?_
      refine E_iincN (pc := 36) 3 dX0_bestChange_36 (Nat.le_of_ble_eq_true rfl) rfl rfl (lz := [_, _, _, _]) rfl ?_
      refine E_goto (pc := 39) 10 dX0_bestChange_39 rfl ?_
      rw [hl] at hn
      exact hn
def cmpI (x y : Int32) : Int32 := if x < y then -1 else if x = y then 0 else 1
def cntC (own : Int32) (f : Nat → Int32) (sg : Int32) : Nat → Nat
  | 0 => 0
  | i + 1 => if ¬ f i = -1000 ∧ cmpI (f i) own = sg then cntC own f sg i + 1 else cntC own f sg i
set_option maxHeartbeats 1600000 in
theorem C_X0_changesThatCompare {l : Launch} {G : GE} {h : Hp} {sg : Int32} : CT l G mX0_changesThatCompare [vR g_judge 0, vI sg] h (fun r h' => r = some (nI (cntC (h g_judge 0 7) (h g_chgd 0) sg 128)) ∧ h' = h) := by
  refine CT.of (lv := [_, _, _, _]) (by decide +kernel) (Nat.le_of_ble_eq_true rfl) rfl ?_
  refine E_iconst (pc := 0) (0) dX0_changesThatCompare_0 (by decide) ?_
  refine E_istore_n (pc := 1) 2 dX0_changesThatCompare_1 rfl (Nat.le_of_ble_eq_true rfl) rfl (lz := [_, _, _, _]) rfl ?_
  refine E_iconst (pc := 2) (0) dX0_changesThatCompare_2 (by decide) ?_
  refine E_istore_n (pc := 3) 3 dX0_changesThatCompare_3 rfl (Nat.le_of_ble_eq_true rfl) rfl (lz := [_, _, _, _]) rfl ?_
  refine down (P := fun i => Ev l G mX0_changesThatCompare _ 4 [some (vR g_judge 0), some (vI sg), some (vI (nI (cntC (h g_judge 0 7) (h g_chgd 0) sg i))), some (vI (nI i))] [] h) 128 ?_ ?_ 0 (Nat.zero_le _)
  · refine E_iload_n (pc := 4) 3 dX0_changesThatCompare_4 rfl rfl ?_
    refine E_sipush (pc := 5) (128) dX0_changesThatCompare_5 (by decide) ?_
    refine E_icmp_ge (pc := 8) 49 dX0_changesThatCompare_8 rfl (fun q8 => ?_) (fun q8 => absurd (show (128 : Int32) ≤ 128 by decide) q8)
    refine E_iload_n (pc := 49) 2 dX0_changesThatCompare_49 rfl rfl ?_
    refine E_iret (pc := 50) dX0_changesThatCompare_50 rfl ?_
    first | exact ⟨rfl, rfl⟩ | exact ⟨by grind [bi], rfl⟩
  · intro i hi hn
    refine E_iload_n (pc := 4) 3 dX0_changesThatCompare_4 rfl rfl ?_
    refine E_sipush (pc := 5) (128) dX0_changesThatCompare_5 (by decide) ?_
    refine E_icmp_ge (pc := 8) 49 dX0_changesThatCompare_8 rfl (fun q8 => absurd q8 (nI_ge (b := 128) hi (by decide))) (fun q8 => ?_)
    refine E_aload_n (pc := 11) 0 dX0_changesThatCompare_11 rfl rfl ?_
    refine E_getR0 (pc := 12) dX0_changesThatCompare_12 fl_RX0_33 rfl rfl ?_
    refine E_iload_n (pc := 15) 3 dX0_changesThatCompare_15 rfl rfl ?_
    refine E_iald (pc := 16) dX0_changesThatCompare_16 rfl (vp_in_nI (by omega) (by decide)) ?_
    refine E_top (y := h g_chgd 0 i) (by rw [ixN_nI (by omega)]) ?_
    refine E_sipush (pc := 17) (-1000) dX0_changesThatCompare_17 (by decide) ?_
    refine E_icmp_eq (pc := 20) 43 dX0_changesThatCompare_20 rfl (fun q20 => ?_) (fun q20 => ?_)
    · have hl : cntC (h g_judge 0 7) (h g_chgd 0) sg (i + 1) = cntC (h g_judge 0 7) (h g_chgd 0) sg i := if_neg (fun z => z.1 q20)
      refine E_iincN (pc := 43) 3 dX0_changesThatCompare_43 (Nat.le_of_ble_eq_true rfl) rfl rfl (lz := [_, _, _, _]) rfl ?_
      refine E_goto (pc := 46) 4 dX0_changesThatCompare_46 rfl ?_
      rw [hl] at hn
      exact hn
    · refine E_aload_n (pc := 23) 0 dX0_changesThatCompare_23 rfl rfl ?_
      refine E_getR0 (pc := 24) dX0_changesThatCompare_24 fl_RX0_33 rfl rfl ?_
      refine E_iload_n (pc := 27) 3 dX0_changesThatCompare_27 rfl rfl ?_
      refine E_iald (pc := 28) dX0_changesThatCompare_28 rfl (vp_in_nI (by omega) (by decide)) ?_
      refine E_top (y := h g_chgd 0 i) (by rw [ixN_nI (by omega)]) ?_
      refine E_aload_n (pc := 29) 0 dX0_changesThatCompare_29 rfl rfl ?_
      refine E_getI (pc := 30) dX0_changesThatCompare_30 fl_RX0_145 rfl rfl ?_
      refine E_callS1 (pc := 33) dX0_changesThatCompare_33 C_J6_compare_7cf53 rfl ks_RX0_154 rfl ⟨Nat.le_of_ble_eq_true rfl, Nat.le_of_ble_eq_true rfl, Nat.le_of_ble_eq_true rfl, Nat.le_of_ble_eq_true rfl⟩ (Nat.le_of_ble_eq_true rfl) ?_
      refine E_top (y := cmpI (h g_chgd 0 i) (h g_judge 0 7)) rfl ?_
      refine E_iload_n (pc := 36) 1 dX0_changesThatCompare_36 rfl rfl ?_
      refine E_icmp_ne (pc := 37) 43 dX0_changesThatCompare_37 rfl (fun q37 => ?_) (fun q37 => ?_)
      · have hl : cntC (h g_judge 0 7) (h g_chgd 0) sg (i + 1) = cntC (h g_judge 0 7) (h g_chgd 0) sg i := if_neg (fun z => q37 z.2)
        refine E_iincN (pc := 43) 3 dX0_changesThatCompare_43 (Nat.le_of_ble_eq_true rfl) rfl rfl (lz := [_, _, _, _]) rfl ?_
        refine E_goto (pc := 46) 4 dX0_changesThatCompare_46 rfl ?_
        rw [hl] at hn
        exact hn
      · have hl : cntC (h g_judge 0 7) (h g_chgd 0) sg (i + 1) = cntC (h g_judge 0 7) (h g_chgd 0) sg i + 1 := if_pos ⟨q20, q37⟩
        refine E_iincN (pc := 40) 2 dX0_changesThatCompare_40 (Nat.le_of_ble_eq_true rfl) rfl rfl (lz := [_, _, _, _]) rfl ?_
        refine E_iincN (pc := 43) 3 dX0_changesThatCompare_43 (Nat.le_of_ble_eq_true rfl) rfl rfl (lz := [_, _, _, _]) rfl ?_
        refine E_goto (pc := 46) 4 dX0_changesThatCompare_46 rfl ?_
        rw [hl] at hn
        exact hn
/-- the numbers of one way as another's up to i -/
def mix (f g : Nat → Int32) (i : Nat) : Nat → Int32 := fun j => if j < i then g j else f j
theorem mix_0 (f g : Nat → Int32) : mix f g 0 = f := by
  funext j; unfold mix; rw [if_neg (Nat.not_lt_zero j)]
theorem mix_s (f g : Nat → Int32) (i : Nat) : upd (mix f g i) i (g i) = mix f g (i + 1) := by
  funext j
  unfold upd mix
  by_cases h1 : j = i
  · rw [if_pos h1, if_pos (by omega), h1]
  · by_cases h2 : j < i
    · rw [if_neg h1, if_pos h2, if_pos (by omega)]
    · rw [if_neg h1, if_neg h2, if_neg (by omega)]
theorem mix_eq {f g : Nat → Int32} {i : Nat} (h : f i = g i) : mix f g i = mix f g (i + 1) := by
  rw [← mix_s]
  funext j
  unfold upd
  by_cases h1 : j = i
  · rw [if_pos h1, h1]; unfold mix; rw [if_neg (Nat.lt_irrefl i), h]
  · rw [if_neg h1]
def valF (V f g : Nat → Int32) (T : Nat) (F : Int32) : Nat → Int32
  | 0 => sWorth V f T F
  | i + 1 => if f i = g i then valF V f g T F i else minI (valF V f g T F i) (sWorth V (mix f g (i + 1)) T F)
/-- leastOnTheWay's heap, numbers up to i changed: only the judge's rows and that way's numbers may differ -/
def lwI (h0 h : Hp) (k : Nat) (f g : Nat → Int32) (i : Nat) : Prop := (∀ a, noJ a → a ≠ g_nums → h a = h0 a) ∧ (∀ b, b ≠ k → h g_nums b = h0 g_nums b) ∧ h g_nums k = mix f g i
set_option maxHeartbeats 1600000 in
theorem C_X0_leastOnTheWay {l : Launch} {G : GE} {h : Hp} {k j T : Nat} {F : Int32} (hkj : j ≠ k) (hT : h g_way k 1 = nI T) (hF : h g_way k 2 = F) (hT1 : 1 ≤ T) (hT8 : T ≤ 8) : CT l G mX0_leastOnTheWay [vR g_judge 0, vR g_way k, vR g_way j] h (fun r h' => r = some (valF (h g_values 0) (h g_nums k) (h g_nums j) T F (8 * T)) ∧ (∀ a, noJ a → a ≠ g_nums → h' a = h a) ∧ (∀ b, b ≠ k → h' g_nums b = h g_nums b)) := by
  refine CT.of (lv := [_, _, _, _, _]) (by decide +kernel) (Nat.le_of_ble_eq_true rfl) rfl ?_
  refine E_aload_n (pc := 0) 0 dX0_leastOnTheWay_0 rfl rfl ?_
  refine E_aload_n (pc := 1) 1 dX0_leastOnTheWay_1 rfl rfl ?_
  refine E_callV0 (pc := 2) dX0_leastOnTheWay_2 (C_X0_measure hT hT8) rfl kv_RX0_141 rfl rfl rfl ⟨Nat.le_of_ble_eq_true rfl, Nat.le_of_ble_eq_true rfl, Nat.le_of_ble_eq_true rfl, Nat.le_of_ble_eq_true rfl⟩ (Nat.le_of_ble_eq_true rfl) ?_
  refine E_aload_n (pc := 5) 0 dX0_leastOnTheWay_5 rfl rfl ?_
  refine E_aload_n (pc := 6) 1 dX0_leastOnTheWay_6 rfl rfl ?_
  refine E_callV1 (pc := 7) dX0_leastOnTheWay_7 (C_X0_value (T := T) (by rw [measN_t (by decide)]; exact hT) hT1 hT8) rfl kv_RX0_135 rfl rfl rfl ⟨Nat.le_of_ble_eq_true rfl, Nat.le_of_ble_eq_true rfl, Nat.le_of_ble_eq_true rfl, Nat.le_of_ble_eq_true rfl⟩ (Nat.le_of_ble_eq_true rfl) ?_
  refine E_top (y := sWorth (h g_values 0) (h g_nums k) T F) (by rw [measN_t (a := g_values) (by decide), measN_t (a := g_nums) (by decide), measN_t (a := g_way) (by decide), hF]; exact measN_all.worth hT1 hT8) ?_
  refine E_istore_n (pc := 10) 3 dX0_leastOnTheWay_10 rfl (Nat.le_of_ble_eq_true rfl) rfl (lz := [_, _, _, _, _]) rfl ?_
  refine E_iconst (pc := 11) (0) dX0_leastOnTheWay_11 (by decide) ?_
  refine E_istore (pc := 12) 4 dX0_leastOnTheWay_12 (Nat.le_of_ble_eq_true rfl) rfl (lz := [_, _, _, _, _]) rfl ?_
  refine down (P := fun i => ∀ h2, lwI h h2 k (h g_nums k) (h g_nums j) i → Ms h2 (h g_values 0) (mix (h g_nums k) (h g_nums j) i) T → Ev l G mX0_leastOnTheWay _ 14 [some (vR g_judge 0), some (vR g_way k), some (vR g_way j), some (vI (valF (h g_values 0) (h g_nums k) (h g_nums j) T F i)), some (vI (nI i))] [] h2) (8 * T) ?_ ?_ 0 (Nat.zero_le _) (measN h k T T) ⟨fun a ha _ => measN_t ha T, fun b _ => by rw [measN_t (by decide)], by rw [measN_t (by decide), mix_0]⟩ (by rw [mix_0]; exact measN_all)
  · intro h2 lw m2
    refine E_iload (pc := 14) 4 dX0_leastOnTheWay_14 rfl ?_
    refine E_aload_n (pc := 16) 1 dX0_leastOnTheWay_16 rfl rfl ?_
    refine E_callV1 (pc := 17) dX0_leastOnTheWay_17 C_X6_countNumbers rfl kv_RX0_159 rfl rfl rfl ⟨Nat.le_of_ble_eq_true rfl, Nat.le_of_ble_eq_true rfl, Nat.le_of_ble_eq_true rfl, Nat.le_of_ble_eq_true rfl⟩ (Nat.le_of_ble_eq_true rfl) ?_
    refine E_eq (st' := [vI (nI (8 * T)), vI (nI (8 * T))]) rfl (by rw [lw.1 g_way (by decide) (by decide), hT, show (8 : Int32) = nI 8 from rfl, pk_mul]) rfl ?_
    refine E_icmp_ge (pc := 20) 80 dX0_leastOnTheWay_20 rfl (fun q20 => ?_) (fun q20 => absurd (Int32.le_refl _) q20)
    refine E_iload_n (pc := 80) 3 dX0_leastOnTheWay_80 rfl rfl ?_
    refine E_iret (pc := 81) dX0_leastOnTheWay_81 rfl ?_
    exact ⟨rfl, lw.1, lw.2.1⟩
  · intro i hi hn h2 lw m2
    have e1 : h2 g_way = h g_way := lw.1 g_way (by decide) (by decide)
    have e2 : h2 g_values = h g_values := lw.1 g_values (by decide) (by decide)
    have e3 : h2 g_nums j = h g_nums j := lw.2.1 j hkj
    have e4 : h2 g_nums k i = h g_nums k i := by rw [lw.2.2]; unfold mix; rw [if_neg (Nat.lt_irrefl i)]
    refine E_iload (pc := 14) 4 dX0_leastOnTheWay_14 rfl ?_
    refine E_aload_n (pc := 16) 1 dX0_leastOnTheWay_16 rfl rfl ?_
    refine E_callV1 (pc := 17) dX0_leastOnTheWay_17 C_X6_countNumbers rfl kv_RX0_159 rfl rfl rfl ⟨Nat.le_of_ble_eq_true rfl, Nat.le_of_ble_eq_true rfl, Nat.le_of_ble_eq_true rfl, Nat.le_of_ble_eq_true rfl⟩ (Nat.le_of_ble_eq_true rfl) ?_
    refine E_eq (st' := [vI (nI (8 * T)), vI (nI i)]) rfl (by rw [e1, hT, show (8 : Int32) = nI 8 from rfl, pk_mul]) rfl ?_
    refine E_icmp_ge (pc := 20) 80 dX0_leastOnTheWay_20 rfl (fun q20 => absurd q20 (nI_ge hi (by omega))) (fun q20 => ?_)
    refine E_aload_n (pc := 23) 1 dX0_leastOnTheWay_23 rfl rfl ?_
    refine E_getR0 (pc := 24) dX0_leastOnTheWay_24 fl_RX0_50 rfl rfl ?_
    refine E_iload (pc := 27) 4 dX0_leastOnTheWay_27 rfl ?_
    refine E_iald (pc := 29) dX0_leastOnTheWay_29 rfl (vp_in_nI (by omega) (by decide)) ?_
    refine E_aload_n (pc := 30) 2 dX0_leastOnTheWay_30 rfl rfl ?_
    refine E_getR0 (pc := 31) dX0_leastOnTheWay_31 fl_RX0_50 rfl rfl ?_
    refine E_iload (pc := 34) 4 dX0_leastOnTheWay_34 rfl ?_
    refine E_iald (pc := 36) dX0_leastOnTheWay_36 rfl (vp_in_nI (by omega) (by decide)) ?_
    refine E_eq (st' := [vI (h g_nums j i), vI (h g_nums k i)]) rfl (by rw [ixN_nI (by omega), e3, e4]) rfl ?_
    refine E_icmp_eq (pc := 37) 74 dX0_leastOnTheWay_37 rfl (fun q37 => ?_) (fun q37 => ?_)
    · have hl : valF (h g_values 0) (h g_nums k) (h g_nums j) T F (i + 1) = valF (h g_values 0) (h g_nums k) (h g_nums j) T F i := if_pos q37
      refine E_iincN (pc := 74) 4 dX0_leastOnTheWay_74 (Nat.le_of_ble_eq_true rfl) rfl rfl (lz := [_, _, _, _, _]) rfl ?_
      refine E_goto (pc := 77) 14 dX0_leastOnTheWay_77 rfl ?_
      rw [hl] at hn
      first | exact hn h2 ⟨lw.1, lw.2.1, by rw [lw.2.2]; exact mix_eq q37⟩ (by rw [← mix_eq q37]; exact m2) | exact hn _ ⟨fun a ha hb => by rw [mT_t ha, hset_t hb]; exact lw.1 a ha hb, fun b hb => by rw [mT_t (by decide), hset_other (fun z => hb (congrArg Prod.snd z))]; exact lw.2.1 b hb, by rw [mT_t (by decide), en]⟩ hA
    · have hl : valF (h g_values 0) (h g_nums k) (h g_nums j) T F (i + 1) = minI (valF (h g_values 0) (h g_nums k) (h g_nums j) T F i) (sWorth (h g_values 0) (mix (h g_nums k) (h g_nums j) (i + 1)) T F) := if_neg q37
      refine E_aload_n (pc := 40) 1 dX0_leastOnTheWay_40 rfl rfl ?_
      refine E_getR0 (pc := 41) dX0_leastOnTheWay_41 fl_RX0_50 rfl rfl ?_
      refine E_iload (pc := 44) 4 dX0_leastOnTheWay_44 rfl ?_
      refine E_aload_n (pc := 46) 2 dX0_leastOnTheWay_46 rfl rfl ?_
      refine E_getR0 (pc := 47) dX0_leastOnTheWay_47 fl_RX0_50 rfl rfl ?_
      refine E_iload (pc := 50) 4 dX0_leastOnTheWay_50 rfl ?_
      refine E_iald (pc := 52) dX0_leastOnTheWay_52 rfl (vp_in_nI (by omega) (by decide)) ?_
      refine E_top (y := h g_nums j i) (by rw [ixN_nI (by omega), e3]) ?_
      refine E_iast (pc := 53) dX0_leastOnTheWay_53 rfl (vp_in_nI (by omega) (by decide)) ?_
      refine E_heq (h' := hset h2 g_nums k i (h g_nums j i)) (by rw [ixN_nI (by omega)]) ?_
      have en : hset h2 g_nums k i (h g_nums j i) g_nums k = mix (h g_nums k) (h g_nums j) (i + 1) := by rw [hset_nums, lw.2.2, mix_s]
      have ev : hset h2 g_nums k i (h g_nums j i) g_values = h g_values := (hset_t (by decide)).trans e2
      have ew : hset h2 g_nums k i (h g_nums j i) g_way = h g_way := (hset_t (by decide)).trans e1
      have hA : Ms (mT (hset h2 g_nums k i (h g_nums j i)) k T (i / 8)) (h g_values 0) (mix (h g_nums k) (h g_nums j) (i + 1)) T := by
        have := MsO.all (h := hset h2 g_nums k i (h g_nums j i)) (k := k) (T := T) (t := i / 8) (by rw [en, ev]; exact (((m2.off (i / 8)).same (hset_t (by decide)) (hset_t (by decide)) (hset_t (by decide)) (hset_t (by decide)) (hset_t (by decide))).congr (fun x hx => by rw [← mix_s]; exact (upd_ne (by omega)).symm)))
        rw [en, ev] at this
        exact this
      refine E_aload_n (pc := 54) 0 dX0_leastOnTheWay_54 rfl rfl ?_
      refine E_aload_n (pc := 55) 1 dX0_leastOnTheWay_55 rfl rfl ?_
      refine E_iload (pc := 56) 4 dX0_leastOnTheWay_56 rfl ?_
      refine E_bipush (pc := 58) (8) dX0_leastOnTheWay_58 (by decide) ?_
      refine E_idiv (pc := 60) dX0_leastOnTheWay_60 (by decide) ?_
      refine E_eq (st' := [vI (nI (i / 8)), vR g_way k, vR g_judge 0]) rfl (by rw [div8 (by omega)]) rfl ?_
      refine E_callV0 (pc := 61) dX0_leastOnTheWay_61 (C_X0_measureTenth (T := T) (by rw [ew]; exact hT) hT8 (by omega)) rfl kv_RX0_73 rfl rfl rfl ⟨Nat.le_of_ble_eq_true rfl, Nat.le_of_ble_eq_true rfl, Nat.le_of_ble_eq_true rfl, Nat.le_of_ble_eq_true rfl⟩ (Nat.le_of_ble_eq_true rfl) ?_
      refine E_iload_n (pc := 64) 3 dX0_leastOnTheWay_64 rfl rfl ?_
      refine E_aload_n (pc := 65) 0 dX0_leastOnTheWay_65 rfl rfl ?_
      refine E_aload_n (pc := 66) 1 dX0_leastOnTheWay_66 rfl rfl ?_
      refine E_callV1 (pc := 67) dX0_leastOnTheWay_67 (C_X0_value (T := T) (by rw [mT_t (by decide), ew]; exact hT) hT1 hT8) rfl kv_RX0_135 rfl rfl rfl ⟨Nat.le_of_ble_eq_true rfl, Nat.le_of_ble_eq_true rfl, Nat.le_of_ble_eq_true rfl, Nat.le_of_ble_eq_true rfl⟩ (Nat.le_of_ble_eq_true rfl) ?_
      refine E_top (y := sWorth (h g_values 0) (mix (h g_nums k) (h g_nums j) (i + 1)) T F) (by rw [mT_t (a := g_values) (by decide), mT_t (a := g_nums) (by decide), mT_t (a := g_way) (by decide), en, ev, ew, hF]; exact hA.worth hT1 hT8) ?_
      refine E_callS1 (pc := 70) dX0_leastOnTheWay_70 C_J9_min_7cf53 rfl ks_RX0_89 rfl ⟨Nat.le_of_ble_eq_true rfl, Nat.le_of_ble_eq_true rfl, Nat.le_of_ble_eq_true rfl, Nat.le_of_ble_eq_true rfl⟩ (Nat.le_of_ble_eq_true rfl) ?_
      refine E_istore_n (pc := 73) 3 dX0_leastOnTheWay_73 rfl (Nat.le_of_ble_eq_true rfl) rfl (lz := [_, _, _, _, _]) rfl ?_
      refine E_iincN (pc := 74) 4 dX0_leastOnTheWay_74 (Nat.le_of_ble_eq_true rfl) rfl rfl (lz := [_, _, _, _, _]) rfl ?_
      refine E_goto (pc := 77) 14 dX0_leastOnTheWay_77 rfl ?_
      rw [hl] at hn
      first | exact hn h2 ⟨lw.1, lw.2.1, by rw [lw.2.2]; exact mix_eq q37⟩ (by rw [← mix_eq q37]; exact m2) | exact hn _ ⟨fun a ha hb => by rw [mT_t ha, hset_t hb]; exact lw.1 a ha hb, fun b hb => by rw [mT_t (by decide), hset_other (fun z => hb (congrArg Prod.snd z))]; exact lw.2.1 b hb, by rw [mT_t (by decide), en]⟩ hA
