/-! the model: hills -/
theorem bst_mono (own : Int32) (f : Nat → Int32) : ∀ i, own ≤ (bstF own f i).2 := by
  intro i
  induction i with
  | zero => exact Int32.le_refl _
  | succ i ih =>
    unfold bstF
    by_cases hc : (bstF own f i).2 < f i
    · rw [if_pos hc]; exact Int32.le_trans ih (Int32.le_of_lt hc)
    · rw [if_neg hc]; exact ih
theorem bst_skip {own : Int32} {f : Nat → Int32} {i : Nat} (ho : -1 ≤ own) (hf : f i = -1000) : bstF own f (i + 1) = bstF own f i := by
  refine if_neg ?_
  rw [hf]
  intro z
  exact absurd (Int32.lt_of_le_of_lt (Int32.le_trans ho (bst_mono own f i)) z) (by decide)
theorem bst_y {own : Int32} {f : Nat → Int32} {i : Nat} (h : ¬ f i ≤ (bstF own f i).2) : bstF own f (i + 1) = (nI i, f i) := if_pos (Int32.not_le.mp h)
theorem bst_n {own : Int32} {f : Nat → Int32} {i : Nat} (h : f i ≤ (bstF own f i).2) : bstF own f (i + 1) = bstF own f i := if_neg (Int32.not_lt.mpr h)
set_option maxHeartbeats 1600000 in
theorem C_X8_betterOf {l : Launch} {G : GE} {h : Hp} {w T : Nat} (hV : RV (h g_m_holds 0)) (hN : RN (mN h w)) (hw : w ≤ 5) (hT : h g_m_tenths 0 w = nI T) (hT1 : 1 ≤ T) (hT8 : T ≤ 8) : CT l G mX8_betterOf [vR g_model 0, vI (nI w)] h (fun r h' => r = some (sBetter (h g_m_holds 0) (mN h w) T (h g_m_feet 0 w)) ∧ h' = h) := by
  refine CT.of (lv := [_, _, _, _, _, _]) (by decide +kernel) (Nat.le_of_ble_eq_true rfl) rfl ?_
  obtain ⟨O, hO⟩ : ∃ O, O = sWorth (h g_m_holds 0) (mN h w) T (h g_m_feet 0 w) := ⟨_, rfl⟩
  obtain ⟨f, hf⟩ : ∃ f, f = chgF (h g_m_holds 0) (mN h w) T (h g_m_feet 0 w) := ⟨_, rfl⟩
  have hO1 : -1 ≤ O := by rw [hO]; exact sWorth_ge _ _ _ _
  have hs : sBetter (h g_m_holds 0) (mN h w) T (h g_m_feet 0 w) = (bstF O f 128).1 := by rw [hO, hf]; rfl
  rw [hs]
  refine E_bipush (pc := 0) (-4) dX8_betterOf_0 (by decide) ?_
  refine E_istore_n (pc := 2) 2 dX8_betterOf_2 rfl (Nat.le_of_ble_eq_true rfl) rfl (lz := [_, _, _, _, _, _]) rfl ?_
  refine E_aload_n (pc := 3) 0 dX8_betterOf_3 rfl rfl ?_
  refine E_iload_n (pc := 4) 1 dX8_betterOf_4 rfl rfl ?_
  refine E_aload_n (pc := 5) 0 dX8_betterOf_5 rfl rfl ?_
  refine E_getR0 (pc := 6) dX8_betterOf_6 fl_RX8_40 rfl rfl ?_
  refine E_iload_n (pc := 9) 1 dX8_betterOf_9 rfl rfl ?_
  refine E_iald (pc := 10) dX8_betterOf_10 rfl (vp_in_nI (by omega) (by decide)) ?_
  refine E_top (y := h g_m_feet 0 w) (by rw [ixN_nI (by omega)]) ?_
  refine E_callV1 (pc := 11) dX8_betterOf_11 (C_X8_worthOf hV hN hw hT hT1 hT8) rfl kv_RX8_212 rfl rfl rfl ⟨Nat.le_of_ble_eq_true rfl, Nat.le_of_ble_eq_true rfl, Nat.le_of_ble_eq_true rfl, Nat.le_of_ble_eq_true rfl⟩ (Nat.le_of_ble_eq_true rfl) ?_
  refine E_top hO.symm ?_
  refine E_istore_n (pc := 14) 3 dX8_betterOf_14 rfl (Nat.le_of_ble_eq_true rfl) rfl (lz := [_, _, _, _, _, _]) rfl ?_
  refine E_iconst (pc := 15) (0) dX8_betterOf_15 (by decide) ?_
  refine E_istore (pc := 16) 4 dX8_betterOf_16 (Nat.le_of_ble_eq_true rfl) rfl (lz := [_, _, _, _, _, _]) rfl ?_
  refine down (P := fun c => Ev l G mX8_betterOf _ 18 [some (vR g_model 0), some (vI (nI w)), some (vI (bstF O f c).1), some (vI (bstF O f c).2), some (vI (nI c)), none] [] h) 128 ?_ ?_ 0 (Nat.zero_le _)
  · refine E_iload (pc := 18) 4 dX8_betterOf_18 rfl ?_
    refine E_sipush (pc := 20) (128) dX8_betterOf_20 (by decide) ?_
    refine E_icmp_ge (pc := 23) 79 dX8_betterOf_23 rfl (fun q23 => ?_) (fun q23 => absurd (show (128 : Int32) ≤ 128 by decide) q23)
    refine E_iload_n (pc := 79) 2 dX8_betterOf_79 rfl rfl ?_
    refine E_iret (pc := 80) dX8_betterOf_80 rfl ?_
    exact ⟨rfl, rfl⟩
  · intro c hc hn
    refine E_iload (pc := 18) 4 dX8_betterOf_18 rfl ?_
    refine E_sipush (pc := 20) (128) dX8_betterOf_20 (by decide) ?_
    refine E_icmp_ge (pc := 23) 79 dX8_betterOf_23 rfl (fun q23 => absurd q23 (nI_ge (b := 128) hc (by decide))) (fun q23 => ?_)
    refine E_aload_n (pc := 26) 0 dX8_betterOf_26 rfl rfl ?_
    refine E_iload_n (pc := 27) 1 dX8_betterOf_27 rfl rfl ?_
    refine E_iload (pc := 28) 4 dX8_betterOf_28 rfl ?_
    refine E_callV1 (pc := 30) dX8_betterOf_30 (C_X8_changed hw hT hT8 hc) rfl kv_RX8_215 rfl rfl rfl ⟨Nat.le_of_ble_eq_true rfl, Nat.le_of_ble_eq_true rfl, Nat.le_of_ble_eq_true rfl, Nat.le_of_ble_eq_true rfl⟩ (Nat.le_of_ble_eq_true rfl) ?_
    refine E_bipush (pc := 33) (-4) dX8_betterOf_33 (by decide) ?_
    refine E_icmp_eq (pc := 35) 73 dX8_betterOf_35 rfl (fun q35 => ?_) (fun q35 => ?_)
    · have hP : ¬ chP (mN h w) T c := fun z => nI_ne4 (n := 64 * w + c / 2) (by omega) ((if_pos z).symm.trans q35)
      have hl := bst_skip (f := f) (i := c) hO1 (by rw [hf]; exact chgF_n hP)
      refine E_iincN (pc := 73) 4 dX8_betterOf_73 (Nat.le_of_ble_eq_true rfl) rfl rfl (lz := [_, _, _, _, _, _]) rfl ?_
      refine E_goto (pc := 76) 18 dX8_betterOf_76 rfl ?_
      rw [hl] at hn
      exact hn
    · have hP : chP (mN h w) T c := Decidable.of_not_not (fun z => q35 (if_neg z))
      refine E_aload_n (pc := 38) 0 dX8_betterOf_38 rfl rfl ?_
      refine E_iload_n (pc := 39) 1 dX8_betterOf_39 rfl rfl ?_
      refine E_iload (pc := 40) 4 dX8_betterOf_40 rfl ?_
      refine E_callV1 (pc := 42) dX8_betterOf_42 (C_X8_worthBy hV hN hw hT hT1 hT8 hc hP) rfl kv_RX8_222 rfl rfl rfl ⟨Nat.le_of_ble_eq_true rfl, Nat.le_of_ble_eq_true rfl, Nat.le_of_ble_eq_true rfl, Nat.le_of_ble_eq_true rfl⟩ (Nat.le_of_ble_eq_true rfl) ?_
      refine E_top (y := f c) (by rw [hf]; exact (chgF_y hP).symm) ?_
      refine E_istore (pc := 45) 5 dX8_betterOf_45 (Nat.le_of_ble_eq_true rfl) rfl (lz := [_, _, _, _, _, _]) rfl ?_
      refine E_iload (pc := 47) 5 dX8_betterOf_47 rfl ?_
      refine E_iload_n (pc := 49) 3 dX8_betterOf_49 rfl rfl ?_
      refine E_icmp_le (pc := 50) 58 dX8_betterOf_50 rfl (fun q50 => ?_) (fun q50 => ?_)
      · have hl := bst_n q50
        refine E_iload_n (pc := 58) 2 dX8_betterOf_58 rfl rfl ?_
        refine E_istore_n (pc := 59) 2 dX8_betterOf_59 rfl (Nat.le_of_ble_eq_true rfl) rfl (lz := [_, _, _, _, _, _]) rfl ?_
        refine E_iload (pc := 60) 5 dX8_betterOf_60 rfl ?_
        refine E_iload_n (pc := 62) 3 dX8_betterOf_62 rfl rfl ?_
        refine E_icmp_le (pc := 63) 71 dX8_betterOf_63 rfl (fun q63 => ?_) (fun q63 => absurd q50 q63)
        refine E_iload_n (pc := 71) 3 dX8_betterOf_71 rfl rfl ?_
        refine E_istore_n (pc := 72) 3 dX8_betterOf_72 rfl (Nat.le_of_ble_eq_true rfl) rfl (lz := [_, _, _, _, _, _]) rfl ?_
        refine E_iincN (pc := 73) 4 dX8_betterOf_73 (Nat.le_of_ble_eq_true rfl) rfl rfl (lz := [_, _, _, _, _, _]) rfl ?_
        refine E_goto (pc := 76) 18 dX8_betterOf_76 rfl ?_
        refine E_drop 5 ?_
        rw [hl] at hn
        exact hn
      · have hl := bst_y q50
        refine E_iload (pc := 53) 4 dX8_betterOf_53 rfl ?_
        refine E_goto (pc := 55) 59 dX8_betterOf_55 rfl ?_
        refine E_istore_n (pc := 59) 2 dX8_betterOf_59 rfl (Nat.le_of_ble_eq_true rfl) rfl (lz := [_, _, _, _, _, _]) rfl ?_
        refine E_iload (pc := 60) 5 dX8_betterOf_60 rfl ?_
        refine E_iload_n (pc := 62) 3 dX8_betterOf_62 rfl rfl ?_
        refine E_icmp_le (pc := 63) 71 dX8_betterOf_63 rfl (fun q63 => absurd q63 q50) (fun q63 => ?_)
        refine E_iload (pc := 66) 5 dX8_betterOf_66 rfl ?_
        refine E_goto (pc := 68) 72 dX8_betterOf_68 rfl ?_
        refine E_istore_n (pc := 72) 3 dX8_betterOf_72 rfl (Nat.le_of_ble_eq_true rfl) rfl (lz := [_, _, _, _, _, _]) rfl ?_
        refine E_iincN (pc := 73) 4 dX8_betterOf_73 (Nat.le_of_ble_eq_true rfl) rfl rfl (lz := [_, _, _, _, _, _]) rfl ?_
        refine E_goto (pc := 76) 18 dX8_betterOf_76 rfl ?_
        refine E_drop 5 ?_
        rw [hl] at hn
        exact hn
set_option maxHeartbeats 1600000 in
theorem C_X8_better {l : Launch} {G : GE} {h : Hp} {w : Int32} (hI : MK h) : CT l G mX8_better [vR g_model 0, vI w] h (fun r h' => r = some (if isM h w then sBetter (h g_m_holds 0) (mN h (ixN w)) (ixN (h g_m_tenths 0 (ixN w))) (h g_m_feet 0 (ixN w)) else -1) ∧ h' = h) := by
  refine CT.of (lv := [_, _]) (by decide +kernel) (Nat.le_of_ble_eq_true rfl) rfl ?_
  refine E_aload_n (pc := 0) 0 dX8_better_0 rfl rfl ?_
  refine E_iload_n (pc := 1) 1 dX8_better_1 rfl rfl ?_
  refine E_callV1 (pc := 2) dX8_better_2 C_X8_isWay rfl kv_RX8_139 rfl rfl rfl ⟨Nat.le_of_ble_eq_true rfl, Nat.le_of_ble_eq_true rfl, Nat.le_of_ble_eq_true rfl, Nat.le_of_ble_eq_true rfl⟩ (Nat.le_of_ble_eq_true rfl) ?_
  refine E_if_eq (pc := 5) 16 dX8_better_5 rfl (fun q5 => ?_) (fun q5 => ?_)
  · have hg : ¬ isM h w := bi_0.mp q5
    rw [if_neg hg]
    refine E_iconst (pc := 16) (-1) dX8_better_16 (by decide) ?_
    refine E_iret (pc := 17) dX8_better_17 rfl ?_
    exact ⟨rfl, rfl⟩
  · have hg : isM h w := Decidable.of_not_not (fun z => q5 (bi_0.mpr z))
    obtain ⟨k, T, hk, ew, hT1, hT8, hT, e1, e2⟩ := isM_nat hI hg
    rw [if_pos hg, e2, e1]
    clear hg q5 e1 e2
    subst ew
    refine E_aload_n (pc := 8) 0 dX8_better_8 rfl rfl ?_
    refine E_iload_n (pc := 9) 1 dX8_better_9 rfl rfl ?_
    refine E_callV1 (pc := 10) dX8_better_10 (C_X8_betterOf hI.1 (hI.2.1 k (by omega)) hk hT hT1 hT8) rfl kv_RX8_225 rfl rfl rfl ⟨Nat.le_of_ble_eq_true rfl, Nat.le_of_ble_eq_true rfl, Nat.le_of_ble_eq_true rfl, Nat.le_of_ble_eq_true rfl⟩ (Nat.le_of_ble_eq_true rfl) ?_
    refine E_goto (pc := 13) 17 dX8_better_13 rfl ?_
    refine E_iret (pc := 17) dX8_better_17 rfl ?_
    exact ⟨rfl, rfl⟩
theorem cnt_skip {own : Int32} {f : Nat → Int32} {sg : Int32} {i : Nat} (h : f i = -1000 ∨ ¬ cmpI (f i) own = sg) : cntC own f sg (i + 1) = cntC own f sg i := if_neg (fun z => h.elim z.1 (fun y => y z.2))
theorem cnt_add {own : Int32} {f : Nat → Int32} {sg : Int32} {i : Nat} (h1 : ¬ f i = -1000) (h2 : cmpI (f i) own = sg) : cntC own f sg (i + 1) = cntC own f sg i + 1 := if_pos ⟨h1, h2⟩
set_option maxHeartbeats 1600000 in
theorem C_X8_around {l : Launch} {G : GE} {h : Hp} {w a : Int32} (hI : MK h) : CT l G mX8_around [vR g_model 0, vI w, vI a] h (fun r h' => r = some (if isM h w ∧ 0 ≤ a ∧ a ≤ 2 then nI (cntC (sWorth (h g_m_holds 0) (mN h (ixN w)) (ixN (h g_m_tenths 0 (ixN w))) (h g_m_feet 0 (ixN w))) (chgF (h g_m_holds 0) (mN h (ixN w)) (ixN (h g_m_tenths 0 (ixN w))) (h g_m_feet 0 (ixN w))) (if a = 2 then 1 else -a) 128) else -1) ∧ h' = h) := by
  refine CT.of (lv := [_, _, _, _, _, _, _]) (by decide +kernel) (Nat.le_of_ble_eq_true rfl) rfl ?_
  refine E_aload_n (pc := 0) 0 dX8_around_0 rfl rfl ?_
  refine E_iload_n (pc := 1) 1 dX8_around_1 rfl rfl ?_
  refine E_callV1 (pc := 2) dX8_around_2 C_X8_isWay rfl kv_RX8_139 rfl rfl rfl ⟨Nat.le_of_ble_eq_true rfl, Nat.le_of_ble_eq_true rfl, Nat.le_of_ble_eq_true rfl, Nat.le_of_ble_eq_true rfl⟩ (Nat.le_of_ble_eq_true rfl) ?_
  refine E_if_eq (pc := 5) 20 dX8_around_5 rfl (fun q5 => ?_) (fun q5 => ?_)
  · have hg : ¬ (isM h w ∧ 0 ≤ a ∧ a ≤ 2) := fun z => bi_0.mp q5 z.1
    refine E_iconst (pc := 20) (-1) dX8_around_20 (by decide) ?_
    refine E_iret (pc := 21) dX8_around_21 rfl ?_
    exact ⟨congrArg some (if_neg hg).symm, rfl⟩
  · refine E_iload_n (pc := 8) 2 dX8_around_8 rfl rfl ?_
    refine E_i2l (pc := 9) dX8_around_9 ?_
    refine E_lconst (pc := 10) (0) dX8_around_10 (by decide) ?_
    refine E_ldc2 (pc := 11) (2) dX8_around_11 kk_RX8_144 ?_
    refine E_callS1 (pc := 14) dX8_around_14 (C_X8_in (a := 0) (b := 2) (by decide) (by decide)) rfl ks_RX8_71 rfl ⟨Nat.le_of_ble_eq_true rfl, Nat.le_of_ble_eq_true rfl, Nat.le_of_ble_eq_true rfl, Nat.le_of_ble_eq_true rfl⟩ (Nat.le_of_ble_eq_true rfl) ?_
    refine E_if_ne (pc := 17) 22 dX8_around_17 rfl (fun q17 => ?_) (fun q17 => ?_)
    · have hg : isM h w := Decidable.of_not_not (fun z => q5 (bi_0.mpr z))
      have ha : 0 ≤ a ∧ a ≤ 2 := Decidable.of_not_not (fun z => q17 (bi_0.mpr z))
      obtain ⟨k, T, hk, ew, hT1, hT8, hT, e1, e2⟩ := isM_nat hI hg
      rw [if_pos ⟨hg, ha⟩, e2, e1]
      clear hg q5 e1 e2
      subst ew
      have hN := hI.2.1 k (by omega)
      obtain ⟨O, hO⟩ : ∃ O, O = sWorth (h g_m_holds 0) (mN h k) T (h g_m_feet 0 k) := ⟨_, rfl⟩
      obtain ⟨f, hf⟩ : ∃ f, f = chgF (h g_m_holds 0) (mN h k) T (h g_m_feet 0 k) := ⟨_, rfl⟩
      obtain ⟨sg, hsg⟩ : ∃ sg : Int32, sg = if a = 2 then 1 else -a := ⟨_, rfl⟩
      rw [← hO, ← hf, ← hsg]
      refine E_aload_n (pc := 22) 0 dX8_around_22 rfl rfl ?_
      refine E_iload_n (pc := 23) 1 dX8_around_23 rfl rfl ?_
      refine E_aload_n (pc := 24) 0 dX8_around_24 rfl rfl ?_
      refine E_getR0 (pc := 25) dX8_around_25 fl_RX8_40 rfl rfl ?_
      refine E_iload_n (pc := 28) 1 dX8_around_28 rfl rfl ?_
      refine E_iald (pc := 29) dX8_around_29 rfl (vp_in_nI (by omega) (by decide)) ?_
      refine E_top (y := h g_m_feet 0 k) (by rw [ixN_nI (by omega)]) ?_
      refine E_callV1 (pc := 30) dX8_around_30 (C_X8_worthOf hI.1 hN hk hT hT1 hT8) rfl kv_RX8_212 rfl rfl rfl ⟨Nat.le_of_ble_eq_true rfl, Nat.le_of_ble_eq_true rfl, Nat.le_of_ble_eq_true rfl, Nat.le_of_ble_eq_true rfl⟩ (Nat.le_of_ble_eq_true rfl) ?_
      refine E_top hO.symm ?_
      refine E_istore_n (pc := 33) 3 dX8_around_33 rfl (Nat.le_of_ble_eq_true rfl) rfl (lz := [_, _, _, _, _, _, _]) rfl ?_
      refine E_iconst (pc := 34) (0) dX8_around_34 (by decide) ?_
      refine E_istore (pc := 35) 4 dX8_around_35 (Nat.le_of_ble_eq_true rfl) rfl (lz := [_, _, _, _, _, _, _]) rfl ?_
      refine E_iconst (pc := 37) (0) dX8_around_37 (by decide) ?_
      refine E_istore (pc := 38) 5 dX8_around_38 (Nat.le_of_ble_eq_true rfl) rfl (lz := [_, _, _, _, _, _, _]) rfl ?_
      refine down (P := fun c => Ev l G mX8_around _ 40 [some (vR g_model 0), some (vI (nI k)), some (vI a), some (vI O), some (vI (nI (cntC O f sg c))), some (vI (nI c)), none] [] h) 128 ?_ ?_ 0 (Nat.zero_le _)
      · refine E_iload (pc := 40) 5 dX8_around_40 rfl ?_
        refine E_sipush (pc := 42) (128) dX8_around_42 (by decide) ?_
        refine E_icmp_ge (pc := 45) 118 dX8_around_45 rfl (fun q45 => ?_) (fun q45 => absurd (show (128 : Int32) ≤ 128 by decide) q45)
        refine E_iload (pc := 118) 4 dX8_around_118 rfl ?_
        refine E_iret (pc := 120) dX8_around_120 rfl ?_
        exact ⟨rfl, rfl⟩
      · intro c hc hn
        refine E_iload (pc := 40) 5 dX8_around_40 rfl ?_
        refine E_sipush (pc := 42) (128) dX8_around_42 (by decide) ?_
        refine E_icmp_ge (pc := 45) 118 dX8_around_45 rfl (fun q45 => absurd q45 (nI_ge (b := 128) hc (by decide))) (fun q45 => ?_)
        refine E_aload_n (pc := 48) 0 dX8_around_48 rfl rfl ?_
        refine E_iload_n (pc := 49) 1 dX8_around_49 rfl rfl ?_
        refine E_iload (pc := 50) 5 dX8_around_50 rfl ?_
        refine E_callV1 (pc := 52) dX8_around_52 (C_X8_changed hk hT hT8 hc) rfl kv_RX8_215 rfl rfl rfl ⟨Nat.le_of_ble_eq_true rfl, Nat.le_of_ble_eq_true rfl, Nat.le_of_ble_eq_true rfl, Nat.le_of_ble_eq_true rfl⟩ (Nat.le_of_ble_eq_true rfl) ?_
        refine E_bipush (pc := 55) (-4) dX8_around_55 (by decide) ?_
        refine E_icmp_eq (pc := 57) 112 dX8_around_57 rfl (fun q57 => ?_) (fun q57 => ?_)
        · have hP : ¬ chP (mN h k) T c := fun z => nI_ne4 (n := 64 * k + c / 2) (by omega) ((if_pos z).symm.trans q57)
          have hl := cnt_skip (own := O) (f := f) (sg := sg) (i := c) (Or.inl (by rw [hf]; exact chgF_n hP))
          try rw [hl] at hn
          refine E_iincN (pc := 112) 5 dX8_around_112 (Nat.le_of_ble_eq_true rfl) rfl rfl (lz := [_, _, _, _, _, _, _]) rfl ?_
          refine E_goto (pc := 115) 40 dX8_around_115 rfl ?_
          first | exact E_drop 6 hn | (rw [← hl] at hn; exact E_drop 6 hn)
        · have hP : chP (mN h k) T c := Decidable.of_not_not (fun z => q57 (if_neg z))
          have hf1 : ¬ f c = -1000 := by rw [hf, chgF_y hP]; intro z; have := sWorth_ge (h g_m_holds 0) (chN (mN h k) c) T (h g_m_feet 0 k); rw [z] at this; exact absurd this (by decide)
          refine E_aload_n (pc := 60) 0 dX8_around_60 rfl rfl ?_
          refine E_iload_n (pc := 61) 1 dX8_around_61 rfl rfl ?_
          refine E_iload (pc := 62) 5 dX8_around_62 rfl ?_
          refine E_callV1 (pc := 64) dX8_around_64 (C_X8_worthBy hI.1 hN hk hT hT1 hT8 hc hP) rfl kv_RX8_222 rfl rfl rfl ⟨Nat.le_of_ble_eq_true rfl, Nat.le_of_ble_eq_true rfl, Nat.le_of_ble_eq_true rfl, Nat.le_of_ble_eq_true rfl⟩ (Nat.le_of_ble_eq_true rfl) ?_
          refine E_top (y := f c) (by rw [hf]; exact (chgF_y hP).symm) ?_
          refine E_istore (pc := 67) 6 dX8_around_67 (Nat.le_of_ble_eq_true rfl) rfl (lz := [_, _, _, _, _, _, _]) rfl ?_
          refine E_iload (pc := 69) 4 dX8_around_69 rfl ?_
          refine E_iload_n (pc := 71) 2 dX8_around_71 rfl rfl ?_
          refine E_if_ne (pc := 72) 84 dX8_around_72 rfl (fun q72 => ?_) (fun q72 => ?_)
          · refine E_iload_n (pc := 84) 2 dX8_around_84 rfl rfl ?_
            refine E_iconst (pc := 85) (1) dX8_around_85 (by decide) ?_
            refine E_icmp_ne (pc := 86) 98 dX8_around_86 rfl (fun q86 => ?_) (fun q86 => ?_)
            · refine E_iload (pc := 98) 6 dX8_around_98 rfl ?_
              refine E_iload_n (pc := 100) 3 dX8_around_100 rfl rfl ?_
              refine E_icmp_le (pc := 101) 108 dX8_around_101 rfl (fun q101 => ?_) (fun q101 => ?_)
              · have hl := cnt_skip (own := O) (f := f) (sg := sg) (i := c) (Or.inr (by grind [cmpI]))
                refine E_iconst (pc := 108) (0) dX8_around_108 (by decide) ?_
                refine E_iadd (pc := 109) dX8_around_109 ?_
                refine E_top (y := nI (cntC O f sg (c + 1))) (by rw [hl]; first | (rw [nI_succ]; done) | (rw [Int32.add_zero]; done)) ?_
                refine E_istore (pc := 110) 4 dX8_around_110 (Nat.le_of_ble_eq_true rfl) rfl (lz := [_, _, _, _, _, _, _]) rfl ?_
                try rw [hl] at hn
                refine E_iincN (pc := 112) 5 dX8_around_112 (Nat.le_of_ble_eq_true rfl) rfl rfl (lz := [_, _, _, _, _, _, _]) rfl ?_
                refine E_goto (pc := 115) 40 dX8_around_115 rfl ?_
                first | exact E_drop 6 hn | (rw [← hl] at hn; exact E_drop 6 hn)
              · have hl := cnt_add (own := O) (f := f) (sg := sg) (i := c) hf1 (by grind [cmpI])
                refine E_iconst (pc := 104) (1) dX8_around_104 (by decide) ?_
                refine E_goto (pc := 105) 109 dX8_around_105 rfl ?_
                refine E_iadd (pc := 109) dX8_around_109 ?_
                refine E_top (y := nI (cntC O f sg (c + 1))) (by rw [hl]; first | (rw [nI_succ]; done) | (rw [Int32.add_zero]; done)) ?_
                refine E_istore (pc := 110) 4 dX8_around_110 (Nat.le_of_ble_eq_true rfl) rfl (lz := [_, _, _, _, _, _, _]) rfl ?_
                try rw [hl] at hn
                refine E_iincN (pc := 112) 5 dX8_around_112 (Nat.le_of_ble_eq_true rfl) rfl rfl (lz := [_, _, _, _, _, _, _]) rfl ?_
                refine E_goto (pc := 115) 40 dX8_around_115 rfl ?_
                first | exact E_drop 6 hn | (rw [← hl] at hn; exact E_drop 6 hn)
            · refine E_iload (pc := 89) 6 dX8_around_89 rfl ?_
              refine E_iload_n (pc := 91) 3 dX8_around_91 rfl rfl ?_
              refine E_icmp_ge (pc := 92) 108 dX8_around_92 rfl (fun q92 => ?_) (fun q92 => ?_)
              · have hl := cnt_skip (own := O) (f := f) (sg := sg) (i := c) (Or.inr (by grind [cmpI]))
                refine E_iconst (pc := 108) (0) dX8_around_108 (by decide) ?_
                refine E_iadd (pc := 109) dX8_around_109 ?_
                refine E_top (y := nI (cntC O f sg (c + 1))) (by rw [hl]; first | (rw [nI_succ]; done) | (rw [Int32.add_zero]; done)) ?_
                refine E_istore (pc := 110) 4 dX8_around_110 (Nat.le_of_ble_eq_true rfl) rfl (lz := [_, _, _, _, _, _, _]) rfl ?_
                try rw [hl] at hn
                refine E_iincN (pc := 112) 5 dX8_around_112 (Nat.le_of_ble_eq_true rfl) rfl rfl (lz := [_, _, _, _, _, _, _]) rfl ?_
                refine E_goto (pc := 115) 40 dX8_around_115 rfl ?_
                first | exact E_drop 6 hn | (rw [← hl] at hn; exact E_drop 6 hn)
              · have hl := cnt_add (own := O) (f := f) (sg := sg) (i := c) hf1 (by grind [cmpI])
                refine E_goto (pc := 95) 104 dX8_around_95 rfl ?_
                refine E_iconst (pc := 104) (1) dX8_around_104 (by decide) ?_
                refine E_goto (pc := 105) 109 dX8_around_105 rfl ?_
                refine E_iadd (pc := 109) dX8_around_109 ?_
                refine E_top (y := nI (cntC O f sg (c + 1))) (by rw [hl]; first | (rw [nI_succ]; done) | (rw [Int32.add_zero]; done)) ?_
                refine E_istore (pc := 110) 4 dX8_around_110 (Nat.le_of_ble_eq_true rfl) rfl (lz := [_, _, _, _, _, _, _]) rfl ?_
                try rw [hl] at hn
                refine E_iincN (pc := 112) 5 dX8_around_112 (Nat.le_of_ble_eq_true rfl) rfl rfl (lz := [_, _, _, _, _, _, _]) rfl ?_
                refine E_goto (pc := 115) 40 dX8_around_115 rfl ?_
                first | exact E_drop 6 hn | (rw [← hl] at hn; exact E_drop 6 hn)
          · refine E_iload (pc := 75) 6 dX8_around_75 rfl ?_
            refine E_iload_n (pc := 77) 3 dX8_around_77 rfl rfl ?_
            refine E_icmp_ne (pc := 78) 108 dX8_around_78 rfl (fun q78 => ?_) (fun q78 => ?_)
            · have hl := cnt_skip (own := O) (f := f) (sg := sg) (i := c) (Or.inr (by grind [cmpI]))
              refine E_iconst (pc := 108) (0) dX8_around_108 (by decide) ?_
              refine E_iadd (pc := 109) dX8_around_109 ?_
              refine E_top (y := nI (cntC O f sg (c + 1))) (by rw [hl]; first | (rw [nI_succ]; done) | (rw [Int32.add_zero]; done)) ?_
              refine E_istore (pc := 110) 4 dX8_around_110 (Nat.le_of_ble_eq_true rfl) rfl (lz := [_, _, _, _, _, _, _]) rfl ?_
              try rw [hl] at hn
              refine E_iincN (pc := 112) 5 dX8_around_112 (Nat.le_of_ble_eq_true rfl) rfl rfl (lz := [_, _, _, _, _, _, _]) rfl ?_
              refine E_goto (pc := 115) 40 dX8_around_115 rfl ?_
              first | exact E_drop 6 hn | (rw [← hl] at hn; exact E_drop 6 hn)
            · have hl := cnt_add (own := O) (f := f) (sg := sg) (i := c) hf1 (by grind [cmpI])
              refine E_goto (pc := 81) 104 dX8_around_81 rfl ?_
              refine E_iconst (pc := 104) (1) dX8_around_104 (by decide) ?_
              refine E_goto (pc := 105) 109 dX8_around_105 rfl ?_
              refine E_iadd (pc := 109) dX8_around_109 ?_
              refine E_top (y := nI (cntC O f sg (c + 1))) (by rw [hl]; first | (rw [nI_succ]; done) | (rw [Int32.add_zero]; done)) ?_
              refine E_istore (pc := 110) 4 dX8_around_110 (Nat.le_of_ble_eq_true rfl) rfl (lz := [_, _, _, _, _, _, _]) rfl ?_
              try rw [hl] at hn
              refine E_iincN (pc := 112) 5 dX8_around_112 (Nat.le_of_ble_eq_true rfl) rfl rfl (lz := [_, _, _, _, _, _, _]) rfl ?_
              refine E_goto (pc := 115) 40 dX8_around_115 rfl ?_
              first | exact E_drop 6 hn | (rw [← hl] at hn; exact E_drop 6 hn)
    · have hg : ¬ (isM h w ∧ 0 ≤ a ∧ a ≤ 2) := fun z => bi_0.mp q17 z.2
      refine E_iconst (pc := 20) (-1) dX8_around_20 (by decide) ?_
      refine E_iret (pc := 21) dX8_around_21 rfl ?_
      exact ⟨congrArg some (if_neg hg).symm, rfl⟩
