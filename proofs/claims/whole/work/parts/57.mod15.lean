/-! the model: years -/
theorem fed_a {by' : Nat → Int32} {h : Hp} {t L i a : Nat} (ha : a ≠ t) : fed by' h t L i a = h a := by
  funext b
  exact fed_t _ _ _ _ _ (fun z => ha (congrArg Prod.fst z))
theorem fed_i {by' : Nat → Int32} {h : Hp} {t i j : Nat} (hj : j < i) : fed by' h t 0 i t 0 j = by' j := by
  have := fed_in (by' := by') (h := h) (t := t) (L := 0) hj
  rw [Nat.zero_add] at this
  exact this
theorem fed_s0 (by' : Nat → Int32) (h : Hp) (t i : Nat) : hset (fed by' h t 0 i) t 0 i (by' i) = fed by' h t 0 (i + 1) := by
  have := fed_s by' h t 0 i
  rw [Nat.zero_add] at this
  exact this
theorem MG.same {h h' : Hp} {C S : Nat} (g : MG h C S) (e1 : h' g_model = h g_model) (e2 : h' g_m_holds = h g_m_holds) : MG h' C S := by
  unfold MG
  rw [e1, e2]
  exact g
set_option maxHeartbeats 1600000 in
theorem C_X8_oneYear {l : Launch} {G : GE} {h : Hp} {C S : Nat} (hG : MG h C S) (hr : rgS (h g_m_jumpers 0) C) (hw : wR (h g_m_worths 0)) : CT l G mX8_oneYear [vR g_model 0] h (fun r h' => r = none ∧ (∀ a, a ≠ g_m_then → a ≠ g_m_jumpers → h' a = h a) ∧ (∀ j, j < C → h' g_m_jumpers 0 j = yrF (h g_m_worths 0) C S (h g_m_holds 0 16) (h g_m_jumpers 0) j) ∧ ∀ j, ¬ j < C → h' g_m_jumpers 0 j = h g_m_jumpers 0 j) := by
  refine CT.of (lv := [_, _]) (by decide +kernel) (Nat.le_of_ble_eq_true rfl) rfl ?_
  obtain ⟨Y, hY⟩ : ∃ Y, Y = yrF (h g_m_worths 0) C S (h g_m_holds 0 16) (h g_m_jumpers 0) := ⟨_, rfl⟩
  rw [← hY]
  have hC12 := hG.2.1
  refine E_iconst (pc := 0) (0) dX8_oneYear_0 (by decide) ?_
  refine E_istore_n (pc := 1) 1 dX8_oneYear_1 rfl (Nat.le_of_ble_eq_true rfl) rfl (lz := [_, _]) rfl ?_
  refine E_heq (fed_0 Y h g_m_then 0).symm ?_
  refine down (P := fun i => Ev l G mX8_oneYear _ 2 [some (vR g_model 0), some (vI (nI i))] [] (fed Y h g_m_then 0 i)) C ?_ ?_ 0 (Nat.zero_le _)
  · refine E_iload_n (pc := 2) 1 dX8_oneYear_2 rfl rfl ?_
    refine E_aload_n (pc := 3) 0 dX8_oneYear_3 rfl rfl ?_
    refine E_getI (pc := 4) dX8_oneYear_4 fl_RX8_242 rfl rfl ?_
    refine E_top (y := nI C) (by rw [fed_a (by decide)]; exact hG.1) ?_
    refine E_icmp_ge (pc := 7) 27 dX8_oneYear_7 rfl (fun q7 => ?_) (fun q7 => absurd (Int32.le_refl _) q7)
    refine E_iconst (pc := 27) (0) dX8_oneYear_27 (by decide) ?_
    refine E_istore_n (pc := 28) 1 dX8_oneYear_28 rfl (Nat.le_of_ble_eq_true rfl) rfl (lz := [_, _]) rfl ?_
    refine E_heq (fed_0 Y (fed Y h g_m_then 0 C) g_m_jumpers 0).symm ?_
    refine down (P := fun i => Ev l G mX8_oneYear _ 29 [some (vR g_model 0), some (vI (nI i))] [] (fed Y (fed Y h g_m_then 0 C) g_m_jumpers 0 i)) C ?_ ?_ 0 (Nat.zero_le _)
    · refine E_iload_n (pc := 29) 1 dX8_oneYear_29 rfl rfl ?_
      refine E_aload_n (pc := 30) 0 dX8_oneYear_30 rfl rfl ?_
      refine E_getI (pc := 31) dX8_oneYear_31 fl_RX8_242 rfl rfl ?_
      refine E_top (y := nI C) (by rw [fed_a (by decide), fed_a (by decide)]; exact hG.1) ?_
      refine E_icmp_ge (pc := 34) 55 dX8_oneYear_34 rfl (fun q34 => ?_) (fun q34 => absurd (Int32.le_refl _) q34)
      refine E_vret (pc := 55) dX8_oneYear_55 rfl ?_
      exact ⟨rfl, fun a h1 h2 => by rw [fed_a h2, fed_a h1], fun j hj => fed_i hj, fun j hj => by rw [fed_at (by omega), fed_a (by decide)]⟩
    · intro i hi hn
      refine E_iload_n (pc := 29) 1 dX8_oneYear_29 rfl rfl ?_
      refine E_aload_n (pc := 30) 0 dX8_oneYear_30 rfl rfl ?_
      refine E_getI (pc := 31) dX8_oneYear_31 fl_RX8_242 rfl rfl ?_
      refine E_top (y := nI C) (by rw [fed_a (by decide), fed_a (by decide)]; exact hG.1) ?_
      refine E_icmp_ge (pc := 34) 55 dX8_oneYear_34 rfl (fun q34 => absurd q34 (nI_ge hi (by omega))) (fun q34 => ?_)
      refine E_aload_n (pc := 37) 0 dX8_oneYear_37 rfl rfl ?_
      refine E_getR0 (pc := 38) dX8_oneYear_38 fl_RX8_46 rfl rfl ?_
      refine E_iload_n (pc := 41) 1 dX8_oneYear_41 rfl rfl ?_
      refine E_aload_n (pc := 42) 0 dX8_oneYear_42 rfl rfl ?_
      refine E_getR0 (pc := 43) dX8_oneYear_43 fl_RX8_49 rfl rfl ?_
      refine E_iload_n (pc := 46) 1 dX8_oneYear_46 rfl rfl ?_
      refine E_iald (pc := 47) dX8_oneYear_47 rfl (vp_in_nI (by omega) (by decide)) ?_
      refine E_top (y := Y i) (by rw [ixN_nI (by omega), fed_a (by decide), fed_i hi]) ?_
      refine E_iast (pc := 48) dX8_oneYear_48 rfl (vp_in_nI (by omega) (by decide)) ?_
      refine E_iincN (pc := 49) 1 dX8_oneYear_49 (Nat.le_of_ble_eq_true rfl) rfl rfl (lz := [_, _]) rfl ?_
      refine E_goto (pc := 52) 29 dX8_oneYear_52 rfl ?_
      exact E_heq (by rw [ixN_nI (by omega)]; exact fed_s0 Y _ g_m_jumpers i) hn
  · intro i hi hn
    refine E_iload_n (pc := 2) 1 dX8_oneYear_2 rfl rfl ?_
    refine E_aload_n (pc := 3) 0 dX8_oneYear_3 rfl rfl ?_
    refine E_getI (pc := 4) dX8_oneYear_4 fl_RX8_242 rfl rfl ?_
    refine E_top (y := nI C) (by rw [fed_a (by decide)]; exact hG.1) ?_
    refine E_icmp_ge (pc := 7) 27 dX8_oneYear_7 rfl (fun q7 => absurd q7 (nI_ge hi (by omega))) (fun q7 => ?_)
    refine E_aload_n (pc := 10) 0 dX8_oneYear_10 rfl rfl ?_
    refine E_getR0 (pc := 11) dX8_oneYear_11 fl_RX8_49 rfl rfl ?_
    refine E_iload_n (pc := 14) 1 dX8_oneYear_14 rfl rfl ?_
    refine E_aload_n (pc := 15) 0 dX8_oneYear_15 rfl rfl ?_
    refine E_iload_n (pc := 16) 1 dX8_oneYear_16 rfl rfl ?_
    refine E_callV1 (pc := 17) dX8_oneYear_17 (C_X8_taken (C := C) (S := S) (hG.same (fed_a (by decide)) (fed_a (by decide))) (by rw [fed_a (by decide)]; exact hr) (by rw [fed_a (by decide)]; exact hw) hi) rfl kv_RX8_248 rfl rfl rfl ⟨Nat.le_of_ble_eq_true rfl, Nat.le_of_ble_eq_true rfl, Nat.le_of_ble_eq_true rfl, Nat.le_of_ble_eq_true rfl⟩ (Nat.le_of_ble_eq_true rfl) ?_
    refine E_top (y := Y i) (by rw [hY, fed_a (by decide), fed_a (by decide), fed_a (by decide)]) ?_
    refine E_iast (pc := 20) dX8_oneYear_20 rfl (vp_in_nI (by omega) (by decide)) ?_
    refine E_iincN (pc := 21) 1 dX8_oneYear_21 (Nat.le_of_ble_eq_true rfl) rfl rfl (lz := [_, _]) rfl ?_
    refine E_goto (pc := 24) 2 dX8_oneYear_24 rfl ?_
    exact E_heq (by rw [ixN_nI (by omega)]; exact fed_s0 Y h g_m_then i) hn
/-- what years touch -/
def KJ (h h' : Hp) : Prop := ∀ a, a ≠ g_m_worths → a ≠ g_m_before → a ≠ g_m_then → a ≠ g_m_jumpers → h' a = h a
/-- the heap when worths are laid and jumpers kept -/
def h9 (h : Hp) : Hp := fed (fed (mv h) h g_m_worths 0 6 g_m_jumpers 0) (fed (mv h) h g_m_worths 0 6) g_m_before 0 12
theorem h9_o {h : Hp} {a : Nat} (h1 : a ≠ g_m_worths) (h2 : a ≠ g_m_before) : h9 h a = h a := by unfold h9; rw [fed_a h2, fed_a h1]
theorem h9_w {h : Hp} : ∀ k, k < 6 → h9 h g_m_worths 0 k = mv h k := fun k hk => by unfold h9; rw [fed_a (by decide)]; exact fed_i hk
theorem h9_b {h : Hp} {j : Nat} (hj : j < 12) : h9 h g_m_before 0 j = h g_m_jumpers 0 j := by unfold h9; rw [fed_i hj, fed_a (by decide)]
theorem mvR {h : Hp} {f : Nat → Int32} (e : ∀ k, k < 6 → f k = mv h k) : wR f := fun k hk => by rw [e k hk]; exact mv_rg h k
/-- in the midst of years -/
def YI (h h2 : Hp) (C S : Nat) : Prop := KJ h h2 ∧ (∀ k, k < 6 → h2 g_m_worths 0 k = mv h k) ∧ (∀ j, j < 12 → h2 g_m_before 0 j = h g_m_jumpers 0 j) ∧ rgS (h2 g_m_jumpers 0) C ∧ MG h2 C S
theorem YI.yr {h h2 h4 : Hp} {C S : Nat} (g : YI h h2 C S) (t1 : ∀ a, a ≠ g_m_then → a ≠ g_m_jumpers → h4 a = h2 a) (t2 : ∀ j, j < C → h4 g_m_jumpers 0 j = yrF (h2 g_m_worths 0) C S (h2 g_m_holds 0 16) (h2 g_m_jumpers 0) j) : YI h h4 C S ∧ ∀ j, j < C → h4 g_m_jumpers 0 j = yrF (mv h) C S (h g_m_holds 0 16) (h2 g_m_jumpers 0) j := by
  have t3 : ∀ j, j < C → h4 g_m_jumpers 0 j = yrF (mv h) C S (h g_m_holds 0 16) (h2 g_m_jumpers 0) j := fun j hj => by
    rw [t2 j hj, g.1 g_m_holds (by decide) (by decide) (by decide) (by decide)]; exact yrF_congrF g.2.2.2.1 g.2.1 hj
  refine ⟨⟨fun a a1 a2 a3 a4 => by rw [t1 a a3 a4]; exact g.1 a a1 a2 a3 a4, fun k hk => by rw [t1 _ (by decide) (by decide)]; exact g.2.1 k hk, fun j hj => by rw [t1 _ (by decide) (by decide)]; exact g.2.2.1 j hj, fun j hj => by rw [t3 j hj]; exact yrF_rg g.2.2.2.1 j hj, g.2.2.2.2.same (t1 _ (by decide) (by decide)) (t1 _ (by decide) (by decide))⟩, t3⟩
theorem YI.st {h : Hp} {C S : Nat} (hG : MG h C S) (hr : rgS (h g_m_jumpers 0) C) : YI h (h9 h) C S :=
  ⟨fun a a1 a2 _ _ => h9_o a1 a2, h9_w, fun j hj => h9_b hj, by rw [h9_o (by decide) (by decide)]; exact hr, hG.same (h9_o (by decide) (by decide)) (h9_o (by decide) (by decide))⟩
theorem unF_congr2 {s s' s0 s0' : Nat → Int32} : ∀ j, (∀ i, i < j → s i = s' i) → (∀ i, i < j → s0 i = s0' i) → unF s s0 j = unF s' s0' j
  | 0, _, _ => rfl
  | j + 1, e, e2 => by
    unfold unF
    rw [unF_congr2 j (fun i hi => e i (Nat.lt_succ_of_lt hi)) (fun i hi => e2 i (Nat.lt_succ_of_lt hi)), e j (Nat.lt_succ_self j), e2 j (Nat.lt_succ_self j)]
set_option maxHeartbeats 1600000 in
theorem C_X8_years {l : Launch} {G : GE} {h : Hp} {n : Int32} {C S : Nat} (hI : MK h) (hG : MG h C S) (hr : rgS (h g_m_jumpers 0) C) : CT l G mX8_years [vR g_model 0, vI n] h (fun r h' => if 1 ≤ n ∧ n ≤ 20 then r = some (unF (yrN (mv h) C S (h g_m_holds 0 16) (ixN n) (h g_m_jumpers 0)) (h g_m_jumpers 0) C) ∧ KJ h h' ∧ ∀ j, j < C → h' g_m_jumpers 0 j = yrN (mv h) C S (h g_m_holds 0 16) (ixN n) (h g_m_jumpers 0) j else r = some (-1) ∧ h' = h) := by
  refine CT.of (lv := [_, _, _, _]) (by decide +kernel) (Nat.le_of_ble_eq_true rfl) rfl ?_
  refine E_iload_n (pc := 0) 1 dX8_years_0 rfl rfl ?_
  refine E_i2l (pc := 1) dX8_years_1 ?_
  refine E_lconst (pc := 2) (1) dX8_years_2 (by decide) ?_
  refine E_ldc2 (pc := 3) (20) dX8_years_3 kk_RX8_236 ?_
  refine E_callS1 (pc := 6) dX8_years_6 (C_X8_in (a := 1) (b := 20) (by decide) (by decide)) rfl ks_RX8_71 rfl ⟨Nat.le_of_ble_eq_true rfl, Nat.le_of_ble_eq_true rfl, Nat.le_of_ble_eq_true rfl, Nat.le_of_ble_eq_true rfl⟩ (Nat.le_of_ble_eq_true rfl) ?_
  refine E_if_ne (pc := 9) 14 dX8_years_9 rfl (fun q9 => ?_) (fun q9 => ?_)
  · have hn : 1 ≤ n ∧ n ≤ 20 := Decidable.of_not_not (fun z => q9 (bi_0.mpr z))
    obtain ⟨m, hm, en⟩ := natof (x := n) 20 (by decide) (Int32.le_trans (by decide) hn.1) hn.2
    simp only [if_pos hn]
    clear hn q9
    subst en
    rw [ixN_nI (show m < 2 ^ 31 by omega)]
    have hC12 := hG.2.1
    refine E_aload_n (pc := 14) 0 dX8_years_14 rfl rfl ?_
    refine E_callV0 (pc := 15) dX8_years_15 (C_X8_layWorths hI) rfl kv_RX8_251 rfl rfl rfl ⟨Nat.le_of_ble_eq_true rfl, Nat.le_of_ble_eq_true rfl, Nat.le_of_ble_eq_true rfl, Nat.le_of_ble_eq_true rfl⟩ (Nat.le_of_ble_eq_true rfl) ?_
    refine E_aload_n (pc := 18) 0 dX8_years_18 rfl rfl ?_
    refine E_callV0 (pc := 19) dX8_years_19 C_X8_keepJumpers rfl kv_RX8_254 rfl rfl rfl ⟨Nat.le_of_ble_eq_true rfl, Nat.le_of_ble_eq_true rfl, Nat.le_of_ble_eq_true rfl, Nat.le_of_ble_eq_true rfl⟩ (Nat.le_of_ble_eq_true rfl) ?_
    refine E_iconst (pc := 22) (0) dX8_years_22 (by decide) ?_
    refine E_istore_n (pc := 23) 2 dX8_years_23 rfl (Nat.le_of_ble_eq_true rfl) rfl (lz := [_, _, _, _]) rfl ?_
    refine E_heq (h' := h9 h) rfl ?_
    refine down (P := fun i => ∀ h2, YI h h2 C S → (∀ j, j < C → yrN (mv h) C S (h g_m_holds 0 16) (m - i) (h2 g_m_jumpers 0) j = yrN (mv h) C S (h g_m_holds 0 16) m (h g_m_jumpers 0) j) → Ev l G mX8_years _ 24 [some (vR g_model 0), some (vI (nI m)), some (vI (nI i)), none] [] h2) m ?_ ?_ 0 (Nat.zero_le _) (h9 h) (YI.st hG hr) (fun j hj => by rw [h9_o (by decide) (by decide)]; rfl)
    · intro h2 yi hy
      rw [Nat.sub_self] at hy
      refine E_iload_n (pc := 24) 2 dX8_years_24 rfl rfl ?_
      refine E_iload_n (pc := 25) 1 dX8_years_25 rfl rfl ?_
      refine E_icmp_ge (pc := 26) 39 dX8_years_26 rfl (fun q26 => ?_) (fun q26 => absurd (Int32.le_refl _) q26)
      refine E_iconst (pc := 39) (0) dX8_years_39 (by decide) ?_
      refine E_istore_n (pc := 40) 2 dX8_years_40 rfl (Nat.le_of_ble_eq_true rfl) rfl (lz := [_, _, _, _]) rfl ?_
      refine E_iconst (pc := 41) (0) dX8_years_41 (by decide) ?_
      refine E_istore_n (pc := 42) 3 dX8_years_42 rfl (Nat.le_of_ble_eq_true rfl) rfl (lz := [_, _, _, _]) rfl ?_
      refine down (P := fun i => Ev l G mX8_years _ 43 [some (vR g_model 0), some (vI (nI m)), some (vI (unF (h2 g_m_jumpers 0) (h g_m_jumpers 0) i)), some (vI (nI i))] [] h2) C ?_ ?_ 0 (Nat.zero_le _)
      · refine E_iload_n (pc := 43) 3 dX8_years_43 rfl rfl ?_
        refine E_aload_n (pc := 44) 0 dX8_years_44 rfl rfl ?_
        refine E_getI (pc := 45) dX8_years_45 fl_RX8_242 rfl rfl ?_
        refine E_top (y := nI C) yi.2.2.2.2.1 ?_
        refine E_icmp_ge (pc := 48) 82 dX8_years_48 rfl (fun q48 => ?_) (fun q48 => absurd (Int32.le_refl _) q48)
        refine E_iload_n (pc := 82) 2 dX8_years_82 rfl rfl ?_
        refine E_iret (pc := 83) dX8_years_83 rfl ?_
        exact ⟨congrArg some (unF_congr C hy), yi.1, hy⟩
      · intro i hi hn
        refine E_iload_n (pc := 43) 3 dX8_years_43 rfl rfl ?_
        refine E_aload_n (pc := 44) 0 dX8_years_44 rfl rfl ?_
        refine E_getI (pc := 45) dX8_years_45 fl_RX8_242 rfl rfl ?_
        refine E_top (y := nI C) yi.2.2.2.2.1 ?_
        refine E_icmp_ge (pc := 48) 82 dX8_years_48 rfl (fun q48 => absurd q48 (nI_ge hi (by omega))) (fun q48 => ?_)
        refine E_iload_n (pc := 51) 2 dX8_years_51 rfl rfl ?_
        refine E_aload_n (pc := 52) 0 dX8_years_52 rfl rfl ?_
        refine E_getR0 (pc := 53) dX8_years_53 fl_RX8_46 rfl rfl ?_
        refine E_iload_n (pc := 56) 3 dX8_years_56 rfl rfl ?_
        refine E_iald (pc := 57) dX8_years_57 rfl (vp_in_nI (by omega) (by decide)) ?_
        refine E_aload_n (pc := 58) 0 dX8_years_58 rfl rfl ?_
        refine E_getR0 (pc := 59) dX8_years_59 fl_RX8_52 rfl rfl ?_
        refine E_iload_n (pc := 62) 3 dX8_years_62 rfl rfl ?_
        refine E_iald (pc := 63) dX8_years_63 rfl (vp_in_nI (by omega) (by decide)) ?_
        refine E_eq (st' := [vI (h g_m_jumpers 0 i), vI (h2 g_m_jumpers 0 i), vI (unF (h2 g_m_jumpers 0) (h g_m_jumpers 0) i)]) rfl (by rw [ixN_nI (by omega), yi.2.2.1 i (by omega)]) rfl ?_
        refine E_icmp_eq (pc := 64) 73 dX8_years_64 rfl (fun q64 => ?_) (fun q64 => ?_)
        · have hl : unF (h2 g_m_jumpers 0) (h g_m_jumpers 0) (i + 1) = unF (h2 g_m_jumpers 0) (h g_m_jumpers 0) i := if_pos q64
          refine E_iconst (pc := 73) (0) dX8_years_73 (by decide) ?_
          refine E_ior (pc := 74) dX8_years_74 ?_
          refine E_top (y := unF (h2 g_m_jumpers 0) (h g_m_jumpers 0) (i + 1)) (by rw [hl]; first | done | exact Int32.or_zero) ?_
          refine E_istore_n (pc := 75) 2 dX8_years_75 rfl (Nat.le_of_ble_eq_true rfl) rfl (lz := [_, _, _, _]) rfl ?_
          refine E_iincN (pc := 76) 3 dX8_years_76 (Nat.le_of_ble_eq_true rfl) rfl rfl (lz := [_, _, _, _]) rfl ?_
          refine E_goto (pc := 79) 43 dX8_years_79 rfl ?_
          exact hn
        · have hl : unF (h2 g_m_jumpers 0) (h g_m_jumpers 0) (i + 1) = unF (h2 g_m_jumpers 0) (h g_m_jumpers 0) i ||| (1 <<< (nI i &&& 31)) := if_neg q64
          refine E_iconst (pc := 67) (1) dX8_years_67 (by decide) ?_
          refine E_iload_n (pc := 68) 3 dX8_years_68 rfl rfl ?_
          refine E_ishl (pc := 69) dX8_years_69 ?_
          refine E_goto (pc := 70) 74 dX8_years_70 rfl ?_
          refine E_ior (pc := 74) dX8_years_74 ?_
          refine E_top (y := unF (h2 g_m_jumpers 0) (h g_m_jumpers 0) (i + 1)) (by rw [hl]; first | done | exact Int32.or_zero) ?_
          refine E_istore_n (pc := 75) 2 dX8_years_75 rfl (Nat.le_of_ble_eq_true rfl) rfl (lz := [_, _, _, _]) rfl ?_
          refine E_iincN (pc := 76) 3 dX8_years_76 (Nat.le_of_ble_eq_true rfl) rfl rfl (lz := [_, _, _, _]) rfl ?_
          refine E_goto (pc := 79) 43 dX8_years_79 rfl ?_
          exact hn
    · intro i hi hn h2 yi hy
      rw [show m - i = (m - (i + 1)) + 1 by omega] at hy
      refine E_iload_n (pc := 24) 2 dX8_years_24 rfl rfl ?_
      refine E_iload_n (pc := 25) 1 dX8_years_25 rfl rfl ?_
      refine E_icmp_ge (pc := 26) 39 dX8_years_26 rfl (fun q26 => absurd q26 (nI_ge hi (by omega))) (fun q26 => ?_)
      refine E_aload_n (pc := 29) 0 dX8_years_29 rfl rfl ?_
      refine E_callV (pc := 30) dX8_years_30 (C_X8_oneYear (C := C) (S := S) yi.2.2.2.2 yi.2.2.2.1 (mvR yi.2.1)) rfl kv_RX8_257 rfl rfl rfl ⟨Nat.le_of_ble_eq_true rfl, Nat.le_of_ble_eq_true rfl, Nat.le_of_ble_eq_true rfl, Nat.le_of_ble_eq_true rfl⟩ (Nat.le_of_ble_eq_true rfl) ?_
      rintro _ h4 ⟨rfl, t1, t2, _⟩
      refine E_iincN (pc := 33) 2 dX8_years_33 (Nat.le_of_ble_eq_true rfl) rfl rfl (lz := [_, _, _, _]) rfl ?_
      refine E_goto (pc := 36) 24 dX8_years_36 rfl ?_
      exact hn h4 (yi.yr t1 t2).1 (fun j hj => by rw [← hy j hj]; exact yrN_congr _ (yi.yr t1 t2).2 j hj)
  · refine E_iconst (pc := 12) (-1) dX8_years_12 (by decide) ?_
    refine E_iret (pc := 13) dX8_years_13 rfl ?_
    rw [if_neg (bi_0.mp q9)]
    exact ⟨rfl, rfl⟩
set_option maxHeartbeats 1600000 in
theorem C_X8_who {l : Launch} {G : GE} {h : Hp} {w : Int32} {C S : Nat} (hG : MG h C S) : CT l G mX8_who [vR g_model 0, vI w] h (fun r h' => r = some (if 0 ≤ w ∧ w ≤ 5 then nI (cntW (h g_m_jumpers 0) w C) else -1) ∧ h' = h) := by
  refine CT.of (lv := [_, _]) (by decide +kernel) (Nat.le_of_ble_eq_true rfl) rfl ?_
  refine E_iload_n (pc := 0) 1 dX8_who_0 rfl rfl ?_
  refine E_callS1 (pc := 1) dX8_who_1 C_X8_isNumber rfl ks_RX8_135 rfl ⟨Nat.le_of_ble_eq_true rfl, Nat.le_of_ble_eq_true rfl, Nat.le_of_ble_eq_true rfl, Nat.le_of_ble_eq_true rfl⟩ (Nat.le_of_ble_eq_true rfl) ?_
  refine E_if_eq (pc := 4) 15 dX8_who_4 rfl (fun q4 => ?_) (fun q4 => ?_)
  · refine E_iconst (pc := 15) (-1) dX8_who_15 (by decide) ?_
    refine E_iret (pc := 16) dX8_who_16 rfl ?_
    first | exact ⟨by rw [if_neg (bi_0.mp q4)], rfl⟩ | exact ⟨by rw [if_pos (Decidable.of_not_not (fun z => q4 (bi_0.mpr z)))], rfl⟩
  · refine E_aload_n (pc := 7) 0 dX8_who_7 rfl rfl ?_
    refine E_iload_n (pc := 8) 1 dX8_who_8 rfl rfl ?_
    refine E_callV1 (pc := 9) dX8_who_9 (C_X8_haveWay hG.1 hG.2.1) rfl kv_RX8_260 rfl rfl rfl ⟨Nat.le_of_ble_eq_true rfl, Nat.le_of_ble_eq_true rfl, Nat.le_of_ble_eq_true rfl, Nat.le_of_ble_eq_true rfl⟩ (Nat.le_of_ble_eq_true rfl) ?_
    refine E_goto (pc := 12) 16 dX8_who_12 rfl ?_
    refine E_iret (pc := 16) dX8_who_16 rfl ?_
    first | exact ⟨by rw [if_neg (bi_0.mp q4)], rfl⟩ | exact ⟨by rw [if_pos (Decidable.of_not_not (fun z => q4 (bi_0.mpr z)))], rfl⟩
theorem alF_y {f : Nat → Int32} {C S n y : Nat} {habit : Int32} {s : Nat → Int32} (h : cntW s (s 0) C = C) : alF f C S habit (n + 1) y s = nI y := if_pos h
theorem alF_n {f : Nat → Int32} {C S n y : Nat} {habit : Int32} {s : Nat → Int32} (h : ¬ cntW s (s 0) C = C) : alF f C S habit (n + 1) y s = alF f C S habit n (y + 1) (yrF f C S habit s) := if_neg h
set_option maxHeartbeats 1600000 in
theorem C_X8_all {l : Launch} {G : GE} {h : Hp} {C S : Nat} (hI : MK h) (hG : MG h C S) (hr : rgS (h g_m_jumpers 0) C) : CT l G mX8_all [vR g_model 0] h (fun r h' => r = some (if C = 0 then -2 else alF (mv h) C S (h g_m_holds 0 16) 41 0 (h g_m_jumpers 0)) ∧ KJ h h' ∧ ∀ j, j < 12 → h' g_m_jumpers 0 j = h g_m_jumpers 0 j) := by
  refine CT.of (lv := [_, _]) (by decide +kernel) (Nat.le_of_ble_eq_true rfl) rfl ?_
  have hC12 := hG.2.1
  refine E_aload_n (pc := 0) 0 dX8_all_0 rfl rfl ?_
  refine E_getI (pc := 1) dX8_all_1 fl_RX8_242 rfl rfl ?_
  refine E_top (y := nI C) hG.1 ?_
  refine E_if_ne (pc := 4) 10 dX8_all_4 rfl (fun q4 => ?_) (fun q4 => ?_)
  · have hC0 : ¬ C = 0 := fun z => q4 (by rw [z]; rfl)
    rw [if_neg hC0]
    refine E_aload_n (pc := 10) 0 dX8_all_10 rfl rfl ?_
    refine E_callV0 (pc := 11) dX8_all_11 (C_X8_layWorths hI) rfl kv_RX8_251 rfl rfl rfl ⟨Nat.le_of_ble_eq_true rfl, Nat.le_of_ble_eq_true rfl, Nat.le_of_ble_eq_true rfl, Nat.le_of_ble_eq_true rfl⟩ (Nat.le_of_ble_eq_true rfl) ?_
    refine E_aload_n (pc := 14) 0 dX8_all_14 rfl rfl ?_
    refine E_callV0 (pc := 15) dX8_all_15 C_X8_keepJumpers rfl kv_RX8_254 rfl rfl rfl ⟨Nat.le_of_ble_eq_true rfl, Nat.le_of_ble_eq_true rfl, Nat.le_of_ble_eq_true rfl, Nat.le_of_ble_eq_true rfl⟩ (Nat.le_of_ble_eq_true rfl) ?_
    refine E_iconst (pc := 18) (0) dX8_all_18 (by decide) ?_
    refine E_istore_n (pc := 19) 1 dX8_all_19 rfl (Nat.le_of_ble_eq_true rfl) rfl (lz := [_, _]) rfl ?_
    refine E_heq (h' := h9 h) rfl ?_
    refine down (P := fun i => ∀ h2, YI h h2 C S → alF (mv h) C S (h g_m_holds 0 16) (41 - i) i (h2 g_m_jumpers 0) = alF (mv h) C S (h g_m_holds 0 16) 41 0 (h g_m_jumpers 0) → Ev l G mX8_all _ 20 [some (vR g_model 0), some (vI (nI i))] [] h2) 41 ?_ ?_ 0 (Nat.zero_le _) (h9 h) (YI.st hG hr) (by rw [h9_o (by decide) (by decide)])
    · intro h2 yi hy
      refine E_aload_n (pc := 20) 0 dX8_all_20 rfl rfl ?_
      refine E_aload_n (pc := 21) 0 dX8_all_21 rfl rfl ?_
      refine E_getR0 (pc := 22) dX8_all_22 fl_RX8_46 rfl rfl ?_
      refine E_iconst (pc := 25) (0) dX8_all_25 (by decide) ?_
      refine E_iald (pc := 26) dX8_all_26 rfl (by unfold vp_in; decide) ?_
      refine E_callV1 (pc := 27) dX8_all_27 (C_X8_haveWay yi.2.2.2.2.1 hC12) rfl kv_RX8_260 rfl rfl rfl ⟨Nat.le_of_ble_eq_true rfl, Nat.le_of_ble_eq_true rfl, Nat.le_of_ble_eq_true rfl, Nat.le_of_ble_eq_true rfl⟩ (Nat.le_of_ble_eq_true rfl) ?_
      refine E_aload_n (pc := 30) 0 dX8_all_30 rfl rfl ?_
      refine E_getI (pc := 31) dX8_all_31 fl_RX8_242 rfl rfl ?_
      refine E_icmp_ge (pc := 34) 53 dX8_all_34 rfl (fun q34 => ?_) (fun q34 => ?_)
      · refine E_aload_n (pc := 53) 0 dX8_all_53 rfl rfl ?_
        refine E_callV0 (pc := 54) dX8_all_54 C_X8_jumpersBack rfl kv_RX8_263 rfl rfl rfl ⟨Nat.le_of_ble_eq_true rfl, Nat.le_of_ble_eq_true rfl, Nat.le_of_ble_eq_true rfl, Nat.le_of_ble_eq_true rfl⟩ (Nat.le_of_ble_eq_true rfl) ?_
        refine E_iload_n (pc := 57) 1 dX8_all_57 rfl rfl ?_
        refine E_bipush (pc := 58) (40) dX8_all_58 (by decide) ?_
        refine E_icmp_le (pc := 60) 68 dX8_all_60 rfl (fun q60 => absurd q60 (show ¬ (41 : Int32) ≤ 40 by decide)) (fun q60 => ?_)
        refine E_bipush (pc := 63) (-4) dX8_all_63 (by decide) ?_
        refine E_goto (pc := 65) 69 dX8_all_65 rfl ?_
        refine E_iret (pc := 69) dX8_all_69 rfl ?_
        exact ⟨congrArg some hy, fun a a1 a2 a3 a4 => by rw [fed_a a4]; exact yi.1 a a1 a2 a3 a4, fun j hj => by rw [fed_i hj]; exact yi.2.2.1 j hj⟩
      · refine E_iload_n (pc := 37) 1 dX8_all_37 rfl rfl ?_
        refine E_bipush (pc := 38) (40) dX8_all_38 (by decide) ?_
        refine E_icmp_gt (pc := 40) 53 dX8_all_40 rfl (fun q40 => ?_) (fun q40 => absurd (show (40 : Int32) < 41 by decide) q40)
        refine E_aload_n (pc := 53) 0 dX8_all_53 rfl rfl ?_
        refine E_callV0 (pc := 54) dX8_all_54 C_X8_jumpersBack rfl kv_RX8_263 rfl rfl rfl ⟨Nat.le_of_ble_eq_true rfl, Nat.le_of_ble_eq_true rfl, Nat.le_of_ble_eq_true rfl, Nat.le_of_ble_eq_true rfl⟩ (Nat.le_of_ble_eq_true rfl) ?_
        refine E_iload_n (pc := 57) 1 dX8_all_57 rfl rfl ?_
        refine E_bipush (pc := 58) (40) dX8_all_58 (by decide) ?_
        refine E_icmp_le (pc := 60) 68 dX8_all_60 rfl (fun q60 => absurd q60 (show ¬ (41 : Int32) ≤ 40 by decide)) (fun q60 => ?_)
        refine E_bipush (pc := 63) (-4) dX8_all_63 (by decide) ?_
        refine E_goto (pc := 65) 69 dX8_all_65 rfl ?_
        refine E_iret (pc := 69) dX8_all_69 rfl ?_
        exact ⟨congrArg some hy, fun a a1 a2 a3 a4 => by rw [fed_a a4]; exact yi.1 a a1 a2 a3 a4, fun j hj => by rw [fed_i hj]; exact yi.2.2.1 j hj⟩
    · intro i hi hn h2 yi hy
      rw [show 41 - i = (41 - (i + 1)) + 1 by omega] at hy
      refine E_aload_n (pc := 20) 0 dX8_all_20 rfl rfl ?_
      refine E_aload_n (pc := 21) 0 dX8_all_21 rfl rfl ?_
      refine E_getR0 (pc := 22) dX8_all_22 fl_RX8_46 rfl rfl ?_
      refine E_iconst (pc := 25) (0) dX8_all_25 (by decide) ?_
      refine E_iald (pc := 26) dX8_all_26 rfl (by unfold vp_in; decide) ?_
      refine E_callV1 (pc := 27) dX8_all_27 (C_X8_haveWay yi.2.2.2.2.1 hC12) rfl kv_RX8_260 rfl rfl rfl ⟨Nat.le_of_ble_eq_true rfl, Nat.le_of_ble_eq_true rfl, Nat.le_of_ble_eq_true rfl, Nat.le_of_ble_eq_true rfl⟩ (Nat.le_of_ble_eq_true rfl) ?_
      refine E_aload_n (pc := 30) 0 dX8_all_30 rfl rfl ?_
      refine E_getI (pc := 31) dX8_all_31 fl_RX8_242 rfl rfl ?_
      refine E_eq (st' := [vI (nI C), vI (nI (cntW (h2 g_m_jumpers 0) (h2 g_m_jumpers 0 0) C))]) rfl (by rw [yi.2.2.2.2.1]; rfl) rfl ?_
      refine E_icmp_ge (pc := 34) 53 dX8_all_34 rfl (fun q34 => ?_) (fun q34 => ?_)
      · have hq : cntW (h2 g_m_jumpers 0) (h2 g_m_jumpers 0 0) C = C := by have h1 := cntW_le (h2 g_m_jumpers 0) (h2 g_m_jumpers 0 0) C; have h3 := (nI_leI (by omega) (by omega)).mp q34; omega
        rw [alF_y hq] at hy
        refine E_aload_n (pc := 53) 0 dX8_all_53 rfl rfl ?_
        refine E_callV0 (pc := 54) dX8_all_54 C_X8_jumpersBack rfl kv_RX8_263 rfl rfl rfl ⟨Nat.le_of_ble_eq_true rfl, Nat.le_of_ble_eq_true rfl, Nat.le_of_ble_eq_true rfl, Nat.le_of_ble_eq_true rfl⟩ (Nat.le_of_ble_eq_true rfl) ?_
        refine E_iload_n (pc := 57) 1 dX8_all_57 rfl rfl ?_
        refine E_bipush (pc := 58) (40) dX8_all_58 (by decide) ?_
        refine E_icmp_le (pc := 60) 68 dX8_all_60 rfl (fun q60 => ?_) (fun q60 => absurd (nI_le (a := i) (b := 40) (by omega) (by decide)) q60)
        refine E_iload_n (pc := 68) 1 dX8_all_68 rfl rfl ?_
        refine E_iret (pc := 69) dX8_all_69 rfl ?_
        exact ⟨congrArg some hy, fun a a1 a2 a3 a4 => by rw [fed_a a4]; exact yi.1 a a1 a2 a3 a4, fun j hj => by rw [fed_i hj]; exact yi.2.2.1 j hj⟩
      · have hq : ¬ cntW (h2 g_m_jumpers 0) (h2 g_m_jumpers 0 0) C = C := fun z => q34 (by rw [z]; exact Int32.le_refl _)
        rw [alF_n hq] at hy
        refine E_iload_n (pc := 37) 1 dX8_all_37 rfl rfl ?_
        refine E_bipush (pc := 38) (40) dX8_all_38 (by decide) ?_
        refine E_icmp_gt (pc := 40) 53 dX8_all_40 rfl (fun q40 => absurd q40 (nI_nlt (a := 40) (b := i) (by omega) (by decide))) (fun q40 => ?_)
        refine E_aload_n (pc := 43) 0 dX8_all_43 rfl rfl ?_
        refine E_callV (pc := 44) dX8_all_44 (C_X8_oneYear (C := C) (S := S) yi.2.2.2.2 yi.2.2.2.1 (mvR yi.2.1)) rfl kv_RX8_257 rfl rfl rfl ⟨Nat.le_of_ble_eq_true rfl, Nat.le_of_ble_eq_true rfl, Nat.le_of_ble_eq_true rfl, Nat.le_of_ble_eq_true rfl⟩ (Nat.le_of_ble_eq_true rfl) ?_
        rintro _ h4 ⟨rfl, t1, t2, _⟩
        refine E_iincN (pc := 47) 1 dX8_all_47 (Nat.le_of_ble_eq_true rfl) rfl rfl (lz := [_, _]) rfl ?_
        refine E_goto (pc := 50) 20 dX8_all_50 rfl ?_
        exact hn h4 (yi.yr t1 t2).1 ((alF_congr (by omega) _ _ (yi.yr t1 t2).2).trans hy)
  · have hC0 : C = 0 := (nI_eq (b := 0) (by omega) (by decide)).mp q4
    refine E_bipush (pc := 7) (-2) dX8_all_7 (by decide) ?_
    refine E_iret (pc := 9) dX8_all_9 rfl ?_
    exact ⟨congrArg some (if_pos hC0).symm, fun _ _ _ _ _ => rfl, fun _ _ => rfl⟩
