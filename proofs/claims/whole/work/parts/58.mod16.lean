/-! the model: odd, pays, odds, asks -/
set_option maxHeartbeats 1600000 in
theorem C_X8_odd {l : Launch} {G : GE} {h : Hp} {j w n : Int32} {C S : Nat} (hI : MK h) (hG : MG h C S) (hr : rgS (h g_m_jumpers 0) C) : CT l G mX8_odd [vR g_model 0, vI j, vI w, vI n] h (fun r h' => r = some (if (0 ≤ j ∧ j ≤ nI C - 1) ∧ (0 ≤ w ∧ w ≤ 5) ∧ 0 ≤ n ∧ n ≤ 20 then nI (cntW (yrN (mv h) C S (h g_m_holds 0 16) (ixN n) (upd (h g_m_jumpers 0) (ixN j) w)) w C) else -1) ∧ KJ h h' ∧ ∀ j, j < 12 → h' g_m_jumpers 0 j = h g_m_jumpers 0 j) := by
  refine CT.of (lv := [_, _, _, _, _]) (by decide +kernel) (Nat.le_of_ble_eq_true rfl) rfl ?_
  have hC12 := hG.2.1
  refine E_aload_n (pc := 0) 0 dX8_odd_0 rfl rfl ?_
  refine E_iload_n (pc := 1) 1 dX8_odd_1 rfl rfl ?_
  refine E_callV1 (pc := 2) dX8_odd_2 C_X8_isJumper rfl kv_RX8_245 rfl rfl rfl ⟨Nat.le_of_ble_eq_true rfl, Nat.le_of_ble_eq_true rfl, Nat.le_of_ble_eq_true rfl, Nat.le_of_ble_eq_true rfl⟩ (Nat.le_of_ble_eq_true rfl) ?_
  refine E_top (y := bi (0 ≤ j ∧ j ≤ nI C - 1)) (by rw [hG.1]) ?_
  refine E_if_eq (pc := 5) 27 dX8_odd_5 rfl (fun q5 => ?_) (fun q5 => ?_)
  · have hg : ¬ ((0 ≤ j ∧ j ≤ nI C - 1) ∧ (0 ≤ w ∧ w ≤ 5) ∧ 0 ≤ n ∧ n ≤ 20) := fun z => bi_0.mp q5 z.1
    refine E_iconst (pc := 27) (-1) dX8_odd_27 (by decide) ?_
    refine E_iret (pc := 28) dX8_odd_28 rfl ?_
    exact ⟨congrArg some (if_neg hg).symm, fun _ _ _ _ _ => rfl, fun _ _ => rfl⟩
  · refine E_iload_n (pc := 8) 2 dX8_odd_8 rfl rfl ?_
    refine E_callS1 (pc := 9) dX8_odd_9 C_X8_isNumber rfl ks_RX8_135 rfl ⟨Nat.le_of_ble_eq_true rfl, Nat.le_of_ble_eq_true rfl, Nat.le_of_ble_eq_true rfl, Nat.le_of_ble_eq_true rfl⟩ (Nat.le_of_ble_eq_true rfl) ?_
    refine E_if_eq (pc := 12) 27 dX8_odd_12 rfl (fun q12 => ?_) (fun q12 => ?_)
    · have hg : ¬ ((0 ≤ j ∧ j ≤ nI C - 1) ∧ (0 ≤ w ∧ w ≤ 5) ∧ 0 ≤ n ∧ n ≤ 20) := fun z => bi_0.mp q12 z.2.1
      refine E_iconst (pc := 27) (-1) dX8_odd_27 (by decide) ?_
      refine E_iret (pc := 28) dX8_odd_28 rfl ?_
      exact ⟨congrArg some (if_neg hg).symm, fun _ _ _ _ _ => rfl, fun _ _ => rfl⟩
    · refine E_iload_n (pc := 15) 3 dX8_odd_15 rfl rfl ?_
      refine E_i2l (pc := 16) dX8_odd_16 ?_
      refine E_lconst (pc := 17) (0) dX8_odd_17 (by decide) ?_
      refine E_ldc2 (pc := 18) (20) dX8_odd_18 kk_RX8_236 ?_
      refine E_callS1 (pc := 21) dX8_odd_21 (C_X8_in (a := 0) (b := 20) (by decide) (by decide)) rfl ks_RX8_71 rfl ⟨Nat.le_of_ble_eq_true rfl, Nat.le_of_ble_eq_true rfl, Nat.le_of_ble_eq_true rfl, Nat.le_of_ble_eq_true rfl⟩ (Nat.le_of_ble_eq_true rfl) ?_
      refine E_if_ne (pc := 24) 29 dX8_odd_24 rfl (fun q24 => ?_) (fun q24 => ?_)
      · have hj : 0 ≤ j ∧ j ≤ nI C - 1 := Decidable.of_not_not (fun z => q5 (bi_0.mpr z))
        have hw : 0 ≤ w ∧ w ≤ 5 := Decidable.of_not_not (fun z => q12 (bi_0.mpr z))
        have hn : 0 ≤ n ∧ n ≤ 20 := Decidable.of_not_not (fun z => q24 (bi_0.mpr z))
        rw [if_pos ⟨hj, hw, hn⟩]
        have hC0 : 0 < C := Nat.pos_of_ne_zero (fun z => by rw [z] at hj; exact absurd (Int32.le_trans hj.1 hj.2) (by decide))
        rw [show (1 : Int32) = nI 1 from rfl, pk_sub hC0] at hj
        obtain ⟨j', hj', ej⟩ := natof (x := j) (C - 1) (by omega) hj.1 hj.2
        obtain ⟨m, hm, en⟩ := natof (x := n) 20 (by decide) hn.1 hn.2
        obtain ⟨w', hw', ew⟩ := natof (x := w) 5 (by decide) hw.1 hw.2
        clear q5 q12 q24 hj hn
        subst ej
        subst en
        rw [ixN_nI (show m < 2 ^ 31 by omega), ixN_nI (show j' < 2 ^ 31 by omega)]
        refine E_aload_n (pc := 29) 0 dX8_odd_29 rfl rfl ?_
        refine E_callV0 (pc := 30) dX8_odd_30 (C_X8_layWorths hI) rfl kv_RX8_251 rfl rfl rfl ⟨Nat.le_of_ble_eq_true rfl, Nat.le_of_ble_eq_true rfl, Nat.le_of_ble_eq_true rfl, Nat.le_of_ble_eq_true rfl⟩ (Nat.le_of_ble_eq_true rfl) ?_
        refine E_aload_n (pc := 33) 0 dX8_odd_33 rfl rfl ?_
        refine E_callV0 (pc := 34) dX8_odd_34 C_X8_keepJumpers rfl kv_RX8_254 rfl rfl rfl ⟨Nat.le_of_ble_eq_true rfl, Nat.le_of_ble_eq_true rfl, Nat.le_of_ble_eq_true rfl, Nat.le_of_ble_eq_true rfl⟩ (Nat.le_of_ble_eq_true rfl) ?_
        refine E_heq (h' := h9 h) rfl ?_
        refine E_aload_n (pc := 37) 0 dX8_odd_37 rfl rfl ?_
        refine E_getR0 (pc := 38) dX8_odd_38 fl_RX8_46 rfl rfl ?_
        refine E_iload_n (pc := 41) 1 dX8_odd_41 rfl rfl ?_
        refine E_iload_n (pc := 42) 2 dX8_odd_42 rfl rfl ?_
        refine E_iast (pc := 43) dX8_odd_43 rfl (vp_in_nI (by omega) (by decide)) ?_
        refine E_iconst (pc := 44) (0) dX8_odd_44 (by decide) ?_
        refine E_istore (pc := 45) 4 dX8_odd_45 (Nat.le_of_ble_eq_true rfl) rfl (lz := [_, _, _, _, _]) rfl ?_
        refine E_heq (h' := hset (h9 h) g_m_jumpers 0 j' w) (by rw [ixN_nI (by omega)]) ?_
        have y0 := YI.st hG hr
        have ej : hset (h9 h) g_m_jumpers 0 j' w g_m_jumpers 0 = upd (h g_m_jumpers 0) j' w := by rw [hset_arr, h9_o (by decide) (by decide)]
        have y1 : YI h (hset (h9 h) g_m_jumpers 0 j' w) C S := by
          refine ⟨fun a a1 a2 a3 a4 => by rw [hset_o2 a4]; exact y0.1 a a1 a2 a3 a4, fun k hk => by rw [hset_o2 (by decide)]; exact y0.2.1 k hk, fun i hi => by rw [hset_o2 (by decide)]; exact y0.2.2.1 i hi, fun i hi => ?_, y0.2.2.2.2.same (hset_o2 (by decide)) (hset_o2 (by decide))⟩
          rw [ej]
          unfold upd
          by_cases e : i = j'
          · rw [if_pos e]; exact ⟨w', by omega, ew⟩
          · rw [if_neg e]; exact hr i hi
        refine down (P := fun i => ∀ h2, YI h h2 C S → (∀ k, k < C → yrN (mv h) C S (h g_m_holds 0 16) (m - i) (h2 g_m_jumpers 0) k = yrN (mv h) C S (h g_m_holds 0 16) m (upd (h g_m_jumpers 0) j' w) k) → Ev l G mX8_odd _ 47 [some (vR g_model 0), some (vI (nI j')), some (vI w), some (vI (nI m)), some (vI (nI i))] [] h2) m ?_ ?_ 0 (Nat.zero_le _) _ y1 (fun k hk => by rw [ej]; rfl)
        · intro h2 yi hy
          rw [Nat.sub_self] at hy
          refine E_iload (pc := 47) 4 dX8_odd_47 rfl ?_
          refine E_iload_n (pc := 49) 3 dX8_odd_49 rfl rfl ?_
          refine E_icmp_ge (pc := 50) 63 dX8_odd_50 rfl (fun q50 => ?_) (fun q50 => absurd (Int32.le_refl _) q50)
          refine E_aload_n (pc := 63) 0 dX8_odd_63 rfl rfl ?_
          refine E_iload_n (pc := 64) 2 dX8_odd_64 rfl rfl ?_
          refine E_callV1 (pc := 65) dX8_odd_65 (C_X8_haveWay yi.2.2.2.2.1 hC12) rfl kv_RX8_260 rfl rfl rfl ⟨Nat.le_of_ble_eq_true rfl, Nat.le_of_ble_eq_true rfl, Nat.le_of_ble_eq_true rfl, Nat.le_of_ble_eq_true rfl⟩ (Nat.le_of_ble_eq_true rfl) ?_
          refine E_istore (pc := 68) 4 dX8_odd_68 (Nat.le_of_ble_eq_true rfl) rfl (lz := [_, _, _, _, _]) rfl ?_
          refine E_aload_n (pc := 70) 0 dX8_odd_70 rfl rfl ?_
          refine E_callV0 (pc := 71) dX8_odd_71 C_X8_jumpersBack rfl kv_RX8_263 rfl rfl rfl ⟨Nat.le_of_ble_eq_true rfl, Nat.le_of_ble_eq_true rfl, Nat.le_of_ble_eq_true rfl, Nat.le_of_ble_eq_true rfl⟩ (Nat.le_of_ble_eq_true rfl) ?_
          refine E_iload (pc := 74) 4 dX8_odd_74 rfl ?_
          refine E_iret (pc := 76) dX8_odd_76 rfl ?_
          exact ⟨by rw [cntW_congr (s := h2 g_m_jumpers 0) C hy], fun a a1 a2 a3 a4 => by rw [fed_a a4]; exact yi.1 a a1 a2 a3 a4, fun k hk => by rw [fed_i hk]; exact yi.2.2.1 k hk⟩
        · intro i hi hn h2 yi hy
          rw [show m - i = (m - (i + 1)) + 1 by omega] at hy
          refine E_iload (pc := 47) 4 dX8_odd_47 rfl ?_
          refine E_iload_n (pc := 49) 3 dX8_odd_49 rfl rfl ?_
          refine E_icmp_ge (pc := 50) 63 dX8_odd_50 rfl (fun q50 => absurd q50 (nI_ge hi (by omega))) (fun q50 => ?_)
          refine E_aload_n (pc := 53) 0 dX8_odd_53 rfl rfl ?_
          refine E_callV (pc := 54) dX8_odd_54 (C_X8_oneYear (C := C) (S := S) yi.2.2.2.2 yi.2.2.2.1 (mvR yi.2.1)) rfl kv_RX8_257 rfl rfl rfl ⟨Nat.le_of_ble_eq_true rfl, Nat.le_of_ble_eq_true rfl, Nat.le_of_ble_eq_true rfl, Nat.le_of_ble_eq_true rfl⟩ (Nat.le_of_ble_eq_true rfl) ?_
          rintro _ h4 ⟨rfl, t1, t2, _⟩
          refine E_iincN (pc := 57) 4 dX8_odd_57 (Nat.le_of_ble_eq_true rfl) rfl rfl (lz := [_, _, _, _, _]) rfl ?_
          refine E_goto (pc := 60) 47 dX8_odd_60 rfl ?_
          exact hn h4 (yi.yr t1 t2).1 (fun k hk => by rw [← hy k hk]; exact yrN_congr _ (yi.yr t1 t2).2 k hk)
      · have hg : ¬ ((0 ≤ j ∧ j ≤ nI C - 1) ∧ (0 ≤ w ∧ w ≤ 5) ∧ 0 ≤ n ∧ n ≤ 20) := fun z => bi_0.mp q24 z.2.2
        refine E_iconst (pc := 27) (-1) dX8_odd_27 (by decide) ?_
        refine E_iret (pc := 28) dX8_odd_28 rfl ?_
        exact ⟨congrArg some (if_neg hg).symm, fun _ _ _ _ _ => rfl, fun _ _ => rfl⟩
theorem ab_subpos {u v : Int32} {p q : Nat} (hu : ab u p) (hv : ab v q) (h : p + q < 2 ^ 31) : 0 < u - v ↔ v < u := by
  unfold ab at hu hv
  rw [Int32.lt_iff_toInt_lt, Int32.lt_iff_toInt_lt, Int32.toInt_sub, ab_bm (n := p + q) (by omega) h, show (0 : Int32).toInt = 0 by decide]
  omega
theorem ab_min {x y : Int32} {n : Nat} (hx : ab x n) (hy : ab y n) : ab (minI x y) n := by
  unfold minI
  split
  · exact hy
  · exact hx
set_option maxHeartbeats 1600000 in
theorem C_X8_pays {l : Launch} {G : GE} {h : Hp} {a b g c : Int32} : CT l G mX8_pays [vR g_model 0, vI a, vI b, vI g, vI c] h (fun r h' => r = some (if okPay a b g c then pyF a b g c 50 0 0 else -1) ∧ h' = h) := by
  refine CT.of (lv := [_, _, _, _, _, _, _, _]) (by decide +kernel) (Nat.le_of_ble_eq_true rfl) rfl ?_
  refine E_iload_n (pc := 0) 1 dX8_pays_0 rfl rfl ?_
  refine E_i2l (pc := 1) dX8_pays_1 ?_
  refine E_lconst (pc := 2) (0) dX8_pays_2 (by decide) ?_
  refine E_ldc2 (pc := 3) (999) dX8_pays_3 kk_RX8_238 ?_
  refine E_callS1 (pc := 6) dX8_pays_6 (C_X8_in (a := 0) (b := 999) (by decide) (by decide)) rfl ks_RX8_71 rfl ⟨Nat.le_of_ble_eq_true rfl, Nat.le_of_ble_eq_true rfl, Nat.le_of_ble_eq_true rfl, Nat.le_of_ble_eq_true rfl⟩ (Nat.le_of_ble_eq_true rfl) ?_
  refine E_if_eq (pc := 9) 49 dX8_pays_9 rfl (fun q9 => ?_) (fun q9 => ?_)
  · have hg : ¬ okPay a b g c := fun z => bi_0.mp q9 z.1
    refine E_iconst (pc := 49) (-1) dX8_pays_49 (by decide) ?_
    refine E_iret (pc := 50) dX8_pays_50 rfl ?_
    exact ⟨congrArg some (if_neg hg).symm, rfl⟩
  · refine E_iload_n (pc := 12) 2 dX8_pays_12 rfl rfl ?_
    refine E_i2l (pc := 13) dX8_pays_13 ?_
    refine E_lconst (pc := 14) (0) dX8_pays_14 (by decide) ?_
    refine E_ldc2 (pc := 15) (999) dX8_pays_15 kk_RX8_238 ?_
    refine E_callS1 (pc := 18) dX8_pays_18 (C_X8_in (a := 0) (b := 999) (by decide) (by decide)) rfl ks_RX8_71 rfl ⟨Nat.le_of_ble_eq_true rfl, Nat.le_of_ble_eq_true rfl, Nat.le_of_ble_eq_true rfl, Nat.le_of_ble_eq_true rfl⟩ (Nat.le_of_ble_eq_true rfl) ?_
    refine E_if_eq (pc := 21) 49 dX8_pays_21 rfl (fun q21 => ?_) (fun q21 => ?_)
    · have hg : ¬ okPay a b g c := fun z => bi_0.mp q21 z.2.1
      refine E_iconst (pc := 49) (-1) dX8_pays_49 (by decide) ?_
      refine E_iret (pc := 50) dX8_pays_50 rfl ?_
      exact ⟨congrArg some (if_neg hg).symm, rfl⟩
    · refine E_iload (pc := 24) 4 dX8_pays_24 rfl ?_
      refine E_i2l (pc := 26) dX8_pays_26 ?_
      refine E_lconst (pc := 27) (0) dX8_pays_27 (by decide) ?_
      refine E_ldc2 (pc := 28) (999) dX8_pays_28 kk_RX8_238 ?_
      refine E_callS1 (pc := 31) dX8_pays_31 (C_X8_in (a := 0) (b := 999) (by decide) (by decide)) rfl ks_RX8_71 rfl ⟨Nat.le_of_ble_eq_true rfl, Nat.le_of_ble_eq_true rfl, Nat.le_of_ble_eq_true rfl, Nat.le_of_ble_eq_true rfl⟩ (Nat.le_of_ble_eq_true rfl) ?_
      refine E_if_eq (pc := 34) 49 dX8_pays_34 rfl (fun q34 => ?_) (fun q34 => ?_)
      · have hg : ¬ okPay a b g c := fun z => bi_0.mp q34 z.2.2.2
        refine E_iconst (pc := 49) (-1) dX8_pays_49 (by decide) ?_
        refine E_iret (pc := 50) dX8_pays_50 rfl ?_
        exact ⟨congrArg some (if_neg hg).symm, rfl⟩
      · refine E_iload_n (pc := 37) 3 dX8_pays_37 rfl rfl ?_
        refine E_i2l (pc := 38) dX8_pays_38 ?_
        refine E_lconst (pc := 39) (0) dX8_pays_39 (by decide) ?_
        refine E_ldc2 (pc := 40) (99) dX8_pays_40 kk_RX8_240 ?_
        refine E_callS1 (pc := 43) dX8_pays_43 (C_X8_in (a := 0) (b := 99) (by decide) (by decide)) rfl ks_RX8_71 rfl ⟨Nat.le_of_ble_eq_true rfl, Nat.le_of_ble_eq_true rfl, Nat.le_of_ble_eq_true rfl, Nat.le_of_ble_eq_true rfl⟩ (Nat.le_of_ble_eq_true rfl) ?_
        refine E_if_ne (pc := 46) 51 dX8_pays_46 rfl (fun q46 => ?_) (fun q46 => ?_)
        · have hok : okPay a b g c := ⟨Decidable.of_not_not (fun z => q9 (bi_0.mpr z)), Decidable.of_not_not (fun z => q21 (bi_0.mpr z)), Decidable.of_not_not (fun z => q46 (bi_0.mpr z)), Decidable.of_not_not (fun z => q34 (bi_0.mpr z))⟩
          rw [if_pos hok]
          have ha : ab a 999 := ab_of _ _ hok.1.1 hok.1.2 (by decide) (by decide)
          have hb : ab b 999 := ab_of _ _ hok.2.1.1 hok.2.1.2 (by decide) (by decide)
          have hgg : ab g 99 := ab_of _ _ hok.2.2.1.1 hok.2.2.1.2 (by decide) (by decide)
          have hcc : ab c 999 := ab_of _ _ hok.2.2.2.1 hok.2.2.2.2 (by decide) (by decide)
          refine E_iconst (pc := 51) (0) dX8_pays_51 (by decide) ?_
          refine E_istore (pc := 52) 5 dX8_pays_52 (Nat.le_of_ble_eq_true rfl) rfl (lz := [_, _, _, _, _, _, _, _]) rfl ?_
          refine E_iconst (pc := 54) (1) dX8_pays_54 (by decide) ?_
          refine E_istore (pc := 55) 6 dX8_pays_55 (Nat.le_of_ble_eq_true rfl) rfl (lz := [_, _, _, _, _, _, _, _]) rfl ?_
          refine down (P := fun i => ∀ s, ab s (i * 6000) → pyF a b g c (50 - i) i (s - a * nI i) = pyF a b g c 50 0 0 → Ev l G mX8_pays _ 57 [some (vR g_model 0), some (vI a), some (vI b), some (vI g), some (vI c), some (vI s), some (vI (nI (i + 1))), none] [] h) 50 ?_ ?_ 0 (Nat.zero_le _) 0 (by unfold ab; decide) (by rw [show (0 : Int32) - a * nI 0 = 0 by rw [nI_0, Int32.mul_zero]; rfl])
          · intro s hs hx
            refine E_iload (pc := 57) 6 dX8_pays_57 rfl ?_
            refine E_bipush (pc := 59) (50) dX8_pays_59 (by decide) ?_
            refine E_icmp_gt (pc := 61) 111 dX8_pays_61 rfl (fun q61 => ?_) (fun q61 => absurd (show (50 : Int32) < 51 by decide) q61)
            refine E_bipush (pc := 111) (-4) dX8_pays_111 (by decide) ?_
            refine E_iret (pc := 113) dX8_pays_113 rfl ?_
            exact ⟨by rw [← hx]; rfl, rfl⟩
          · intro i hi hn s hs hx
            rw [show 50 - i = (50 - (i + 1)) + 1 by omega] at hx
            have hm : ab (minI (b + g * (nI (i + 1) - 1)) c) 6000 := ab_min (ab_mono (ab_add hb (ab_mul hgg (ab_mono (show ab (nI (i + 1) - 1) i by rw [nI_pred]; exact ab_nI (by omega)) (show i ≤ 50 by omega)) (by decide)) (by decide)) (by decide)) (ab_mono hcc (by decide))
            have hs2 : ab (s + minI (b + g * (nI (i + 1) - 1)) c) ((i + 1) * 6000) := ab_mono (ab_add hs hm (by omega)) (by omega)
            have ha2 : ab (a * nI (i + 1)) 49950 := ab_mul (a := 999) (b := 50) ha (ab_mono (ab_nI (by omega)) (show i + 1 ≤ 50 by omega)) (by decide)
            have e9 : s - a * nI i + (minI (b + g * (nI (i + 1) - 1)) c - a) = s + minI (b + g * (nI (i + 1) - 1)) c - a * nI (i + 1) := by rw [nI_succ]; grind
            have hpy : pyF a b g c (50 - (i + 1) + 1) i (s - a * nI i) = if 0 < s - a * nI i + (minI (b + g * (nI (i + 1) - 1)) c - a) then nI (i + 1) else pyF a b g c (50 - (i + 1)) (i + 1) (s - a * nI i + (minI (b + g * (nI (i + 1) - 1)) c - a)) := rfl
            rw [hpy, e9] at hx
            refine E_iload (pc := 57) 6 dX8_pays_57 rfl ?_
            refine E_bipush (pc := 59) (50) dX8_pays_59 (by decide) ?_
            refine E_icmp_gt (pc := 61) 111 dX8_pays_61 rfl (fun q61 => absurd q61 (nI_nlt (a := 50) (b := i + 1) (by omega) (by decide))) (fun q61 => ?_)
            refine E_iload_n (pc := 64) 2 dX8_pays_64 rfl rfl ?_
            refine E_iload_n (pc := 65) 3 dX8_pays_65 rfl rfl ?_
            refine E_iload (pc := 66) 6 dX8_pays_66 rfl ?_
            refine E_iconst (pc := 68) (1) dX8_pays_68 (by decide) ?_
            refine E_isub (pc := 69) dX8_pays_69 ?_
            refine E_imul (pc := 70) dX8_pays_70 ?_
            refine E_iadd (pc := 71) dX8_pays_71 ?_
            refine E_istore (pc := 72) 7 dX8_pays_72 (Nat.le_of_ble_eq_true rfl) rfl (lz := [_, _, _, _, _, _, _, _]) rfl ?_
            refine E_iload (pc := 74) 5 dX8_pays_74 rfl ?_
            refine E_iload (pc := 76) 7 dX8_pays_76 rfl ?_
            refine E_iload (pc := 78) 4 dX8_pays_78 rfl ?_
            refine E_icmp_le (pc := 80) 88 dX8_pays_80 rfl (fun q80 => ?_) (fun q80 => ?_)
            · refine E_iload (pc := 88) 7 dX8_pays_88 rfl ?_
              refine E_iadd (pc := 90) dX8_pays_90 ?_
              refine E_top (y := s + minI (b + g * (nI (i + 1) - 1)) c) (by unfold minI; first | (rw [if_neg (Int32.not_lt.mpr q80)]; done) | (rw [if_pos (Int32.not_le.mp q80)]; done)) ?_
              refine E_istore (pc := 91) 5 dX8_pays_91 (Nat.le_of_ble_eq_true rfl) rfl (lz := [_, _, _, _, _, _, _, _]) rfl ?_
              refine E_iload (pc := 93) 5 dX8_pays_93 rfl ?_
              refine E_iload_n (pc := 95) 1 dX8_pays_95 rfl rfl ?_
              refine E_iload (pc := 96) 6 dX8_pays_96 rfl ?_
              refine E_imul (pc := 98) dX8_pays_98 ?_
              refine E_icmp_le (pc := 99) 105 dX8_pays_99 rfl (fun q99 => ?_) (fun q99 => ?_)
              · refine E_iincN (pc := 105) 6 dX8_pays_105 (Nat.le_of_ble_eq_true rfl) rfl rfl (lz := [_, _, _, _, _, _, _, _]) rfl ?_
                refine E_goto (pc := 108) 57 dX8_pays_108 rfl ?_
                exact E_drop 7 (hn _ hs2 ((if_neg (fun z => Int32.not_lt.mpr q99 ((ab_subpos hs2 ha2 (by omega)).mp z))).symm.trans hx))
              · refine E_iload (pc := 102) 6 dX8_pays_102 rfl ?_
                refine E_iret (pc := 104) dX8_pays_104 rfl ?_
                exact ⟨by rw [← hx, if_pos ((ab_subpos hs2 ha2 (by omega)).mpr (Int32.not_le.mp q99))], rfl⟩
            · refine E_iload (pc := 83) 4 dX8_pays_83 rfl ?_
              refine E_goto (pc := 85) 90 dX8_pays_85 rfl ?_
              refine E_iadd (pc := 90) dX8_pays_90 ?_
              refine E_top (y := s + minI (b + g * (nI (i + 1) - 1)) c) (by unfold minI; first | (rw [if_neg (Int32.not_lt.mpr q80)]; done) | (rw [if_pos (Int32.not_le.mp q80)]; done)) ?_
              refine E_istore (pc := 91) 5 dX8_pays_91 (Nat.le_of_ble_eq_true rfl) rfl (lz := [_, _, _, _, _, _, _, _]) rfl ?_
              refine E_iload (pc := 93) 5 dX8_pays_93 rfl ?_
              refine E_iload_n (pc := 95) 1 dX8_pays_95 rfl rfl ?_
              refine E_iload (pc := 96) 6 dX8_pays_96 rfl ?_
              refine E_imul (pc := 98) dX8_pays_98 ?_
              refine E_icmp_le (pc := 99) 105 dX8_pays_99 rfl (fun q99 => ?_) (fun q99 => ?_)
              · refine E_iincN (pc := 105) 6 dX8_pays_105 (Nat.le_of_ble_eq_true rfl) rfl rfl (lz := [_, _, _, _, _, _, _, _]) rfl ?_
                refine E_goto (pc := 108) 57 dX8_pays_108 rfl ?_
                exact E_drop 7 (hn _ hs2 ((if_neg (fun z => Int32.not_lt.mpr q99 ((ab_subpos hs2 ha2 (by omega)).mp z))).symm.trans hx))
              · refine E_iload (pc := 102) 6 dX8_pays_102 rfl ?_
                refine E_iret (pc := 104) dX8_pays_104 rfl ?_
                exact ⟨by rw [← hx, if_pos ((ab_subpos hs2 ha2 (by omega)).mpr (Int32.not_le.mp q99))], rfl⟩
        · have hg : ¬ okPay a b g c := fun z => bi_0.mp q46 z.2.2.1
          refine E_iconst (pc := 49) (-1) dX8_pays_49 (by decide) ?_
          refine E_iret (pc := 50) dX8_pays_50 rfl ?_
          exact ⟨congrArg some (if_neg hg).symm, rfl⟩
