/-! the model: climb, valley, best, suits -/
def KN (h h' : Hp) (k : Nat) : Prop := (∀ a, a ≠ g_m_numbers → h' a = h a) ∧ ∀ j, ¬ (64 * k ≤ j ∧ j < 64 * k + 64) → h' g_m_numbers 0 j = h g_m_numbers 0 j
theorem KN.refl {h : Hp} {k : Nat} : KN h h k := ⟨fun _ _ => rfl, fun _ _ => rfl⟩
theorem KN.set {h h' : Hp} {k i : Nat} {v : Int32} (hi : i < 64) (hk : KN h h' k) : KN h (hset h' g_m_numbers 0 (64 * k + i) v) k :=
  ⟨fun a ha => by rw [hset_o2 ha]; exact hk.1 a ha, fun j hj => by rw [hset_k (by omega)]; exact hk.2 j hj⟩
theorem sBetter_or2 (V N : Nat → Int32) (T : Nat) (F : Int32) : sBetter V N T F = -4 ∨ ∃ c, c < 128 ∧ sBetter V N T F = nI c ∧ chP N T c := by
  rcases bstF_or (sWorth V N T F) (chgF V N T F) 128 with e | ⟨j, hj, e, _, h3⟩
  · exact Or.inl e
  · refine Or.inr ⟨j, hj, e, Decidable.of_not_not (fun z => ?_)⟩
    rw [chgF_n z] at h3
    exact absurd (Int32.lt_of_le_of_lt (sWorth_ge V N T F) h3) (by decide)
theorem neg_n4 {x : Int32} (h : x = -4) : x < 0 := by rw [h]; decide
set_option maxHeartbeats 1600000 in
theorem C_X8_climb {l : Launch} {G : GE} {h : Hp} {w n : Int32} (hI : MK h) : CT l G mX8_climb [vR g_model 0, vI w, vI n] h (fun r h' => if isM h w ∧ 1 ≤ n ∧ n ≤ 40 then r = some (nI (clF (h g_m_holds 0) (ixN (h g_m_tenths 0 (ixN w))) (h g_m_feet 0 (ixN w)) (ixN n) (mN h (ixN w))).1) ∧ mN h' (ixN w) = (clF (h g_m_holds 0) (ixN (h g_m_tenths 0 (ixN w))) (h g_m_feet 0 (ixN w)) (ixN n) (mN h (ixN w))).2 ∧ KN h h' (ixN w) ∧ RN (mN h' (ixN w)) else r = some (-1) ∧ h' = h) := by
  refine CT.of (lv := [_, _, _, _, _]) (by decide +kernel) (Nat.le_of_ble_eq_true rfl) rfl ?_
  refine E_aload_n (pc := 0) 0 dX8_climb_0 rfl rfl ?_
  refine E_iload_n (pc := 1) 1 dX8_climb_1 rfl rfl ?_
  refine E_callV1 (pc := 2) dX8_climb_2 C_X8_isWay rfl kv_RX8_139 rfl rfl rfl ⟨Nat.le_of_ble_eq_true rfl, Nat.le_of_ble_eq_true rfl, Nat.le_of_ble_eq_true rfl, Nat.le_of_ble_eq_true rfl⟩ (Nat.le_of_ble_eq_true rfl) ?_
  refine E_if_eq (pc := 5) 20 dX8_climb_5 rfl (fun q5 => ?_) (fun q5 => ?_)
  · have hg : ¬ (isM h w ∧ 1 ≤ n ∧ n ≤ 40) := fun z => bi_0.mp q5 z.1
    refine E_iconst (pc := 20) (-1) dX8_climb_20 (by decide) ?_
    refine E_iret (pc := 21) dX8_climb_21 rfl ?_
    rw [if_neg hg]; exact ⟨rfl, rfl⟩
  · refine E_iload_n (pc := 8) 2 dX8_climb_8 rfl rfl ?_
    refine E_i2l (pc := 9) dX8_climb_9 ?_
    refine E_lconst (pc := 10) (1) dX8_climb_10 (by decide) ?_
    refine E_ldc2 (pc := 11) (40) dX8_climb_11 kk_RX8_228 ?_
    refine E_callS1 (pc := 14) dX8_climb_14 (C_X8_in (a := 1) (b := 40) (by decide) (by decide)) rfl ks_RX8_71 rfl ⟨Nat.le_of_ble_eq_true rfl, Nat.le_of_ble_eq_true rfl, Nat.le_of_ble_eq_true rfl, Nat.le_of_ble_eq_true rfl⟩ (Nat.le_of_ble_eq_true rfl) ?_
    refine E_if_ne (pc := 17) 22 dX8_climb_17 rfl (fun q17 => ?_) (fun q17 => ?_)
    · have hg : isM h w := Decidable.of_not_not (fun z => q5 (bi_0.mpr z))
      have hn : 1 ≤ n ∧ n ≤ 40 := Decidable.of_not_not (fun z => q17 (bi_0.mpr z))
      obtain ⟨k, T, hk, ew, hT1, hT8, hT, e1, e2⟩ := isM_nat hI hg
      obtain ⟨m, hm, en⟩ := natof (x := n) 40 (by decide) (Int32.le_trans (by decide) hn.1) hn.2
      have eQ : ∀ (a b : Int32) (_ : isM h w ∧ 1 ≤ n ∧ n ≤ 40), True := fun _ _ _ => trivial
      refine E_iconst (pc := 22) (0) dX8_climb_22 (by decide) ?_
      refine E_istore_n (pc := 23) 3 dX8_climb_23 rfl (Nat.le_of_ble_eq_true rfl) rfl (lz := [_, _, _, _, _]) rfl ?_
      have hif : isM h w ∧ 1 ≤ n ∧ n ≤ 40 := ⟨hg, hn⟩
      refine E_eq (lv' := [some (vR g_model 0), some (vI (nI k)), some (vI (nI m)), some (vI (nI 0)), none]) (by rw [← ew, ← en]; rfl) rfl rfl ?_
      have hN := hI.2.1 k (by omega)
      refine down (P := fun i => ∀ h2, KN h h2 k → RN (mN h2 k) → (clF (h g_m_holds 0) T (h g_m_feet 0 k) (m - i) (mN h2 k)).1 + i = (clF (h g_m_holds 0) T (h g_m_feet 0 k) m (mN h k)).1 → (clF (h g_m_holds 0) T (h g_m_feet 0 k) (m - i) (mN h2 k)).2 = (clF (h g_m_holds 0) T (h g_m_feet 0 k) m (mN h k)).2 → Ev l G mX8_climb _ 24 [some (vR g_model 0), some (vI (nI k)), some (vI (nI m)), some (vI (nI i)), none] [] h2) m ?_ ?_ 0 (Nat.zero_le _) h KN.refl hN rfl rfl
      · intro h2 kp rn a1 a2
        rw [Nat.sub_self] at a1 a2
        refine E_iload_n (pc := 24) 3 dX8_climb_24 rfl rfl ?_
        refine E_iload_n (pc := 25) 2 dX8_climb_25 rfl rfl ?_
        refine E_icmp_ge (pc := 26) 78 dX8_climb_26 rfl (fun q26 => ?_) (fun q26 => absurd (Int32.le_refl _) q26)
        refine E_iload_n (pc := 78) 2 dX8_climb_78 rfl rfl ?_
        refine E_iret (pc := 79) dX8_climb_79 rfl ?_
        rw [if_pos hif, e2, e1, en, ixN_nI (show m < 2 ^ 31 by omega)]
        exact ⟨by rw [← a1]; show some (nI m) = some (nI (0 + m)); rw [Nat.zero_add], a2, kp, rn⟩
      · intro i hi hr h2 kp rn a1 a2
        have e3 : h2 g_m_tenths = h g_m_tenths := kp.1 _ (by decide)
        have e4 : h2 g_m_holds = h g_m_holds := kp.1 _ (by decide)
        have e6 : h2 g_m_feet = h g_m_feet := kp.1 _ (by decide)
        have e5 : m - i = (m - (i + 1)) + 1 := by omega
        rw [e5] at a1 a2
        refine E_iload_n (pc := 24) 3 dX8_climb_24 rfl rfl ?_
        refine E_iload_n (pc := 25) 2 dX8_climb_25 rfl rfl ?_
        refine E_icmp_ge (pc := 26) 78 dX8_climb_26 rfl (fun q26 => absurd q26 (nI_ge hi (by omega))) (fun q26 => ?_)
        refine E_aload_n (pc := 29) 0 dX8_climb_29 rfl rfl ?_
        refine E_iload_n (pc := 30) 1 dX8_climb_30 rfl rfl ?_
        refine E_callV1 (pc := 31) dX8_climb_31 (C_X8_betterOf (by rw [e4]; exact hI.1) rn hk (by rw [e3]; exact hT) hT1 hT8) rfl kv_RX8_225 rfl rfl rfl ⟨Nat.le_of_ble_eq_true rfl, Nat.le_of_ble_eq_true rfl, Nat.le_of_ble_eq_true rfl, Nat.le_of_ble_eq_true rfl⟩ (Nat.le_of_ble_eq_true rfl) ?_
        refine E_top (y := sBetter (h g_m_holds 0) (mN h2 k) T (h g_m_feet 0 k)) (by rw [e4, e6]) ?_
        refine E_istore (pc := 34) 4 dX8_climb_34 (Nat.le_of_ble_eq_true rfl) rfl (lz := [_, _, _, _, _]) rfl ?_
        refine E_iload (pc := 36) 4 dX8_climb_36 rfl ?_
        refine E_bipush (pc := 38) (-4) dX8_climb_38 (by decide) ?_
        refine E_icmp_ne (pc := 40) 45 dX8_climb_40 rfl (fun q40 => ?_) (fun q40 => ?_)
        · obtain ⟨c, hc, ec, hP⟩ := (sBetter_or2 (h g_m_holds 0) (mN h2 k) T (h g_m_feet 0 k)).resolve_left q40
          rw [clF_go (by rw [ec]; exact nI_pos (by omega)), ec, ixN_nI (show c < 2 ^ 31 by omega)] at a1 a2
          rw [ec]
          refine E_aload_n (pc := 45) 0 dX8_climb_45 rfl rfl ?_
          refine E_getR0 (pc := 46) dX8_climb_46 fl_RX8_34 rfl rfl ?_
          refine E_aload_n (pc := 49) 0 dX8_climb_49 rfl rfl ?_
          refine E_iload_n (pc := 50) 1 dX8_climb_50 rfl rfl ?_
          refine E_iload (pc := 51) 4 dX8_climb_51 rfl ?_
          refine E_callV1 (pc := 53) dX8_climb_53 (C_X8_changed hk (by rw [e3]; exact hT) hT8 hc) rfl kv_RX8_215 rfl rfl rfl ⟨Nat.le_of_ble_eq_true rfl, Nat.le_of_ble_eq_true rfl, Nat.le_of_ble_eq_true rfl, Nat.le_of_ble_eq_true rfl⟩ (Nat.le_of_ble_eq_true rfl) ?_
          refine E_top (y := nI (64 * k + c / 2)) (if_pos hP) ?_
          have hix : vp_in (nI (64 * k + c / 2)) 384 := vp_in_nI (by omega) (by decide)
          refine E_dup2 (pc := 56) dX8_climb_56 (fun _ z => by cases z) (fun _ z => by cases z) ?_
          refine E_iald (pc := 57) dX8_climb_57 rfl hix ?_
          refine E_iload (pc := 58) 4 dX8_climb_58 rfl ?_
          refine E_iconst (pc := 60) (2) dX8_climb_60 (by decide) ?_
          refine E_irem (pc := 61) dX8_climb_61 (by decide) ?_
          refine E_if_ne (pc := 62) 69 dX8_climb_62 rfl (fun q62 => ?_) (fun q62 => ?_)
          · have h2' : -1 = stp c := (if_neg (mt (rem2_0 (by omega)).mpr q62)).symm
            refine E_iconst (pc := 69) (-1) dX8_climb_69 (by decide) ?_
            refine E_top h2' ?_
            refine E_iadd (pc := 70) dX8_climb_70 ?_
            refine E_iast (pc := 71) dX8_climb_71 rfl hix ?_
            refine E_iincN (pc := 72) 3 dX8_climb_72 (Nat.le_of_ble_eq_true rfl) rfl rfl (lz := [_, _, _, _, _]) rfl ?_
            refine E_goto (pc := 75) 24 dX8_climb_75 rfl ?_
            refine E_heq (h' := hset h2 g_m_numbers 0 (64 * k + c / 2) (h2 g_m_numbers 0 (64 * k + c / 2) + stp c)) (by rw [ixN_nI (by omega)]) ?_
            exact E_drop 4 (hr _ (kp.set (by omega)) (by rw [mN_ch]; exact chN_RN rn hP) (by rw [mN_ch]; have := a1; simp only [] at this; omega) (by rw [mN_ch]; exact a2))
          · have h2' : 1 = stp c := (if_pos ((rem2_0 (by omega)).mp q62)).symm
            refine E_iconst (pc := 65) (1) dX8_climb_65 (by decide) ?_
            refine E_goto (pc := 66) 70 dX8_climb_66 rfl ?_
            refine E_top h2' ?_
            refine E_iadd (pc := 70) dX8_climb_70 ?_
            refine E_iast (pc := 71) dX8_climb_71 rfl hix ?_
            refine E_iincN (pc := 72) 3 dX8_climb_72 (Nat.le_of_ble_eq_true rfl) rfl rfl (lz := [_, _, _, _, _]) rfl ?_
            refine E_goto (pc := 75) 24 dX8_climb_75 rfl ?_
            refine E_heq (h' := hset h2 g_m_numbers 0 (64 * k + c / 2) (h2 g_m_numbers 0 (64 * k + c / 2) + stp c)) (by rw [ixN_nI (by omega)]) ?_
            exact E_drop 4 (hr _ (kp.set (by omega)) (by rw [mN_ch]; exact chN_RN rn hP) (by rw [mN_ch]; have := a1; simp only [] at this; omega) (by rw [mN_ch]; exact a2))
        · refine E_iload_n (pc := 43) 3 dX8_climb_43 rfl rfl ?_
          refine E_iret (pc := 44) dX8_climb_44 rfl ?_
          rw [clF_stop (neg_n4 q40)] at a1 a2
          rw [if_pos hif, e2, e1, en, ixN_nI (show m < 2 ^ 31 by omega)]
          exact ⟨by rw [← a1]; show some (nI i) = some (nI (0 + i)); rw [Nat.zero_add], a2, kp, rn⟩
    · have hg : ¬ (isM h w ∧ 1 ≤ n ∧ n ≤ 40) := fun z => bi_0.mp q17 z.2
      refine E_iconst (pc := 20) (-1) dX8_climb_20 (by decide) ?_
      refine E_iret (pc := 21) dX8_climb_21 rfl ?_
      rw [if_neg hg]; exact ⟨rfl, rfl⟩
set_option maxHeartbeats 1600000 in
theorem C_X8_bestOf {l : Launch} {G : GE} {h : Hp} (hI : MK h) : CT l G mX8_bestOf [vR g_model 0] h (fun r h' => r = some ((bstF (-1) (mv h) 6).1) ∧ h' = h) := by
  refine CT.of (lv := [_, _, _, _, _]) (by decide +kernel) (Nat.le_of_ble_eq_true rfl) rfl ?_
  refine E_bipush (pc := 0) (-4) dX8_bestOf_0 (by decide) ?_
  refine E_istore_n (pc := 2) 1 dX8_bestOf_2 rfl (Nat.le_of_ble_eq_true rfl) rfl (lz := [_, _, _, _, _]) rfl ?_
  refine E_iconst (pc := 3) (-1) dX8_bestOf_3 (by decide) ?_
  refine E_istore_n (pc := 4) 2 dX8_bestOf_4 rfl (Nat.le_of_ble_eq_true rfl) rfl (lz := [_, _, _, _, _]) rfl ?_
  refine E_iconst (pc := 5) (0) dX8_bestOf_5 (by decide) ?_
  refine E_istore_n (pc := 6) 3 dX8_bestOf_6 rfl (Nat.le_of_ble_eq_true rfl) rfl (lz := [_, _, _, _, _]) rfl ?_
  refine down (P := fun c => Ev l G mX8_bestOf _ 7 [some (vR g_model 0), some (vI (bstF (-1) (mv h) c).1), some (vI (bstF (-1) (mv h) c).2), some (vI (nI c)), none] [] h) 6 ?_ ?_ 0 (Nat.zero_le _)
  · refine E_iload_n (pc := 7) 3 dX8_bestOf_7 rfl rfl ?_
    refine E_bipush (pc := 8) (6) dX8_bestOf_8 (by decide) ?_
    refine E_icmp_ge (pc := 10) 51 dX8_bestOf_10 rfl (fun q10 => ?_) (fun q10 => absurd (show (6 : Int32) ≤ 6 by decide) q10)
    refine E_iload_n (pc := 51) 1 dX8_bestOf_51 rfl rfl ?_
    refine E_iret (pc := 52) dX8_bestOf_52 rfl ?_
    exact ⟨rfl, rfl⟩
  · intro c hc hn
    refine E_iload_n (pc := 7) 3 dX8_bestOf_7 rfl rfl ?_
    refine E_bipush (pc := 8) (6) dX8_bestOf_8 (by decide) ?_
    refine E_icmp_ge (pc := 10) 51 dX8_bestOf_10 rfl (fun q10 => absurd q10 (nI_ge (b := 6) hc (by decide))) (fun q10 => ?_)
    refine E_aload_n (pc := 13) 0 dX8_bestOf_13 rfl rfl ?_
    refine E_iload_n (pc := 14) 3 dX8_bestOf_14 rfl rfl ?_
    refine E_callV1 (pc := 15) dX8_bestOf_15 (C_X8_worthOrNone hI (by omega)) rfl kv_RX8_230 rfl rfl rfl ⟨Nat.le_of_ble_eq_true rfl, Nat.le_of_ble_eq_true rfl, Nat.le_of_ble_eq_true rfl, Nat.le_of_ble_eq_true rfl⟩ (Nat.le_of_ble_eq_true rfl) ?_
    refine E_istore (pc := 18) 4 dX8_bestOf_18 (Nat.le_of_ble_eq_true rfl) rfl (lz := [_, _, _, _, _]) rfl ?_
    refine E_iload (pc := 20) 4 dX8_bestOf_20 rfl ?_
    refine E_iload_n (pc := 22) 2 dX8_bestOf_22 rfl rfl ?_
    refine E_icmp_le (pc := 23) 30 dX8_bestOf_23 rfl (fun q23 => ?_) (fun q23 => ?_)
    · have hl := bst_n q23
      refine E_iload_n (pc := 30) 1 dX8_bestOf_30 rfl rfl ?_
      refine E_istore_n (pc := 31) 1 dX8_bestOf_31 rfl (Nat.le_of_ble_eq_true rfl) rfl (lz := [_, _, _, _, _]) rfl ?_
      refine E_iload (pc := 32) 4 dX8_bestOf_32 rfl ?_
      refine E_iload_n (pc := 34) 2 dX8_bestOf_34 rfl rfl ?_
      refine E_icmp_le (pc := 35) 43 dX8_bestOf_35 rfl (fun q35 => ?_) (fun q35 => absurd q23 q35)
      refine E_iload_n (pc := 43) 2 dX8_bestOf_43 rfl rfl ?_
      refine E_istore_n (pc := 44) 2 dX8_bestOf_44 rfl (Nat.le_of_ble_eq_true rfl) rfl (lz := [_, _, _, _, _]) rfl ?_
      refine E_iincN (pc := 45) 3 dX8_bestOf_45 (Nat.le_of_ble_eq_true rfl) rfl rfl (lz := [_, _, _, _, _]) rfl ?_
      refine E_goto (pc := 48) 7 dX8_bestOf_48 rfl ?_
      refine E_drop 4 ?_
      rw [hl] at hn
      exact hn
    · have hl := bst_y q23
      refine E_iload_n (pc := 26) 3 dX8_bestOf_26 rfl rfl ?_
      refine E_goto (pc := 27) 31 dX8_bestOf_27 rfl ?_
      refine E_istore_n (pc := 31) 1 dX8_bestOf_31 rfl (Nat.le_of_ble_eq_true rfl) rfl (lz := [_, _, _, _, _]) rfl ?_
      refine E_iload (pc := 32) 4 dX8_bestOf_32 rfl ?_
      refine E_iload_n (pc := 34) 2 dX8_bestOf_34 rfl rfl ?_
      refine E_icmp_le (pc := 35) 43 dX8_bestOf_35 rfl (fun q35 => absurd q35 q23) (fun q35 => ?_)
      refine E_iload (pc := 38) 4 dX8_bestOf_38 rfl ?_
      refine E_goto (pc := 40) 44 dX8_bestOf_40 rfl ?_
      refine E_istore_n (pc := 44) 2 dX8_bestOf_44 rfl (Nat.le_of_ble_eq_true rfl) rfl (lz := [_, _, _, _, _]) rfl ?_
      refine E_iincN (pc := 45) 3 dX8_bestOf_45 (Nat.le_of_ble_eq_true rfl) rfl rfl (lz := [_, _, _, _, _]) rfl ?_
      refine E_goto (pc := 48) 7 dX8_bestOf_48 rfl ?_
      refine E_drop 4 ?_
      rw [hl] at hn
      exact hn
set_option maxHeartbeats 1600000 in
theorem C_X8_best {l : Launch} {G : GE} {h : Hp} {a : Int32} (hI : MK h) : CT l G mX8_best [vR g_model 0, vI a] h (fun r h' => r = some (sBest (mv h) a) ∧ h' = h) := by
  refine CT.of (lv := [_, _, _]) (by decide +kernel) (Nat.le_of_ble_eq_true rfl) rfl ?_
  refine E_iload_n (pc := 0) 1 dX8_best_0 rfl rfl ?_
  refine E_i2l (pc := 1) dX8_best_1 ?_
  refine E_lconst (pc := 2) (0) dX8_best_2 (by decide) ?_
  refine E_lconst (pc := 3) (1) dX8_best_3 (by decide) ?_
  refine E_callS1 (pc := 4) dX8_best_4 (C_X8_in (a := 0) (b := 1) (by decide) (by decide)) rfl ks_RX8_71 rfl ⟨Nat.le_of_ble_eq_true rfl, Nat.le_of_ble_eq_true rfl, Nat.le_of_ble_eq_true rfl, Nat.le_of_ble_eq_true rfl⟩ (Nat.le_of_ble_eq_true rfl) ?_
  refine E_if_ne (pc := 7) 12 dX8_best_7 rfl (fun q7 => ?_) (fun q7 => ?_)
  · have ha : 0 ≤ a ∧ a ≤ 1 := Decidable.of_not_not (fun y => q7 (bi_0.mpr y))
    refine E_aload_n (pc := 12) 0 dX8_best_12 rfl rfl ?_
    refine E_callV1 (pc := 13) dX8_best_13 (C_X8_bestOf hI) rfl kv_RX8_233 rfl rfl rfl ⟨Nat.le_of_ble_eq_true rfl, Nat.le_of_ble_eq_true rfl, Nat.le_of_ble_eq_true rfl, Nat.le_of_ble_eq_true rfl⟩ (Nat.le_of_ble_eq_true rfl) ?_
    refine E_istore_n (pc := 16) 2 dX8_best_16 rfl (Nat.le_of_ble_eq_true rfl) rfl (lz := [_, _, _]) rfl ?_
    refine E_iload_n (pc := 17) 1 dX8_best_17 rfl rfl ?_
    refine E_if_ne (pc := 18) 25 dX8_best_18 rfl (fun q18 => ?_) (fun q18 => ?_)
    · refine E_iload_n (pc := 25) 2 dX8_best_25 rfl rfl ?_
      refine E_bipush (pc := 26) (-4) dX8_best_26 (by decide) ?_
      refine E_icmp_ne (pc := 28) 35 dX8_best_28 rfl (fun q28 => ?_) (fun q28 => ?_)
      · obtain ⟨j, hj, ej, e2, _⟩ := (bstF_or (-1) (mv h) 6).resolve_left q28
        refine E_aload_n (pc := 35) 0 dX8_best_35 rfl rfl ?_
        refine E_iload_n (pc := 36) 2 dX8_best_36 rfl rfl ?_
        refine E_eq (st' := [vI (nI j), vR g_model 0]) rfl (by rw [ej]) rfl ?_
        refine E_callV1 (pc := 37) dX8_best_37 (C_X8_worthOrNone hI (by omega)) rfl kv_RX8_230 rfl rfl rfl ⟨Nat.le_of_ble_eq_true rfl, Nat.le_of_ble_eq_true rfl, Nat.le_of_ble_eq_true rfl, Nat.le_of_ble_eq_true rfl⟩ (Nat.le_of_ble_eq_true rfl) ?_
        refine E_iret (pc := 40) dX8_best_40 rfl ?_
        first | exact ⟨by rw [sBest, if_pos ha, if_pos q18], rfl⟩ | exact ⟨by rw [sBest, if_pos ha, if_neg q18, if_pos q28], rfl⟩ | exact ⟨by rw [sBest, if_pos ha, if_neg q18, if_neg q28, e2], rfl⟩
      · refine E_iconst (pc := 31) (-1) dX8_best_31 (by decide) ?_
        refine E_goto (pc := 32) 40 dX8_best_32 rfl ?_
        refine E_iret (pc := 40) dX8_best_40 rfl ?_
        first | exact ⟨by rw [sBest, if_pos ha, if_pos q18], rfl⟩ | exact ⟨by rw [sBest, if_pos ha, if_neg q18, if_pos q28], rfl⟩ | exact ⟨by rw [sBest, if_pos ha, if_neg q18, if_neg q28, e2], rfl⟩
    · refine E_iload_n (pc := 21) 2 dX8_best_21 rfl rfl ?_
      refine E_goto (pc := 22) 40 dX8_best_22 rfl ?_
      refine E_iret (pc := 40) dX8_best_40 rfl ?_
      first | exact ⟨by rw [sBest, if_pos ha, if_pos q18], rfl⟩ | exact ⟨by rw [sBest, if_pos ha, if_neg q18, if_pos q28], rfl⟩ | exact ⟨by rw [sBest, if_pos ha, if_neg q18, if_neg q28, e2], rfl⟩
  · refine E_iconst (pc := 10) (-1) dX8_best_10 (by decide) ?_
    refine E_iret (pc := 11) dX8_best_11 rfl ?_
    exact ⟨by rw [sBest, if_neg (bi_0.mp q7)], rfl⟩
def mvP (h : Hp) (p : Nat) (v : Int32) (k : Nat) : Int32 := if 0 < h g_m_tenths 0 k then sWorth (upd (h g_m_holds 0) p v) (mN h k) (ixN (h g_m_tenths 0 k)) (h g_m_feet 0 k) else -1
theorem RV_upd {V : Nat → Int32} (h : RV V) {p : Nat} {v : Int32} (hp : p ≤ 3) (hv : 1 ≤ v ∧ v ≤ 20) : RV (upd V p v) := by
  intro i hi
  unfold upd
  by_cases e : i = p
  · rw [if_pos e, e]
    rcases (show p = 0 ∨ p = 1 ∨ p = 2 ∨ p = 3 by omega) with rfl | rfl | rfl | rfl <;> exact hv
  · rw [if_neg e]; exact h i hi
set_option maxHeartbeats 1600000 in
theorem C_X8_suits {l : Launch} {G : GE} {h : Hp} {p v : Int32} (hI : MK h) : CT l G mX8_suits [vR g_model 0, vI p, vI v] h (fun r h' => r = some (if (0 ≤ p ∧ p ≤ 3) ∧ 1 ≤ v ∧ v ≤ 20 then (bstF (-1) (mvP h (ixN p) v) 6).1 else -1) ∧ h' = h) := by
  refine CT.of (lv := [_, _, _, _, _]) (by decide +kernel) (Nat.le_of_ble_eq_true rfl) rfl ?_
  refine E_iload_n (pc := 0) 1 dX8_suits_0 rfl rfl ?_
  refine E_callS1 (pc := 1) dX8_suits_1 C_X8_isPart rfl ks_RX8_155 rfl ⟨Nat.le_of_ble_eq_true rfl, Nat.le_of_ble_eq_true rfl, Nat.le_of_ble_eq_true rfl, Nat.le_of_ble_eq_true rfl⟩ (Nat.le_of_ble_eq_true rfl) ?_
  refine E_if_eq (pc := 4) 19 dX8_suits_4 rfl (fun q4 => ?_) (fun q4 => ?_)
  · have hg : ¬ ((0 ≤ p ∧ p ≤ 3) ∧ 1 ≤ v ∧ v ≤ 20) := fun y => bi_0.mp q4 y.1
    refine E_iconst (pc := 19) (-1) dX8_suits_19 (by decide) ?_
    refine E_iret (pc := 20) dX8_suits_20 rfl ?_
    exact ⟨congrArg some (if_neg hg).symm, rfl⟩
  · refine E_iload_n (pc := 7) 2 dX8_suits_7 rfl rfl ?_
    refine E_i2l (pc := 8) dX8_suits_8 ?_
    refine E_lconst (pc := 9) (1) dX8_suits_9 (by decide) ?_
    refine E_ldc2 (pc := 10) (20) dX8_suits_10 kk_RX8_236 ?_
    refine E_callS1 (pc := 13) dX8_suits_13 (C_X8_in (a := 1) (b := 20) (by decide) (by decide)) rfl ks_RX8_71 rfl ⟨Nat.le_of_ble_eq_true rfl, Nat.le_of_ble_eq_true rfl, Nat.le_of_ble_eq_true rfl, Nat.le_of_ble_eq_true rfl⟩ (Nat.le_of_ble_eq_true rfl) ?_
    refine E_if_ne (pc := 16) 21 dX8_suits_16 rfl (fun q16 => ?_) (fun q16 => ?_)
    · have hp : 0 ≤ p ∧ p ≤ 3 := Decidable.of_not_not (fun y => q4 (bi_0.mpr y))
      have hv : 1 ≤ v ∧ v ≤ 20 := Decidable.of_not_not (fun y => q16 (bi_0.mpr y))
      rw [if_pos ⟨hp, hv⟩]
      obtain ⟨q, hq, eq⟩ := natof (x := p) 3 (by decide) hp.1 hp.2
      clear hp q4
      subst eq
      rw [ixN_nI (show q < 2 ^ 31 by omega)]
      refine E_aload_n (pc := 21) 0 dX8_suits_21 rfl rfl ?_
      refine E_getR0 (pc := 22) dX8_suits_22 fl_RX8_28 rfl rfl ?_
      refine E_iload_n (pc := 25) 1 dX8_suits_25 rfl rfl ?_
      refine E_iald (pc := 26) dX8_suits_26 rfl (vp_in_nI (by omega) (by decide)) ?_
      refine E_top (y := h g_m_holds 0 q) (by rw [ixN_nI (by omega)]) ?_
      refine E_istore_n (pc := 27) 3 dX8_suits_27 rfl (Nat.le_of_ble_eq_true rfl) rfl (lz := [_, _, _, _, _]) rfl ?_
      refine E_aload_n (pc := 28) 0 dX8_suits_28 rfl rfl ?_
      refine E_getR0 (pc := 29) dX8_suits_29 fl_RX8_28 rfl rfl ?_
      refine E_iload_n (pc := 32) 1 dX8_suits_32 rfl rfl ?_
      refine E_iload_n (pc := 33) 2 dX8_suits_33 rfl rfl ?_
      refine E_iast (pc := 34) dX8_suits_34 rfl (vp_in_nI (by omega) (by decide)) ?_
      refine E_heq (h' := hset h g_m_holds 0 q v) (by rw [ixN_nI (by omega)]) ?_
      refine E_aload_n (pc := 35) 0 dX8_suits_35 rfl rfl ?_
      refine E_callV1 (pc := 36) dX8_suits_36 (C_X8_bestOf ⟨by rw [hset_arr]; exact RV_upd hI.1 hq hv, fun k hk => (show mN (hset h g_m_holds 0 q v) k = mN h k by funext j; show hset h g_m_holds 0 q v g_m_numbers 0 _ = _; rw [hset_o2 (by decide)]) ▸ hI.2.1 k hk, fun k hk => by rw [hset_o2 (by decide)]; exact hI.2.2 k hk⟩) rfl kv_RX8_233 rfl rfl rfl ⟨Nat.le_of_ble_eq_true rfl, Nat.le_of_ble_eq_true rfl, Nat.le_of_ble_eq_true rfl, Nat.le_of_ble_eq_true rfl⟩ (Nat.le_of_ble_eq_true rfl) ?_
      refine E_istore (pc := 39) 4 dX8_suits_39 (Nat.le_of_ble_eq_true rfl) rfl (lz := [_, _, _, _, _]) rfl ?_
      refine E_aload_n (pc := 41) 0 dX8_suits_41 rfl rfl ?_
      refine E_getR0 (pc := 42) dX8_suits_42 fl_RX8_28 rfl rfl ?_
      refine E_iload_n (pc := 45) 1 dX8_suits_45 rfl rfl ?_
      refine E_iload_n (pc := 46) 3 dX8_suits_46 rfl rfl ?_
      refine E_iast (pc := 47) dX8_suits_47 rfl (vp_in_nI (by omega) (by decide)) ?_
      refine E_heq (h' := h) (by rw [ixN_nI (by omega), hset_same, hset_self]) ?_
      refine E_iload (pc := 48) 4 dX8_suits_48 rfl ?_
      refine E_iret (pc := 50) dX8_suits_50 rfl ?_
      refine ⟨congrArg some (congrArg Prod.fst (bstF_congr 6 (fun j _ => ?_))), rfl⟩
      unfold mv mvP
      rw [hset_o2 (show g_m_tenths ≠ g_m_holds by decide), hset_o2 (show g_m_feet ≠ g_m_holds by decide), hset_arr, show mN (hset h g_m_holds 0 q v) j = mN h j by funext i; show hset h g_m_holds 0 q v g_m_numbers 0 _ = _; rw [hset_o2 (by decide)]]
    · have hg : ¬ ((0 ≤ p ∧ p ≤ 3) ∧ 1 ≤ v ∧ v ≤ 20) := fun y => bi_0.mp q16 y.2
      refine E_iconst (pc := 19) (-1) dX8_suits_19 (by decide) ?_
      refine E_iret (pc := 20) dX8_suits_20 rfl ?_
      exact ⟨congrArg some (if_neg hg).symm, rfl⟩
