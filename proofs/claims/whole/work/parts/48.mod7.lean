/-! the model: order, barred, worth -/
theorem faF_eq {V N : Nat → Int32} {p T : Nat} : ∀ n i, i + n = T → (0 < n → ¬ sPlace V N (T - 1) p 0 < 0) → n = 0 ∨ (faF V N p n i < T ∧ True)
  | 0, _, _, _ => Or.inl rfl
  | n + 1, i, e, hh => by
    unfold faF
    by_cases hc : sPlace V N i p 0 < 0
    · rw [if_pos hc]
      rcases faF_eq n (i + 1) (by omega) (fun _ => hh (by omega)) with rfl | h1
      · exact absurd hc (by have := hh (by omega); rw [show T - 1 = i by omega] at this; exact this)
      · exact Or.inr h1
    · rw [if_neg hc]; exact Or.inr ⟨by omega, trivial⟩
set_option maxHeartbeats 1600000 in
theorem C_X8_overAt {l : Launch} {G : GE} {h : Hp} {w T p : Nat} (hw : w ≤ 5) (hT1 : 1 ≤ T) (hT8 : T ≤ 8) (hp : p ≤ 3) (hl : ¬ sPlace (h g_m_holds 0) (mN h w) (T - 1) p 0 < 0) : CT l G mX8_overAt [vR g_model 0, vI (nI w), vI (nI p)] h (fun r h' => r = some (nI (faF (h g_m_holds 0) (mN h w) p T 0)) ∧ h' = h) := by
  refine CT.of (lv := [_, _, _, _]) (by decide +kernel) (Nat.le_of_ble_eq_true rfl) rfl ?_
  refine E_iconst (pc := 0) (0) dX8_overAt_0 (by decide) ?_
  refine E_istore_n (pc := 1) 3 dX8_overAt_1 rfl (Nat.le_of_ble_eq_true rfl) rfl (lz := [_, _, _, _]) rfl ?_
  refine down (P := fun i => i < T → faF (h g_m_holds 0) (mN h w) p (T - i) i = faF (h g_m_holds 0) (mN h w) p T 0 → Ev l G mX8_overAt _ 2 [some (vR g_model 0), some (vI (nI w)), some (vI (nI p)), some (vI (nI i))] [] h) T ?_ ?_ 0 (Nat.zero_le _) (by omega) rfl
  · intro hi
    exact absurd hi (Nat.lt_irrefl _)
  · intro i hi hn _ hf
    have hs : T - i = (T - (i + 1)) + 1 := by omega
    rw [hs] at hf
    refine E_aload_n (pc := 2) 0 dX8_overAt_2 rfl rfl ?_
    refine E_iload_n (pc := 3) 1 dX8_overAt_3 rfl rfl ?_
    refine E_iload_n (pc := 4) 3 dX8_overAt_4 rfl rfl ?_
    refine E_iload_n (pc := 5) 2 dX8_overAt_5 rfl rfl ?_
    refine E_iconst (pc := 6) (0) dX8_overAt_6 (by decide) ?_
    refine E_callV1 (pc := 7) dX8_overAt_7 (C_X8_placeOf (ax := 0) hw (by omega) hp (by decide)) rfl kv_RX8_173 rfl rfl rfl ⟨Nat.le_of_ble_eq_true rfl, Nat.le_of_ble_eq_true rfl, Nat.le_of_ble_eq_true rfl, Nat.le_of_ble_eq_true rfl⟩ (Nat.le_of_ble_eq_true rfl) ?_
    refine E_if_ge (pc := 10) 19 dX8_overAt_10 rfl (fun q10 => ?_) (fun q10 => ?_)
    · have hr : faF (h g_m_holds 0) (mN h w) p T 0 = i := by rw [← hf]; exact if_neg (Int32.not_lt.mpr q10)
      refine E_iload_n (pc := 19) 3 dX8_overAt_19 rfl rfl ?_
      refine E_iret (pc := 20) dX8_overAt_20 rfl ?_
      exact ⟨by rw [hr], rfl⟩
    · have hf2 : faF (h g_m_holds 0) (mN h w) p (T - (i + 1)) (i + 1) = faF (h g_m_holds 0) (mN h w) p T 0 := by rw [← hf]; exact (if_pos (Int32.not_le.mp q10)).symm
      have hi1 : i + 1 < T := by
        rcases Nat.lt_or_ge (i + 1) T with z | z
        · exact z
        · exact absurd (Int32.not_le.mp q10) (by rw [show i = T - 1 by omega]; exact hl)
      refine E_iincN (pc := 13) 3 dX8_overAt_13 (Nat.le_of_ble_eq_true rfl) rfl rfl (lz := [_, _, _, _]) rfl ?_
      refine E_goto (pc := 16) 2 dX8_overAt_16 rfl ?_
      exact hn hi1 hf2
set_option maxHeartbeats 1600000 in
theorem C_X8_order {l : Launch} {G : GE} {h : Hp} {w : Int32} (hI : MK h) : CT l G mX8_order [vR g_model 0, vI w] h (fun r h' => r = some (if isM h w then sOrder (h g_m_holds 0) (mN h (ixN w)) (ixN (h g_m_tenths 0 (ixN w))) else -1) ∧ h' = h) := by
  refine CT.of (lv := [_, _, _, _, _]) (by decide +kernel) (Nat.le_of_ble_eq_true rfl) rfl ?_
  refine E_aload_n (pc := 0) 0 dX8_order_0 rfl rfl ?_
  refine E_iload_n (pc := 1) 1 dX8_order_1 rfl rfl ?_
  refine E_callV1 (pc := 2) dX8_order_2 C_X8_isWay rfl kv_RX8_139 rfl rfl rfl ⟨Nat.le_of_ble_eq_true rfl, Nat.le_of_ble_eq_true rfl, Nat.le_of_ble_eq_true rfl, Nat.le_of_ble_eq_true rfl⟩ (Nat.le_of_ble_eq_true rfl) ?_
  refine E_if_ne (pc := 5) 10 dX8_order_5 rfl (fun q5 => ?_) (fun q5 => ?_)
  · have hg : isM h w := Decidable.of_not_not (fun z => q5 (bi_0.mpr z))
    obtain ⟨k, T, hk, ew, hT1, hT8, hT, e1, e2⟩ := isM_nat hI hg
    rw [if_pos hg, e2, e1]
    clear hg q5 e1 e2
    subst ew
    refine E_aload_n (pc := 10) 0 dX8_order_10 rfl rfl ?_
    refine E_iload_n (pc := 11) 1 dX8_order_11 rfl rfl ?_
    refine E_callV1 (pc := 12) dX8_order_12 (C_X8_getsAcross hk hT hT1 hT8) rfl kv_RX8_181 rfl rfl rfl ⟨Nat.le_of_ble_eq_true rfl, Nat.le_of_ble_eq_true rfl, Nat.le_of_ble_eq_true rfl, Nat.le_of_ble_eq_true rfl⟩ (Nat.le_of_ble_eq_true rfl) ?_
    refine E_if_ne (pc := 15) 21 dX8_order_15 rfl (fun q15 => ?_) (fun q15 => ?_)
    · have hg : sGets (h g_m_holds 0) (mN h k) T := Decidable.of_not_not (fun z => q15 (bi_0.mpr z))
      have hr : sOrder (h g_m_holds 0) (mN h k) T = ordO (fun p => faF (h g_m_holds 0) (mN h k) p T 0) T := if_pos hg
      rw [hr]
      have hlast : ∀ p, p ≤ 3 → ¬ sPlace (h g_m_holds 0) (mN h k) (T - 1) p 0 < 0 := fun p hp z => absurd (Int32.lt_trans z (((acP_iff _ _ _).mpr hg) p (by omega)).2) Int32.lt_irrefl
      refine E_iconst (pc := 21) (0) dX8_order_21 (by decide) ?_
      refine E_istore_n (pc := 22) 2 dX8_order_22 rfl (Nat.le_of_ble_eq_true rfl) rfl (lz := [_, _, _, _, _]) rfl ?_
      refine E_iconst (pc := 23) (0) dX8_order_23 (by decide) ?_
      refine E_istore_n (pc := 24) 3 dX8_order_24 rfl (Nat.le_of_ble_eq_true rfl) rfl (lz := [_, _, _, _, _]) rfl ?_
      refine down (P := fun t => Ev l G mX8_order _ 25 [some (vR g_model 0), some (vI (nI k)), some (vI (ordO (fun p => faF (h g_m_holds 0) (mN h k) p T 0) t)), some (vI (nI t)), none] [] h) T ?_ ?_ 0 (Nat.zero_le _)
      · refine E_iload_n (pc := 25) 3 dX8_order_25 rfl rfl ?_
        refine E_aload_n (pc := 26) 0 dX8_order_26 rfl rfl ?_
        refine E_getR0 (pc := 27) dX8_order_27 fl_RX8_37 rfl rfl ?_
        refine E_iload_n (pc := 30) 1 dX8_order_30 rfl rfl ?_
        refine E_iald (pc := 31) dX8_order_31 rfl (vp_in_nI (by omega) (by decide)) ?_
        refine E_top (y := nI T) (by rw [ixN_nI (by omega)]; exact hT) ?_
        refine E_icmp_ge (pc := 32) 78 dX8_order_32 rfl (fun q32 => ?_) (fun q32 => absurd (Int32.le_refl _) q32)
        refine E_iload_n (pc := 78) 2 dX8_order_78 rfl rfl ?_
        refine E_iret (pc := 79) dX8_order_79 rfl ?_
        exact ⟨rfl, rfl⟩
      · intro t ht hn
        refine E_iload_n (pc := 25) 3 dX8_order_25 rfl rfl ?_
        refine E_aload_n (pc := 26) 0 dX8_order_26 rfl rfl ?_
        refine E_getR0 (pc := 27) dX8_order_27 fl_RX8_37 rfl rfl ?_
        refine E_iload_n (pc := 30) 1 dX8_order_30 rfl rfl ?_
        refine E_iald (pc := 31) dX8_order_31 rfl (vp_in_nI (by omega) (by decide)) ?_
        refine E_top (y := nI T) (by rw [ixN_nI (by omega)]; exact hT) ?_
        refine E_icmp_ge (pc := 32) 78 dX8_order_32 rfl (fun q32 => absurd q32 (nI_ge ht (by omega))) (fun q32 => ?_)
        refine E_iconst (pc := 35) (0) dX8_order_35 (by decide) ?_
        refine E_istore (pc := 36) 4 dX8_order_36 (Nat.le_of_ble_eq_true rfl) rfl (lz := [_, _, _, _, _]) rfl ?_
        refine down (P := fun p => Ev l G mX8_order _ 38 [some (vR g_model 0), some (vI (nI k)), some (vI (ordI (fun p => faF (h g_m_holds 0) (mN h k) p T 0) t (ordO (fun p => faF (h g_m_holds 0) (mN h k) p T 0) t) p)), some (vI (nI t)), some (vI (nI p))] [] h) 4 ?_ ?_ 0 (Nat.zero_le _)
        · refine E_iload (pc := 38) 4 dX8_order_38 rfl ?_
          refine E_iconst (pc := 40) (4) dX8_order_40 (by decide) ?_
          refine E_icmp_ge (pc := 41) 72 dX8_order_41 rfl (fun q41 => ?_) (fun q41 => absurd (show (4 : Int32) ≤ 4 by decide) q41)
          refine E_iincN (pc := 72) 3 dX8_order_72 (Nat.le_of_ble_eq_true rfl) rfl rfl (lz := [_, _, _, _, _]) rfl ?_
          refine E_goto (pc := 75) 25 dX8_order_75 rfl ?_
          exact E_drop 4 hn
        · intro p hp hm
          refine E_iload (pc := 38) 4 dX8_order_38 rfl ?_
          refine E_iconst (pc := 40) (4) dX8_order_40 (by decide) ?_
          refine E_icmp_ge (pc := 41) 72 dX8_order_41 rfl (fun q41 => absurd q41 (nI_ge (b := 4) hp (by decide))) (fun q41 => ?_)
          refine E_aload_n (pc := 44) 0 dX8_order_44 rfl rfl ?_
          refine E_iload_n (pc := 45) 1 dX8_order_45 rfl rfl ?_
          refine E_iload (pc := 46) 4 dX8_order_46 rfl ?_
          refine E_callV1 (pc := 48) dX8_order_48 (C_X8_overAt hk hT1 hT8 (by omega) (hlast p (by omega))) rfl kv_RX8_191 rfl rfl rfl ⟨Nat.le_of_ble_eq_true rfl, Nat.le_of_ble_eq_true rfl, Nat.le_of_ble_eq_true rfl, Nat.le_of_ble_eq_true rfl⟩ (Nat.le_of_ble_eq_true rfl) ?_
          refine E_iload_n (pc := 51) 3 dX8_order_51 rfl rfl ?_
          refine E_icmp_ne (pc := 52) 64 dX8_order_52 rfl (fun q52 => ?_) (fun q52 => ?_)
          · have hl : ordI (fun p => faF (h g_m_holds 0) (mN h k) p T 0) t (ordO (fun p => faF (h g_m_holds 0) (mN h k) p T 0) t) (p + 1) = ordI (fun p => faF (h g_m_holds 0) (mN h k) p T 0) t (ordO (fun p => faF (h g_m_holds 0) (mN h k) p T 0) t) p := if_neg (fun z => q52 (congrArg nI z))
            refine E_iload_n (pc := 64) 2 dX8_order_64 rfl rfl ?_
            refine E_istore_n (pc := 65) 2 dX8_order_65 rfl (Nat.le_of_ble_eq_true rfl) rfl (lz := [_, _, _, _, _]) rfl ?_
            refine E_iincN (pc := 66) 4 dX8_order_66 (Nat.le_of_ble_eq_true rfl) rfl rfl (lz := [_, _, _, _, _]) rfl ?_
            refine E_goto (pc := 69) 38 dX8_order_69 rfl ?_
            rw [hl] at hm
            exact hm
          · have hl : ordI (fun p => faF (h g_m_holds 0) (mN h k) p T 0) t (ordO (fun p => faF (h g_m_holds 0) (mN h k) p T 0) t) (p + 1) = 4 * ordI (fun p => faF (h g_m_holds 0) (mN h k) p T 0) t (ordO (fun p => faF (h g_m_holds 0) (mN h k) p T 0) t) p + nI p := by rw [Int32.mul_comm]; exact if_pos ((nI_eq (by have := faF_le (h g_m_holds 0) (mN h k) p T 0; omega) (by omega)).mp q52)
            refine E_iconst (pc := 55) (4) dX8_order_55 (by decide) ?_
            refine E_iload_n (pc := 56) 2 dX8_order_56 rfl rfl ?_
            refine E_imul (pc := 57) dX8_order_57 ?_
            refine E_iload (pc := 58) 4 dX8_order_58 rfl ?_
            refine E_iadd (pc := 60) dX8_order_60 ?_
            refine E_goto (pc := 61) 65 dX8_order_61 rfl ?_
            refine E_istore_n (pc := 65) 2 dX8_order_65 rfl (Nat.le_of_ble_eq_true rfl) rfl (lz := [_, _, _, _, _]) rfl ?_
            refine E_iincN (pc := 66) 4 dX8_order_66 (Nat.le_of_ble_eq_true rfl) rfl rfl (lz := [_, _, _, _, _]) rfl ?_
            refine E_goto (pc := 69) 38 dX8_order_69 rfl ?_
            rw [hl] at hm
            exact hm
    · refine E_bipush (pc := 18) (-4) dX8_order_18 (by decide) ?_
      refine E_iret (pc := 20) dX8_order_20 rfl ?_
      exact ⟨congrArg some (if_neg (bi_0.mp q15)).symm, rfl⟩
  · have hg : ¬ isM h w := bi_0.mp q5
    rw [if_neg hg]
    refine E_iconst (pc := 8) (-1) dX8_order_8 (by decide) ?_
    refine E_iret (pc := 9) dX8_order_9 rfl ?_
    exact ⟨rfl, rfl⟩
