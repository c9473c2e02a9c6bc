/-! the model: text -/
def QTextM (h : Hp) (R : Nat × Nat × Nat × (Nat → Int32)) : QT := fun r h' => r = some (if R.1 = 0 then nI R.2.2.1 else -10 - nI R.2.1) ∧ h' g_model 0 1 = 0 ∧ h' g_model 0 2 = nI R.1 ∧ (∀ j, j < 18 → h' g_m_holds 0 j = if R.1 = 0 then R.2.2.2 j else h g_m_holds 0 j) ∧ (∀ x, x ≠ g_model → x ≠ g_m_reads → x ≠ g_m_holds → h' x = h x) ∧ ∀ k, ¬ (1 ≤ k ∧ k ≤ 8) → k ≠ 16 → h' g_model 0 k = h g_model 0 k
set_option maxHeartbeats 1600000 in
theorem tx_end {l : Launch} {G : GE} {h H : Hp} {x : Int32} {R : Nat × Nat × Nat × (Nat → Int32)} (hM : Mr h H) (hle : R.1 ≤ 4) (h3 : H g_model 0 3 = nI R.1) (h4 : ¬ R.1 = 0 → H g_model 0 4 = nI R.2.1) (h0 : R.1 = 0 → x = nI R.2.2.1 ∧ ∀ j, j < 18 → H g_m_reads 0 j = R.2.2.2 j) : Ev l G mX8_text (fkM G mX8_text (QTextM h R)) 71 [some (vR g_model 0), some (vI x), none] [] H := by
  refine E_aload_n (pc := 71) 0 dX8_text_71 rfl rfl ?_
  refine E_iconst (pc := 72) (0) dX8_text_72 (by decide) ?_
  refine E_put (pc := 73) dX8_text_73 fp_RX8_67 rfl rfl ?_
  refine E_aload_n (pc := 76) 0 dX8_text_76 rfl rfl ?_
  refine E_aload_n (pc := 77) 0 dX8_text_77 rfl rfl ?_
  refine E_getI (pc := 78) dX8_text_78 fl_RX8_75 rfl rfl ?_
  refine E_eq (st' := [vI (nI R.1), vR g_model 0]) rfl (by rw [hset_k (by decide), h3]) rfl ?_
  refine E_put (pc := 81) dX8_text_81 fp_RX8_128 rfl rfl ?_
  generalize hH1 : hset (hset H g_model 0 1 0) g_model 0 2 (nI R.1) = H1
  have j3 : H1 g_model 0 3 = nI R.1 := by rw [← hH1, hset_k (by decide), hset_k (by decide)]; exact h3
  have j4 : H1 g_model 0 4 = H g_model 0 4 := by rw [← hH1, hset_k (by decide), hset_k (by decide)]
  have j1 : H1 g_model 0 1 = 0 := by rw [← hH1, hset_k (by decide)]; exact hset_eq _ _ _ _ _
  have j2 : H1 g_model 0 2 = nI R.1 := by rw [← hH1]; exact hset_eq _ _ _ _ _
  have jx : ∀ x, x ≠ g_model → x ≠ g_m_reads → H1 x = h x := fun x a b => by rw [← hH1, hset_t a, hset_t a]; exact hM.1 x a b
  have jr : H1 g_m_reads 0 = H g_m_reads 0 := by rw [← hH1, hset_t (by decide), hset_t (by decide)]
  have jk : ∀ k, ¬ (1 ≤ k ∧ k ≤ 8) → k ≠ 16 → H1 g_model 0 k = h g_model 0 k := fun k a b => by rw [← hH1, hset_k (b := k) (by omega), hset_k (b := k) (by omega)]; exact hM.2 k (by omega) b
  refine E_aload_n (pc := 84) 0 dX8_text_84 rfl rfl ?_
  refine E_getI (pc := 85) dX8_text_85 fl_RX8_75 rfl rfl ?_
  refine E_top j3 ?_
  refine E_if_le (pc := 88) 99 dX8_text_88 rfl (fun q88 => ?_) (fun q88 => ?_)
  · have hz : R.1 = 0 := Decidable.of_not_not (fun z => Int32.not_lt.mpr q88 (nI_w z hle))
    refine E_iconst (pc := 99) (0) dX8_text_99 (by decide) ?_
    refine E_istore_n (pc := 100) 2 dX8_text_100 rfl (Nat.le_of_ble_eq_true rfl) rfl (lz := [_, _, _]) rfl ?_
    obtain ⟨ex, er⟩ := h0 hz
    refine E_heq (fed_0 R.2.2.2 H1 g_m_holds 0).symm ?_
    refine down (P := fun i => Ev l G mX8_text (fkM G mX8_text (QTextM h R)) 101 [some (vR g_model 0), some (vI x), some (vI (nI i))] [] (fed R.2.2.2 H1 g_m_holds 0 i)) 18 ?_ ?_ 0 (Nat.zero_le _)
    · refine E_iload_n (pc := 101) 2 dX8_text_101 rfl rfl ?_
      refine E_bipush (pc := 102) (18) dX8_text_102 (by decide) ?_
      refine E_icmp_ge (pc := 104) 125 dX8_text_104 rfl (fun q104 => ?_) (fun q104 => absurd (show (18 : Int32) ≤ 18 by decide) q104)
      refine E_iload_n (pc := 125) 1 dX8_text_125 rfl rfl ?_
      refine E_iret (pc := 126) dX8_text_126 rfl ?_
      refine ⟨by rw [if_pos hz, ex], by rw [fed_a (by decide)]; exact j1, by rw [fed_a (by decide)]; exact j2, fun j hj => ?_, fun x a b c => by rw [fed_a c]; exact jx x a b, fun k a b => by rw [fed_a (by decide)]; exact jk k a b⟩
      have := fed_in (by' := R.2.2.2) (h := H1) (t := g_m_holds) (L := 0) (i := 18) hj
      rw [Nat.zero_add] at this
      rw [if_pos hz, this]
    · intro i hi hn
      refine E_iload_n (pc := 101) 2 dX8_text_101 rfl rfl ?_
      refine E_bipush (pc := 102) (18) dX8_text_102 (by decide) ?_
      refine E_icmp_ge (pc := 104) 125 dX8_text_104 rfl (fun q104 => absurd q104 (nI_ge (b := 18) hi (by decide))) (fun q104 => ?_)
      refine E_aload_n (pc := 107) 0 dX8_text_107 rfl rfl ?_
      refine E_getR0 (pc := 108) dX8_text_108 fl_RX8_28 rfl rfl ?_
      refine E_iload_n (pc := 111) 2 dX8_text_111 rfl rfl ?_
      refine E_aload_n (pc := 112) 0 dX8_text_112 rfl rfl ?_
      refine E_getR0 (pc := 113) dX8_text_113 fl_RX8_31 rfl rfl ?_
      refine E_iload_n (pc := 116) 2 dX8_text_116 rfl rfl ?_
      refine E_iald (pc := 117) dX8_text_117 rfl (vp_in_nI (by omega) (by decide)) ?_
      refine E_top (y := R.2.2.2 i) (by rw [ixN_nI (by omega), fed_a (by decide), jr]; exact er i hi) ?_
      refine E_iast (pc := 118) dX8_text_118 rfl (vp_in_nI (by omega) (by decide)) ?_
      refine E_iincN (pc := 119) 2 dX8_text_119 (Nat.le_of_ble_eq_true rfl) rfl rfl (lz := [_, _, _]) rfl ?_
      refine E_goto (pc := 122) 101 dX8_text_122 rfl ?_
      refine E_heq (by have := fed_s R.2.2.2 H1 g_m_holds 0 i; rw [Nat.zero_add] at this; rw [ixN_nI (by omega)]; exact this) hn
  · have hz : ¬ R.1 = 0 := fun z => q88 (by rw [z]; exact Int32.le_refl _)
    refine E_bipush (pc := 91) (-10) dX8_text_91 (by decide) ?_
    refine E_aload_n (pc := 93) 0 dX8_text_93 rfl rfl ?_
    refine E_getI (pc := 94) dX8_text_94 fl_RX8_81 rfl rfl ?_
    refine E_isub (pc := 97) dX8_text_97 ?_
    refine E_iret (pc := 98) dX8_text_98 rfl ?_
    exact ⟨by rw [if_neg hz, j4, h4 hz], j1, j2, fun j hj => by rw [if_neg hz, jx g_m_holds (by decide) (by decide)], fun x a b _ => jx x a b, jk⟩
def TmI (h h2 : Hp) (told : Int32) (dr : Nat → Int32) : Prop := Mr h h2 ∧ h2 g_model 0 16 = told ∧ ∀ j, j < 18 → h2 g_m_reads 0 j = dr j
set_option maxHeartbeats 4000000 in
theorem C_X8_text {l : Launch} {G : GE} {h : Hp} {L : Nat} (hL : h g_model 0 1 = nI L) (hL2 : L ≤ 200) (hT : MTb h) (hB : byR (h g_m_tape 0)) : CT l G mX8_text [vR g_model 0] h (QTextM h (psF (h g_m_tape 0) L 201 0 0 usual 0)) := by
  refine CT.of (lv := [_, _, _]) (by decide +kernel) (Nat.le_of_ble_eq_true rfl) rfl ?_
  generalize hRe : psF (h g_m_tape 0) L 201 0 0 usual 0 = R
  have hR4 : R.1 ≤ 4 := by rw [← hRe]; exact psF_le _ _ _ _ _ _ _
  have main : ∀ i, i ≤ 201 → ∀ h2 p told dr, TmI h h2 told dr → TkS (h g_m_tape 0) h2 L (tkA (h g_m_tape 0) L p) → p ≤ L → i ≤ p → psF (h g_m_tape 0) L (201 - i) p told dr i = R → Ev l G mX8_text (fkM G mX8_text (QTextM h R)) 47 [some (vR g_model 0), some (vI (nI i)), none] [] h2 := by
    refine down (P := fun i => ∀ h2 p told dr, TmI h h2 told dr → TkS (h g_m_tape 0) h2 L (tkA (h g_m_tape 0) L p) → p ≤ L → i ≤ p → psF (h g_m_tape 0) L (201 - i) p told dr i = R → Ev l G mX8_text (fkM G mX8_text (QTextM h R)) 47 [some (vR g_model 0), some (vI (nI i)), none] [] h2) 201 ?_ ?_
    · intro h2 p told dr tx tk hpL hip hps
      exact absurd hip (by omega)
    · intro i hi hk h2 p told dr tx tk hpL hip hps
      obtain ⟨x1, x2, x3⟩ := tx
      rw [show 201 - i = (201 - (i + 1)) + 1 by omega] at hps
      have hA := tkA_le (B := h g_m_tape 0) hpL
      have hEE := tkE_le (B := h g_m_tape 0) hA.2
      have fle := tkF_le (h g_m_tape 0) L (tkA (h g_m_tape 0) L p)
      have kle := tkK_le (h g_m_tape 0) L (tkA (h g_m_tape 0) L p)
      obtain ⟨t6, t3, t4, t5⟩ := tk
      unfold psF at hps
      generalize hae : tkA (h g_m_tape 0) L p = a at t6 t3 t4 t5 hA hEE fle kle hps
      by_cases hf : tkF (h g_m_tape 0) L a = 0
      · obtain ⟨u5, u7, u8⟩ := t5 hf
        rw [hf] at t3
        rw [if_neg (not_not_intro hf)] at hps
        by_cases hz : tkK (h g_m_tape 0) L a = 0
        · rw [if_pos hz] at hps
          refine E_aload_n (pc := 47) 0 dX8_text_47 rfl rfl ?_
          refine E_getI (pc := 48) dX8_text_48 fl_RX8_75 rfl rfl ?_
          refine E_top t3 ?_
          refine E_if_ne (pc := 51) 71 dX8_text_51 rfl (fun q51 => absurd rfl q51) (fun q51 => ?_)
          refine E_aload_n (pc := 54) 0 dX8_text_54 rfl rfl ?_
          refine E_getI (pc := 55) dX8_text_55 fl_RX8_94 rfl rfl ?_
          refine E_top u7 ?_
          refine E_if_eq (pc := 58) 71 dX8_text_58 rfl (fun q58 => ?_) (fun q58 => absurd (by rw [hz]; rfl) q58)
          rw [← hps]
          exact tx_end x1 (Nat.zero_le _) t3 (fun z => absurd rfl z) (fun _ => ⟨rfl, x3⟩)
        · rw [if_neg hz] at hps
          by_cases ho : tkK (h g_m_tape 0) L a = 1
          · rw [if_neg (not_not_intro ho)] at hps
            have hnm := tkN_lt ho hf
            have hgt := tkE_gt ho
            have hv6 : h2 g_model 0 8 = nI (tkN (h g_m_tape 0) L a) := by rw [u8 (Or.inl ho)]; exact if_pos (tkK_1 ho).2
            have tle := lnT_le (h g_m_tape 0) L (tkE (h g_m_tape 0) L a) (tkN (h g_m_tape 0) L a) told
            refine E_aload_n (pc := 47) 0 dX8_text_47 rfl rfl ?_
            refine E_getI (pc := 48) dX8_text_48 fl_RX8_75 rfl rfl ?_
            refine E_top t3 ?_
            refine E_if_ne (pc := 51) 71 dX8_text_51 rfl (fun q51 => absurd rfl q51) (fun q51 => ?_)
            refine E_aload_n (pc := 54) 0 dX8_text_54 rfl rfl ?_
            refine E_getI (pc := 55) dX8_text_55 fl_RX8_94 rfl rfl ?_
            refine E_top u7 ?_
            refine E_if_eq (pc := 58) 71 dX8_text_58 rfl (fun q58 => absurd q58 (nI_n0 hz (by omega))) (fun q58 => ?_)
            refine E_aload_n (pc := 61) 0 dX8_text_61 rfl rfl ?_
            refine E_callV (pc := 62) dX8_text_62 (C_X8_readLine t3 u5 t6 (by rw [u7, ho]; rfl) hv6 hnm (by rw [x1.2 1 (by decide) (by decide)]; exact hL) hL2 hEE.2 (x1.tb hT) (by rw [x1.tp]; exact hB)) rfl kv_RX8_125 rfl rfl rfl ⟨Nat.le_of_ble_eq_true rfl, Nat.le_of_ble_eq_true rfl, Nat.le_of_ble_eq_true rfl, Nat.le_of_ble_eq_true rfl⟩ (Nat.le_of_ble_eq_true rfl) ?_
            rintro _ h5 ⟨rfl, w1, w2, w3⟩
            rw [x1.tp, x2] at w2 w3
            have y1 : Mr h h5 := ⟨fun x a b => (w1.1 x a b).trans (x1.1 x a b), fun k a b => (w1.2 k a b).trans (x1.2 k a b)⟩
            refine E_iincN (pc := 65) 1 dX8_text_65 (Nat.le_of_ble_eq_true rfl) rfl rfl (lz := [_, _, _]) rfl ?_
            refine E_goto (pc := 68) 47 dX8_text_68 rfl ?_
            by_cases hl : lnT (h g_m_tape 0) L (tkE (h g_m_tape 0) L a) (tkN (h g_m_tape 0) L a) told = 0
            · rw [if_neg (not_not_intro hl)] at hps
              obtain ⟨v1, v2, v3⟩ := w3 hl
              have hle := lnE_le (B := h g_m_tape 0) (nm := tkN (h g_m_tape 0) L a) hEE.2
              refine hk h5 _ _ (upd dr (ixN (slS (h g_m_tape 0) L (tkE (h g_m_tape 0) L a) (tkN (h g_m_tape 0) L a))) (tkV (h g_m_tape 0) L (lnA (h g_m_tape 0) L (tkE (h g_m_tape 0) L a) (tkN (h g_m_tape 0) L a)))) ⟨y1, v1, fun j hj => ?_⟩ v3 hle.2 (by omega) hps
              rw [v2]; unfold upd; by_cases e : j = ixN (slS (h g_m_tape 0) L (tkE (h g_m_tape 0) L a) (tkN (h g_m_tape 0) L a)); exact (by rw [if_pos e, if_pos e]); rw [if_neg e, if_neg e]; exact x3 j hj
            · rw [if_pos hl] at hps
              obtain ⟨v3, v4⟩ := w2 hl
              refine E_aload_n (pc := 47) 0 dX8_text_47 rfl rfl ?_
              refine E_getI (pc := 48) dX8_text_48 fl_RX8_75 rfl rfl ?_
              refine E_top v3 ?_
              refine E_if_ne (pc := 51) 71 dX8_text_51 rfl (fun q51 => ?_) (fun q51 => absurd q51 (nI_n0 hl (by omega)))
              rw [← hps]
              exact tx_end y1 tle v3 (fun _ => v4) (fun z => absurd z hl)
          · rw [if_pos ho] at hps
            refine E_aload_n (pc := 47) 0 dX8_text_47 rfl rfl ?_
            refine E_getI (pc := 48) dX8_text_48 fl_RX8_75 rfl rfl ?_
            refine E_top t3 ?_
            refine E_if_ne (pc := 51) 71 dX8_text_51 rfl (fun q51 => absurd rfl q51) (fun q51 => ?_)
            refine E_aload_n (pc := 54) 0 dX8_text_54 rfl rfl ?_
            refine E_getI (pc := 55) dX8_text_55 fl_RX8_94 rfl rfl ?_
            refine E_top u7 ?_
            refine E_if_eq (pc := 58) 71 dX8_text_58 rfl (fun q58 => absurd q58 (nI_n0 hz (by omega))) (fun q58 => ?_)
            refine E_aload_n (pc := 61) 0 dX8_text_61 rfl rfl ?_
            refine E_callV0 (pc := 62) dX8_text_62 (C_mlineBad t3 (by rw [u7]; exact fun z => ho ((nI_eq (b := 1) (by omega) (by decide)).mp z))) rfl kv_RX8_125 rfl rfl rfl ⟨Nat.le_of_ble_eq_true rfl, Nat.le_of_ble_eq_true rfl, Nat.le_of_ble_eq_true rfl, Nat.le_of_ble_eq_true rfl⟩ (Nat.le_of_ble_eq_true rfl) ?_
            refine E_iincN (pc := 65) 1 dX8_text_65 (Nat.le_of_ble_eq_true rfl) rfl rfl (lz := [_, _, _]) rfl ?_
            refine E_goto (pc := 68) 47 dX8_text_68 rfl ?_
            refine E_aload_n (pc := 47) 0 dX8_text_47 rfl rfl ?_
            refine E_getI (pc := 48) dX8_text_48 fl_RX8_75 rfl rfl ?_
            refine E_top (flH_3 _ _) ?_
            refine E_if_ne (pc := 51) 71 dX8_text_51 rfl (fun q51 => ?_) (fun q51 => absurd q51 (by decide))
            rw [← hps]
            exact tx_end x1.fl (show 2 ≤ 4 by decide) (flH_3 _ _) (fun _ => by rw [flH_4]; exact t6) (fun z => absurd z (show ¬ (2 : Nat) = 0 by decide))
      · rw [if_pos hf] at hps
        refine E_aload_n (pc := 47) 0 dX8_text_47 rfl rfl ?_
        refine E_getI (pc := 48) dX8_text_48 fl_RX8_75 rfl rfl ?_
        refine E_top t3 ?_
        refine E_if_ne (pc := 51) 71 dX8_text_51 rfl (fun q51 => ?_) (fun q51 => absurd q51 (nI_n0 hf (by omega)))
        rw [← hps]
        exact tx_end x1 (show tkF (h g_m_tape 0) L a ≤ 4 by omega) t3 (fun _ => t4 hf) (fun z => absurd z hf)
  refine E_aload_n (pc := 0) 0 dX8_text_0 rfl rfl ?_
  refine E_iconst (pc := 1) (0) dX8_text_1 (by decide) ?_
  refine E_put (pc := 2) dX8_text_2 fp_RX8_75 rfl rfl ?_
  refine E_aload_n (pc := 5) 0 dX8_text_5 rfl rfl ?_
  refine E_iconst (pc := 6) (0) dX8_text_6 (by decide) ?_
  refine E_put (pc := 7) dX8_text_7 fp_RX8_88 rfl rfl ?_
  refine E_aload_n (pc := 10) 0 dX8_text_10 rfl rfl ?_
  refine E_iconst (pc := 11) (0) dX8_text_11 (by decide) ?_
  refine E_put (pc := 12) dX8_text_12 fp_RX8_113 rfl rfl ?_
  refine E_iconst (pc := 15) (0) dX8_text_15 (by decide) ?_
  refine E_istore_n (pc := 16) 1 dX8_text_16 rfl (Nat.le_of_ble_eq_true rfl) rfl (lz := [_, _, _]) rfl ?_
  refine E_iconst (pc := 17) (0) dX8_text_17 (by decide) ?_
  refine E_istore_n (pc := 18) 2 dX8_text_18 rfl (Nat.le_of_ble_eq_true rfl) rfl (lz := [_, _, _]) rfl ?_
  generalize hH0 : hset (hset (hset h g_model 0 3 0) g_model 0 5 0) g_model 0 16 0 = H0
  have r0 : Mr h H0 := by rw [← hH0]; exact ((Mr.rfl.put (Or.inl (by decide))).put (Or.inl (by decide))).put (Or.inr rfl)
  have e3 : H0 g_model 0 3 = 0 := by rw [← hH0, hset_k (by decide), hset_k (by decide)]; exact hset_eq _ _ _ _ _
  have e5 : H0 g_model 0 5 = 0 := by rw [← hH0, hset_k (by decide)]; exact hset_eq _ _ _ _ _
  have e16 : H0 g_model 0 16 = 0 := by rw [← hH0]; exact hset_eq _ _ _ _ _
  refine E_heq (fed_0 usual H0 g_m_reads 0).symm ?_
  refine down (P := fun i => Ev l G mX8_text (fkM G mX8_text (QTextM h R)) 19 [some (vR g_model 0), some (vI 0), some (vI (nI i))] [] (fed usual H0 g_m_reads 0 i)) 18 ?_ ?_ 0 (Nat.zero_le _)
  · have r1 : Mr h (fed usual H0 g_m_reads 0 18) := ⟨fun x a b => by rw [fed_a b]; exact r0.1 x a b, fun k a b => by rw [fed_a (by decide)]; exact r0.2 k a b⟩
    refine E_iload_n (pc := 19) 2 dX8_text_19 rfl rfl ?_
    refine E_bipush (pc := 20) (18) dX8_text_20 (by decide) ?_
    refine E_icmp_ge (pc := 22) 43 dX8_text_22 rfl (fun q22 => ?_) (fun q22 => absurd (show (18 : Int32) ≤ 18 by decide) q22)
    refine E_aload_n (pc := 43) 0 dX8_text_43 rfl rfl ?_
    refine E_callV (pc := 44) dX8_text_44 (C_X8_next (p := 0) (by rw [fed_a (by decide)]; exact e3) (by rw [fed_a (by decide)]; exact e5) (by rw [r1.2 1 (by decide) (by decide)]; exact hL) hL2 (Nat.zero_le _) (r1.tb hT) (by rw [r1.tp]; exact hB)) rfl kv_RX8_119 rfl rfl rfl ⟨Nat.le_of_ble_eq_true rfl, Nat.le_of_ble_eq_true rfl, Nat.le_of_ble_eq_true rfl, Nat.le_of_ble_eq_true rfl⟩ (Nat.le_of_ble_eq_true rfl) ?_
    rintro _ H2 ⟨rfl, o⟩
    obtain ⟨o1, o2⟩ := o.s
    rw [r1.tp] at o2
    refine E_drop 2 (main 0 (Nat.zero_le _) H2 0 0 usual ⟨r1.mo o1, by rw [o1.2 16 (by decide), fed_a (by decide)]; exact e16, fun j hj => ?_⟩ o2 (Nat.zero_le _) (Nat.zero_le _) hRe)
    have := fed_in (by' := usual) (h := H0) (t := g_m_reads) (L := 0) (i := 18) hj
    rw [Nat.zero_add] at this
    rw [o1.1 g_m_reads (by decide), this]
  · intro i hi hn
    refine E_iload_n (pc := 19) 2 dX8_text_19 rfl rfl ?_
    refine E_bipush (pc := 20) (18) dX8_text_20 (by decide) ?_
    refine E_icmp_ge (pc := 22) 43 dX8_text_22 rfl (fun q22 => absurd q22 (nI_ge (b := 18) hi (by decide))) (fun q22 => ?_)
    refine E_aload_n (pc := 25) 0 dX8_text_25 rfl rfl ?_
    refine E_getR0 (pc := 26) dX8_text_26 fl_RX8_31 rfl rfl ?_
    refine E_iload_n (pc := 29) 2 dX8_text_29 rfl rfl ?_
    refine E_aload_n (pc := 30) 0 dX8_text_30 rfl rfl ?_
    refine E_getR0 (pc := 31) dX8_text_31 fl_RX8_19 rfl rfl ?_
    refine E_iload_n (pc := 34) 2 dX8_text_34 rfl rfl ?_
    refine E_iald (pc := 35) dX8_text_35 rfl (vp_in_nI (by omega) (by decide)) ?_
    refine E_top (y := usual i) (by rw [ixN_nI (by omega), fed_a (by decide), r0.1 g_m_plain (by decide) (by decide)]; exact hT.2.2.1 i hi) ?_
    refine E_iast (pc := 36) dX8_text_36 rfl (vp_in_nI (by omega) (by decide)) ?_
    refine E_iincN (pc := 37) 2 dX8_text_37 (Nat.le_of_ble_eq_true rfl) rfl rfl (lz := [_, _, _]) rfl ?_
    refine E_goto (pc := 40) 19 dX8_text_40 rfl ?_
    refine E_heq (by have := fed_s usual H0 g_m_reads 0 i; rw [Nat.zero_add] at this; rw [ixN_nI (by omega)]; exact this) hn
