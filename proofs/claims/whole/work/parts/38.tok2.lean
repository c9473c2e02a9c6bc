set_option maxHeartbeats 1600000 in
theorem C_X1_takeNumber {l : Launch} {G : GE} {h : Hp} {a L : Nat} (ha : h g_reader 0 2 = nI a) (hat : h g_reader 0 4 = nI a) (hL : h g_tape 0 1 = nI L) (hL2 : L ≤ 200) (haL : a ≤ L) : CT l G mX1_takeNumber [vR g_reader 0, vR g_tape 0] h (fun r h' => r = none ∧ Rd h h' ∧ h' g_reader 0 4 = nI (rnF isFg (h g_tapeB 0) (L - a) a) ∧ h' g_reader 0 5 = 2 ∧ h' g_reader 0 6 = vlF (h g_tapeB 0) a (rnF isFg (h g_tapeB 0) (L - a) a - a) ∧ h' g_reader 0 3 = if 2 < rnF isFg (h g_tapeB 0) (L - a) a - a then 1 else h g_reader 0 3) := by
  refine CT.of (lv := [_, _]) (by decide +kernel) (Nat.le_of_ble_eq_true rfl) rfl ?_
  have hE := rnF_le isFg (h g_tapeB 0) (L - a) a
  generalize hEe : rnF isFg (h g_tapeB 0) (L - a) a = E at hE ⊢
  refine E_aload_n (pc := 0) 0 dX1_takeNumber_0 rfl rfl ?_
  refine E_iconst (pc := 1) (2) dX1_takeNumber_1 (by decide) ?_
  refine E_put (pc := 2) dX1_takeNumber_2 fp_RX1_42 rfl rfl ?_
  refine E_aload_n (pc := 5) 0 dX1_takeNumber_5 rfl rfl ?_
  refine E_iconst (pc := 6) (0) dX1_takeNumber_6 (by decide) ?_
  refine E_put (pc := 7) dX1_takeNumber_7 fp_RX1_48 rfl rfl ?_
  refine down (P := fun i => ∀ h2, Rd h h2 → h2 g_reader 0 4 = nI (a + i) → h2 g_reader 0 5 = 2 → h2 g_reader 0 6 = vlF (h g_tapeB 0) a i → h2 g_reader 0 3 = h g_reader 0 3 → rnF isFg (h g_tapeB 0) (L - a - i) (a + i) = E → Ev l G mX1_takeNumber _ 10 [some (vR g_reader 0), some (vR g_tape 0)] [] h2) (L - a) ?_ ?_ 0 (Nat.zero_le _) _ ((Rd.rfl.put (by decide) (by decide)).put (by decide) (by decide)) (by rw [hset_k (by decide), hset_k (by decide)]; exact hat) (by rw [hset_k (by decide)]; exact hset_eq _ _ _ _ _) (hset_eq _ _ _ _ _) (by rw [hset_k (by decide), hset_k (by decide)]) hEe
  · intro h2 rd e4 e5 e6 e3 hr
    rw [Nat.sub_self] at hr
    have hr2 : a + (L - a) = E := hr
    refine E_aload_n (pc := 10) 0 dX1_takeNumber_10 rfl rfl ?_
    refine E_getI (pc := 11) dX1_takeNumber_11 fl_RX1_33 rfl rfl ?_
    refine E_aload_n (pc := 14) 1 dX1_takeNumber_14 rfl rfl ?_
    refine E_getI (pc := 15) dX1_takeNumber_15 fl_RX1_65 rfl rfl ?_
    refine E_eq (st' := [vI (nI L), vI (nI (a + (L - a)))]) rfl (by rw [e4, rd.1 g_tape (by decide), hL]) rfl ?_
    refine E_icmp_ge (pc := 18) 73 dX1_takeNumber_18 rfl (fun q18 => ?_) (fun q18 => absurd (nI_le (by omega) (by omega)) q18)
    refine E_aload_n (pc := 73) 0 dX1_takeNumber_73 rfl rfl ?_
    refine E_getI (pc := 74) dX1_takeNumber_74 fl_RX1_33 rfl rfl ?_
    refine E_aload_n (pc := 77) 0 dX1_takeNumber_77 rfl rfl ?_
    refine E_getI (pc := 78) dX1_takeNumber_78 fl_RX1_71 rfl rfl ?_
    refine E_isub (pc := 81) dX1_takeNumber_81 ?_
    refine E_iconst (pc := 82) (2) dX1_takeNumber_82 (by decide) ?_
    refine E_eq (st' := [vI 2, vI (nI (E - a))]) rfl (by rw [e4, rd.2.2, ha, pk_sub (by omega), hr2]) rfl ?_
    refine E_icmp_le (pc := 83) 91 dX1_takeNumber_83 rfl (fun q83 => ?_) (fun q83 => ?_)
    · refine E_vret (pc := 91) dX1_takeNumber_91 rfl ?_
      rw [← hr2] at q83 ⊢
      rw [show a + (L - a) - a = L - a by omega] at q83 ⊢
      first | exact ⟨rfl, rd, e4, e5, e6, by rw [if_neg (Nat.not_lt.mpr ((nI_leI (b := 2) (by omega) (by decide)).mp q83))]; exact e3⟩ | exact ⟨rfl, rd.put (by decide) (by decide), by rw [hset_k (by decide)]; exact e4, by rw [hset_k (by decide)]; exact e5, by rw [hset_k (by decide)]; exact e6, by rw [if_pos (Nat.not_le.mp (fun z => q83 (nI_le (b := 2) z (by decide))))]; exact hset_eq _ _ _ _ _⟩
    · refine E_aload_n (pc := 86) 0 dX1_takeNumber_86 rfl rfl ?_
      refine E_iconst (pc := 87) (1) dX1_takeNumber_87 (by decide) ?_
      refine E_put (pc := 88) dX1_takeNumber_88 fp_RX1_30 rfl rfl ?_
      refine E_vret (pc := 91) dX1_takeNumber_91 rfl ?_
      rw [← hr2] at q83 ⊢
      rw [show a + (L - a) - a = L - a by omega] at q83 ⊢
      first | exact ⟨rfl, rd, e4, e5, e6, by rw [if_neg (Nat.not_lt.mpr ((nI_leI (b := 2) (by omega) (by decide)).mp q83))]; exact e3⟩ | exact ⟨rfl, rd.put (by decide) (by decide), by rw [hset_k (by decide)]; exact e4, by rw [hset_k (by decide)]; exact e5, by rw [hset_k (by decide)]; exact e6, by rw [if_pos (Nat.not_le.mp (fun z => q83 (nI_le (b := 2) z (by decide))))]; exact hset_eq _ _ _ _ _⟩
  · intro i hi hk h2 rd e4 e5 e6 e3 hr
    rw [show L - a - i = (L - a - (i + 1)) + 1 by omega] at hr
    refine E_aload_n (pc := 10) 0 dX1_takeNumber_10 rfl rfl ?_
    refine E_getI (pc := 11) dX1_takeNumber_11 fl_RX1_33 rfl rfl ?_
    refine E_aload_n (pc := 14) 1 dX1_takeNumber_14 rfl rfl ?_
    refine E_getI (pc := 15) dX1_takeNumber_15 fl_RX1_65 rfl rfl ?_
    refine E_eq (st' := [vI (nI L), vI (nI (a + i))]) rfl (by rw [e4, rd.1 g_tape (by decide), hL]) rfl ?_
    refine E_icmp_ge (pc := 18) 73 dX1_takeNumber_18 rfl (fun q18 => absurd q18 (nI_ge (by omega) (by omega))) (fun q18 => ?_)
    refine E_aload_n (pc := 21) 1 dX1_takeNumber_21 rfl rfl ?_
    refine E_getR0 (pc := 22) dX1_takeNumber_22 fl_RX1_68 rfl rfl ?_
    refine E_aload_n (pc := 25) 0 dX1_takeNumber_25 rfl rfl ?_
    refine E_getI (pc := 26) dX1_takeNumber_26 fl_RX1_33 rfl rfl ?_
    refine E_eq (st' := [vI (nI (a + i)), vR g_tapeB 0]) rfl (by rw [e4]) rfl ?_
    refine E_iald (pc := 29) dX1_takeNumber_29 rfl (vp_in_nI (by omega) (by decide)) ?_
    refine E_top (y := h g_tapeB 0 (a + i)) (by rw [ixN_nI (by omega), rd.1 g_tapeB (by decide)]) ?_
    refine E_callS1 (pc := 30) dX1_takeNumber_30 C_X1_isFigure rfl ks_RX1_81 rfl ⟨Nat.le_of_ble_eq_true rfl, Nat.le_of_ble_eq_true rfl, Nat.le_of_ble_eq_true rfl, Nat.le_of_ble_eq_true rfl⟩ (Nat.le_of_ble_eq_true rfl) ?_
    refine E_if_eq (pc := 33) 73 dX1_takeNumber_33 rfl (fun q33 => ?_) (fun q33 => ?_)
    · have hr2 : a + i = E := (rnF_no (P := isFg) (bi_0.mp q33)).symm.trans hr
      refine E_aload_n (pc := 73) 0 dX1_takeNumber_73 rfl rfl ?_
      refine E_getI (pc := 74) dX1_takeNumber_74 fl_RX1_33 rfl rfl ?_
      refine E_aload_n (pc := 77) 0 dX1_takeNumber_77 rfl rfl ?_
      refine E_getI (pc := 78) dX1_takeNumber_78 fl_RX1_71 rfl rfl ?_
      refine E_isub (pc := 81) dX1_takeNumber_81 ?_
      refine E_iconst (pc := 82) (2) dX1_takeNumber_82 (by decide) ?_
      refine E_eq (st' := [vI 2, vI (nI (E - a))]) rfl (by rw [e4, rd.2.2, ha, pk_sub (by omega), hr2]) rfl ?_
      refine E_icmp_le (pc := 83) 91 dX1_takeNumber_83 rfl (fun q83 => ?_) (fun q83 => ?_)
      · refine E_vret (pc := 91) dX1_takeNumber_91 rfl ?_
        rw [← hr2] at q83 ⊢
        rw [show a + i - a = i by omega] at q83 ⊢
        first | exact ⟨rfl, rd, e4, e5, e6, by rw [if_neg (Nat.not_lt.mpr ((nI_leI (b := 2) (by omega) (by decide)).mp q83))]; exact e3⟩ | exact ⟨rfl, rd.put (by decide) (by decide), by rw [hset_k (by decide)]; exact e4, by rw [hset_k (by decide)]; exact e5, by rw [hset_k (by decide)]; exact e6, by rw [if_pos (Nat.not_le.mp (fun z => q83 (nI_le (b := 2) z (by decide))))]; exact hset_eq _ _ _ _ _⟩
      · refine E_aload_n (pc := 86) 0 dX1_takeNumber_86 rfl rfl ?_
        refine E_iconst (pc := 87) (1) dX1_takeNumber_87 (by decide) ?_
        refine E_put (pc := 88) dX1_takeNumber_88 fp_RX1_30 rfl rfl ?_
        refine E_vret (pc := 91) dX1_takeNumber_91 rfl ?_
        rw [← hr2] at q83 ⊢
        rw [show a + i - a = i by omega] at q83 ⊢
        first | exact ⟨rfl, rd, e4, e5, e6, by rw [if_neg (Nat.not_lt.mpr ((nI_leI (b := 2) (by omega) (by decide)).mp q83))]; exact e3⟩ | exact ⟨rfl, rd.put (by decide) (by decide), by rw [hset_k (by decide)]; exact e4, by rw [hset_k (by decide)]; exact e5, by rw [hset_k (by decide)]; exact e6, by rw [if_pos (Nat.not_le.mp (fun z => q83 (nI_le (b := 2) z (by decide))))]; exact hset_eq _ _ _ _ _⟩
    · refine E_aload_n (pc := 36) 0 dX1_takeNumber_36 rfl rfl ?_
      refine E_aload_n (pc := 37) 0 dX1_takeNumber_37 rfl rfl ?_
      refine E_getI (pc := 38) dX1_takeNumber_38 fl_RX1_48 rfl rfl ?_
      refine E_bipush (pc := 41) (10) dX1_takeNumber_41 (by decide) ?_
      refine E_imul (pc := 43) dX1_takeNumber_43 ?_
      refine E_aload_n (pc := 44) 1 dX1_takeNumber_44 rfl rfl ?_
      refine E_getR0 (pc := 45) dX1_takeNumber_45 fl_RX1_68 rfl rfl ?_
      refine E_aload_n (pc := 48) 0 dX1_takeNumber_48 rfl rfl ?_
      refine E_getI (pc := 49) dX1_takeNumber_49 fl_RX1_33 rfl rfl ?_
      refine E_eq (st' := [vI (nI (a + i)), vR g_tapeB 0, vI (vlF (h g_tapeB 0) a i * 10), vR g_reader 0]) rfl (by rw [e4, e6]) rfl ?_
      refine E_iald (pc := 52) dX1_takeNumber_52 rfl (vp_in_nI (by omega) (by decide)) ?_
      refine E_iadd (pc := 53) dX1_takeNumber_53 ?_
      refine E_bipush (pc := 54) (48) dX1_takeNumber_54 (by decide) ?_
      refine E_isub (pc := 56) dX1_takeNumber_56 ?_
      refine E_eq (st' := [vI (vlF (h g_tapeB 0) a (i + 1)), vR g_reader 0]) rfl (by rw [ixN_nI (by omega), rd.1 g_tapeB (by decide)]; rfl) rfl ?_
      refine E_put (pc := 57) dX1_takeNumber_57 fp_RX1_48 rfl rfl ?_
      refine E_aload_n (pc := 60) 0 dX1_takeNumber_60 rfl rfl ?_
      refine E_dup (pc := 61) dX1_takeNumber_61 (fun _ z => by cases z) ?_
      refine E_getI (pc := 62) dX1_takeNumber_62 fl_RX1_33 rfl rfl ?_
      refine E_iconst (pc := 65) (1) dX1_takeNumber_65 (by decide) ?_
      refine E_iadd (pc := 66) dX1_takeNumber_66 ?_
      refine E_eq (st' := [vI (nI (a + (i + 1))), vR g_reader 0]) rfl (by rw [hset_k (by decide), e4, ← nI_succ]; rfl) rfl ?_
      refine E_put (pc := 67) dX1_takeNumber_67 fp_RX1_33 rfl rfl ?_
      refine E_goto (pc := 70) 10 dX1_takeNumber_70 rfl ?_
      exact hk _ ((rd.put (by decide) (by decide)).put (by decide) (by decide)) (hset_eq _ _ _ _ _) (by rw [hset_k (by decide), hset_k (by decide)]; exact e5) (by rw [hset_k (by decide)]; exact hset_eq _ _ _ _ _) (by rw [hset_k (by decide), hset_k (by decide)]; exact e3) ((rnF_go (Decidable.of_not_not (fun z => q33 (bi_0.mpr z)))).symm.trans hr)
/-- a token: where it begins, its kind, where it ends, its number, its fault -/
def tkA (B : Nat → Int32) (L p : Nat) : Nat := rnF isBl B (L - p) p
def tkK (B : Nat → Int32) (L a : Nat) : Nat := if L ≤ a then 0 else if isLt (B a) then 1 else if isFg (B a) then 2 else 3
def tkE (B : Nat → Int32) (L a : Nat) : Nat := if L ≤ a then a else if isLt (B a) then rnF isLt B (L - a) a else if isFg (B a) then rnF isFg B (L - a) a else a + 1
def tkV (B : Nat → Int32) (L a : Nat) : Int32 := if isLt (B a) then nI (nmF B a (rnF isLt B (L - a) a) 13 0) else vlF B a (rnF isFg B (L - a) a - a)
def tkF (B : Nat → Int32) (L a : Nat) : Nat := if L ≤ a then 0 else if isLt (B a) then (if nmF B a (rnF isLt B (L - a) a) 13 0 = 13 then 1 else 0) else if isFg (B a) then (if 2 < rnF isFg B (L - a) a - a then 1 else 0) else if B a = 59 then 0 else 1
theorem tkA_le {B : Nat → Int32} {L p : Nat} (h : p ≤ L) : p ≤ tkA B L p ∧ tkA B L p ≤ L := by
  have := rnF_le isBl B (L - p) p
  unfold tkA
  omega
/-- what reading a token leaves -/
def TkP (h h' : Hp) (L p : Nat) : Prop := (∀ x, x ≠ g_reader → h' x = h x) ∧ h' g_reader 0 1 = h g_reader 0 1 ∧ h' g_reader 0 2 = nI (tkA (h g_tapeB 0) L p) ∧ h' g_reader 0 3 = nI (tkF (h g_tapeB 0) L (tkA (h g_tapeB 0) L p)) ∧ (tkF (h g_tapeB 0) L (tkA (h g_tapeB 0) L p) = 0 → h' g_reader 0 4 = nI (tkE (h g_tapeB 0) L (tkA (h g_tapeB 0) L p)) ∧ h' g_reader 0 5 = nI (tkK (h g_tapeB 0) L (tkA (h g_tapeB 0) L p)) ∧ (tkK (h g_tapeB 0) L (tkA (h g_tapeB 0) L p) = 1 ∨ tkK (h g_tapeB 0) L (tkA (h g_tapeB 0) L p) = 2 → h' g_reader 0 6 = tkV (h g_tapeB 0) L (tkA (h g_tapeB 0) L p)))
/-- readToken behind the blanks -/
def rtI (h h2 : Hp) (a : Nat) : Prop := (∀ x, x ≠ g_reader → h2 x = h x) ∧ h2 g_reader 0 1 = h g_reader 0 1 ∧ h2 g_reader 0 4 = nI a ∧ h2 g_reader 0 3 = 0
set_option maxHeartbeats 1600000 in
theorem C_X1_readToken {l : Launch} {G : GE} {h : Hp} {p L : Nat} (hp : h g_reader 0 4 = nI p) (h3 : h g_reader 0 3 = 0) (hL : h g_tape 0 1 = nI L) (hL2 : L ≤ 200) (hpL : p ≤ L) : CT l G mX1_readToken [vR g_reader 0, vR g_tape 0] h (fun r h' => r = none ∧ TkP h h' L p) := by
  refine CT.of (lv := [_, _]) (by decide +kernel) (Nat.le_of_ble_eq_true rfl) rfl ?_
  have hA := tkA_le (B := h g_tapeB 0) hpL
  unfold TkP
  generalize hAe : tkA (h g_tapeB 0) L p = a at hA ⊢
  refine down (P := fun i => ∀ h2, rtI h h2 (p + i) → rnF isBl (h g_tapeB 0) (L - p - i) (p + i) = a → Ev l G mX1_readToken _ 0 [some (vR g_reader 0), some (vR g_tape 0)] [] h2) (L - p) ?_ ?_ 0 (Nat.zero_le _) h ⟨fun _ _ => rfl, rfl, hp, h3⟩ hAe
  · intro h2 rt hr
    rw [Nat.sub_self] at hr
    have hr2 : p + (L - p) = a := hr
    refine E_aload_n (pc := 0) 0 dX1_readToken_0 rfl rfl ?_
    refine E_getI (pc := 1) dX1_readToken_1 fl_RX1_33 rfl rfl ?_
    refine E_aload_n (pc := 4) 1 dX1_readToken_4 rfl rfl ?_
    refine E_getI (pc := 5) dX1_readToken_5 fl_RX1_65 rfl rfl ?_
    refine E_eq (st' := [vI (nI L), vI (nI (p + (L - p)))]) rfl (by rw [rt.2.2.1, rt.1 g_tape (by decide), hL]) rfl ?_
    refine E_icmp_ge (pc := 8) 38 dX1_readToken_8 rfl (fun q8 => ?_) (fun q8 => absurd (nI_le (by omega) (by omega)) q8)
    refine E_aload_n (pc := 38) 0 dX1_readToken_38 rfl rfl ?_
    refine E_aload_n (pc := 39) 0 dX1_readToken_39 rfl rfl ?_
    refine E_getI (pc := 40) dX1_readToken_40 fl_RX1_33 rfl rfl ?_
    refine E_eq (st' := [vI (nI a), vR g_reader 0]) rfl (by rw [rt.2.2.1, hr2]) rfl ?_
    refine E_put (pc := 43) dX1_readToken_43 fp_RX1_71 rfl rfl ?_
    refine E_aload_n (pc := 46) 0 dX1_readToken_46 rfl rfl ?_
    refine E_getI (pc := 47) dX1_readToken_47 fl_RX1_33 rfl rfl ?_
    refine E_aload_n (pc := 50) 1 dX1_readToken_50 rfl rfl ?_
    refine E_getI (pc := 51) dX1_readToken_51 fl_RX1_65 rfl rfl ?_
    refine E_eq (st' := [vI (nI L), vI (nI a)]) rfl (by rw [hset_k (by decide), rt.2.2.1, hr2, hset_t (by decide), rt.1 g_tape (by decide), hL]) rfl ?_
    refine E_icmp_lt (pc := 54) 65 dX1_readToken_54 rfl (fun q54 => absurd q54 (nI_nlt (by omega) (by omega))) (fun q54 => ?_)
    refine E_aload_n (pc := 57) 0 dX1_readToken_57 rfl rfl ?_
    refine E_iconst (pc := 58) (0) dX1_readToken_58 (by decide) ?_
    refine E_put (pc := 59) dX1_readToken_59 fp_RX1_42 rfl rfl ?_
    refine E_goto (pc := 62) 148 dX1_readToken_62 rfl ?_
    refine E_vret (pc := 148) dX1_readToken_148 rfl ?_
    have hLa : L ≤ a := by omega
    have k0 : tkF (h g_tapeB 0) L a = 0 := if_pos hLa
    have k1 : tkK (h g_tapeB 0) L a = 0 := if_pos hLa
    have k2 : tkE (h g_tapeB 0) L a = a := if_pos hLa
    rw [k0, k1, k2]
    exact ⟨rfl, fun x hx => by rw [hset_t hx, hset_t hx]; exact rt.1 x hx, by rw [hset_k (by decide), hset_k (by decide)]; exact rt.2.1, by rw [hset_k (by decide)]; exact hset_eq _ _ _ _ _, by rw [hset_k (by decide), hset_k (by decide)]; exact rt.2.2.2, fun _ => ⟨by rw [hset_k (by decide), hset_k (by decide), rt.2.2.1, hr2], hset_eq _ _ _ _ _, fun z => absurd z (by decide)⟩⟩
  · intro i hi hk h2 rt hr
    rw [show L - p - i = (L - p - (i + 1)) + 1 by omega] at hr
    refine E_aload_n (pc := 0) 0 dX1_readToken_0 rfl rfl ?_
    refine E_getI (pc := 1) dX1_readToken_1 fl_RX1_33 rfl rfl ?_
    refine E_aload_n (pc := 4) 1 dX1_readToken_4 rfl rfl ?_
    refine E_getI (pc := 5) dX1_readToken_5 fl_RX1_65 rfl rfl ?_
    refine E_eq (st' := [vI (nI L), vI (nI (p + i))]) rfl (by rw [rt.2.2.1, rt.1 g_tape (by decide), hL]) rfl ?_
    refine E_icmp_ge (pc := 8) 38 dX1_readToken_8 rfl (fun q8 => absurd q8 (nI_ge (by omega) (by omega))) (fun q8 => ?_)
    refine E_aload_n (pc := 11) 1 dX1_readToken_11 rfl rfl ?_
    refine E_getR0 (pc := 12) dX1_readToken_12 fl_RX1_68 rfl rfl ?_
    refine E_aload_n (pc := 15) 0 dX1_readToken_15 rfl rfl ?_
    refine E_getI (pc := 16) dX1_readToken_16 fl_RX1_33 rfl rfl ?_
    refine E_eq (st' := [vI (nI (p + i)), vR g_tapeB 0]) rfl (by rw [rt.2.2.1]) rfl ?_
    refine E_iald (pc := 19) dX1_readToken_19 rfl (vp_in_nI (by omega) (by decide)) ?_
    refine E_top (y := h g_tapeB 0 (p + i)) (by rw [ixN_nI (by omega), rt.1 g_tapeB (by decide)]) ?_
    refine E_bipush (pc := 20) (32) dX1_readToken_20 (by decide) ?_
    refine E_icmp_ne (pc := 22) 38 dX1_readToken_22 rfl (fun q22 => ?_) (fun q22 => ?_)
    · have hr2 : p + i = a := (rnF_no (P := isBl) q22).symm.trans hr
      have hLa : ¬ L ≤ a := by omega
      rw [hr2] at rt
      refine E_aload_n (pc := 38) 0 dX1_readToken_38 rfl rfl ?_
      refine E_aload_n (pc := 39) 0 dX1_readToken_39 rfl rfl ?_
      refine E_getI (pc := 40) dX1_readToken_40 fl_RX1_33 rfl rfl ?_
      refine E_eq (st' := [vI (nI a), vR g_reader 0]) rfl (by rw [rt.2.2.1]) rfl ?_
      refine E_put (pc := 43) dX1_readToken_43 fp_RX1_71 rfl rfl ?_
      generalize hh4 : hset h2 g_reader 0 2 (nI a) = h4
      have s1 : ∀ x, x ≠ g_reader → h4 x = h x := fun x hx => by rw [← hh4, hset_t hx]; exact rt.1 x hx
      have s2 : h4 g_reader 0 1 = h g_reader 0 1 := by rw [← hh4, hset_k (by decide)]; exact rt.2.1
      have s3 : h4 g_reader 0 2 = nI a := by rw [← hh4]; exact hset_eq _ _ _ _ _
      have s4 : h4 g_reader 0 4 = nI a := by rw [← hh4, hset_k (by decide)]; exact rt.2.2.1
      have s5 : h4 g_reader 0 3 = 0 := by rw [← hh4, hset_k (by decide)]; exact rt.2.2.2
      refine E_aload_n (pc := 46) 0 dX1_readToken_46 rfl rfl ?_
      refine E_getI (pc := 47) dX1_readToken_47 fl_RX1_33 rfl rfl ?_
      refine E_aload_n (pc := 50) 1 dX1_readToken_50 rfl rfl ?_
      refine E_getI (pc := 51) dX1_readToken_51 fl_RX1_65 rfl rfl ?_
      refine E_eq (st' := [vI (nI L), vI (nI a)]) rfl (by rw [s4, s1 g_tape (by decide), hL]) rfl ?_
      refine E_icmp_lt (pc := 54) 65 dX1_readToken_54 rfl (fun q54 => ?_) (fun q54 => absurd (nI_lt (by omega) (by omega)) q54)
      refine E_aload_n (pc := 65) 1 dX1_readToken_65 rfl rfl ?_
      refine E_getR0 (pc := 66) dX1_readToken_66 fl_RX1_68 rfl rfl ?_
      refine E_aload_n (pc := 69) 0 dX1_readToken_69 rfl rfl ?_
      refine E_getI (pc := 70) dX1_readToken_70 fl_RX1_33 rfl rfl ?_
      refine E_eq (st' := [vI (nI a), vR g_tapeB 0]) rfl (by rw [s4]) rfl ?_
      refine E_iald (pc := 73) dX1_readToken_73 rfl (vp_in_nI (by omega) (by decide)) ?_
      refine E_top (y := h g_tapeB 0 a) (by rw [ixN_nI (by omega), s1 g_tapeB (by decide)]) ?_
      refine E_callS1 (pc := 74) dX1_readToken_74 C_X1_isLetter rfl ks_RX1_74 rfl ⟨Nat.le_of_ble_eq_true rfl, Nat.le_of_ble_eq_true rfl, Nat.le_of_ble_eq_true rfl, Nat.le_of_ble_eq_true rfl⟩ (Nat.le_of_ble_eq_true rfl) ?_
      refine E_if_eq (pc := 77) 88 dX1_readToken_77 rfl (fun q77 => ?_) (fun q77 => ?_)
      · have hlt : ¬ isLt (h g_tapeB 0 a) := bi_0.mp q77
        refine E_aload_n (pc := 88) 1 dX1_readToken_88 rfl rfl ?_
        refine E_getR0 (pc := 89) dX1_readToken_89 fl_RX1_68 rfl rfl ?_
        refine E_aload_n (pc := 92) 0 dX1_readToken_92 rfl rfl ?_
        refine E_getI (pc := 93) dX1_readToken_93 fl_RX1_33 rfl rfl ?_
        refine E_eq (st' := [vI (nI a), vR g_tapeB 0]) rfl (by rw [s4]) rfl ?_
        refine E_iald (pc := 96) dX1_readToken_96 rfl (vp_in_nI (by omega) (by decide)) ?_
        refine E_top (y := h g_tapeB 0 a) (by rw [ixN_nI (by omega), s1 g_tapeB (by decide)]) ?_
        refine E_callS1 (pc := 97) dX1_readToken_97 C_X1_isFigure rfl ks_RX1_81 rfl ⟨Nat.le_of_ble_eq_true rfl, Nat.le_of_ble_eq_true rfl, Nat.le_of_ble_eq_true rfl, Nat.le_of_ble_eq_true rfl⟩ (Nat.le_of_ble_eq_true rfl) ?_
        refine E_if_eq (pc := 100) 111 dX1_readToken_100 rfl (fun q100 => ?_) (fun q100 => ?_)
        · have hfg : ¬ isFg (h g_tapeB 0 a) := bi_0.mp q100
          refine E_aload_n (pc := 111) 1 dX1_readToken_111 rfl rfl ?_
          refine E_getR0 (pc := 112) dX1_readToken_112 fl_RX1_68 rfl rfl ?_
          refine E_aload_n (pc := 115) 0 dX1_readToken_115 rfl rfl ?_
          refine E_getI (pc := 116) dX1_readToken_116 fl_RX1_33 rfl rfl ?_
          refine E_eq (st' := [vI (nI a), vR g_tapeB 0]) rfl (by rw [s4]) rfl ?_
          refine E_iald (pc := 119) dX1_readToken_119 rfl (vp_in_nI (by omega) (by decide)) ?_
          refine E_top (y := h g_tapeB 0 a) (by rw [ixN_nI (by omega), s1 g_tapeB (by decide)]) ?_
          refine E_bipush (pc := 120) (59) dX1_readToken_120 (by decide) ?_
          refine E_icmp_ne (pc := 122) 143 dX1_readToken_122 rfl (fun q122 => ?_) (fun q122 => ?_)
          · have k0 : tkF (h g_tapeB 0) L a = 1 := (if_neg hLa).trans ((if_neg hlt).trans ((if_neg hfg).trans (if_neg q122)))
            refine E_aload_n (pc := 143) 0 dX1_readToken_143 rfl rfl ?_
            refine E_iconst (pc := 144) (1) dX1_readToken_144 (by decide) ?_
            refine E_put (pc := 145) dX1_readToken_145 fp_RX1_30 rfl rfl ?_
            refine E_vret (pc := 148) dX1_readToken_148 rfl ?_
            first | exact fin | (rw [k0, k1, k2]; exact ⟨rfl, fun x hx => by rw [hset_t hx, hset_t hx]; exact s1 x hx, by rw [hset_k (by decide), hset_k (by decide)]; exact s2, by rw [hset_k (by decide), hset_k (by decide)]; exact s3, by rw [hset_k (by decide), hset_k (by decide)]; exact s5, fun _ => ⟨hset_eq _ _ _ _ _, by rw [hset_k (by decide)]; exact hset_eq _ _ _ _ _, fun z => absurd z (by decide)⟩⟩) | (rw [k0]; exact ⟨rfl, fun x hx => by rw [hset_t hx]; exact s1 x hx, by rw [hset_k (by decide)]; exact s2, by rw [hset_k (by decide)]; exact s3, hset_eq _ _ _ _ _, fun z => absurd z (by decide)⟩)
          · have k0 : tkF (h g_tapeB 0) L a = 0 := (if_neg hLa).trans ((if_neg hlt).trans ((if_neg hfg).trans (if_pos q122)))
            have k1 : tkK (h g_tapeB 0) L a = 3 := (if_neg hLa).trans ((if_neg hlt).trans (if_neg hfg))
            have k2 : tkE (h g_tapeB 0) L a = a + 1 := (if_neg hLa).trans ((if_neg hlt).trans (if_neg hfg))
            refine E_aload_n (pc := 125) 0 dX1_readToken_125 rfl rfl ?_
            refine E_iconst (pc := 126) (3) dX1_readToken_126 (by decide) ?_
            refine E_put (pc := 127) dX1_readToken_127 fp_RX1_42 rfl rfl ?_
            refine E_aload_n (pc := 130) 0 dX1_readToken_130 rfl rfl ?_
            refine E_dup (pc := 131) dX1_readToken_131 (fun _ z => by cases z) ?_
            refine E_getI (pc := 132) dX1_readToken_132 fl_RX1_33 rfl rfl ?_
            refine E_iconst (pc := 135) (1) dX1_readToken_135 (by decide) ?_
            refine E_iadd (pc := 136) dX1_readToken_136 ?_
            refine E_eq (st' := [vI (nI (a + 1)), vR g_reader 0]) rfl (by rw [hset_k (by decide), s4, nI_succ]) rfl ?_
            refine E_put (pc := 137) dX1_readToken_137 fp_RX1_33 rfl rfl ?_
            refine E_goto (pc := 140) 148 dX1_readToken_140 rfl ?_
            refine E_vret (pc := 148) dX1_readToken_148 rfl ?_
            first | exact fin | (rw [k0, k1, k2]; exact ⟨rfl, fun x hx => by rw [hset_t hx, hset_t hx]; exact s1 x hx, by rw [hset_k (by decide), hset_k (by decide)]; exact s2, by rw [hset_k (by decide), hset_k (by decide)]; exact s3, by rw [hset_k (by decide), hset_k (by decide)]; exact s5, fun _ => ⟨hset_eq _ _ _ _ _, by rw [hset_k (by decide)]; exact hset_eq _ _ _ _ _, fun z => absurd z (by decide)⟩⟩) | (rw [k0]; exact ⟨rfl, fun x hx => by rw [hset_t hx]; exact s1 x hx, by rw [hset_k (by decide)]; exact s2, by rw [hset_k (by decide)]; exact s3, hset_eq _ _ _ _ _, fun z => absurd z (by decide)⟩)
        · have hfg : isFg (h g_tapeB 0 a) := Decidable.of_not_not (fun z => q100 (bi_0.mpr z))
          refine E_aload_n (pc := 103) 0 dX1_readToken_103 rfl rfl ?_
          refine E_aload_n (pc := 104) 1 dX1_readToken_104 rfl rfl ?_
          refine E_callV (pc := 105) dX1_readToken_105 (C_X1_takeNumber s3 s4 (by rw [s1 g_tape (by decide)]; exact hL) hL2 hA.2) rfl kv_RX1_84 rfl rfl rfl ⟨Nat.le_of_ble_eq_true rfl, Nat.le_of_ble_eq_true rfl, Nat.le_of_ble_eq_true rfl, Nat.le_of_ble_eq_true rfl⟩ (Nat.le_of_ble_eq_true rfl) ?_
          rintro _ h5 ⟨rfl, rd, f4, f5, f6, f3⟩
          rw [s1 g_tapeB (by decide)] at f4 f6 f3
          rw [s5] at f3
          have k0 : nI (tkF (h g_tapeB 0) L a) = h5 g_reader 0 3 := by rw [f3, tkF, if_neg hLa, if_neg hlt, if_pos hfg]; by_cases e : 2 < rnF isFg (h g_tapeB 0) (L - a) a - a; exact (by rw [if_pos e, if_pos e]; rfl); rw [if_neg e, if_neg e]; rfl
          have k1 : tkK (h g_tapeB 0) L a = 2 := (if_neg hLa).trans ((if_neg hlt).trans (if_pos hfg))
          have k2 : tkE (h g_tapeB 0) L a = rnF isFg (h g_tapeB 0) (L - a) a := (if_neg hLa).trans ((if_neg hlt).trans (if_pos hfg))
          have k3 : tkV (h g_tapeB 0) L a = vlF (h g_tapeB 0) a (rnF isFg (h g_tapeB 0) (L - a) a - a) := if_neg hlt
          have fin : (none : Option Int32) = none ∧ (∀ x, x ≠ g_reader → h5 x = h x) ∧ h5 g_reader 0 1 = h g_reader 0 1 ∧ h5 g_reader 0 2 = nI a ∧ h5 g_reader 0 3 = nI (tkF (h g_tapeB 0) L a) ∧ (tkF (h g_tapeB 0) L a = 0 → h5 g_reader 0 4 = nI (tkE (h g_tapeB 0) L a) ∧ h5 g_reader 0 5 = nI (tkK (h g_tapeB 0) L a) ∧ (tkK (h g_tapeB 0) L a = 1 ∨ tkK (h g_tapeB 0) L a = 2 → h5 g_reader 0 6 = tkV (h g_tapeB 0) L a)) := ⟨rfl, fun x hx => (rd.1 x hx).trans (s1 x hx), rd.2.1.trans s2, rd.2.2.trans s3, k0.symm, fun _ => ⟨by rw [k2]; exact f4, by rw [k1]; exact f5, fun _ => by rw [k3]; exact f6⟩⟩
          refine E_goto (pc := 108) 148 dX1_readToken_108 rfl ?_
          refine E_vret (pc := 148) dX1_readToken_148 rfl ?_
          first | exact fin | (rw [k0, k1, k2]; exact ⟨rfl, fun x hx => by rw [hset_t hx, hset_t hx]; exact s1 x hx, by rw [hset_k (by decide), hset_k (by decide)]; exact s2, by rw [hset_k (by decide), hset_k (by decide)]; exact s3, by rw [hset_k (by decide), hset_k (by decide)]; exact s5, fun _ => ⟨hset_eq _ _ _ _ _, by rw [hset_k (by decide)]; exact hset_eq _ _ _ _ _, fun z => absurd z (by decide)⟩⟩) | (rw [k0]; exact ⟨rfl, fun x hx => by rw [hset_t hx]; exact s1 x hx, by rw [hset_k (by decide)]; exact s2, by rw [hset_k (by decide)]; exact s3, hset_eq _ _ _ _ _, fun z => absurd z (by decide)⟩)
      · have hlt : isLt (h g_tapeB 0 a) := Decidable.of_not_not (fun z => q77 (bi_0.mpr z))
        refine E_aload_n (pc := 80) 0 dX1_readToken_80 rfl rfl ?_
        refine E_aload_n (pc := 81) 1 dX1_readToken_81 rfl rfl ?_
        refine E_callV (pc := 82) dX1_readToken_82 (C_X1_takeName s3 s4 (by rw [s1 g_tape (by decide)]; exact hL) hL2 hA.2) rfl kv_RX1_78 rfl rfl rfl ⟨Nat.le_of_ble_eq_true rfl, Nat.le_of_ble_eq_true rfl, Nat.le_of_ble_eq_true rfl, Nat.le_of_ble_eq_true rfl⟩ (Nat.le_of_ble_eq_true rfl) ?_
        rintro _ h5 ⟨rfl, rd, f4, f5, f6, f3⟩
        rw [s1 g_tapeB (by decide)] at f4 f6 f3
        rw [s5] at f3
        have k0 : nI (tkF (h g_tapeB 0) L a) = h5 g_reader 0 3 := by rw [f3, tkF, if_neg hLa, if_pos hlt]; by_cases e : nmF (h g_tapeB 0) a (rnF isLt (h g_tapeB 0) (L - a) a) 13 0 = 13; exact (by rw [if_pos e, if_pos e]; rfl); rw [if_neg e, if_neg e]; rfl
        have k1 : tkK (h g_tapeB 0) L a = 1 := (if_neg hLa).trans (if_pos hlt)
        have k2 : tkE (h g_tapeB 0) L a = rnF isLt (h g_tapeB 0) (L - a) a := (if_neg hLa).trans (if_pos hlt)
        have k3 : tkV (h g_tapeB 0) L a = nI (nmF (h g_tapeB 0) a (rnF isLt (h g_tapeB 0) (L - a) a) 13 0) := if_pos hlt
        have fin : (none : Option Int32) = none ∧ (∀ x, x ≠ g_reader → h5 x = h x) ∧ h5 g_reader 0 1 = h g_reader 0 1 ∧ h5 g_reader 0 2 = nI a ∧ h5 g_reader 0 3 = nI (tkF (h g_tapeB 0) L a) ∧ (tkF (h g_tapeB 0) L a = 0 → h5 g_reader 0 4 = nI (tkE (h g_tapeB 0) L a) ∧ h5 g_reader 0 5 = nI (tkK (h g_tapeB 0) L a) ∧ (tkK (h g_tapeB 0) L a = 1 ∨ tkK (h g_tapeB 0) L a = 2 → h5 g_reader 0 6 = tkV (h g_tapeB 0) L a)) := ⟨rfl, fun x hx => (rd.1 x hx).trans (s1 x hx), rd.2.1.trans s2, rd.2.2.trans s3, k0.symm, fun _ => ⟨by rw [k2]; exact f4, by rw [k1]; exact f5, fun _ => by rw [k3]; exact f6⟩⟩
        refine E_goto (pc := 85) 148 dX1_readToken_85 rfl ?_
        refine E_vret (pc := 148) dX1_readToken_148 rfl ?_
        first | exact fin | (rw [k0, k1, k2]; exact ⟨rfl, fun x hx => by rw [hset_t hx, hset_t hx]; exact s1 x hx, by rw [hset_k (by decide), hset_k (by decide)]; exact s2, by rw [hset_k (by decide), hset_k (by decide)]; exact s3, by rw [hset_k (by decide), hset_k (by decide)]; exact s5, fun _ => ⟨hset_eq _ _ _ _ _, by rw [hset_k (by decide)]; exact hset_eq _ _ _ _ _, fun z => absurd z (by decide)⟩⟩) | (rw [k0]; exact ⟨rfl, fun x hx => by rw [hset_t hx]; exact s1 x hx, by rw [hset_k (by decide)]; exact s2, by rw [hset_k (by decide)]; exact s3, hset_eq _ _ _ _ _, fun z => absurd z (by decide)⟩)
    · refine E_aload_n (pc := 25) 0 dX1_readToken_25 rfl rfl ?_
      refine E_dup (pc := 26) dX1_readToken_26 (fun _ z => by cases z) ?_
      refine E_getI (pc := 27) dX1_readToken_27 fl_RX1_33 rfl rfl ?_
      refine E_iconst (pc := 30) (1) dX1_readToken_30 (by decide) ?_
      refine E_iadd (pc := 31) dX1_readToken_31 ?_
      refine E_eq (st' := [vI (nI (p + (i + 1))), vR g_reader 0]) rfl (by rw [rt.2.2.1, ← nI_succ]; rfl) rfl ?_
      refine E_put (pc := 32) dX1_readToken_32 fp_RX1_33 rfl rfl ?_
      refine E_goto (pc := 35) 0 dX1_readToken_35 rfl ?_
      exact hk _ ⟨fun x hx => by rw [hset_t hx]; exact rt.1 x hx, by rw [hset_k (by decide)]; exact rt.2.1, hset_eq _ _ _ _ _, by rw [hset_k (by decide)]; exact rt.2.2.2⟩ ((rnF_go (P := isBl) q22).symm.trans hr)
