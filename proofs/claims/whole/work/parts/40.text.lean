/-! the reader: the text -/
def tkN (B : Nat → Int32) (L a : Nat) : Nat := nmF B a (rnF isLt B (L - a) a) 13 0
def usual : Nat → Int32 := fun j => tUSUAL.getD j 0
/-- the text: fault, place, lines, what it tells -/
def psF (B : Nat → Int32) (L : Nat) : Nat → Nat → Int32 → (Nat → Int32) → Nat → Nat × Nat × Nat × (Nat → Int32)
  | 0, _, _, dr, ln => (0, 0, ln, dr)
  | n + 1, p, told, dr, ln =>
    if ¬ tkF B L (tkA B L p) = 0 then (tkF B L (tkA B L p), tkA B L p, ln, dr)
    else if tkK B L (tkA B L p) = 0 then (0, tkA B L p, ln, dr)
    else if ¬ tkK B L (tkA B L p) = 1 then (2, tkA B L p, ln, dr)
    else if ¬ lnT B L (tkE B L (tkA B L p)) (tkN B L (tkA B L p)) told = 0 then (lnT B L (tkE B L (tkA B L p)) (tkN B L (tkA B L p)) told, lnP B L (tkA B L p) (tkE B L (tkA B L p)) (tkN B L (tkA B L p)) told, ln, dr)
    else psF B L n (lnE B L (tkE B L (tkA B L p)) (tkN B L (tkA B L p))) (told ||| (1 <<< (slS B L (tkE B L (tkA B L p)) (tkN B L (tkA B L p)) &&& 31))) (upd dr (ixN (slS B L (tkE B L (tkA B L p)) (tkN B L (tkA B L p)))) (tkV B L (lnA B L (tkE B L (tkA B L p)) (tkN B L (tkA B L p))))) (ln + 1)
theorem tkK_1 {B : Nat → Int32} {L a : Nat} (h : tkK B L a = 1) : ¬ L ≤ a ∧ isLt (B a) := by
  unfold tkK at h
  by_cases c1 : L ≤ a
  · rw [if_pos c1] at h; exact absurd h (by decide)
  · rw [if_neg c1] at h
    by_cases c2 : isLt (B a)
    · exact ⟨c1, c2⟩
    · rw [if_neg c2] at h
      by_cases c3 : isFg (B a)
      · rw [if_pos c3] at h; exact absurd h (by decide)
      · rw [if_neg c3] at h; exact absurd h (by decide)
theorem tkN_lt {B : Nat → Int32} {L a : Nat} (hk : tkK B L a = 1) (hf : tkF B L a = 0) : tkN B L a < 13 := by
  obtain ⟨c1, c2⟩ := tkK_1 hk
  unfold tkF at hf
  rw [if_neg c1, if_pos c2] at hf
  have h1 := nmF_le B a (rnF isLt B (L - a) a) 13 0
  unfold tkN
  by_cases c3 : nmF B a (rnF isLt B (L - a) a) 13 0 = 13
  · rw [if_pos c3] at hf; exact absurd hf (by decide)
  · omega
theorem tkE_gt {B : Nat → Int32} {L a : Nat} (hk : tkK B L a = 1) : a + 1 ≤ tkE B L a := by
  obtain ⟨c1, c2⟩ := tkK_1 hk
  unfold tkE
  rw [if_neg c1, if_pos c2, show L - a = (L - a - 1) + 1 by omega, rnF_go c2]
  exact (rnF_le isLt B (L - a - 1) (a + 1)).1
theorem lnE_le {B : Nat → Int32} {L p nm : Nat} (h : p ≤ L) : p ≤ lnE B L p nm ∧ lnE B L p nm ≤ L := by
  have le2 := slE_le (B := B) (nm := nm) h
  have le3 := tkA_le (B := B) le2.2
  have le4 := tkE_le (B := B) le3.2
  have le5 := tkA_le (B := B) le4.2
  have le6 := tkE_le (B := B) le5.2
  unfold lnE lnC lnA
  omega
theorem lnT_le (B : Nat → Int32) (L p nm : Nat) (told : Int32) : lnT B L p nm told ≤ 4 := by
  have a1 := slT_le B L p nm told
  have a2 : lnV B L p nm ≤ 3 := nbT_le _ _ _ _ _
  have a3 : lnX B L p nm ≤ 2 := by
    have := tkF_le B L (lnC B L p nm)
    unfold lnX
    repeat' split
    all_goals omega
  unfold lnT
  repeat' split
  all_goals omega
set_option maxHeartbeats 1600000 in
theorem C_readLineBad {l : Launch} {G : GE} {h : Hp} (hk : ¬ h g_reader 0 5 = 1) : CT l G mX1_readLine [vR g_reader 0, vR g_tape 0] h (fun r h' => r = none ∧ h' = hset h g_reader 0 3 2) := by
  refine CT.of (lv := [_, _, _, _]) (by decide +kernel) (Nat.le_of_ble_eq_true rfl) rfl ?_
  refine E_aload_n (pc := 0) 0 dX1_readLine_0 rfl rfl ?_
  refine E_getI (pc := 1) dX1_readLine_1 fl_RX1_42 rfl rfl ?_
  refine E_iconst (pc := 4) (1) dX1_readLine_4 (by decide) ?_
  refine E_icmp_eq (pc := 5) 14 dX1_readLine_5 rfl (fun q5 => absurd q5 hk) (fun q5 => ?_)
  refine E_aload_n (pc := 8) 0 dX1_readLine_8 rfl rfl ?_
  refine E_iconst (pc := 9) (2) dX1_readLine_9 (by decide) ?_
  refine E_put (pc := 10) dX1_readLine_10 fp_RX1_30 rfl rfl ?_
  refine E_vret (pc := 13) dX1_readLine_13 rfl ?_
  first | exact ⟨rfl, rfl⟩ | exact ⟨by grind [bi], rfl⟩
def TxI (h h2 : Hp) (p : Nat) (told : Int32) (dr : Nat → Int32) : Prop := (∀ x, x ≠ g_reader → x ≠ g_draft → h2 x = h x) ∧ h2 g_reader 0 4 = nI p ∧ h2 g_reader 0 1 = told ∧ h2 g_reader 0 3 = 0 ∧ ∀ j, j < 18 → h2 g_draft 0 j = dr j
def TxQ (h h' : Hp) (R : Nat × Nat × Nat × (Nat → Int32)) (r : Option Int32) : Prop := (∀ x, x ≠ g_reader → x ≠ g_draft → h' x = h x) ∧ h' g_reader 0 2 = nI R.2.1 ∧ h' g_reader 0 3 = nI R.1 ∧ r = some (nI R.2.2.1) ∧ (R.1 = 0 → ∀ j, j < 18 → h' g_draft 0 j = R.2.2.2 j)
set_option maxHeartbeats 1600000 in
theorem C_X1_readText {l : Launch} {G : GE} {h : Hp} {L : Nat} (hL : h g_tape 0 1 = nI L) (hL2 : L ≤ 200) : CT l G mX1_readText [vR g_reader 0, vR g_tape 0] h (fun r h' => TxQ h h' (psF (h g_tapeB 0) L 201 0 0 usual 0) r) := by
  refine CT.of (lv := [_, _, _]) (by decide +kernel) (Nat.le_of_ble_eq_true rfl) rfl ?_
  refine E_gets (pc := 0) (t := 60) dX1_readText_0 (by decide) fw_RX1_17 ?_
  refine E_iconst (pc := 3) (0) dX1_readText_3 (by decide) ?_
  refine E_aload_n (pc := 4) 0 dX1_readText_4 rfl rfl ?_
  refine E_getR0 (pc := 5) dX1_readText_5 fl_RX1_11 rfl rfl ?_
  refine E_iconst (pc := 8) (0) dX1_readText_8 (by decide) ?_
  refine E_bipush (pc := 9) (18) dX1_readText_9 (by decide) ?_
  refine E_copyRO (pc := 11) dX1_readText_11 kc_RX1_20 rfl rfl ⟨Nat.le_of_ble_eq_true rfl, Nat.le_of_ble_eq_true rfl⟩ (by decide) (by decide) (by decide) (by decide) (by decide) ?_
  refine E_aload_n (pc := 14) 0 dX1_readText_14 rfl rfl ?_
  refine E_iconst (pc := 15) (0) dX1_readText_15 (by decide) ?_
  refine E_put (pc := 16) dX1_readText_16 fp_RX1_26 rfl rfl ?_
  refine E_aload_n (pc := 19) 0 dX1_readText_19 rfl rfl ?_
  refine E_iconst (pc := 20) (0) dX1_readText_20 (by decide) ?_
  refine E_put (pc := 21) dX1_readText_21 fp_RX1_30 rfl rfl ?_
  refine E_aload_n (pc := 24) 0 dX1_readText_24 rfl rfl ?_
  refine E_iconst (pc := 25) (0) dX1_readText_25 (by decide) ?_
  refine E_put (pc := 26) dX1_readText_26 fp_RX1_33 rfl rfl ?_
  refine E_iconst (pc := 29) (0) dX1_readText_29 (by decide) ?_
  refine E_istore_n (pc := 30) 2 dX1_readText_30 rfl (Nat.le_of_ble_eq_true rfl) rfl (lz := [_, _, _]) rfl ?_
  refine down (P := fun i => ∀ h2 p told dr, TxI h h2 p told dr → p ≤ L → i ≤ p → psF (h g_tapeB 0) L (201 - i) p told dr i = psF (h g_tapeB 0) L 201 0 0 usual 0 → Ev l G mX1_readText _ 31 [some (vR g_reader 0), some (vR g_tape 0), some (vI (nI i))] [] h2) 201 ?_ ?_ 0 (Nat.zero_le _) _ 0 0 usual ⟨fun x h1 h2 => by rw [hset_t h1, hset_t h1, hset_t h1, hsetA_t h2], hset_eq _ _ _ _ _, by rw [hset_k (by decide), hset_k (by decide)]; exact hset_eq _ _ _ _ _, by rw [hset_k (by decide)]; exact hset_eq _ _ _ _ _, fun j hj => by rw [hset_t (by decide), hset_t (by decide), hset_t (by decide), hsetA_arr]; exact cpy_lt hj⟩ (Nat.zero_le _) (Nat.zero_le _) rfl
  · intro h2 p told dr tx hpL hip hps
    exact absurd hip (by omega)
  · intro i hi hk h2 p told dr tx hpL hip hps
    obtain ⟨x1, x2, x3, x4, x5⟩ := tx
    rw [show 201 - i = (201 - (i + 1)) + 1 by omega] at hps
    have eB : h2 g_tapeB 0 = h g_tapeB 0 := by rw [x1 g_tapeB (by decide) (by decide)]
    have hA := tkA_le (B := h g_tapeB 0) hpL
    have hEE := tkE_le (B := h g_tapeB 0) hA.2
    refine E_iload_n (pc := 31) 2 dX1_readText_31 rfl rfl ?_
    refine E_sipush (pc := 32) (200) dX1_readText_32 (by decide) ?_
    refine E_icmp_gt (pc := 35) 81 dX1_readText_35 rfl (fun q35 => absurd q35 (nI_nlt (a := 200) (b := i) (by omega) (by decide))) (fun q35 => ?_)
    refine E_aload_n (pc := 38) 0 dX1_readText_38 rfl rfl ?_
    refine E_aload_n (pc := 39) 1 dX1_readText_39 rfl rfl ?_
    refine E_callV (pc := 40) dX1_readText_40 (C_X1_readToken x2 x4 (by rw [x1 g_tape (by decide) (by decide)]; exact hL) hL2 hpL) rfl kv_RX1_38 rfl rfl rfl ⟨Nat.le_of_ble_eq_true rfl, Nat.le_of_ble_eq_true rfl, Nat.le_of_ble_eq_true rfl, Nat.le_of_ble_eq_true rfl⟩ (Nat.le_of_ble_eq_true rfl) ?_
    rintro _ h4 ⟨rfl, v1, v2, v3, v4, v5⟩
    rw [eB] at v3 v4 v5
    generalize hae : tkA (h g_tapeB 0) L p = a at v3 v4 v5 hA hEE
    refine E_aload_n (pc := 43) 0 dX1_readText_43 rfl rfl ?_
    refine E_getI (pc := 44) dX1_readText_44 fl_RX1_30 rfl rfl ?_
    refine E_top (y := nI (tkF (h g_tapeB 0) L a)) v4 ?_
    refine E_if_ne (pc := 47) 81 dX1_readText_47 rfl (fun q47 => ?_) (fun q47 => ?_)
    · have hf : ¬ tkF (h g_tapeB 0) L a = 0 := fun z => q47 (by rw [z]; rfl)
      have hq : psF (h g_tapeB 0) L ((201 - (i + 1)) + 1) p told dr i = (tkF (h g_tapeB 0) L a, a, i, dr) := by unfold psF; rw [hae]; exact if_pos hf
      have fin : TxQ h h4 (psF (h g_tapeB 0) L 201 0 0 usual 0) (some (nI i)) := by rw [← hps, hq]; exact ⟨fun x h1 h2 => (v1 x h1).trans (x1 x h1 h2), v3, v4, rfl, fun z => absurd z hf⟩
      refine E_iload_n (pc := 81) 2 dX1_readText_81 rfl rfl ?_
      refine E_iret (pc := 82) dX1_readText_82 rfl ?_
      exact fin
    · have hf : tkF (h g_tapeB 0) L a = 0 := (nI_eq (b := 0) (by have := tkF_le (h g_tapeB 0) L a; omega) (by decide)).mp q47
      obtain ⟨v6, v7, v8⟩ := v5 hf
      refine E_aload_n (pc := 50) 0 dX1_readText_50 rfl rfl ?_
      refine E_getI (pc := 51) dX1_readText_51 fl_RX1_42 rfl rfl ?_
      refine E_top (y := nI (tkK (h g_tapeB 0) L a)) v7 ?_
      refine E_if_ne (pc := 54) 60 dX1_readText_54 rfl (fun q54 => ?_) (fun q54 => ?_)
      · have hz : ¬ tkK (h g_tapeB 0) L a = 0 := fun z => q54 (by rw [z]; rfl)
        by_cases ho : tkK (h g_tapeB 0) L a = 1
        · have hnm := tkN_lt ho hf
          have hgt := tkE_gt ho
          have hv6 : h4 g_reader 0 6 = nI (tkN (h g_tapeB 0) L a) := by rw [v8 (Or.inl ho)]; exact if_pos (tkK_1 ho).2
          have eB4 : h4 g_tapeB 0 = h g_tapeB 0 := by rw [v1 g_tapeB (by decide)]; exact eB
          refine E_aload_n (pc := 60) 0 dX1_readText_60 rfl rfl ?_
          refine E_aload_n (pc := 61) 1 dX1_readText_61 rfl rfl ?_
          refine E_callV (pc := 62) dX1_readText_62 (C_X1_readLine (nm := tkN (h g_tapeB 0) L a) v6 v3 (by rw [v4, hf]; rfl) (by rw [v7, ho]; rfl) hv6 hnm (by rw [v1 g_tape (by decide), x1 g_tape (by decide) (by decide)]; exact hL) hL2 hEE.2) rfl kv_RX1_45 rfl rfl rfl ⟨Nat.le_of_ble_eq_true rfl, Nat.le_of_ble_eq_true rfl, Nat.le_of_ble_eq_true rfl, Nat.le_of_ble_eq_true rfl⟩ (Nat.le_of_ble_eq_true rfl) ?_
          rintro _ h5 ⟨rfl, w1, w2, w3, w4⟩
          rw [eB4, v2, x3] at w2 w3 w4
          refine E_aload_n (pc := 65) 0 dX1_readText_65 rfl rfl ?_
          refine E_getI (pc := 66) dX1_readText_66 fl_RX1_30 rfl rfl ?_
          refine E_top (y := nI (lnT (h g_tapeB 0) L (tkE (h g_tapeB 0) L a) (tkN (h g_tapeB 0) L a) told)) w3 ?_
          refine E_if_eq (pc := 69) 75 dX1_readText_69 rfl (fun q69 => ?_) (fun q69 => ?_)
          · have hl : lnT (h g_tapeB 0) L (tkE (h g_tapeB 0) L a) (tkN (h g_tapeB 0) L a) told = 0 := (nI_eq (b := 0) (by have := lnT_le (h g_tapeB 0) L (tkE (h g_tapeB 0) L a) (tkN (h g_tapeB 0) L a) told; omega) (by decide)).mp q69
            refine E_iincN (pc := 75) 2 dX1_readText_75 (Nat.le_of_ble_eq_true rfl) rfl rfl (lz := [_, _, _]) rfl ?_
            refine E_goto (pc := 78) 31 dX1_readText_78 rfl ?_
            obtain ⟨y1, y2, y3⟩ := w4 hl
            have hle := lnE_le (B := h g_tapeB 0) (nm := tkN (h g_tapeB 0) L a) hEE.2
            refine hk h5 _ _ (upd dr (ixN (slS (h g_tapeB 0) L (tkE (h g_tapeB 0) L a) (tkN (h g_tapeB 0) L a))) (tkV (h g_tapeB 0) L (lnA (h g_tapeB 0) L (tkE (h g_tapeB 0) L a) (tkN (h g_tapeB 0) L a)))) ⟨fun x h1 h2 => (w1 x h1 h2).trans ((v1 x h1).trans (x1 x h1 h2)), y1, y2, by rw [w3, hl]; rfl, fun j hj => ?_⟩ hle.2 (by omega) ?_
            · rw [y3, v1 g_draft (by decide)]; unfold upd; by_cases e : j = ixN (slS (h g_tapeB 0) L (tkE (h g_tapeB 0) L a) (tkN (h g_tapeB 0) L a)); exact (by rw [if_pos e, if_pos e]); rw [if_neg e, if_neg e]; exact x5 j hj
            · rw [← hps]; conv => rhs; unfold psF; rw [hae]
              exact ((if_neg (not_not_intro hf)).trans ((if_neg hz).trans ((if_neg (not_not_intro ho)).trans (if_neg (not_not_intro hl))))).symm
          · have hl : ¬ lnT (h g_tapeB 0) L (tkE (h g_tapeB 0) L a) (tkN (h g_tapeB 0) L a) told = 0 := fun z => q69 (by rw [z]; rfl)
            refine E_goto (pc := 72) 81 dX1_readText_72 rfl ?_
            refine E_iload_n (pc := 81) 2 dX1_readText_81 rfl rfl ?_
            refine E_iret (pc := 82) dX1_readText_82 rfl ?_
            have hq : psF (h g_tapeB 0) L ((201 - (i + 1)) + 1) p told dr i = (lnT (h g_tapeB 0) L (tkE (h g_tapeB 0) L a) (tkN (h g_tapeB 0) L a) told, lnP (h g_tapeB 0) L a (tkE (h g_tapeB 0) L a) (tkN (h g_tapeB 0) L a) told, i, dr) := by unfold psF; rw [hae]; exact (if_neg (not_not_intro hf)).trans ((if_neg hz).trans ((if_neg (not_not_intro ho)).trans (if_pos hl)))
            show TxQ h _ _ _
            rw [← hps, hq]
            exact ⟨fun x h1 h2 => (w1 x h1 h2).trans ((v1 x h1).trans (x1 x h1 h2)), w2, w3, rfl, fun z => absurd z hl⟩
        · have hq : psF (h g_tapeB 0) L ((201 - (i + 1)) + 1) p told dr i = (2, a, i, dr) := by unfold psF; rw [hae]; exact (if_neg (not_not_intro hf)).trans ((if_neg hz).trans (if_pos ho))
          refine E_aload_n (pc := 60) 0 dX1_readText_60 rfl rfl ?_
          refine E_aload_n (pc := 61) 1 dX1_readText_61 rfl rfl ?_
          refine E_callV0 (pc := 62) dX1_readText_62 (C_readLineBad (by rw [v7]; exact fun z => ho ((nI_eq (b := 1) (by have := tkK_le (h g_tapeB 0) L a; omega) (by decide)).mp z))) rfl kv_RX1_45 rfl rfl rfl ⟨Nat.le_of_ble_eq_true rfl, Nat.le_of_ble_eq_true rfl, Nat.le_of_ble_eq_true rfl, Nat.le_of_ble_eq_true rfl⟩ (Nat.le_of_ble_eq_true rfl) ?_
          refine E_aload_n (pc := 65) 0 dX1_readText_65 rfl rfl ?_
          refine E_getI (pc := 66) dX1_readText_66 fl_RX1_30 rfl rfl ?_
          refine E_top (y := 2) (hset_eq _ _ _ _ _) ?_
          refine E_if_eq (pc := 69) 75 dX1_readText_69 rfl (fun q69 => absurd q69 (by decide)) (fun q69 => ?_)
          refine E_goto (pc := 72) 81 dX1_readText_72 rfl ?_
          refine E_iload_n (pc := 81) 2 dX1_readText_81 rfl rfl ?_
          refine E_iret (pc := 82) dX1_readText_82 rfl ?_
          show TxQ h _ _ _
          rw [← hps, hq]
          exact ⟨fun x h1 h2 => by rw [hset_t h1]; exact (v1 x h1).trans (x1 x h1 h2), by rw [hset_k (by decide)]; exact v3, hset_eq _ _ _ _ _, rfl, fun z => absurd z (show ¬ (2 : Nat) = 0 by decide)⟩
      · have hz : tkK (h g_tapeB 0) L a = 0 := (nI_eq (b := 0) (by have := tkK_le (h g_tapeB 0) L a; omega) (by decide)).mp q54
        have hq : psF (h g_tapeB 0) L ((201 - (i + 1)) + 1) p told dr i = (0, a, i, dr) := by unfold psF; rw [hae]; exact (if_neg (not_not_intro hf)).trans (if_pos hz)
        have fin : TxQ h h4 (psF (h g_tapeB 0) L 201 0 0 usual 0) (some (nI i)) := by rw [← hps, hq]; exact ⟨fun x h1 h2 => (v1 x h1).trans (x1 x h1 h2), v3, by rw [v4, hf], rfl, fun _ j hj => by rw [v1 g_draft (by decide)]; exact x5 j hj⟩
        refine E_goto (pc := 57) 81 dX1_readText_57 rfl ?_
        refine E_iload_n (pc := 81) 2 dX1_readText_81 rfl rfl ?_
        refine E_iret (pc := 82) dX1_readText_82 rfl ?_
        exact fin
theorem psF_le (B : Nat → Int32) (L : Nat) : ∀ n p told dr ln, (psF B L n p told dr ln).1 ≤ 4
  | 0, _, _, _, _ => Nat.zero_le _
  | n + 1, p, told, dr, ln => by
    have a1 := tkF_le B L (tkA B L p)
    have a2 := lnT_le B L (tkE B L (tkA B L p)) (tkN B L (tkA B L p)) told
    unfold psF
    split
    · show tkF B L (tkA B L p) ≤ 4; omega
    · split
      · exact Nat.zero_le _
      · split
        · show 2 ≤ 4; omega
        · split
          · exact a2
          · exact psF_le B L n _ _ _ _
set_option maxHeartbeats 1600000 in
theorem C_X7_text {l : Launch} {G : GE} {h : Hp} {L : Nat} (hL : h g_tape 0 1 = nI L) (hL2 : L ≤ 200) : CT l G mX7_text [vR g_oab 0] h (fun r h' => r = some (if (psF (h g_tapeB 0) L 201 0 0 usual 0).1 = 0 then nI (psF (h g_tapeB 0) L 201 0 0 usual 0).2.2.1 else -10 - nI (psF (h g_tapeB 0) L 201 0 0 usual 0).2.1) ∧ h' g_tape 0 1 = 0 ∧ h' g_reader 0 3 = nI (psF (h g_tapeB 0) L 201 0 0 usual 0).1 ∧ (∀ j, j < 18 → h' g_values 0 j = if (psF (h g_tapeB 0) L 201 0 0 usual 0).1 = 0 then (psF (h g_tapeB 0) L 201 0 0 usual 0).2.2.2 j else h g_values 0 j) ∧ ∀ x, x ≠ g_reader → x ≠ g_draft → x ≠ g_tape → x ≠ g_values → h' x = h x) := by
  refine CT.of (lv := [_, _]) (by decide +kernel) (Nat.le_of_ble_eq_true rfl) rfl ?_
  generalize hRe : psF (h g_tapeB 0) L 201 0 0 usual 0 = R
  have hR4 : R.1 ≤ 4 := by rw [← hRe]; exact psF_le _ _ _ _ _ _ _
  refine E_aload_n (pc := 0) 0 dX7_text_0 rfl rfl ?_
  refine E_getR0 (pc := 1) dX7_text_1 fl_RX7_19 rfl rfl ?_
  refine E_aload_n (pc := 4) 0 dX7_text_4 rfl rfl ?_
  refine E_getR0 (pc := 5) dX7_text_5 fl_RX7_10 rfl rfl ?_
  refine E_callV (pc := 8) dX7_text_8 (C_X1_readText hL hL2) rfl kv_RX7_80 rfl rfl rfl ⟨Nat.le_of_ble_eq_true rfl, Nat.le_of_ble_eq_true rfl, Nat.le_of_ble_eq_true rfl, Nat.le_of_ble_eq_true rfl⟩ (Nat.le_of_ble_eq_true rfl) ?_
  rintro _ h2 ⟨t1, t2, t3, rfl, t4⟩
  rw [hRe] at t2 t3 t4 ⊢
  refine E_istore_n (pc := 11) 1 dX7_text_11 rfl (Nat.le_of_ble_eq_true rfl) rfl (lz := [_, _]) rfl ?_
  refine E_aload_n (pc := 12) 0 dX7_text_12 rfl rfl ?_
  refine E_getR0 (pc := 13) dX7_text_13 fl_RX7_10 rfl rfl ?_
  refine E_iconst (pc := 16) (0) dX7_text_16 (by decide) ?_
  refine E_put (pc := 17) dX7_text_17 fp_RX7_72 rfl rfl ?_
  refine E_aload_n (pc := 20) 0 dX7_text_20 rfl rfl ?_
  refine E_getR0 (pc := 21) dX7_text_21 fl_RX7_19 rfl rfl ?_
  refine E_getI (pc := 24) dX7_text_24 fl_RX7_84 rfl rfl ?_
  refine E_top (y := nI R.1) (by rw [hset_t (by decide)]; exact t3) ?_
  refine E_if_eq (pc := 27) 41 dX7_text_27 rfl (fun q27 => ?_) (fun q27 => ?_)
  · have hz : R.1 = 0 := (nI_eq (b := 0) (by omega) (by decide)).mp q27
    refine E_aload_n (pc := 41) 0 dX7_text_41 rfl rfl ?_
    refine E_getR0 (pc := 42) dX7_text_42 fl_RX7_26 rfl rfl ?_
    refine E_aload_n (pc := 45) 0 dX7_text_45 rfl rfl ?_
    refine E_getR0 (pc := 46) dX7_text_46 fl_RX7_19 rfl rfl ?_
    refine E_getR0 (pc := 49) dX7_text_49 fl_RX7_90 rfl rfl ?_
    refine E_callV0 (pc := 52) dX7_text_52 (C_X3_setAll rfl) rfl kv_RX7_93 rfl rfl rfl ⟨Nat.le_of_ble_eq_true rfl, Nat.le_of_ble_eq_true rfl, Nat.le_of_ble_eq_true rfl, Nat.le_of_ble_eq_true rfl⟩ (Nat.le_of_ble_eq_true rfl) ?_
    refine E_iload_n (pc := 55) 1 dX7_text_55 rfl rfl ?_
    refine E_iret (pc := 56) dX7_text_56 rfl ?_
    exact ⟨by rw [if_pos hz], by rw [hsetA_t (by decide)]; exact hset_eq _ _ _ _ _, by rw [hsetA_t (by decide), hset_t (by decide)]; exact t3, fun j hj => by rw [if_pos hz, hsetA_arr, cpy_lt hj, hset_t (by decide)]; exact t4 hz j hj, fun x h1 h2 h3 h4 => by rw [hsetA_t h4, hset_t h3]; exact t1 x h1 h2⟩
  · have hz : ¬ R.1 = 0 := fun z => q27 (by rw [z]; rfl)
    refine E_bipush (pc := 30) (-10) dX7_text_30 (by decide) ?_
    refine E_aload_n (pc := 32) 0 dX7_text_32 rfl rfl ?_
    refine E_getR0 (pc := 33) dX7_text_33 fl_RX7_19 rfl rfl ?_
    refine E_getI (pc := 36) dX7_text_36 fl_RX7_87 rfl rfl ?_
    refine E_isub (pc := 39) dX7_text_39 ?_
    refine E_iret (pc := 40) dX7_text_40 rfl ?_
    exact ⟨by rw [if_neg hz, hset_t (by decide), t2], hset_eq _ _ _ _ _, by rw [hset_t (by decide)]; exact t3, fun j hj => by rw [if_neg hz, hset_t (by decide), t1 g_values (by decide) (by decide)], fun x h1 h2 h3 h4 => by rw [hset_t h3]; exact t1 x h1 h2⟩
