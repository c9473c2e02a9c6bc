/-! the reader: numbers, lines, the text -/
def nbT (B : Nat → Int32) (L p : Nat) (lo hi : Int32) : Nat := if ¬ tkF B L (tkA B L p) = 0 then tkF B L (tkA B L p) else if ¬ tkK B L (tkA B L p) = 2 then 2 else if lo ≤ tkV B L (tkA B L p) ∧ tkV B L (tkA B L p) ≤ hi then 0 else 3
def NbP (h h' : Hp) (L p : Nat) (lo hi : Int32) (r : Option Int32) : Prop := (∀ x, x ≠ g_reader → h' x = h x) ∧ h' g_reader 0 1 = h g_reader 0 1 ∧ h' g_reader 0 2 = nI (tkA (h g_tapeB 0) L p) ∧ h' g_reader 0 3 = nI (nbT (h g_tapeB 0) L p lo hi) ∧ (nbT (h g_tapeB 0) L p lo hi = 0 → r = some (tkV (h g_tapeB 0) L (tkA (h g_tapeB 0) L p)) ∧ h' g_reader 0 4 = nI (tkE (h g_tapeB 0) L (tkA (h g_tapeB 0) L p))) ∧ ∃ x, r = some x
theorem tkF_le (B : Nat → Int32) (L a : Nat) : tkF B L a ≤ 1 := by
  unfold tkF
  repeat' split
  all_goals omega
theorem tkK_le (B : Nat → Int32) (L a : Nat) : tkK B L a ≤ 3 := by
  unfold tkK
  repeat' split
  all_goals omega
set_option maxHeartbeats 1600000 in
theorem C_X1_readNumber {l : Launch} {G : GE} {h : Hp} {p L : Nat} {lo hi : Int32} (hp : h g_reader 0 4 = nI p) (h3 : h g_reader 0 3 = 0) (hL : h g_tape 0 1 = nI L) (hL2 : L ≤ 200) (hpL : p ≤ L) : CT l G mX1_readNumber [vR g_reader 0, vR g_tape 0, vI lo, vI hi] h (fun r h' => NbP h h' L p lo hi r) := by
  refine CT.of (lv := [_, _, _, _]) (by decide +kernel) (Nat.le_of_ble_eq_true rfl) rfl ?_
  have hle := tkF_le (h g_tapeB 0) L (tkA (h g_tapeB 0) L p)
  refine E_aload_n (pc := 0) 0 dX1_readNumber_0 rfl rfl ?_
  refine E_aload_n (pc := 1) 1 dX1_readNumber_1 rfl rfl ?_
  refine E_callV (pc := 2) dX1_readNumber_2 (C_X1_readToken hp h3 hL hL2 hpL) rfl kv_RX1_38 rfl rfl rfl ⟨Nat.le_of_ble_eq_true rfl, Nat.le_of_ble_eq_true rfl, Nat.le_of_ble_eq_true rfl, Nat.le_of_ble_eq_true rfl⟩ (Nat.le_of_ble_eq_true rfl) ?_
  rintro _ h2 ⟨rfl, s1, s2, s3, s4, s5⟩
  refine E_aload_n (pc := 5) 0 dX1_readNumber_5 rfl rfl ?_
  refine E_getI (pc := 6) dX1_readNumber_6 fl_RX1_30 rfl rfl ?_
  refine E_top (y := nI (tkF (h g_tapeB 0) L (tkA (h g_tapeB 0) L p))) s4 ?_
  refine E_if_eq (pc := 9) 14 dX1_readNumber_9 rfl (fun q9 => ?_) (fun q9 => ?_)
  · have hf : tkF (h g_tapeB 0) L (tkA (h g_tapeB 0) L p) = 0 := (nI_eq (b := 0) (by omega) (by decide)).mp q9
    obtain ⟨t4, t5, t6⟩ := s5 hf
    refine E_aload_n (pc := 14) 0 dX1_readNumber_14 rfl rfl ?_
    refine E_getI (pc := 15) dX1_readNumber_15 fl_RX1_42 rfl rfl ?_
    refine E_iconst (pc := 18) (2) dX1_readNumber_18 (by decide) ?_
    refine E_eq (st' := [vI 2, vI (nI (tkK (h g_tapeB 0) L (tkA (h g_tapeB 0) L p)))]) rfl (by rw [t5]; rfl) rfl ?_
    refine E_icmp_eq (pc := 19) 29 dX1_readNumber_19 rfl (fun q19 => ?_) (fun q19 => ?_)
    · have hk : tkK (h g_tapeB 0) L (tkA (h g_tapeB 0) L p) = 2 := (nI_eq (b := 2) (by have := tkK_le (h g_tapeB 0) L (tkA (h g_tapeB 0) L p); omega) (by decide)).mp q19
      refine E_aload_n (pc := 29) 0 dX1_readNumber_29 rfl rfl ?_
      refine E_getI (pc := 30) dX1_readNumber_30 fl_RX1_48 rfl rfl ?_
      refine E_top (y := tkV (h g_tapeB 0) L (tkA (h g_tapeB 0) L p)) (t6 (Or.inr hk)) ?_
      refine E_iload_n (pc := 33) 2 dX1_readNumber_33 rfl rfl ?_
      refine E_iload_n (pc := 34) 3 dX1_readNumber_34 rfl rfl ?_
      refine E_callN1 (pc := 35) dX1_readNumber_35 C_X7_within rfl kn_RX1_61 rfl ⟨Nat.le_of_ble_eq_true rfl, Nat.le_of_ble_eq_true rfl, Nat.le_of_ble_eq_true rfl, Nat.le_of_ble_eq_true rfl⟩ (Nat.le_of_ble_eq_true rfl) ?_
      refine E_if_ne (pc := 38) 48 dX1_readNumber_38 rfl (fun q38 => ?_) (fun q38 => ?_)
      · have hb : lo ≤ tkV (h g_tapeB 0) L (tkA (h g_tapeB 0) L p) ∧ tkV (h g_tapeB 0) L (tkA (h g_tapeB 0) L p) ≤ hi := Decidable.of_not_not (fun z => q38 (bi_0.mpr z))
        refine E_aload_n (pc := 48) 0 dX1_readNumber_48 rfl rfl ?_
        refine E_getI (pc := 49) dX1_readNumber_49 fl_RX1_48 rfl rfl ?_
        refine E_iret (pc := 52) dX1_readNumber_52 rfl ?_
        have hn : nbT (h g_tapeB 0) L p lo hi = 0 := (if_neg (not_not_intro hf)).trans ((if_neg (not_not_intro hk)).trans (if_pos hb))
        unfold NbP
        rw [hn]
        exact ⟨s1, s2, s3, by rw [s4, hf], fun _ => ⟨by rw [t6 (Or.inr hk)], t4⟩, _, rfl⟩
      · have hb := bi_0.mp q38
        refine E_aload_n (pc := 41) 0 dX1_readNumber_41 rfl rfl ?_
        refine E_iconst (pc := 42) (3) dX1_readNumber_42 (by decide) ?_
        refine E_put (pc := 43) dX1_readNumber_43 fp_RX1_30 rfl rfl ?_
        refine E_iconst (pc := 46) (0) dX1_readNumber_46 (by decide) ?_
        refine E_iret (pc := 47) dX1_readNumber_47 rfl ?_
        have hn : nbT (h g_tapeB 0) L p lo hi = 3 := (if_neg (not_not_intro hf)).trans ((if_neg (not_not_intro hk)).trans (if_neg hb))
        unfold NbP
        rw [hn]
        exact ⟨fun x hx => by rw [hset_t hx]; exact s1 x hx, by rw [hset_k (by decide)]; exact s2, by rw [hset_k (by decide)]; exact s3, hset_eq _ _ _ _ _, fun z => absurd z (by decide), _, rfl⟩
    · have hk : ¬ tkK (h g_tapeB 0) L (tkA (h g_tapeB 0) L p) = 2 := fun z => q19 (by rw [z]; rfl)
      refine E_aload_n (pc := 22) 0 dX1_readNumber_22 rfl rfl ?_
      refine E_iconst (pc := 23) (2) dX1_readNumber_23 (by decide) ?_
      refine E_put (pc := 24) dX1_readNumber_24 fp_RX1_30 rfl rfl ?_
      refine E_iconst (pc := 27) (0) dX1_readNumber_27 (by decide) ?_
      refine E_iret (pc := 28) dX1_readNumber_28 rfl ?_
      have hn : nbT (h g_tapeB 0) L p lo hi = 2 := (if_neg (not_not_intro hf)).trans (if_pos hk)
      unfold NbP
      rw [hn]
      exact ⟨fun x hx => by rw [hset_t hx]; exact s1 x hx, by rw [hset_k (by decide)]; exact s2, by rw [hset_k (by decide)]; exact s3, hset_eq _ _ _ _ _, fun z => absurd z (by decide), _, rfl⟩
  · have hf : ¬ tkF (h g_tapeB 0) L (tkA (h g_tapeB 0) L p) = 0 := fun z => q9 (by rw [z]; rfl)
    refine E_iconst (pc := 12) (0) dX1_readNumber_12 (by decide) ?_
    refine E_iret (pc := 13) dX1_readNumber_13 rfl ?_
    have hn : nbT (h g_tapeB 0) L p lo hi = tkF (h g_tapeB 0) L (tkA (h g_tapeB 0) L p) := if_pos hf
    unfold NbP
    rw [hn]
    exact ⟨s1, s2, s3, s4, fun z => absurd z hf, _, rfl⟩
/-- which rule a line tells -/
def slB (B : Nat → Int32) (L p nm : Nat) : Nat := if nm = 0 then nbT B L p 0 3 else if nm = 1 then nbT B L p 0 2 else 0
def slS (B : Nat → Int32) (L p nm : Nat) : Int32 := if nm = 0 then tkV B L (tkA B L p) else if nm = 1 then 4 + tkV B L (tkA B L p) else nI nm + 5
def slT (B : Nat → Int32) (L p nm : Nat) (told : Int32) : Nat := if ¬ slB B L p nm = 0 then slB B L p nm else if told &&& (1 <<< (slS B L p nm &&& 31)) = 0 then 0 else 4
def slP (B : Nat → Int32) (L a0 p nm : Nat) : Nat := if nm < 2 then tkA B L p else a0
def slE (B : Nat → Int32) (L p nm : Nat) : Nat := if nm < 2 then tkE B L (tkA B L p) else p
theorem nbT_le (B : Nat → Int32) (L p : Nat) (lo hi : Int32) : nbT B L p lo hi ≤ 3 := by
  have := tkF_le B L (tkA B L p)
  unfold nbT
  repeat' split
  all_goals omega
theorem slB_le (B : Nat → Int32) (L p nm : Nat) : slB B L p nm ≤ 3 := by
  unfold slB
  repeat' split
  · exact nbT_le _ _ _ _ _
  · exact nbT_le _ _ _ _ _
  · omega
def SlP (h h' : Hp) (L a0 p nm : Nat) (r : Option Int32) : Prop := (∀ x, x ≠ g_reader → h' x = h x) ∧ h' g_reader 0 1 = h g_reader 0 1 ∧ h' g_reader 0 2 = nI (slP (h g_tapeB 0) L a0 p nm) ∧ h' g_reader 0 3 = nI (slT (h g_tapeB 0) L p nm (h g_reader 0 1)) ∧ (slT (h g_tapeB 0) L p nm (h g_reader 0 1) = 0 → r = some (slS (h g_tapeB 0) L p nm) ∧ h' g_reader 0 4 = nI (slE (h g_tapeB 0) L p nm)) ∧ ∃ x, r = some x
/-- where the number (if one is asked for) is read -/
def slI (h h2 : Hp) (L a0 p nm : Nat) (x : Int32) : Prop := (∀ x, x ≠ g_reader → h2 x = h x) ∧ h2 g_reader 0 1 = h g_reader 0 1 ∧ h2 g_reader 0 2 = nI (slP (h g_tapeB 0) L a0 p nm) ∧ h2 g_reader 0 3 = nI (slB (h g_tapeB 0) L p nm) ∧ (slB (h g_tapeB 0) L p nm = 0 → x = slS (h g_tapeB 0) L p nm ∧ h2 g_reader 0 4 = nI (slE (h g_tapeB 0) L p nm))
/-! a line -/
theorem tkE_le {B : Nat → Int32} {L a : Nat} (h : a ≤ L) : a ≤ tkE B L a ∧ tkE B L a ≤ L := by
  unfold tkE
  by_cases c1 : L ≤ a
  · rw [if_pos c1]; omega
  · rw [if_neg c1]
    by_cases c2 : isLt (B a)
    · rw [if_pos c2]; have := rnF_le isLt B (L - a) a; omega
    · rw [if_neg c2]
      by_cases c3 : isFg (B a)
      · rw [if_pos c3]; have := rnF_le isFg B (L - a) a; omega
      · rw [if_neg c3]; omega
theorem nbT_0 {B : Nat → Int32} {L p : Nat} {lo hi : Int32} (h : nbT B L p lo hi = 0) : lo ≤ tkV B L (tkA B L p) ∧ tkV B L (tkA B L p) ≤ hi := by
  unfold nbT at h
  by_cases c1 : ¬ tkF B L (tkA B L p) = 0
  · rw [if_pos c1] at h; exact absurd h c1
  · rw [if_neg c1] at h
    by_cases c2 : ¬ tkK B L (tkA B L p) = 2
    · rw [if_pos c2] at h; exact absurd h (by decide)
    · rw [if_neg c2] at h
      by_cases c3 : lo ≤ tkV B L (tkA B L p) ∧ tkV B L (tkA B L p) ≤ hi
      · exact c3
      · rw [if_neg c3] at h; exact absurd h (by decide)
theorem slS_lt {B : Nat → Int32} {L p nm : Nat} (hnm : nm < 13) (h : slB B L p nm = 0) : ∃ s, s < 18 ∧ slS B L p nm = nI s := by
  unfold slB at h
  unfold slS
  by_cases c1 : nm = 0
  · rw [if_pos c1] at h ⊢
    obtain ⟨h1, h2⟩ := nbT_0 h
    obtain ⟨j, hj, e⟩ := natof 3 (by decide) h1 h2
    exact ⟨j, by omega, e⟩
  · rw [if_neg c1] at h ⊢
    by_cases c2 : nm = 1
    · rw [if_pos c2] at h ⊢
      obtain ⟨h1, h2⟩ := nbT_0 h
      obtain ⟨j, hj, e⟩ := natof 2 (by decide) h1 h2
      exact ⟨4 + j, by omega, by rw [e, show (4 : Int32) = nI 4 from rfl, nI_add]⟩
    · rw [if_neg c2] at h ⊢
      exact ⟨nm + 5, by omega, by rw [show (5 : Int32) = nI 5 from rfl, nI_add]⟩
theorem slT_0 {B : Nat → Int32} {L p nm : Nat} {told : Int32} (h : slT B L p nm told = 0) : slB B L p nm = 0 := by
  unfold slT at h
  by_cases c : ¬ slB B L p nm = 0
  · rw [if_pos c] at h; exact h
  · exact Decidable.of_not_not c
theorem slT_le (B : Nat → Int32) (L p nm : Nat) (told : Int32) : slT B L p nm told ≤ 4 := by
  have := slB_le B L p nm
  unfold slT
  repeat' split
  all_goals omega
theorem slE_le {B : Nat → Int32} {L p nm : Nat} (h : p ≤ L) : p ≤ slE B L p nm ∧ slE B L p nm ≤ L := by
  unfold slE
  by_cases c : nm < 2
  · rw [if_pos c]; have := tkA_le (B := B) h; have := tkE_le (B := B) this.2; omega
  · rw [if_neg c]; omega
def lnV (B : Nat → Int32) (L p nm : Nat) : Nat := nbT B L (slE B L p nm) (tLEAST.getD (ixN (slS B L p nm)) 0) (tMOST.getD (ixN (slS B L p nm)) 0)
def lnA (B : Nat → Int32) (L p nm : Nat) : Nat := tkA B L (slE B L p nm)
def lnC (B : Nat → Int32) (L p nm : Nat) : Nat := tkA B L (tkE B L (lnA B L p nm))
def lnX (B : Nat → Int32) (L p nm : Nat) : Nat := if ¬ tkF B L (lnC B L p nm) = 0 then tkF B L (lnC B L p nm) else if tkK B L (lnC B L p nm) = 3 then 0 else 2
/-- a line's fault, its place, its end -/
def lnT (B : Nat → Int32) (L p nm : Nat) (told : Int32) : Nat := if ¬ slT B L p nm told = 0 then slT B L p nm told else if ¬ lnV B L p nm = 0 then lnV B L p nm else lnX B L p nm
def lnP (B : Nat → Int32) (L a0 p nm : Nat) (told : Int32) : Nat := if ¬ slT B L p nm told = 0 then slP B L a0 p nm else if ¬ lnV B L p nm = 0 then lnA B L p nm else lnC B L p nm
def lnE (B : Nat → Int32) (L p nm : Nat) : Nat := tkE B L (lnC B L p nm)
def LnP (h h' : Hp) (L a0 p nm : Nat) : Prop := (∀ x, x ≠ g_reader → x ≠ g_draft → h' x = h x) ∧ h' g_reader 0 2 = nI (lnP (h g_tapeB 0) L a0 p nm (h g_reader 0 1)) ∧ h' g_reader 0 3 = nI (lnT (h g_tapeB 0) L p nm (h g_reader 0 1)) ∧ (lnT (h g_tapeB 0) L p nm (h g_reader 0 1) = 0 → h' g_reader 0 4 = nI (lnE (h g_tapeB 0) L p nm) ∧ h' g_reader 0 1 = h g_reader 0 1 ||| (1 <<< (slS (h g_tapeB 0) L p nm &&& 31)) ∧ h' g_draft 0 = upd (h g_draft 0) (ixN (slS (h g_tapeB 0) L p nm)) (tkV (h g_tapeB 0) L (lnA (h g_tapeB 0) L p nm)))
/-! a line behind its rule: the value -/
set_option maxHeartbeats 1600000 in
theorem line_tail {l : Launch} {G : GE} {h h2 : Hp} {p L a0 nm : Nat} {x : Int32} (hnm : nm < 13) (hL : h g_tape 0 1 = nI L) (hL2 : L ≤ 200) (hpL : p ≤ L) (hS : SlP h h2 L a0 p nm (some x)) : Ev l G mX1_readLine (fkM G mX1_readLine (fun r h' => r = none ∧ LnP h h' L a0 p nm)) 80 [some (vR g_reader 0), some (vR g_tape 0), some (vI x), none] [] h2 := by
  have le1 := slT_le (h g_tapeB 0) L p nm (h g_reader 0 1)
  have le2 := slE_le (B := h g_tapeB 0) (nm := nm) hpL
  have le3 := tkA_le (B := h g_tapeB 0) le2.2
  have le4 := tkE_le (B := h g_tapeB 0) le3.2
  obtain ⟨s1, s2, s3, s4, s5, -⟩ := hS
  refine E_aload_n (pc := 80) 0 dX1_readLine_80 rfl rfl ?_
  refine E_getI (pc := 81) dX1_readLine_81 fl_RX1_30 rfl rfl ?_
  refine E_top (y := nI (slT (h g_tapeB 0) L p nm (h g_reader 0 1))) s4 ?_
  refine E_if_eq (pc := 84) 88 dX1_readLine_84 rfl (fun q84 => ?_) (fun q84 => ?_)
  · have hs : slT (h g_tapeB 0) L p nm (h g_reader 0 1) = 0 := (nI_eq (b := 0) (by omega) (by decide)).mp q84
    obtain ⟨ex, s6⟩ := s5 hs
    obtain rfl := Option.some.inj ex
    obtain ⟨sl, hsl, esl⟩ := slS_lt hnm (slT_0 hs)
    have s4z : h2 g_reader 0 3 = 0 := by rw [s4, hs]; rfl
    have eB : h2 g_tapeB 0 = h g_tapeB 0 := by rw [s1 g_tapeB (by decide)]
    have hxv : vp_in (slS (h g_tapeB 0) L p nm) 18 := by rw [esl]; exact vp_in_nI hsl (by decide)
    refine E_aload_n (pc := 88) 0 dX1_readLine_88 rfl rfl ?_
    refine E_aload_n (pc := 89) 1 dX1_readLine_89 rfl rfl ?_
    refine E_gets (pc := 90) (t := 61) dX1_readLine_90 (by decide) fw_RX1_55 ?_
    refine E_iload_n (pc := 93) 2 dX1_readLine_93 rfl rfl ?_
    refine E_ald_ro (pc := 94) dX1_readLine_94 rfl hxv ?_
    refine E_gets (pc := 95) (t := 62) dX1_readLine_95 (by decide) fw_RX1_58 ?_
    refine E_iload_n (pc := 98) 2 dX1_readLine_98 rfl rfl ?_
    refine E_ald_ro (pc := 99) dX1_readLine_99 rfl hxv ?_
    refine E_callV (pc := 100) dX1_readLine_100 (C_X1_readNumber s6 s4z (by rw [s1 g_tape (by decide)]; exact hL) hL2 le2.2) rfl kv_RX1_51 rfl rfl rfl ⟨Nat.le_of_ble_eq_true rfl, Nat.le_of_ble_eq_true rfl, Nat.le_of_ble_eq_true rfl, Nat.le_of_ble_eq_true rfl⟩ (Nat.le_of_ble_eq_true rfl) ?_
    rintro _ h4 ⟨t1, t2, t3, t4, t5, y, rfl⟩
    rw [eB] at t3 t4 t5
    refine E_istore_n (pc := 103) 3 dX1_readLine_103 rfl (Nat.le_of_ble_eq_true rfl) rfl (lz := [_, _, _, _]) rfl ?_
    refine E_aload_n (pc := 104) 0 dX1_readLine_104 rfl rfl ?_
    refine E_getI (pc := 105) dX1_readLine_105 fl_RX1_30 rfl rfl ?_
    refine E_top (y := nI (lnV (h g_tapeB 0) L p nm)) t4 ?_
    refine E_if_eq (pc := 108) 112 dX1_readLine_108 rfl (fun q108 => ?_) (fun q108 => ?_)
    · have hv : lnV (h g_tapeB 0) L p nm = 0 := (nI_eq (b := 0) (by have := nbT_le (h g_tapeB 0) L (slE (h g_tapeB 0) L p nm) (tLEAST.getD (ixN (slS (h g_tapeB 0) L p nm)) 0) (tMOST.getD (ixN (slS (h g_tapeB 0) L p nm)) 0); show nbT _ _ _ _ _ < _; omega) (by decide)).mp q108
      obtain ⟨ey, t6⟩ := t5 hv
      obtain rfl := Option.some.inj ey
      have t4z : h4 g_reader 0 3 = 0 := by rw [t4]; show nI (lnV (h g_tapeB 0) L p nm) = 0; rw [hv]; rfl
      refine E_aload_n (pc := 112) 0 dX1_readLine_112 rfl rfl ?_
      refine E_getR0 (pc := 113) dX1_readLine_113 fl_RX1_11 rfl rfl ?_
      refine E_iload_n (pc := 116) 2 dX1_readLine_116 rfl rfl ?_
      refine E_iload_n (pc := 117) 3 dX1_readLine_117 rfl rfl ?_
      refine E_iast (pc := 118) dX1_readLine_118 rfl hxv ?_
      refine E_aload_n (pc := 119) 0 dX1_readLine_119 rfl rfl ?_
      refine E_dup (pc := 120) dX1_readLine_120 (fun _ z => by cases z) ?_
      refine E_getI (pc := 121) dX1_readLine_121 fl_RX1_26 rfl rfl ?_
      refine E_iconst (pc := 124) (1) dX1_readLine_124 (by decide) ?_
      refine E_iload_n (pc := 125) 2 dX1_readLine_125 rfl rfl ?_
      refine E_ishl (pc := 126) dX1_readLine_126 ?_
      refine E_ior (pc := 127) dX1_readLine_127 ?_
      refine E_put (pc := 128) dX1_readLine_128 fp_RX1_26 rfl rfl ?_
      generalize hh5 : hset (hset h4 g_draft 0 (ixN (slS (h g_tapeB 0) L p nm)) (tkV (h g_tapeB 0) L (tkA (h g_tapeB 0) L (slE (h g_tapeB 0) L p nm)))) g_reader 0 1 _ = h5'
      have u1 : ∀ x, x ≠ g_reader → x ≠ g_draft → h5' x = h x := fun x hx hy => by rw [← hh5, hset_t hx, hset_t hy, t1 x hx, s1 x hx]
      have u2 : h5' g_reader 0 1 = h g_reader 0 1 ||| (1 <<< (slS (h g_tapeB 0) L p nm &&& 31)) := by rw [← hh5, hset_eq, hset_t (by decide), t2, s2]
      have u3 : h5' g_draft 0 = upd (h g_draft 0) (ixN (slS (h g_tapeB 0) L p nm)) (tkV (h g_tapeB 0) L (lnA (h g_tapeB 0) L p nm)) := by rw [← hh5, hset_t (by decide), hset_arr, t1 g_draft (by decide), s1 g_draft (by decide)]; rfl
      have u4 : h5' g_reader 0 4 = nI (tkE (h g_tapeB 0) L (lnA (h g_tapeB 0) L p nm)) := by rw [← hh5, hset_k (by decide), hset_t (by decide)]; exact t6
      have u5 : h5' g_reader 0 3 = 0 := by rw [← hh5, hset_k (by decide), hset_t (by decide)]; exact t4z
      have uB : h5' g_tapeB 0 = h g_tapeB 0 := by rw [u1 g_tapeB (by decide) (by decide)]
      refine E_aload_n (pc := 131) 0 dX1_readLine_131 rfl rfl ?_
      refine E_aload_n (pc := 132) 1 dX1_readLine_132 rfl rfl ?_
      refine E_callV (pc := 133) dX1_readLine_133 (C_X1_readToken u4 u5 (by rw [u1 g_tape (by decide) (by decide)]; exact hL) hL2 le4.2) rfl kv_RX1_38 rfl rfl rfl ⟨Nat.le_of_ble_eq_true rfl, Nat.le_of_ble_eq_true rfl, Nat.le_of_ble_eq_true rfl, Nat.le_of_ble_eq_true rfl⟩ (Nat.le_of_ble_eq_true rfl) ?_
      rintro _ h6 ⟨rfl, v1, v2, v3, v4, v5⟩
      rw [uB] at v3 v4 v5
      refine E_aload_n (pc := 136) 0 dX1_readLine_136 rfl rfl ?_
      refine E_getI (pc := 137) dX1_readLine_137 fl_RX1_30 rfl rfl ?_
      refine E_top (y := nI (tkF (h g_tapeB 0) L (lnC (h g_tapeB 0) L p nm))) v4 ?_
      refine E_if_ne (pc := 140) 156 dX1_readLine_140 rfl (fun q140 => ?_) (fun q140 => ?_)
      · have hf : ¬ tkF (h g_tapeB 0) L (lnC (h g_tapeB 0) L p nm) = 0 := fun z => q140 (by rw [z]; rfl)
        have eX : lnX (h g_tapeB 0) L p nm = tkF (h g_tapeB 0) L (lnC (h g_tapeB 0) L p nm) := if_pos hf
        have e1 : lnT (h g_tapeB 0) L p nm (h g_reader 0 1) = tkF (h g_tapeB 0) L (lnC (h g_tapeB 0) L p nm) := (if_neg (not_not_intro hs)).trans ((if_neg (not_not_intro hv)).trans eX)
        have e2 : lnP (h g_tapeB 0) L a0 p nm (h g_reader 0 1) = lnC (h g_tapeB 0) L p nm := (if_neg (not_not_intro hs)).trans (if_neg (not_not_intro hv))
        have fin : (none : Option Int32) = none ∧ LnP h h6 L a0 p nm := ⟨rfl, fun x hx hy => (v1 x hx).trans (u1 x hx hy), by rw [e2]; exact v3, by rw [e1]; exact v4, fun z => absurd (e1.symm.trans z) hf⟩
        refine E_vret (pc := 156) dX1_readLine_156 rfl ?_
        first | exact fin | exact ⟨rfl, fun x hx hy => (hset_t hx).trans ((v1 x hx).trans (u1 x hx hy)), by rw [e2]; exact (hset_k (by decide)).trans v3, by rw [e1]; exact hset_eq _ _ _ _ _, fun z => absurd (e1.symm.trans z) (by decide)⟩
      · have hf : tkF (h g_tapeB 0) L (lnC (h g_tapeB 0) L p nm) = 0 := (nI_eq (b := 0) (by have := tkF_le (h g_tapeB 0) L (lnC (h g_tapeB 0) L p nm); omega) (by decide)).mp q140
        obtain ⟨v6, v7, -⟩ := v5 hf
        refine E_aload_n (pc := 143) 0 dX1_readLine_143 rfl rfl ?_
        refine E_getI (pc := 144) dX1_readLine_144 fl_RX1_42 rfl rfl ?_
        refine E_iconst (pc := 147) (3) dX1_readLine_147 (by decide) ?_
        refine E_eq (st' := [vI 3, vI (nI (tkK (h g_tapeB 0) L (lnC (h g_tapeB 0) L p nm)))]) rfl (by rw [v7]; rfl) rfl ?_
        refine E_icmp_eq (pc := 148) 156 dX1_readLine_148 rfl (fun q148 => ?_) (fun q148 => ?_)
        · have hk : tkK (h g_tapeB 0) L (lnC (h g_tapeB 0) L p nm) = 3 := (nI_eq (b := 3) (by have := tkK_le (h g_tapeB 0) L (lnC (h g_tapeB 0) L p nm); omega) (by decide)).mp q148
          have e1 : lnT (h g_tapeB 0) L p nm (h g_reader 0 1) = 0 := (if_neg (not_not_intro hs)).trans ((if_neg (not_not_intro hv)).trans ((if_neg (not_not_intro hf)).trans (if_pos hk)))
          have e2 : lnP (h g_tapeB 0) L a0 p nm (h g_reader 0 1) = lnC (h g_tapeB 0) L p nm := (if_neg (not_not_intro hs)).trans (if_neg (not_not_intro hv))
          have fin : (none : Option Int32) = none ∧ LnP h h6 L a0 p nm := ⟨rfl, fun x hx hy => (v1 x hx).trans (u1 x hx hy), by rw [e2]; exact v3, by rw [e1]; rw [v4]; exact congrArg nI hf, fun _ => ⟨v6, v2.trans u2, by rw [v1 g_draft (by decide)]; exact u3⟩⟩
          refine E_vret (pc := 156) dX1_readLine_156 rfl ?_
          first | exact fin | exact ⟨rfl, fun x hx hy => (hset_t hx).trans ((v1 x hx).trans (u1 x hx hy)), by rw [e2]; exact (hset_k (by decide)).trans v3, by rw [e1]; exact hset_eq _ _ _ _ _, fun z => absurd (e1.symm.trans z) (by decide)⟩
        · have hk : ¬ tkK (h g_tapeB 0) L (lnC (h g_tapeB 0) L p nm) = 3 := fun z => q148 (by rw [z]; rfl)
          have e1 : lnT (h g_tapeB 0) L p nm (h g_reader 0 1) = 2 := (if_neg (not_not_intro hs)).trans ((if_neg (not_not_intro hv)).trans ((if_neg (not_not_intro hf)).trans (if_neg hk)))
          have e2 : lnP (h g_tapeB 0) L a0 p nm (h g_reader 0 1) = lnC (h g_tapeB 0) L p nm := (if_neg (not_not_intro hs)).trans (if_neg (not_not_intro hv))
          refine E_aload_n (pc := 151) 0 dX1_readLine_151 rfl rfl ?_
          refine E_iconst (pc := 152) (2) dX1_readLine_152 (by decide) ?_
          refine E_put (pc := 153) dX1_readLine_153 fp_RX1_30 rfl rfl ?_
          refine E_vret (pc := 156) dX1_readLine_156 rfl ?_
          first | exact fin | exact ⟨rfl, fun x hx hy => (hset_t hx).trans ((v1 x hx).trans (u1 x hx hy)), by rw [e2]; exact (hset_k (by decide)).trans v3, by rw [e1]; exact hset_eq _ _ _ _ _, fun z => absurd (e1.symm.trans z) (by decide)⟩
    · have hv : ¬ lnV (h g_tapeB 0) L p nm = 0 := fun z => q108 (by rw [z]; rfl)
      refine E_vret (pc := 111) dX1_readLine_111 rfl ?_
      have e1 : lnT (h g_tapeB 0) L p nm (h g_reader 0 1) = lnV (h g_tapeB 0) L p nm := (if_neg (not_not_intro hs)).trans (if_pos hv)
      have e2 : lnP (h g_tapeB 0) L a0 p nm (h g_reader 0 1) = lnA (h g_tapeB 0) L p nm := (if_neg (not_not_intro hs)).trans (if_pos hv)
      exact ⟨rfl, fun x hx _ => (t1 x hx).trans (s1 x hx), by rw [e2]; exact t3, by rw [e1]; exact t4, fun z => absurd (e1.symm.trans z) hv⟩
  · have hs : ¬ slT (h g_tapeB 0) L p nm (h g_reader 0 1) = 0 := fun z => q84 (by rw [z]; rfl)
    refine E_vret (pc := 87) dX1_readLine_87 rfl ?_
    have e1 : lnT (h g_tapeB 0) L p nm (h g_reader 0 1) = slT (h g_tapeB 0) L p nm (h g_reader 0 1) := if_pos hs
    have e2 : lnP (h g_tapeB 0) L a0 p nm (h g_reader 0 1) = slP (h g_tapeB 0) L a0 p nm := if_pos hs
    exact ⟨rfl, fun x hx _ => s1 x hx, by rw [e2]; exact s3, by rw [e1]; exact s4, fun z => absurd (e1.symm.trans z) hs⟩
/-! a line where the number ahead of the value (if one is asked for) is read -/
set_option maxHeartbeats 1600000 in
theorem line_mid {l : Launch} {G : GE} {h h2 : Hp} {p L a0 nm : Nat} {x : Int32} (hnm : nm < 13) (hL : h g_tape 0 1 = nI L) (hL2 : L ≤ 200) (hpL : p ≤ L) (hi : slI h h2 L a0 p nm x) : Ev l G mX1_readLine (fkM G mX1_readLine (fun r h' => r = none ∧ LnP h h' L a0 p nm)) 57 [some (vR g_reader 0), some (vR g_tape 0), some (vI x), none] [] h2 := by
  have hle := slB_le (h g_tapeB 0) L p nm
  obtain ⟨i1, i2, i3, i4, i5⟩ := hi
  refine E_aload_n (pc := 57) 0 dX1_readLine_57 rfl rfl ?_
  refine E_getI (pc := 58) dX1_readLine_58 fl_RX1_30 rfl rfl ?_
  refine E_top (y := nI (slB (h g_tapeB 0) L p nm)) i4 ?_
  refine E_if_ne (pc := 61) 80 dX1_readLine_61 rfl (fun q61 => ?_) (fun q61 => ?_)
  · have hb : ¬ slB (h g_tapeB 0) L p nm = 0 := fun z => q61 (by rw [z]; rfl)
    have ht : slT (h g_tapeB 0) L p nm (h g_reader 0 1) = slB (h g_tapeB 0) L p nm := if_pos hb
    have fin : SlP h h2 L a0 p nm (some x) := ⟨i1, i2, i3, by rw [ht]; exact i4, fun z => absurd (ht.symm.trans z) hb, _, rfl⟩
    exact line_tail hnm hL hL2 hpL fin
  · have hb : slB (h g_tapeB 0) L p nm = 0 := (nI_eq (b := 0) (by omega) (by decide)).mp q61
    obtain ⟨j1, j2⟩ := i5 hb
    refine E_aload_n (pc := 64) 0 dX1_readLine_64 rfl rfl ?_
    refine E_getI (pc := 65) dX1_readLine_65 fl_RX1_26 rfl rfl ?_
    refine E_iconst (pc := 68) (1) dX1_readLine_68 (by decide) ?_
    refine E_iload_n (pc := 69) 2 dX1_readLine_69 rfl rfl ?_
    refine E_ishl (pc := 70) dX1_readLine_70 ?_
    refine E_iand (pc := 71) dX1_readLine_71 ?_
    refine E_top (y := h g_reader 0 1 &&& (1 <<< (slS (h g_tapeB 0) L p nm &&& 31))) (by rw [i2, j1]) ?_
    refine E_if_eq (pc := 72) 80 dX1_readLine_72 rfl (fun q72 => ?_) (fun q72 => ?_)
    · have ht : slT (h g_tapeB 0) L p nm (h g_reader 0 1) = 0 := (if_neg (not_not_intro hb)).trans (if_pos q72)
      have fin : SlP h h2 L a0 p nm (some x) := ⟨i1, i2, i3, by rw [ht, i4, hb], fun z => ⟨congrArg some j1, j2⟩, _, rfl⟩
      exact line_tail hnm hL hL2 hpL fin
    · have ht : slT (h g_tapeB 0) L p nm (h g_reader 0 1) = 4 := (if_neg (not_not_intro hb)).trans (if_neg q72)
      have fin : SlP h (hset h2 g_reader 0 3 4) L a0 p nm (some x) := ⟨fun x hx => (hset_t hx).trans (i1 x hx), (hset_k (by decide)).trans i2, (hset_k (by decide)).trans i3, by rw [ht]; exact hset_eq _ _ _ _ _, fun z => absurd (ht.symm.trans z) (by decide), _, rfl⟩
      refine E_aload_n (pc := 75) 0 dX1_readLine_75 rfl rfl ?_
      refine E_iconst (pc := 76) (4) dX1_readLine_76 (by decide) ?_
      refine E_put (pc := 77) dX1_readLine_77 fp_RX1_30 rfl rfl ?_
      exact line_tail hnm hL hL2 hpL fin
set_option maxHeartbeats 1600000 in
theorem C_X1_readLine {l : Launch} {G : GE} {h : Hp} {p L a0 nm : Nat} (hp : h g_reader 0 4 = nI p) (h2' : h g_reader 0 2 = nI a0) (h3 : h g_reader 0 3 = 0) (h5 : h g_reader 0 5 = 1) (h6 : h g_reader 0 6 = nI nm) (hnm : nm < 13) (hL : h g_tape 0 1 = nI L) (hL2 : L ≤ 200) (hpL : p ≤ L) : CT l G mX1_readLine [vR g_reader 0, vR g_tape 0] h (fun r h' => r = none ∧ LnP h h' L a0 p nm) := by
  refine CT.of (lv := [_, _, _, _]) (by decide +kernel) (Nat.le_of_ble_eq_true rfl) rfl ?_
  refine E_aload_n (pc := 0) 0 dX1_readLine_0 rfl rfl ?_
  refine E_getI (pc := 1) dX1_readLine_1 fl_RX1_42 rfl rfl ?_
  refine E_iconst (pc := 4) (1) dX1_readLine_4 (by decide) ?_
  refine E_eq (st' := [vI 1, vI 1]) rfl (by rw [h5]) rfl ?_
  refine E_icmp_eq (pc := 5) 14 dX1_readLine_5 rfl (fun q5 => ?_) (fun q5 => absurd rfl q5)
  refine E_aload_n (pc := 14) 0 dX1_readLine_14 rfl rfl ?_
  refine E_getI (pc := 15) dX1_readLine_15 fl_RX1_48 rfl rfl ?_
  refine E_iconst (pc := 18) (5) dX1_readLine_18 (by decide) ?_
  refine E_iadd (pc := 19) dX1_readLine_19 ?_
  refine E_istore_n (pc := 20) 2 dX1_readLine_20 rfl (Nat.le_of_ble_eq_true rfl) rfl (lz := [_, _, _, _]) rfl ?_
  refine E_aload_n (pc := 21) 0 dX1_readLine_21 rfl rfl ?_
  refine E_getI (pc := 22) dX1_readLine_22 fl_RX1_48 rfl rfl ?_
  refine E_top (y := nI nm) h6 ?_
  refine E_if_ne (pc := 25) 39 dX1_readLine_25 rfl (fun q25 => ?_) (fun q25 => ?_)
  · have hz : ¬ nm = 0 := fun z => q25 (by rw [z]; rfl)
    refine E_aload_n (pc := 39) 0 dX1_readLine_39 rfl rfl ?_
    refine E_getI (pc := 40) dX1_readLine_40 fl_RX1_48 rfl rfl ?_
    refine E_iconst (pc := 43) (1) dX1_readLine_43 (by decide) ?_
    refine E_eq (st' := [vI 1, vI (nI nm)]) rfl (by rw [h6]) rfl ?_
    refine E_icmp_ne (pc := 44) 57 dX1_readLine_44 rfl (fun q44 => ?_) (fun q44 => ?_)
    · have ho : ¬ nm = 1 := fun z => q44 (by rw [z]; rfl)
      first | have hi := hi | have hi : slI h h L a0 p nm (h g_reader 0 6 + 5) := ⟨fun _ _ => rfl, rfl, by rw [slP, if_neg (by omega)]; exact h2', by rw [slB, if_neg hz, if_neg ho]; exact h3, fun _ => ⟨by rw [slS, if_neg hz, if_neg ho, h6], by rw [slE, if_neg (by omega)]; exact hp⟩⟩
      exact line_mid hnm hL hL2 hpL hi
    · have ho : nm = 1 := (nI_eq (b := 1) (by omega) (by decide)).mp q44
      refine E_iconst (pc := 47) (4) dX1_readLine_47 (by decide) ?_
      refine E_aload_n (pc := 48) 0 dX1_readLine_48 rfl rfl ?_
      refine E_aload_n (pc := 49) 1 dX1_readLine_49 rfl rfl ?_
      refine E_iconst (pc := 50) (0) dX1_readLine_50 (by decide) ?_
      refine E_iconst (pc := 51) (2) dX1_readLine_51 (by decide) ?_
      refine E_callV (pc := 52) dX1_readLine_52 (C_X1_readNumber hp h3 hL hL2 hpL) rfl kv_RX1_51 rfl rfl rfl ⟨Nat.le_of_ble_eq_true rfl, Nat.le_of_ble_eq_true rfl, Nat.le_of_ble_eq_true rfl, Nat.le_of_ble_eq_true rfl⟩ (Nat.le_of_ble_eq_true rfl) ?_
      rintro _ h2 ⟨s1, s2, s3, s4, s5, x, rfl⟩
      have hi : slI h h2 L a0 p nm (4 + x) := ⟨s1, s2, by rw [s3, slP, if_pos (by omega)], by rw [s4, slB, if_neg hz, if_pos ho], fun z => by rw [slB, if_neg hz, if_pos ho] at z; obtain ⟨e1, e2⟩ := s5 z; exact ⟨by rw [slS, if_neg hz, if_pos ho, Option.some.inj e1], by rw [slE, if_pos (by omega)]; exact e2⟩⟩
      refine E_iadd (pc := 55) dX1_readLine_55 ?_
      refine E_istore_n (pc := 56) 2 dX1_readLine_56 rfl (Nat.le_of_ble_eq_true rfl) rfl (lz := [_, _, _, _]) rfl ?_
      first | have hi := hi | have hi : slI h h L a0 p nm (h g_reader 0 6 + 5) := ⟨fun _ _ => rfl, rfl, by rw [slP, if_neg (by omega)]; exact h2', by rw [slB, if_neg hz, if_neg ho]; exact h3, fun _ => ⟨by rw [slS, if_neg hz, if_neg ho, h6], by rw [slE, if_neg (by omega)]; exact hp⟩⟩
      exact line_mid hnm hL hL2 hpL hi
  · have hz : nm = 0 := (nI_eq (b := 0) (by omega) (by decide)).mp q25
    refine E_aload_n (pc := 28) 0 dX1_readLine_28 rfl rfl ?_
    refine E_aload_n (pc := 29) 1 dX1_readLine_29 rfl rfl ?_
    refine E_iconst (pc := 30) (0) dX1_readLine_30 (by decide) ?_
    refine E_iconst (pc := 31) (3) dX1_readLine_31 (by decide) ?_
    refine E_callV (pc := 32) dX1_readLine_32 (C_X1_readNumber hp h3 hL hL2 hpL) rfl kv_RX1_51 rfl rfl rfl ⟨Nat.le_of_ble_eq_true rfl, Nat.le_of_ble_eq_true rfl, Nat.le_of_ble_eq_true rfl, Nat.le_of_ble_eq_true rfl⟩ (Nat.le_of_ble_eq_true rfl) ?_
    rintro _ h2 ⟨s1, s2, s3, s4, s5, x, rfl⟩
    have hi : slI h h2 L a0 p nm x := ⟨s1, s2, by rw [s3, slP, if_pos (by omega)], by rw [s4, slB, if_pos hz], fun z => by rw [slB, if_pos hz] at z; obtain ⟨e1, e2⟩ := s5 z; exact ⟨by rw [slS, if_pos hz]; exact Option.some.inj e1, by rw [slE, if_pos (by omega)]; exact e2⟩⟩
    refine E_istore_n (pc := 35) 2 dX1_readLine_35 rfl (Nat.le_of_ble_eq_true rfl) rfl (lz := [_, _, _, _]) rfl ?_
    refine E_goto (pc := 36) 57 dX1_readLine_36 rfl ?_
    first | have hi := hi | have hi : slI h h L a0 p nm (h g_reader 0 6 + 5) := ⟨fun _ _ => rfl, rfl, by rw [slP, if_neg (by omega)]; exact h2', by rw [slB, if_neg hz, if_neg ho]; exact h3, fun _ => ⟨by rw [slS, if_neg hz, if_neg ho, h6], by rw [slE, if_neg (by omega)]; exact hp⟩⟩
    exact line_mid hnm hL hL2 hpL hi
