/-! the class: hills -/
theorem bstF_congr {own : Int32} {f g : Nat → Int32} : ∀ i, (∀ j, j < i → f j = g j) → bstF own f i = bstF own g i
  | 0, _ => rfl
  | i + 1, e => by
    unfold bstF
    rw [bstF_congr i (fun j hj => e j (Nat.lt_succ_of_lt hj)), e i (Nat.lt_succ_self i)]
theorem cntC_congr {own : Int32} {f g : Nat → Int32} {sg : Int32} : ∀ i, (∀ j, j < i → f j = g j) → cntC own f sg i = cntC own g sg i
  | 0, _ => rfl
  | i + 1, e => by
    unfold cntC
    rw [cntC_congr i (fun j hj => e j (Nat.lt_succ_of_lt hj)), e i (Nat.lt_succ_self i)]
theorem bstF_or (own : Int32) (f : Nat → Int32) : ∀ i, (bstF own f i).1 = -4 ∨ ∃ j, j < i ∧ (bstF own f i).1 = nI j ∧ (bstF own f i).2 = f j ∧ own < f j
  | 0 => Or.inl rfl
  | i + 1 => by
    have mono : ∀ i, own ≤ (bstF own f i).2 := by
      intro i
      induction i with
      | zero => exact Int32.le_refl _
      | succ i ih =>
        unfold bstF
        by_cases hc : (bstF own f i).2 < f i
        · rw [if_pos hc]; exact Int32.le_trans ih (Int32.le_of_lt hc)
        · rw [if_neg hc]; exact ih
    unfold bstF
    by_cases hc : (bstF own f i).2 < f i
    · rw [if_pos hc]; exact Or.inr ⟨i, Nat.lt_succ_self i, rfl, rfl, Int32.lt_of_le_of_lt (mono i) hc⟩
    · rw [if_neg hc]
      rcases bstF_or own f i with e | ⟨j, hj, e⟩
      · exact Or.inl e
      · exact Or.inr ⟨j, Nat.lt_succ_of_lt hj, e⟩
def sBetter (V N : Nat → Int32) (T : Nat) (F : Int32) : Int32 := (bstF (sWorth V N T F) (chgF V N T F) 128).1
set_option maxHeartbeats 1600000 in
theorem C_X7_worth {l : Launch} {G : GE} {h : Hp} {w c : Int32} (hI : WT h) : CT l G mX7_worth [vR g_oab 0, vI w, vI c] h (fun r h' => r = some (if isW h w then (if c = -1 then sWorth (h g_values 0) (h g_nums (ixN w)) (ixN (h g_way (ixN w) 1)) (h g_way (ixN w) 2) else if c < 0 then -1000 else chgF (h g_values 0) (h g_nums (ixN w)) (ixN (h g_way (ixN w) 1)) (h g_way (ixN w) 2) (ixN c)) else -1000) ∧ Kp h h') := by
  refine CT.of (lv := [_, _, _]) (by decide +kernel) (Nat.le_of_ble_eq_true rfl) rfl ?_
  by_cases hw : isW h w
  · obtain ⟨T, hT1, hT8, hT, hTi, hk, hx⟩ := hI.get hw
    have hb : ¬ bi (isW h w) = 0 := fun z => bi_0.mp z hw
    by_cases h1 : c = -1
    · subst h1
      refine E_aload_n (pc := 0) 0 dX7_worth_0 rfl rfl ?_
      refine E_iload_n (pc := 1) 1 dX7_worth_1 rfl rfl ?_
      refine E_callV1 (pc := 2) dX7_worth_2 C_X7_isWay rfl kv_RX7_128 rfl rfl rfl ⟨Nat.le_of_ble_eq_true rfl, Nat.le_of_ble_eq_true rfl, Nat.le_of_ble_eq_true rfl, Nat.le_of_ble_eq_true rfl⟩ (Nat.le_of_ble_eq_true rfl) ?_
      refine E_if_eq (pc := 5) 26 dX7_worth_5 rfl (fun q5 => absurd q5 hb) (fun q5 => ?_)
      refine E_iload_n (pc := 8) 2 dX7_worth_8 rfl rfl ?_
      refine E_iconst (pc := 9) (-1) dX7_worth_9 (by decide) ?_
      refine E_icmp_eq (pc := 10) 30 dX7_worth_10 rfl (fun q10 => ?_) (fun q10 => absurd rfl q10)
      refine E_aload_n (pc := 30) 0 dX7_worth_30 rfl rfl ?_
      refine E_getR0 (pc := 31) dX7_worth_31 fl_RX7_46 rfl rfl ?_
      refine E_aload_n (pc := 34) 0 dX7_worth_34 rfl rfl ?_
      refine E_getR0 (pc := 35) dX7_worth_35 fl_RX7_32 rfl rfl ?_
      refine E_iload_n (pc := 38) 1 dX7_worth_38 rfl rfl ?_
      refine E_aald (pc := 39) dX7_worth_39 rfl ⟨_, fun _ => rfl⟩ hx ?_
      refine E_callV0 (pc := 40) dX7_worth_40 (C_X0_measure hT hT8) rfl kv_RX7_146 rfl rfl rfl ⟨Nat.le_of_ble_eq_true rfl, Nat.le_of_ble_eq_true rfl, Nat.le_of_ble_eq_true rfl, Nat.le_of_ble_eq_true rfl⟩ (Nat.le_of_ble_eq_true rfl) ?_
      refine E_iload_n (pc := 43) 2 dX7_worth_43 rfl rfl ?_
      refine E_iconst (pc := 44) (-1) dX7_worth_44 (by decide) ?_
      refine E_icmp_ne (pc := 45) 64 dX7_worth_45 rfl (fun q45 => absurd rfl q45) (fun q45 => ?_)
      refine E_aload_n (pc := 48) 0 dX7_worth_48 rfl rfl ?_
      refine E_getR0 (pc := 49) dX7_worth_49 fl_RX7_46 rfl rfl ?_
      refine E_aload_n (pc := 52) 0 dX7_worth_52 rfl rfl ?_
      refine E_getR0 (pc := 53) dX7_worth_53 fl_RX7_32 rfl rfl ?_
      refine E_iload_n (pc := 56) 1 dX7_worth_56 rfl rfl ?_
      refine E_aald (pc := 57) dX7_worth_57 rfl ⟨_, fun _ => rfl⟩ hx ?_
      refine E_callV1 (pc := 58) dX7_worth_58 (C_X0_value (T := T) (by rw [measN_t (by decide)]; exact hT) hT1 hT8) rfl kv_RX7_184 rfl rfl rfl ⟨Nat.le_of_ble_eq_true rfl, Nat.le_of_ble_eq_true rfl, Nat.le_of_ble_eq_true rfl, Nat.le_of_ble_eq_true rfl⟩ (Nat.le_of_ble_eq_true rfl) ?_
      refine E_goto (pc := 61) 78 dX7_worth_61 rfl ?_
      refine E_iret (pc := 78) dX7_worth_78 rfl ?_
      exact ⟨by rw [if_pos hw, if_pos rfl, hTi, measN_t (a := g_values) (by decide), measN_t (a := g_nums) (by decide), measN_t (a := g_way) (by decide), measN_all.worth hT1 hT8], Kp_meas⟩
    · by_cases h2 : c < 0
      · refine E_aload_n (pc := 0) 0 dX7_worth_0 rfl rfl ?_
        refine E_iload_n (pc := 1) 1 dX7_worth_1 rfl rfl ?_
        refine E_callV1 (pc := 2) dX7_worth_2 C_X7_isWay rfl kv_RX7_128 rfl rfl rfl ⟨Nat.le_of_ble_eq_true rfl, Nat.le_of_ble_eq_true rfl, Nat.le_of_ble_eq_true rfl, Nat.le_of_ble_eq_true rfl⟩ (Nat.le_of_ble_eq_true rfl) ?_
        refine E_if_eq (pc := 5) 26 dX7_worth_5 rfl (fun q5 => absurd q5 hb) (fun q5 => ?_)
        refine E_iload_n (pc := 8) 2 dX7_worth_8 rfl rfl ?_
        refine E_iconst (pc := 9) (-1) dX7_worth_9 (by decide) ?_
        refine E_icmp_eq (pc := 10) 30 dX7_worth_10 rfl (fun q10 => absurd q10 h1) (fun q10 => ?_)
        refine E_aload_n (pc := 13) 0 dX7_worth_13 rfl rfl ?_
        refine E_getR0 (pc := 14) dX7_worth_14 fl_RX7_32 rfl rfl ?_
        refine E_iload_n (pc := 17) 1 dX7_worth_17 rfl rfl ?_
        refine E_aald (pc := 18) dX7_worth_18 rfl ⟨_, fun _ => rfl⟩ hx ?_
        refine E_iload_n (pc := 19) 2 dX7_worth_19 rfl rfl ?_
        refine E_callV1 (pc := 20) dX7_worth_20 (C_hasChangeM h2) rfl kv_RX7_181 rfl rfl rfl ⟨Nat.le_of_ble_eq_true rfl, Nat.le_of_ble_eq_true rfl, Nat.le_of_ble_eq_true rfl, Nat.le_of_ble_eq_true rfl⟩ (Nat.le_of_ble_eq_true rfl) ?_
        refine E_if_ne (pc := 23) 30 dX7_worth_23 rfl (fun q23 => absurd rfl q23) (fun q23 => ?_)
        refine E_sipush (pc := 26) (-1000) dX7_worth_26 (by decide) ?_
        refine E_iret (pc := 29) dX7_worth_29 rfl ?_
        exact ⟨by rw [if_pos hw, if_neg h1, if_pos h2], Kp.rfl⟩
      · obtain ⟨c', hc', rfl⟩ := nI_of h2
        refine E_aload_n (pc := 0) 0 dX7_worth_0 rfl rfl ?_
        refine E_iload_n (pc := 1) 1 dX7_worth_1 rfl rfl ?_
        refine E_callV1 (pc := 2) dX7_worth_2 C_X7_isWay rfl kv_RX7_128 rfl rfl rfl ⟨Nat.le_of_ble_eq_true rfl, Nat.le_of_ble_eq_true rfl, Nat.le_of_ble_eq_true rfl, Nat.le_of_ble_eq_true rfl⟩ (Nat.le_of_ble_eq_true rfl) ?_
        refine E_if_eq (pc := 5) 26 dX7_worth_5 rfl (fun q5 => absurd q5 hb) (fun q5 => ?_)
        refine E_iload_n (pc := 8) 2 dX7_worth_8 rfl rfl ?_
        refine E_iconst (pc := 9) (-1) dX7_worth_9 (by decide) ?_
        refine E_icmp_eq (pc := 10) 30 dX7_worth_10 rfl (fun q10 => absurd q10 h1) (fun q10 => ?_)
        refine E_aload_n (pc := 13) 0 dX7_worth_13 rfl rfl ?_
        refine E_getR0 (pc := 14) dX7_worth_14 fl_RX7_32 rfl rfl ?_
        refine E_iload_n (pc := 17) 1 dX7_worth_17 rfl rfl ?_
        refine E_aald (pc := 18) dX7_worth_18 rfl ⟨_, fun _ => rfl⟩ hx ?_
        refine E_iload_n (pc := 19) 2 dX7_worth_19 rfl rfl ?_
        refine E_callV1 (pc := 20) dX7_worth_20 (C_hasChangeN hT hT8 hc') rfl kv_RX7_181 rfl rfl rfl ⟨Nat.le_of_ble_eq_true rfl, Nat.le_of_ble_eq_true rfl, Nat.le_of_ble_eq_true rfl, Nat.le_of_ble_eq_true rfl⟩ (Nat.le_of_ble_eq_true rfl) ?_
        refine E_if_ne (pc := 23) 30 dX7_worth_23 rfl (fun q23 => ?_) (fun q23 => ?_)
        · have hz : c' < 16 * T ∧ okN (h g_nums (ixN w) (c' / 2) + stp c') := Decidable.of_not_not (fun z => q23 (bi_0.mpr z))
          refine E_aload_n (pc := 30) 0 dX7_worth_30 rfl rfl ?_
          refine E_getR0 (pc := 31) dX7_worth_31 fl_RX7_46 rfl rfl ?_
          refine E_aload_n (pc := 34) 0 dX7_worth_34 rfl rfl ?_
          refine E_getR0 (pc := 35) dX7_worth_35 fl_RX7_32 rfl rfl ?_
          refine E_iload_n (pc := 38) 1 dX7_worth_38 rfl rfl ?_
          refine E_aald (pc := 39) dX7_worth_39 rfl ⟨_, fun _ => rfl⟩ hx ?_
          refine E_callV0 (pc := 40) dX7_worth_40 (C_X0_measure hT hT8) rfl kv_RX7_146 rfl rfl rfl ⟨Nat.le_of_ble_eq_true rfl, Nat.le_of_ble_eq_true rfl, Nat.le_of_ble_eq_true rfl, Nat.le_of_ble_eq_true rfl⟩ (Nat.le_of_ble_eq_true rfl) ?_
          refine E_iload_n (pc := 43) 2 dX7_worth_43 rfl rfl ?_
          refine E_iconst (pc := 44) (-1) dX7_worth_44 (by decide) ?_
          refine E_icmp_ne (pc := 45) 64 dX7_worth_45 rfl (fun q45 => ?_) (fun q45 => absurd q45 h1)
          refine E_aload_n (pc := 64) 0 dX7_worth_64 rfl rfl ?_
          refine E_getR0 (pc := 65) dX7_worth_65 fl_RX7_46 rfl rfl ?_
          refine E_aload_n (pc := 68) 0 dX7_worth_68 rfl rfl ?_
          refine E_getR0 (pc := 69) dX7_worth_69 fl_RX7_32 rfl rfl ?_
          refine E_iload_n (pc := 72) 1 dX7_worth_72 rfl rfl ?_
          refine E_aald (pc := 73) dX7_worth_73 rfl ⟨_, fun _ => rfl⟩ hx ?_
          refine E_iload_n (pc := 74) 2 dX7_worth_74 rfl rfl ?_
          refine E_callV (pc := 75) dX7_worth_75 (C_X0_valueWith (T := T) (F := h g_way (ixN w) 2) (by rw [measN_t (by decide)]; exact hT) (by rw [measN_t (by decide)]) hT1 hT8 (by omega) (by rw [measN_t (a := g_values) (by decide), measN_t (a := g_nums) (by decide)]; exact measN_all.off _)) rfl kv_RX7_187 rfl rfl rfl ⟨Nat.le_of_ble_eq_true rfl, Nat.le_of_ble_eq_true rfl, Nat.le_of_ble_eq_true rfl, Nat.le_of_ble_eq_true rfl⟩ (Nat.le_of_ble_eq_true rfl) ?_
          rintro _ h4 ⟨rfl, sj, mo⟩
          refine E_iret (pc := 78) dX7_worth_78 rfl ?_
          exact ⟨by rw [if_pos hw, if_neg h1, if_neg h2, hTi, ixN_nI hc', chgF, if_pos hz, measN_t (a := g_values) (by decide), measN_t (a := g_nums) (by decide)], Kp_meas.trans (Kp_J sj)⟩
        · refine E_sipush (pc := 26) (-1000) dX7_worth_26 (by decide) ?_
          refine E_iret (pc := 29) dX7_worth_29 rfl ?_
          exact ⟨by rw [if_pos hw, if_neg h1, if_neg h2, hTi, ixN_nI hc', chgF, if_neg (bi_0.mp q23)], Kp.rfl⟩
  · have hb : bi (isW h w) = 0 := bi_0.mpr hw
    refine E_aload_n (pc := 0) 0 dX7_worth_0 rfl rfl ?_
    refine E_iload_n (pc := 1) 1 dX7_worth_1 rfl rfl ?_
    refine E_callV1 (pc := 2) dX7_worth_2 C_X7_isWay rfl kv_RX7_128 rfl rfl rfl ⟨Nat.le_of_ble_eq_true rfl, Nat.le_of_ble_eq_true rfl, Nat.le_of_ble_eq_true rfl, Nat.le_of_ble_eq_true rfl⟩ (Nat.le_of_ble_eq_true rfl) ?_
    refine E_if_eq (pc := 5) 26 dX7_worth_5 rfl (fun q5 => ?_) (fun q5 => absurd hb q5)
    refine E_sipush (pc := 26) (-1000) dX7_worth_26 (by decide) ?_
    refine E_iret (pc := 29) dX7_worth_29 rfl ?_
    exact ⟨by rw [if_neg hw], Kp.rfl⟩
set_option maxHeartbeats 1600000 in
theorem C_X7_better {l : Launch} {G : GE} {h : Hp} {w : Int32} (hI : WT h) : CT l G mX7_better [vR g_oab 0, vI w] h (fun r h' => r = some (if isW h w then sBetter (h g_values 0) (h g_nums (ixN w)) (ixN (h g_way (ixN w) 1)) (h g_way (ixN w) 2) else -1) ∧ Kp h h') := by
  refine CT.of (lv := [_, _]) (by decide +kernel) (Nat.le_of_ble_eq_true rfl) rfl ?_
  refine E_aload_n (pc := 0) 0 dX7_better_0 rfl rfl ?_
  refine E_iload_n (pc := 1) 1 dX7_better_1 rfl rfl ?_
  refine E_callV1 (pc := 2) dX7_better_2 C_X7_isWay rfl kv_RX7_128 rfl rfl rfl ⟨Nat.le_of_ble_eq_true rfl, Nat.le_of_ble_eq_true rfl, Nat.le_of_ble_eq_true rfl, Nat.le_of_ble_eq_true rfl⟩ (Nat.le_of_ble_eq_true rfl) ?_
  refine E_if_ne (pc := 5) 10 dX7_better_5 rfl (fun q5 => ?_) (fun q5 => ?_)
  · have hw : isW h w := Decidable.of_not_not (fun z => q5 (bi_0.mpr z))
    obtain ⟨T, hT1, hT8, hT, hTi, hk, hx⟩ := hI.get hw
    refine E_aload_n (pc := 10) 0 dX7_better_10 rfl rfl ?_
    refine E_getR0 (pc := 11) dX7_better_11 fl_RX7_46 rfl rfl ?_
    refine E_aload_n (pc := 14) 0 dX7_better_14 rfl rfl ?_
    refine E_getR0 (pc := 15) dX7_better_15 fl_RX7_32 rfl rfl ?_
    refine E_iload_n (pc := 18) 1 dX7_better_18 rfl rfl ?_
    refine E_aald (pc := 19) dX7_better_19 rfl ⟨_, fun _ => rfl⟩ hx ?_
    refine E_callV (pc := 20) dX7_better_20 (C_X0_survey hT rfl hT1 hT8) rfl kv_RX7_191 rfl rfl rfl ⟨Nat.le_of_ble_eq_true rfl, Nat.le_of_ble_eq_true rfl, Nat.le_of_ble_eq_true rfl, Nat.le_of_ble_eq_true rfl⟩ (Nat.le_of_ble_eq_true rfl) ?_
    rintro _ h4 ⟨rfl, sm, ow, ch⟩
    refine E_aload_n (pc := 23) 0 dX7_better_23 rfl rfl ?_
    refine E_getR0 (pc := 24) dX7_better_24 fl_RX7_46 rfl rfl ?_
    refine E_callV1 (pc := 27) dX7_better_27 C_X0_bestChange rfl kv_RX7_194 rfl rfl rfl ⟨Nat.le_of_ble_eq_true rfl, Nat.le_of_ble_eq_true rfl, Nat.le_of_ble_eq_true rfl, Nat.le_of_ble_eq_true rfl⟩ (Nat.le_of_ble_eq_true rfl) ?_
    refine E_iret (pc := 30) dX7_better_30 rfl ?_
    exact ⟨by rw [if_pos hw, hTi, ow, bstF_congr 128 ch]; rfl, Kp_S sm⟩
  · refine E_iconst (pc := 8) (-1) dX7_better_8 (by decide) ?_
    refine E_iret (pc := 9) dX7_better_9 rfl ?_
    exact ⟨by rw [if_neg (bi_0.mp q5)], Kp.rfl⟩
set_option maxHeartbeats 1600000 in
theorem C_X7_around {l : Launch} {G : GE} {h : Hp} {w a : Int32} (hI : WT h) : CT l G mX7_around [vR g_oab 0, vI w, vI a] h (fun r h' => r = some (if isW h w ∧ 0 ≤ a ∧ a ≤ 2 then nI (cntC (sWorth (h g_values 0) (h g_nums (ixN w)) (ixN (h g_way (ixN w) 1)) (h g_way (ixN w) 2)) (chgF (h g_values 0) (h g_nums (ixN w)) (ixN (h g_way (ixN w) 1)) (h g_way (ixN w) 2)) (if a = 2 then 1 else -a) 128) else -1) ∧ Kp h h') := by
  refine CT.of (lv := [_, _, _, _]) (by decide +kernel) (Nat.le_of_ble_eq_true rfl) rfl ?_
  refine E_aload_n (pc := 0) 0 dX7_around_0 rfl rfl ?_
  refine E_iload_n (pc := 1) 1 dX7_around_1 rfl rfl ?_
  refine E_callV1 (pc := 2) dX7_around_2 C_X7_isWay rfl kv_RX7_128 rfl rfl rfl ⟨Nat.le_of_ble_eq_true rfl, Nat.le_of_ble_eq_true rfl, Nat.le_of_ble_eq_true rfl, Nat.le_of_ble_eq_true rfl⟩ (Nat.le_of_ble_eq_true rfl) ?_
  refine E_if_eq (pc := 5) 17 dX7_around_5 rfl (fun q5 => ?_) (fun q5 => ?_)
  · refine E_iconst (pc := 17) (-1) dX7_around_17 (by decide) ?_
    refine E_iret (pc := 18) dX7_around_18 rfl ?_
    first | exact ⟨by rw [if_neg (fun z => bi_0.mp q5 z.1)], Kp.rfl⟩ | exact ⟨by rw [if_neg (fun z => bi_0.mp q14 z.2)], Kp.rfl⟩
  · refine E_iload_n (pc := 8) 2 dX7_around_8 rfl rfl ?_
    refine E_iconst (pc := 9) (0) dX7_around_9 (by decide) ?_
    refine E_iconst (pc := 10) (2) dX7_around_10 (by decide) ?_
    refine E_callS1 (pc := 11) dX7_around_11 C_X7_within rfl ks_RX7_76 rfl ⟨Nat.le_of_ble_eq_true rfl, Nat.le_of_ble_eq_true rfl, Nat.le_of_ble_eq_true rfl, Nat.le_of_ble_eq_true rfl⟩ (Nat.le_of_ble_eq_true rfl) ?_
    refine E_if_ne (pc := 14) 19 dX7_around_14 rfl (fun q14 => ?_) (fun q14 => ?_)
    · have hw : isW h w := Decidable.of_not_not (fun z => q5 (bi_0.mpr z))
      have ha : 0 ≤ a ∧ a ≤ 2 := Decidable.of_not_not (fun z => q14 (bi_0.mpr z))
      obtain ⟨T, hT1, hT8, hT, hTi, hk, hx⟩ := hI.get hw
      refine E_aload_n (pc := 19) 0 dX7_around_19 rfl rfl ?_
      refine E_getR0 (pc := 20) dX7_around_20 fl_RX7_46 rfl rfl ?_
      refine E_aload_n (pc := 23) 0 dX7_around_23 rfl rfl ?_
      refine E_getR0 (pc := 24) dX7_around_24 fl_RX7_32 rfl rfl ?_
      refine E_iload_n (pc := 27) 1 dX7_around_27 rfl rfl ?_
      refine E_aald (pc := 28) dX7_around_28 rfl ⟨_, fun _ => rfl⟩ hx ?_
      refine E_callV (pc := 29) dX7_around_29 (C_X0_survey hT rfl hT1 hT8) rfl kv_RX7_191 rfl rfl rfl ⟨Nat.le_of_ble_eq_true rfl, Nat.le_of_ble_eq_true rfl, Nat.le_of_ble_eq_true rfl, Nat.le_of_ble_eq_true rfl⟩ (Nat.le_of_ble_eq_true rfl) ?_
      rintro _ h4 ⟨rfl, sm, ow, ch⟩
      refine E_iload_n (pc := 32) 2 dX7_around_32 rfl rfl ?_
      refine E_iconst (pc := 33) (2) dX7_around_33 (by decide) ?_
      refine E_icmp_ne (pc := 34) 41 dX7_around_34 rfl (fun q34 => ?_) (fun q34 => ?_)
      · refine E_iload_n (pc := 41) 2 dX7_around_41 rfl rfl ?_
        refine E_ineg (pc := 42) dX7_around_42 ?_
        first | refine E_top (y := if a = 2 then 1 else -a) (by rw [if_pos q34]) ?_ | refine E_top (y := if a = 2 then 1 else -a) (by rw [if_neg q34]) ?_
        refine E_istore_n (pc := 43) 3 dX7_around_43 rfl (Nat.le_of_ble_eq_true rfl) rfl (lz := [_, _, _, _]) rfl ?_
        refine E_aload_n (pc := 44) 0 dX7_around_44 rfl rfl ?_
        refine E_getR0 (pc := 45) dX7_around_45 fl_RX7_46 rfl rfl ?_
        refine E_iload_n (pc := 48) 3 dX7_around_48 rfl rfl ?_
        refine E_callV1 (pc := 49) dX7_around_49 C_X0_changesThatCompare rfl kv_RX7_201 rfl rfl rfl ⟨Nat.le_of_ble_eq_true rfl, Nat.le_of_ble_eq_true rfl, Nat.le_of_ble_eq_true rfl, Nat.le_of_ble_eq_true rfl⟩ (Nat.le_of_ble_eq_true rfl) ?_
        refine E_iret (pc := 52) dX7_around_52 rfl ?_
        exact ⟨by rw [if_pos (show isW h w ∧ 0 ≤ a ∧ a ≤ 2 from ⟨hw, ha⟩), hTi, ow, cntC_congr 128 ch], Kp_S sm⟩
      · refine E_iconst (pc := 37) (1) dX7_around_37 (by decide) ?_
        refine E_goto (pc := 38) 43 dX7_around_38 rfl ?_
        first | refine E_top (y := if a = 2 then 1 else -a) (by rw [if_pos q34]) ?_ | refine E_top (y := if a = 2 then 1 else -a) (by rw [if_neg q34]) ?_
        refine E_istore_n (pc := 43) 3 dX7_around_43 rfl (Nat.le_of_ble_eq_true rfl) rfl (lz := [_, _, _, _]) rfl ?_
        refine E_aload_n (pc := 44) 0 dX7_around_44 rfl rfl ?_
        refine E_getR0 (pc := 45) dX7_around_45 fl_RX7_46 rfl rfl ?_
        refine E_iload_n (pc := 48) 3 dX7_around_48 rfl rfl ?_
        refine E_callV1 (pc := 49) dX7_around_49 C_X0_changesThatCompare rfl kv_RX7_201 rfl rfl rfl ⟨Nat.le_of_ble_eq_true rfl, Nat.le_of_ble_eq_true rfl, Nat.le_of_ble_eq_true rfl, Nat.le_of_ble_eq_true rfl⟩ (Nat.le_of_ble_eq_true rfl) ?_
        refine E_iret (pc := 52) dX7_around_52 rfl ?_
        exact ⟨by rw [if_pos (show isW h w ∧ 0 ≤ a ∧ a ≤ 2 from ⟨hw, ha⟩), hTi, ow, cntC_congr 128 ch], Kp_S sm⟩
    · refine E_iconst (pc := 17) (-1) dX7_around_17 (by decide) ?_
      refine E_iret (pc := 18) dX7_around_18 rfl ?_
      first | exact ⟨by rw [if_neg (fun z => bi_0.mp q5 z.1)], Kp.rfl⟩ | exact ⟨by rw [if_neg (fun z => bi_0.mp q14 z.2)], Kp.rfl⟩
/-- climbing: how often it went, and the numbers behind it -/
def clF (V : Nat → Int32) (T : Nat) (F : Int32) : Nat → (Nat → Int32) → Nat × (Nat → Int32)
  | 0, N => (0, N)
  | n + 1, N => if sBetter V N T F < 0 then (0, N) else ((clF V T F n (chN N (ixN (sBetter V N T F)))).1 + 1, (clF V T F n (chN N (ixN (sBetter V N T F)))).2)
theorem clF_le (V : Nat → Int32) (T : Nat) (F : Int32) : ∀ n N, (clF V T F n N).1 ≤ n
  | 0, N => Nat.le_refl 0
  | n + 1, N => by
    unfold clF
    by_cases hc : sBetter V N T F < 0
    · rw [if_pos hc]; exact Nat.zero_le _
    · rw [if_neg hc]; exact Nat.succ_le_succ (clF_le V T F n _)
theorem clF_stop {V : Nat → Int32} {T : Nat} {F : Int32} {n : Nat} {N : Nat → Int32} (hc : sBetter V N T F < 0) : clF V T F (n + 1) N = (0, N) := if_pos hc
theorem clF_go {V : Nat → Int32} {T : Nat} {F : Int32} {n : Nat} {N : Nat → Int32} (hc : ¬ sBetter V N T F < 0) : clF V T F (n + 1) N = ((clF V T F n (chN N (ixN (sBetter V N T F)))).1 + 1, (clF V T F n (chN N (ixN (sBetter V N T F)))).2) := if_neg hc
theorem sBetter_or (V N : Nat → Int32) (T : Nat) (F : Int32) : sBetter V N T F = -4 ∨ ∃ c, c < 128 ∧ sBetter V N T F = nI c := by
  rcases bstF_or (sWorth V N T F) (chgF V N T F) 128 with e | ⟨j, hj, e, -, -⟩
  · exact Or.inl e
  · exact Or.inr ⟨j, hj, e⟩
/-- all is kept but the numbers of way k -/
def KpN (h h' : Hp) (k : Nat) : Prop := ∀ a b, ess a b → ¬ (a = g_nums ∧ b = k) → h' a b = h a b
set_option maxHeartbeats 1600000 in
theorem C_X7_climb {l : Launch} {G : GE} {h : Hp} {w n : Int32} (hI : WT h) : CT l G mX7_climb [vR g_oab 0, vI w, vI n] h (fun r h' => if isW h w ∧ 1 ≤ n ∧ n ≤ 40 then r = some (nI (clF (h g_values 0) (ixN (h g_way (ixN w) 1)) (h g_way (ixN w) 2) (ixN n) (h g_nums (ixN w))).1) ∧ h' g_nums (ixN w) = (clF (h g_values 0) (ixN (h g_way (ixN w) 1)) (h g_way (ixN w) 2) (ixN n) (h g_nums (ixN w))).2 ∧ KpN h h' (ixN w) else r = some (-1) ∧ Kp h h') := by
  refine CT.of (lv := [_, _, _, _, _]) (by decide +kernel) (Nat.le_of_ble_eq_true rfl) rfl ?_
  refine E_aload_n (pc := 0) 0 dX7_climb_0 rfl rfl ?_
  refine E_iload_n (pc := 1) 1 dX7_climb_1 rfl rfl ?_
  refine E_callV1 (pc := 2) dX7_climb_2 C_X7_isWay rfl kv_RX7_128 rfl rfl rfl ⟨Nat.le_of_ble_eq_true rfl, Nat.le_of_ble_eq_true rfl, Nat.le_of_ble_eq_true rfl, Nat.le_of_ble_eq_true rfl⟩ (Nat.le_of_ble_eq_true rfl) ?_
  refine E_if_eq (pc := 5) 18 dX7_climb_5 rfl (fun q5 => ?_) (fun q5 => ?_)
  · refine E_iconst (pc := 18) (-1) dX7_climb_18 (by decide) ?_
    refine E_iret (pc := 19) dX7_climb_19 rfl ?_
    first | (rw [if_neg (fun z => bi_0.mp q5 z.1)]; exact ⟨rfl, Kp.rfl⟩) | (rw [if_neg (fun z => bi_0.mp q15 z.2)]; exact ⟨rfl, Kp.rfl⟩)
  · refine E_iload_n (pc := 8) 2 dX7_climb_8 rfl rfl ?_
    refine E_iconst (pc := 9) (1) dX7_climb_9 (by decide) ?_
    refine E_bipush (pc := 10) (40) dX7_climb_10 (by decide) ?_
    refine E_callS1 (pc := 12) dX7_climb_12 C_X7_within rfl ks_RX7_76 rfl ⟨Nat.le_of_ble_eq_true rfl, Nat.le_of_ble_eq_true rfl, Nat.le_of_ble_eq_true rfl, Nat.le_of_ble_eq_true rfl⟩ (Nat.le_of_ble_eq_true rfl) ?_
    refine E_if_ne (pc := 15) 20 dX7_climb_15 rfl (fun q15 => ?_) (fun q15 => ?_)
    · have hw : isW h w := Decidable.of_not_not (fun z => q5 (bi_0.mpr z))
      have hn : 1 ≤ n ∧ n ≤ 40 := Decidable.of_not_not (fun z => q15 (bi_0.mpr z))
      obtain ⟨T, hT1, hT8, hT, hTi, hk, hx⟩ := hI.get hw
      obtain ⟨m, hm, rfl⟩ := natof (x := n) 40 (by decide) (Int32.le_trans (by decide) hn.1) hn.2
      refine E_iconst (pc := 20) (0) dX7_climb_20 (by decide) ?_
      refine E_istore_n (pc := 21) 3 dX7_climb_21 rfl (Nat.le_of_ble_eq_true rfl) rfl (lz := [_, _, _, _, _]) rfl ?_
      refine down (P := fun i => ∀ h2, KpN h h2 (ixN w) → (clF (h g_values 0) T (h g_way (ixN w) 2) (m - i) (h2 g_nums (ixN w))).1 + i = (clF (h g_values 0) T (h g_way (ixN w) 2) m (h g_nums (ixN w))).1 → (clF (h g_values 0) T (h g_way (ixN w) 2) (m - i) (h2 g_nums (ixN w))).2 = (clF (h g_values 0) T (h g_way (ixN w) 2) m (h g_nums (ixN w))).2 → Ev l G mX7_climb _ 22 [some (vR g_oab 0), some (vI w), some (vI (nI m)), some (vI (nI i)), none] [] h2) m ?_ ?_ 0 (Nat.zero_le _) h (fun _ _ _ _ => rfl) rfl rfl
      · intro h2 kp e1 e2
        rw [Nat.sub_self] at e1 e2
        refine E_iload_n (pc := 22) 3 dX7_climb_22 rfl rfl ?_
        refine E_iload_n (pc := 23) 2 dX7_climb_23 rfl rfl ?_
        refine E_icmp_ge (pc := 24) 73 dX7_climb_24 rfl (fun q24 => ?_) (fun q24 => absurd (Int32.le_refl _) q24)
        refine E_iload_n (pc := 73) 2 dX7_climb_73 rfl rfl ?_
        refine E_iret (pc := 74) dX7_climb_74 rfl ?_
        rw [if_pos (show isW h w ∧ 1 ≤ nI m ∧ nI m ≤ 40 from ⟨hw, hn⟩), hTi, ixN_nI (show m < 2 ^ 31 by omega)]
        exact ⟨by rw [← e1]; show some (nI m) = some (nI (0 + m)); rw [Nat.zero_add], e2, kp⟩
      · intro i hi hr h2 kp e1 e2
        have e3 : h2 g_way (ixN w) = h g_way (ixN w) := kp _ _ (by refine ⟨by decide, by decide, by decide, by decide, by omega⟩) (fun z => absurd z.1 (by decide))
        have e4 : h2 g_values 0 = h g_values 0 := kp _ _ (by decide) (fun z => absurd z.1 (by decide))
        have e5 : m - i = (m - (i + 1)) + 1 := by omega
        rw [e5] at e1 e2
        refine E_iload_n (pc := 22) 3 dX7_climb_22 rfl rfl ?_
        refine E_iload_n (pc := 23) 2 dX7_climb_23 rfl rfl ?_
        refine E_icmp_ge (pc := 24) 73 dX7_climb_24 rfl (fun q24 => absurd q24 (nI_ge hi (by omega))) (fun q24 => ?_)
        refine E_aload_n (pc := 27) 0 dX7_climb_27 rfl rfl ?_
        refine E_getR0 (pc := 28) dX7_climb_28 fl_RX7_46 rfl rfl ?_
        refine E_aload_n (pc := 31) 0 dX7_climb_31 rfl rfl ?_
        refine E_getR0 (pc := 32) dX7_climb_32 fl_RX7_32 rfl rfl ?_
        refine E_iload_n (pc := 35) 1 dX7_climb_35 rfl rfl ?_
        refine E_aald (pc := 36) dX7_climb_36 rfl ⟨_, fun _ => rfl⟩ hx ?_
        refine E_callV (pc := 37) dX7_climb_37 (C_X0_survey (by rw [e3]; exact hT) rfl hT1 hT8) rfl kv_RX7_191 rfl rfl rfl ⟨Nat.le_of_ble_eq_true rfl, Nat.le_of_ble_eq_true rfl, Nat.le_of_ble_eq_true rfl, Nat.le_of_ble_eq_true rfl⟩ (Nat.le_of_ble_eq_true rfl) ?_
        rintro _ h4 ⟨rfl, sm, ow, ch⟩
        refine E_aload_n (pc := 40) 0 dX7_climb_40 rfl rfl ?_
        refine E_getR0 (pc := 41) dX7_climb_41 fl_RX7_46 rfl rfl ?_
        refine E_callV1 (pc := 44) dX7_climb_44 C_X0_bestChange rfl kv_RX7_194 rfl rfl rfl ⟨Nat.le_of_ble_eq_true rfl, Nat.le_of_ble_eq_true rfl, Nat.le_of_ble_eq_true rfl, Nat.le_of_ble_eq_true rfl⟩ (Nat.le_of_ble_eq_true rfl) ?_
        refine E_top (y := sBetter (h g_values 0) (h2 g_nums (ixN w)) T (h g_way (ixN w) 2)) (by rw [ow, bstF_congr 128 ch, e4, e3]; rfl) ?_
        refine E_istore (pc := 47) 4 dX7_climb_47 (Nat.le_of_ble_eq_true rfl) rfl (lz := [_, _, _, _, _]) rfl ?_
        refine E_iload (pc := 49) 4 dX7_climb_49 rfl ?_
        refine E_if_ge (pc := 51) 56 dX7_climb_51 rfl (fun q51 => ?_) (fun q51 => ?_)
        · have hbt : ∃ c, c < 128 ∧ sBetter (h g_values 0) (h2 g_nums (ixN w)) T (h g_way (ixN w) 2) = nI c := (sBetter_or (h g_values 0) (h2 g_nums (ixN w)) T (h g_way (ixN w) 2)).resolve_left (fun z => by rw [z] at q51; exact absurd q51 (by decide))
          rw [clF_go (Int32.not_lt.mpr q51)] at e1 e2
          obtain ⟨c, hc, ec⟩ := hbt
          rw [ec]
          rw [ec, ixN_nI (show c < 2 ^ 31 by omega)] at e1 e2
          refine E_aload_n (pc := 56) 0 dX7_climb_56 rfl rfl ?_
          refine E_getR0 (pc := 57) dX7_climb_57 fl_RX7_32 rfl rfl ?_
          refine E_iload_n (pc := 60) 1 dX7_climb_60 rfl rfl ?_
          refine E_aald (pc := 61) dX7_climb_61 rfl ⟨_, fun _ => rfl⟩ hx ?_
          refine E_iload (pc := 62) 4 dX7_climb_62 rfl ?_
          refine E_callV0 (pc := 64) dX7_climb_64 (C_X6_change hc) rfl kv_RX7_197 rfl rfl rfl ⟨Nat.le_of_ble_eq_true rfl, Nat.le_of_ble_eq_true rfl, Nat.le_of_ble_eq_true rfl, Nat.le_of_ble_eq_true rfl⟩ (Nat.le_of_ble_eq_true rfl) ?_
          refine E_iincN (pc := 67) 3 dX7_climb_67 (Nat.le_of_ble_eq_true rfl) rfl rfl (lz := [_, _, _, _, _]) rfl ?_
          refine E_goto (pc := 70) 22 dX7_climb_70 rfl ?_
          have en : hset h4 g_nums (ixN w) (c / 2) (h4 g_nums (ixN w) (c / 2) + stp c) g_nums (ixN w) = chN (h2 g_nums (ixN w)) c := by rw [hset_nums, sm g_nums (by decide)]; rfl
          exact E_drop 4 (hr _ (fun a b x y => (hset_other (t := g_nums) (i := ixN w) (fun z => y ⟨congrArg Prod.fst z, congrArg Prod.snd z⟩)).trans ((congrFun (sm a x.1) b).trans (kp a b x y))) (by rw [en]; have := e1; simp only [] at this; omega) (by rw [en]; exact e2))
        · refine E_iload_n (pc := 54) 3 dX7_climb_54 rfl rfl ?_
          refine E_iret (pc := 55) dX7_climb_55 rfl ?_
          rw [clF_stop (Int32.not_le.mp q51)] at e1 e2
          rw [if_pos (show isW h w ∧ 1 ≤ nI m ∧ nI m ≤ 40 from ⟨hw, hn⟩), hTi, ixN_nI (show m < 2 ^ 31 by omega)]
          exact ⟨by rw [← e1]; show some (nI i) = some (nI (0 + i)); rw [Nat.zero_add], by rw [sm g_nums (by decide)]; exact e2, fun a b x y => by rw [sm a x.1]; exact kp a b x y⟩
    · refine E_iconst (pc := 18) (-1) dX7_climb_18 (by decide) ?_
      refine E_iret (pc := 19) dX7_climb_19 rfl ?_
      first | (rw [if_neg (fun z => bi_0.mp q5 z.1)]; exact ⟨rfl, Kp.rfl⟩) | (rw [if_neg (fun z => bi_0.mp q15 z.2)]; exact ⟨rfl, Kp.rfl⟩)
