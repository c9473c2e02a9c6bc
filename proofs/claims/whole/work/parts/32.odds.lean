/-! the class: pays, odds, asks, count -/
def pyF (a b g c : Int32) : Nat → Nat → Int32 → Int32
  | 0, _, _ => -4
  | n + 1, i, x => if 0 < x + (minI (b + g * (nI (i + 1) - 1)) c - a) then nI (i + 1) else pyF a b g c n (i + 1) (x + (minI (b + g * (nI (i + 1) - 1)) c - a))
abbrev okPay (a b g c : Int32) : Prop := (0 ≤ a ∧ a ≤ 999) ∧ (0 ≤ b ∧ b ≤ 999) ∧ (0 ≤ g ∧ g ≤ 99) ∧ 0 ≤ c ∧ c ≤ 999
set_option maxHeartbeats 1600000 in
theorem C_X7_pays {l : Launch} {G : GE} {h : Hp} {a b g c : Int32} : CT l G mX7_pays [vR g_oab 0, vI a, vI b, vI g, vI c] h (fun r h' => r = some (if okPay a b g c then pyF a b g c 50 0 0 else -1) ∧ h' = h) := by
  refine CT.of (lv := [_, _, _, _, _, _, _]) (by decide +kernel) (Nat.le_of_ble_eq_true rfl) rfl ?_
  refine E_iload_n (pc := 0) 1 dX7_pays_0 rfl rfl ?_
  refine E_iconst (pc := 1) (0) dX7_pays_1 (by decide) ?_
  refine E_sipush (pc := 2) (999) dX7_pays_2 (by decide) ?_
  refine E_callS1 (pc := 5) dX7_pays_5 C_X7_within rfl ks_RX7_76 rfl ⟨Nat.le_of_ble_eq_true rfl, Nat.le_of_ble_eq_true rfl, Nat.le_of_ble_eq_true rfl, Nat.le_of_ble_eq_true rfl⟩ (Nat.le_of_ble_eq_true rfl) ?_
  refine E_if_eq (pc := 8) 44 dX7_pays_8 rfl (fun q8 => ?_) (fun q8 => ?_)
  · refine E_iconst (pc := 44) (-1) dX7_pays_44 (by decide) ?_
    refine E_iret (pc := 45) dX7_pays_45 rfl ?_
    first | exact ⟨by rw [if_neg (fun z => bi_0.mp q8 z.1)], rfl⟩ | exact ⟨by rw [if_neg (fun z => bi_0.mp q19 z.2.1)], rfl⟩ | exact ⟨by rw [if_neg (fun z => bi_0.mp q29 z.2.2.1)], rfl⟩ | exact ⟨by rw [if_neg (fun z => bi_0.mp q41 z.2.2.2)], rfl⟩
  · refine E_iload_n (pc := 11) 2 dX7_pays_11 rfl rfl ?_
    refine E_iconst (pc := 12) (0) dX7_pays_12 (by decide) ?_
    refine E_sipush (pc := 13) (999) dX7_pays_13 (by decide) ?_
    refine E_callS1 (pc := 16) dX7_pays_16 C_X7_within rfl ks_RX7_76 rfl ⟨Nat.le_of_ble_eq_true rfl, Nat.le_of_ble_eq_true rfl, Nat.le_of_ble_eq_true rfl, Nat.le_of_ble_eq_true rfl⟩ (Nat.le_of_ble_eq_true rfl) ?_
    refine E_if_eq (pc := 19) 44 dX7_pays_19 rfl (fun q19 => ?_) (fun q19 => ?_)
    · refine E_iconst (pc := 44) (-1) dX7_pays_44 (by decide) ?_
      refine E_iret (pc := 45) dX7_pays_45 rfl ?_
      first | exact ⟨by rw [if_neg (fun z => bi_0.mp q8 z.1)], rfl⟩ | exact ⟨by rw [if_neg (fun z => bi_0.mp q19 z.2.1)], rfl⟩ | exact ⟨by rw [if_neg (fun z => bi_0.mp q29 z.2.2.1)], rfl⟩ | exact ⟨by rw [if_neg (fun z => bi_0.mp q41 z.2.2.2)], rfl⟩
    · refine E_iload_n (pc := 22) 3 dX7_pays_22 rfl rfl ?_
      refine E_iconst (pc := 23) (0) dX7_pays_23 (by decide) ?_
      refine E_bipush (pc := 24) (99) dX7_pays_24 (by decide) ?_
      refine E_callS1 (pc := 26) dX7_pays_26 C_X7_within rfl ks_RX7_76 rfl ⟨Nat.le_of_ble_eq_true rfl, Nat.le_of_ble_eq_true rfl, Nat.le_of_ble_eq_true rfl, Nat.le_of_ble_eq_true rfl⟩ (Nat.le_of_ble_eq_true rfl) ?_
      refine E_if_eq (pc := 29) 44 dX7_pays_29 rfl (fun q29 => ?_) (fun q29 => ?_)
      · refine E_iconst (pc := 44) (-1) dX7_pays_44 (by decide) ?_
        refine E_iret (pc := 45) dX7_pays_45 rfl ?_
        first | exact ⟨by rw [if_neg (fun z => bi_0.mp q8 z.1)], rfl⟩ | exact ⟨by rw [if_neg (fun z => bi_0.mp q19 z.2.1)], rfl⟩ | exact ⟨by rw [if_neg (fun z => bi_0.mp q29 z.2.2.1)], rfl⟩ | exact ⟨by rw [if_neg (fun z => bi_0.mp q41 z.2.2.2)], rfl⟩
      · refine E_iload (pc := 32) 4 dX7_pays_32 rfl ?_
        refine E_iconst (pc := 34) (0) dX7_pays_34 (by decide) ?_
        refine E_sipush (pc := 35) (999) dX7_pays_35 (by decide) ?_
        refine E_callS1 (pc := 38) dX7_pays_38 C_X7_within rfl ks_RX7_76 rfl ⟨Nat.le_of_ble_eq_true rfl, Nat.le_of_ble_eq_true rfl, Nat.le_of_ble_eq_true rfl, Nat.le_of_ble_eq_true rfl⟩ (Nat.le_of_ble_eq_true rfl) ?_
        refine E_if_ne (pc := 41) 46 dX7_pays_41 rfl (fun q41 => ?_) (fun q41 => ?_)
        · have hok : okPay a b g c := ⟨Decidable.of_not_not (fun z => q8 (bi_0.mpr z)), Decidable.of_not_not (fun z => q19 (bi_0.mpr z)), Decidable.of_not_not (fun z => q29 (bi_0.mpr z)), Decidable.of_not_not (fun z => q41 (bi_0.mpr z))⟩
          refine E_iconst (pc := 46) (0) dX7_pays_46 (by decide) ?_
          refine E_istore (pc := 47) 5 dX7_pays_47 (Nat.le_of_ble_eq_true rfl) rfl (lz := [_, _, _, _, _, _, _]) rfl ?_
          refine E_iconst (pc := 49) (1) dX7_pays_49 (by decide) ?_
          refine E_istore (pc := 50) 6 dX7_pays_50 (Nat.le_of_ble_eq_true rfl) rfl (lz := [_, _, _, _, _, _, _]) rfl ?_
          refine down (P := fun i => ∀ x, pyF a b g c (50 - i) i x = pyF a b g c 50 0 0 → Ev l G mX7_pays _ 52 [some (vR g_oab 0), some (vI a), some (vI b), some (vI g), some (vI c), some (vI x), some (vI (nI (i + 1)))] [] h) 50 ?_ ?_ 0 (Nat.zero_le _) 0 rfl
          · intro x hx
            refine E_iload (pc := 52) 6 dX7_pays_52 rfl ?_
            refine E_bipush (pc := 54) (50) dX7_pays_54 (by decide) ?_
            refine E_icmp_gt (pc := 56) 93 dX7_pays_56 rfl (fun q56 => ?_) (fun q56 => absurd (show (50 : Int32) < 51 by decide) q56)
            refine E_bipush (pc := 93) (-4) dX7_pays_93 (by decide) ?_
            refine E_iret (pc := 95) dX7_pays_95 rfl ?_
            exact ⟨by rw [if_pos hok, ← hx]; rfl, rfl⟩
          · intro i hi hn x hx
            rw [show 50 - i = (50 - (i + 1)) + 1 by omega] at hx
            refine E_iload (pc := 52) 6 dX7_pays_52 rfl ?_
            refine E_bipush (pc := 54) (50) dX7_pays_54 (by decide) ?_
            refine E_icmp_gt (pc := 56) 93 dX7_pays_56 rfl (fun q56 => absurd q56 (nI_nlt (a := 50) (b := i + 1) (by omega) (by decide))) (fun q56 => ?_)
            refine E_iload (pc := 59) 5 dX7_pays_59 rfl ?_
            refine E_iload_n (pc := 61) 2 dX7_pays_61 rfl rfl ?_
            refine E_iload_n (pc := 62) 3 dX7_pays_62 rfl rfl ?_
            refine E_iload (pc := 63) 6 dX7_pays_63 rfl ?_
            refine E_iconst (pc := 65) (1) dX7_pays_65 (by decide) ?_
            refine E_isub (pc := 66) dX7_pays_66 ?_
            refine E_imul (pc := 67) dX7_pays_67 ?_
            refine E_iadd (pc := 68) dX7_pays_68 ?_
            refine E_iload (pc := 69) 4 dX7_pays_69 rfl ?_
            refine E_callS1 (pc := 71) dX7_pays_71 C_J9_min_7cf53 rfl ks_RX7_224 rfl ⟨Nat.le_of_ble_eq_true rfl, Nat.le_of_ble_eq_true rfl, Nat.le_of_ble_eq_true rfl, Nat.le_of_ble_eq_true rfl⟩ (Nat.le_of_ble_eq_true rfl) ?_
            refine E_iload_n (pc := 74) 1 dX7_pays_74 rfl rfl ?_
            refine E_isub (pc := 75) dX7_pays_75 ?_
            refine E_iadd (pc := 76) dX7_pays_76 ?_
            refine E_top (y := x + (minI (b + g * (nI (i + 1) - 1)) c - a)) rfl ?_
            refine E_istore (pc := 77) 5 dX7_pays_77 (Nat.le_of_ble_eq_true rfl) rfl (lz := [_, _, _, _, _, _, _]) rfl ?_
            refine E_iload (pc := 79) 5 dX7_pays_79 rfl ?_
            refine E_if_le (pc := 81) 87 dX7_pays_81 rfl (fun q81 => ?_) (fun q81 => ?_)
            · refine E_iincN (pc := 87) 6 dX7_pays_87 (Nat.le_of_ble_eq_true rfl) rfl rfl (lz := [_, _, _, _, _, _, _]) rfl ?_
              refine E_goto (pc := 90) 52 dX7_pays_90 rfl ?_
              exact hn _ ((if_neg (Int32.not_lt.mpr q81)).symm.trans hx)
            · refine E_iload (pc := 84) 6 dX7_pays_84 rfl ?_
              refine E_iret (pc := 86) dX7_pays_86 rfl ?_
              exact ⟨by rw [if_pos hok, ← hx]; exact congrArg some (if_pos (Int32.not_le.mp q81)).symm, rfl⟩
        · refine E_iconst (pc := 44) (-1) dX7_pays_44 (by decide) ?_
          refine E_iret (pc := 45) dX7_pays_45 rfl ?_
          first | exact ⟨by rw [if_neg (fun z => bi_0.mp q8 z.1)], rfl⟩ | exact ⟨by rw [if_neg (fun z => bi_0.mp q19 z.2.1)], rfl⟩ | exact ⟨by rw [if_neg (fun z => bi_0.mp q29 z.2.2.1)], rfl⟩ | exact ⟨by rw [if_neg (fun z => bi_0.mp q41 z.2.2.2)], rfl⟩
def cdF : Nat → Int32 → Int32 → Int32
  | 0, a, _ => a
  | n + 1, a, b => if b ≤ 0 then a else cdF n b (a - a / b * b)
set_option maxHeartbeats 1600000 in
theorem C_X7_commonDivisor {l : Launch} {G : GE} {h : Hp} {a b : Int32} : CT l G mX7_commonDivisor [vI a, vI b] h (fun r h' => r = some (cdF 64 a b) ∧ h' = h) := by
  refine CT.of (lv := [_, _, _, _, _, _]) (by decide +kernel) (Nat.le_of_ble_eq_true rfl) rfl ?_
  refine E_iload_n (pc := 0) 0 dX7_commonDivisor_0 rfl rfl ?_
  refine E_istore_n (pc := 1) 2 dX7_commonDivisor_1 rfl (Nat.le_of_ble_eq_true rfl) rfl (lz := [_, _, _, _, _, _]) rfl ?_
  refine E_iload_n (pc := 2) 1 dX7_commonDivisor_2 rfl rfl ?_
  refine E_istore_n (pc := 3) 3 dX7_commonDivisor_3 rfl (Nat.le_of_ble_eq_true rfl) rfl (lz := [_, _, _, _, _, _]) rfl ?_
  refine E_iconst (pc := 4) (0) dX7_commonDivisor_4 (by decide) ?_
  refine E_istore (pc := 5) 4 dX7_commonDivisor_5 (Nat.le_of_ble_eq_true rfl) rfl (lz := [_, _, _, _, _, _]) rfl ?_
  refine down (P := fun i => ∀ x y, cdF (64 - i) x y = cdF 64 a b → Ev l G mX7_commonDivisor _ 7 [some (vI a), some (vI b), some (vI x), some (vI y), some (vI (nI i)), none] [] h) 64 ?_ ?_ 0 (Nat.zero_le _) a b rfl
  · intro x y hx
    refine E_iload (pc := 7) 4 dX7_commonDivisor_7 rfl ?_
    refine E_bipush (pc := 9) (64) dX7_commonDivisor_9 (by decide) ?_
    refine E_icmp_ge (pc := 11) 34 dX7_commonDivisor_11 rfl (fun q11 => ?_) (fun q11 => absurd (show (64 : Int32) ≤ 64 by decide) q11)
    refine E_iload_n (pc := 34) 2 dX7_commonDivisor_34 rfl rfl ?_
    refine E_iret (pc := 35) dX7_commonDivisor_35 rfl ?_
    exact ⟨by rw [← hx]; rfl, rfl⟩
  · intro i hi hn x y hx
    rw [show 64 - i = (64 - (i + 1)) + 1 by omega] at hx
    refine E_iload (pc := 7) 4 dX7_commonDivisor_7 rfl ?_
    refine E_bipush (pc := 9) (64) dX7_commonDivisor_9 (by decide) ?_
    refine E_icmp_ge (pc := 11) 34 dX7_commonDivisor_11 rfl (fun q11 => absurd q11 (nI_ge (b := 64) hi (by decide))) (fun q11 => ?_)
    refine E_iload_n (pc := 14) 3 dX7_commonDivisor_14 rfl rfl ?_
    refine E_if_le (pc := 15) 34 dX7_commonDivisor_15 rfl (fun q15 => ?_) (fun q15 => ?_)
    · refine E_iload_n (pc := 34) 2 dX7_commonDivisor_34 rfl rfl ?_
      refine E_iret (pc := 35) dX7_commonDivisor_35 rfl ?_
      exact ⟨by rw [← hx]; exact congrArg some (if_pos q15).symm, rfl⟩
    · refine E_iload_n (pc := 18) 2 dX7_commonDivisor_18 rfl rfl ?_
      refine E_iload_n (pc := 19) 3 dX7_commonDivisor_19 rfl rfl ?_
      refine E_irem (pc := 20) dX7_commonDivisor_20 (fun z => q15 (by rw [z]; exact Int32.le_refl _)) ?_
      refine E_istore (pc := 21) 5 dX7_commonDivisor_21 (Nat.le_of_ble_eq_true rfl) rfl (lz := [_, _, _, _, _, _]) rfl ?_
      refine E_iload_n (pc := 23) 3 dX7_commonDivisor_23 rfl rfl ?_
      refine E_istore_n (pc := 24) 2 dX7_commonDivisor_24 rfl (Nat.le_of_ble_eq_true rfl) rfl (lz := [_, _, _, _, _, _]) rfl ?_
      refine E_iload (pc := 25) 5 dX7_commonDivisor_25 rfl ?_
      refine E_istore_n (pc := 27) 3 dX7_commonDivisor_27 rfl (Nat.le_of_ble_eq_true rfl) rfl (lz := [_, _, _, _, _, _]) rfl ?_
      refine E_iincN (pc := 28) 4 dX7_commonDivisor_28 (Nat.le_of_ble_eq_true rfl) rfl rfl (lz := [_, _, _, _, _, _]) rfl ?_
      refine E_goto (pc := 31) 7 dX7_commonDivisor_31 rfl ?_
      exact E_drop 5 (hn _ _ ((if_neg q15).symm.trans hx))
def g3 (high bar d : Int32) : Int32 := (d + 1) * (d + 1) * (d + 1) - (d + 1 - gSlips high bar d) * (d + 1 - gSlips high bar d) * (d + 1 - gSlips high bar d)
abbrev okOdds (h : Hp) (w bar d tr a : Int32) : Prop := isW h w ∧ (0 ≤ bar ∧ bar ≤ 999) ∧ (0 ≤ d ∧ d ≤ 20) ∧ (tr = 1 ∨ tr = 3) ∧ 0 ≤ a ∧ a ≤ 1
def odA (high bar d tr a : Int32) : Int32 :=
  if high = -4 then -2 else
  if tr = 1 then divD (if a = 0 then gSlips high bar d else d + 1) (cdF 64 (d + 1) (gSlips high bar d))
  else divD (if a = 0 then g3 high bar d else (d + 1) * (d + 1) * (d + 1)) (cdF 64 ((d + 1) * (d + 1) * (d + 1)) (g3 high bar d))
set_option maxHeartbeats 1600000 in
theorem C_X7_odds {l : Launch} {G : GE} {h : Hp} {w bar d tr a : Int32} (hI : WT h) : CT l G mX7_odds [vR g_oab 0, vI w, vI bar, vI d, vI tr, vI a] h (fun r h' => r = some (if okOdds h w bar d tr a then odA (sHigh (h g_values 0) (h g_nums (ixN w)) (ixN (h g_way (ixN w) 1))) bar d tr a else -1) ∧ Kp h h') := by
  refine CT.of (lv := [_, _, _, _, _, _, _, _, _]) (by decide +kernel) (Nat.le_of_ble_eq_true rfl) rfl ?_
  refine E_aload_n (pc := 0) 0 dX7_odds_0 rfl rfl ?_
  refine E_iload_n (pc := 1) 1 dX7_odds_1 rfl rfl ?_
  refine E_callV1 (pc := 2) dX7_odds_2 C_X7_isWay rfl kv_RX7_128 rfl rfl rfl ⟨Nat.le_of_ble_eq_true rfl, Nat.le_of_ble_eq_true rfl, Nat.le_of_ble_eq_true rfl, Nat.le_of_ble_eq_true rfl⟩ (Nat.le_of_ble_eq_true rfl) ?_
  refine E_if_eq (pc := 5) 51 dX7_odds_5 rfl (fun q5 => ?_) (fun q5 => ?_)
  · refine E_iconst (pc := 51) (-1) dX7_odds_51 (by decide) ?_
    refine E_iret (pc := 52) dX7_odds_52 rfl ?_
    first | exact ⟨by rw [if_neg (fun z => bi_0.mp q5 z.1)], Kp.rfl⟩ | exact ⟨by rw [if_neg (fun z => bi_0.mp q16 z.2.1)], Kp.rfl⟩ | exact ⟨by rw [if_neg (fun z => bi_0.mp q26 z.2.2.1)], Kp.rfl⟩ | exact ⟨by rw [if_neg (fun z => bi_0.mp q48 z.2.2.2.2)], Kp.rfl⟩ | exact ⟨by rw [if_neg (fun z => z.2.2.2.1.elim q32 q38)], Kp.rfl⟩
  · refine E_iload_n (pc := 8) 2 dX7_odds_8 rfl rfl ?_
    refine E_iconst (pc := 9) (0) dX7_odds_9 (by decide) ?_
    refine E_sipush (pc := 10) (999) dX7_odds_10 (by decide) ?_
    refine E_callS1 (pc := 13) dX7_odds_13 C_X7_within rfl ks_RX7_76 rfl ⟨Nat.le_of_ble_eq_true rfl, Nat.le_of_ble_eq_true rfl, Nat.le_of_ble_eq_true rfl, Nat.le_of_ble_eq_true rfl⟩ (Nat.le_of_ble_eq_true rfl) ?_
    refine E_if_eq (pc := 16) 51 dX7_odds_16 rfl (fun q16 => ?_) (fun q16 => ?_)
    · refine E_iconst (pc := 51) (-1) dX7_odds_51 (by decide) ?_
      refine E_iret (pc := 52) dX7_odds_52 rfl ?_
      first | exact ⟨by rw [if_neg (fun z => bi_0.mp q5 z.1)], Kp.rfl⟩ | exact ⟨by rw [if_neg (fun z => bi_0.mp q16 z.2.1)], Kp.rfl⟩ | exact ⟨by rw [if_neg (fun z => bi_0.mp q26 z.2.2.1)], Kp.rfl⟩ | exact ⟨by rw [if_neg (fun z => bi_0.mp q48 z.2.2.2.2)], Kp.rfl⟩ | exact ⟨by rw [if_neg (fun z => z.2.2.2.1.elim q32 q38)], Kp.rfl⟩
    · refine E_iload_n (pc := 19) 3 dX7_odds_19 rfl rfl ?_
      refine E_iconst (pc := 20) (0) dX7_odds_20 (by decide) ?_
      refine E_bipush (pc := 21) (20) dX7_odds_21 (by decide) ?_
      refine E_callS1 (pc := 23) dX7_odds_23 C_X7_within rfl ks_RX7_76 rfl ⟨Nat.le_of_ble_eq_true rfl, Nat.le_of_ble_eq_true rfl, Nat.le_of_ble_eq_true rfl, Nat.le_of_ble_eq_true rfl⟩ (Nat.le_of_ble_eq_true rfl) ?_
      refine E_if_eq (pc := 26) 51 dX7_odds_26 rfl (fun q26 => ?_) (fun q26 => ?_)
      · refine E_iconst (pc := 51) (-1) dX7_odds_51 (by decide) ?_
        refine E_iret (pc := 52) dX7_odds_52 rfl ?_
        first | exact ⟨by rw [if_neg (fun z => bi_0.mp q5 z.1)], Kp.rfl⟩ | exact ⟨by rw [if_neg (fun z => bi_0.mp q16 z.2.1)], Kp.rfl⟩ | exact ⟨by rw [if_neg (fun z => bi_0.mp q26 z.2.2.1)], Kp.rfl⟩ | exact ⟨by rw [if_neg (fun z => bi_0.mp q48 z.2.2.2.2)], Kp.rfl⟩ | exact ⟨by rw [if_neg (fun z => z.2.2.2.1.elim q32 q38)], Kp.rfl⟩
      · refine E_iload (pc := 29) 4 dX7_odds_29 rfl ?_
        refine E_iconst (pc := 31) (1) dX7_odds_31 (by decide) ?_
        refine E_icmp_eq (pc := 32) 41 dX7_odds_32 rfl (fun q32 => ?_) (fun q32 => ?_)
        · refine E_iload (pc := 41) 5 dX7_odds_41 rfl ?_
          refine E_iconst (pc := 43) (0) dX7_odds_43 (by decide) ?_
          refine E_iconst (pc := 44) (1) dX7_odds_44 (by decide) ?_
          refine E_callS1 (pc := 45) dX7_odds_45 C_X7_within rfl ks_RX7_76 rfl ⟨Nat.le_of_ble_eq_true rfl, Nat.le_of_ble_eq_true rfl, Nat.le_of_ble_eq_true rfl, Nat.le_of_ble_eq_true rfl⟩ (Nat.le_of_ble_eq_true rfl) ?_
          refine E_if_ne (pc := 48) 53 dX7_odds_48 rfl (fun q48 => ?_) (fun q48 => ?_)
          · have htr : tr = 1 ∨ tr = 3 := by first | exact Or.inl q32 | exact Or.inr q38
            have hok : okOdds h w bar d tr a := ⟨Decidable.of_not_not (fun z => q5 (bi_0.mpr z)), Decidable.of_not_not (fun z => q16 (bi_0.mpr z)), Decidable.of_not_not (fun z => q26 (bi_0.mpr z)), htr, Decidable.of_not_not (fun z => q48 (bi_0.mpr z))⟩
            obtain ⟨T, hT1, hT8, hT, hTi, hk, hx⟩ := hI.get hok.1
            refine E_aload_n (pc := 53) 0 dX7_odds_53 rfl rfl ?_
            refine E_getR0 (pc := 54) dX7_odds_54 fl_RX7_46 rfl rfl ?_
            refine E_aload_n (pc := 57) 0 dX7_odds_57 rfl rfl ?_
            refine E_getR0 (pc := 58) dX7_odds_58 fl_RX7_32 rfl rfl ?_
            refine E_iload_n (pc := 61) 1 dX7_odds_61 rfl rfl ?_
            refine E_aald (pc := 62) dX7_odds_62 rfl ⟨_, fun _ => rfl⟩ hx ?_
            refine E_callV0 (pc := 63) dX7_odds_63 (C_X0_measure hT hT8) rfl kv_RX7_146 rfl rfl rfl ⟨Nat.le_of_ble_eq_true rfl, Nat.le_of_ble_eq_true rfl, Nat.le_of_ble_eq_true rfl, Nat.le_of_ble_eq_true rfl⟩ (Nat.le_of_ble_eq_true rfl) ?_
            refine E_aload_n (pc := 66) 0 dX7_odds_66 rfl rfl ?_
            refine E_getR0 (pc := 67) dX7_odds_67 fl_RX7_46 rfl rfl ?_
            refine E_aload_n (pc := 70) 0 dX7_odds_70 rfl rfl ?_
            refine E_getR0 (pc := 71) dX7_odds_71 fl_RX7_32 rfl rfl ?_
            refine E_iload_n (pc := 74) 1 dX7_odds_74 rfl rfl ?_
            refine E_aald (pc := 75) dX7_odds_75 rfl ⟨_, fun _ => rfl⟩ hx ?_
            refine E_callV1 (pc := 76) dX7_odds_76 (C_X0_clears (T := T) (by rw [measN_t (by decide)]; exact hT) hT1 hT8) rfl kv_RX7_149 rfl rfl rfl ⟨Nat.le_of_ble_eq_true rfl, Nat.le_of_ble_eq_true rfl, Nat.le_of_ble_eq_true rfl, Nat.le_of_ble_eq_true rfl⟩ (Nat.le_of_ble_eq_true rfl) ?_
            refine E_top (y := sHigh (h g_values 0) (h g_nums (ixN w)) T) (by rw [measN_t (a := g_values) (by decide), measN_all.high hT1 hT8]) ?_
            refine E_istore (pc := 79) 6 dX7_odds_79 (Nat.le_of_ble_eq_true rfl) rfl (lz := [_, _, _, _, _, _, _, _, _]) rfl ?_
            refine E_iload (pc := 81) 6 dX7_odds_81 rfl ?_
            refine E_bipush (pc := 83) (-4) dX7_odds_83 (by decide) ?_
            refine E_icmp_ne (pc := 85) 91 dX7_odds_85 rfl (fun q85 => ?_) (fun q85 => ?_)
            · by_cases c1 : tr = 1
              · by_cases c2 : a = 0
                · refine E_iload (pc := 91) 4 dX7_odds_91 rfl ?_
                  refine E_iconst (pc := 93) (1) dX7_odds_93 (by decide) ?_
                  refine E_icmp_ne (pc := 94) 103 dX7_odds_94 rfl (fun q94 => absurd c1 q94) (fun q94 => ?_)
                  refine E_iload_n (pc := 97) 3 dX7_odds_97 rfl rfl ?_
                  refine E_iconst (pc := 98) (1) dX7_odds_98 (by decide) ?_
                  refine E_iadd (pc := 99) dX7_odds_99 ?_
                  refine E_goto (pc := 100) 109 dX7_odds_100 rfl ?_
                  refine E_istore (pc := 109) 7 dX7_odds_109 (Nat.le_of_ble_eq_true rfl) rfl (lz := [_, _, _, _, _, _, _, _, _]) rfl ?_
                  refine E_iload (pc := 111) 4 dX7_odds_111 rfl ?_
                  refine E_iconst (pc := 113) (1) dX7_odds_113 (by decide) ?_
                  refine E_icmp_ne (pc := 114) 127 dX7_odds_114 rfl (fun q114 => absurd c1 q114) (fun q114 => ?_)
                  refine E_iload (pc := 117) 6 dX7_odds_117 rfl ?_
                  refine E_iload_n (pc := 119) 2 dX7_odds_119 rfl rfl ?_
                  refine E_iload_n (pc := 120) 3 dX7_odds_120 rfl rfl ?_
                  refine E_callS1 (pc := 121) dX7_odds_121 C_X7_goodSlips rfl ks_RX7_273 rfl ⟨Nat.le_of_ble_eq_true rfl, Nat.le_of_ble_eq_true rfl, Nat.le_of_ble_eq_true rfl, Nat.le_of_ble_eq_true rfl⟩ (Nat.le_of_ble_eq_true rfl) ?_
                  refine E_goto (pc := 124) 134 dX7_odds_124 rfl ?_
                  refine E_istore (pc := 134) 8 dX7_odds_134 (Nat.le_of_ble_eq_true rfl) rfl (lz := [_, _, _, _, _, _, _, _, _]) rfl ?_
                  refine E_iload (pc := 136) 5 dX7_odds_136 rfl ?_
                  refine E_if_ne (pc := 138) 146 dX7_odds_138 rfl (fun q138 => absurd c2 q138) (fun q138 => ?_)
                  refine E_iload (pc := 141) 8 dX7_odds_141 rfl ?_
                  refine E_goto (pc := 143) 148 dX7_odds_143 rfl ?_
                  refine E_iload (pc := 148) 7 dX7_odds_148 rfl ?_
                  refine E_iload (pc := 150) 8 dX7_odds_150 rfl ?_
                  refine E_callS1 (pc := 152) dX7_odds_152 C_X7_commonDivisor rfl ks_RX7_280 rfl ⟨Nat.le_of_ble_eq_true rfl, Nat.le_of_ble_eq_true rfl, Nat.le_of_ble_eq_true rfl, Nat.le_of_ble_eq_true rfl⟩ (Nat.le_of_ble_eq_true rfl) ?_
                  refine E_callS1 (pc := 155) dX7_odds_155 C_X7_dividedDown rfl ks_RX7_283 rfl ⟨Nat.le_of_ble_eq_true rfl, Nat.le_of_ble_eq_true rfl, Nat.le_of_ble_eq_true rfl, Nat.le_of_ble_eq_true rfl⟩ (Nat.le_of_ble_eq_true rfl) ?_
                  refine E_iret (pc := 158) dX7_odds_158 rfl ?_
                  exact ⟨by rw [if_pos hok, hTi, odA, if_neg q85, if_pos c1, if_pos c2]; rfl, Kp_meas⟩
                · refine E_iload (pc := 91) 4 dX7_odds_91 rfl ?_
                  refine E_iconst (pc := 93) (1) dX7_odds_93 (by decide) ?_
                  refine E_icmp_ne (pc := 94) 103 dX7_odds_94 rfl (fun q94 => absurd c1 q94) (fun q94 => ?_)
                  refine E_iload_n (pc := 97) 3 dX7_odds_97 rfl rfl ?_
                  refine E_iconst (pc := 98) (1) dX7_odds_98 (by decide) ?_
                  refine E_iadd (pc := 99) dX7_odds_99 ?_
                  refine E_goto (pc := 100) 109 dX7_odds_100 rfl ?_
                  refine E_istore (pc := 109) 7 dX7_odds_109 (Nat.le_of_ble_eq_true rfl) rfl (lz := [_, _, _, _, _, _, _, _, _]) rfl ?_
                  refine E_iload (pc := 111) 4 dX7_odds_111 rfl ?_
                  refine E_iconst (pc := 113) (1) dX7_odds_113 (by decide) ?_
                  refine E_icmp_ne (pc := 114) 127 dX7_odds_114 rfl (fun q114 => absurd c1 q114) (fun q114 => ?_)
                  refine E_iload (pc := 117) 6 dX7_odds_117 rfl ?_
                  refine E_iload_n (pc := 119) 2 dX7_odds_119 rfl rfl ?_
                  refine E_iload_n (pc := 120) 3 dX7_odds_120 rfl rfl ?_
                  refine E_callS1 (pc := 121) dX7_odds_121 C_X7_goodSlips rfl ks_RX7_273 rfl ⟨Nat.le_of_ble_eq_true rfl, Nat.le_of_ble_eq_true rfl, Nat.le_of_ble_eq_true rfl, Nat.le_of_ble_eq_true rfl⟩ (Nat.le_of_ble_eq_true rfl) ?_
                  refine E_goto (pc := 124) 134 dX7_odds_124 rfl ?_
                  refine E_istore (pc := 134) 8 dX7_odds_134 (Nat.le_of_ble_eq_true rfl) rfl (lz := [_, _, _, _, _, _, _, _, _]) rfl ?_
                  refine E_iload (pc := 136) 5 dX7_odds_136 rfl ?_
                  refine E_if_ne (pc := 138) 146 dX7_odds_138 rfl (fun q138 => ?_) (fun q138 => absurd q138 c2)
                  refine E_iload (pc := 146) 7 dX7_odds_146 rfl ?_
                  refine E_iload (pc := 148) 7 dX7_odds_148 rfl ?_
                  refine E_iload (pc := 150) 8 dX7_odds_150 rfl ?_
                  refine E_callS1 (pc := 152) dX7_odds_152 C_X7_commonDivisor rfl ks_RX7_280 rfl ⟨Nat.le_of_ble_eq_true rfl, Nat.le_of_ble_eq_true rfl, Nat.le_of_ble_eq_true rfl, Nat.le_of_ble_eq_true rfl⟩ (Nat.le_of_ble_eq_true rfl) ?_
                  refine E_callS1 (pc := 155) dX7_odds_155 C_X7_dividedDown rfl ks_RX7_283 rfl ⟨Nat.le_of_ble_eq_true rfl, Nat.le_of_ble_eq_true rfl, Nat.le_of_ble_eq_true rfl, Nat.le_of_ble_eq_true rfl⟩ (Nat.le_of_ble_eq_true rfl) ?_
                  refine E_iret (pc := 158) dX7_odds_158 rfl ?_
                  exact ⟨by rw [if_pos hok, hTi, odA, if_neg q85, if_pos c1, if_neg c2]; rfl, Kp_meas⟩
              · by_cases c2 : a = 0
                · refine E_iload (pc := 91) 4 dX7_odds_91 rfl ?_
                  refine E_iconst (pc := 93) (1) dX7_odds_93 (by decide) ?_
                  refine E_icmp_ne (pc := 94) 103 dX7_odds_94 rfl (fun q94 => ?_) (fun q94 => absurd q94 c1)
                  refine E_iload_n (pc := 103) 3 dX7_odds_103 rfl rfl ?_
                  refine E_iconst (pc := 104) (1) dX7_odds_104 (by decide) ?_
                  refine E_iadd (pc := 105) dX7_odds_105 ?_
                  refine E_callS1 (pc := 106) dX7_odds_106 C_X7_cube rfl ks_RX7_270 rfl ⟨Nat.le_of_ble_eq_true rfl, Nat.le_of_ble_eq_true rfl, Nat.le_of_ble_eq_true rfl, Nat.le_of_ble_eq_true rfl⟩ (Nat.le_of_ble_eq_true rfl) ?_
                  refine E_istore (pc := 109) 7 dX7_odds_109 (Nat.le_of_ble_eq_true rfl) rfl (lz := [_, _, _, _, _, _, _, _, _]) rfl ?_
                  refine E_iload (pc := 111) 4 dX7_odds_111 rfl ?_
                  refine E_iconst (pc := 113) (1) dX7_odds_113 (by decide) ?_
                  refine E_icmp_ne (pc := 114) 127 dX7_odds_114 rfl (fun q114 => ?_) (fun q114 => absurd q114 c1)
                  refine E_iload (pc := 127) 6 dX7_odds_127 rfl ?_
                  refine E_iload_n (pc := 129) 2 dX7_odds_129 rfl rfl ?_
                  refine E_iload_n (pc := 130) 3 dX7_odds_130 rfl rfl ?_
                  refine E_callS1 (pc := 131) dX7_odds_131 C_X7_goodInThree rfl ks_RX7_277 rfl ⟨Nat.le_of_ble_eq_true rfl, Nat.le_of_ble_eq_true rfl, Nat.le_of_ble_eq_true rfl, Nat.le_of_ble_eq_true rfl⟩ (Nat.le_of_ble_eq_true rfl) ?_
                  refine E_istore (pc := 134) 8 dX7_odds_134 (Nat.le_of_ble_eq_true rfl) rfl (lz := [_, _, _, _, _, _, _, _, _]) rfl ?_
                  refine E_iload (pc := 136) 5 dX7_odds_136 rfl ?_
                  refine E_if_ne (pc := 138) 146 dX7_odds_138 rfl (fun q138 => absurd c2 q138) (fun q138 => ?_)
                  refine E_iload (pc := 141) 8 dX7_odds_141 rfl ?_
                  refine E_goto (pc := 143) 148 dX7_odds_143 rfl ?_
                  refine E_iload (pc := 148) 7 dX7_odds_148 rfl ?_
                  refine E_iload (pc := 150) 8 dX7_odds_150 rfl ?_
                  refine E_callS1 (pc := 152) dX7_odds_152 C_X7_commonDivisor rfl ks_RX7_280 rfl ⟨Nat.le_of_ble_eq_true rfl, Nat.le_of_ble_eq_true rfl, Nat.le_of_ble_eq_true rfl, Nat.le_of_ble_eq_true rfl⟩ (Nat.le_of_ble_eq_true rfl) ?_
                  refine E_callS1 (pc := 155) dX7_odds_155 C_X7_dividedDown rfl ks_RX7_283 rfl ⟨Nat.le_of_ble_eq_true rfl, Nat.le_of_ble_eq_true rfl, Nat.le_of_ble_eq_true rfl, Nat.le_of_ble_eq_true rfl⟩ (Nat.le_of_ble_eq_true rfl) ?_
                  refine E_iret (pc := 158) dX7_odds_158 rfl ?_
                  exact ⟨by rw [if_pos hok, hTi, odA, if_neg q85, if_neg c1, if_pos c2]; rfl, Kp_meas⟩
                · refine E_iload (pc := 91) 4 dX7_odds_91 rfl ?_
                  refine E_iconst (pc := 93) (1) dX7_odds_93 (by decide) ?_
                  refine E_icmp_ne (pc := 94) 103 dX7_odds_94 rfl (fun q94 => ?_) (fun q94 => absurd q94 c1)
                  refine E_iload_n (pc := 103) 3 dX7_odds_103 rfl rfl ?_
                  refine E_iconst (pc := 104) (1) dX7_odds_104 (by decide) ?_
                  refine E_iadd (pc := 105) dX7_odds_105 ?_
                  refine E_callS1 (pc := 106) dX7_odds_106 C_X7_cube rfl ks_RX7_270 rfl ⟨Nat.le_of_ble_eq_true rfl, Nat.le_of_ble_eq_true rfl, Nat.le_of_ble_eq_true rfl, Nat.le_of_ble_eq_true rfl⟩ (Nat.le_of_ble_eq_true rfl) ?_
                  refine E_istore (pc := 109) 7 dX7_odds_109 (Nat.le_of_ble_eq_true rfl) rfl (lz := [_, _, _, _, _, _, _, _, _]) rfl ?_
                  refine E_iload (pc := 111) 4 dX7_odds_111 rfl ?_
                  refine E_iconst (pc := 113) (1) dX7_odds_113 (by decide) ?_
                  refine E_icmp_ne (pc := 114) 127 dX7_odds_114 rfl (fun q114 => ?_) (fun q114 => absurd q114 c1)
                  refine E_iload (pc := 127) 6 dX7_odds_127 rfl ?_
                  refine E_iload_n (pc := 129) 2 dX7_odds_129 rfl rfl ?_
                  refine E_iload_n (pc := 130) 3 dX7_odds_130 rfl rfl ?_
                  refine E_callS1 (pc := 131) dX7_odds_131 C_X7_goodInThree rfl ks_RX7_277 rfl ⟨Nat.le_of_ble_eq_true rfl, Nat.le_of_ble_eq_true rfl, Nat.le_of_ble_eq_true rfl, Nat.le_of_ble_eq_true rfl⟩ (Nat.le_of_ble_eq_true rfl) ?_
                  refine E_istore (pc := 134) 8 dX7_odds_134 (Nat.le_of_ble_eq_true rfl) rfl (lz := [_, _, _, _, _, _, _, _, _]) rfl ?_
                  refine E_iload (pc := 136) 5 dX7_odds_136 rfl ?_
                  refine E_if_ne (pc := 138) 146 dX7_odds_138 rfl (fun q138 => ?_) (fun q138 => absurd q138 c2)
                  refine E_iload (pc := 146) 7 dX7_odds_146 rfl ?_
                  refine E_iload (pc := 148) 7 dX7_odds_148 rfl ?_
                  refine E_iload (pc := 150) 8 dX7_odds_150 rfl ?_
                  refine E_callS1 (pc := 152) dX7_odds_152 C_X7_commonDivisor rfl ks_RX7_280 rfl ⟨Nat.le_of_ble_eq_true rfl, Nat.le_of_ble_eq_true rfl, Nat.le_of_ble_eq_true rfl, Nat.le_of_ble_eq_true rfl⟩ (Nat.le_of_ble_eq_true rfl) ?_
                  refine E_callS1 (pc := 155) dX7_odds_155 C_X7_dividedDown rfl ks_RX7_283 rfl ⟨Nat.le_of_ble_eq_true rfl, Nat.le_of_ble_eq_true rfl, Nat.le_of_ble_eq_true rfl, Nat.le_of_ble_eq_true rfl⟩ (Nat.le_of_ble_eq_true rfl) ?_
                  refine E_iret (pc := 158) dX7_odds_158 rfl ?_
                  exact ⟨by rw [if_pos hok, hTi, odA, if_neg q85, if_neg c1, if_neg c2]; rfl, Kp_meas⟩
            · refine E_bipush (pc := 88) (-2) dX7_odds_88 (by decide) ?_
              refine E_iret (pc := 90) dX7_odds_90 rfl ?_
              exact ⟨by rw [if_pos hok, hTi, odA, if_pos q85], Kp_meas⟩
          · refine E_iconst (pc := 51) (-1) dX7_odds_51 (by decide) ?_
            refine E_iret (pc := 52) dX7_odds_52 rfl ?_
            first | exact ⟨by rw [if_neg (fun z => bi_0.mp q5 z.1)], Kp.rfl⟩ | exact ⟨by rw [if_neg (fun z => bi_0.mp q16 z.2.1)], Kp.rfl⟩ | exact ⟨by rw [if_neg (fun z => bi_0.mp q26 z.2.2.1)], Kp.rfl⟩ | exact ⟨by rw [if_neg (fun z => bi_0.mp q48 z.2.2.2.2)], Kp.rfl⟩ | exact ⟨by rw [if_neg (fun z => z.2.2.2.1.elim q32 q38)], Kp.rfl⟩
        · refine E_iload (pc := 35) 4 dX7_odds_35 rfl ?_
          refine E_iconst (pc := 37) (3) dX7_odds_37 (by decide) ?_
          refine E_icmp_ne (pc := 38) 51 dX7_odds_38 rfl (fun q38 => ?_) (fun q38 => ?_)
          · refine E_iconst (pc := 51) (-1) dX7_odds_51 (by decide) ?_
            refine E_iret (pc := 52) dX7_odds_52 rfl ?_
            first | exact ⟨by rw [if_neg (fun z => bi_0.mp q5 z.1)], Kp.rfl⟩ | exact ⟨by rw [if_neg (fun z => bi_0.mp q16 z.2.1)], Kp.rfl⟩ | exact ⟨by rw [if_neg (fun z => bi_0.mp q26 z.2.2.1)], Kp.rfl⟩ | exact ⟨by rw [if_neg (fun z => bi_0.mp q48 z.2.2.2.2)], Kp.rfl⟩ | exact ⟨by rw [if_neg (fun z => z.2.2.2.1.elim q32 q38)], Kp.rfl⟩
          · refine E_iload (pc := 41) 5 dX7_odds_41 rfl ?_
            refine E_iconst (pc := 43) (0) dX7_odds_43 (by decide) ?_
            refine E_iconst (pc := 44) (1) dX7_odds_44 (by decide) ?_
            refine E_callS1 (pc := 45) dX7_odds_45 C_X7_within rfl ks_RX7_76 rfl ⟨Nat.le_of_ble_eq_true rfl, Nat.le_of_ble_eq_true rfl, Nat.le_of_ble_eq_true rfl, Nat.le_of_ble_eq_true rfl⟩ (Nat.le_of_ble_eq_true rfl) ?_
            refine E_if_ne (pc := 48) 53 dX7_odds_48 rfl (fun q48 => ?_) (fun q48 => ?_)
            · have htr : tr = 1 ∨ tr = 3 := by first | exact Or.inl q32 | exact Or.inr q38
              have hok : okOdds h w bar d tr a := ⟨Decidable.of_not_not (fun z => q5 (bi_0.mpr z)), Decidable.of_not_not (fun z => q16 (bi_0.mpr z)), Decidable.of_not_not (fun z => q26 (bi_0.mpr z)), htr, Decidable.of_not_not (fun z => q48 (bi_0.mpr z))⟩
              obtain ⟨T, hT1, hT8, hT, hTi, hk, hx⟩ := hI.get hok.1
              refine E_aload_n (pc := 53) 0 dX7_odds_53 rfl rfl ?_
              refine E_getR0 (pc := 54) dX7_odds_54 fl_RX7_46 rfl rfl ?_
              refine E_aload_n (pc := 57) 0 dX7_odds_57 rfl rfl ?_
              refine E_getR0 (pc := 58) dX7_odds_58 fl_RX7_32 rfl rfl ?_
              refine E_iload_n (pc := 61) 1 dX7_odds_61 rfl rfl ?_
              refine E_aald (pc := 62) dX7_odds_62 rfl ⟨_, fun _ => rfl⟩ hx ?_
              refine E_callV0 (pc := 63) dX7_odds_63 (C_X0_measure hT hT8) rfl kv_RX7_146 rfl rfl rfl ⟨Nat.le_of_ble_eq_true rfl, Nat.le_of_ble_eq_true rfl, Nat.le_of_ble_eq_true rfl, Nat.le_of_ble_eq_true rfl⟩ (Nat.le_of_ble_eq_true rfl) ?_
              refine E_aload_n (pc := 66) 0 dX7_odds_66 rfl rfl ?_
              refine E_getR0 (pc := 67) dX7_odds_67 fl_RX7_46 rfl rfl ?_
              refine E_aload_n (pc := 70) 0 dX7_odds_70 rfl rfl ?_
              refine E_getR0 (pc := 71) dX7_odds_71 fl_RX7_32 rfl rfl ?_
              refine E_iload_n (pc := 74) 1 dX7_odds_74 rfl rfl ?_
              refine E_aald (pc := 75) dX7_odds_75 rfl ⟨_, fun _ => rfl⟩ hx ?_
              refine E_callV1 (pc := 76) dX7_odds_76 (C_X0_clears (T := T) (by rw [measN_t (by decide)]; exact hT) hT1 hT8) rfl kv_RX7_149 rfl rfl rfl ⟨Nat.le_of_ble_eq_true rfl, Nat.le_of_ble_eq_true rfl, Nat.le_of_ble_eq_true rfl, Nat.le_of_ble_eq_true rfl⟩ (Nat.le_of_ble_eq_true rfl) ?_
              refine E_top (y := sHigh (h g_values 0) (h g_nums (ixN w)) T) (by rw [measN_t (a := g_values) (by decide), measN_all.high hT1 hT8]) ?_
              refine E_istore (pc := 79) 6 dX7_odds_79 (Nat.le_of_ble_eq_true rfl) rfl (lz := [_, _, _, _, _, _, _, _, _]) rfl ?_
              refine E_iload (pc := 81) 6 dX7_odds_81 rfl ?_
              refine E_bipush (pc := 83) (-4) dX7_odds_83 (by decide) ?_
              refine E_icmp_ne (pc := 85) 91 dX7_odds_85 rfl (fun q85 => ?_) (fun q85 => ?_)
              · by_cases c1 : tr = 1
                · by_cases c2 : a = 0
                  · refine E_iload (pc := 91) 4 dX7_odds_91 rfl ?_
                    refine E_iconst (pc := 93) (1) dX7_odds_93 (by decide) ?_
                    refine E_icmp_ne (pc := 94) 103 dX7_odds_94 rfl (fun q94 => absurd c1 q94) (fun q94 => ?_)
                    refine E_iload_n (pc := 97) 3 dX7_odds_97 rfl rfl ?_
                    refine E_iconst (pc := 98) (1) dX7_odds_98 (by decide) ?_
                    refine E_iadd (pc := 99) dX7_odds_99 ?_
                    refine E_goto (pc := 100) 109 dX7_odds_100 rfl ?_
                    refine E_istore (pc := 109) 7 dX7_odds_109 (Nat.le_of_ble_eq_true rfl) rfl (lz := [_, _, _, _, _, _, _, _, _]) rfl ?_
                    refine E_iload (pc := 111) 4 dX7_odds_111 rfl ?_
                    refine E_iconst (pc := 113) (1) dX7_odds_113 (by decide) ?_
                    refine E_icmp_ne (pc := 114) 127 dX7_odds_114 rfl (fun q114 => absurd c1 q114) (fun q114 => ?_)
                    refine E_iload (pc := 117) 6 dX7_odds_117 rfl ?_
                    refine E_iload_n (pc := 119) 2 dX7_odds_119 rfl rfl ?_
                    refine E_iload_n (pc := 120) 3 dX7_odds_120 rfl rfl ?_
                    refine E_callS1 (pc := 121) dX7_odds_121 C_X7_goodSlips rfl ks_RX7_273 rfl ⟨Nat.le_of_ble_eq_true rfl, Nat.le_of_ble_eq_true rfl, Nat.le_of_ble_eq_true rfl, Nat.le_of_ble_eq_true rfl⟩ (Nat.le_of_ble_eq_true rfl) ?_
                    refine E_goto (pc := 124) 134 dX7_odds_124 rfl ?_
                    refine E_istore (pc := 134) 8 dX7_odds_134 (Nat.le_of_ble_eq_true rfl) rfl (lz := [_, _, _, _, _, _, _, _, _]) rfl ?_
                    refine E_iload (pc := 136) 5 dX7_odds_136 rfl ?_
                    refine E_if_ne (pc := 138) 146 dX7_odds_138 rfl (fun q138 => absurd c2 q138) (fun q138 => ?_)
                    refine E_iload (pc := 141) 8 dX7_odds_141 rfl ?_
                    refine E_goto (pc := 143) 148 dX7_odds_143 rfl ?_
                    refine E_iload (pc := 148) 7 dX7_odds_148 rfl ?_
                    refine E_iload (pc := 150) 8 dX7_odds_150 rfl ?_
                    refine E_callS1 (pc := 152) dX7_odds_152 C_X7_commonDivisor rfl ks_RX7_280 rfl ⟨Nat.le_of_ble_eq_true rfl, Nat.le_of_ble_eq_true rfl, Nat.le_of_ble_eq_true rfl, Nat.le_of_ble_eq_true rfl⟩ (Nat.le_of_ble_eq_true rfl) ?_
                    refine E_callS1 (pc := 155) dX7_odds_155 C_X7_dividedDown rfl ks_RX7_283 rfl ⟨Nat.le_of_ble_eq_true rfl, Nat.le_of_ble_eq_true rfl, Nat.le_of_ble_eq_true rfl, Nat.le_of_ble_eq_true rfl⟩ (Nat.le_of_ble_eq_true rfl) ?_
                    refine E_iret (pc := 158) dX7_odds_158 rfl ?_
                    exact ⟨by rw [if_pos hok, hTi, odA, if_neg q85, if_pos c1, if_pos c2]; rfl, Kp_meas⟩
                  · refine E_iload (pc := 91) 4 dX7_odds_91 rfl ?_
                    refine E_iconst (pc := 93) (1) dX7_odds_93 (by decide) ?_
                    refine E_icmp_ne (pc := 94) 103 dX7_odds_94 rfl (fun q94 => absurd c1 q94) (fun q94 => ?_)
                    refine E_iload_n (pc := 97) 3 dX7_odds_97 rfl rfl ?_
                    refine E_iconst (pc := 98) (1) dX7_odds_98 (by decide) ?_
                    refine E_iadd (pc := 99) dX7_odds_99 ?_
                    refine E_goto (pc := 100) 109 dX7_odds_100 rfl ?_
                    refine E_istore (pc := 109) 7 dX7_odds_109 (Nat.le_of_ble_eq_true rfl) rfl (lz := [_, _, _, _, _, _, _, _, _]) rfl ?_
                    refine E_iload (pc := 111) 4 dX7_odds_111 rfl ?_
                    refine E_iconst (pc := 113) (1) dX7_odds_113 (by decide) ?_
                    refine E_icmp_ne (pc := 114) 127 dX7_odds_114 rfl (fun q114 => absurd c1 q114) (fun q114 => ?_)
                    refine E_iload (pc := 117) 6 dX7_odds_117 rfl ?_
                    refine E_iload_n (pc := 119) 2 dX7_odds_119 rfl rfl ?_
                    refine E_iload_n (pc := 120) 3 dX7_odds_120 rfl rfl ?_
                    refine E_callS1 (pc := 121) dX7_odds_121 C_X7_goodSlips rfl ks_RX7_273 rfl ⟨Nat.le_of_ble_eq_true rfl, Nat.le_of_ble_eq_true rfl, Nat.le_of_ble_eq_true rfl, Nat.le_of_ble_eq_true rfl⟩ (Nat.le_of_ble_eq_true rfl) ?_
                    refine E_goto (pc := 124) 134 dX7_odds_124 rfl ?_
                    refine E_istore (pc := 134) 8 dX7_odds_134 (Nat.le_of_ble_eq_true rfl) rfl (lz := [_, _, _, _, _, _, _, _, _]) rfl ?_
                    refine E_iload (pc := 136) 5 dX7_odds_136 rfl ?_
                    refine E_if_ne (pc := 138) 146 dX7_odds_138 rfl (fun q138 => ?_) (fun q138 => absurd q138 c2)
                    refine E_iload (pc := 146) 7 dX7_odds_146 rfl ?_
                    refine E_iload (pc := 148) 7 dX7_odds_148 rfl ?_
                    refine E_iload (pc := 150) 8 dX7_odds_150 rfl ?_
                    refine E_callS1 (pc := 152) dX7_odds_152 C_X7_commonDivisor rfl ks_RX7_280 rfl ⟨Nat.le_of_ble_eq_true rfl, Nat.le_of_ble_eq_true rfl, Nat.le_of_ble_eq_true rfl, Nat.le_of_ble_eq_true rfl⟩ (Nat.le_of_ble_eq_true rfl) ?_
                    refine E_callS1 (pc := 155) dX7_odds_155 C_X7_dividedDown rfl ks_RX7_283 rfl ⟨Nat.le_of_ble_eq_true rfl, Nat.le_of_ble_eq_true rfl, Nat.le_of_ble_eq_true rfl, Nat.le_of_ble_eq_true rfl⟩ (Nat.le_of_ble_eq_true rfl) ?_
                    refine E_iret (pc := 158) dX7_odds_158 rfl ?_
                    exact ⟨by rw [if_pos hok, hTi, odA, if_neg q85, if_pos c1, if_neg c2]; rfl, Kp_meas⟩
                · by_cases c2 : a = 0
                  · refine E_iload (pc := 91) 4 dX7_odds_91 rfl ?_
                    refine E_iconst (pc := 93) (1) dX7_odds_93 (by decide) ?_
                    refine E_icmp_ne (pc := 94) 103 dX7_odds_94 rfl (fun q94 => ?_) (fun q94 => absurd q94 c1)
                    refine E_iload_n (pc := 103) 3 dX7_odds_103 rfl rfl ?_
                    refine E_iconst (pc := 104) (1) dX7_odds_104 (by decide) ?_
                    refine E_iadd (pc := 105) dX7_odds_105 ?_
                    refine E_callS1 (pc := 106) dX7_odds_106 C_X7_cube rfl ks_RX7_270 rfl ⟨Nat.le_of_ble_eq_true rfl, Nat.le_of_ble_eq_true rfl, Nat.le_of_ble_eq_true rfl, Nat.le_of_ble_eq_true rfl⟩ (Nat.le_of_ble_eq_true rfl) ?_
                    refine E_istore (pc := 109) 7 dX7_odds_109 (Nat.le_of_ble_eq_true rfl) rfl (lz := [_, _, _, _, _, _, _, _, _]) rfl ?_
                    refine E_iload (pc := 111) 4 dX7_odds_111 rfl ?_
                    refine E_iconst (pc := 113) (1) dX7_odds_113 (by decide) ?_
                    refine E_icmp_ne (pc := 114) 127 dX7_odds_114 rfl (fun q114 => ?_) (fun q114 => absurd q114 c1)
                    refine E_iload (pc := 127) 6 dX7_odds_127 rfl ?_
                    refine E_iload_n (pc := 129) 2 dX7_odds_129 rfl rfl ?_
                    refine E_iload_n (pc := 130) 3 dX7_odds_130 rfl rfl ?_
                    refine E_callS1 (pc := 131) dX7_odds_131 C_X7_goodInThree rfl ks_RX7_277 rfl ⟨Nat.le_of_ble_eq_true rfl, Nat.le_of_ble_eq_true rfl, Nat.le_of_ble_eq_true rfl, Nat.le_of_ble_eq_true rfl⟩ (Nat.le_of_ble_eq_true rfl) ?_
                    refine E_istore (pc := 134) 8 dX7_odds_134 (Nat.le_of_ble_eq_true rfl) rfl (lz := [_, _, _, _, _, _, _, _, _]) rfl ?_
                    refine E_iload (pc := 136) 5 dX7_odds_136 rfl ?_
                    refine E_if_ne (pc := 138) 146 dX7_odds_138 rfl (fun q138 => absurd c2 q138) (fun q138 => ?_)
                    refine E_iload (pc := 141) 8 dX7_odds_141 rfl ?_
                    refine E_goto (pc := 143) 148 dX7_odds_143 rfl ?_
                    refine E_iload (pc := 148) 7 dX7_odds_148 rfl ?_
                    refine E_iload (pc := 150) 8 dX7_odds_150 rfl ?_
                    refine E_callS1 (pc := 152) dX7_odds_152 C_X7_commonDivisor rfl ks_RX7_280 rfl ⟨Nat.le_of_ble_eq_true rfl, Nat.le_of_ble_eq_true rfl, Nat.le_of_ble_eq_true rfl, Nat.le_of_ble_eq_true rfl⟩ (Nat.le_of_ble_eq_true rfl) ?_
                    refine E_callS1 (pc := 155) dX7_odds_155 C_X7_dividedDown rfl ks_RX7_283 rfl ⟨Nat.le_of_ble_eq_true rfl, Nat.le_of_ble_eq_true rfl, Nat.le_of_ble_eq_true rfl, Nat.le_of_ble_eq_true rfl⟩ (Nat.le_of_ble_eq_true rfl) ?_
                    refine E_iret (pc := 158) dX7_odds_158 rfl ?_
                    exact ⟨by rw [if_pos hok, hTi, odA, if_neg q85, if_neg c1, if_pos c2]; rfl, Kp_meas⟩
                  · refine E_iload (pc := 91) 4 dX7_odds_91 rfl ?_
                    refine E_iconst (pc := 93) (1) dX7_odds_93 (by decide) ?_
                    refine E_icmp_ne (pc := 94) 103 dX7_odds_94 rfl (fun q94 => ?_) (fun q94 => absurd q94 c1)
                    refine E_iload_n (pc := 103) 3 dX7_odds_103 rfl rfl ?_
                    refine E_iconst (pc := 104) (1) dX7_odds_104 (by decide) ?_
                    refine E_iadd (pc := 105) dX7_odds_105 ?_
                    refine E_callS1 (pc := 106) dX7_odds_106 C_X7_cube rfl ks_RX7_270 rfl ⟨Nat.le_of_ble_eq_true rfl, Nat.le_of_ble_eq_true rfl, Nat.le_of_ble_eq_true rfl, Nat.le_of_ble_eq_true rfl⟩ (Nat.le_of_ble_eq_true rfl) ?_
                    refine E_istore (pc := 109) 7 dX7_odds_109 (Nat.le_of_ble_eq_true rfl) rfl (lz := [_, _, _, _, _, _, _, _, _]) rfl ?_
                    refine E_iload (pc := 111) 4 dX7_odds_111 rfl ?_
                    refine E_iconst (pc := 113) (1) dX7_odds_113 (by decide) ?_
                    refine E_icmp_ne (pc := 114) 127 dX7_odds_114 rfl (fun q114 => ?_) (fun q114 => absurd q114 c1)
                    refine E_iload (pc := 127) 6 dX7_odds_127 rfl ?_
                    refine E_iload_n (pc := 129) 2 dX7_odds_129 rfl rfl ?_
                    refine E_iload_n (pc := 130) 3 dX7_odds_130 rfl rfl ?_
                    refine E_callS1 (pc := 131) dX7_odds_131 C_X7_goodInThree rfl ks_RX7_277 rfl ⟨Nat.le_of_ble_eq_true rfl, Nat.le_of_ble_eq_true rfl, Nat.le_of_ble_eq_true rfl, Nat.le_of_ble_eq_true rfl⟩ (Nat.le_of_ble_eq_true rfl) ?_
                    refine E_istore (pc := 134) 8 dX7_odds_134 (Nat.le_of_ble_eq_true rfl) rfl (lz := [_, _, _, _, _, _, _, _, _]) rfl ?_
                    refine E_iload (pc := 136) 5 dX7_odds_136 rfl ?_
                    refine E_if_ne (pc := 138) 146 dX7_odds_138 rfl (fun q138 => ?_) (fun q138 => absurd q138 c2)
                    refine E_iload (pc := 146) 7 dX7_odds_146 rfl ?_
                    refine E_iload (pc := 148) 7 dX7_odds_148 rfl ?_
                    refine E_iload (pc := 150) 8 dX7_odds_150 rfl ?_
                    refine E_callS1 (pc := 152) dX7_odds_152 C_X7_commonDivisor rfl ks_RX7_280 rfl ⟨Nat.le_of_ble_eq_true rfl, Nat.le_of_ble_eq_true rfl, Nat.le_of_ble_eq_true rfl, Nat.le_of_ble_eq_true rfl⟩ (Nat.le_of_ble_eq_true rfl) ?_
                    refine E_callS1 (pc := 155) dX7_odds_155 C_X7_dividedDown rfl ks_RX7_283 rfl ⟨Nat.le_of_ble_eq_true rfl, Nat.le_of_ble_eq_true rfl, Nat.le_of_ble_eq_true rfl, Nat.le_of_ble_eq_true rfl⟩ (Nat.le_of_ble_eq_true rfl) ?_
                    refine E_iret (pc := 158) dX7_odds_158 rfl ?_
                    exact ⟨by rw [if_pos hok, hTi, odA, if_neg q85, if_neg c1, if_neg c2]; rfl, Kp_meas⟩
              · refine E_bipush (pc := 88) (-2) dX7_odds_88 (by decide) ?_
                refine E_iret (pc := 90) dX7_odds_90 rfl ?_
                exact ⟨by rw [if_pos hok, hTi, odA, if_pos q85], Kp_meas⟩
            · refine E_iconst (pc := 51) (-1) dX7_odds_51 (by decide) ?_
              refine E_iret (pc := 52) dX7_odds_52 rfl ?_
              first | exact ⟨by rw [if_neg (fun z => bi_0.mp q5 z.1)], Kp.rfl⟩ | exact ⟨by rw [if_neg (fun z => bi_0.mp q16 z.2.1)], Kp.rfl⟩ | exact ⟨by rw [if_neg (fun z => bi_0.mp q26 z.2.2.1)], Kp.rfl⟩ | exact ⟨by rw [if_neg (fun z => bi_0.mp q48 z.2.2.2.2)], Kp.rfl⟩ | exact ⟨by rw [if_neg (fun z => z.2.2.2.1.elim q32 q38)], Kp.rfl⟩
theorem sub_m1 (x : Int32) : (999 : Int32) - x + -1 = 999 - (x + 1) := by grind
/-- the highest bar that goes well often enough -/
def asF (high d a b : Int32) : Nat → Nat → Int32
  | 0, _ => -4
  | n + 1, i => if a * ((d + 1) * (d + 1) * (d + 1)) ≤ b * g3 high (nI (999 - i)) d then nI (999 - i) else asF high d a b n (i + 1)
abbrev okAsks (h : Hp) (w d a b : Int32) : Prop := isW h w ∧ (0 ≤ d ∧ d ≤ 20) ∧ (1 ≤ a ∧ a ≤ 99) ∧ (1 ≤ b ∧ b ≤ 99) ∧ a < b
set_option maxHeartbeats 1600000 in
theorem C_X7_asks {l : Launch} {G : GE} {h : Hp} {w d a b : Int32} (hI : WT h) : CT l G mX7_asks [vR g_oab 0, vI w, vI d, vI a, vI b] h (fun r h' => r = some (if okAsks h w d a b then (if sHigh (h g_values 0) (h g_nums (ixN w)) (ixN (h g_way (ixN w) 1)) = -4 then -2 else asF (sHigh (h g_values 0) (h g_nums (ixN w)) (ixN (h g_way (ixN w) 1))) d a b 1000 0) else -1) ∧ Kp h h') := by
  refine CT.of (lv := [_, _, _, _, _, _, _]) (by decide +kernel) (Nat.le_of_ble_eq_true rfl) rfl ?_
  refine E_aload_n (pc := 0) 0 dX7_asks_0 rfl rfl ?_
  refine E_iload_n (pc := 1) 1 dX7_asks_1 rfl rfl ?_
  refine E_callV1 (pc := 2) dX7_asks_2 C_X7_isWay rfl kv_RX7_128 rfl rfl rfl ⟨Nat.le_of_ble_eq_true rfl, Nat.le_of_ble_eq_true rfl, Nat.le_of_ble_eq_true rfl, Nat.le_of_ble_eq_true rfl⟩ (Nat.le_of_ble_eq_true rfl) ?_
  refine E_if_eq (pc := 5) 45 dX7_asks_5 rfl (fun q5 => ?_) (fun q5 => ?_)
  · refine E_iconst (pc := 45) (-1) dX7_asks_45 (by decide) ?_
    refine E_iret (pc := 46) dX7_asks_46 rfl ?_
    first | exact ⟨by rw [if_neg (fun z => bi_0.mp q5 z.1)], Kp.rfl⟩ | exact ⟨by rw [if_neg (fun z => bi_0.mp q15 z.2.1)], Kp.rfl⟩ | exact ⟨by rw [if_neg (fun z => bi_0.mp q25 z.2.2.1)], Kp.rfl⟩ | exact ⟨by rw [if_neg (fun z => bi_0.mp q36 z.2.2.2.1)], Kp.rfl⟩ | exact ⟨by rw [if_neg (fun z => q42 z.2.2.2.2)], Kp.rfl⟩
  · refine E_iload_n (pc := 8) 2 dX7_asks_8 rfl rfl ?_
    refine E_iconst (pc := 9) (0) dX7_asks_9 (by decide) ?_
    refine E_bipush (pc := 10) (20) dX7_asks_10 (by decide) ?_
    refine E_callS1 (pc := 12) dX7_asks_12 C_X7_within rfl ks_RX7_76 rfl ⟨Nat.le_of_ble_eq_true rfl, Nat.le_of_ble_eq_true rfl, Nat.le_of_ble_eq_true rfl, Nat.le_of_ble_eq_true rfl⟩ (Nat.le_of_ble_eq_true rfl) ?_
    refine E_if_eq (pc := 15) 45 dX7_asks_15 rfl (fun q15 => ?_) (fun q15 => ?_)
    · refine E_iconst (pc := 45) (-1) dX7_asks_45 (by decide) ?_
      refine E_iret (pc := 46) dX7_asks_46 rfl ?_
      first | exact ⟨by rw [if_neg (fun z => bi_0.mp q5 z.1)], Kp.rfl⟩ | exact ⟨by rw [if_neg (fun z => bi_0.mp q15 z.2.1)], Kp.rfl⟩ | exact ⟨by rw [if_neg (fun z => bi_0.mp q25 z.2.2.1)], Kp.rfl⟩ | exact ⟨by rw [if_neg (fun z => bi_0.mp q36 z.2.2.2.1)], Kp.rfl⟩ | exact ⟨by rw [if_neg (fun z => q42 z.2.2.2.2)], Kp.rfl⟩
    · refine E_iload_n (pc := 18) 3 dX7_asks_18 rfl rfl ?_
      refine E_iconst (pc := 19) (1) dX7_asks_19 (by decide) ?_
      refine E_bipush (pc := 20) (99) dX7_asks_20 (by decide) ?_
      refine E_callS1 (pc := 22) dX7_asks_22 C_X7_within rfl ks_RX7_76 rfl ⟨Nat.le_of_ble_eq_true rfl, Nat.le_of_ble_eq_true rfl, Nat.le_of_ble_eq_true rfl, Nat.le_of_ble_eq_true rfl⟩ (Nat.le_of_ble_eq_true rfl) ?_
      refine E_if_eq (pc := 25) 45 dX7_asks_25 rfl (fun q25 => ?_) (fun q25 => ?_)
      · refine E_iconst (pc := 45) (-1) dX7_asks_45 (by decide) ?_
        refine E_iret (pc := 46) dX7_asks_46 rfl ?_
        first | exact ⟨by rw [if_neg (fun z => bi_0.mp q5 z.1)], Kp.rfl⟩ | exact ⟨by rw [if_neg (fun z => bi_0.mp q15 z.2.1)], Kp.rfl⟩ | exact ⟨by rw [if_neg (fun z => bi_0.mp q25 z.2.2.1)], Kp.rfl⟩ | exact ⟨by rw [if_neg (fun z => bi_0.mp q36 z.2.2.2.1)], Kp.rfl⟩ | exact ⟨by rw [if_neg (fun z => q42 z.2.2.2.2)], Kp.rfl⟩
      · refine E_iload (pc := 28) 4 dX7_asks_28 rfl ?_
        refine E_iconst (pc := 30) (1) dX7_asks_30 (by decide) ?_
        refine E_bipush (pc := 31) (99) dX7_asks_31 (by decide) ?_
        refine E_callS1 (pc := 33) dX7_asks_33 C_X7_within rfl ks_RX7_76 rfl ⟨Nat.le_of_ble_eq_true rfl, Nat.le_of_ble_eq_true rfl, Nat.le_of_ble_eq_true rfl, Nat.le_of_ble_eq_true rfl⟩ (Nat.le_of_ble_eq_true rfl) ?_
        refine E_if_eq (pc := 36) 45 dX7_asks_36 rfl (fun q36 => ?_) (fun q36 => ?_)
        · refine E_iconst (pc := 45) (-1) dX7_asks_45 (by decide) ?_
          refine E_iret (pc := 46) dX7_asks_46 rfl ?_
          first | exact ⟨by rw [if_neg (fun z => bi_0.mp q5 z.1)], Kp.rfl⟩ | exact ⟨by rw [if_neg (fun z => bi_0.mp q15 z.2.1)], Kp.rfl⟩ | exact ⟨by rw [if_neg (fun z => bi_0.mp q25 z.2.2.1)], Kp.rfl⟩ | exact ⟨by rw [if_neg (fun z => bi_0.mp q36 z.2.2.2.1)], Kp.rfl⟩ | exact ⟨by rw [if_neg (fun z => q42 z.2.2.2.2)], Kp.rfl⟩
        · refine E_iload_n (pc := 39) 3 dX7_asks_39 rfl rfl ?_
          refine E_iload (pc := 40) 4 dX7_asks_40 rfl ?_
          refine E_icmp_lt (pc := 42) 47 dX7_asks_42 rfl (fun q42 => ?_) (fun q42 => ?_)
          · have hok : okAsks h w d a b := ⟨Decidable.of_not_not (fun z => q5 (bi_0.mpr z)), Decidable.of_not_not (fun z => q15 (bi_0.mpr z)), Decidable.of_not_not (fun z => q25 (bi_0.mpr z)), Decidable.of_not_not (fun z => q36 (bi_0.mpr z)), q42⟩
            obtain ⟨T, hT1, hT8, hT, hTi, hk, hx⟩ := hI.get hok.1
            refine E_aload_n (pc := 47) 0 dX7_asks_47 rfl rfl ?_
            refine E_getR0 (pc := 48) dX7_asks_48 fl_RX7_46 rfl rfl ?_
            refine E_aload_n (pc := 51) 0 dX7_asks_51 rfl rfl ?_
            refine E_getR0 (pc := 52) dX7_asks_52 fl_RX7_32 rfl rfl ?_
            refine E_iload_n (pc := 55) 1 dX7_asks_55 rfl rfl ?_
            refine E_aald (pc := 56) dX7_asks_56 rfl ⟨_, fun _ => rfl⟩ hx ?_
            refine E_callV0 (pc := 57) dX7_asks_57 (C_X0_measure hT hT8) rfl kv_RX7_146 rfl rfl rfl ⟨Nat.le_of_ble_eq_true rfl, Nat.le_of_ble_eq_true rfl, Nat.le_of_ble_eq_true rfl, Nat.le_of_ble_eq_true rfl⟩ (Nat.le_of_ble_eq_true rfl) ?_
            refine E_aload_n (pc := 60) 0 dX7_asks_60 rfl rfl ?_
            refine E_getR0 (pc := 61) dX7_asks_61 fl_RX7_46 rfl rfl ?_
            refine E_aload_n (pc := 64) 0 dX7_asks_64 rfl rfl ?_
            refine E_getR0 (pc := 65) dX7_asks_65 fl_RX7_32 rfl rfl ?_
            refine E_iload_n (pc := 68) 1 dX7_asks_68 rfl rfl ?_
            refine E_aald (pc := 69) dX7_asks_69 rfl ⟨_, fun _ => rfl⟩ hx ?_
            refine E_callV1 (pc := 70) dX7_asks_70 (C_X0_clears (T := T) (by rw [measN_t (by decide)]; exact hT) hT1 hT8) rfl kv_RX7_149 rfl rfl rfl ⟨Nat.le_of_ble_eq_true rfl, Nat.le_of_ble_eq_true rfl, Nat.le_of_ble_eq_true rfl, Nat.le_of_ble_eq_true rfl⟩ (Nat.le_of_ble_eq_true rfl) ?_
            refine E_top (y := sHigh (h g_values 0) (h g_nums (ixN w)) T) (by rw [measN_t (a := g_values) (by decide), measN_all.high hT1 hT8]) ?_
            refine E_istore (pc := 73) 5 dX7_asks_73 (Nat.le_of_ble_eq_true rfl) rfl (lz := [_, _, _, _, _, _, _]) rfl ?_
            refine E_iload (pc := 75) 5 dX7_asks_75 rfl ?_
            refine E_bipush (pc := 77) (-4) dX7_asks_77 (by decide) ?_
            refine E_icmp_ne (pc := 79) 85 dX7_asks_79 rfl (fun q79 => ?_) (fun q79 => ?_)
            · refine E_sipush (pc := 85) (999) dX7_asks_85 (by decide) ?_
              refine E_istore (pc := 88) 6 dX7_asks_88 (Nat.le_of_ble_eq_true rfl) rfl (lz := [_, _, _, _, _, _, _]) rfl ?_
              refine down (P := fun i => asF (sHigh (h g_values 0) (h g_nums (ixN w)) T) d a b (1000 - i) i = asF (sHigh (h g_values 0) (h g_nums (ixN w)) T) d a b 1000 0 → Ev l G mX7_asks _ 90 [some (vR g_oab 0), some (vI w), some (vI d), some (vI a), some (vI b), some (vI (sHigh (h g_values 0) (h g_nums (ixN w)) T)), some (vI (999 - nI i))] [] (measN h (ixN w) T T)) 1000 ?_ ?_ 0 (Nat.zero_le _) rfl
              · intro hx9
                refine E_iload (pc := 90) 6 dX7_asks_90 rfl ?_
                refine E_if_lt (pc := 92) 126 dX7_asks_92 rfl (fun q92 => ?_) (fun q92 => absurd (show (999 : Int32) - nI 1000 < 0 by decide) q92)
                refine E_bipush (pc := 126) (-4) dX7_asks_126 (by decide) ?_
                refine E_iret (pc := 128) dX7_asks_128 rfl ?_
                exact ⟨by rw [if_pos hok, hTi, if_neg q79, ← hx9]; rfl, Kp_meas⟩
              · intro i hi hn hx9
                have e9 : (999 : Int32) - nI i = nI (999 - i) := by rw [show (999 : Int32) = nI 999 from rfl, pk_sub (by omega)]
                rw [show 1000 - i = (1000 - (i + 1)) + 1 by omega] at hx9
                refine E_iload (pc := 90) 6 dX7_asks_90 rfl ?_
                refine E_if_lt (pc := 92) 126 dX7_asks_92 rfl (fun q92 => absurd q92 (by rw [e9]; exact nI_pos (by omega))) (fun q92 => ?_)
                refine E_iload (pc := 95) 4 dX7_asks_95 rfl ?_
                refine E_iload (pc := 97) 5 dX7_asks_97 rfl ?_
                refine E_iload (pc := 99) 6 dX7_asks_99 rfl ?_
                refine E_iload_n (pc := 101) 2 dX7_asks_101 rfl rfl ?_
                refine E_eq (st' := [vI d, vI (nI (999 - i)), vI (sHigh (h g_values 0) (h g_nums (ixN w)) T), vI b]) rfl (by rw [e9]) rfl ?_
                refine E_callS1 (pc := 102) dX7_asks_102 C_X7_goodInThree rfl ks_RX7_277 rfl ⟨Nat.le_of_ble_eq_true rfl, Nat.le_of_ble_eq_true rfl, Nat.le_of_ble_eq_true rfl, Nat.le_of_ble_eq_true rfl⟩ (Nat.le_of_ble_eq_true rfl) ?_
                refine E_imul (pc := 105) dX7_asks_105 ?_
                refine E_iload_n (pc := 106) 3 dX7_asks_106 rfl rfl ?_
                refine E_iload_n (pc := 107) 2 dX7_asks_107 rfl rfl ?_
                refine E_iconst (pc := 108) (1) dX7_asks_108 (by decide) ?_
                refine E_iadd (pc := 109) dX7_asks_109 ?_
                refine E_callS1 (pc := 110) dX7_asks_110 C_X7_cube rfl ks_RX7_270 rfl ⟨Nat.le_of_ble_eq_true rfl, Nat.le_of_ble_eq_true rfl, Nat.le_of_ble_eq_true rfl, Nat.le_of_ble_eq_true rfl⟩ (Nat.le_of_ble_eq_true rfl) ?_
                refine E_imul (pc := 113) dX7_asks_113 ?_
                refine E_eq (st' := [vI (a * ((d + 1) * (d + 1) * (d + 1))), vI (b * g3 (sHigh (h g_values 0) (h g_nums (ixN w)) T) (nI (999 - i)) d)]) rfl rfl rfl ?_
                refine E_icmp_lt (pc := 114) 120 dX7_asks_114 rfl (fun q114 => ?_) (fun q114 => ?_)
                · refine E_iinc (pc := 120) 6 (-1) dX7_asks_120 (Nat.le_of_ble_eq_true rfl) rfl rfl (by decide) (lz := [_, _, _, _, _, _, _]) rfl ?_
                  refine E_goto (pc := 123) 90 dX7_asks_123 rfl ?_
                  exact E_eq (by rw [nI_succ, sub_m1]) rfl rfl (hn ((if_neg (Int32.not_le.mpr q114)).symm.trans hx9))
                · refine E_iload (pc := 117) 6 dX7_asks_117 rfl ?_
                  refine E_iret (pc := 119) dX7_asks_119 rfl ?_
                  exact ⟨by rw [if_pos hok, hTi, if_neg q79, ← hx9, e9]; exact congrArg some (if_pos (Int32.not_lt.mp q114)).symm, Kp_meas⟩
            · refine E_bipush (pc := 82) (-2) dX7_asks_82 (by decide) ?_
              refine E_iret (pc := 84) dX7_asks_84 rfl ?_
              exact ⟨by rw [if_pos hok, hTi, if_pos q79], Kp_meas⟩
          · refine E_iconst (pc := 45) (-1) dX7_asks_45 (by decide) ?_
            refine E_iret (pc := 46) dX7_asks_46 rfl ?_
            first | exact ⟨by rw [if_neg (fun z => bi_0.mp q5 z.1)], Kp.rfl⟩ | exact ⟨by rw [if_neg (fun z => bi_0.mp q15 z.2.1)], Kp.rfl⟩ | exact ⟨by rw [if_neg (fun z => bi_0.mp q25 z.2.2.1)], Kp.rfl⟩ | exact ⟨by rw [if_neg (fun z => bi_0.mp q36 z.2.2.2.1)], Kp.rfl⟩ | exact ⟨by rw [if_neg (fun z => q42 z.2.2.2.2)], Kp.rfl⟩
def cwF (h : Hp) : Nat → Nat
  | 0 => 0
  | k + 1 => if 0 < h g_way k 1 then cwF h k + 1 else cwF h k
set_option maxHeartbeats 1600000 in
theorem C_X7_countWays {l : Launch} {G : GE} {h : Hp}  : CT l G mX7_countWays [vR g_oab 0] h (fun r h' => r = some (nI (cwF h 6)) ∧ h' = h) := by
  refine CT.of (lv := [_, _, _]) (by decide +kernel) (Nat.le_of_ble_eq_true rfl) rfl ?_
  refine E_iconst (pc := 0) (0) dX7_countWays_0 (by decide) ?_
  refine E_istore_n (pc := 1) 1 dX7_countWays_1 rfl (Nat.le_of_ble_eq_true rfl) rfl (lz := [_, _, _]) rfl ?_
  refine E_iconst (pc := 2) (0) dX7_countWays_2 (by decide) ?_
  refine E_istore_n (pc := 3) 2 dX7_countWays_3 rfl (Nat.le_of_ble_eq_true rfl) rfl (lz := [_, _, _]) rfl ?_
  refine down (P := fun i => Ev l G mX7_countWays _ 4 [some (vR g_oab 0), some (vI (nI (cwF h i))), some (vI (nI i))] [] h) 6 ?_ ?_ 0 (Nat.zero_le _)
  · refine E_iload_n (pc := 4) 2 dX7_countWays_4 rfl rfl ?_
    refine E_bipush (pc := 5) (6) dX7_countWays_5 (by decide) ?_
    refine E_icmp_ge (pc := 7) 27 dX7_countWays_7 rfl (fun q7 => ?_) (fun q7 => absurd (show (6 : Int32) ≤ 6 by decide) q7)
    refine E_iload_n (pc := 27) 1 dX7_countWays_27 rfl rfl ?_
    refine E_iret (pc := 28) dX7_countWays_28 rfl ?_
    first | exact ⟨rfl, rfl⟩ | exact ⟨by grind [bi], rfl⟩
  · intro i hi hn
    refine E_iload_n (pc := 4) 2 dX7_countWays_4 rfl rfl ?_
    refine E_bipush (pc := 5) (6) dX7_countWays_5 (by decide) ?_
    refine E_icmp_ge (pc := 7) 27 dX7_countWays_7 rfl (fun q7 => absurd q7 (nI_ge (b := 6) hi (by decide))) (fun q7 => ?_)
    refine E_aload_n (pc := 10) 0 dX7_countWays_10 rfl rfl ?_
    refine E_iload_n (pc := 11) 2 dX7_countWays_11 rfl rfl ?_
    refine E_callV1 (pc := 12) dX7_countWays_12 C_X7_isWay rfl kv_RX7_128 rfl rfl rfl ⟨Nat.le_of_ble_eq_true rfl, Nat.le_of_ble_eq_true rfl, Nat.le_of_ble_eq_true rfl, Nat.le_of_ble_eq_true rfl⟩ (Nat.le_of_ble_eq_true rfl) ?_
    refine E_if_eq (pc := 15) 21 dX7_countWays_15 rfl (fun q15 => ?_) (fun q15 => ?_)
    · have hl : cwF h (i + 1) = cwF h i := if_neg (fun z => bi_0.mp q15 ((isW_nI hi).mpr z))
      refine E_iincN (pc := 21) 2 dX7_countWays_21 (Nat.le_of_ble_eq_true rfl) rfl rfl (lz := [_, _, _]) rfl ?_
      refine E_goto (pc := 24) 4 dX7_countWays_24 rfl ?_
      rw [hl] at hn
      exact hn
    · have hl : cwF h (i + 1) = cwF h i + 1 := if_pos ((isW_nI hi).mp (Decidable.of_not_not (fun z => q15 (bi_0.mpr z))))
      refine E_iincN (pc := 18) 1 dX7_countWays_18 (Nat.le_of_ble_eq_true rfl) rfl rfl (lz := [_, _, _]) rfl ?_
      refine E_iincN (pc := 21) 2 dX7_countWays_21 (Nat.le_of_ble_eq_true rfl) rfl rfl (lz := [_, _, _]) rfl ?_
      refine E_goto (pc := 24) 4 dX7_countWays_24 rfl ?_
      rw [hl] at hn
      exact hn
def ctF (h : Hp) : Nat → Int32
  | 0 => 0
  | k + 1 => ctF h k + h g_way k 1
set_option maxHeartbeats 1600000 in
theorem C_X7_countTenths {l : Launch} {G : GE} {h : Hp}  : CT l G mX7_countTenths [vR g_oab 0] h (fun r h' => r = some (ctF h 6) ∧ h' = h) := by
  refine CT.of (lv := [_, _, _]) (by decide +kernel) (Nat.le_of_ble_eq_true rfl) rfl ?_
  refine E_iconst (pc := 0) (0) dX7_countTenths_0 (by decide) ?_
  refine E_istore_n (pc := 1) 1 dX7_countTenths_1 rfl (Nat.le_of_ble_eq_true rfl) rfl (lz := [_, _, _]) rfl ?_
  refine E_iconst (pc := 2) (0) dX7_countTenths_2 (by decide) ?_
  refine E_istore_n (pc := 3) 2 dX7_countTenths_3 rfl (Nat.le_of_ble_eq_true rfl) rfl (lz := [_, _, _]) rfl ?_
  refine down (P := fun i => Ev l G mX7_countTenths _ 4 [some (vR g_oab 0), some (vI (ctF h i)), some (vI (nI i))] [] h) 6 ?_ ?_ 0 (Nat.zero_le _)
  · refine E_iload_n (pc := 4) 2 dX7_countTenths_4 rfl rfl ?_
    refine E_bipush (pc := 5) (6) dX7_countTenths_5 (by decide) ?_
    refine E_icmp_ge (pc := 7) 28 dX7_countTenths_7 rfl (fun q7 => ?_) (fun q7 => absurd (show (6 : Int32) ≤ 6 by decide) q7)
    refine E_iload_n (pc := 28) 1 dX7_countTenths_28 rfl rfl ?_
    refine E_iret (pc := 29) dX7_countTenths_29 rfl ?_
    first | exact ⟨rfl, rfl⟩ | exact ⟨by grind [bi], rfl⟩
  · intro i hi hn
    refine E_iload_n (pc := 4) 2 dX7_countTenths_4 rfl rfl ?_
    refine E_bipush (pc := 5) (6) dX7_countTenths_5 (by decide) ?_
    refine E_icmp_ge (pc := 7) 28 dX7_countTenths_7 rfl (fun q7 => absurd q7 (nI_ge (b := 6) hi (by decide))) (fun q7 => ?_)
    refine E_iload_n (pc := 10) 1 dX7_countTenths_10 rfl rfl ?_
    refine E_aload_n (pc := 11) 0 dX7_countTenths_11 rfl rfl ?_
    refine E_getR0 (pc := 12) dX7_countTenths_12 fl_RX7_32 rfl rfl ?_
    refine E_iload_n (pc := 15) 2 dX7_countTenths_15 rfl rfl ?_
    refine E_aald (pc := 16) dX7_countTenths_16 rfl ⟨_, fun _ => rfl⟩ (vp_in_nI (by omega) (by decide)) ?_
    refine E_getI (pc := 17) dX7_countTenths_17 fl_RX7_108 rfl rfl ?_
    refine E_top (y := h g_way i 1) (by rw [ixN_nI (by omega)]) ?_
    refine E_iadd (pc := 20) dX7_countTenths_20 ?_
    refine E_istore_n (pc := 21) 1 dX7_countTenths_21 rfl (Nat.le_of_ble_eq_true rfl) rfl (lz := [_, _, _]) rfl ?_
    refine E_iincN (pc := 22) 2 dX7_countTenths_22 (Nat.le_of_ble_eq_true rfl) rfl rfl (lz := [_, _, _]) rfl ?_
    refine E_goto (pc := 25) 4 dX7_countTenths_25 rfl ?_
    exact hn
def bcI (x : Int32) : Int32 := bc5 (bc4 (bc3 (bc2 (bc1 x))))
def cnA (h : Hp) (C : Nat) (a : Int32) : Int32 := if a = 0 then nI (cwF h 6) else if a = 1 then ctF h 6 else if a = 2 then h g_ring 0 3 else if a = 3 then bcI (hbF (h g_held 0) C) else if a = 4 then h g_tape 0 1 else if a = 5 then (if h g_sheet 0 0 = -1 then -4 else h g_sheet 0 1) else -1
theorem cn_out {x : Int32} (h0 : ¬ x = 0) (h1 : ¬ x = 1) (h2 : ¬ x = 2) (h3 : ¬ x = 3) (h4 : ¬ x = 4) (h5 : ¬ x = 5) : x.toInt < 0 ∨ 5 < x.toInt := by
  by_cases hn : x < 0
  · exact Or.inl (by have := Int32.lt_iff_toInt_lt.mp hn; simpa using this)
  · obtain ⟨j, hj, rfl⟩ := nI_of hn
    right
    rw [nI_toInt hj]
    have key : ∀ m, nI j ≠ nI m → j ≠ m := fun m hm e => hm (congrArg nI e)
    have a0 := key 0 h0
    have a1 := key 1 h1
    have a2 := key 2 h2
    have a3 := key 3 h3
    have a4 := key 4 h4
    have a5 := key 5 h5
    omega
set_option maxHeartbeats 1600000 in
theorem C_X7_count {l : Launch} {G : GE} {h : Hp} {a : Int32} {C S : Nat} (hG : RG h C S) : CT l G mX7_count [vR g_oab 0, vI a] h (fun r h' => r = some (cnA h C a) ∧ h' = h) := by
  refine CT.of (lv := [_, _]) (by decide +kernel) (Nat.le_of_ble_eq_true rfl) rfl ?_
  by_cases h0 : a = 0
  · subst h0
    refine E_iload_n (pc := 0) 1 dX7_count_0 rfl rfl ?_
    refine E_tabIn (pc := 1) 40 dX7_count_1 (by decide) (by decide) rfl rfl ?_
    refine E_aload_n (pc := 40) 0 dX7_count_40 rfl rfl ?_
    refine E_callV1 (pc := 41) dX7_count_41 C_X7_countWays rfl kv_RX7_315 rfl rfl rfl ⟨Nat.le_of_ble_eq_true rfl, Nat.le_of_ble_eq_true rfl, Nat.le_of_ble_eq_true rfl, Nat.le_of_ble_eq_true rfl⟩ (Nat.le_of_ble_eq_true rfl) ?_
    refine E_iret (pc := 44) dX7_count_44 rfl ?_
    first | exact ⟨rfl, rfl⟩ | exact ⟨by grind [bi], rfl⟩
  by_cases h1 : a = 1
  · subst h1
    refine E_iload_n (pc := 0) 1 dX7_count_0 rfl rfl ?_
    refine E_tabIn (pc := 1) 45 dX7_count_1 (by decide) (by decide) rfl rfl ?_
    refine E_aload_n (pc := 45) 0 dX7_count_45 rfl rfl ?_
    refine E_callV1 (pc := 46) dX7_count_46 C_X7_countTenths rfl kv_RX7_318 rfl rfl rfl ⟨Nat.le_of_ble_eq_true rfl, Nat.le_of_ble_eq_true rfl, Nat.le_of_ble_eq_true rfl, Nat.le_of_ble_eq_true rfl⟩ (Nat.le_of_ble_eq_true rfl) ?_
    refine E_iret (pc := 49) dX7_count_49 rfl ?_
    first | exact ⟨rfl, rfl⟩ | exact ⟨by grind [bi], rfl⟩
  by_cases h2 : a = 2
  · subst h2
    refine E_iload_n (pc := 0) 1 dX7_count_0 rfl rfl ?_
    refine E_tabIn (pc := 1) 50 dX7_count_1 (by decide) (by decide) rfl rfl ?_
    refine E_aload_n (pc := 50) 0 dX7_count_50 rfl rfl ?_
    refine E_getR0 (pc := 51) dX7_count_51 fl_RX7_57 rfl rfl ?_
    refine E_getI (pc := 54) dX7_count_54 fl_RX7_232 rfl rfl ?_
    refine E_iret (pc := 57) dX7_count_57 rfl ?_
    first | exact ⟨rfl, rfl⟩ | exact ⟨by grind [bi], rfl⟩
  by_cases h3 : a = 3
  · subst h3
    refine E_iload_n (pc := 0) 1 dX7_count_0 rfl rfl ?_
    refine E_tabIn (pc := 1) 58 dX7_count_1 (by decide) (by decide) rfl rfl ?_
    refine E_aload_n (pc := 58) 0 dX7_count_58 rfl rfl ?_
    refine E_getR0 (pc := 59) dX7_count_59 fl_RX7_57 rfl rfl ?_
    refine E_callV1 (pc := 62) dX7_count_62 (C_X2_heldBits hG.1 hG.2.1) rfl kv_RX7_321 rfl rfl rfl ⟨Nat.le_of_ble_eq_true rfl, Nat.le_of_ble_eq_true rfl, Nat.le_of_ble_eq_true rfl, Nat.le_of_ble_eq_true rfl⟩ (Nat.le_of_ble_eq_true rfl) ?_
    refine E_callS1 (pc := 65) dX7_count_65 C_J6_bitCount_0f7a4 rfl ks_RX7_324 rfl ⟨Nat.le_of_ble_eq_true rfl, Nat.le_of_ble_eq_true rfl, Nat.le_of_ble_eq_true rfl, Nat.le_of_ble_eq_true rfl⟩ (Nat.le_of_ble_eq_true rfl) ?_
    refine E_iret (pc := 68) dX7_count_68 rfl ?_
    first | exact ⟨rfl, rfl⟩ | exact ⟨by grind [bi], rfl⟩
  by_cases h4 : a = 4
  · subst h4
    refine E_iload_n (pc := 0) 1 dX7_count_0 rfl rfl ?_
    refine E_tabIn (pc := 1) 69 dX7_count_1 (by decide) (by decide) rfl rfl ?_
    refine E_aload_n (pc := 69) 0 dX7_count_69 rfl rfl ?_
    refine E_getR0 (pc := 70) dX7_count_70 fl_RX7_10 rfl rfl ?_
    refine E_getI (pc := 73) dX7_count_73 fl_RX7_72 rfl rfl ?_
    refine E_iret (pc := 76) dX7_count_76 rfl ?_
    first | exact ⟨rfl, rfl⟩ | exact ⟨by grind [bi], rfl⟩
  by_cases h5 : a = 5
  · subst h5
    refine E_iload_n (pc := 0) 1 dX7_count_0 rfl rfl ?_
    refine E_tabIn (pc := 1) 77 dX7_count_1 (by decide) (by decide) rfl rfl ?_
    refine E_aload_n (pc := 77) 0 dX7_count_77 rfl rfl ?_
    refine E_getR0 (pc := 78) dX7_count_78 fl_RX7_63 rfl rfl ?_
    refine E_iconst (pc := 81) (0) dX7_count_81 (by decide) ?_
    refine E_aald (pc := 82) dX7_count_82 rfl ⟨_, fun _ => rfl⟩ (by unfold vp_in; decide) ?_
    refine E_callV1 (pc := 83) dX7_count_83 C_X4_isNothing rfl kv_RX7_293 rfl rfl rfl ⟨Nat.le_of_ble_eq_true rfl, Nat.le_of_ble_eq_true rfl, Nat.le_of_ble_eq_true rfl, Nat.le_of_ble_eq_true rfl⟩ (Nat.le_of_ble_eq_true rfl) ?_
    refine E_if_eq (pc := 86) 94 dX7_count_86 rfl (fun q86 => ?_) (fun q86 => ?_)
    · refine E_aload_n (pc := 94) 0 dX7_count_94 rfl rfl ?_
      refine E_getR0 (pc := 95) dX7_count_95 fl_RX7_63 rfl rfl ?_
      refine E_iconst (pc := 98) (0) dX7_count_98 (by decide) ?_
      refine E_aald (pc := 99) dX7_count_99 rfl ⟨_, fun _ => rfl⟩ (by unfold vp_in; decide) ?_
      refine E_getI (pc := 100) dX7_count_100 fl_RX7_329 rfl rfl ?_
      refine E_iret (pc := 103) dX7_count_103 rfl ?_
      first | exact ⟨congrArg some (if_pos (Decidable.of_not_not (fun z => q86 (bi_0.mpr z)))).symm, rfl⟩ | exact ⟨congrArg some (if_neg (bi_0.mp q86)).symm, rfl⟩
    · refine E_bipush (pc := 89) (-4) dX7_count_89 (by decide) ?_
      refine E_goto (pc := 91) 103 dX7_count_91 rfl ?_
      refine E_iret (pc := 103) dX7_count_103 rfl ?_
      first | exact ⟨congrArg some (if_pos (Decidable.of_not_not (fun z => q86 (bi_0.mpr z)))).symm, rfl⟩ | exact ⟨congrArg some (if_neg (bi_0.mp q86)).symm, rfl⟩
  refine E_iload_n (pc := 0) 1 dX7_count_0 rfl rfl ?_
  refine E_tabOut (pc := 1) 104 dX7_count_1 (cn_out h0 h1 h2 h3 h4 h5) rfl ?_
  refine E_iconst (pc := 104) (-1) dX7_count_104 (by decide) ?_
  refine E_iret (pc := 105) dX7_count_105 rfl ?_
  exact ⟨by rw [cnA, if_neg h0, if_neg h1, if_neg h2, if_neg h3, if_neg h4, if_neg h5], rfl⟩
