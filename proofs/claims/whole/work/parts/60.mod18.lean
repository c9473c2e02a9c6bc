/-! the model: odds, asks, count -/
theorem divD_nat {u g : Nat} (hu : u < 2 ^ 31) (hg0 : 0 < g) (hg : g < 2 ^ 31) : divD (nI u) (nI g) = nI u / nI g := by
  unfold divD
  rw [if_neg (show ¬ nI g < 1 from fun z => absurd ((nI_ltI (b := 1) hg (by decide)).mp z) (by omega)), fdiv_pos (nI_pos' hu) (nI_pos' hg)]
theorem frac {u v : Nat} {a : Int32} (hu : u < 2 ^ 31) (hv0 : 0 < v) (hv : v < 2 ^ 31) : divD (if a = 0 then nI u else nI v) (cdF 64 (nI v) (nI u)) = (if a = 0 then nI u else nI v) / nI (Nat.gcd u v) := by
  have hgp : 0 < Nat.gcd u v := Nat.gcd_pos_of_pos_right u hv0
  have hgl : Nat.gcd u v ≤ v := Nat.gcd_le_right u hv0
  rw [cdF_gcd 31 64 v u (by decide) hu hv hu]
  by_cases h : a = 0
  · rw [if_pos h]; exact divD_nat hu hgp (by omega)
  · rw [if_neg h]; exact divD_nat hv hgp (by omega)
/-- good ones, of D+1 -/
def gdN (H B D : Nat) : Nat := min (D + 1) (H + 1 - B)
def cub (n : Nat) : Nat := n * n * n
theorem cub_le {n m : Nat} (h : n ≤ m) : cub n ≤ cub m := Nat.mul_le_mul (Nat.mul_le_mul h h) h
theorem cub_nI (n : Nat) : nI n * nI n * nI n = nI (cub n) := by rw [pk_mul, pk_mul]; rfl
theorem g3_eq {H B D : Nat} (hH : H ≤ 999) (hB : B ≤ 999) (hD : D ≤ 20) : g3 (nI H) (nI B) (nI D) = nI (cub (D + 1) - cub (D + 1 - gdN H B D)) := by
  unfold g3
  have h1 : gdN H B D ≤ D + 1 := Nat.min_le_left _ _
  rw [gS_eq hH hB hD, ← nI_succ, show min (D + 1) (H + 1 - B) = gdN H B D from rfl, pk_sub h1, cub_nI, cub_nI, pk_sub (cub_le (Nat.sub_le _ _))]
theorem cub21 {n : Nat} (h : n ≤ 21) : cub n ≤ 9261 := cub_le h
theorem odA_1 {H B D : Nat} {a : Int32} (hH : H ≤ 999) (hB : B ≤ 999) (hD : D ≤ 20) : odA (nI H) (nI B) (nI D) 1 a = (if a = 0 then nI (gdN H B D) else nI (D + 1)) / nI (Nat.gcd (gdN H B D) (D + 1)) := by
  have h1 : gdN H B D ≤ D + 1 := Nat.min_le_left _ _
  unfold odA
  rw [if_neg (nI_ne4 (by omega)), if_pos rfl, gS_eq hH hB hD, ← nI_succ]
  exact frac (by omega) (by omega) (by omega)
theorem odA_3 {H B D : Nat} {a : Int32} (hH : H ≤ 999) (hB : B ≤ 999) (hD : D ≤ 20) : odA (nI H) (nI B) (nI D) 3 a = (if a = 0 then nI (cub (D + 1) - cub (D + 1 - gdN H B D)) else nI (cub (D + 1))) / nI (Nat.gcd (cub (D + 1) - cub (D + 1 - gdN H B D)) (cub (D + 1))) := by
  have h1 : gdN H B D ≤ D + 1 := Nat.min_le_left _ _
  have h2 := cub21 (n := D + 1) (by omega)
  have h3 : cub 1 ≤ cub (D + 1) := cub_le (by omega)
  have h4 : cub 1 = 1 := by decide
  unfold odA
  rw [if_neg (nI_ne4 (by omega)), if_neg (by decide), g3_eq hH hB hD, ← nI_succ, cub_nI]
  exact frac (by omega) (by omega) (by omega)
abbrev okOddM (h : Hp) (w bar d tr a : Int32) : Prop := isM h w ∧ (0 ≤ bar ∧ bar ≤ 999) ∧ (0 ≤ d ∧ d ≤ 20) ∧ (tr = 1 ∨ tr = 3) ∧ 0 ≤ a ∧ a ≤ 1
theorem sHigh_nat {V N : Nat → Int32} {T : Nat} (h : ¬ sHigh V N T = -4) : ∃ H, H ≤ 999 ∧ sHigh V N T = nI H := natof 999 (by decide) ((sHigh_ge V N T).resolve_left h) (sHigh_le V N T)
set_option maxHeartbeats 1600000 in
theorem C_X8_odds {l : Launch} {G : GE} {h : Hp} {w bar d tr a : Int32} (hI : MK h) : CT l G mX8_odds [vR g_model 0, vI w, vI bar, vI d, vI tr, vI a] h (fun r h' => r = some (if okOddM h w bar d tr a then odA (sHigh (h g_m_holds 0) (mN h (ixN w)) (ixN (h g_m_tenths 0 (ixN w)))) bar d tr a else -1) ∧ h' = h) := by
  refine CT.of (lv := [_, _, _, _, _, _, _, _, _]) (by decide +kernel) (Nat.le_of_ble_eq_true rfl) rfl ?_
  refine E_aload_n (pc := 0) 0 dX8_odds_0 rfl rfl ?_
  refine E_iload_n (pc := 1) 1 dX8_odds_1 rfl rfl ?_
  refine E_callV1 (pc := 2) dX8_odds_2 C_X8_isWay rfl kv_RX8_139 rfl rfl rfl ⟨Nat.le_of_ble_eq_true rfl, Nat.le_of_ble_eq_true rfl, Nat.le_of_ble_eq_true rfl, Nat.le_of_ble_eq_true rfl⟩ (Nat.le_of_ble_eq_true rfl) ?_
  refine E_if_eq (pc := 5) 55 dX8_odds_5 rfl (fun q5 => ?_) (fun q5 => ?_)
  · have hg : ¬ okOddM h w bar d tr a := fun z => bi_0.mp q5 z.1
    refine E_iconst (pc := 55) (-1) dX8_odds_55 (by decide) ?_
    refine E_iret (pc := 56) dX8_odds_56 rfl ?_
    exact ⟨congrArg some (if_neg hg).symm, rfl⟩
  · refine E_iload_n (pc := 8) 2 dX8_odds_8 rfl rfl ?_
    refine E_i2l (pc := 9) dX8_odds_9 ?_
    refine E_lconst (pc := 10) (0) dX8_odds_10 (by decide) ?_
    refine E_ldc2 (pc := 11) (999) dX8_odds_11 kk_RX8_238 ?_
    refine E_callS1 (pc := 14) dX8_odds_14 (C_X8_in (a := 0) (b := 999) (by decide) (by decide)) rfl ks_RX8_71 rfl ⟨Nat.le_of_ble_eq_true rfl, Nat.le_of_ble_eq_true rfl, Nat.le_of_ble_eq_true rfl, Nat.le_of_ble_eq_true rfl⟩ (Nat.le_of_ble_eq_true rfl) ?_
    refine E_if_eq (pc := 17) 55 dX8_odds_17 rfl (fun q17 => ?_) (fun q17 => ?_)
    · have hg : ¬ okOddM h w bar d tr a := fun z => bi_0.mp q17 z.2.1
      refine E_iconst (pc := 55) (-1) dX8_odds_55 (by decide) ?_
      refine E_iret (pc := 56) dX8_odds_56 rfl ?_
      exact ⟨congrArg some (if_neg hg).symm, rfl⟩
    · refine E_iload_n (pc := 20) 3 dX8_odds_20 rfl rfl ?_
      refine E_i2l (pc := 21) dX8_odds_21 ?_
      refine E_lconst (pc := 22) (0) dX8_odds_22 (by decide) ?_
      refine E_ldc2 (pc := 23) (20) dX8_odds_23 kk_RX8_236 ?_
      refine E_callS1 (pc := 26) dX8_odds_26 (C_X8_in (a := 0) (b := 20) (by decide) (by decide)) rfl ks_RX8_71 rfl ⟨Nat.le_of_ble_eq_true rfl, Nat.le_of_ble_eq_true rfl, Nat.le_of_ble_eq_true rfl, Nat.le_of_ble_eq_true rfl⟩ (Nat.le_of_ble_eq_true rfl) ?_
      refine E_if_eq (pc := 29) 55 dX8_odds_29 rfl (fun q29 => ?_) (fun q29 => ?_)
      · have hg : ¬ okOddM h w bar d tr a := fun z => bi_0.mp q29 z.2.2.1
        refine E_iconst (pc := 55) (-1) dX8_odds_55 (by decide) ?_
        refine E_iret (pc := 56) dX8_odds_56 rfl ?_
        exact ⟨congrArg some (if_neg hg).symm, rfl⟩
      · refine E_iload (pc := 32) 4 dX8_odds_32 rfl ?_
        refine E_iconst (pc := 34) (1) dX8_odds_34 (by decide) ?_
        refine E_icmp_eq (pc := 35) 44 dX8_odds_35 rfl (fun q35 => ?_) (fun q35 => ?_)
        · have htr : tr = 1 ∨ tr = 3 := Or.inl q35
          refine E_iload (pc := 44) 5 dX8_odds_44 rfl ?_
          refine E_i2l (pc := 46) dX8_odds_46 ?_
          refine E_lconst (pc := 47) (0) dX8_odds_47 (by decide) ?_
          refine E_lconst (pc := 48) (1) dX8_odds_48 (by decide) ?_
          refine E_callS1 (pc := 49) dX8_odds_49 (C_X8_in (a := 0) (b := 1) (by decide) (by decide)) rfl ks_RX8_71 rfl ⟨Nat.le_of_ble_eq_true rfl, Nat.le_of_ble_eq_true rfl, Nat.le_of_ble_eq_true rfl, Nat.le_of_ble_eq_true rfl⟩ (Nat.le_of_ble_eq_true rfl) ?_
          refine E_if_ne (pc := 52) 57 dX8_odds_52 rfl (fun q52 => ?_) (fun q52 => ?_)
          · have hok : okOddM h w bar d tr a := ⟨Decidable.of_not_not (fun z => q5 (bi_0.mpr z)), Decidable.of_not_not (fun z => q17 (bi_0.mpr z)), Decidable.of_not_not (fun z => q29 (bi_0.mpr z)), htr, Decidable.of_not_not (fun z => q52 (bi_0.mpr z))⟩
            clear q5 q17 q29 q52
            try clear q41
            clear q35
            obtain ⟨k, T, hk, ew, hT1, hT8, hT, e1, e2⟩ := isM_nat hI hok.1
            obtain ⟨B, hB, eB⟩ := natof (x := bar) 999 (by decide) hok.2.1.1 hok.2.1.2
            obtain ⟨D, hD, eD⟩ := natof (x := d) 20 (by decide) hok.2.2.1.1 hok.2.2.1.2
            rw [if_pos hok, e2, e1]
            clear hok e1 e2
            subst ew
            subst eB
            subst eD
            refine E_aload_n (pc := 57) 0 dX8_odds_57 rfl rfl ?_
            refine E_iload_n (pc := 58) 1 dX8_odds_58 rfl rfl ?_
            refine E_callV1 (pc := 59) dX8_odds_59 (C_X8_highOf hI.1 (hI.2.1 k (by omega)) hk hT hT1 hT8) rfl kv_RX8_187 rfl rfl rfl ⟨Nat.le_of_ble_eq_true rfl, Nat.le_of_ble_eq_true rfl, Nat.le_of_ble_eq_true rfl, Nat.le_of_ble_eq_true rfl⟩ (Nat.le_of_ble_eq_true rfl) ?_
            refine E_istore (pc := 62) 6 dX8_odds_62 (Nat.le_of_ble_eq_true rfl) rfl (lz := [_, _, _, _, _, _, _, _, _]) rfl ?_
            refine E_iload (pc := 64) 6 dX8_odds_64 rfl ?_
            refine E_bipush (pc := 66) (-4) dX8_odds_66 (by decide) ?_
            refine E_icmp_ne (pc := 68) 74 dX8_odds_68 rfl (fun q68 => ?_) (fun q68 => ?_)
            · obtain ⟨H, hH, eH⟩ := sHigh_nat q68
              rw [eH]
              have h1 : gdN H B D ≤ D + 1 := Nat.min_le_left _ _
              refine E_iload (pc := 74) 6 dX8_odds_74 rfl ?_
              refine E_iload_n (pc := 76) 2 dX8_odds_76 rfl rfl ?_
              refine E_iload_n (pc := 77) 3 dX8_odds_77 rfl rfl ?_
              refine E_callS1 (pc := 78) dX8_odds_78 (C_X8_failing hH hB hD) rfl ks_RX8_266 rfl ⟨Nat.le_of_ble_eq_true rfl, Nat.le_of_ble_eq_true rfl, Nat.le_of_ble_eq_true rfl, Nat.le_of_ble_eq_true rfl⟩ (Nat.le_of_ble_eq_true rfl) ?_
              refine E_istore (pc := 81) 7 dX8_odds_81 (Nat.le_of_ble_eq_true rfl) rfl (lz := [_, _, _, _, _, _, _, _, _]) rfl ?_
              refine E_iload_n (pc := 83) 3 dX8_odds_83 rfl rfl ?_
              refine E_iconst (pc := 84) (1) dX8_odds_84 (by decide) ?_
              refine E_iadd (pc := 85) dX8_odds_85 ?_
              refine E_top (y := nI (D + 1)) (nI_succ D).symm ?_
              refine E_istore (pc := 86) 8 dX8_odds_86 (Nat.le_of_ble_eq_true rfl) rfl (lz := [_, _, _, _, _, _, _, _, _]) rfl ?_
              refine E_iload (pc := 88) 4 dX8_odds_88 rfl ?_
              refine E_iconst (pc := 90) (1) dX8_odds_90 (by decide) ?_
              refine E_icmp_ne (pc := 91) 109 dX8_odds_91 rfl (fun q91 => ?_) (fun q91 => ?_)
              · rw [htr.resolve_left q91, odA_3 hH hB hD]
                have h2 := cub21 (n := D + 1) (by omega)
                have h3 : cub 1 ≤ cub (D + 1) := cub_le (by omega)
                have h4 : cub 1 = 1 := by decide
                refine E_iload (pc := 109) 8 dX8_odds_109 rfl ?_
                refine E_iload (pc := 111) 8 dX8_odds_111 rfl ?_
                refine E_imul (pc := 113) dX8_odds_113 ?_
                refine E_iload (pc := 114) 8 dX8_odds_114 rfl ?_
                refine E_imul (pc := 116) dX8_odds_116 ?_
                refine E_iload (pc := 117) 7 dX8_odds_117 rfl ?_
                refine E_iload (pc := 119) 7 dX8_odds_119 rfl ?_
                refine E_imul (pc := 121) dX8_odds_121 ?_
                refine E_iload (pc := 122) 7 dX8_odds_122 rfl ?_
                refine E_imul (pc := 124) dX8_odds_124 ?_
                refine E_isub (pc := 125) dX8_odds_125 ?_
                refine E_top (y := nI (cub (D + 1) - cub (D + 1 - gdN H B D))) (by rw [cub_nI, cub_nI, pk_sub (cub_le (Nat.sub_le _ _))]; rfl) ?_
                refine E_iload (pc := 126) 8 dX8_odds_126 rfl ?_
                refine E_iload (pc := 128) 8 dX8_odds_128 rfl ?_
                refine E_imul (pc := 130) dX8_odds_130 ?_
                refine E_iload (pc := 131) 8 dX8_odds_131 rfl ?_
                refine E_imul (pc := 133) dX8_odds_133 ?_
                refine E_top (cub_nI (D + 1)) ?_
                refine E_iload (pc := 134) 5 dX8_odds_134 rfl ?_
                refine E_callS1 (pc := 136) dX8_odds_136 (C_X8_inLowest (by omega) (by omega) (by omega)) rfl ks_RX8_270 rfl ⟨Nat.le_of_ble_eq_true rfl, Nat.le_of_ble_eq_true rfl, Nat.le_of_ble_eq_true rfl, Nat.le_of_ble_eq_true rfl⟩ (Nat.le_of_ble_eq_true rfl) ?_
                refine E_iret (pc := 139) dX8_odds_139 rfl ?_
                exact ⟨rfl, rfl⟩
              · rw [q91, odA_1 hH hB hD]
                refine E_iload (pc := 94) 8 dX8_odds_94 rfl ?_
                refine E_iload (pc := 96) 7 dX8_odds_96 rfl ?_
                refine E_isub (pc := 98) dX8_odds_98 ?_
                refine E_top (y := nI (gdN H B D)) (by rw [pk_sub (by omega)]; congr 1; unfold gdN; omega) ?_
                refine E_iload (pc := 99) 8 dX8_odds_99 rfl ?_
                refine E_iload (pc := 101) 5 dX8_odds_101 rfl ?_
                refine E_callS1 (pc := 103) dX8_odds_103 (C_X8_inLowest (by omega) (by omega) (by omega)) rfl ks_RX8_270 rfl ⟨Nat.le_of_ble_eq_true rfl, Nat.le_of_ble_eq_true rfl, Nat.le_of_ble_eq_true rfl, Nat.le_of_ble_eq_true rfl⟩ (Nat.le_of_ble_eq_true rfl) ?_
                refine E_goto (pc := 106) 139 dX8_odds_106 rfl ?_
                refine E_iret (pc := 139) dX8_odds_139 rfl ?_
                exact ⟨rfl, rfl⟩
            · refine E_bipush (pc := 71) (-2) dX8_odds_71 (by decide) ?_
              refine E_iret (pc := 73) dX8_odds_73 rfl ?_
              exact ⟨congrArg some (if_pos q68).symm, rfl⟩
          · have hg : ¬ okOddM h w bar d tr a := fun z => bi_0.mp q52 z.2.2.2.2
            refine E_iconst (pc := 55) (-1) dX8_odds_55 (by decide) ?_
            refine E_iret (pc := 56) dX8_odds_56 rfl ?_
            exact ⟨congrArg some (if_neg hg).symm, rfl⟩
        · refine E_iload (pc := 38) 4 dX8_odds_38 rfl ?_
          refine E_iconst (pc := 40) (3) dX8_odds_40 (by decide) ?_
          refine E_icmp_ne (pc := 41) 55 dX8_odds_41 rfl (fun q41 => ?_) (fun q41 => ?_)
          · have hg : ¬ okOddM h w bar d tr a := fun z => z.2.2.2.1.elim q35 q41
            refine E_iconst (pc := 55) (-1) dX8_odds_55 (by decide) ?_
            refine E_iret (pc := 56) dX8_odds_56 rfl ?_
            exact ⟨congrArg some (if_neg hg).symm, rfl⟩
          · have htr : tr = 1 ∨ tr = 3 := Or.inr q41
            refine E_iload (pc := 44) 5 dX8_odds_44 rfl ?_
            refine E_i2l (pc := 46) dX8_odds_46 ?_
            refine E_lconst (pc := 47) (0) dX8_odds_47 (by decide) ?_
            refine E_lconst (pc := 48) (1) dX8_odds_48 (by decide) ?_
            refine E_callS1 (pc := 49) dX8_odds_49 (C_X8_in (a := 0) (b := 1) (by decide) (by decide)) rfl ks_RX8_71 rfl ⟨Nat.le_of_ble_eq_true rfl, Nat.le_of_ble_eq_true rfl, Nat.le_of_ble_eq_true rfl, Nat.le_of_ble_eq_true rfl⟩ (Nat.le_of_ble_eq_true rfl) ?_
            refine E_if_ne (pc := 52) 57 dX8_odds_52 rfl (fun q52 => ?_) (fun q52 => ?_)
            · have hok : okOddM h w bar d tr a := ⟨Decidable.of_not_not (fun z => q5 (bi_0.mpr z)), Decidable.of_not_not (fun z => q17 (bi_0.mpr z)), Decidable.of_not_not (fun z => q29 (bi_0.mpr z)), htr, Decidable.of_not_not (fun z => q52 (bi_0.mpr z))⟩
              clear q5 q17 q29 q52
              try clear q41
              clear q35
              obtain ⟨k, T, hk, ew, hT1, hT8, hT, e1, e2⟩ := isM_nat hI hok.1
              obtain ⟨B, hB, eB⟩ := natof (x := bar) 999 (by decide) hok.2.1.1 hok.2.1.2
              obtain ⟨D, hD, eD⟩ := natof (x := d) 20 (by decide) hok.2.2.1.1 hok.2.2.1.2
              rw [if_pos hok, e2, e1]
              clear hok e1 e2
              subst ew
              subst eB
              subst eD
              refine E_aload_n (pc := 57) 0 dX8_odds_57 rfl rfl ?_
              refine E_iload_n (pc := 58) 1 dX8_odds_58 rfl rfl ?_
              refine E_callV1 (pc := 59) dX8_odds_59 (C_X8_highOf hI.1 (hI.2.1 k (by omega)) hk hT hT1 hT8) rfl kv_RX8_187 rfl rfl rfl ⟨Nat.le_of_ble_eq_true rfl, Nat.le_of_ble_eq_true rfl, Nat.le_of_ble_eq_true rfl, Nat.le_of_ble_eq_true rfl⟩ (Nat.le_of_ble_eq_true rfl) ?_
              refine E_istore (pc := 62) 6 dX8_odds_62 (Nat.le_of_ble_eq_true rfl) rfl (lz := [_, _, _, _, _, _, _, _, _]) rfl ?_
              refine E_iload (pc := 64) 6 dX8_odds_64 rfl ?_
              refine E_bipush (pc := 66) (-4) dX8_odds_66 (by decide) ?_
              refine E_icmp_ne (pc := 68) 74 dX8_odds_68 rfl (fun q68 => ?_) (fun q68 => ?_)
              · obtain ⟨H, hH, eH⟩ := sHigh_nat q68
                rw [eH]
                have h1 : gdN H B D ≤ D + 1 := Nat.min_le_left _ _
                refine E_iload (pc := 74) 6 dX8_odds_74 rfl ?_
                refine E_iload_n (pc := 76) 2 dX8_odds_76 rfl rfl ?_
                refine E_iload_n (pc := 77) 3 dX8_odds_77 rfl rfl ?_
                refine E_callS1 (pc := 78) dX8_odds_78 (C_X8_failing hH hB hD) rfl ks_RX8_266 rfl ⟨Nat.le_of_ble_eq_true rfl, Nat.le_of_ble_eq_true rfl, Nat.le_of_ble_eq_true rfl, Nat.le_of_ble_eq_true rfl⟩ (Nat.le_of_ble_eq_true rfl) ?_
                refine E_istore (pc := 81) 7 dX8_odds_81 (Nat.le_of_ble_eq_true rfl) rfl (lz := [_, _, _, _, _, _, _, _, _]) rfl ?_
                refine E_iload_n (pc := 83) 3 dX8_odds_83 rfl rfl ?_
                refine E_iconst (pc := 84) (1) dX8_odds_84 (by decide) ?_
                refine E_iadd (pc := 85) dX8_odds_85 ?_
                refine E_top (y := nI (D + 1)) (nI_succ D).symm ?_
                refine E_istore (pc := 86) 8 dX8_odds_86 (Nat.le_of_ble_eq_true rfl) rfl (lz := [_, _, _, _, _, _, _, _, _]) rfl ?_
                refine E_iload (pc := 88) 4 dX8_odds_88 rfl ?_
                refine E_iconst (pc := 90) (1) dX8_odds_90 (by decide) ?_
                refine E_icmp_ne (pc := 91) 109 dX8_odds_91 rfl (fun q91 => ?_) (fun q91 => ?_)
                · rw [htr.resolve_left q91, odA_3 hH hB hD]
                  have h2 := cub21 (n := D + 1) (by omega)
                  have h3 : cub 1 ≤ cub (D + 1) := cub_le (by omega)
                  have h4 : cub 1 = 1 := by decide
                  refine E_iload (pc := 109) 8 dX8_odds_109 rfl ?_
                  refine E_iload (pc := 111) 8 dX8_odds_111 rfl ?_
                  refine E_imul (pc := 113) dX8_odds_113 ?_
                  refine E_iload (pc := 114) 8 dX8_odds_114 rfl ?_
                  refine E_imul (pc := 116) dX8_odds_116 ?_
                  refine E_iload (pc := 117) 7 dX8_odds_117 rfl ?_
                  refine E_iload (pc := 119) 7 dX8_odds_119 rfl ?_
                  refine E_imul (pc := 121) dX8_odds_121 ?_
                  refine E_iload (pc := 122) 7 dX8_odds_122 rfl ?_
                  refine E_imul (pc := 124) dX8_odds_124 ?_
                  refine E_isub (pc := 125) dX8_odds_125 ?_
                  refine E_top (y := nI (cub (D + 1) - cub (D + 1 - gdN H B D))) (by rw [cub_nI, cub_nI, pk_sub (cub_le (Nat.sub_le _ _))]; rfl) ?_
                  refine E_iload (pc := 126) 8 dX8_odds_126 rfl ?_
                  refine E_iload (pc := 128) 8 dX8_odds_128 rfl ?_
                  refine E_imul (pc := 130) dX8_odds_130 ?_
                  refine E_iload (pc := 131) 8 dX8_odds_131 rfl ?_
                  refine E_imul (pc := 133) dX8_odds_133 ?_
                  refine E_top (cub_nI (D + 1)) ?_
                  refine E_iload (pc := 134) 5 dX8_odds_134 rfl ?_
                  refine E_callS1 (pc := 136) dX8_odds_136 (C_X8_inLowest (by omega) (by omega) (by omega)) rfl ks_RX8_270 rfl ⟨Nat.le_of_ble_eq_true rfl, Nat.le_of_ble_eq_true rfl, Nat.le_of_ble_eq_true rfl, Nat.le_of_ble_eq_true rfl⟩ (Nat.le_of_ble_eq_true rfl) ?_
                  refine E_iret (pc := 139) dX8_odds_139 rfl ?_
                  exact ⟨rfl, rfl⟩
                · rw [q91, odA_1 hH hB hD]
                  refine E_iload (pc := 94) 8 dX8_odds_94 rfl ?_
                  refine E_iload (pc := 96) 7 dX8_odds_96 rfl ?_
                  refine E_isub (pc := 98) dX8_odds_98 ?_
                  refine E_top (y := nI (gdN H B D)) (by rw [pk_sub (by omega)]; congr 1; unfold gdN; omega) ?_
                  refine E_iload (pc := 99) 8 dX8_odds_99 rfl ?_
                  refine E_iload (pc := 101) 5 dX8_odds_101 rfl ?_
                  refine E_callS1 (pc := 103) dX8_odds_103 (C_X8_inLowest (by omega) (by omega) (by omega)) rfl ks_RX8_270 rfl ⟨Nat.le_of_ble_eq_true rfl, Nat.le_of_ble_eq_true rfl, Nat.le_of_ble_eq_true rfl, Nat.le_of_ble_eq_true rfl⟩ (Nat.le_of_ble_eq_true rfl) ?_
                  refine E_goto (pc := 106) 139 dX8_odds_106 rfl ?_
                  refine E_iret (pc := 139) dX8_odds_139 rfl ?_
                  exact ⟨rfl, rfl⟩
              · refine E_bipush (pc := 71) (-2) dX8_odds_71 (by decide) ?_
                refine E_iret (pc := 73) dX8_odds_73 rfl ?_
                exact ⟨congrArg some (if_pos q68).symm, rfl⟩
            · have hg : ¬ okOddM h w bar d tr a := fun z => bi_0.mp q52 z.2.2.2.2
              refine E_iconst (pc := 55) (-1) dX8_odds_55 (by decide) ?_
              refine E_iret (pc := 56) dX8_odds_56 rfl ?_
              exact ⟨congrArg some (if_neg hg).symm, rfl⟩
abbrev okAskM (h : Hp) (w d a b : Int32) : Prop := isM h w ∧ (0 ≤ d ∧ d ≤ 20) ∧ (1 ≤ a ∧ a ≤ 99) ∧ (1 ≤ b ∧ b ≤ 99) ∧ a < b
set_option maxHeartbeats 1600000 in
theorem C_X8_asks {l : Launch} {G : GE} {h : Hp} {w d a b : Int32} (hI : MK h) : CT l G mX8_asks [vR g_model 0, vI w, vI d, vI a, vI b] h (fun r h' => r = some (if okAskM h w d a b then (if sHigh (h g_m_holds 0) (mN h (ixN w)) (ixN (h g_m_tenths 0 (ixN w))) = -4 then -2 else asF (sHigh (h g_m_holds 0) (mN h (ixN w)) (ixN (h g_m_tenths 0 (ixN w)))) d a b 1000 0) else -1) ∧ h' = h) := by
  refine CT.of (lv := [_, _, _, _, _, _, _, _, _]) (by decide +kernel) (Nat.le_of_ble_eq_true rfl) rfl ?_
  refine E_aload_n (pc := 0) 0 dX8_asks_0 rfl rfl ?_
  refine E_iload_n (pc := 1) 1 dX8_asks_1 rfl rfl ?_
  refine E_callV1 (pc := 2) dX8_asks_2 C_X8_isWay rfl kv_RX8_139 rfl rfl rfl ⟨Nat.le_of_ble_eq_true rfl, Nat.le_of_ble_eq_true rfl, Nat.le_of_ble_eq_true rfl, Nat.le_of_ble_eq_true rfl⟩ (Nat.le_of_ble_eq_true rfl) ?_
  refine E_if_eq (pc := 5) 51 dX8_asks_5 rfl (fun q5 => ?_) (fun q5 => ?_)
  · have hg : ¬ okAskM h w d a b := fun z => bi_0.mp q5 z.1
    refine E_iconst (pc := 51) (-1) dX8_asks_51 (by decide) ?_
    refine E_iret (pc := 52) dX8_asks_52 rfl ?_
    exact ⟨congrArg some (if_neg hg).symm, rfl⟩
  · refine E_iload_n (pc := 8) 2 dX8_asks_8 rfl rfl ?_
    refine E_i2l (pc := 9) dX8_asks_9 ?_
    refine E_lconst (pc := 10) (0) dX8_asks_10 (by decide) ?_
    refine E_ldc2 (pc := 11) (20) dX8_asks_11 kk_RX8_236 ?_
    refine E_callS1 (pc := 14) dX8_asks_14 (C_X8_in (a := 0) (b := 20) (by decide) (by decide)) rfl ks_RX8_71 rfl ⟨Nat.le_of_ble_eq_true rfl, Nat.le_of_ble_eq_true rfl, Nat.le_of_ble_eq_true rfl, Nat.le_of_ble_eq_true rfl⟩ (Nat.le_of_ble_eq_true rfl) ?_
    refine E_if_eq (pc := 17) 51 dX8_asks_17 rfl (fun q17 => ?_) (fun q17 => ?_)
    · have hg : ¬ okAskM h w d a b := fun z => bi_0.mp q17 z.2.1
      refine E_iconst (pc := 51) (-1) dX8_asks_51 (by decide) ?_
      refine E_iret (pc := 52) dX8_asks_52 rfl ?_
      exact ⟨congrArg some (if_neg hg).symm, rfl⟩
    · refine E_iload_n (pc := 20) 3 dX8_asks_20 rfl rfl ?_
      refine E_i2l (pc := 21) dX8_asks_21 ?_
      refine E_lconst (pc := 22) (1) dX8_asks_22 (by decide) ?_
      refine E_ldc2 (pc := 23) (99) dX8_asks_23 kk_RX8_240 ?_
      refine E_callS1 (pc := 26) dX8_asks_26 (C_X8_in (a := 1) (b := 99) (by decide) (by decide)) rfl ks_RX8_71 rfl ⟨Nat.le_of_ble_eq_true rfl, Nat.le_of_ble_eq_true rfl, Nat.le_of_ble_eq_true rfl, Nat.le_of_ble_eq_true rfl⟩ (Nat.le_of_ble_eq_true rfl) ?_
      refine E_if_eq (pc := 29) 51 dX8_asks_29 rfl (fun q29 => ?_) (fun q29 => ?_)
      · have hg : ¬ okAskM h w d a b := fun z => bi_0.mp q29 z.2.2.1
        refine E_iconst (pc := 51) (-1) dX8_asks_51 (by decide) ?_
        refine E_iret (pc := 52) dX8_asks_52 rfl ?_
        exact ⟨congrArg some (if_neg hg).symm, rfl⟩
      · refine E_iload (pc := 32) 4 dX8_asks_32 rfl ?_
        refine E_i2l (pc := 34) dX8_asks_34 ?_
        refine E_lconst (pc := 35) (1) dX8_asks_35 (by decide) ?_
        refine E_ldc2 (pc := 36) (99) dX8_asks_36 kk_RX8_240 ?_
        refine E_callS1 (pc := 39) dX8_asks_39 (C_X8_in (a := 1) (b := 99) (by decide) (by decide)) rfl ks_RX8_71 rfl ⟨Nat.le_of_ble_eq_true rfl, Nat.le_of_ble_eq_true rfl, Nat.le_of_ble_eq_true rfl, Nat.le_of_ble_eq_true rfl⟩ (Nat.le_of_ble_eq_true rfl) ?_
        refine E_if_eq (pc := 42) 51 dX8_asks_42 rfl (fun q42 => ?_) (fun q42 => ?_)
        · have hg : ¬ okAskM h w d a b := fun z => bi_0.mp q42 z.2.2.2.1
          refine E_iconst (pc := 51) (-1) dX8_asks_51 (by decide) ?_
          refine E_iret (pc := 52) dX8_asks_52 rfl ?_
          exact ⟨congrArg some (if_neg hg).symm, rfl⟩
        · refine E_iload_n (pc := 45) 3 dX8_asks_45 rfl rfl ?_
          refine E_iload (pc := 46) 4 dX8_asks_46 rfl ?_
          refine E_icmp_lt (pc := 48) 53 dX8_asks_48 rfl (fun q48 => ?_) (fun q48 => ?_)
          · have hok : okAskM h w d a b := ⟨Decidable.of_not_not (fun z => q5 (bi_0.mpr z)), Decidable.of_not_not (fun z => q17 (bi_0.mpr z)), Decidable.of_not_not (fun z => q29 (bi_0.mpr z)), Decidable.of_not_not (fun z => q42 (bi_0.mpr z)), q48⟩
            obtain ⟨k, T, hk, ew, hT1, hT8, hT, e1, e2⟩ := isM_nat hI hok.1
            obtain ⟨D, hD, eD⟩ := natof (x := d) 20 (by decide) hok.2.1.1 hok.2.1.2
            rw [if_pos hok, e2, e1]
            clear hok e1 e2 q5 q17
            subst ew
            subst eD
            refine E_aload_n (pc := 53) 0 dX8_asks_53 rfl rfl ?_
            refine E_iload_n (pc := 54) 1 dX8_asks_54 rfl rfl ?_
            refine E_callV1 (pc := 55) dX8_asks_55 (C_X8_highOf hI.1 (hI.2.1 k (by omega)) hk hT hT1 hT8) rfl kv_RX8_187 rfl rfl rfl ⟨Nat.le_of_ble_eq_true rfl, Nat.le_of_ble_eq_true rfl, Nat.le_of_ble_eq_true rfl, Nat.le_of_ble_eq_true rfl⟩ (Nat.le_of_ble_eq_true rfl) ?_
            refine E_istore (pc := 58) 5 dX8_asks_58 (Nat.le_of_ble_eq_true rfl) rfl (lz := [_, _, _, _, _, _, _, _, _]) rfl ?_
            refine E_iload (pc := 60) 5 dX8_asks_60 rfl ?_
            refine E_bipush (pc := 62) (-4) dX8_asks_62 (by decide) ?_
            refine E_icmp_ne (pc := 64) 70 dX8_asks_64 rfl (fun q64 => ?_) (fun q64 => ?_)
            · rw [if_neg q64]
              obtain ⟨H, hH, eH⟩ := sHigh_nat q64
              rw [eH]
              refine E_iload_n (pc := 70) 2 dX8_asks_70 rfl rfl ?_
              refine E_iconst (pc := 71) (1) dX8_asks_71 (by decide) ?_
              refine E_iadd (pc := 72) dX8_asks_72 ?_
              refine E_iload_n (pc := 73) 2 dX8_asks_73 rfl rfl ?_
              refine E_iconst (pc := 74) (1) dX8_asks_74 (by decide) ?_
              refine E_iadd (pc := 75) dX8_asks_75 ?_
              refine E_imul (pc := 76) dX8_asks_76 ?_
              refine E_iload_n (pc := 77) 2 dX8_asks_77 rfl rfl ?_
              refine E_iconst (pc := 78) (1) dX8_asks_78 (by decide) ?_
              refine E_iadd (pc := 79) dX8_asks_79 ?_
              refine E_imul (pc := 80) dX8_asks_80 ?_
              refine E_top (y := nI (cub (D + 1))) (by rw [← nI_succ, cub_nI]) ?_
              refine E_istore (pc := 81) 6 dX8_asks_81 (Nat.le_of_ble_eq_true rfl) rfl (lz := [_, _, _, _, _, _, _, _, _]) rfl ?_
              refine E_sipush (pc := 83) (999) dX8_asks_83 (by decide) ?_
              refine E_istore (pc := 86) 7 dX8_asks_86 (Nat.le_of_ble_eq_true rfl) rfl (lz := [_, _, _, _, _, _, _, _, _]) rfl ?_
              refine down (P := fun i => asF (nI H) (nI D) a b (1000 - i) i = asF (nI H) (nI D) a b 1000 0 → Ev l G mX8_asks _ 88 [some (vR g_model 0), some (vI (nI k)), some (vI (nI D)), some (vI a), some (vI b), some (vI (nI H)), some (vI (nI (cub (D + 1)))), some (vI (999 - nI i)), none] [] h) 1000 ?_ ?_ 0 (Nat.zero_le _) rfl
              · intro hx
                refine E_iload (pc := 88) 7 dX8_asks_88 rfl ?_
                refine E_if_lt (pc := 90) 133 dX8_asks_90 rfl (fun q90 => ?_) (fun q90 => absurd (show (999 : Int32) - nI 1000 < 0 by decide) q90)
                refine E_bipush (pc := 133) (-4) dX8_asks_133 (by decide) ?_
                refine E_iret (pc := 135) dX8_asks_135 rfl ?_
                exact ⟨by rw [← hx]; rfl, rfl⟩
              · intro i hi hn hx
                rw [show 1000 - i = (1000 - (i + 1)) + 1 by omega] at hx
                have e9 : 999 - nI i = nI (999 - i) := by rw [show (999 : Int32) = nI 999 from rfl, pk_sub (by omega)]
                have hs : asF (nI H) (nI D) a b (1000 - (i + 1) + 1) i = if a * ((nI D + 1) * (nI D + 1) * (nI D + 1)) ≤ b * g3 (nI H) (nI (999 - i)) (nI D) then nI (999 - i) else asF (nI H) (nI D) a b (1000 - (i + 1)) (i + 1) := rfl
                rw [hs, g3_eq hH (by omega) hD, ← nI_succ, cub_nI] at hx
                have h1 : gdN H (999 - i) D ≤ D + 1 := Nat.min_le_left _ _
                refine E_eq (lv' := [some (vR g_model 0), some (vI (nI k)), some (vI (nI D)), some (vI a), some (vI b), some (vI (nI H)), some (vI (nI (cub (D + 1)))), some (vI (nI (999 - i))), none]) (by rw [e9]) rfl rfl ?_
                refine E_iload (pc := 88) 7 dX8_asks_88 rfl ?_
                refine E_if_lt (pc := 90) 133 dX8_asks_90 rfl (fun q90 => absurd q90 (nI_pos (by omega))) (fun q90 => ?_)
                refine E_iload (pc := 93) 5 dX8_asks_93 rfl ?_
                refine E_iload (pc := 95) 7 dX8_asks_95 rfl ?_
                refine E_iload_n (pc := 97) 2 dX8_asks_97 rfl rfl ?_
                refine E_callS1 (pc := 98) dX8_asks_98 (C_X8_failing hH (by omega) hD) rfl ks_RX8_266 rfl ⟨Nat.le_of_ble_eq_true rfl, Nat.le_of_ble_eq_true rfl, Nat.le_of_ble_eq_true rfl, Nat.le_of_ble_eq_true rfl⟩ (Nat.le_of_ble_eq_true rfl) ?_
                refine E_istore (pc := 101) 8 dX8_asks_101 (Nat.le_of_ble_eq_true rfl) rfl (lz := [_, _, _, _, _, _, _, _, _]) rfl ?_
                refine E_iload (pc := 103) 6 dX8_asks_103 rfl ?_
                refine E_iload (pc := 105) 8 dX8_asks_105 rfl ?_
                refine E_iload (pc := 107) 8 dX8_asks_107 rfl ?_
                refine E_imul (pc := 109) dX8_asks_109 ?_
                refine E_iload (pc := 110) 8 dX8_asks_110 rfl ?_
                refine E_imul (pc := 112) dX8_asks_112 ?_
                refine E_isub (pc := 113) dX8_asks_113 ?_
                refine E_iload (pc := 114) 4 dX8_asks_114 rfl ?_
                refine E_eq (st' := [vI b, vI (nI (cub (D + 1) - cub (D + 1 - gdN H (999 - i) D)))]) rfl (by rw [cub_nI, pk_sub (cub_le (Nat.sub_le _ _))]; rfl) rfl ?_
                refine E_imul (pc := 116) dX8_asks_116 ?_
                refine E_iload_n (pc := 117) 3 dX8_asks_117 rfl rfl ?_
                refine E_iload (pc := 118) 6 dX8_asks_118 rfl ?_
                refine E_imul (pc := 120) dX8_asks_120 ?_
                refine E_icmp_lt (pc := 121) 127 dX8_asks_121 rfl (fun q121 => ?_) (fun q121 => ?_)
                · rw [if_neg (by rw [Int32.mul_comm b]; exact Int32.not_le.mpr q121)] at hx
                  refine E_iinc (pc := 127) 7 (-1) dX8_asks_127 (Nat.le_of_ble_eq_true rfl) rfl rfl (by decide) (lz := [_, _, _, _, _, _, _, _, _]) rfl ?_
                  refine E_goto (pc := 130) 88 dX8_asks_130 rfl ?_
                  have e10 : nI (999 - i) + -1 = 999 - nI (i + 1) := by rw [← e9, nI_succ]; grind
                  refine E_drop 8 (E_eq (lv' := [some (vR g_model 0), some (vI (nI k)), some (vI (nI D)), some (vI a), some (vI b), some (vI (nI H)), some (vI (nI (cub (D + 1)))), some (vI (999 - nI (i + 1))), none]) (by rw [← e10]; rfl) rfl rfl (hn hx))
                · refine E_iload (pc := 124) 7 dX8_asks_124 rfl ?_
                  refine E_iret (pc := 126) dX8_asks_126 rfl ?_
                  exact ⟨by rw [← hx, if_pos (by rw [Int32.mul_comm b]; exact Int32.not_lt.mp q121)], rfl⟩
            · refine E_bipush (pc := 67) (-2) dX8_asks_67 (by decide) ?_
              refine E_iret (pc := 69) dX8_asks_69 rfl ?_
              exact ⟨congrArg some (if_pos q64).symm, rfl⟩
          · have hg : ¬ okAskM h w d a b := fun z => q48 z.2.2.2.2
            refine E_iconst (pc := 51) (-1) dX8_asks_51 (by decide) ?_
            refine E_iret (pc := 52) dX8_asks_52 rfl ?_
            exact ⟨congrArg some (if_neg hg).symm, rfl⟩
