/-! the model: film, its loop -/
theorem rd_iff {Z c : Nat} {f : Int32} (hZ : Z ≤ 64) : rdOk Z c f ↔ ∃ F, f = nI F ∧ F + 8 * (c + 1) ≤ Z := by
  constructor
  · rintro ⟨h1, h2⟩
    obtain ⟨F, hF, rfl⟩ := zsub h1 hZ
    rw [ixN_nI (by omega)] at h2
    exact ⟨F, rfl, h2⟩
  · rintro ⟨F, rfl, hF⟩
    refine ⟨⟨nI_pos' (by omega), ?_⟩, by rw [ixN_nI (by omega)]; exact hF⟩
    rw [show (1 : Int32) = nI 1 from rfl, pk_sub (by omega)]
    exact nI_le (by omega) (by omega)
theorem film_x {Z i : Nat} {f : Int32} (hZ : Z ≤ 64) (hi : i < 64) (hh : i = 0 ∨ ∃ F, f = nI F ∧ F + i ≤ Z) : ∃ x : Int32, f.toInt64 + (nI i).toInt64 = x.toInt64 ∧ ((0 ≤ x ∧ x ≤ nI Z - 1) ↔ ∃ F, f = nI F ∧ F + (i + 1) ≤ Z) := by
  have bk : ∀ F, F + 1 ≤ Z → (0 : Int32) ≤ nI F ∧ nI F ≤ nI Z - 1 := fun F hF => ⟨nI_pos' (by omega), by rw [show (1 : Int32) = nI 1 from rfl, pk_sub (by omega)]; exact nI_le (by omega) (by omega)⟩
  rcases hh with rfl | ⟨F, rfl, hF⟩
  · refine ⟨f, l_add0 f, fun z => ?_, fun ⟨F, e, hF⟩ => ?_⟩
    · obtain ⟨F, hF, e⟩ := zsub z hZ
      exact ⟨F, e, by omega⟩
    · rw [e]; exact bk F (by omega)
  · refine ⟨nI (F + i), l_add (by omega), fun z => ?_, fun ⟨F', e, hF'⟩ => ?_⟩
    · obtain ⟨F', hF', e⟩ := zsub z hZ
      have := (nI_eq (by omega) (by omega)).mp e
      exact ⟨F, rfl, by omega⟩
    · have := (nI_eq (by omega) (by omega)).mp e
      exact bk _ (by omega)
abbrev gdM (g : Nat → Int32) (F c e : Nat) : Prop := ¬ ∃ j, j < e ∧ ¬ okN (g (F + 8 * c + j))
theorem gd_s {g : Nat → Int32} {F c e : Nat} (h : gdM g F c e) (h2 : okN (g (F + 8 * c + e))) : gdM g F c (e + 1) := fun ⟨j, hj, z⟩ => (Nat.lt_succ_iff_lt_or_eq.mp hj).elim (fun y => h ⟨j, y, z⟩) (fun y => z (y ▸ h2))
theorem gd_n {g : Nat → Int32} {F c e : Nat} (h : ¬ gdM g F c e) : ¬ gdM g F c (e + 1) := fun z => h (fun ⟨j, hj, y⟩ => z ⟨j, Nat.lt_succ_of_lt hj, y⟩)
theorem gd_x {g : Nat → Int32} {F c e : Nat} (h2 : ¬ okN (g (F + 8 * c + e))) : ¬ gdM g F c (e + 1) := fun z => z ⟨e, Nat.lt_succ_self e, h2⟩
set_option maxHeartbeats 4000000 in
theorem C_X8_film {l : Launch} {G : GE} {h : Hp} {w k lane f n on : Int32} {Z : Nat} (hZ : 0 ≤ k ∧ k ≤ 3 → h g_m_lengths 0 (ixN k) = nI Z) (hZ64 : Z ≤ 64) : CT l G mX8_film [vR g_model 0, vI w, vI k, vI lane, vI f, vI n, vI on] h (QFilmM h Z w k lane f n on) := by
  refine CT.of (lv := [_, _, _, _, _, _, _, _, _, _, _]) (by decide +kernel) (Nat.le_of_ble_eq_true rfl) rfl ?_
  refine E_iload_n (pc := 0) 1 dX8_film_0 rfl rfl ?_
  refine E_callS1 (pc := 1) dX8_film_1 C_X8_isNumber rfl ks_RX8_135 rfl ⟨Nat.le_of_ble_eq_true rfl, Nat.le_of_ble_eq_true rfl, Nat.le_of_ble_eq_true rfl, Nat.le_of_ble_eq_true rfl⟩ (Nat.le_of_ble_eq_true rfl) ?_
  refine E_if_eq (pc := 4) 59 dX8_film_4 rfl (fun q4 => ?_) (fun q4 => ?_)
  · refine E_iconst (pc := 59) (-1) dX8_film_59 (by decide) ?_
    refine E_iret (pc := 60) dX8_film_60 rfl ?_
    unfold QFilmM
    first | (rw [if_neg (fun z => bi_0.mp q4 z.1)]; exact ⟨rfl, rfl⟩) | (rw [if_neg (fun z => bi_0.mp q16 z.2.1)]; exact ⟨rfl, rfl⟩) | (rw [if_neg (fun z => bi_0.mp q28 z.2.2.1)]; exact ⟨rfl, rfl⟩) | (rw [if_neg (fun z => bi_0.mp q43 z.2.2.2.1)]; exact ⟨rfl, rfl⟩) | (rw [if_neg (fun z => bi_0.mp q56 z.2.2.2.2)]; exact ⟨rfl, rfl⟩)
  · refine E_iload_n (pc := 7) 2 dX8_film_7 rfl rfl ?_
    refine E_i2l (pc := 8) dX8_film_8 ?_
    refine E_lconst (pc := 9) (0) dX8_film_9 (by decide) ?_
    refine E_ldc2 (pc := 10) (3) dX8_film_10 kk_RX8_142 ?_
    refine E_callS1 (pc := 13) dX8_film_13 (C_X8_in (a := 0) (b := 3) (by decide) (by decide)) rfl ks_RX8_71 rfl ⟨Nat.le_of_ble_eq_true rfl, Nat.le_of_ble_eq_true rfl, Nat.le_of_ble_eq_true rfl, Nat.le_of_ble_eq_true rfl⟩ (Nat.le_of_ble_eq_true rfl) ?_
    refine E_if_eq (pc := 16) 59 dX8_film_16 rfl (fun q16 => ?_) (fun q16 => ?_)
    · refine E_iconst (pc := 59) (-1) dX8_film_59 (by decide) ?_
      refine E_iret (pc := 60) dX8_film_60 rfl ?_
      unfold QFilmM
      first | (rw [if_neg (fun z => bi_0.mp q4 z.1)]; exact ⟨rfl, rfl⟩) | (rw [if_neg (fun z => bi_0.mp q16 z.2.1)]; exact ⟨rfl, rfl⟩) | (rw [if_neg (fun z => bi_0.mp q28 z.2.2.1)]; exact ⟨rfl, rfl⟩) | (rw [if_neg (fun z => bi_0.mp q43 z.2.2.2.1)]; exact ⟨rfl, rfl⟩) | (rw [if_neg (fun z => bi_0.mp q56 z.2.2.2.2)]; exact ⟨rfl, rfl⟩)
    · refine E_iload_n (pc := 19) 3 dX8_film_19 rfl rfl ?_
      refine E_i2l (pc := 20) dX8_film_20 ?_
      refine E_lconst (pc := 21) (0) dX8_film_21 (by decide) ?_
      refine E_ldc2 (pc := 22) (2) dX8_film_22 kk_RX8_144 ?_
      refine E_callS1 (pc := 25) dX8_film_25 (C_X8_in (a := 0) (b := 2) (by decide) (by decide)) rfl ks_RX8_71 rfl ⟨Nat.le_of_ble_eq_true rfl, Nat.le_of_ble_eq_true rfl, Nat.le_of_ble_eq_true rfl, Nat.le_of_ble_eq_true rfl⟩ (Nat.le_of_ble_eq_true rfl) ?_
      refine E_if_eq (pc := 28) 59 dX8_film_28 rfl (fun q28 => ?_) (fun q28 => ?_)
      · refine E_iconst (pc := 59) (-1) dX8_film_59 (by decide) ?_
        refine E_iret (pc := 60) dX8_film_60 rfl ?_
        unfold QFilmM
        first | (rw [if_neg (fun z => bi_0.mp q4 z.1)]; exact ⟨rfl, rfl⟩) | (rw [if_neg (fun z => bi_0.mp q16 z.2.1)]; exact ⟨rfl, rfl⟩) | (rw [if_neg (fun z => bi_0.mp q28 z.2.2.1)]; exact ⟨rfl, rfl⟩) | (rw [if_neg (fun z => bi_0.mp q43 z.2.2.2.1)]; exact ⟨rfl, rfl⟩) | (rw [if_neg (fun z => bi_0.mp q56 z.2.2.2.2)]; exact ⟨rfl, rfl⟩)
      · refine E_iload (pc := 31) 5 dX8_film_31 rfl ?_
        refine E_i2l (pc := 33) dX8_film_33 ?_
        refine E_ldc2 (pc := 34) (2) dX8_film_34 kk_RX8_144 ?_
        refine E_ldc2 (pc := 37) (8) dX8_film_37 kk_RX8_146 ?_
        refine E_callS1 (pc := 40) dX8_film_40 (C_X8_in (a := 2) (b := 8) (by decide) (by decide)) rfl ks_RX8_71 rfl ⟨Nat.le_of_ble_eq_true rfl, Nat.le_of_ble_eq_true rfl, Nat.le_of_ble_eq_true rfl, Nat.le_of_ble_eq_true rfl⟩ (Nat.le_of_ble_eq_true rfl) ?_
        refine E_if_eq (pc := 43) 59 dX8_film_43 rfl (fun q43 => ?_) (fun q43 => ?_)
        · refine E_iconst (pc := 59) (-1) dX8_film_59 (by decide) ?_
          refine E_iret (pc := 60) dX8_film_60 rfl ?_
          unfold QFilmM
          first | (rw [if_neg (fun z => bi_0.mp q4 z.1)]; exact ⟨rfl, rfl⟩) | (rw [if_neg (fun z => bi_0.mp q16 z.2.1)]; exact ⟨rfl, rfl⟩) | (rw [if_neg (fun z => bi_0.mp q28 z.2.2.1)]; exact ⟨rfl, rfl⟩) | (rw [if_neg (fun z => bi_0.mp q43 z.2.2.2.1)]; exact ⟨rfl, rfl⟩) | (rw [if_neg (fun z => bi_0.mp q56 z.2.2.2.2)]; exact ⟨rfl, rfl⟩)
        · refine E_iload (pc := 46) 6 dX8_film_46 rfl ?_
          refine E_i2l (pc := 48) dX8_film_48 ?_
          refine E_lconst (pc := 49) (1) dX8_film_49 (by decide) ?_
          refine E_ldc2 (pc := 50) (2) dX8_film_50 kk_RX8_144 ?_
          refine E_callS1 (pc := 53) dX8_film_53 (C_X8_in (a := 1) (b := 2) (by decide) (by decide)) rfl ks_RX8_71 rfl ⟨Nat.le_of_ble_eq_true rfl, Nat.le_of_ble_eq_true rfl, Nat.le_of_ble_eq_true rfl, Nat.le_of_ble_eq_true rfl⟩ (Nat.le_of_ble_eq_true rfl) ?_
          refine E_if_ne (pc := 56) 61 dX8_film_56 rfl (fun q56 => ?_) (fun q56 => ?_)
          · have hok : okFilm w k lane n on := ⟨Decidable.of_not_not (fun z => q4 (bi_0.mpr z)), Decidable.of_not_not (fun z => q16 (bi_0.mpr z)), Decidable.of_not_not (fun z => q28 (bi_0.mpr z)), Decidable.of_not_not (fun z => q43 (bi_0.mpr z)), Decidable.of_not_not (fun z => q56 (bi_0.mpr z))⟩
            have hZ := hZ hok.2.1
            clear q4 q16 q28 q43 q56
            obtain ⟨w, hw, rfl⟩ := natof (x := w) 5 (by decide) hok.1.1 hok.1.2
            obtain ⟨k, hk, rfl⟩ := natof (x := k) 3 (by decide) hok.2.1.1 hok.2.1.2
            obtain ⟨m, hm, rfl⟩ := natof (x := n) 8 (by decide) (Int32.le_trans (by decide) hok.2.2.2.1.1) hok.2.2.2.1.2
            have hm2 : 2 ≤ m := (nI_leI (a := 2) (by decide) (by omega)).mp hok.2.2.2.1.1
            have ew : ixN (nI w) = w := ixN_nI (by omega)
            have ek : ixN (nI k) = k := ixN_nI (by omega)
            have em : ixN (nI m) = m := ixN_nI (by omega)
            have e8 : 8 * nI m = nI (8 * m) := by rw [show (8 : Int32) = nI 8 from rfl, pk_mul]
            rw [ek] at hZ
            refine E_iconst (pc := 61) (0) dX8_film_61 (by decide) ?_
            refine E_istore (pc := 62) 7 dX8_film_62 (Nat.le_of_ble_eq_true rfl) rfl (lz := [_, _, _, _, _, _, _, _, _, _, _]) rfl ?_
            refine E_iconst (pc := 64) (0) dX8_film_64 (by decide) ?_
            refine E_istore (pc := 65) 8 dX8_film_65 (Nat.le_of_ble_eq_true rfl) rfl (lz := [_, _, _, _, _, _, _, _, _, _, _]) rfl ?_
            refine E_iconst (pc := 67) (1) dX8_film_67 (by decide) ?_
            refine E_istore (pc := 68) 9 dX8_film_68 (Nat.le_of_ble_eq_true rfl) rfl (lz := [_, _, _, _, _, _, _, _, _, _, _]) rfl ?_
            refine E_iconst (pc := 70) (0) dX8_film_70 (by decide) ?_
            refine E_istore (pc := 71) 10 dX8_film_71 (Nat.le_of_ble_eq_true rfl) rfl (lz := [_, _, _, _, _, _, _, _, _, _, _]) rfl ?_
            by_cases hfd : fdM h k lane = 0
            · have hl1 : ¬ h g_m_lanes 0 k = -4 := fun z => by rw [fdM, if_pos z] at hfd; exact absurd hfd (by decide)
              have hl2 : h g_m_lanes 0 k = lane := Decidable.of_not_not (fun z => by rw [fdM, if_neg hl1, if_neg z] at hfd; exact absurd hfd (by decide))
              refine down (P := fun i => ∀ c e, i = 8 * c + e → e < 8 → (i = 0 ∨ ∃ F, f = nI F ∧ F + i ≤ Z) → flF (fun c => rdOk Z c f) (fun c => inC (mC h k) (ixN f) c) (m - c) c = flmM h k Z f m → Ev l G mX8_film _ 73 [some (vR g_model 0), some (vI (nI w)), some (vI (nI k)), some (vI lane), some (vI f), some (vI (nI m)), some (vI on), some (vI 0), some (vI (nI c)), some (vI (bi (gdM (mC h k) (ixN f) c e))), some (vI (nI i))] [] h) (8 * m) ?_ ?_ 0 (Nat.zero_le _) 0 0 rfl (by decide) (Or.inl rfl) rfl
              · intro c e hi he hh hfl
                have hc : c = m := by omega
                subst hc
                rw [Nat.sub_self] at hfl
                have hfl2 : flmM h k Z f c = (0, c) := hfl.symm
                refine E_iload (pc := 73) 10 dX8_film_73 rfl ?_
                refine E_bipush (pc := 75) (8) dX8_film_75 (by decide) ?_
                refine E_iload (pc := 77) 5 dX8_film_77 rfl ?_
                refine E_imul (pc := 79) dX8_film_79 ?_
                refine E_top e8 ?_
                refine E_icmp_ge (pc := 80) 225 dX8_film_80 rfl (fun q80 => ?_) (fun q80 => absurd (nI_le (by omega) (by omega)) q80)
                exact film_tail hw hk hm (fun h2 => hh.elim (fun z => absurd z (by omega)) (fun ⟨F, e1, e2⟩ => ⟨F, e1, by omega⟩)) (fun z => absurd z (by omega)) (fun z => by unfold QFilmM; rw [if_pos hok, ew, ek, em, if_pos hfd, hfl2, if_neg (show ¬ (0 : Nat) = 2 by decide), if_neg (show ¬ ((0 : Nat), c).2 < 2 from Nat.not_lt.mpr z), if_pos (show ((0 : Nat), c).1 = 0 from rfl)]; exact ⟨rfl, rfl⟩)
              · intro i hil hn c e hi he hh hfl
                rw [show m - c = (m - (c + 1)) + 1 by omega] at hfl
                obtain ⟨x, hx1, hx2⟩ := film_x hZ64 (by omega) hh
                by_cases hin : ∃ F, f = nI F ∧ F + (i + 1) ≤ Z
                · have hbi : bi (0 ≤ x ∧ x ≤ nI Z - 1) = 1 := bi_t (hx2.mpr hin)
                  obtain ⟨F, ef, hF⟩ := hin
                  subst ef
                  have eF : ixN (nI F) = F := ixN_nI (by omega)
                  subst hi
                  refine E_iload (pc := 73) 10 dX8_film_73 rfl ?_
                  refine E_bipush (pc := 75) (8) dX8_film_75 (by decide) ?_
                  refine E_iload (pc := 77) 5 dX8_film_77 rfl ?_
                  refine E_imul (pc := 79) dX8_film_79 ?_
                  refine E_top e8 ?_
                  refine E_icmp_ge (pc := 80) 225 dX8_film_80 rfl (fun q80 => absurd q80 (nI_ge hil (by omega))) (fun q80 => ?_)
                  refine E_iload (pc := 83) 7 dX8_film_83 rfl ?_
                  refine E_if_ne (pc := 85) 225 dX8_film_85 rfl (fun q85 => absurd rfl q85) (fun q85 => ?_)
                  refine E_aload_n (pc := 88) 0 dX8_film_88 rfl rfl ?_
                  refine E_getR0 (pc := 89) dX8_film_89 fl_RX8_58 rfl rfl ?_
                  refine E_iload_n (pc := 92) 2 dX8_film_92 rfl rfl ?_
                  refine E_iald (pc := 93) dX8_film_93 rfl (vp_in_nI (by omega) (by decide)) ?_
                  refine E_top (y := h g_m_lanes 0 k) (by rw [ek]) ?_
                  refine E_bipush (pc := 94) (-4) dX8_film_94 (by decide) ?_
                  refine E_icmp_ne (pc := 96) 103 dX8_film_96 rfl (fun q96 => ?_) (fun q96 => absurd q96 hl1)
                  refine E_aload_n (pc := 103) 0 dX8_film_103 rfl rfl ?_
                  refine E_getR0 (pc := 104) dX8_film_104 fl_RX8_58 rfl rfl ?_
                  refine E_iload_n (pc := 107) 2 dX8_film_107 rfl rfl ?_
                  refine E_iald (pc := 108) dX8_film_108 rfl (vp_in_nI (by omega) (by decide)) ?_
                  refine E_top (y := h g_m_lanes 0 k) (by rw [ek]) ?_
                  refine E_iload_n (pc := 109) 3 dX8_film_109 rfl rfl ?_
                  refine E_icmp_eq (pc := 110) 117 dX8_film_110 rfl (fun q110 => ?_) (fun q110 => absurd hl2 q110)
                  refine E_iload (pc := 117) 4 dX8_film_117 rfl ?_
                  refine E_i2l (pc := 119) dX8_film_119 ?_
                  refine E_iload (pc := 120) 10 dX8_film_120 rfl ?_
                  refine E_i2l (pc := 122) dX8_film_122 ?_
                  refine E_ladd (pc := 123) dX8_film_123 ?_
                  refine E_eq (st' := [vL x.toInt64]) rfl (by rw [hx1]) rfl ?_
                  refine E_lconst (pc := 124) (0) dX8_film_124 (by decide) ?_
                  refine E_aload_n (pc := 125) 0 dX8_film_125 rfl rfl ?_
                  refine E_getR0 (pc := 126) dX8_film_126 fl_RX8_61 rfl rfl ?_
                  refine E_iload_n (pc := 129) 2 dX8_film_129 rfl rfl ?_
                  refine E_iald (pc := 130) dX8_film_130 rfl (vp_in_nI (by omega) (by decide)) ?_
                  refine E_top (y := nI Z) (by rw [ek]; exact hZ) ?_
                  refine E_iconst (pc := 131) (1) dX8_film_131 (by decide) ?_
                  refine E_isub (pc := 132) dX8_film_132 ?_
                  refine E_i2l (pc := 133) dX8_film_133 ?_
                  refine E_callS1 (pc := 134) dX8_film_134 (C_X8_in (a := 0) (by decide) rfl) rfl ks_RX8_71 rfl ⟨Nat.le_of_ble_eq_true rfl, Nat.le_of_ble_eq_true rfl, Nat.le_of_ble_eq_true rfl, Nat.le_of_ble_eq_true rfl⟩ (Nat.le_of_ble_eq_true rfl) ?_
                  refine E_top hbi ?_
                  refine E_if_ne (pc := 137) 144 dX8_film_137 rfl (fun q137 => ?_) (fun q137 => absurd q137 (by decide))
                  refine E_iconst (pc := 144) (0) dX8_film_144 (by decide) ?_
                  refine E_istore (pc := 145) 7 dX8_film_145 (Nat.le_of_ble_eq_true rfl) rfl (lz := [_, _, _, _, _, _, _, _, _, _, _]) rfl ?_
                  refine E_iload (pc := 147) 7 dX8_film_147 rfl ?_
                  refine E_if_ne (pc := 149) 219 dX8_film_149 rfl (fun q149 => absurd rfl q149) (fun q149 => ?_)
                  refine E_iload (pc := 152) 9 dX8_film_152 rfl ?_
                  refine E_if_eq (pc := 154) 189 dX8_film_154 rfl (fun q154 => ?_) (fun q154 => ?_)
                  · have hg : ¬ gdM (mC h k) (ixN (nI F)) c (e + 1) := gd_n (bi_0.mp q154)
                    refine E_iconst (pc := 189) (0) dX8_film_189 (by decide) ?_
                    refine E_top (y := bi (gdM (mC h k) (ixN (nI F)) c (e + 1))) (by first | exact (bi_t hg).symm | exact (bi_f hg).symm) ?_
                    refine E_istore (pc := 190) 9 dX8_film_190 (Nat.le_of_ble_eq_true rfl) rfl (lz := [_, _, _, _, _, _, _, _, _, _, _]) rfl ?_
                    refine E_iload (pc := 192) 10 dX8_film_192 rfl ?_
                    refine E_bipush (pc := 194) (8) dX8_film_194 (by decide) ?_
                    refine E_irem (pc := 196) dX8_film_196 (by decide) ?_
                    refine E_top (nI_8r (by omega) he) ?_
                    refine E_bipush (pc := 197) (7) dX8_film_197 (by decide) ?_
                    refine E_icmp_ne (pc := 199) 219 dX8_film_199 rfl (fun q199 => ?_) (fun q199 => ?_)
                    · have h7 : ¬ e = 7 := fun z => q199 (by rw [z]; rfl)
                      refine E_iincN (pc := 219) 10 dX8_film_219 (Nat.le_of_ble_eq_true rfl) rfl rfl (lz := [_, _, _, _, _, _, _, _, _, _, _]) rfl ?_
                      refine E_goto (pc := 222) 73 dX8_film_222 rfl ?_
                      first | exact hn c (e + 1) (by omega) (by omega) (Or.inr ⟨F, rfl, by omega⟩) (by rw [show m - c = (m - (c + 1)) + 1 by omega]; exact hfl) | exact E_eq (by rw [bi_t hg', bi_t (show gdM (mC h k) (ixN (nI F)) (c + 1) 0 from fun ⟨j, hj, _⟩ => absurd hj (Nat.not_lt_zero j))]) rfl rfl (hn (c + 1) 0 (by omega) (by decide) (Or.inr ⟨F, rfl, by omega⟩) hfl)
                    · have h7 : e = 7 := (nI_eq (b := 7) (by omega) (by decide)).mp q199
                      have hrd : rdOk Z c (nI F) := (rd_iff hZ64).mpr ⟨F, rfl, by omega⟩
                      refine E_iload (pc := 202) 9 dX8_film_202 rfl ?_
                      refine E_if_ne (pc := 204) 216 dX8_film_204 rfl (fun q204 => ?_) (fun q204 => ?_)
                      · have hg' : gdM (mC h k) (ixN (nI F)) c (e + 1) := Decidable.of_not_not (fun z => q204 (bi_0.mpr z))
                        subst h7
                        rw [flm_go hrd (show inC (mC h k) (ixN (nI F)) c from hg')] at hfl
                        refine E_iincN (pc := 216) 8 dX8_film_216 (Nat.le_of_ble_eq_true rfl) rfl rfl (lz := [_, _, _, _, _, _, _, _, _, _, _]) rfl ?_
                        refine E_iincN (pc := 219) 10 dX8_film_219 (Nat.le_of_ble_eq_true rfl) rfl rfl (lz := [_, _, _, _, _, _, _, _, _, _, _]) rfl ?_
                        refine E_goto (pc := 222) 73 dX8_film_222 rfl ?_
                        first | exact hn c (e + 1) (by omega) (by omega) (Or.inr ⟨F, rfl, by omega⟩) (by rw [show m - c = (m - (c + 1)) + 1 by omega]; exact hfl) | exact E_eq (by rw [bi_t hg', bi_t (show gdM (mC h k) (ixN (nI F)) (c + 1) 0 from fun ⟨j, hj, _⟩ => absurd hj (Nat.not_lt_zero j))]) rfl rfl (hn (c + 1) 0 (by omega) (by decide) (Or.inr ⟨F, rfl, by omega⟩) hfl)
                      · have hg' : ¬ gdM (mC h k) (ixN (nI F)) c (e + 1) := bi_0.mp q204
                        refine E_bipush (pc := 207) (-20) dX8_film_207 (by decide) ?_
                        refine E_iload (pc := 209) 10 dX8_film_209 rfl ?_
                        refine E_bipush (pc := 211) (8) dX8_film_211 (by decide) ?_
                        refine E_idiv (pc := 213) dX8_film_213 (by decide) ?_
                        refine E_isub (pc := 214) dX8_film_214 ?_
                        refine E_iret (pc := 215) dX8_film_215 rfl ?_
                        subst h7
                        rw [flm_out hrd (show ¬ inC (mC h k) (ixN (nI F)) c from hg')] at hfl
                        unfold QFilmM
                        rw [if_pos hok, ew, ek, em, if_pos hfd, ← hfl, if_pos (show ((2 : Nat), c).1 = 2 from rfl), nI_8d (by omega) he]
                        exact ⟨rfl, rfl⟩
                  · refine E_aload_n (pc := 157) 0 dX8_film_157 rfl rfl ?_
                    refine E_getR0 (pc := 158) dX8_film_158 fl_RX8_64 rfl rfl ?_
                    refine E_bipush (pc := 161) (64) dX8_film_161 (by decide) ?_
                    refine E_iload_n (pc := 163) 2 dX8_film_163 rfl rfl ?_
                    refine E_imul (pc := 164) dX8_film_164 ?_
                    refine E_iload (pc := 165) 4 dX8_film_165 rfl ?_
                    refine E_iadd (pc := 167) dX8_film_167 ?_
                    refine E_iload (pc := 168) 10 dX8_film_168 rfl ?_
                    refine E_iadd (pc := 170) dX8_film_170 ?_
                    refine E_top (y := nI (64 * k + (F + (8 * c + e)))) (by rw [nI_64, nI_add, Nat.add_assoc]) ?_
                    refine E_iald (pc := 171) dX8_film_171 rfl (vp_in_nI (by omega) (by decide)) ?_
                    refine E_top (y := mC h k (ixN (nI F) + 8 * c + e)) (by rw [eF, ixN_nI (by omega), Nat.add_assoc F]) ?_
                    refine E_i2l (pc := 172) dX8_film_172 ?_
                    refine E_ldc2 (pc := 173) (-9) dX8_film_173 kk_RX8_158 ?_
                    refine E_ldc2 (pc := 176) (9) dX8_film_176 kk_RX8_160 ?_
                    refine E_callS1 (pc := 179) dX8_film_179 (C_X8_in (a := -9) (b := 9) (by decide) (by decide)) rfl ks_RX8_71 rfl ⟨Nat.le_of_ble_eq_true rfl, Nat.le_of_ble_eq_true rfl, Nat.le_of_ble_eq_true rfl, Nat.le_of_ble_eq_true rfl⟩ (Nat.le_of_ble_eq_true rfl) ?_
                    refine E_if_eq (pc := 182) 189 dX8_film_182 rfl (fun q182 => ?_) (fun q182 => ?_)
                    · have hg : ¬ gdM (mC h k) (ixN (nI F)) c (e + 1) := gd_x (bi_0.mp q182)
                      refine E_iconst (pc := 189) (0) dX8_film_189 (by decide) ?_
                      refine E_top (y := bi (gdM (mC h k) (ixN (nI F)) c (e + 1))) (by first | exact (bi_t hg).symm | exact (bi_f hg).symm) ?_
                      refine E_istore (pc := 190) 9 dX8_film_190 (Nat.le_of_ble_eq_true rfl) rfl (lz := [_, _, _, _, _, _, _, _, _, _, _]) rfl ?_
                      refine E_iload (pc := 192) 10 dX8_film_192 rfl ?_
                      refine E_bipush (pc := 194) (8) dX8_film_194 (by decide) ?_
                      refine E_irem (pc := 196) dX8_film_196 (by decide) ?_
                      refine E_top (nI_8r (by omega) he) ?_
                      refine E_bipush (pc := 197) (7) dX8_film_197 (by decide) ?_
                      refine E_icmp_ne (pc := 199) 219 dX8_film_199 rfl (fun q199 => ?_) (fun q199 => ?_)
                      · have h7 : ¬ e = 7 := fun z => q199 (by rw [z]; rfl)
                        refine E_iincN (pc := 219) 10 dX8_film_219 (Nat.le_of_ble_eq_true rfl) rfl rfl (lz := [_, _, _, _, _, _, _, _, _, _, _]) rfl ?_
                        refine E_goto (pc := 222) 73 dX8_film_222 rfl ?_
                        first | exact hn c (e + 1) (by omega) (by omega) (Or.inr ⟨F, rfl, by omega⟩) (by rw [show m - c = (m - (c + 1)) + 1 by omega]; exact hfl) | exact E_eq (by rw [bi_t hg', bi_t (show gdM (mC h k) (ixN (nI F)) (c + 1) 0 from fun ⟨j, hj, _⟩ => absurd hj (Nat.not_lt_zero j))]) rfl rfl (hn (c + 1) 0 (by omega) (by decide) (Or.inr ⟨F, rfl, by omega⟩) hfl)
                      · have h7 : e = 7 := (nI_eq (b := 7) (by omega) (by decide)).mp q199
                        have hrd : rdOk Z c (nI F) := (rd_iff hZ64).mpr ⟨F, rfl, by omega⟩
                        refine E_iload (pc := 202) 9 dX8_film_202 rfl ?_
                        refine E_if_ne (pc := 204) 216 dX8_film_204 rfl (fun q204 => ?_) (fun q204 => ?_)
                        · have hg' : gdM (mC h k) (ixN (nI F)) c (e + 1) := Decidable.of_not_not (fun z => q204 (bi_0.mpr z))
                          subst h7
                          rw [flm_go hrd (show inC (mC h k) (ixN (nI F)) c from hg')] at hfl
                          refine E_iincN (pc := 216) 8 dX8_film_216 (Nat.le_of_ble_eq_true rfl) rfl rfl (lz := [_, _, _, _, _, _, _, _, _, _, _]) rfl ?_
                          refine E_iincN (pc := 219) 10 dX8_film_219 (Nat.le_of_ble_eq_true rfl) rfl rfl (lz := [_, _, _, _, _, _, _, _, _, _, _]) rfl ?_
                          refine E_goto (pc := 222) 73 dX8_film_222 rfl ?_
                          first | exact hn c (e + 1) (by omega) (by omega) (Or.inr ⟨F, rfl, by omega⟩) (by rw [show m - c = (m - (c + 1)) + 1 by omega]; exact hfl) | exact E_eq (by rw [bi_t hg', bi_t (show gdM (mC h k) (ixN (nI F)) (c + 1) 0 from fun ⟨j, hj, _⟩ => absurd hj (Nat.not_lt_zero j))]) rfl rfl (hn (c + 1) 0 (by omega) (by decide) (Or.inr ⟨F, rfl, by omega⟩) hfl)
                        · have hg' : ¬ gdM (mC h k) (ixN (nI F)) c (e + 1) := bi_0.mp q204
                          refine E_bipush (pc := 207) (-20) dX8_film_207 (by decide) ?_
                          refine E_iload (pc := 209) 10 dX8_film_209 rfl ?_
                          refine E_bipush (pc := 211) (8) dX8_film_211 (by decide) ?_
                          refine E_idiv (pc := 213) dX8_film_213 (by decide) ?_
                          refine E_isub (pc := 214) dX8_film_214 ?_
                          refine E_iret (pc := 215) dX8_film_215 rfl ?_
                          subst h7
                          rw [flm_out hrd (show ¬ inC (mC h k) (ixN (nI F)) c from hg')] at hfl
                          unfold QFilmM
                          rw [if_pos hok, ew, ek, em, if_pos hfd, ← hfl, if_pos (show ((2 : Nat), c).1 = 2 from rfl), nI_8d (by omega) he]
                          exact ⟨rfl, rfl⟩
                    · have hg : gdM (mC h k) (ixN (nI F)) c (e + 1) := gd_s (Decidable.of_not_not (fun z => q154 (bi_0.mpr z))) (Decidable.of_not_not (fun z => q182 (bi_0.mpr z)))
                      refine E_iconst (pc := 185) (1) dX8_film_185 (by decide) ?_
                      refine E_goto (pc := 186) 190 dX8_film_186 rfl ?_
                      refine E_top (y := bi (gdM (mC h k) (ixN (nI F)) c (e + 1))) (by first | exact (bi_t hg).symm | exact (bi_f hg).symm) ?_
                      refine E_istore (pc := 190) 9 dX8_film_190 (Nat.le_of_ble_eq_true rfl) rfl (lz := [_, _, _, _, _, _, _, _, _, _, _]) rfl ?_
                      refine E_iload (pc := 192) 10 dX8_film_192 rfl ?_
                      refine E_bipush (pc := 194) (8) dX8_film_194 (by decide) ?_
                      refine E_irem (pc := 196) dX8_film_196 (by decide) ?_
                      refine E_top (nI_8r (by omega) he) ?_
                      refine E_bipush (pc := 197) (7) dX8_film_197 (by decide) ?_
                      refine E_icmp_ne (pc := 199) 219 dX8_film_199 rfl (fun q199 => ?_) (fun q199 => ?_)
                      · have h7 : ¬ e = 7 := fun z => q199 (by rw [z]; rfl)
                        refine E_iincN (pc := 219) 10 dX8_film_219 (Nat.le_of_ble_eq_true rfl) rfl rfl (lz := [_, _, _, _, _, _, _, _, _, _, _]) rfl ?_
                        refine E_goto (pc := 222) 73 dX8_film_222 rfl ?_
                        first | exact hn c (e + 1) (by omega) (by omega) (Or.inr ⟨F, rfl, by omega⟩) (by rw [show m - c = (m - (c + 1)) + 1 by omega]; exact hfl) | exact E_eq (by rw [bi_t hg', bi_t (show gdM (mC h k) (ixN (nI F)) (c + 1) 0 from fun ⟨j, hj, _⟩ => absurd hj (Nat.not_lt_zero j))]) rfl rfl (hn (c + 1) 0 (by omega) (by decide) (Or.inr ⟨F, rfl, by omega⟩) hfl)
                      · have h7 : e = 7 := (nI_eq (b := 7) (by omega) (by decide)).mp q199
                        have hrd : rdOk Z c (nI F) := (rd_iff hZ64).mpr ⟨F, rfl, by omega⟩
                        refine E_iload (pc := 202) 9 dX8_film_202 rfl ?_
                        refine E_if_ne (pc := 204) 216 dX8_film_204 rfl (fun q204 => ?_) (fun q204 => ?_)
                        · have hg' : gdM (mC h k) (ixN (nI F)) c (e + 1) := Decidable.of_not_not (fun z => q204 (bi_0.mpr z))
                          subst h7
                          rw [flm_go hrd (show inC (mC h k) (ixN (nI F)) c from hg')] at hfl
                          refine E_iincN (pc := 216) 8 dX8_film_216 (Nat.le_of_ble_eq_true rfl) rfl rfl (lz := [_, _, _, _, _, _, _, _, _, _, _]) rfl ?_
                          refine E_iincN (pc := 219) 10 dX8_film_219 (Nat.le_of_ble_eq_true rfl) rfl rfl (lz := [_, _, _, _, _, _, _, _, _, _, _]) rfl ?_
                          refine E_goto (pc := 222) 73 dX8_film_222 rfl ?_
                          first | exact hn c (e + 1) (by omega) (by omega) (Or.inr ⟨F, rfl, by omega⟩) (by rw [show m - c = (m - (c + 1)) + 1 by omega]; exact hfl) | exact E_eq (by rw [bi_t hg', bi_t (show gdM (mC h k) (ixN (nI F)) (c + 1) 0 from fun ⟨j, hj, _⟩ => absurd hj (Nat.not_lt_zero j))]) rfl rfl (hn (c + 1) 0 (by omega) (by decide) (Or.inr ⟨F, rfl, by omega⟩) hfl)
                        · have hg' : ¬ gdM (mC h k) (ixN (nI F)) c (e + 1) := bi_0.mp q204
                          refine E_bipush (pc := 207) (-20) dX8_film_207 (by decide) ?_
                          refine E_iload (pc := 209) 10 dX8_film_209 rfl ?_
                          refine E_bipush (pc := 211) (8) dX8_film_211 (by decide) ?_
                          refine E_idiv (pc := 213) dX8_film_213 (by decide) ?_
                          refine E_isub (pc := 214) dX8_film_214 ?_
                          refine E_iret (pc := 215) dX8_film_215 rfl ?_
                          subst h7
                          rw [flm_out hrd (show ¬ inC (mC h k) (ixN (nI F)) c from hg')] at hfl
                          unfold QFilmM
                          rw [if_pos hok, ew, ek, em, if_pos hfd, ← hfl, if_pos (show ((2 : Nat), c).1 = 2 from rfl), nI_8d (by omega) he]
                          exact ⟨rfl, rfl⟩
                · have hbi : bi (0 ≤ x ∧ x ≤ nI Z - 1) = 0 := bi_f (mt hx2.mp hin)
                  have hnr : ¬ rdOk Z c f := fun z => by obtain ⟨F, e1, e2⟩ := (rd_iff hZ64).mp z; exact hin ⟨F, e1, by omega⟩
                  rw [flm_stop hnr] at hfl
                  refine E_iload (pc := 73) 10 dX8_film_73 rfl ?_
                  refine E_bipush (pc := 75) (8) dX8_film_75 (by decide) ?_
                  refine E_iload (pc := 77) 5 dX8_film_77 rfl ?_
                  refine E_imul (pc := 79) dX8_film_79 ?_
                  refine E_top e8 ?_
                  refine E_icmp_ge (pc := 80) 225 dX8_film_80 rfl (fun q80 => absurd q80 (nI_ge hil (by omega))) (fun q80 => ?_)
                  refine E_iload (pc := 83) 7 dX8_film_83 rfl ?_
                  refine E_if_ne (pc := 85) 225 dX8_film_85 rfl (fun q85 => absurd rfl q85) (fun q85 => ?_)
                  refine E_aload_n (pc := 88) 0 dX8_film_88 rfl rfl ?_
                  refine E_getR0 (pc := 89) dX8_film_89 fl_RX8_58 rfl rfl ?_
                  refine E_iload_n (pc := 92) 2 dX8_film_92 rfl rfl ?_
                  refine E_iald (pc := 93) dX8_film_93 rfl (vp_in_nI (by omega) (by decide)) ?_
                  refine E_top (y := h g_m_lanes 0 k) (by rw [ek]) ?_
                  refine E_bipush (pc := 94) (-4) dX8_film_94 (by decide) ?_
                  refine E_icmp_ne (pc := 96) 103 dX8_film_96 rfl (fun q96 => ?_) (fun q96 => absurd q96 hl1)
                  refine E_aload_n (pc := 103) 0 dX8_film_103 rfl rfl ?_
                  refine E_getR0 (pc := 104) dX8_film_104 fl_RX8_58 rfl rfl ?_
                  refine E_iload_n (pc := 107) 2 dX8_film_107 rfl rfl ?_
                  refine E_iald (pc := 108) dX8_film_108 rfl (vp_in_nI (by omega) (by decide)) ?_
                  refine E_top (y := h g_m_lanes 0 k) (by rw [ek]) ?_
                  refine E_iload_n (pc := 109) 3 dX8_film_109 rfl rfl ?_
                  refine E_icmp_eq (pc := 110) 117 dX8_film_110 rfl (fun q110 => ?_) (fun q110 => absurd hl2 q110)
                  refine E_iload (pc := 117) 4 dX8_film_117 rfl ?_
                  refine E_i2l (pc := 119) dX8_film_119 ?_
                  refine E_iload (pc := 120) 10 dX8_film_120 rfl ?_
                  refine E_i2l (pc := 122) dX8_film_122 ?_
                  refine E_ladd (pc := 123) dX8_film_123 ?_
                  refine E_eq (st' := [vL x.toInt64]) rfl (by rw [hx1]) rfl ?_
                  refine E_lconst (pc := 124) (0) dX8_film_124 (by decide) ?_
                  refine E_aload_n (pc := 125) 0 dX8_film_125 rfl rfl ?_
                  refine E_getR0 (pc := 126) dX8_film_126 fl_RX8_61 rfl rfl ?_
                  refine E_iload_n (pc := 129) 2 dX8_film_129 rfl rfl ?_
                  refine E_iald (pc := 130) dX8_film_130 rfl (vp_in_nI (by omega) (by decide)) ?_
                  refine E_top (y := nI Z) (by rw [ek]; exact hZ) ?_
                  refine E_iconst (pc := 131) (1) dX8_film_131 (by decide) ?_
                  refine E_isub (pc := 132) dX8_film_132 ?_
                  refine E_i2l (pc := 133) dX8_film_133 ?_
                  refine E_callS1 (pc := 134) dX8_film_134 (C_X8_in (a := 0) (by decide) rfl) rfl ks_RX8_71 rfl ⟨Nat.le_of_ble_eq_true rfl, Nat.le_of_ble_eq_true rfl, Nat.le_of_ble_eq_true rfl, Nat.le_of_ble_eq_true rfl⟩ (Nat.le_of_ble_eq_true rfl) ?_
                  refine E_top hbi ?_
                  refine E_if_ne (pc := 137) 144 dX8_film_137 rfl (fun q137 => absurd rfl q137) (fun q137 => ?_)
                  refine E_iconst (pc := 140) (2) dX8_film_140 (by decide) ?_
                  refine E_goto (pc := 141) 145 dX8_film_141 rfl ?_
                  refine E_istore (pc := 145) 7 dX8_film_145 (Nat.le_of_ble_eq_true rfl) rfl (lz := [_, _, _, _, _, _, _, _, _, _, _]) rfl ?_
                  refine E_iload (pc := 147) 7 dX8_film_147 rfl ?_
                  refine E_if_ne (pc := 149) 219 dX8_film_149 rfl (fun q149 => ?_) (fun q149 => absurd q149 (by decide))
                  refine E_iincN (pc := 219) 10 dX8_film_219 (Nat.le_of_ble_eq_true rfl) rfl rfl (lz := [_, _, _, _, _, _, _, _, _, _, _]) rfl ?_
                  refine E_goto (pc := 222) 73 dX8_film_222 rfl ?_
                  refine E_iload (pc := 73) 10 dX8_film_73 rfl ?_
                  refine E_bipush (pc := 75) (8) dX8_film_75 (by decide) ?_
                  refine E_iload (pc := 77) 5 dX8_film_77 rfl ?_
                  refine E_imul (pc := 79) dX8_film_79 ?_
                  refine E_top e8 ?_
                  refine E_icmp_ge (pc := 80) 225 dX8_film_80 rfl (fun q80 => ?_) (fun q80 => ?_)
                  · exact film_tail hw hk (by omega) (fun h2 => hh.elim (fun z => absurd z (by omega)) (fun ⟨F, e1, e2⟩ => ⟨F, e1, by omega⟩)) (fun z => by unfold QFilmM; rw [if_pos hok, ew, ek, em, if_pos hfd, ← hfl, if_neg (show ¬ (1 : Nat) = 2 by decide), if_pos (show ((1 : Nat), c).2 < 2 from z), if_neg (show ¬ (1 : Nat) = 0 by decide)]; exact ⟨rfl, rfl⟩) (fun z => by unfold QFilmM; rw [if_pos hok, ew, ek, em, if_pos hfd, ← hfl, if_neg (show ¬ (1 : Nat) = 2 by decide), if_neg (show ¬ ((1 : Nat), c).2 < 2 from Nat.not_lt.mpr z), if_neg (show ¬ (1 : Nat) = 0 by decide)]; exact ⟨rfl, rfl⟩)
                  · refine E_iload (pc := 83) 7 dX8_film_83 rfl ?_
                    refine E_if_ne (pc := 85) 225 dX8_film_85 rfl (fun q85 => ?_) (fun q85 => absurd q85 (by decide))
                    exact film_tail hw hk (by omega) (fun h2 => hh.elim (fun z => absurd z (by omega)) (fun ⟨F, e1, e2⟩ => ⟨F, e1, by omega⟩)) (fun z => by unfold QFilmM; rw [if_pos hok, ew, ek, em, if_pos hfd, ← hfl, if_neg (show ¬ (1 : Nat) = 2 by decide), if_pos (show ((1 : Nat), c).2 < 2 from z), if_neg (show ¬ (1 : Nat) = 0 by decide)]; exact ⟨rfl, rfl⟩) (fun z => by unfold QFilmM; rw [if_pos hok, ew, ek, em, if_pos hfd, ← hfl, if_neg (show ¬ (1 : Nat) = 2 by decide), if_neg (show ¬ ((1 : Nat), c).2 < 2 from Nat.not_lt.mpr z), if_neg (show ¬ (1 : Nat) = 0 by decide)]; exact ⟨rfl, rfl⟩)
            · refine E_iload (pc := 73) 10 dX8_film_73 rfl ?_
              refine E_bipush (pc := 75) (8) dX8_film_75 (by decide) ?_
              refine E_iload (pc := 77) 5 dX8_film_77 rfl ?_
              refine E_imul (pc := 79) dX8_film_79 ?_
              refine E_top e8 ?_
              refine E_icmp_ge (pc := 80) 225 dX8_film_80 rfl (fun q80 => absurd q80 (nI_ge (a := 0) (by omega) (by omega))) (fun q80 => ?_)
              refine E_iload (pc := 83) 7 dX8_film_83 rfl ?_
              refine E_if_ne (pc := 85) 225 dX8_film_85 rfl (fun q85 => absurd rfl q85) (fun q85 => ?_)
              refine E_aload_n (pc := 88) 0 dX8_film_88 rfl rfl ?_
              refine E_getR0 (pc := 89) dX8_film_89 fl_RX8_58 rfl rfl ?_
              refine E_iload_n (pc := 92) 2 dX8_film_92 rfl rfl ?_
              refine E_iald (pc := 93) dX8_film_93 rfl (vp_in_nI (by omega) (by decide)) ?_
              refine E_top (y := h g_m_lanes 0 k) (by rw [ek]) ?_
              refine E_bipush (pc := 94) (-4) dX8_film_94 (by decide) ?_
              refine E_icmp_ne (pc := 96) 103 dX8_film_96 rfl (fun q96 => ?_) (fun q96 => ?_)
              · refine E_aload_n (pc := 103) 0 dX8_film_103 rfl rfl ?_
                refine E_getR0 (pc := 104) dX8_film_104 fl_RX8_58 rfl rfl ?_
                refine E_iload_n (pc := 107) 2 dX8_film_107 rfl rfl ?_
                refine E_iald (pc := 108) dX8_film_108 rfl (vp_in_nI (by omega) (by decide)) ?_
                refine E_top (y := h g_m_lanes 0 k) (by rw [ek]) ?_
                refine E_iload_n (pc := 109) 3 dX8_film_109 rfl rfl ?_
                refine E_icmp_eq (pc := 110) 117 dX8_film_110 rfl (fun q110 => absurd ((if_neg q96).trans (if_pos q110)) hfd) (fun q110 => ?_)
                have hb : fdM h k lane = 3 := (if_neg q96).trans (if_neg q110)
                refine E_iconst (pc := 113) (3) dX8_film_113 (by decide) ?_
                refine E_goto (pc := 114) 145 dX8_film_114 rfl ?_
                refine E_istore (pc := 145) 7 dX8_film_145 (Nat.le_of_ble_eq_true rfl) rfl (lz := [_, _, _, _, _, _, _, _, _, _, _]) rfl ?_
                refine E_iload (pc := 147) 7 dX8_film_147 rfl ?_
                refine E_if_ne (pc := 149) 219 dX8_film_149 rfl (fun q149 => ?_) (fun q149 => absurd q149 (by decide))
                refine E_iincN (pc := 219) 10 dX8_film_219 (Nat.le_of_ble_eq_true rfl) rfl rfl (lz := [_, _, _, _, _, _, _, _, _, _, _]) rfl ?_
                refine E_goto (pc := 222) 73 dX8_film_222 rfl ?_
                refine E_iload (pc := 73) 10 dX8_film_73 rfl ?_
                refine E_bipush (pc := 75) (8) dX8_film_75 (by decide) ?_
                refine E_iload (pc := 77) 5 dX8_film_77 rfl ?_
                refine E_imul (pc := 79) dX8_film_79 ?_
                refine E_top e8 ?_
                refine E_icmp_ge (pc := 80) 225 dX8_film_80 rfl (fun q80 => ?_) (fun q80 => ?_)
                · exact film_tail (c := 0) hw hk (by omega) (fun z => absurd z (by decide)) (fun z => by unfold QFilmM; rw [if_pos hok, ek, if_neg hfd, hb]; exact ⟨rfl, rfl⟩) (fun z => absurd z (by decide))
                · refine E_iload (pc := 83) 7 dX8_film_83 rfl ?_
                  refine E_if_ne (pc := 85) 225 dX8_film_85 rfl (fun q85 => ?_) (fun q85 => absurd q85 (by decide))
                  exact film_tail (c := 0) hw hk (by omega) (fun z => absurd z (by decide)) (fun z => by unfold QFilmM; rw [if_pos hok, ek, if_neg hfd, hb]; exact ⟨rfl, rfl⟩) (fun z => absurd z (by decide))
              · have hb : fdM h k lane = 1 := if_pos q96
                refine E_iconst (pc := 99) (1) dX8_film_99 (by decide) ?_
                refine E_goto (pc := 100) 145 dX8_film_100 rfl ?_
                refine E_istore (pc := 145) 7 dX8_film_145 (Nat.le_of_ble_eq_true rfl) rfl (lz := [_, _, _, _, _, _, _, _, _, _, _]) rfl ?_
                refine E_iload (pc := 147) 7 dX8_film_147 rfl ?_
                refine E_if_ne (pc := 149) 219 dX8_film_149 rfl (fun q149 => ?_) (fun q149 => absurd q149 (by decide))
                refine E_iincN (pc := 219) 10 dX8_film_219 (Nat.le_of_ble_eq_true rfl) rfl rfl (lz := [_, _, _, _, _, _, _, _, _, _, _]) rfl ?_
                refine E_goto (pc := 222) 73 dX8_film_222 rfl ?_
                refine E_iload (pc := 73) 10 dX8_film_73 rfl ?_
                refine E_bipush (pc := 75) (8) dX8_film_75 (by decide) ?_
                refine E_iload (pc := 77) 5 dX8_film_77 rfl ?_
                refine E_imul (pc := 79) dX8_film_79 ?_
                refine E_top e8 ?_
                refine E_icmp_ge (pc := 80) 225 dX8_film_80 rfl (fun q80 => ?_) (fun q80 => ?_)
                · exact film_tail (c := 0) hw hk (by omega) (fun z => absurd z (by decide)) (fun z => by unfold QFilmM; rw [if_pos hok, ek, if_neg hfd, hb]; exact ⟨rfl, rfl⟩) (fun z => absurd z (by decide))
                · refine E_iload (pc := 83) 7 dX8_film_83 rfl ?_
                  refine E_if_ne (pc := 85) 225 dX8_film_85 rfl (fun q85 => ?_) (fun q85 => absurd q85 (by decide))
                  exact film_tail (c := 0) hw hk (by omega) (fun z => absurd z (by decide)) (fun z => by unfold QFilmM; rw [if_pos hok, ek, if_neg hfd, hb]; exact ⟨rfl, rfl⟩) (fun z => absurd z (by decide))
          · refine E_iconst (pc := 59) (-1) dX8_film_59 (by decide) ?_
            refine E_iret (pc := 60) dX8_film_60 rfl ?_
            unfold QFilmM
            first | (rw [if_neg (fun z => bi_0.mp q4 z.1)]; exact ⟨rfl, rfl⟩) | (rw [if_neg (fun z => bi_0.mp q16 z.2.1)]; exact ⟨rfl, rfl⟩) | (rw [if_neg (fun z => bi_0.mp q28 z.2.2.1)]; exact ⟨rfl, rfl⟩) | (rw [if_neg (fun z => bi_0.mp q43 z.2.2.2.1)]; exact ⟨rfl, rfl⟩) | (rw [if_neg (fun z => bi_0.mp q56 z.2.2.2.2)]; exact ⟨rfl, rfl⟩)
