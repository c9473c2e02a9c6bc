/-- the film when c tenths came: only the spare way is touched -/
def Fi (h h2 : Hp) (k : Nat) (f on : Int32) (c : Nat) : Prop := Kp h h2 ∧ h2 g_way 6 2 = on ∧ ∀ j, j < 64 → h2 g_nums 6 j = if j < 8 * c then h g_cells k (ixN f + j) else 0
def fE1 (h2 : Hp) (fd : Int32) (c : Nat) : Hp := hset (hset h2 g_oab 0 9 fd) g_way 6 1 (nI c)
def fE2 (h3 : Hp) (kw : Nat) : Hp := hsetA (hset (hset h3 g_way kw 1 (h3 g_way 6 1)) g_way kw 2 (hset h3 g_way kw 1 (h3 g_way 6 1) g_way 6 2)) g_nums kw (va_cpy (h3 g_nums 6) (h3 g_nums kw) 0 0 64)
theorem film_end {h h2 : Hp} {k kw c : Nat} {f on fd : Int32} (hkw : kw < 6) (hF : Fi h h2 k f on c) : fE2 (fE1 h2 fd c) kw g_oab 0 9 = fd ∧ fE2 (fE1 h2 fd c) kw g_way kw 1 = nI c ∧ fE2 (fE1 h2 fd c) kw g_way kw 2 = on ∧ (∀ j, j < 64 → fE2 (fE1 h2 fd c) kw g_nums kw j = if j < 8 * c then h g_cells k (ixN f + j) else 0) ∧ KpF h (fE2 (fE1 h2 fd c) kw) kw := by
  have h6 : kw ≠ 6 := by omega
  have e61 : fE1 h2 fd c g_way 6 1 = nI c := hset_eq _ _ _ _ _
  have e62 : fE1 h2 fd c g_way 6 2 = on := by unfold fE1; rw [hset_k (by decide), hset_t (by decide)]; exact hF.2.1
  have e6n : fE1 h2 fd c g_nums = h2 g_nums := by unfold fE1; rw [hset_t (by decide), hset_t (by decide)]
  refine ⟨?_, ?_, ?_, fun j hj => ?_, fun a b e ha hn hw => ?_⟩
  · unfold fE2; rw [hsetA_t (by decide), hset_t (by decide), hset_t (by decide)]; unfold fE1; rw [hset_t (by decide)]; exact hset_eq _ _ _ _ _
  · unfold fE2; rw [hsetA_t (by decide), hset_k (by decide), hset_eq]; exact e61
  · unfold fE2; rw [hsetA_t (by decide), hset_eq]; exact (congrFun (hset_other (t := g_way) (i := kw) (t' := g_way) (i' := 6) (fun u => h6 (congrArg Prod.snd u).symm)) 2).trans e62
  · unfold fE2; rw [hsetA_arr, cpy_lt hj, e6n]; exact hF.2.2 j hj
  · have hb6 : ¬ (a = g_way ∧ b = 6) := fun z => e.2.2.2.2 ⟨Or.inl z.1, z.2⟩
    unfold fE2
    rw [hsetA_other (fun u => hn ⟨congrArg Prod.fst u, congrArg Prod.snd u⟩), hset_other (fun u => hw ⟨congrArg Prod.fst u, congrArg Prod.snd u⟩), hset_other (fun u => hw ⟨congrArg Prod.fst u, congrArg Prod.snd u⟩)]
    unfold fE1
    rw [hset_other (fun u => hb6 ⟨congrArg Prod.fst u, congrArg Prod.snd u⟩), hset_t ha]
    exact hF.1 a b e
theorem film_few {h h2 : Hp} {fd : Int32} (hF : Kp h h2) : KpT h (hset h2 g_oab 0 9 fd) := fun a b e ha => by rw [hset_t ha]; exact hF a b e
theorem flm_stop {ok inb : Nat → Prop} [DecidablePred ok] [DecidablePred inb] {n c : Nat} (h : ¬ ok c) : flF ok inb (n + 1) c = (1, c) := if_neg h
theorem flm_out {ok inb : Nat → Prop} [DecidablePred ok] [DecidablePred inb] {n c : Nat} (h : ok c) (h2 : ¬ inb c) : flF ok inb (n + 1) c = (2, c) := (if_pos h).trans (if_neg h2)
theorem flm_go {ok inb : Nat → Prop} [DecidablePred ok] [DecidablePred inb] {n c : Nat} (h : ok c) (h2 : inb c) : flF ok inb (n + 1) c = flF ok inb n (c + 1) := (if_pos h).trans (if_pos h2)
theorem Fi_go {h h2 : Hp} {k c Z : Nat} {f on : Int32} (hF : Fi h h2 k f on c) (hk : k < 4) (hc : c ≤ 7) : Fi h (rdH h2 k c f 8) k f on (c + 1) := by
  have ec : h2 g_cells k = h g_cells k := hF.1 _ _ (by refine ⟨by decide, by decide, by decide, by decide, fun z => absurd z.1 (by decide)⟩)
  refine ⟨fun a b e => ?_, by rw [rdH_t (by decide)]; exact hF.2.1, fun j hj => ?_⟩
  · unfold rdH
    rw [hsetA_other (fun u => e.2.2.2.2 ⟨Or.inr (congrArg Prod.fst u), congrArg Prod.snd u⟩)]
    exact hF.1 a b e
  · unfold rdH
    rw [hsetA_arr, ec]
    by_cases h1 : 8 * c ≤ j ∧ j < 8 * c + 8
    · rw [if_pos h1, if_pos (by omega)]
    · rw [if_neg h1, hF.2.2 j hj]
      by_cases h2 : j < 8 * c
      · rw [if_pos h2, if_pos (by omega)]
      · rw [if_neg h2, if_neg (by omega)]
theorem Fi_inb {h h2 : Hp} {k c : Nat} {f on : Int32} (hF : Fi h h2 k f on (c + 1)) (hc : c ≤ 7) : inB (h2 g_nums 6) c ↔ inC (h g_cells k) (ixN f) c := by
  have key : ∀ i, i < 8 → h2 g_nums 6 (8 * c + i) = h g_cells k (ixN f + 8 * c + i) := fun i hi => by rw [hF.2.2 _ (by omega), if_pos (by omega), Nat.add_assoc]
  unfold inB inC
  exact ⟨fun z ⟨i, h1, h2⟩ => z ⟨i, h1, by rw [key i h1]; exact h2⟩, fun z ⟨i, h1, h2⟩ => z ⟨i, h1, by rw [← key i h1]; exact h2⟩⟩
set_option maxHeartbeats 4000000 in
theorem C_X7_film {l : Launch} {G : GE} {h : Hp} {w k lane f n on : Int32} {Z : Nat} (hZ : 0 ≤ k ∧ k ≤ 3 → h g_sheet (ixN k) 1 = nI Z) (hZ64 : Z ≤ 64) : CT l G mX7_film [vR g_oab 0, vI w, vI k, vI lane, vI f, vI n, vI on] h (QFilm h Z w k lane f n on) := by
  refine CT.of (lv := [_, _, _, _, _, _, _, _, _]) (by decide +kernel) (Nat.le_of_ble_eq_true rfl) rfl ?_
  refine E_iload_n (pc := 0) 1 dX7_film_0 rfl rfl ?_
  refine E_callS1 (pc := 1) dX7_film_1 C_X7_isWayNumber rfl ks_RX7_100 rfl ⟨Nat.le_of_ble_eq_true rfl, Nat.le_of_ble_eq_true rfl, Nat.le_of_ble_eq_true rfl, Nat.le_of_ble_eq_true rfl⟩ (Nat.le_of_ble_eq_true rfl) ?_
  refine E_if_eq (pc := 4) 31 dX7_film_4 rfl (fun q4 => ?_) (fun q4 => ?_)
  · refine E_iconst (pc := 31) (-1) dX7_film_31 (by decide) ?_
    refine E_iret (pc := 32) dX7_film_32 rfl ?_
    unfold QFilm
    first | (rw [if_neg (fun z => bi_0.mp q4 z.1)]; exact ⟨rfl, rfl⟩) | (rw [if_neg (fun z => bi_0.mp q11 z.2.1)]; exact ⟨rfl, rfl⟩) | (rw [if_neg (fun z => bi_0.mp q18 z.2.2.1)]; exact ⟨rfl, rfl⟩) | (rw [if_neg (fun z => bi_0.mp q28 z.2.2.2)]; exact ⟨rfl, rfl⟩)
  · refine E_iload_n (pc := 7) 2 dX7_film_7 rfl rfl ?_
    refine E_callS1 (pc := 8) dX7_film_8 C_X7_isSheet rfl ks_RX7_286 rfl ⟨Nat.le_of_ble_eq_true rfl, Nat.le_of_ble_eq_true rfl, Nat.le_of_ble_eq_true rfl, Nat.le_of_ble_eq_true rfl⟩ (Nat.le_of_ble_eq_true rfl) ?_
    refine E_if_eq (pc := 11) 31 dX7_film_11 rfl (fun q11 => ?_) (fun q11 => ?_)
    · refine E_iconst (pc := 31) (-1) dX7_film_31 (by decide) ?_
      refine E_iret (pc := 32) dX7_film_32 rfl ?_
      unfold QFilm
      first | (rw [if_neg (fun z => bi_0.mp q4 z.1)]; exact ⟨rfl, rfl⟩) | (rw [if_neg (fun z => bi_0.mp q11 z.2.1)]; exact ⟨rfl, rfl⟩) | (rw [if_neg (fun z => bi_0.mp q18 z.2.2.1)]; exact ⟨rfl, rfl⟩) | (rw [if_neg (fun z => bi_0.mp q28 z.2.2.2)]; exact ⟨rfl, rfl⟩)
    · refine E_iload_n (pc := 14) 3 dX7_film_14 rfl rfl ?_
      refine E_callS1 (pc := 15) dX7_film_15 C_X4_isLane rfl ks_RX7_289 rfl ⟨Nat.le_of_ble_eq_true rfl, Nat.le_of_ble_eq_true rfl, Nat.le_of_ble_eq_true rfl, Nat.le_of_ble_eq_true rfl⟩ (Nat.le_of_ble_eq_true rfl) ?_
      refine E_if_eq (pc := 18) 31 dX7_film_18 rfl (fun q18 => ?_) (fun q18 => ?_)
      · refine E_iconst (pc := 31) (-1) dX7_film_31 (by decide) ?_
        refine E_iret (pc := 32) dX7_film_32 rfl ?_
        unfold QFilm
        first | (rw [if_neg (fun z => bi_0.mp q4 z.1)]; exact ⟨rfl, rfl⟩) | (rw [if_neg (fun z => bi_0.mp q11 z.2.1)]; exact ⟨rfl, rfl⟩) | (rw [if_neg (fun z => bi_0.mp q18 z.2.2.1)]; exact ⟨rfl, rfl⟩) | (rw [if_neg (fun z => bi_0.mp q28 z.2.2.2)]; exact ⟨rfl, rfl⟩)
      · refine E_iload (pc := 21) 5 dX7_film_21 rfl ?_
        refine E_iload (pc := 23) 6 dX7_film_23 rfl ?_
        refine E_callS1 (pc := 25) dX7_film_25 C_X6_canHave rfl ks_RX7_104 rfl ⟨Nat.le_of_ble_eq_true rfl, Nat.le_of_ble_eq_true rfl, Nat.le_of_ble_eq_true rfl, Nat.le_of_ble_eq_true rfl⟩ (Nat.le_of_ble_eq_true rfl) ?_
        refine E_if_ne (pc := 28) 33 dX7_film_28 rfl (fun q28 => ?_) (fun q28 => ?_)
        · have hok : okFilm w k lane n on := ⟨Decidable.of_not_not (fun z => q4 (bi_0.mpr z)), Decidable.of_not_not (fun z => q11 (bi_0.mpr z)), Decidable.of_not_not (fun z => q18 (bi_0.mpr z)), Decidable.of_not_not (fun z => q28 (bi_0.mpr z))⟩
          have hx : vp_in w 6 := ixl 5 hok.1.1 hok.1.2 (by decide)
          have hxk : vp_in k 4 := ixl 3 hok.2.1.1 hok.2.1.2 (by decide)
          have hkw := ixN_lt hx
          have hkk := ixN_lt hxk
          have hZ := hZ hok.2.1
          obtain ⟨m, hm, rfl⟩ := natof (x := n) 8 (by decide) (Int32.le_trans (by decide) hok.2.2.2.1.1) hok.2.2.2.1.2
          have hm2 : 2 ≤ m := (nI_leI (a := 2) (by decide) (by omega)).mp hok.2.2.2.1.1
          have em : ixN (nI m) = m := ixN_nI (by omega)
          refine E_aload_n (pc := 33) 0 dX7_film_33 rfl rfl ?_
          refine E_getR0 (pc := 34) dX7_film_34 fl_RX7_63 rfl rfl ?_
          refine E_iload_n (pc := 37) 2 dX7_film_37 rfl rfl ?_
          refine E_aald (pc := 38) dX7_film_38 rfl ⟨_, fun _ => rfl⟩ hxk ?_
          refine E_iload_n (pc := 39) 3 dX7_film_39 rfl rfl ?_
          refine E_callV1 (pc := 40) dX7_film_40 C_X4_faultAs rfl kv_RX7_302 rfl rfl rfl ⟨Nat.le_of_ble_eq_true rfl, Nat.le_of_ble_eq_true rfl, Nat.le_of_ble_eq_true rfl, Nat.le_of_ble_eq_true rfl⟩ (Nat.le_of_ble_eq_true rfl) ?_
          refine E_top (y := fdA h (ixN k) lane) rfl ?_
          refine E_istore (pc := 43) 7 dX7_film_43 (Nat.le_of_ble_eq_true rfl) rfl (lz := [_, _, _, _, _, _, _, _, _]) rfl ?_
          refine E_iconst (pc := 45) (0) dX7_film_45 (by decide) ?_
          refine E_istore (pc := 46) 8 dX7_film_46 (Nat.le_of_ble_eq_true rfl) rfl (lz := [_, _, _, _, _, _, _, _, _]) rfl ?_
          refine E_aload_n (pc := 48) 0 dX7_film_48 rfl rfl ?_
          refine E_getRJ (pc := 49) dX7_film_49 fl_RX7_37 rfl rfl ?_
          refine E_iload (pc := 52) 5 dX7_film_52 rfl ?_
          refine E_iload (pc := 54) 6 dX7_film_54 rfl ?_
          refine E_callV0 (pc := 56) dX7_film_56 C_X6_begin rfl kv_RX7_111 rfl rfl rfl ⟨Nat.le_of_ble_eq_true rfl, Nat.le_of_ble_eq_true rfl, Nat.le_of_ble_eq_true rfl, Nat.le_of_ble_eq_true rfl⟩ (Nat.le_of_ble_eq_true rfl) ?_
          generalize hh1 : clr (hset (hset h g_way 6 1 (nI m)) g_way 6 2 on) g_nums 6 64 = h1
          have f1 : Fi h h1 (ixN k) f on 0 := ⟨fun a b e => by rw [← hh1]; unfold clr; rw [hsetA_other (fun u => e.2.2.2.2 ⟨Or.inr (congrArg Prod.fst u), congrArg Prod.snd u⟩), hset_other (fun u => e.2.2.2.2 ⟨Or.inl (congrArg Prod.fst u), congrArg Prod.snd u⟩), hset_other (fun u => e.2.2.2.2 ⟨Or.inl (congrArg Prod.fst u), congrArg Prod.snd u⟩)], by rw [← hh1]; unfold clr; rw [hsetA_t (by decide)]; exact hset_eq _ _ _ _ _, fun j hj => by rw [← hh1]; unfold clr; rw [hsetA_arr, if_pos hj, if_neg (by omega)]⟩
          by_cases hfd : fdA h (ixN k) lane = 0
          · refine E_eq (lv' := [some (vR g_oab 0), some (vI w), some (vI k), some (vI lane), some (vI f), some (vI (nI m)), some (vI on), some (vI 0), some (vI (nI 0))]) (by rw [hfd]; rfl) rfl rfl ?_
            refine down (P := fun c => ∀ h2, Fi h h2 (ixN k) f on c → flF (fun c => rdOk Z c f) (fun c => inC (h g_cells (ixN k)) (ixN f) c) (m - c) c = flmA h (ixN k) Z f m → Ev l G mX7_film _ 59 [some (vR g_oab 0), some (vI w), some (vI k), some (vI lane), some (vI f), some (vI (nI m)), some (vI on), some (vI 0), some (vI (nI c))] [] h2) m ?_ ?_ 0 (Nat.zero_le _) h1 f1 rfl
            · intro h2 hF hfl
              rw [Nat.sub_self] at hfl
              refine E_iload (pc := 59) 8 dX7_film_59 rfl ?_
              refine E_iload (pc := 61) 5 dX7_film_61 rfl ?_
              refine E_icmp_ge (pc := 63) 122 dX7_film_63 rfl (fun q63 => ?_) (fun q63 => absurd (Int32.le_refl _) q63)
              refine E_aload_n (pc := 122) 0 dX7_film_122 rfl rfl ?_
              refine E_iload (pc := 123) 7 dX7_film_123 rfl ?_
              refine E_put (pc := 125) dX7_film_125 fp_RX7_312 rfl rfl ?_
              refine E_iload (pc := 128) 8 dX7_film_128 rfl ?_
              refine E_iconst (pc := 130) (2) dX7_film_130 (by decide) ?_
              refine E_icmp_ge (pc := 131) 136 dX7_film_131 rfl (fun q131 => ?_) (fun q131 => absurd (nI_le (a := 2) hm2 (by omega)) q131)
              refine E_aload_n (pc := 136) 0 dX7_film_136 rfl rfl ?_
              refine E_getRJ (pc := 137) dX7_film_137 fl_RX7_37 rfl rfl ?_
              refine E_iload (pc := 140) 8 dX7_film_140 rfl ?_
              refine E_put (pc := 142) dX7_film_142 fp_RX7_108 rfl rfl ?_
              refine E_aload_n (pc := 145) 0 dX7_film_145 rfl rfl ?_
              refine E_getR0 (pc := 146) dX7_film_146 fl_RX7_32 rfl rfl ?_
              refine E_iload_n (pc := 149) 1 dX7_film_149 rfl rfl ?_
              refine E_aald (pc := 150) dX7_film_150 rfl ⟨_, fun _ => rfl⟩ hx ?_
              refine E_aload_n (pc := 151) 0 dX7_film_151 rfl rfl ?_
              refine E_getRJ (pc := 152) dX7_film_152 fl_RX7_37 rfl rfl ?_
              refine E_callV0 (pc := 155) dX7_film_155 C_X6_become rfl kv_RX7_134 rfl rfl rfl ⟨Nat.le_of_ble_eq_true rfl, Nat.le_of_ble_eq_true rfl, Nat.le_of_ble_eq_true rfl, Nat.le_of_ble_eq_true rfl⟩ (Nat.le_of_ble_eq_true rfl) ?_
              refine E_iload (pc := 158) 8 dX7_film_158 rfl ?_
              refine E_iret (pc := 160) dX7_film_160 rfl ?_
              unfold QFilm
              have hfl2 : flmA h (ixN k) Z f m = (0, m) := hfl.symm
              rw [if_pos hok, if_pos hfd, em, hfl2, if_neg (show ¬ (0 : Nat) = 2 by decide), if_neg (show ¬ (0, m).2 < 2 from Nat.not_lt.mpr hm2)]
              obtain ⟨r1, r2, r3, r4, r5⟩ := film_end (fd := 0) hkw hF
              exact ⟨r1, rfl, r2, r3, r4, r5⟩
            · intro c hc hn h2 hF hfl
              rw [show m - c = (m - (c + 1)) + 1 by omega] at hfl
              have ez : h2 g_sheet (ixN k) 1 = nI Z := by rw [hF.1 g_sheet (ixN k) (by refine ⟨by decide, by decide, by decide, by decide, fun z => absurd z.1 (by decide)⟩)]; exact hZ
              by_cases hrd : rdOk Z c f
              · have hG := Fi_go (Z := Z) hF hkk (by omega)
                refine E_iload (pc := 59) 8 dX7_film_59 rfl ?_
                refine E_iload (pc := 61) 5 dX7_film_61 rfl ?_
                refine E_icmp_ge (pc := 63) 122 dX7_film_63 rfl (fun q63 => absurd q63 (nI_ge hc (by omega))) (fun q63 => ?_)
                refine E_iload (pc := 66) 7 dX7_film_66 rfl ?_
                refine E_if_ne (pc := 68) 122 dX7_film_68 rfl (fun q68 => absurd rfl q68) (fun q68 => ?_)
                refine E_aload_n (pc := 71) 0 dX7_film_71 rfl rfl ?_
                refine E_getR0 (pc := 72) dX7_film_72 fl_RX7_63 rfl rfl ?_
                refine E_iload_n (pc := 75) 2 dX7_film_75 rfl rfl ?_
                refine E_aald (pc := 76) dX7_film_76 rfl ⟨_, fun _ => rfl⟩ hxk ?_
                refine E_iload (pc := 77) 4 dX7_film_77 rfl ?_
                refine E_iload (pc := 79) 8 dX7_film_79 rfl ?_
                refine E_aload_n (pc := 81) 0 dX7_film_81 rfl rfl ?_
                refine E_getRJ (pc := 82) dX7_film_82 fl_RX7_37 rfl rfl ?_
                refine E_getR0 (pc := 85) dX7_film_85 fl_RX7_125 rfl rfl ?_
                refine E_callV1 (pc := 88) dX7_film_88 (C_X4_readTenth ez hZ64 (by omega)) rfl kv_RX7_305 rfl rfl rfl ⟨Nat.le_of_ble_eq_true rfl, Nat.le_of_ble_eq_true rfl, Nat.le_of_ble_eq_true rfl, Nat.le_of_ble_eq_true rfl⟩ (Nat.le_of_ble_eq_true rfl) ?_
                refine E_eq (st' := [vI 0]) rfl (by rw [if_pos hrd]) (by rw [if_pos hrd]) ?_
                refine E_istore (pc := 91) 7 dX7_film_91 (Nat.le_of_ble_eq_true rfl) rfl (lz := [_, _, _, _, _, _, _, _, _]) rfl ?_
                refine E_iload (pc := 93) 7 dX7_film_93 rfl ?_
                refine E_if_ne (pc := 95) 59 dX7_film_95 rfl (fun q95 => absurd rfl q95) (fun q95 => ?_)
                refine E_aload_n (pc := 98) 0 dX7_film_98 rfl rfl ?_
                refine E_getRJ (pc := 99) dX7_film_99 fl_RX7_37 rfl rfl ?_
                refine E_iload (pc := 102) 8 dX7_film_102 rfl ?_
                refine E_callV1 (pc := 104) dX7_film_104 (C_X6_isTenthInBounds (by omega)) rfl kv_RX7_309 rfl rfl rfl ⟨Nat.le_of_ble_eq_true rfl, Nat.le_of_ble_eq_true rfl, Nat.le_of_ble_eq_true rfl, Nat.le_of_ble_eq_true rfl⟩ (Nat.le_of_ble_eq_true rfl) ?_
                refine E_if_ne (pc := 107) 116 dX7_film_107 rfl (fun q107 => ?_) (fun q107 => ?_)
                · have hib : inC (h g_cells (ixN k)) (ixN f) c := (Fi_inb hG (by omega)).mp (Decidable.of_not_not (fun z => q107 (bi_0.mpr z)))
                  refine E_iincN (pc := 116) 8 dX7_film_116 (Nat.le_of_ble_eq_true rfl) rfl rfl (lz := [_, _, _, _, _, _, _, _, _]) rfl ?_
                  refine E_goto (pc := 119) 59 dX7_film_119 rfl ?_
                  rw [flm_go hrd hib] at hfl
                  exact hn _ hG hfl
                · have hib : ¬ inC (h g_cells (ixN k)) (ixN f) c := fun z => bi_0.mp q107 ((Fi_inb hG (by omega)).mpr z)
                  refine E_bipush (pc := 110) (-20) dX7_film_110 (by decide) ?_
                  refine E_iload (pc := 112) 8 dX7_film_112 rfl ?_
                  refine E_isub (pc := 114) dX7_film_114 ?_
                  refine E_iret (pc := 115) dX7_film_115 rfl ?_
                  rw [flm_out hrd hib] at hfl
                  unfold QFilm
                  rw [if_pos hok, if_pos hfd, em, ← hfl, if_pos rfl]
                  exact ⟨rfl, hG.1⟩
              · rw [flm_stop hrd] at hfl
                refine E_iload (pc := 59) 8 dX7_film_59 rfl ?_
                refine E_iload (pc := 61) 5 dX7_film_61 rfl ?_
                refine E_icmp_ge (pc := 63) 122 dX7_film_63 rfl (fun q63 => absurd q63 (nI_ge hc (by omega))) (fun q63 => ?_)
                refine E_iload (pc := 66) 7 dX7_film_66 rfl ?_
                refine E_if_ne (pc := 68) 122 dX7_film_68 rfl (fun q68 => absurd rfl q68) (fun q68 => ?_)
                refine E_aload_n (pc := 71) 0 dX7_film_71 rfl rfl ?_
                refine E_getR0 (pc := 72) dX7_film_72 fl_RX7_63 rfl rfl ?_
                refine E_iload_n (pc := 75) 2 dX7_film_75 rfl rfl ?_
                refine E_aald (pc := 76) dX7_film_76 rfl ⟨_, fun _ => rfl⟩ hxk ?_
                refine E_iload (pc := 77) 4 dX7_film_77 rfl ?_
                refine E_iload (pc := 79) 8 dX7_film_79 rfl ?_
                refine E_aload_n (pc := 81) 0 dX7_film_81 rfl rfl ?_
                refine E_getRJ (pc := 82) dX7_film_82 fl_RX7_37 rfl rfl ?_
                refine E_getR0 (pc := 85) dX7_film_85 fl_RX7_125 rfl rfl ?_
                refine E_callV1 (pc := 88) dX7_film_88 (C_X4_readTenth ez hZ64 (by omega)) rfl kv_RX7_305 rfl rfl rfl ⟨Nat.le_of_ble_eq_true rfl, Nat.le_of_ble_eq_true rfl, Nat.le_of_ble_eq_true rfl, Nat.le_of_ble_eq_true rfl⟩ (Nat.le_of_ble_eq_true rfl) ?_
                refine E_eq (st' := [vI 2]) rfl (by rw [if_neg hrd]) (by rw [if_neg hrd]) ?_
                refine E_istore (pc := 91) 7 dX7_film_91 (Nat.le_of_ble_eq_true rfl) rfl (lz := [_, _, _, _, _, _, _, _, _]) rfl ?_
                refine E_iload (pc := 93) 7 dX7_film_93 rfl ?_
                refine E_if_ne (pc := 95) 59 dX7_film_95 rfl (fun q95 => ?_) (fun q95 => absurd q95 (by decide))
                refine E_iload (pc := 59) 8 dX7_film_59 rfl ?_
                refine E_iload (pc := 61) 5 dX7_film_61 rfl ?_
                refine E_icmp_ge (pc := 63) 122 dX7_film_63 rfl (fun q63 => absurd q63 (nI_ge hc (by omega))) (fun q63 => ?_)
                refine E_iload (pc := 66) 7 dX7_film_66 rfl ?_
                refine E_if_ne (pc := 68) 122 dX7_film_68 rfl (fun q68 => ?_) (fun q68 => absurd q68 (by decide))
                refine E_aload_n (pc := 122) 0 dX7_film_122 rfl rfl ?_
                refine E_iload (pc := 123) 7 dX7_film_123 rfl ?_
                refine E_put (pc := 125) dX7_film_125 fp_RX7_312 rfl rfl ?_
                refine E_iload (pc := 128) 8 dX7_film_128 rfl ?_
                refine E_iconst (pc := 130) (2) dX7_film_130 (by decide) ?_
                refine E_icmp_ge (pc := 131) 136 dX7_film_131 rfl (fun q131 => ?_) (fun q131 => ?_)
                · have hc2 : ¬ c < 2 := Nat.not_lt.mpr ((nI_leI (a := 2) (by decide) (by omega)).mp q131)
                  refine E_aload_n (pc := 136) 0 dX7_film_136 rfl rfl ?_
                  refine E_getRJ (pc := 137) dX7_film_137 fl_RX7_37 rfl rfl ?_
                  refine E_iload (pc := 140) 8 dX7_film_140 rfl ?_
                  refine E_put (pc := 142) dX7_film_142 fp_RX7_108 rfl rfl ?_
                  refine E_aload_n (pc := 145) 0 dX7_film_145 rfl rfl ?_
                  refine E_getR0 (pc := 146) dX7_film_146 fl_RX7_32 rfl rfl ?_
                  refine E_iload_n (pc := 149) 1 dX7_film_149 rfl rfl ?_
                  refine E_aald (pc := 150) dX7_film_150 rfl ⟨_, fun _ => rfl⟩ hx ?_
                  refine E_aload_n (pc := 151) 0 dX7_film_151 rfl rfl ?_
                  refine E_getRJ (pc := 152) dX7_film_152 fl_RX7_37 rfl rfl ?_
                  refine E_callV0 (pc := 155) dX7_film_155 C_X6_become rfl kv_RX7_134 rfl rfl rfl ⟨Nat.le_of_ble_eq_true rfl, Nat.le_of_ble_eq_true rfl, Nat.le_of_ble_eq_true rfl, Nat.le_of_ble_eq_true rfl⟩ (Nat.le_of_ble_eq_true rfl) ?_
                  refine E_iload (pc := 158) 8 dX7_film_158 rfl ?_
                  refine E_iret (pc := 160) dX7_film_160 rfl ?_
                  unfold QFilm
                  rw [if_pos hok, if_pos hfd, em, ← hfl, if_neg (show ¬ (1 : Nat) = 2 by decide), if_neg (show ¬ ((1 : Nat), c).2 < 2 from hc2)]
                  obtain ⟨r1, r2, r3, r4, r5⟩ := film_end (fd := 2) hkw hF
                  exact ⟨r1, rfl, r2, r3, r4, r5⟩
                · have hc2 : c < 2 := Nat.not_le.mp (fun z => q131 (nI_le (a := 2) z (by omega)))
                  refine E_iconst (pc := 134) (0) dX7_film_134 (by decide) ?_
                  refine E_iret (pc := 135) dX7_film_135 rfl ?_
                  unfold QFilm
                  rw [if_pos hok, if_pos hfd, em, ← hfl, if_neg (show ¬ (1 : Nat) = 2 by decide), if_pos (show ((1 : Nat), c).2 < 2 from hc2)]
                  exact ⟨hset_eq _ _ _ _ _, rfl, film_few hF.1⟩
          · refine E_iload (pc := 59) 8 dX7_film_59 rfl ?_
            refine E_iload (pc := 61) 5 dX7_film_61 rfl ?_
            refine E_icmp_ge (pc := 63) 122 dX7_film_63 rfl (fun q63 => absurd q63 (nI_ge (a := 0) (by omega) (by omega))) (fun q63 => ?_)
            refine E_iload (pc := 66) 7 dX7_film_66 rfl ?_
            refine E_if_ne (pc := 68) 122 dX7_film_68 rfl (fun q68 => ?_) (fun q68 => absurd q68 hfd)
            refine E_aload_n (pc := 122) 0 dX7_film_122 rfl rfl ?_
            refine E_iload (pc := 123) 7 dX7_film_123 rfl ?_
            refine E_put (pc := 125) dX7_film_125 fp_RX7_312 rfl rfl ?_
            refine E_iload (pc := 128) 8 dX7_film_128 rfl ?_
            refine E_iconst (pc := 130) (2) dX7_film_130 (by decide) ?_
            refine E_icmp_ge (pc := 131) 136 dX7_film_131 rfl (fun q131 => absurd q131 (by decide)) (fun q131 => ?_)
            refine E_iconst (pc := 134) (0) dX7_film_134 (by decide) ?_
            refine E_iret (pc := 135) dX7_film_135 rfl ?_
            unfold QFilm
            rw [if_pos hok, if_neg hfd]
            exact ⟨rfl, hset_eq _ _ _ _ _, film_few f1.1⟩
        · refine E_iconst (pc := 31) (-1) dX7_film_31 (by decide) ?_
          refine E_iret (pc := 32) dX7_film_32 rfl ?_
          unfold QFilm
          first | (rw [if_neg (fun z => bi_0.mp q4 z.1)]; exact ⟨rfl, rfl⟩) | (rw [if_neg (fun z => bi_0.mp q11 z.2.1)]; exact ⟨rfl, rfl⟩) | (rw [if_neg (fun z => bi_0.mp q18 z.2.2.1)]; exact ⟨rfl, rfl⟩) | (rw [if_neg (fun z => bi_0.mp q28 z.2.2.2)]; exact ⟨rfl, rfl⟩)
