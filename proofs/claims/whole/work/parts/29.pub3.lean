/-! the class: valley, best, suits -/
theorem landF_congr {N N' : Nat → Int32} {T : Nat} (hT1 : 1 ≤ T) (e : ∀ j, j < 8 * T → N j = N' j) : ∀ p, p ≤ 3 → landF N T p = landF N' T p
  | 0, _ => rfl
  | p + 1, hp => by
    obtain ⟨j, hj, ej⟩ := landF_or N' T p
    unfold landF
    rw [landF_congr hT1 e p (by omega), ej, ixN_nI (by omega), e _ (by omega), e _ (by omega)]
theorem sWhy_congr {V N N' : Nat → Int32} {T : Nat} {F : Int32} (hT1 : 1 ≤ T) (e : ∀ j, j < 8 * T → N j = N' j) : sWhy V N T F = sWhy V N' T F := by
  unfold sWhy
  rw [whyA_congr (b' := fun t => bi (sBent V N' t)) (hs' := fun t => bi (sHasty V N' T t)) (fun t ht => bi_congr (sBent_congr (fun i hi => e _ (by omega)))) (fun t ht => bi_congr ?_)]
  · unfold whyA
    have : bearsA N T (V 15) ↔ bearsA N' T (V 15) := by unfold bearsA; rw [landF_congr hT1 e 3 (by omega)]
    by_cases c1 : ∃ t, t < T ∧ ¬ bi (sBent V N' t) = 0
    · rw [if_pos c1, if_pos c1]
    · rw [if_neg c1, if_neg c1]
      by_cases c2 : ∃ t, t < T ∧ ¬ bi (sHasty V N' T t) = 0
      · rw [if_pos c2, if_pos c2]
      · rw [if_neg c2, if_neg c2]
        by_cases c3 : V 14 < F
        · rw [if_pos c3, if_pos c3]
        · rw [if_neg c3, if_neg c3]
          by_cases c4 : bearsA N T (V 15)
          · rw [if_pos c4, if_pos (this.mp c4)]
          · rw [if_neg c4, if_neg (fun z => c4 (this.mpr z))]
  · by_cases hl : t + 1 < T
    · exact sHasty_congr (fun i hi => e _ (by omega))
    · exact ⟨fun z => absurd z.1 hl, fun z => absurd z.1 hl⟩
theorem sHigh_congr {V N N' : Nat → Int32} {T : Nat} (hT1 : 1 ≤ T) (hT8 : T ≤ 8) (e : ∀ j, j < 8 * T → N j = N' j) : sHigh V N T = sHigh V N' T := by
  unfold sHigh
  exact clearsA_congr hT1 hT8 (fun t ht => sLA_congr (fun i hi => e _ (by omega)) 4 (by omega)) (fun t ht => sMA_congr (fun i hi => e _ (by omega)) 4 (by omega)) (fun t ht => sLU_congr (fun i hi => e _ (by omega)) 4 (by omega))
theorem sWorth_congr {V N N' : Nat → Int32} {T : Nat} {F : Int32} (hT1 : 1 ≤ T) (hT8 : T ≤ 8) (e : ∀ j, j < 8 * T → N j = N' j) : sWorth V N T F = sWorth V N' T F := by
  unfold sWorth
  rw [sWhy_congr hT1 e, sHigh_congr hT1 hT8 e]
theorem valF_congr {V f f' g g' : Nat → Int32} {T : Nat} {F : Int32} (hT1 : 1 ≤ T) (hT8 : T ≤ 8) (e : ∀ j, j < 8 * T → f j = f' j) (e2 : ∀ j, j < 8 * T → g j = g' j) : ∀ i, i ≤ 8 * T → valF V f g T F i = valF V f' g' T F i
  | 0, _ => sWorth_congr hT1 hT8 e
  | i + 1, hi => by
    unfold valF
    rw [valF_congr hT1 hT8 e e2 i (by omega), e i (by omega), e2 i (by omega), sWorth_congr (N := mix f g (i + 1)) (N' := mix f' g' (i + 1)) hT1 hT8 (fun j hj => by unfold mix; rw [e j hj, e2 j hj])]
theorem cpy_lt {f g : Nat → Int32} {j n : Nat} (h : j < n) : va_cpy f g 0 0 n j = f j := by rw [pk_cpy_in (Nat.zero_le j) (by omega)]; congr 1; omega
def sValley (V f g : Nat → Int32) (T : Nat) (F : Int32) : Int32 := valF V f g T F (8 * T)
set_option maxHeartbeats 1600000 in
theorem C_X7_valley {l : Launch} {G : GE} {h : Hp} {w z a : Int32} (hI : WT h) : CT l G mX7_valley [vR g_oab 0, vI w, vI z, vI a] h (fun r h' => r = some (if isW h w ∧ isW h z ∧ 0 ≤ a ∧ a ≤ 1 then (if h g_way (ixN w) 1 = h g_way (ixN z) 1 then (if a = 1 then nI (unl (h g_nums (ixN w)) (h g_nums (ixN z)) (8 * ixN (h g_way (ixN w) 1))) else sValley (h g_values 0) (h g_nums (ixN w)) (h g_nums (ixN z)) (ixN (h g_way (ixN w) 1)) (h g_way (ixN w) 2)) else -2) else -1) ∧ Kp h h') := by
  refine CT.of (lv := [_, _, _, _]) (by decide +kernel) (Nat.le_of_ble_eq_true rfl) rfl ?_
  refine E_aload_n (pc := 0) 0 dX7_valley_0 rfl rfl ?_
  refine E_iload_n (pc := 1) 1 dX7_valley_1 rfl rfl ?_
  refine E_callV1 (pc := 2) dX7_valley_2 C_X7_isWay rfl kv_RX7_128 rfl rfl rfl ⟨Nat.le_of_ble_eq_true rfl, Nat.le_of_ble_eq_true rfl, Nat.le_of_ble_eq_true rfl, Nat.le_of_ble_eq_true rfl⟩ (Nat.le_of_ble_eq_true rfl) ?_
  refine E_if_eq (pc := 5) 25 dX7_valley_5 rfl (fun q5 => ?_) (fun q5 => ?_)
  · refine E_iconst (pc := 25) (-1) dX7_valley_25 (by decide) ?_
    refine E_iret (pc := 26) dX7_valley_26 rfl ?_
    first | exact ⟨by rw [if_neg (fun y => bi_0.mp q5 y.1)], Kp.rfl⟩ | exact ⟨by rw [if_neg (fun y => bi_0.mp q13 y.2.1)], Kp.rfl⟩ | exact ⟨by rw [if_neg (fun y => bi_0.mp q22 y.2.2)], Kp.rfl⟩
  · refine E_aload_n (pc := 8) 0 dX7_valley_8 rfl rfl ?_
    refine E_iload_n (pc := 9) 2 dX7_valley_9 rfl rfl ?_
    refine E_callV1 (pc := 10) dX7_valley_10 C_X7_isWay rfl kv_RX7_128 rfl rfl rfl ⟨Nat.le_of_ble_eq_true rfl, Nat.le_of_ble_eq_true rfl, Nat.le_of_ble_eq_true rfl, Nat.le_of_ble_eq_true rfl⟩ (Nat.le_of_ble_eq_true rfl) ?_
    refine E_if_eq (pc := 13) 25 dX7_valley_13 rfl (fun q13 => ?_) (fun q13 => ?_)
    · refine E_iconst (pc := 25) (-1) dX7_valley_25 (by decide) ?_
      refine E_iret (pc := 26) dX7_valley_26 rfl ?_
      first | exact ⟨by rw [if_neg (fun y => bi_0.mp q5 y.1)], Kp.rfl⟩ | exact ⟨by rw [if_neg (fun y => bi_0.mp q13 y.2.1)], Kp.rfl⟩ | exact ⟨by rw [if_neg (fun y => bi_0.mp q22 y.2.2)], Kp.rfl⟩
    · refine E_iload_n (pc := 16) 3 dX7_valley_16 rfl rfl ?_
      refine E_iconst (pc := 17) (0) dX7_valley_17 (by decide) ?_
      refine E_iconst (pc := 18) (1) dX7_valley_18 (by decide) ?_
      refine E_callS1 (pc := 19) dX7_valley_19 C_X7_within rfl ks_RX7_76 rfl ⟨Nat.le_of_ble_eq_true rfl, Nat.le_of_ble_eq_true rfl, Nat.le_of_ble_eq_true rfl, Nat.le_of_ble_eq_true rfl⟩ (Nat.le_of_ble_eq_true rfl) ?_
      refine E_if_ne (pc := 22) 27 dX7_valley_22 rfl (fun q22 => ?_) (fun q22 => ?_)
      · have hw : isW h w := Decidable.of_not_not (fun y => q5 (bi_0.mpr y))
        have hz : isW h z := Decidable.of_not_not (fun y => q13 (bi_0.mpr y))
        have ha : 0 ≤ a ∧ a ≤ 1 := Decidable.of_not_not (fun y => q22 (bi_0.mpr y))
        obtain ⟨T, hT1, hT8, hT, hTi, hk, hx⟩ := hI.get hw
        obtain ⟨T', _, _, _, _, hk', hx'⟩ := hI.get hz
        refine E_aload_n (pc := 27) 0 dX7_valley_27 rfl rfl ?_
        refine E_getR0 (pc := 28) dX7_valley_28 fl_RX7_32 rfl rfl ?_
        refine E_iload_n (pc := 31) 1 dX7_valley_31 rfl rfl ?_
        refine E_aald (pc := 32) dX7_valley_32 rfl ⟨_, fun _ => rfl⟩ hx ?_
        refine E_getI (pc := 33) dX7_valley_33 fl_RX7_108 rfl rfl ?_
        refine E_aload_n (pc := 36) 0 dX7_valley_36 rfl rfl ?_
        refine E_getR0 (pc := 37) dX7_valley_37 fl_RX7_32 rfl rfl ?_
        refine E_iload_n (pc := 40) 2 dX7_valley_40 rfl rfl ?_
        refine E_aald (pc := 41) dX7_valley_41 rfl ⟨_, fun _ => rfl⟩ hx' ?_
        refine E_getI (pc := 42) dX7_valley_42 fl_RX7_108 rfl rfl ?_
        refine E_icmp_eq (pc := 45) 51 dX7_valley_45 rfl (fun q45 => ?_) (fun q45 => ?_)
        · refine E_iload_n (pc := 51) 3 dX7_valley_51 rfl rfl ?_
          refine E_iconst (pc := 52) (1) dX7_valley_52 (by decide) ?_
          refine E_icmp_ne (pc := 53) 72 dX7_valley_53 rfl (fun q53 => ?_) (fun q53 => ?_)
          · refine E_aload_n (pc := 72) 0 dX7_valley_72 rfl rfl ?_
            refine E_getRJ (pc := 73) dX7_valley_73 fl_RX7_37 rfl rfl ?_
            refine E_aload_n (pc := 76) 0 dX7_valley_76 rfl rfl ?_
            refine E_getR0 (pc := 77) dX7_valley_77 fl_RX7_32 rfl rfl ?_
            refine E_iload_n (pc := 80) 1 dX7_valley_80 rfl rfl ?_
            refine E_aald (pc := 81) dX7_valley_81 rfl ⟨_, fun _ => rfl⟩ hx ?_
            refine E_callV0 (pc := 82) dX7_valley_82 C_X6_become rfl kv_RX7_134 rfl rfl rfl ⟨Nat.le_of_ble_eq_true rfl, Nat.le_of_ble_eq_true rfl, Nat.le_of_ble_eq_true rfl, Nat.le_of_ble_eq_true rfl⟩ (Nat.le_of_ble_eq_true rfl) ?_
            generalize hh2 : hsetA (hset (hset h g_way 6 1 (h g_way (ixN w) 1)) g_way 6 2 (hset h g_way 6 1 (h g_way (ixN w) 1) g_way (ixN w) 2)) g_nums 6 (va_cpy (h g_nums (ixN w)) (h g_nums 6) 0 0 64) = h2
            have kp2 : Kp h h2 := fun x y e => by rw [← hh2, hsetA_other (fun u => e.2.2.2.2 ⟨Or.inr (congrArg Prod.fst u), congrArg Prod.snd u⟩), hset_other (fun u => e.2.2.2.2 ⟨Or.inl (congrArg Prod.fst u), congrArg Prod.snd u⟩), hset_other (fun u => e.2.2.2.2 ⟨Or.inl (congrArg Prod.fst u), congrArg Prod.snd u⟩)]
            have t1 : h2 g_way 6 1 = nI T := by rw [← hh2, hsetA_t (by decide), hset_k (by decide), hset_eq]; exact hT
            have t2 : h2 g_way 6 2 = h g_way (ixN w) 2 := by rw [← hh2, hsetA_t (by decide), hset_eq]; exact congrFun (hset_other (t := g_way) (i := 6) (t' := g_way) (i' := ixN w) (fun u => absurd (congrArg Prod.snd u) (show ixN w ≠ 6 by omega))) 2
            have t3 : h2 g_nums 6 = va_cpy (h g_nums (ixN w)) (h g_nums 6) 0 0 64 := by rw [← hh2, hsetA_arr]
            have t4 : h2 g_nums (ixN z) = h g_nums (ixN z) := kp2 _ _ (by refine ⟨by decide, by decide, by decide, by decide, by omega⟩)
            have t5 : h2 g_values 0 = h g_values 0 := kp2 _ _ (by decide)
            refine E_aload_n (pc := 85) 0 dX7_valley_85 rfl rfl ?_
            refine E_getR0 (pc := 86) dX7_valley_86 fl_RX7_46 rfl rfl ?_
            refine E_aload_n (pc := 89) 0 dX7_valley_89 rfl rfl ?_
            refine E_getRJ (pc := 90) dX7_valley_90 fl_RX7_37 rfl rfl ?_
            refine E_aload_n (pc := 93) 0 dX7_valley_93 rfl rfl ?_
            refine E_getR0 (pc := 94) dX7_valley_94 fl_RX7_32 rfl rfl ?_
            refine E_iload_n (pc := 97) 2 dX7_valley_97 rfl rfl ?_
            refine E_aald (pc := 98) dX7_valley_98 rfl ⟨_, fun _ => rfl⟩ hx' ?_
            refine E_callV (pc := 99) dX7_valley_99 (C_X0_leastOnTheWay (by omega) t1 t2 hT1 hT8) rfl kv_RX7_208 rfl rfl rfl ⟨Nat.le_of_ble_eq_true rfl, Nat.le_of_ble_eq_true rfl, Nat.le_of_ble_eq_true rfl, Nat.le_of_ble_eq_true rfl⟩ (Nat.le_of_ble_eq_true rfl) ?_
            rintro _ h4 ⟨rfl, s1, s2⟩
            refine E_iret (pc := 102) dX7_valley_102 rfl ?_
            refine ⟨?_, kp2.trans (fun x y e => ?_)⟩
            · rw [if_pos (show isW h w ∧ isW h z ∧ 0 ≤ a ∧ a ≤ 1 from ⟨hw, hz, ha⟩), if_pos q45, if_neg q53, hTi, t3, t4, t5]
              exact congrArg some (valF_congr hT1 hT8 (fun j hj => cpy_lt (by omega)) (fun _ _ => rfl) (8 * T) (Nat.le_refl _))
            · by_cases ex : x = g_nums
              · subst ex
                exact s2 y (fun u => e.2.2.2.2 ⟨Or.inr rfl, u⟩)
              · rw [s1 x e.1.1 ex]
          · refine E_aload_n (pc := 56) 0 dX7_valley_56 rfl rfl ?_
            refine E_getR0 (pc := 57) dX7_valley_57 fl_RX7_32 rfl rfl ?_
            refine E_iload_n (pc := 60) 1 dX7_valley_60 rfl rfl ?_
            refine E_aald (pc := 61) dX7_valley_61 rfl ⟨_, fun _ => rfl⟩ hx ?_
            refine E_aload_n (pc := 62) 0 dX7_valley_62 rfl rfl ?_
            refine E_getR0 (pc := 63) dX7_valley_63 fl_RX7_32 rfl rfl ?_
            refine E_iload_n (pc := 66) 2 dX7_valley_66 rfl rfl ?_
            refine E_aald (pc := 67) dX7_valley_67 rfl ⟨_, fun _ => rfl⟩ hx' ?_
            refine E_callV1 (pc := 68) dX7_valley_68 (C_X6_unlikeNumbers hT hT8) rfl kv_RX7_205 rfl rfl rfl ⟨Nat.le_of_ble_eq_true rfl, Nat.le_of_ble_eq_true rfl, Nat.le_of_ble_eq_true rfl, Nat.le_of_ble_eq_true rfl⟩ (Nat.le_of_ble_eq_true rfl) ?_
            refine E_iret (pc := 71) dX7_valley_71 rfl ?_
            exact ⟨by rw [if_pos (show isW h w ∧ isW h z ∧ 0 ≤ a ∧ a ≤ 1 from ⟨hw, hz, ha⟩), if_pos q45, if_pos q53, hTi], Kp.rfl⟩
        · refine E_bipush (pc := 48) (-2) dX7_valley_48 (by decide) ?_
          refine E_iret (pc := 50) dX7_valley_50 rfl ?_
          exact ⟨by rw [if_pos (show isW h w ∧ isW h z ∧ 0 ≤ a ∧ a ≤ 1 from ⟨hw, hz, ha⟩), if_neg q45], Kp.rfl⟩
      · refine E_iconst (pc := 25) (-1) dX7_valley_25 (by decide) ?_
        refine E_iret (pc := 26) dX7_valley_26 rfl ?_
        first | exact ⟨by rw [if_neg (fun y => bi_0.mp q5 y.1)], Kp.rfl⟩ | exact ⟨by rw [if_neg (fun y => bi_0.mp q13 y.2.1)], Kp.rfl⟩ | exact ⟨by rw [if_neg (fun y => bi_0.mp q22 y.2.2)], Kp.rfl⟩
/-- the worth of way k, -1 where there is none -/
def wv (h : Hp) (k : Nat) : Int32 := if 0 < h g_way k 1 then sWorth (h g_values 0) (h g_nums k) (ixN (h g_way k 1)) (h g_way k 2) else -1
theorem Kp_wv {h h' : Hp} (e : Kp h h') {k : Nat} (hk : k < 6) : wv h' k = wv h k := by
  have e1 : h' g_way k = h g_way k := e _ _ (by refine ⟨by decide, by decide, by decide, by decide, by omega⟩)
  have e2 : h' g_nums k = h g_nums k := e _ _ (by refine ⟨by decide, by decide, by decide, by decide, by omega⟩)
  have e3 : h' g_values 0 = h g_values 0 := e _ _ (by decide)
  unfold wv
  rw [e1, e2, e3]
theorem Kp_WT {h h' : Hp} (e : Kp h h') (hI : WT h) : WT h' := fun k hk => by
  rw [e g_way k (by refine ⟨by decide, by decide, by decide, by decide, by omega⟩)]
  exact hI k hk
theorem isW_nI {h : Hp} {k : Nat} (hk : k < 6) : isW h (nI k) ↔ 0 < h g_way k 1 := by
  unfold isW
  rw [ixN_nI (by omega)]
  exact ⟨fun z => z.2, fun z => ⟨⟨nI_pos' (by omega), nI_le (b := 5) (by omega) (by decide)⟩, z⟩⟩
/-- all is kept but what weighing touches -/
def Kw (h h' : Hp) : Prop := ∀ a, noS a → a ≠ g_worths → h' a = h a
theorem Kw.rfl {h : Hp} : Kw h h := fun _ _ _ => Eq.refl _
theorem Kw.trans {h h' h'' : Hp} (a : Kw h h') (b : Kw h' h'') : Kw h h'' := fun x e1 e2 => (b x e1 e2).trans (a x e1 e2)
theorem Kw_Kp {h h' : Hp} (k : Kw h h') : Kp h h' := fun a b e => by rw [k a e.1 e.2.1]
theorem Kw_meas {h : Hp} {k T i : Nat} : Kw h (measN h k T i) := fun a e _ => measN_t e.1 i
set_option maxHeartbeats 1600000 in
theorem C_X7_weighWays {l : Launch} {G : GE} {h : Hp} (hI : WT h) : CT l G mX7_weighWays [vR g_oab 0] h (fun r h' => r = none ∧ Kw h h' ∧ ∀ k, k < 6 → h' g_worths 0 k = wv h k) := by
  refine CT.of (lv := [_, _]) (by decide +kernel) (Nat.le_of_ble_eq_true rfl) rfl ?_
  refine E_iconst (pc := 0) (0) dX7_weighWays_0 (by decide) ?_
  refine E_istore_n (pc := 1) 1 dX7_weighWays_1 rfl (Nat.le_of_ble_eq_true rfl) rfl (lz := [_, _]) rfl ?_
  refine down (P := fun i => ∀ h2, Kw h h2 → (∀ k, k < i → h2 g_worths 0 k = wv h k) → Ev l G mX7_weighWays _ 2 [some (vR g_oab 0), some (vI (nI i))] [] h2) 6 ?_ ?_ 0 (Nat.zero_le _) h Kw.rfl (fun k hk => absurd hk (Nat.not_lt_zero k))
  · intro h2 kp hv
    refine E_iload_n (pc := 2) 1 dX7_weighWays_2 rfl rfl ?_
    refine E_bipush (pc := 3) (6) dX7_weighWays_3 (by decide) ?_
    refine E_icmp_ge (pc := 5) 61 dX7_weighWays_5 rfl (fun q5 => ?_) (fun q5 => absurd (show (6 : Int32) ≤ 6 by decide) q5)
    refine E_vret (pc := 61) dX7_weighWays_61 rfl ?_
    exact ⟨rfl, kp, hv⟩
  · intro i hi hn h2 kp hv
    refine E_iload_n (pc := 2) 1 dX7_weighWays_2 rfl rfl ?_
    refine E_bipush (pc := 3) (6) dX7_weighWays_3 (by decide) ?_
    refine E_icmp_ge (pc := 5) 61 dX7_weighWays_5 rfl (fun q5 => absurd q5 (nI_ge (b := 6) hi (by decide))) (fun q5 => ?_)
    refine E_aload_n (pc := 8) 0 dX7_weighWays_8 rfl rfl ?_
    refine E_getR0 (pc := 9) dX7_weighWays_9 fl_RX7_50 rfl rfl ?_
    refine E_iload_n (pc := 12) 1 dX7_weighWays_12 rfl rfl ?_
    refine E_iconst (pc := 13) (-1) dX7_weighWays_13 (by decide) ?_
    refine E_iast (pc := 14) dX7_weighWays_14 rfl (vp_in_nI (by omega) (by decide)) ?_
    refine E_heq (h' := hset h2 g_worths 0 i (-1)) (by rw [ixN_nI (by omega)]) ?_
    have k2 : Kw h (hset h2 g_worths 0 i (-1)) := kp.trans (fun a e1 e2 => by rw [hset_t e2])
    have v2 : ∀ k, k < i → hset h2 g_worths 0 i (-1) g_worths 0 k = wv h k := fun k hk => by rw [hset_k (by omega)]; exact hv k hk
    generalize hh3 : hset h2 g_worths 0 i (-1) = h3 at k2 v2 ⊢
    have v3 : h3 g_worths 0 i = -1 := by rw [← hh3]; exact hset_eq _ _ _ _ _
    refine E_aload_n (pc := 15) 0 dX7_weighWays_15 rfl rfl ?_
    refine E_iload_n (pc := 16) 1 dX7_weighWays_16 rfl rfl ?_
    refine E_callV1 (pc := 17) dX7_weighWays_17 C_X7_isWay rfl kv_RX7_128 rfl rfl rfl ⟨Nat.le_of_ble_eq_true rfl, Nat.le_of_ble_eq_true rfl, Nat.le_of_ble_eq_true rfl, Nat.le_of_ble_eq_true rfl⟩ (Nat.le_of_ble_eq_true rfl) ?_
    refine E_if_eq (pc := 20) 55 dX7_weighWays_20 rfl (fun q20 => ?_) (fun q20 => ?_)
    · have hw : ¬ 0 < h3 g_way i 1 := fun y => bi_0.mp q20 ((isW_nI hi).mpr y)
      refine E_iincN (pc := 55) 1 dX7_weighWays_55 (Nat.le_of_ble_eq_true rfl) rfl rfl (lz := [_, _]) rfl ?_
      refine E_goto (pc := 58) 2 dX7_weighWays_58 rfl ?_
      first | exact hn h3 k2 (lt_s v2 (by rw [v3, ← Kp_wv (Kw_Kp k2) hi, wv, if_neg hw])) | exact hn _ ((k2.trans Kw_meas).trans (fun a e1 e2 => by rw [hset_t e2])) (by rw [ixN_nI (by omega)]; exact lt_s (fun k hk => by rw [hset_k (by omega), measN_t (by decide)]; exact v2 k hk) (hset_eq _ _ _ _ _))
    · have hw : 0 < h3 g_way i 1 := (isW_nI hi).mp (Decidable.of_not_not (fun y => q20 (bi_0.mpr y)))
      obtain ⟨T, hT1, hT8, hT, hTi, -, -⟩ := (Kp_WT (Kw_Kp k2) hI).get ((isW_nI hi).mpr hw)
      refine E_aload_n (pc := 23) 0 dX7_weighWays_23 rfl rfl ?_
      refine E_getR0 (pc := 24) dX7_weighWays_24 fl_RX7_46 rfl rfl ?_
      refine E_aload_n (pc := 27) 0 dX7_weighWays_27 rfl rfl ?_
      refine E_getR0 (pc := 28) dX7_weighWays_28 fl_RX7_32 rfl rfl ?_
      refine E_iload_n (pc := 31) 1 dX7_weighWays_31 rfl rfl ?_
      refine E_aald (pc := 32) dX7_weighWays_32 rfl ⟨_, fun _ => rfl⟩ (vp_in_nI (by omega) (by decide)) ?_
      refine E_callV0 (pc := 33) dX7_weighWays_33 (C_X0_measure hT hT8) rfl kv_RX7_146 rfl rfl rfl ⟨Nat.le_of_ble_eq_true rfl, Nat.le_of_ble_eq_true rfl, Nat.le_of_ble_eq_true rfl, Nat.le_of_ble_eq_true rfl⟩ (Nat.le_of_ble_eq_true rfl) ?_
      refine E_aload_n (pc := 36) 0 dX7_weighWays_36 rfl rfl ?_
      refine E_getR0 (pc := 37) dX7_weighWays_37 fl_RX7_50 rfl rfl ?_
      refine E_iload_n (pc := 40) 1 dX7_weighWays_40 rfl rfl ?_
      refine E_aload_n (pc := 41) 0 dX7_weighWays_41 rfl rfl ?_
      refine E_getR0 (pc := 42) dX7_weighWays_42 fl_RX7_46 rfl rfl ?_
      refine E_aload_n (pc := 45) 0 dX7_weighWays_45 rfl rfl ?_
      refine E_getR0 (pc := 46) dX7_weighWays_46 fl_RX7_32 rfl rfl ?_
      refine E_iload_n (pc := 49) 1 dX7_weighWays_49 rfl rfl ?_
      refine E_aald (pc := 50) dX7_weighWays_50 rfl ⟨_, fun _ => rfl⟩ (vp_in_nI (by omega) (by decide)) ?_
      refine E_callV1 (pc := 51) dX7_weighWays_51 (C_X0_value (T := T) (by rw [measN_t (by decide)]; exact hT) hT1 hT8) rfl kv_RX7_184 rfl rfl rfl ⟨Nat.le_of_ble_eq_true rfl, Nat.le_of_ble_eq_true rfl, Nat.le_of_ble_eq_true rfl, Nat.le_of_ble_eq_true rfl⟩ (Nat.le_of_ble_eq_true rfl) ?_
      refine E_eq (st' := [vI (wv h i), vI (nI i), vR g_worths 0]) rfl (by rw [← Kp_wv (Kw_Kp k2) hi, wv, if_pos hw, measN_t (a := g_values) (by decide), measN_t (a := g_nums) (by decide), measN_t (a := g_way) (by decide), measN_all.worth hT1 hT8, ← hTi, ixN_nI (by omega)]) rfl ?_
      refine E_iast (pc := 54) dX7_weighWays_54 rfl (vp_in_nI (by omega) (by decide)) ?_
      refine E_iincN (pc := 55) 1 dX7_weighWays_55 (Nat.le_of_ble_eq_true rfl) rfl rfl (lz := [_, _]) rfl ?_
      refine E_goto (pc := 58) 2 dX7_weighWays_58 rfl ?_
      first | exact hn h3 k2 (lt_s v2 (by rw [v3, ← Kp_wv (Kw_Kp k2) hi, wv, if_neg hw])) | exact hn _ ((k2.trans Kw_meas).trans (fun a e1 e2 => by rw [hset_t e2])) (by rw [ixN_nI (by omega)]; exact lt_s (fun k hk => by rw [hset_k (by omega), measN_t (by decide)]; exact v2 k hk) (hset_eq _ _ _ _ _))
set_option maxHeartbeats 1600000 in
theorem C_X7_bestWay {l : Launch} {G : GE} {h : Hp} (hI : WT h) : CT l G mX7_bestWay [vR g_oab 0] h (fun r h' => r = some (bstF (-1) (wv h) 6).1 ∧ Kw h h' ∧ ∀ k, k < 6 → h' g_worths 0 k = wv h k) := by
  refine CT.of (lv := [_, _, _, _]) (by decide +kernel) (Nat.le_of_ble_eq_true rfl) rfl ?_
  refine E_aload_n (pc := 0) 0 dX7_bestWay_0 rfl rfl ?_
  refine E_callV (pc := 1) dX7_bestWay_1 (C_X7_weighWays hI) rfl kv_RX7_256 rfl rfl rfl ⟨Nat.le_of_ble_eq_true rfl, Nat.le_of_ble_eq_true rfl, Nat.le_of_ble_eq_true rfl, Nat.le_of_ble_eq_true rfl⟩ (Nat.le_of_ble_eq_true rfl) ?_
  rintro _ h2 ⟨rfl, kp, hv⟩
  refine E_bipush (pc := 4) (-4) dX7_bestWay_4 (by decide) ?_
  refine E_istore_n (pc := 6) 1 dX7_bestWay_6 rfl (Nat.le_of_ble_eq_true rfl) rfl (lz := [_, _, _, _]) rfl ?_
  refine E_iconst (pc := 7) (-1) dX7_bestWay_7 (by decide) ?_
  refine E_istore_n (pc := 8) 2 dX7_bestWay_8 rfl (Nat.le_of_ble_eq_true rfl) rfl (lz := [_, _, _, _]) rfl ?_
  refine E_iconst (pc := 9) (0) dX7_bestWay_9 (by decide) ?_
  refine E_istore_n (pc := 10) 3 dX7_bestWay_10 rfl (Nat.le_of_ble_eq_true rfl) rfl (lz := [_, _, _, _]) rfl ?_
  refine down (P := fun i => Ev l G mX7_bestWay _ 11 [some (vR g_oab 0), some (vI (bstF (-1) (wv h) i).1), some (vI (bstF (-1) (wv h) i).2), some (vI (nI i))] [] h2) 6 ?_ ?_ 0 (Nat.zero_le _)
  · refine E_iload_n (pc := 11) 3 dX7_bestWay_11 rfl rfl ?_
    refine E_bipush (pc := 12) (6) dX7_bestWay_12 (by decide) ?_
    refine E_icmp_ge (pc := 14) 42 dX7_bestWay_14 rfl (fun q14 => ?_) (fun q14 => absurd (show (6 : Int32) ≤ 6 by decide) q14)
    refine E_iload_n (pc := 42) 1 dX7_bestWay_42 rfl rfl ?_
    refine E_iret (pc := 43) dX7_bestWay_43 rfl ?_
    exact ⟨rfl, kp, hv⟩
  · intro i hi hn
    refine E_iload_n (pc := 11) 3 dX7_bestWay_11 rfl rfl ?_
    refine E_bipush (pc := 12) (6) dX7_bestWay_12 (by decide) ?_
    refine E_icmp_ge (pc := 14) 42 dX7_bestWay_14 rfl (fun q14 => absurd q14 (nI_ge (b := 6) hi (by decide))) (fun q14 => ?_)
    refine E_aload_n (pc := 17) 0 dX7_bestWay_17 rfl rfl ?_
    refine E_getR0 (pc := 18) dX7_bestWay_18 fl_RX7_50 rfl rfl ?_
    refine E_iload_n (pc := 21) 3 dX7_bestWay_21 rfl rfl ?_
    refine E_iald (pc := 22) dX7_bestWay_22 rfl (vp_in_nI (by omega) (by decide)) ?_
    refine E_top (y := wv h i) (by rw [ixN_nI (by omega)]; exact hv i hi) ?_
    refine E_iload_n (pc := 23) 2 dX7_bestWay_23 rfl rfl ?_
    refine E_icmp_le (pc := 24) 36 dX7_bestWay_24 rfl (fun q24 => ?_) (fun q24 => ?_)
    · have hl : bstF (-1) (wv h) (i + 1) = bstF (-1) (wv h) i := if_neg (Int32.not_lt.mpr q24)
      refine E_iincN (pc := 36) 3 dX7_bestWay_36 (Nat.le_of_ble_eq_true rfl) rfl rfl (lz := [_, _, _, _]) rfl ?_
      refine E_goto (pc := 39) 11 dX7_bestWay_39 rfl ?_
      rw [hl] at hn
      exact hn
    · have hl : bstF (-1) (wv h) (i + 1) = (nI i, wv h i) := if_pos (Int32.not_le.mp q24)
      refine E_aload_n (pc := 27) 0 dX7_bestWay_27 rfl rfl ?_
      refine E_getR0 (pc := 28) dX7_bestWay_28 fl_RX7_50 rfl rfl ?_
      refine E_iload_n (pc := 31) 3 dX7_bestWay_31 rfl rfl ?_
      refine E_iald (pc := 32) dX7_bestWay_32 rfl (vp_in_nI (by omega) (by decide)) ?_
      refine E_top (y := wv h i) (by rw [ixN_nI (by omega)]; exact hv i hi) ?_
      refine E_istore_n (pc := 33) 2 dX7_bestWay_33 rfl (Nat.le_of_ble_eq_true rfl) rfl (lz := [_, _, _, _]) rfl ?_
      refine E_iload_n (pc := 34) 3 dX7_bestWay_34 rfl rfl ?_
      refine E_istore_n (pc := 35) 1 dX7_bestWay_35 rfl (Nat.le_of_ble_eq_true rfl) rfl (lz := [_, _, _, _]) rfl ?_
      refine E_iincN (pc := 36) 3 dX7_bestWay_36 (Nat.le_of_ble_eq_true rfl) rfl rfl (lz := [_, _, _, _]) rfl ?_
      refine E_goto (pc := 39) 11 dX7_bestWay_39 rfl ?_
      rw [hl] at hn
      exact hn
def sBest (f : Nat → Int32) (a : Int32) : Int32 := if 0 ≤ a ∧ a ≤ 1 then (if a = 0 then (bstF (-1) f 6).1 else if (bstF (-1) f 6).1 = -4 then -1 else (bstF (-1) f 6).2) else -1
set_option maxHeartbeats 1600000 in
theorem C_X7_best {l : Launch} {G : GE} {h : Hp} {a : Int32} (hI : WT h) : CT l G mX7_best [vR g_oab 0, vI a] h (fun r h' => r = some (sBest (wv h) a) ∧ Kp h h') := by
  refine CT.of (lv := [_, _, _]) (by decide +kernel) (Nat.le_of_ble_eq_true rfl) rfl ?_
  refine E_iload_n (pc := 0) 1 dX7_best_0 rfl rfl ?_
  refine E_iconst (pc := 1) (0) dX7_best_1 (by decide) ?_
  refine E_iconst (pc := 2) (1) dX7_best_2 (by decide) ?_
  refine E_callS1 (pc := 3) dX7_best_3 C_X7_within rfl ks_RX7_76 rfl ⟨Nat.le_of_ble_eq_true rfl, Nat.le_of_ble_eq_true rfl, Nat.le_of_ble_eq_true rfl, Nat.le_of_ble_eq_true rfl⟩ (Nat.le_of_ble_eq_true rfl) ?_
  refine E_if_ne (pc := 6) 11 dX7_best_6 rfl (fun q6 => ?_) (fun q6 => ?_)
  · have ha : 0 ≤ a ∧ a ≤ 1 := Decidable.of_not_not (fun y => q6 (bi_0.mpr y))
    refine E_aload_n (pc := 11) 0 dX7_best_11 rfl rfl ?_
    refine E_callV (pc := 12) dX7_best_12 (C_X7_bestWay hI) rfl kv_RX7_212 rfl rfl rfl ⟨Nat.le_of_ble_eq_true rfl, Nat.le_of_ble_eq_true rfl, Nat.le_of_ble_eq_true rfl, Nat.le_of_ble_eq_true rfl⟩ (Nat.le_of_ble_eq_true rfl) ?_
    rintro _ h2 ⟨rfl, kw, hv⟩
    have kp := Kw_Kp kw
    refine E_istore_n (pc := 15) 2 dX7_best_15 rfl (Nat.le_of_ble_eq_true rfl) rfl (lz := [_, _, _]) rfl ?_
    refine E_iload_n (pc := 16) 1 dX7_best_16 rfl rfl ?_
    refine E_if_ne (pc := 17) 22 dX7_best_17 rfl (fun q17 => ?_) (fun q17 => ?_)
    · refine E_iload_n (pc := 22) 2 dX7_best_22 rfl rfl ?_
      refine E_bipush (pc := 23) (-4) dX7_best_23 (by decide) ?_
      refine E_icmp_ne (pc := 25) 32 dX7_best_25 rfl (fun q25 => ?_) (fun q25 => ?_)
      · have hb : ∃ j, j < 6 ∧ (bstF (-1) (wv h) 6).1 = nI j ∧ (bstF (-1) (wv h) 6).2 = wv h j := ((bstF_or (-1) (wv h) 6).resolve_left q25).elim (fun j z => ⟨j, z.1, z.2.1, z.2.2.1⟩)
        obtain ⟨j, hj, ej, e2⟩ := hb
        refine E_aload_n (pc := 32) 0 dX7_best_32 rfl rfl ?_
        refine E_getR0 (pc := 33) dX7_best_33 fl_RX7_50 rfl rfl ?_
        refine E_iload_n (pc := 36) 2 dX7_best_36 rfl rfl ?_
        refine E_iald (pc := 37) dX7_best_37 rfl (by rw [ej]; exact vp_in_nI (by omega) (by decide)) ?_
        refine E_iret (pc := 38) dX7_best_38 rfl ?_
        first | exact ⟨by rw [sBest, if_pos ha, if_neg q17, if_pos q25], kp⟩ | exact ⟨by rw [sBest, if_pos ha, if_neg q17, if_neg q25, e2, ej, ixN_nI (by omega), hv j hj], kp⟩
      · refine E_iconst (pc := 28) (-1) dX7_best_28 (by decide) ?_
        refine E_goto (pc := 29) 38 dX7_best_29 rfl ?_
        refine E_iret (pc := 38) dX7_best_38 rfl ?_
        first | exact ⟨by rw [sBest, if_pos ha, if_neg q17, if_pos q25], kp⟩ | exact ⟨by rw [sBest, if_pos ha, if_neg q17, if_neg q25, e2, ej, ixN_nI (by omega), hv j hj], kp⟩
    · refine E_iload_n (pc := 20) 2 dX7_best_20 rfl rfl ?_
      refine E_iret (pc := 21) dX7_best_21 rfl ?_
      exact ⟨by rw [sBest, if_pos ha, if_pos q17], kp⟩
  · refine E_iconst (pc := 9) (-1) dX7_best_9 (by decide) ?_
    refine E_iret (pc := 10) dX7_best_10 rfl ?_
    exact ⟨by rw [sBest, if_neg (bi_0.mp q6)], Kp.rfl⟩
def wvP (h : Hp) (p : Nat) (v : Int32) (k : Nat) : Int32 := if 0 < h g_way k 1 then sWorth (upd (h g_values 0) p v) (h g_nums k) (ixN (h g_way k 1)) (h g_way k 2) else -1
set_option maxHeartbeats 1600000 in
theorem C_X7_suits {l : Launch} {G : GE} {h : Hp} {p v : Int32} (hI : WT h) : CT l G mX7_suits [vR g_oab 0, vI p, vI v] h (fun r h' => r = some (if (0 ≤ p ∧ p ≤ 3) ∧ 1 ≤ v ∧ v ≤ 20 then (bstF (-1) (wvP h (ixN p) v) 6).1 else -1) ∧ Kp h h') := by
  refine CT.of (lv := [_, _, _, _, _]) (by decide +kernel) (Nat.le_of_ble_eq_true rfl) rfl ?_
  refine E_iload_n (pc := 0) 1 dX7_suits_0 rfl rfl ?_
  refine E_callS1 (pc := 1) dX7_suits_1 C_X7_isPart rfl ks_RX7_215 rfl ⟨Nat.le_of_ble_eq_true rfl, Nat.le_of_ble_eq_true rfl, Nat.le_of_ble_eq_true rfl, Nat.le_of_ble_eq_true rfl⟩ (Nat.le_of_ble_eq_true rfl) ?_
  refine E_if_eq (pc := 4) 24 dX7_suits_4 rfl (fun q4 => ?_) (fun q4 => ?_)
  · refine E_iconst (pc := 24) (-1) dX7_suits_24 (by decide) ?_
    refine E_iret (pc := 25) dX7_suits_25 rfl ?_
    first | exact ⟨by rw [if_neg (fun y => bi_0.mp q4 y.1)], Kp.rfl⟩ | exact ⟨by rw [if_neg (fun y => bi_0.mp q21 y.2)], Kp.rfl⟩
  · have hp : 0 ≤ p ∧ p ≤ 3 := Decidable.of_not_not (fun y => q4 (bi_0.mpr y))
    obtain ⟨q, hq, rfl⟩ := natof (x := p) 3 (by decide) hp.1 hp.2
    refine E_iload_n (pc := 7) 2 dX7_suits_7 rfl rfl ?_
    refine E_gets (pc := 8) (t := 61) dX7_suits_8 (by decide) fw_RX7_218 ?_
    refine E_iload_n (pc := 11) 1 dX7_suits_11 rfl rfl ?_
    refine E_ald_ro (pc := 12) dX7_suits_12 rfl (vp_in_nI (by omega) (by decide)) ?_
    refine E_top (y := 1) (by rw [ixN_nI (by omega)]; exact (show ∀ q : Nat, q ≤ 3 → tLEAST.getD q 0 = 1 by decide) q hq) ?_
    refine E_gets (pc := 13) (t := 62) dX7_suits_13 (by decide) fw_RX7_221 ?_
    refine E_iload_n (pc := 16) 1 dX7_suits_16 rfl rfl ?_
    refine E_ald_ro (pc := 17) dX7_suits_17 rfl (vp_in_nI (by omega) (by decide)) ?_
    refine E_top (y := 20) (by rw [ixN_nI (by omega)]; exact (show ∀ q : Nat, q ≤ 3 → tMOST.getD q 0 = 20 by decide) q hq) ?_
    refine E_callS1 (pc := 18) dX7_suits_18 C_X7_within rfl ks_RX7_76 rfl ⟨Nat.le_of_ble_eq_true rfl, Nat.le_of_ble_eq_true rfl, Nat.le_of_ble_eq_true rfl, Nat.le_of_ble_eq_true rfl⟩ (Nat.le_of_ble_eq_true rfl) ?_
    refine E_if_ne (pc := 21) 26 dX7_suits_21 rfl (fun q21 => ?_) (fun q21 => ?_)
    · have hv : 1 ≤ v ∧ v ≤ 20 := Decidable.of_not_not (fun y => q21 (bi_0.mpr y))
      refine E_aload_n (pc := 26) 0 dX7_suits_26 rfl rfl ?_
      refine E_getR0 (pc := 27) dX7_suits_27 fl_RX7_26 rfl rfl ?_
      refine E_getR0 (pc := 30) dX7_suits_30 fl_RX7_97 rfl rfl ?_
      refine E_iload_n (pc := 33) 1 dX7_suits_33 rfl rfl ?_
      refine E_iald (pc := 34) dX7_suits_34 rfl (vp_in_nI (by omega) (by decide)) ?_
      refine E_top (y := h g_values 0 q) (by rw [ixN_nI (by omega)]) ?_
      refine E_istore_n (pc := 35) 3 dX7_suits_35 rfl (Nat.le_of_ble_eq_true rfl) rfl (lz := [_, _, _, _, _]) rfl ?_
      refine E_aload_n (pc := 36) 0 dX7_suits_36 rfl rfl ?_
      refine E_getR0 (pc := 37) dX7_suits_37 fl_RX7_26 rfl rfl ?_
      refine E_getR0 (pc := 40) dX7_suits_40 fl_RX7_97 rfl rfl ?_
      refine E_iload_n (pc := 43) 1 dX7_suits_43 rfl rfl ?_
      refine E_iload_n (pc := 44) 2 dX7_suits_44 rfl rfl ?_
      refine E_iast (pc := 45) dX7_suits_45 rfl (vp_in_nI (by omega) (by decide)) ?_
      refine E_heq (h' := hset h g_values 0 q v) (by rw [ixN_nI (by omega)]) ?_
      refine E_aload_n (pc := 46) 0 dX7_suits_46 rfl rfl ?_
      refine E_callV (pc := 47) dX7_suits_47 (C_X7_bestWay (fun k hk => by rw [hset_t (by decide)]; exact hI k hk)) rfl kv_RX7_212 rfl rfl rfl ⟨Nat.le_of_ble_eq_true rfl, Nat.le_of_ble_eq_true rfl, Nat.le_of_ble_eq_true rfl, Nat.le_of_ble_eq_true rfl⟩ (Nat.le_of_ble_eq_true rfl) ?_
      rintro _ h2 ⟨rfl, kw, hv2⟩
      have kp := Kw_Kp kw
      refine E_istore (pc := 50) 4 dX7_suits_50 (Nat.le_of_ble_eq_true rfl) rfl (lz := [_, _, _, _, _]) rfl ?_
      refine E_aload_n (pc := 52) 0 dX7_suits_52 rfl rfl ?_
      refine E_getR0 (pc := 53) dX7_suits_53 fl_RX7_26 rfl rfl ?_
      refine E_getR0 (pc := 56) dX7_suits_56 fl_RX7_97 rfl rfl ?_
      refine E_iload_n (pc := 59) 1 dX7_suits_59 rfl rfl ?_
      refine E_iload_n (pc := 60) 3 dX7_suits_60 rfl rfl ?_
      refine E_iast (pc := 61) dX7_suits_61 rfl (vp_in_nI (by omega) (by decide)) ?_
      refine E_iload (pc := 62) 4 dX7_suits_62 rfl ?_
      refine E_iret (pc := 64) dX7_suits_64 rfl ?_
      refine ⟨?_, fun a b e => ?_⟩
      · rw [if_pos (show (0 ≤ nI q ∧ nI q ≤ 3) ∧ 1 ≤ v ∧ v ≤ 20 from ⟨hp, hv⟩), ixN_nI (by omega)]
        refine congrArg some (congrArg Prod.fst (bstF_congr 6 (fun j _ => ?_)))
        unfold wv wvP
        rw [hset_t (a := g_way) (by decide), hset_t (a := g_nums) (by decide), hset_arr]
      · rw [ixN_nI (by omega)]
        by_cases ea : (a, b) = (g_values, 0)
        · cases ea
          rw [hset_arr, kp g_values 0 (by decide), hset_arr, upd_same, upd_self]
        · rw [hset_other ea, kp a b e, hset_other ea]
    · refine E_iconst (pc := 24) (-1) dX7_suits_24 (by decide) ?_
      refine E_iret (pc := 25) dX7_suits_25 rfl ?_
      first | exact ⟨by rw [if_neg (fun y => bi_0.mp q4 y.1)], Kp.rfl⟩ | exact ⟨by rw [if_neg (fun y => bi_0.mp q21 y.2)], Kp.rfl⟩
