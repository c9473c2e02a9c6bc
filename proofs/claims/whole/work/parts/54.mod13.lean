/-! the model: valley -/
def kpt (h : Hp) (k i : Nat) : Hp := fed (mN h k) h g_m_kept 0 i
theorem kpt_o {h : Hp} {k i a : Nat} (ha : a ≠ g_m_kept) : kpt h k i a = h a := by
  funext b
  unfold kpt
  exact fed_t _ _ _ _ _ (fun z => ha (congrArg Prod.fst z))
def vlh (h : Hp) (k j i : Nat) : Hp := fed (mN h j) (kpt h k 64) g_m_numbers (64 * k) i
theorem vlh_o {h : Hp} {k j i a : Nat} (ha : a ≠ g_m_numbers) : vlh h k j i a = kpt h k 64 a := by
  funext b
  unfold vlh
  exact fed_t _ _ _ _ _ (fun z => ha (congrArg Prod.fst z))
theorem vlh_n {h : Hp} {k j i : Nat} : mN (vlh h k j i) k = mix (mN h k) (mN h j) i := by
  funext a
  show vlh h k j i g_m_numbers 0 (64 * k + a) = _
  unfold vlh mix
  by_cases e : a < i
  · rw [fed_in e, if_pos e]
  · rw [fed_at (by omega), kpt_o (by decide), if_neg e]
theorem mix_RN {f g : Nat → Int32} (hf : RN f) (hg : RN g) (i : Nat) : RN (mix f g i) := by
  intro a ha
  unfold mix
  by_cases e : a < i
  · rw [if_pos e]; exact hg a ha
  · rw [if_neg e]; exact hf a ha
theorem val_n {V f g : Nat → Int32} {T i : Nat} {F : Int32} (h : f i = g i) : valF V f g T F (i + 1) = valF V f g T F i := if_pos h
theorem val_y {V f g : Nat → Int32} {T i : Nat} {F : Int32} (h : ¬ f i = g i) : valF V f g T F (i + 1) = minI (valF V f g T F i) (sWorth V (mix f g (i + 1)) T F) := if_neg h
def rst (h : Hp) (k j T i : Nat) : Hp := fed (mN h k) (vlh h k j (8 * T)) g_m_numbers (64 * k) i
theorem rst_end {h : Hp} {k j T : Nat} (hT8 : T ≤ 8) : rst h k j T 64 = kpt h k 64 := by
  funext a b c
  by_cases ha : (a, b) = (g_m_numbers, 0)
  · cases ha
    unfold rst
    by_cases e : 64 * k ≤ c ∧ c < 64 * k + 64
    · have := fed_in (by' := mN h k) (h := vlh h k j (8 * T)) (t := g_m_numbers) (L := 64 * k) (i := 64) (j := c - 64 * k) (by omega)
      rw [show 64 * k + (c - 64 * k) = c by omega] at this
      rw [this, kpt_o (by decide)]
      show h g_m_numbers 0 (64 * k + (c - 64 * k)) = _
      rw [show 64 * k + (c - 64 * k) = c by omega]
    · rw [fed_at e]
      unfold vlh
      rw [fed_at (by omega)]
  · unfold rst
    rw [fed_t _ _ _ _ _ ha]
    unfold vlh
    rw [fed_t _ _ _ _ _ ha]
set_option maxHeartbeats 1600000 in
theorem C_X8_valley {l : Launch} {G : GE} {h : Hp} {w z a : Int32} (hI : MK h) : CT l G mX8_valley [vR g_model 0, vI w, vI z, vI a] h (fun r h' => r = some (if isM h w ∧ isM h z ∧ 0 ≤ a ∧ a ≤ 1 then (if h g_m_tenths 0 (ixN w) = h g_m_tenths 0 (ixN z) then (if a = 1 then nI (unl (mN h (ixN w)) (mN h (ixN z)) (8 * ixN (h g_m_tenths 0 (ixN w)))) else sValley (h g_m_holds 0) (mN h (ixN w)) (mN h (ixN z)) (ixN (h g_m_tenths 0 (ixN w))) (h g_m_feet 0 (ixN w))) else -2) else -1) ∧ ∀ a, a ≠ g_m_kept → h' a = h a) := by
  refine CT.of (lv := [_, _, _, _, _, _, _, _, _]) (by decide +kernel) (Nat.le_of_ble_eq_true rfl) rfl ?_
  refine E_aload_n (pc := 0) 0 dX8_valley_0 rfl rfl ?_
  refine E_iload_n (pc := 1) 1 dX8_valley_1 rfl rfl ?_
  refine E_callV1 (pc := 2) dX8_valley_2 C_X8_isWay rfl kv_RX8_139 rfl rfl rfl ⟨Nat.le_of_ble_eq_true rfl, Nat.le_of_ble_eq_true rfl, Nat.le_of_ble_eq_true rfl, Nat.le_of_ble_eq_true rfl⟩ (Nat.le_of_ble_eq_true rfl) ?_
  refine E_if_eq (pc := 5) 26 dX8_valley_5 rfl (fun q5 => ?_) (fun q5 => ?_)
  · have hg : ¬ (isM h w ∧ isM h z ∧ 0 ≤ a ∧ a ≤ 1) := fun y => bi_0.mp q5 y.1
    refine E_iconst (pc := 26) (-1) dX8_valley_26 (by decide) ?_
    refine E_iret (pc := 27) dX8_valley_27 rfl ?_
    exact ⟨congrArg some (if_neg hg).symm, fun _ _ => rfl⟩
  · refine E_aload_n (pc := 8) 0 dX8_valley_8 rfl rfl ?_
    refine E_iload_n (pc := 9) 2 dX8_valley_9 rfl rfl ?_
    refine E_callV1 (pc := 10) dX8_valley_10 C_X8_isWay rfl kv_RX8_139 rfl rfl rfl ⟨Nat.le_of_ble_eq_true rfl, Nat.le_of_ble_eq_true rfl, Nat.le_of_ble_eq_true rfl, Nat.le_of_ble_eq_true rfl⟩ (Nat.le_of_ble_eq_true rfl) ?_
    refine E_if_eq (pc := 13) 26 dX8_valley_13 rfl (fun q13 => ?_) (fun q13 => ?_)
    · have hg : ¬ (isM h w ∧ isM h z ∧ 0 ≤ a ∧ a ≤ 1) := fun y => bi_0.mp q13 y.2.1
      refine E_iconst (pc := 26) (-1) dX8_valley_26 (by decide) ?_
      refine E_iret (pc := 27) dX8_valley_27 rfl ?_
      exact ⟨congrArg some (if_neg hg).symm, fun _ _ => rfl⟩
    · refine E_iload_n (pc := 16) 3 dX8_valley_16 rfl rfl ?_
      refine E_i2l (pc := 17) dX8_valley_17 ?_
      refine E_lconst (pc := 18) (0) dX8_valley_18 (by decide) ?_
      refine E_lconst (pc := 19) (1) dX8_valley_19 (by decide) ?_
      refine E_callS1 (pc := 20) dX8_valley_20 (C_X8_in (a := 0) (b := 1) (by decide) (by decide)) rfl ks_RX8_71 rfl ⟨Nat.le_of_ble_eq_true rfl, Nat.le_of_ble_eq_true rfl, Nat.le_of_ble_eq_true rfl, Nat.le_of_ble_eq_true rfl⟩ (Nat.le_of_ble_eq_true rfl) ?_
      refine E_if_ne (pc := 23) 28 dX8_valley_23 rfl (fun q23 => ?_) (fun q23 => ?_)
      · have hw : isM h w := Decidable.of_not_not (fun y => q5 (bi_0.mpr y))
        have hz : isM h z := Decidable.of_not_not (fun y => q13 (bi_0.mpr y))
        have ha : 0 ≤ a ∧ a ≤ 1 := Decidable.of_not_not (fun y => q23 (bi_0.mpr y))
        obtain ⟨k, T, hk, ew, hT1, hT8, hT, e1, e2⟩ := isM_nat hI hw
        obtain ⟨j, U, hj, ez, hU1, hU8, hU, e3, e4⟩ := isM_nat hI hz
        rw [if_pos ⟨hw, hz, ha⟩, e2, e1, e3]
        clear hw hz q5 q13 e1 e2 e3 e4
        subst ew
        subst ez
        refine E_aload_n (pc := 28) 0 dX8_valley_28 rfl rfl ?_
        refine E_getR0 (pc := 29) dX8_valley_29 fl_RX8_37 rfl rfl ?_
        refine E_iload_n (pc := 32) 1 dX8_valley_32 rfl rfl ?_
        refine E_iald (pc := 33) dX8_valley_33 rfl (vp_in_nI (by omega) (by decide)) ?_
        refine E_aload_n (pc := 34) 0 dX8_valley_34 rfl rfl ?_
        refine E_getR0 (pc := 35) dX8_valley_35 fl_RX8_37 rfl rfl ?_
        refine E_iload_n (pc := 38) 2 dX8_valley_38 rfl rfl ?_
        refine E_iald (pc := 39) dX8_valley_39 rfl (vp_in_nI (by omega) (by decide)) ?_
        refine E_eq (st' := [vI (h g_m_tenths 0 j), vI (h g_m_tenths 0 k)]) rfl (by rw [ixN_nI (by omega), ixN_nI (by omega)]) rfl ?_
        refine E_icmp_eq (pc := 40) 46 dX8_valley_40 rfl (fun q40 => ?_) (fun q40 => ?_)
        · rw [if_pos q40]
          obtain ⟨f, hf⟩ : ∃ f, f = mN h k := ⟨_, rfl⟩
          obtain ⟨g, hgg⟩ : ∃ g, g = mN h j := ⟨_, rfl⟩
          have hN := hI.2.1 k (by omega)
          have hN2 := hI.2.1 j (by omega)
          refine E_aload_n (pc := 46) 0 dX8_valley_46 rfl rfl ?_
          refine E_iload_n (pc := 47) 1 dX8_valley_47 rfl rfl ?_
          refine E_aload_n (pc := 48) 0 dX8_valley_48 rfl rfl ?_
          refine E_getR0 (pc := 49) dX8_valley_49 fl_RX8_40 rfl rfl ?_
          refine E_iload_n (pc := 52) 1 dX8_valley_52 rfl rfl ?_
          refine E_iald (pc := 53) dX8_valley_53 rfl (vp_in_nI (by omega) (by decide)) ?_
          refine E_top (y := h g_m_feet 0 k) (by rw [ixN_nI (by omega)]) ?_
          refine E_callV1 (pc := 54) dX8_valley_54 (C_X8_worthOf hI.1 hN hk hT hT1 hT8) rfl kv_RX8_212 rfl rfl rfl ⟨Nat.le_of_ble_eq_true rfl, Nat.le_of_ble_eq_true rfl, Nat.le_of_ble_eq_true rfl, Nat.le_of_ble_eq_true rfl⟩ (Nat.le_of_ble_eq_true rfl) ?_
          refine E_istore (pc := 57) 4 dX8_valley_57 (Nat.le_of_ble_eq_true rfl) rfl (lz := [_, _, _, _, _, _, _, _, _]) rfl ?_
          refine E_iconst (pc := 59) (0) dX8_valley_59 (by decide) ?_
          refine E_istore (pc := 60) 5 dX8_valley_60 (Nat.le_of_ble_eq_true rfl) rfl (lz := [_, _, _, _, _, _, _, _, _]) rfl ?_
          refine E_iconst (pc := 62) (0) dX8_valley_62 (by decide) ?_
          refine E_istore (pc := 63) 6 dX8_valley_63 (Nat.le_of_ble_eq_true rfl) rfl (lz := [_, _, _, _, _, _, _, _, _]) rfl ?_
          refine E_heq (fed_0 (mN h k) h g_m_kept 0).symm ?_
          refine down (P := fun i => Ev l G mX8_valley _ 65 [some (vR g_model 0), some (vI (nI k)), some (vI (nI j)), some (vI a), some (vI (sWorth (h g_m_holds 0) (mN h k) T (h g_m_feet 0 k))), some (vI 0), some (vI (nI i)), none, none] [] (kpt h k i)) 64 ?_ ?_ 0 (Nat.zero_le _)
          · refine E_iload (pc := 65) 6 dX8_valley_65 rfl ?_
            refine E_bipush (pc := 67) (64) dX8_valley_67 (by decide) ?_
            refine E_icmp_ge (pc := 69) 97 dX8_valley_69 rfl (fun q69 => ?_) (fun q69 => absurd (show (64 : Int32) ≤ 64 by decide) q69)
            refine E_iconst (pc := 97) (0) dX8_valley_97 (by decide) ?_
            refine E_istore (pc := 98) 6 dX8_valley_98 (Nat.le_of_ble_eq_true rfl) rfl (lz := [_, _, _, _, _, _, _, _, _]) rfl ?_
            refine E_heq (h' := vlh h k j 0) (fed_0 (mN h j) (kpt h k 64) g_m_numbers (64 * k)).symm ?_
            refine down (P := fun i => Ev l G mX8_valley _ 100 [some (vR g_model 0), some (vI (nI k)), some (vI (nI j)), some (vI a), some (vI (valF (h g_m_holds 0) (mN h k) (mN h j) T (h g_m_feet 0 k) i)), some (vI (nI (unl (mN h k) (mN h j) i))), some (vI (nI i)), none, none] [] (vlh h k j i)) (8 * T) ?_ ?_ 0 (Nat.zero_le _)
            · refine E_iload (pc := 100) 6 dX8_valley_100 rfl ?_
              refine E_bipush (pc := 102) (8) dX8_valley_102 (by decide) ?_
              refine E_aload_n (pc := 104) 0 dX8_valley_104 rfl rfl ?_
              refine E_getR0 (pc := 105) dX8_valley_105 fl_RX8_37 rfl rfl ?_
              refine E_iload_n (pc := 108) 1 dX8_valley_108 rfl rfl ?_
              refine E_iald (pc := 109) dX8_valley_109 rfl (vp_in_nI (by omega) (by decide)) ?_
              refine E_imul (pc := 110) dX8_valley_110 ?_
              refine E_top (y := nI (8 * T)) (by rw [ixN_nI (by omega), vlh_o (by decide), kpt_o (by decide), hT, show (8 : Int32) = nI 8 from rfl, pk_mul]) ?_
              refine E_icmp_ge (pc := 111) 197 dX8_valley_111 rfl (fun q111 => ?_) (fun q111 => absurd (Int32.le_refl _) q111)
              refine E_iconst (pc := 197) (0) dX8_valley_197 (by decide) ?_
              refine E_istore (pc := 198) 6 dX8_valley_198 (Nat.le_of_ble_eq_true rfl) rfl (lz := [_, _, _, _, _, _, _, _, _]) rfl ?_
              refine E_heq (h' := rst h k j T 0) (fed_0 (mN h k) (vlh h k j (8 * T)) g_m_numbers (64 * k)).symm ?_
              refine down (P := fun i => Ev l G mX8_valley _ 200 [some (vR g_model 0), some (vI (nI k)), some (vI (nI j)), some (vI a), some (vI (valF (h g_m_holds 0) (mN h k) (mN h j) T (h g_m_feet 0 k) (8 * T))), some (vI (nI (unl (mN h k) (mN h j) (8 * T)))), some (vI (nI i)), none, none] [] (rst h k j T i)) 64 ?_ ?_ 0 (Nat.zero_le _)
              · refine E_iload (pc := 200) 6 dX8_valley_200 rfl ?_
                refine E_bipush (pc := 202) (64) dX8_valley_202 (by decide) ?_
                refine E_icmp_ge (pc := 204) 232 dX8_valley_204 rfl (fun q204 => ?_) (fun q204 => absurd (show (64 : Int32) ≤ 64 by decide) q204)
                refine E_iload_n (pc := 232) 3 dX8_valley_232 rfl rfl ?_
                refine E_if_ne (pc := 233) 241 dX8_valley_233 rfl (fun q233 => ?_) (fun q233 => ?_)
                · refine E_iload (pc := 241) 5 dX8_valley_241 rfl ?_
                  refine E_iret (pc := 243) dX8_valley_243 rfl ?_
                  refine ⟨?_, fun x hx => by rw [rst_end hT8, kpt_o hx]⟩
                  first | (rw [if_neg (by rw [q233]; decide)]; rfl) | rw [if_pos (by grind)]
                · refine E_iload (pc := 236) 4 dX8_valley_236 rfl ?_
                  refine E_goto (pc := 238) 243 dX8_valley_238 rfl ?_
                  refine E_iret (pc := 243) dX8_valley_243 rfl ?_
                  refine ⟨?_, fun x hx => by rw [rst_end hT8, kpt_o hx]⟩
                  first | (rw [if_neg (by rw [q233]; decide)]; rfl) | rw [if_pos (by grind)]
              · intro i hi hn
                refine E_iload (pc := 200) 6 dX8_valley_200 rfl ?_
                refine E_bipush (pc := 202) (64) dX8_valley_202 (by decide) ?_
                refine E_icmp_ge (pc := 204) 232 dX8_valley_204 rfl (fun q204 => absurd q204 (nI_ge (b := 64) hi (by decide))) (fun q204 => ?_)
                refine E_aload_n (pc := 207) 0 dX8_valley_207 rfl rfl ?_
                refine E_getR0 (pc := 208) dX8_valley_208 fl_RX8_34 rfl rfl ?_
                refine E_bipush (pc := 211) (64) dX8_valley_211 (by decide) ?_
                refine E_iload_n (pc := 213) 1 dX8_valley_213 rfl rfl ?_
                refine E_imul (pc := 214) dX8_valley_214 ?_
                refine E_iload (pc := 215) 6 dX8_valley_215 rfl ?_
                refine E_iadd (pc := 217) dX8_valley_217 ?_
                refine E_top (nI_64 k i) ?_
                refine E_aload_n (pc := 218) 0 dX8_valley_218 rfl rfl ?_
                refine E_getR0 (pc := 219) dX8_valley_219 fl_RX8_43 rfl rfl ?_
                refine E_iload (pc := 222) 6 dX8_valley_222 rfl ?_
                refine E_iald (pc := 224) dX8_valley_224 rfl (vp_in_nI (by omega) (by decide)) ?_
                refine E_top (y := mN h k i) (by rw [ixN_nI (by omega)]; unfold rst; rw [fed_t _ _ _ _ _ (by decide), vlh_o (by decide)]; have := fed_in (by' := mN h k) (h := h) (t := g_m_kept) (L := 0) (i := 64) hi; rw [Nat.zero_add] at this; exact this) ?_
                refine E_iast (pc := 225) dX8_valley_225 rfl (vp_in_nI (by omega) (by decide)) ?_
                refine E_iincN (pc := 226) 6 dX8_valley_226 (Nat.le_of_ble_eq_true rfl) rfl rfl (lz := [_, _, _, _, _, _, _, _, _]) rfl ?_
                refine E_goto (pc := 229) 200 dX8_valley_229 rfl ?_
                exact E_heq (by rw [ixN_nI (by omega)]; exact fed_s (mN h k) (vlh h k j (8 * T)) g_m_numbers (64 * k) i) hn
            · intro i hi hn
              refine E_iload (pc := 100) 6 dX8_valley_100 rfl ?_
              refine E_bipush (pc := 102) (8) dX8_valley_102 (by decide) ?_
              refine E_aload_n (pc := 104) 0 dX8_valley_104 rfl rfl ?_
              refine E_getR0 (pc := 105) dX8_valley_105 fl_RX8_37 rfl rfl ?_
              refine E_iload_n (pc := 108) 1 dX8_valley_108 rfl rfl ?_
              refine E_iald (pc := 109) dX8_valley_109 rfl (vp_in_nI (by omega) (by decide)) ?_
              refine E_imul (pc := 110) dX8_valley_110 ?_
              refine E_top (y := nI (8 * T)) (by rw [ixN_nI (by omega), vlh_o (by decide), kpt_o (by decide), hT, show (8 : Int32) = nI 8 from rfl, pk_mul]) ?_
              refine E_icmp_ge (pc := 111) 197 dX8_valley_111 rfl (fun q111 => absurd q111 (nI_ge hi (by omega))) (fun q111 => ?_)
              refine E_aload_n (pc := 114) 0 dX8_valley_114 rfl rfl ?_
              refine E_getR0 (pc := 115) dX8_valley_115 fl_RX8_34 rfl rfl ?_
              refine E_bipush (pc := 118) (64) dX8_valley_118 (by decide) ?_
              refine E_iload_n (pc := 120) 2 dX8_valley_120 rfl rfl ?_
              refine E_imul (pc := 121) dX8_valley_121 ?_
              refine E_iload (pc := 122) 6 dX8_valley_122 rfl ?_
              refine E_iadd (pc := 124) dX8_valley_124 ?_
              refine E_top (nI_64 j i) ?_
              refine E_iald (pc := 125) dX8_valley_125 rfl (vp_in_nI (by omega) (by decide)) ?_
              refine E_top (y := mN h j i) (by rw [ixN_nI (by omega)]; unfold vlh; rw [fed_at (by omega), kpt_o (by decide)]) ?_
              refine E_istore (pc := 126) 7 dX8_valley_126 (Nat.le_of_ble_eq_true rfl) rfl (lz := [_, _, _, _, _, _, _, _, _]) rfl ?_
              refine E_aload_n (pc := 128) 0 dX8_valley_128 rfl rfl ?_
              refine E_getR0 (pc := 129) dX8_valley_129 fl_RX8_34 rfl rfl ?_
              refine E_bipush (pc := 132) (64) dX8_valley_132 (by decide) ?_
              refine E_iload_n (pc := 134) 1 dX8_valley_134 rfl rfl ?_
              refine E_imul (pc := 135) dX8_valley_135 ?_
              refine E_iload (pc := 136) 6 dX8_valley_136 rfl ?_
              refine E_iadd (pc := 138) dX8_valley_138 ?_
              refine E_top (nI_64 k i) ?_
              refine E_iald (pc := 139) dX8_valley_139 rfl (vp_in_nI (by omega) (by decide)) ?_
              refine E_top (y := mN h k i) (by rw [ixN_nI (by omega)]; unfold vlh; rw [fed_at (by omega), kpt_o (by decide)]) ?_
              refine E_iload (pc := 140) 7 dX8_valley_140 rfl ?_
              refine E_icmp_eq (pc := 142) 191 dX8_valley_142 rfl (fun q142 => ?_) (fun q142 => ?_)
              · have hl1 := val_n (V := h g_m_holds 0) (T := T) (F := h g_m_feet 0 k) (f := mN h k) (g := mN h j) q142
                have hl2 : unl (mN h k) (mN h j) (i + 1) = unl (mN h k) (mN h j) i := if_pos q142
                have hl3 : vlh h k j i = vlh h k j (i + 1) := by
                  have e5 := fed_s (mN h j) (kpt h k 64) g_m_numbers (64 * k) i
                  have e6 : vlh h k j i g_m_numbers 0 (64 * k + i) = mN h j i := by unfold vlh; rw [fed_at (by omega), kpt_o (by decide)]; exact q142
                  rw [← e6] at e5
                  exact (hset_self _ _ _ _).symm.trans e5
                try rw [← hl4]
                refine E_iincN (pc := 191) 6 dX8_valley_191 (Nat.le_of_ble_eq_true rfl) rfl rfl (lz := [_, _, _, _, _, _, _, _, _]) rfl ?_
                refine E_goto (pc := 194) 100 dX8_valley_194 rfl ?_
                first | exact E_drop 7 (E_drop 8 (by rw [hl1, hl2, ← hl3] at hn; exact hn)) | exact E_drop 7 (E_drop 8 (by rw [hl2, hl4] at hn; exact hn)) | exact E_drop 7 (E_drop 8 (by rw [hl2] at hn; exact hn))
              · have hl1 := val_y (V := h g_m_holds 0) (T := T) (F := h g_m_feet 0 k) (f := mN h k) (g := mN h j) q142
                have hl2 : unl (mN h k) (mN h j) (i + 1) = unl (mN h k) (mN h j) i + 1 := if_neg q142
                refine E_aload_n (pc := 145) 0 dX8_valley_145 rfl rfl ?_
                refine E_getR0 (pc := 146) dX8_valley_146 fl_RX8_34 rfl rfl ?_
                refine E_bipush (pc := 149) (64) dX8_valley_149 (by decide) ?_
                refine E_iload_n (pc := 151) 1 dX8_valley_151 rfl rfl ?_
                refine E_imul (pc := 152) dX8_valley_152 ?_
                refine E_iload (pc := 153) 6 dX8_valley_153 rfl ?_
                refine E_iadd (pc := 155) dX8_valley_155 ?_
                refine E_top (nI_64 k i) ?_
                refine E_iload (pc := 156) 7 dX8_valley_156 rfl ?_
                refine E_iast (pc := 158) dX8_valley_158 rfl (vp_in_nI (by omega) (by decide)) ?_
                refine E_heq (h' := vlh h k j (i + 1)) (by rw [ixN_nI (by omega)]; exact fed_s (mN h j) (kpt h k 64) g_m_numbers (64 * k) i) ?_
                refine E_iincN (pc := 159) 5 dX8_valley_159 (Nat.le_of_ble_eq_true rfl) rfl rfl (lz := [_, _, _, _, _, _, _, _, _]) rfl ?_
                refine E_aload_n (pc := 162) 0 dX8_valley_162 rfl rfl ?_
                refine E_iload_n (pc := 163) 1 dX8_valley_163 rfl rfl ?_
                refine E_aload_n (pc := 164) 0 dX8_valley_164 rfl rfl ?_
                refine E_getR0 (pc := 165) dX8_valley_165 fl_RX8_40 rfl rfl ?_
                refine E_iload_n (pc := 168) 1 dX8_valley_168 rfl rfl ?_
                refine E_iald (pc := 169) dX8_valley_169 rfl (vp_in_nI (by omega) (by decide)) ?_
                refine E_top (y := h g_m_feet 0 k) (by rw [ixN_nI (by omega), vlh_o (by decide), kpt_o (by decide)]) ?_
                refine E_callV1 (pc := 170) dX8_valley_170 (C_X8_worthOf (by rw [vlh_o (by decide), kpt_o (by decide)]; exact hI.1) (by rw [vlh_n]; exact mix_RN hN hN2 _) hk (by rw [vlh_o (by decide), kpt_o (by decide)]; exact hT) hT1 hT8) rfl kv_RX8_212 rfl rfl rfl ⟨Nat.le_of_ble_eq_true rfl, Nat.le_of_ble_eq_true rfl, Nat.le_of_ble_eq_true rfl, Nat.le_of_ble_eq_true rfl⟩ (Nat.le_of_ble_eq_true rfl) ?_
                refine E_top (y := sWorth (h g_m_holds 0) (mix (mN h k) (mN h j) (i + 1)) T (h g_m_feet 0 k)) (by rw [vlh_n, vlh_o (by decide), kpt_o (by decide)]) ?_
                refine E_istore (pc := 173) 8 dX8_valley_173 (Nat.le_of_ble_eq_true rfl) rfl (lz := [_, _, _, _, _, _, _, _, _]) rfl ?_
                refine E_iload (pc := 175) 8 dX8_valley_175 rfl ?_
                refine E_iload (pc := 177) 4 dX8_valley_177 rfl ?_
                refine E_icmp_ge (pc := 179) 187 dX8_valley_179 rfl (fun q179 => ?_) (fun q179 => ?_)
                · have hl4 := hl1.trans (if_neg (Int32.not_lt.mpr q179))
                  refine E_iload (pc := 187) 4 dX8_valley_187 rfl ?_
                  refine E_istore (pc := 189) 4 dX8_valley_189 (Nat.le_of_ble_eq_true rfl) rfl (lz := [_, _, _, _, _, _, _, _, _]) rfl ?_
                  try rw [← hl4]
                  refine E_iincN (pc := 191) 6 dX8_valley_191 (Nat.le_of_ble_eq_true rfl) rfl rfl (lz := [_, _, _, _, _, _, _, _, _]) rfl ?_
                  refine E_goto (pc := 194) 100 dX8_valley_194 rfl ?_
                  first | exact E_drop 7 (E_drop 8 (by rw [hl1, hl2, ← hl3] at hn; exact hn)) | exact E_drop 7 (E_drop 8 (by rw [hl2, hl4] at hn; exact hn)) | exact E_drop 7 (E_drop 8 (by rw [hl2] at hn; exact hn))
                · have hl4 := hl1.trans (if_pos (Int32.not_le.mp q179))
                  refine E_iload (pc := 182) 8 dX8_valley_182 rfl ?_
                  refine E_goto (pc := 184) 189 dX8_valley_184 rfl ?_
                  refine E_istore (pc := 189) 4 dX8_valley_189 (Nat.le_of_ble_eq_true rfl) rfl (lz := [_, _, _, _, _, _, _, _, _]) rfl ?_
                  try rw [← hl4]
                  refine E_iincN (pc := 191) 6 dX8_valley_191 (Nat.le_of_ble_eq_true rfl) rfl rfl (lz := [_, _, _, _, _, _, _, _, _]) rfl ?_
                  refine E_goto (pc := 194) 100 dX8_valley_194 rfl ?_
                  first | exact E_drop 7 (E_drop 8 (by rw [hl1, hl2, ← hl3] at hn; exact hn)) | exact E_drop 7 (E_drop 8 (by rw [hl2, hl4] at hn; exact hn)) | exact E_drop 7 (E_drop 8 (by rw [hl2] at hn; exact hn))
          · intro i hi hn
            refine E_iload (pc := 65) 6 dX8_valley_65 rfl ?_
            refine E_bipush (pc := 67) (64) dX8_valley_67 (by decide) ?_
            refine E_icmp_ge (pc := 69) 97 dX8_valley_69 rfl (fun q69 => absurd q69 (nI_ge (b := 64) hi (by decide))) (fun q69 => ?_)
            refine E_aload_n (pc := 72) 0 dX8_valley_72 rfl rfl ?_
            refine E_getR0 (pc := 73) dX8_valley_73 fl_RX8_43 rfl rfl ?_
            refine E_iload (pc := 76) 6 dX8_valley_76 rfl ?_
            refine E_aload_n (pc := 78) 0 dX8_valley_78 rfl rfl ?_
            refine E_getR0 (pc := 79) dX8_valley_79 fl_RX8_34 rfl rfl ?_
            refine E_bipush (pc := 82) (64) dX8_valley_82 (by decide) ?_
            refine E_iload_n (pc := 84) 1 dX8_valley_84 rfl rfl ?_
            refine E_imul (pc := 85) dX8_valley_85 ?_
            refine E_iload (pc := 86) 6 dX8_valley_86 rfl ?_
            refine E_iadd (pc := 88) dX8_valley_88 ?_
            refine E_top (nI_64 k i) ?_
            refine E_iald (pc := 89) dX8_valley_89 rfl (vp_in_nI (by omega) (by decide)) ?_
            refine E_top (y := mN h k i) (by rw [ixN_nI (by omega), kpt_o (by decide)]) ?_
            refine E_iast (pc := 90) dX8_valley_90 rfl (vp_in_nI (by omega) (by decide)) ?_
            refine E_iincN (pc := 91) 6 dX8_valley_91 (Nat.le_of_ble_eq_true rfl) rfl rfl (lz := [_, _, _, _, _, _, _, _, _]) rfl ?_
            refine E_goto (pc := 94) 65 dX8_valley_94 rfl ?_
            exact E_heq (by rw [ixN_nI (by omega)]; have := fed_s (mN h k) h g_m_kept 0 i; rw [Nat.zero_add] at this; exact this) hn
        · refine E_bipush (pc := 43) (-2) dX8_valley_43 (by decide) ?_
          refine E_iret (pc := 45) dX8_valley_45 rfl ?_
          exact ⟨congrArg some (if_neg q40).symm, fun _ _ => rfl⟩
      · have hg : ¬ (isM h w ∧ isM h z ∧ 0 ≤ a ∧ a ≤ 1) := fun y => bi_0.mp q23 y.2.2
        refine E_iconst (pc := 26) (-1) dX8_valley_26 (by decide) ?_
        refine E_iret (pc := 27) dX8_valley_27 rfl ?_
        exact ⟨congrArg some (if_neg hg).symm, fun _ _ => rfl⟩
