/-! the model: barred, pits, worth -/
set_option maxHeartbeats 1600000 in
theorem C_X8_isBent {l : Launch} {G : GE} {h : Hp} {w T : Nat} (hw : w ≤ 5) (hT : h g_m_tenths 0 w = nI T) (hT8 : T ≤ 8) : CT l G mX8_isBent [vR g_model 0, vI (nI w)] h (fun r h' => r = some (bi (∃ t, t < T ∧ sBent (h g_m_holds 0) (mN h w) t)) ∧ h' = h) := by
  refine CT.of (lv := [_, _, _, _, _, _]) (by decide +kernel) (Nat.le_of_ble_eq_true rfl) rfl ?_
  refine E_iconst (pc := 0) (0) dX8_isBent_0 (by decide) ?_
  refine E_istore_n (pc := 1) 2 dX8_isBent_1 rfl (Nat.le_of_ble_eq_true rfl) rfl (lz := [_, _, _, _, _, _]) rfl ?_
  refine E_iconst (pc := 2) (0) dX8_isBent_2 (by decide) ?_
  refine E_istore_n (pc := 3) 3 dX8_isBent_3 rfl (Nat.le_of_ble_eq_true rfl) rfl (lz := [_, _, _, _, _, _]) rfl ?_
  refine down (P := fun t => ∀ x : Int32, (x = 0 ∨ x = 1) → (x = 1 ↔ ∃ u, u < t ∧ sBent (h g_m_holds 0) (mN h w) u) → Ev l G mX8_isBent _ 4 [some (vR g_model 0), some (vI (nI w)), some (vI x), some (vI (nI t)), none, none] [] h) T ?_ ?_ 0 (Nat.zero_le _) 0 (Or.inl rfl) ⟨fun z => absurd z (by decide), fun ⟨j, hj, _⟩ => absurd hj (Nat.not_lt_zero j)⟩
  · intro x hx ho
    refine E_iload_n (pc := 4) 3 dX8_isBent_4 rfl rfl ?_
    refine E_aload_n (pc := 5) 0 dX8_isBent_5 rfl rfl ?_
    refine E_getR0 (pc := 6) dX8_isBent_6 fl_RX8_37 rfl rfl ?_
    refine E_iload_n (pc := 9) 1 dX8_isBent_9 rfl rfl ?_
    refine E_iald (pc := 10) dX8_isBent_10 rfl (vp_in_nI (by omega) (by decide)) ?_
    refine E_top (y := nI T) (by rw [ixN_nI (by omega)]; exact hT) ?_
    refine E_icmp_ge (pc := 11) 110 dX8_isBent_11 rfl (fun q11 => ?_) (fun q11 => absurd (Int32.le_refl _) q11)
    refine E_iload_n (pc := 110) 2 dX8_isBent_110 rfl rfl ?_
    refine E_zret (pc := 111) dX8_isBent_111 rfl (by rcases hx with rfl | rfl <;> rfl) ?_
    refine ⟨congrArg some ?_, rfl⟩
    by_cases hg : ∃ u, u < T ∧ sBent (h g_m_holds 0) (mN h w) u
    · rw [bi_t hg]; exact ho.mpr hg
    · rw [bi_f hg]; exact hx.resolve_right (fun e => hg (ho.mp e))
  · intro t ht hn x0 hx0 ho0
    refine E_iload_n (pc := 4) 3 dX8_isBent_4 rfl rfl ?_
    refine E_aload_n (pc := 5) 0 dX8_isBent_5 rfl rfl ?_
    refine E_getR0 (pc := 6) dX8_isBent_6 fl_RX8_37 rfl rfl ?_
    refine E_iload_n (pc := 9) 1 dX8_isBent_9 rfl rfl ?_
    refine E_iald (pc := 10) dX8_isBent_10 rfl (vp_in_nI (by omega) (by decide)) ?_
    refine E_top (y := nI T) (by rw [ixN_nI (by omega)]; exact hT) ?_
    refine E_icmp_ge (pc := 11) 110 dX8_isBent_11 rfl (fun q11 => absurd q11 (nI_ge ht (by omega))) (fun q11 => ?_)
    refine E_iconst (pc := 14) (0) dX8_isBent_14 (by decide) ?_
    refine E_istore (pc := 15) 4 dX8_isBent_15 (Nat.le_of_ble_eq_true rfl) rfl (lz := [_, _, _, _, _, _]) rfl ?_
    refine down (P := fun p => ∀ x : Int32, (x = 0 ∨ x = 1) → (x = 1 ↔ (∃ u, u < t ∧ sBent (h g_m_holds 0) (mN h w) u) ∨ ∃ j, j < p ∧ sBentP (h g_m_holds 0) (mN h w) t j) → Ev l G mX8_isBent _ 17 [some (vR g_model 0), some (vI (nI w)), some (vI x), some (vI (nI t)), some (vI (nI p)), none] [] h) 3 ?_ ?_ 0 (Nat.zero_le _) x0 hx0 (ho0.trans ⟨Or.inl, fun z => z.elim id (fun ⟨j, hj, _⟩ => absurd hj (Nat.not_lt_zero j))⟩)
    · intro x hx ho
      refine E_iload (pc := 17) 4 dX8_isBent_17 rfl ?_
      refine E_iconst (pc := 19) (3) dX8_isBent_19 (by decide) ?_
      refine E_icmp_ge (pc := 20) 104 dX8_isBent_20 rfl (fun q20 => ?_) (fun q20 => absurd (show (3 : Int32) ≤ 3 by decide) q20)
      refine E_iincN (pc := 104) 3 dX8_isBent_104 (Nat.le_of_ble_eq_true rfl) rfl rfl (lz := [_, _, _, _, _, _]) rfl ?_
      refine E_goto (pc := 107) 4 dX8_isBent_107 rfl ?_
      refine E_drop 4 (hn x hx (ho.trans ⟨fun z => ?_, fun ⟨u, hu, hz⟩ => ?_⟩))
      · rcases z with ⟨u, hu, hz⟩ | ⟨j, hj, hz⟩
        · exact ⟨u, Nat.lt_succ_of_lt hu, hz⟩
        · refine ⟨t, Nat.lt_succ_self t, ?_⟩
          rcases (show j = 0 ∨ j = 1 ∨ j = 2 by omega) with rfl | rfl | rfl
          · exact Or.inl hz
          · exact Or.inr (Or.inl hz)
          · exact Or.inr (Or.inr hz)
      · rcases Nat.lt_succ_iff_lt_or_eq.mp hu with hu | rfl
        · exact Or.inl ⟨u, hu, hz⟩
        · exact Or.inr (hz.elim (fun z => ⟨0, by decide, z⟩) (fun z => z.elim (fun z => ⟨1, by decide, z⟩) (fun z => ⟨2, by decide, z⟩)))
    · intro p hp hm x hx ho
      refine E_iload (pc := 17) 4 dX8_isBent_17 rfl ?_
      refine E_iconst (pc := 19) (3) dX8_isBent_19 (by decide) ?_
      refine E_icmp_ge (pc := 20) 104 dX8_isBent_20 rfl (fun q20 => absurd q20 (nI_ge (b := 3) hp (by decide))) (fun q20 => ?_)
      refine E_aload_n (pc := 23) 0 dX8_isBent_23 rfl rfl ?_
      refine E_iload_n (pc := 24) 1 dX8_isBent_24 rfl rfl ?_
      refine E_iload_n (pc := 25) 3 dX8_isBent_25 rfl rfl ?_
      refine E_iload (pc := 26) 4 dX8_isBent_26 rfl ?_
      refine E_iconst (pc := 28) (0) dX8_isBent_28 (by decide) ?_
      refine E_callV1 (pc := 29) dX8_isBent_29 (C_X8_its (ax := 0) hw (by omega) (by omega) (by decide)) rfl kv_RX8_162 rfl rfl rfl ⟨Nat.le_of_ble_eq_true rfl, Nat.le_of_ble_eq_true rfl, Nat.le_of_ble_eq_true rfl, Nat.le_of_ble_eq_true rfl⟩ (Nat.le_of_ble_eq_true rfl) ?_
      refine E_aload_n (pc := 32) 0 dX8_isBent_32 rfl rfl ?_
      refine E_iload_n (pc := 33) 1 dX8_isBent_33 rfl rfl ?_
      refine E_iload_n (pc := 34) 3 dX8_isBent_34 rfl rfl ?_
      refine E_iload (pc := 35) 4 dX8_isBent_35 rfl ?_
      refine E_iconst (pc := 37) (1) dX8_isBent_37 (by decide) ?_
      refine E_iadd (pc := 38) dX8_isBent_38 ?_
      refine E_eq (st' := [vI (nI (p + 1)), vI (nI t), vI (nI w), vR g_model 0, vI (mN h w (8 * t + 2 * p))]) rfl (by rw [nI_succ]; rfl) rfl ?_
      refine E_iconst (pc := 39) (0) dX8_isBent_39 (by decide) ?_
      refine E_callV1 (pc := 40) dX8_isBent_40 (C_X8_its (p := p + 1) (ax := 0) hw (by omega) (by omega) (by decide)) rfl kv_RX8_162 rfl rfl rfl ⟨Nat.le_of_ble_eq_true rfl, Nat.le_of_ble_eq_true rfl, Nat.le_of_ble_eq_true rfl, Nat.le_of_ble_eq_true rfl⟩ (Nat.le_of_ble_eq_true rfl) ?_
      refine E_isub (pc := 43) dX8_isBent_43 ?_
      refine E_callS1 (pc := 44) dX8_isBent_44 C_X8_size rfl ks_RX8_194 rfl ⟨Nat.le_of_ble_eq_true rfl, Nat.le_of_ble_eq_true rfl, Nat.le_of_ble_eq_true rfl, Nat.le_of_ble_eq_true rfl⟩ (Nat.le_of_ble_eq_true rfl) ?_
      refine E_aload_n (pc := 47) 0 dX8_isBent_47 rfl rfl ?_
      refine E_iload_n (pc := 48) 1 dX8_isBent_48 rfl rfl ?_
      refine E_iload_n (pc := 49) 3 dX8_isBent_49 rfl rfl ?_
      refine E_iload (pc := 50) 4 dX8_isBent_50 rfl ?_
      refine E_iconst (pc := 52) (1) dX8_isBent_52 (by decide) ?_
      refine E_callV1 (pc := 53) dX8_isBent_53 (C_X8_its (ax := 1) hw (by omega) (by omega) (by decide)) rfl kv_RX8_162 rfl rfl rfl ⟨Nat.le_of_ble_eq_true rfl, Nat.le_of_ble_eq_true rfl, Nat.le_of_ble_eq_true rfl, Nat.le_of_ble_eq_true rfl⟩ (Nat.le_of_ble_eq_true rfl) ?_
      refine E_aload_n (pc := 56) 0 dX8_isBent_56 rfl rfl ?_
      refine E_iload_n (pc := 57) 1 dX8_isBent_57 rfl rfl ?_
      refine E_iload_n (pc := 58) 3 dX8_isBent_58 rfl rfl ?_
      refine E_iload (pc := 59) 4 dX8_isBent_59 rfl ?_
      refine E_iconst (pc := 61) (1) dX8_isBent_61 (by decide) ?_
      refine E_iadd (pc := 62) dX8_isBent_62 ?_
      refine E_eq (st' := [vI (nI (p + 1)), vI (nI t), vI (nI w), vR g_model 0, vI (mN h w (8 * t + 2 * p + 1)), vI (absI (mN h w (8 * t + 2 * p) - mN h w (8 * t + 2 * p + 2)))]) rfl (by rw [nI_succ]; rfl) rfl ?_
      refine E_iconst (pc := 63) (1) dX8_isBent_63 (by decide) ?_
      refine E_callV1 (pc := 64) dX8_isBent_64 (C_X8_its (p := p + 1) (ax := 1) hw (by omega) (by omega) (by decide)) rfl kv_RX8_162 rfl rfl rfl ⟨Nat.le_of_ble_eq_true rfl, Nat.le_of_ble_eq_true rfl, Nat.le_of_ble_eq_true rfl, Nat.le_of_ble_eq_true rfl⟩ (Nat.le_of_ble_eq_true rfl) ?_
      refine E_isub (pc := 67) dX8_isBent_67 ?_
      refine E_callS1 (pc := 68) dX8_isBent_68 C_X8_size rfl ks_RX8_194 rfl ⟨Nat.le_of_ble_eq_true rfl, Nat.le_of_ble_eq_true rfl, Nat.le_of_ble_eq_true rfl, Nat.le_of_ble_eq_true rfl⟩ (Nat.le_of_ble_eq_true rfl) ?_
      refine E_iadd (pc := 71) dX8_isBent_71 ?_
      refine E_istore (pc := 72) 5 dX8_isBent_72 (Nat.le_of_ble_eq_true rfl) rfl (lz := [_, _, _, _, _, _]) rfl ?_
      refine E_iload_n (pc := 74) 2 dX8_isBent_74 rfl rfl ?_
      refine E_if_ne (pc := 75) 92 dX8_isBent_75 rfl (fun q75 => ?_) (fun q75 => ?_)
      · have hy : (∃ u, u < t ∧ sBent (h g_m_holds 0) (mN h w) u) ∨ ∃ j, j < p + 1 ∧ sBentP (h g_m_holds 0) (mN h w) t j := (ho.mp (hx.resolve_left q75)).elim Or.inl (fun ⟨j, hj, hz⟩ => Or.inr ⟨j, Nat.lt_succ_of_lt hj, hz⟩)
        refine E_iconst (pc := 92) (1) dX8_isBent_92 (by decide) ?_
        refine E_goto (pc := 93) 97 dX8_isBent_93 rfl ?_
        refine E_istore_n (pc := 97) 2 dX8_isBent_97 rfl (Nat.le_of_ble_eq_true rfl) rfl (lz := [_, _, _, _, _, _]) rfl ?_
        refine E_iincN (pc := 98) 4 dX8_isBent_98 (Nat.le_of_ble_eq_true rfl) rfl rfl (lz := [_, _, _, _, _, _]) rfl ?_
        refine E_goto (pc := 101) 17 dX8_isBent_101 rfl ?_
        refine E_drop 5 ?_
        first | exact hm 1 (Or.inr rfl) ⟨fun _ => hy, fun _ => rfl⟩ | exact hm 0 (Or.inl rfl) ⟨fun z => absurd z (by decide), fun z => absurd z hy⟩
      · refine E_iload (pc := 78) 5 dX8_isBent_78 rfl ?_
        refine E_aload_n (pc := 80) 0 dX8_isBent_80 rfl rfl ?_
        refine E_getR0 (pc := 81) dX8_isBent_81 fl_RX8_28 rfl rfl ?_
        refine E_iconst (pc := 84) (4) dX8_isBent_84 (by decide) ?_
        refine E_iload (pc := 85) 4 dX8_isBent_85 rfl ?_
        refine E_iadd (pc := 87) dX8_isBent_87 ?_
        refine E_iald (pc := 88) dX8_isBent_88 rfl (vin4 (a := 4) (by omega) (by decide)) ?_
        refine E_top (y := h g_m_holds 0 (4 + p)) (by rw [← e_ix4 (a := 4) (p := p) (by omega)]; rfl) ?_
        refine E_icmp_le (pc := 89) 96 dX8_isBent_89 rfl (fun q89 => ?_) (fun q89 => ?_)
        · have hb : ¬ sBentP (h g_m_holds 0) (mN h w) t p := Int32.not_lt.mpr q89
          have hy : ¬ ((∃ u, u < t ∧ sBent (h g_m_holds 0) (mN h w) u) ∨ ∃ j, j < p + 1 ∧ sBentP (h g_m_holds 0) (mN h w) t j) := fun z => z.elim (fun z => absurd (ho.mpr (Or.inl z)) (by rw [q75]; decide)) (fun ⟨j, hj, hz⟩ => (Nat.lt_succ_iff_lt_or_eq.mp hj).elim (fun hj => absurd (ho.mpr (Or.inr ⟨j, hj, hz⟩)) (by rw [q75]; decide)) (fun e => hb (e ▸ hz)))
          refine E_iconst (pc := 96) (0) dX8_isBent_96 (by decide) ?_
          refine E_istore_n (pc := 97) 2 dX8_isBent_97 rfl (Nat.le_of_ble_eq_true rfl) rfl (lz := [_, _, _, _, _, _]) rfl ?_
          refine E_iincN (pc := 98) 4 dX8_isBent_98 (Nat.le_of_ble_eq_true rfl) rfl rfl (lz := [_, _, _, _, _, _]) rfl ?_
          refine E_goto (pc := 101) 17 dX8_isBent_101 rfl ?_
          refine E_drop 5 ?_
          first | exact hm 1 (Or.inr rfl) ⟨fun _ => hy, fun _ => rfl⟩ | exact hm 0 (Or.inl rfl) ⟨fun z => absurd z (by decide), fun z => absurd z hy⟩
        · have hb : sBentP (h g_m_holds 0) (mN h w) t p := Int32.not_le.mp q89
          have hy : (∃ u, u < t ∧ sBent (h g_m_holds 0) (mN h w) u) ∨ ∃ j, j < p + 1 ∧ sBentP (h g_m_holds 0) (mN h w) t j := Or.inr ⟨p, Nat.lt_succ_self p, hb⟩
          refine E_iconst (pc := 92) (1) dX8_isBent_92 (by decide) ?_
          refine E_goto (pc := 93) 97 dX8_isBent_93 rfl ?_
          refine E_istore_n (pc := 97) 2 dX8_isBent_97 rfl (Nat.le_of_ble_eq_true rfl) rfl (lz := [_, _, _, _, _, _]) rfl ?_
          refine E_iincN (pc := 98) 4 dX8_isBent_98 (Nat.le_of_ble_eq_true rfl) rfl rfl (lz := [_, _, _, _, _, _]) rfl ?_
          refine E_goto (pc := 101) 17 dX8_isBent_101 rfl ?_
          refine E_drop 5 ?_
          first | exact hm 1 (Or.inr rfl) ⟨fun _ => hy, fun _ => rfl⟩ | exact hm 0 (Or.inl rfl) ⟨fun z => absurd z (by decide), fun z => absurd z hy⟩
theorem quick_iff {V N : Nat → Int32} {T : Nat} : (∃ i, i < 8 * (T - 1) ∧ sHastyP V N i) ↔ ∃ t, t < T ∧ sHasty V N T t := by
  constructor
  · rintro ⟨i, hi, hz⟩
    refine ⟨i / 8, by omega, by omega, i % 8, Nat.mod_lt _ (by decide), ?_⟩
    rw [Nat.div_add_mod]
    exact hz
  · rintro ⟨t, ht, h1, i, hi, hz⟩
    exact ⟨8 * t + i, by omega, hz⟩
set_option maxHeartbeats 1600000 in
theorem C_X8_isQuick {l : Launch} {G : GE} {h : Hp} {w T : Nat} (hw : w ≤ 5) (hT : h g_m_tenths 0 w = nI T) (hT1 : 1 ≤ T) (hT8 : T ≤ 8) : CT l G mX8_isQuick [vR g_model 0, vI (nI w)] h (fun r h' => r = some (bi (∃ t, t < T ∧ sHasty (h g_m_holds 0) (mN h w) T t)) ∧ h' = h) := by
  refine CT.of (lv := [_, _, _, _]) (by decide +kernel) (Nat.le_of_ble_eq_true rfl) rfl ?_
  have e8 : 8 * h g_m_tenths 0 (ixN (nI w)) = nI (8 * (T - 1) + 8) := by
    rw [ixN_nI (by omega), hT, show (8 : Int32) = nI 8 from rfl, pk_mul]
    congr 1
    omega
  refine E_iconst (pc := 0) (0) dX8_isQuick_0 (by decide) ?_
  refine E_istore_n (pc := 1) 2 dX8_isQuick_1 rfl (Nat.le_of_ble_eq_true rfl) rfl (lz := [_, _, _, _]) rfl ?_
  refine E_bipush (pc := 2) (8) dX8_isQuick_2 (by decide) ?_
  refine E_istore_n (pc := 4) 3 dX8_isQuick_4 rfl (Nat.le_of_ble_eq_true rfl) rfl (lz := [_, _, _, _]) rfl ?_
  refine down (P := fun i => ∀ x : Int32, (x = 0 ∨ x = 1) → (x = 1 ↔ ∃ u, u < i ∧ sHastyP (h g_m_holds 0) (mN h w) u) → Ev l G mX8_isQuick _ 5 [some (vR g_model 0), some (vI (nI w)), some (vI x), some (vI (nI (8 + i)))] [] h) (8 * (T - 1)) ?_ ?_ 0 (Nat.zero_le _) 0 (Or.inl rfl) ⟨fun z => absurd z (by decide), fun ⟨j, hj, _⟩ => absurd hj (Nat.not_lt_zero j)⟩
  · intro x hx ho
    rw [quick_iff] at ho
    refine E_iload_n (pc := 5) 3 dX8_isQuick_5 rfl rfl ?_
    refine E_bipush (pc := 6) (8) dX8_isQuick_6 (by decide) ?_
    refine E_aload_n (pc := 8) 0 dX8_isQuick_8 rfl rfl ?_
    refine E_getR0 (pc := 9) dX8_isQuick_9 fl_RX8_37 rfl rfl ?_
    refine E_iload_n (pc := 12) 1 dX8_isQuick_12 rfl rfl ?_
    refine E_iald (pc := 13) dX8_isQuick_13 rfl (vp_in_nI (by omega) (by decide)) ?_
    refine E_imul (pc := 14) dX8_isQuick_14 ?_
    refine E_top (y := nI (8 * (T - 1) + 8)) e8 ?_
    refine E_icmp_ge (pc := 15) 73 dX8_isQuick_15 rfl (fun q15 => ?_) (fun q15 => absurd (show nI (8 * (T - 1) + 8) ≤ nI (8 + 8 * (T - 1)) by rw [Nat.add_comm]; exact Int32.le_refl _) q15)
    refine E_iload_n (pc := 73) 2 dX8_isQuick_73 rfl rfl ?_
    refine E_zret (pc := 74) dX8_isQuick_74 rfl (by rcases hx with rfl | rfl <;> rfl) ?_
    refine ⟨congrArg some ?_, rfl⟩
    by_cases hg : ∃ t, t < T ∧ sHasty (h g_m_holds 0) (mN h w) T t
    · rw [bi_t hg]; exact ho.mpr hg
    · rw [bi_f hg]; exact hx.resolve_right (fun e => hg (ho.mp e))
  · intro i hi hm x hx ho
    refine E_iload_n (pc := 5) 3 dX8_isQuick_5 rfl rfl ?_
    refine E_bipush (pc := 6) (8) dX8_isQuick_6 (by decide) ?_
    refine E_aload_n (pc := 8) 0 dX8_isQuick_8 rfl rfl ?_
    refine E_getR0 (pc := 9) dX8_isQuick_9 fl_RX8_37 rfl rfl ?_
    refine E_iload_n (pc := 12) 1 dX8_isQuick_12 rfl rfl ?_
    refine E_iald (pc := 13) dX8_isQuick_13 rfl (vp_in_nI (by omega) (by decide)) ?_
    refine E_imul (pc := 14) dX8_isQuick_14 ?_
    refine E_top (y := nI (8 * (T - 1) + 8)) e8 ?_
    refine E_icmp_ge (pc := 15) 73 dX8_isQuick_15 rfl (fun q15 => absurd q15 (nI_ge (by omega) (by omega))) (fun q15 => ?_)
    refine E_iload_n (pc := 18) 2 dX8_isQuick_18 rfl rfl ?_
    refine E_if_ne (pc := 19) 61 dX8_isQuick_19 rfl (fun q19 => ?_) (fun q19 => ?_)
    · have hy : ∃ u, u < i + 1 ∧ sHastyP (h g_m_holds 0) (mN h w) u := (ho.mp (hx.resolve_left q19)).elim (fun u hu => ⟨u, Nat.lt_succ_of_lt hu.1, hu.2⟩)
      refine E_iconst (pc := 61) (1) dX8_isQuick_61 (by decide) ?_
      refine E_goto (pc := 62) 66 dX8_isQuick_62 rfl ?_
      refine E_istore_n (pc := 66) 2 dX8_isQuick_66 rfl (Nat.le_of_ble_eq_true rfl) rfl (lz := [_, _, _, _]) rfl ?_
      refine E_iincN (pc := 67) 3 dX8_isQuick_67 (Nat.le_of_ble_eq_true rfl) rfl rfl (lz := [_, _, _, _]) rfl ?_
      refine E_goto (pc := 70) 5 dX8_isQuick_70 rfl ?_
      first | exact hm 1 (Or.inr rfl) ⟨fun _ => hy, fun _ => rfl⟩ | exact hm 0 (Or.inl rfl) ⟨fun z => absurd z (by decide), fun z => absurd z hy⟩
    · refine E_aload_n (pc := 22) 0 dX8_isQuick_22 rfl rfl ?_
      refine E_getR0 (pc := 23) dX8_isQuick_23 fl_RX8_34 rfl rfl ?_
      refine E_bipush (pc := 26) (64) dX8_isQuick_26 (by decide) ?_
      refine E_iload_n (pc := 28) 1 dX8_isQuick_28 rfl rfl ?_
      refine E_imul (pc := 29) dX8_isQuick_29 ?_
      refine E_iload_n (pc := 30) 3 dX8_isQuick_30 rfl rfl ?_
      refine E_iadd (pc := 31) dX8_isQuick_31 ?_
      refine E_top (y := nI (64 * w + (i + 8))) (by rw [nI_64]; congr 1; omega) ?_
      refine E_iald (pc := 32) dX8_isQuick_32 rfl (vp_in_nI (by omega) (by decide)) ?_
      refine E_top (y := mN h w (i + 8)) (by rw [ixN_nI (by omega)]) ?_
      refine E_aload_n (pc := 33) 0 dX8_isQuick_33 rfl rfl ?_
      refine E_getR0 (pc := 34) dX8_isQuick_34 fl_RX8_34 rfl rfl ?_
      refine E_bipush (pc := 37) (64) dX8_isQuick_37 (by decide) ?_
      refine E_iload_n (pc := 39) 1 dX8_isQuick_39 rfl rfl ?_
      refine E_imul (pc := 40) dX8_isQuick_40 ?_
      refine E_iload_n (pc := 41) 3 dX8_isQuick_41 rfl rfl ?_
      refine E_iadd (pc := 42) dX8_isQuick_42 ?_
      refine E_bipush (pc := 43) (8) dX8_isQuick_43 (by decide) ?_
      refine E_isub (pc := 45) dX8_isQuick_45 ?_
      refine E_top (y := nI (64 * w + i)) (by rw [nI_64, show (8 : Int32) = nI 8 from rfl, pk_sub (by omega)]; congr 1; omega) ?_
      refine E_iald (pc := 46) dX8_isQuick_46 rfl (vp_in_nI (by omega) (by decide)) ?_
      refine E_top (y := mN h w i) (by rw [ixN_nI (by omega)]) ?_
      refine E_isub (pc := 47) dX8_isQuick_47 ?_
      refine E_callS1 (pc := 48) dX8_isQuick_48 C_X8_size rfl ks_RX8_194 rfl ⟨Nat.le_of_ble_eq_true rfl, Nat.le_of_ble_eq_true rfl, Nat.le_of_ble_eq_true rfl, Nat.le_of_ble_eq_true rfl⟩ (Nat.le_of_ble_eq_true rfl) ?_
      refine E_aload_n (pc := 51) 0 dX8_isQuick_51 rfl rfl ?_
      refine E_getR0 (pc := 52) dX8_isQuick_52 fl_RX8_28 rfl rfl ?_
      refine E_bipush (pc := 55) (13) dX8_isQuick_55 (by decide) ?_
      refine E_iald (pc := 57) dX8_isQuick_57 rfl (by unfold vp_in; decide) ?_
      refine E_icmp_le (pc := 58) 65 dX8_isQuick_58 rfl (fun q58 => ?_) (fun q58 => ?_)
      · have hb : ¬ sHastyP (h g_m_holds 0) (mN h w) i := Int32.not_lt.mpr q58
        have hy : ¬ ∃ u, u < i + 1 ∧ sHastyP (h g_m_holds 0) (mN h w) u := fun ⟨j, hj, hz⟩ => (Nat.lt_succ_iff_lt_or_eq.mp hj).elim (fun hj => absurd (ho.mpr ⟨j, hj, hz⟩) (by rw [q19]; decide)) (fun e => hb (e ▸ hz))
        refine E_iconst (pc := 65) (0) dX8_isQuick_65 (by decide) ?_
        refine E_istore_n (pc := 66) 2 dX8_isQuick_66 rfl (Nat.le_of_ble_eq_true rfl) rfl (lz := [_, _, _, _]) rfl ?_
        refine E_iincN (pc := 67) 3 dX8_isQuick_67 (Nat.le_of_ble_eq_true rfl) rfl rfl (lz := [_, _, _, _]) rfl ?_
        refine E_goto (pc := 70) 5 dX8_isQuick_70 rfl ?_
        first | exact hm 1 (Or.inr rfl) ⟨fun _ => hy, fun _ => rfl⟩ | exact hm 0 (Or.inl rfl) ⟨fun z => absurd z (by decide), fun z => absurd z hy⟩
      · have hb : sHastyP (h g_m_holds 0) (mN h w) i := Int32.not_le.mp q58
        have hy : ∃ u, u < i + 1 ∧ sHastyP (h g_m_holds 0) (mN h w) u := ⟨i, Nat.lt_succ_self i, hb⟩
        refine E_iconst (pc := 61) (1) dX8_isQuick_61 (by decide) ?_
        refine E_goto (pc := 62) 66 dX8_isQuick_62 rfl ?_
        refine E_istore_n (pc := 66) 2 dX8_isQuick_66 rfl (Nat.le_of_ble_eq_true rfl) rfl (lz := [_, _, _, _]) rfl ?_
        refine E_iincN (pc := 67) 3 dX8_isQuick_67 (Nat.le_of_ble_eq_true rfl) rfl rfl (lz := [_, _, _, _]) rfl ?_
        refine E_goto (pc := 70) 5 dX8_isQuick_70 rfl ?_
        first | exact hm 1 (Or.inr rfl) ⟨fun _ => hy, fun _ => rfl⟩ | exact hm 0 (Or.inl rfl) ⟨fun z => absurd z (by decide), fun z => absurd z hy⟩
set_option maxHeartbeats 1600000 in
theorem C_X8_landsOn {l : Launch} {G : GE} {h : Hp} {w T : Nat} (hw : w ≤ 5) (hT : h g_m_tenths 0 w = nI T) (hT1 : 1 ≤ T) (hT8 : T ≤ 8) : CT l G mX8_landsOn [vR g_model 0, vI (nI w)] h (fun r h' => r = some (landF (mN h w) T 3) ∧ h' = h) := by
  refine CT.of (lv := [_, _, _, _]) (by decide +kernel) (Nat.le_of_ble_eq_true rfl) rfl ?_
  have e1 : h g_m_tenths 0 (ixN (nI w)) - 1 = nI (T - 1) := by rw [ixN_nI (by omega), hT, show (1 : Int32) = nI 1 from rfl, pk_sub (by omega)]
  refine E_iconst (pc := 0) (0) dX8_landsOn_0 (by decide) ?_
  refine E_istore_n (pc := 1) 2 dX8_landsOn_1 rfl (Nat.le_of_ble_eq_true rfl) rfl (lz := [_, _, _, _]) rfl ?_
  refine E_iconst (pc := 2) (1) dX8_landsOn_2 (by decide) ?_
  refine E_istore_n (pc := 3) 3 dX8_landsOn_3 rfl (Nat.le_of_ble_eq_true rfl) rfl (lz := [_, _, _, _]) rfl ?_
  refine down (P := fun p => Ev l G mX8_landsOn _ 4 [some (vR g_model 0), some (vI (nI w)), some (vI (landF (mN h w) T p)), some (vI (nI (p + 1)))] [] h) 3 ?_ ?_ 0 (Nat.zero_le _)
  · refine E_iload_n (pc := 4) 3 dX8_landsOn_4 rfl rfl ?_
    refine E_iconst (pc := 5) (4) dX8_landsOn_5 (by decide) ?_
    refine E_icmp_ge (pc := 6) 54 dX8_landsOn_6 rfl (fun q6 => ?_) (fun q6 => absurd (show (4 : Int32) ≤ 4 by decide) q6)
    refine E_iload_n (pc := 54) 2 dX8_landsOn_54 rfl rfl ?_
    refine E_iret (pc := 55) dX8_landsOn_55 rfl ?_
    exact ⟨rfl, rfl⟩
  · intro p hp hn
    obtain ⟨j, hj, ej⟩ := landF_or (mN h w) T p
    refine E_iload_n (pc := 4) 3 dX8_landsOn_4 rfl rfl ?_
    refine E_iconst (pc := 5) (4) dX8_landsOn_5 (by decide) ?_
    refine E_icmp_ge (pc := 6) 54 dX8_landsOn_6 rfl (fun q6 => absurd q6 (nI_ge (a := p + 1) (b := 4) (by omega) (by decide))) (fun q6 => ?_)
    refine E_aload_n (pc := 9) 0 dX8_landsOn_9 rfl rfl ?_
    refine E_iload_n (pc := 10) 1 dX8_landsOn_10 rfl rfl ?_
    refine E_aload_n (pc := 11) 0 dX8_landsOn_11 rfl rfl ?_
    refine E_getR0 (pc := 12) dX8_landsOn_12 fl_RX8_37 rfl rfl ?_
    refine E_iload_n (pc := 15) 1 dX8_landsOn_15 rfl rfl ?_
    refine E_iald (pc := 16) dX8_landsOn_16 rfl (vp_in_nI (by omega) (by decide)) ?_
    refine E_iconst (pc := 17) (1) dX8_landsOn_17 (by decide) ?_
    refine E_isub (pc := 18) dX8_landsOn_18 ?_
    refine E_top (y := nI (T - 1)) e1 ?_
    refine E_iload_n (pc := 19) 3 dX8_landsOn_19 rfl rfl ?_
    refine E_iconst (pc := 20) (1) dX8_landsOn_20 (by decide) ?_
    refine E_callV1 (pc := 21) dX8_landsOn_21 (C_X8_its (ax := 1) hw (by omega) (by omega) (by decide)) rfl kv_RX8_162 rfl rfl rfl ⟨Nat.le_of_ble_eq_true rfl, Nat.le_of_ble_eq_true rfl, Nat.le_of_ble_eq_true rfl, Nat.le_of_ble_eq_true rfl⟩ (Nat.le_of_ble_eq_true rfl) ?_
    refine E_aload_n (pc := 24) 0 dX8_landsOn_24 rfl rfl ?_
    refine E_iload_n (pc := 25) 1 dX8_landsOn_25 rfl rfl ?_
    refine E_aload_n (pc := 26) 0 dX8_landsOn_26 rfl rfl ?_
    refine E_getR0 (pc := 27) dX8_landsOn_27 fl_RX8_37 rfl rfl ?_
    refine E_iload_n (pc := 30) 1 dX8_landsOn_30 rfl rfl ?_
    refine E_iald (pc := 31) dX8_landsOn_31 rfl (vp_in_nI (by omega) (by decide)) ?_
    refine E_iconst (pc := 32) (1) dX8_landsOn_32 (by decide) ?_
    refine E_isub (pc := 33) dX8_landsOn_33 ?_
    refine E_top (y := nI (T - 1)) e1 ?_
    refine E_iload_n (pc := 34) 2 dX8_landsOn_34 rfl rfl ?_
    refine E_eq (st' := [vI (nI j), vI (nI (T - 1)), vI (nI w), vR g_model 0, vI (mN h w (8 * (T - 1) + 2 * (p + 1) + 1))]) rfl (by rw [ej]) rfl ?_
    refine E_iconst (pc := 35) (1) dX8_landsOn_35 (by decide) ?_
    refine E_callV1 (pc := 36) dX8_landsOn_36 (C_X8_its (ax := 1) hw (by omega) (by omega) (by decide)) rfl kv_RX8_162 rfl rfl rfl ⟨Nat.le_of_ble_eq_true rfl, Nat.le_of_ble_eq_true rfl, Nat.le_of_ble_eq_true rfl, Nat.le_of_ble_eq_true rfl⟩ (Nat.le_of_ble_eq_true rfl) ?_
    refine E_top (y := mN h w (8 * (T - 1) + 2 * ixN (landF (mN h w) T p) + 1)) (by rw [ej, ixN_nI (by omega)]) ?_
    refine E_icmp_gt (pc := 39) 46 dX8_landsOn_39 rfl (fun q39 => ?_) (fun q39 => ?_)
    · have hl : landF (mN h w) T (p + 1) = landF (mN h w) T p := if_neg (fun z => Int32.not_le.mpr q39 z)
      refine E_iload_n (pc := 46) 2 dX8_landsOn_46 rfl rfl ?_
      refine E_istore_n (pc := 47) 2 dX8_landsOn_47 rfl (Nat.le_of_ble_eq_true rfl) rfl (lz := [_, _, _, _]) rfl ?_
      refine E_iincN (pc := 48) 3 dX8_landsOn_48 (Nat.le_of_ble_eq_true rfl) rfl rfl (lz := [_, _, _, _]) rfl ?_
      refine E_goto (pc := 51) 4 dX8_landsOn_51 rfl ?_
      rw [hl] at hn
      exact hn
    · have hl : landF (mN h w) T (p + 1) = nI (p + 1) := if_pos (Int32.not_lt.mp q39)
      refine E_iload_n (pc := 42) 3 dX8_landsOn_42 rfl rfl ?_
      refine E_goto (pc := 43) 47 dX8_landsOn_43 rfl ?_
      refine E_istore_n (pc := 47) 2 dX8_landsOn_47 rfl (Nat.le_of_ble_eq_true rfl) rfl (lz := [_, _, _, _]) rfl ?_
      refine E_iincN (pc := 48) 3 dX8_landsOn_48 (Nat.le_of_ble_eq_true rfl) rfl rfl (lz := [_, _, _, _]) rfl ?_
      refine E_goto (pc := 51) 4 dX8_landsOn_51 rfl ?_
      rw [hl] at hn
      exact hn
