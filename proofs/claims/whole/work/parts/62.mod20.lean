/-! the model: count -/
def mcw (h : Hp) : Nat → Nat
  | 0 => 0
  | k + 1 => if 0 < h g_m_tenths 0 k then mcw h k + 1 else mcw h k
def mct (h : Hp) : Nat → Int32
  | 0 => 0
  | k + 1 => mct h k + h g_m_tenths 0 k
/-- how many unlike ways jumpers have, up to k -/
def ulF (s : Nat → Int32) (C : Nat) : Nat → Nat
  | 0 => 0
  | k + 1 => if 0 < cntW s (nI k) C then ulF s C k + 1 else ulF s C k
def cnM (h : Hp) (C : Nat) (a : Int32) : Int32 := if a = 0 then nI (mcw h 6) else if a = 1 then mct h 6 else if a = 2 then h g_model 0 22 else if a = 3 then nI (ulF (h g_m_jumpers 0) C 6) else if a = 4 then h g_model 0 1 else if a = 5 then (if h g_m_lanes 0 0 = -4 then -4 else h g_m_lengths 0 0) else -1
set_option maxHeartbeats 1600000 in
theorem C_X8_count {l : Launch} {G : GE} {h : Hp} {a : Int32} {C S : Nat} (hG : MG h C S) : CT l G mX8_count [vR g_model 0, vI a] h (fun r h' => r = some (cnM h C a) ∧ h' = h) := by
  refine CT.of (lv := [_, _, _, _, _, _]) (by decide +kernel) (Nat.le_of_ble_eq_true rfl) rfl ?_
  have hC12 := hG.2.1
  refine E_iconst (pc := 0) (0) dX8_count_0 (by decide) ?_
  refine E_istore_n (pc := 1) 2 dX8_count_1 rfl (Nat.le_of_ble_eq_true rfl) rfl (lz := [_, _, _, _, _, _]) rfl ?_
  refine E_iconst (pc := 2) (0) dX8_count_2 (by decide) ?_
  refine E_istore_n (pc := 3) 3 dX8_count_3 rfl (Nat.le_of_ble_eq_true rfl) rfl (lz := [_, _, _, _, _, _]) rfl ?_
  refine E_iconst (pc := 4) (0) dX8_count_4 (by decide) ?_
  refine E_istore (pc := 5) 4 dX8_count_5 (Nat.le_of_ble_eq_true rfl) rfl (lz := [_, _, _, _, _, _]) rfl ?_
  refine E_iconst (pc := 7) (0) dX8_count_7 (by decide) ?_
  refine E_istore (pc := 8) 5 dX8_count_8 (Nat.le_of_ble_eq_true rfl) rfl (lz := [_, _, _, _, _, _]) rfl ?_
  refine down (P := fun i => Ev l G mX8_count _ 10 [some (vR g_model 0), some (vI a), some (vI (nI (mcw h i))), some (vI (mct h i)), some (vI (nI (ulF (h g_m_jumpers 0) C i))), some (vI (nI i))] [] h) 6 ?_ ?_ 0 (Nat.zero_le _)
  · refine E_iload (pc := 10) 5 dX8_count_10 rfl ?_
    refine E_bipush (pc := 12) (6) dX8_count_12 (by decide) ?_
    refine E_icmp_ge (pc := 14) 70 dX8_count_14 rfl (fun q14 => ?_) (fun q14 => absurd (show (6 : Int32) ≤ 6 by decide) q14)
    by_cases h0 : a = 0
    · subst h0
      refine E_iload_n (pc := 70) 1 dX8_count_70 rfl rfl ?_
      refine E_tabIn (pc := 71) 108 dX8_count_71 (by decide) (by decide) rfl rfl ?_
      refine E_iload_n (pc := 108) 2 dX8_count_108 rfl rfl ?_
      refine E_iret (pc := 109) dX8_count_109 rfl ?_
      exact ⟨rfl, rfl⟩
    by_cases h1 : a = 1
    · subst h1
      refine E_iload_n (pc := 70) 1 dX8_count_70 rfl rfl ?_
      refine E_tabIn (pc := 71) 110 dX8_count_71 (by decide) (by decide) rfl rfl ?_
      refine E_iload_n (pc := 110) 3 dX8_count_110 rfl rfl ?_
      refine E_iret (pc := 111) dX8_count_111 rfl ?_
      exact ⟨rfl, rfl⟩
    by_cases h2 : a = 2
    · subst h2
      refine E_iload_n (pc := 70) 1 dX8_count_70 rfl rfl ?_
      refine E_tabIn (pc := 71) 112 dX8_count_71 (by decide) (by decide) rfl rfl ?_
      refine E_aload_n (pc := 112) 0 dX8_count_112 rfl rfl ?_
      refine E_getI (pc := 113) dX8_count_113 fl_RX8_242 rfl rfl ?_
      refine E_iret (pc := 116) dX8_count_116 rfl ?_
      exact ⟨rfl, rfl⟩
    by_cases h3 : a = 3
    · subst h3
      refine E_iload_n (pc := 70) 1 dX8_count_70 rfl rfl ?_
      refine E_tabIn (pc := 71) 117 dX8_count_71 (by decide) (by decide) rfl rfl ?_
      refine E_iload (pc := 117) 4 dX8_count_117 rfl ?_
      refine E_iret (pc := 119) dX8_count_119 rfl ?_
      exact ⟨rfl, rfl⟩
    by_cases h4 : a = 4
    · subst h4
      refine E_iload_n (pc := 70) 1 dX8_count_70 rfl rfl ?_
      refine E_tabIn (pc := 71) 120 dX8_count_71 (by decide) (by decide) rfl rfl ?_
      refine E_aload_n (pc := 120) 0 dX8_count_120 rfl rfl ?_
      refine E_getI (pc := 121) dX8_count_121 fl_RX8_67 rfl rfl ?_
      refine E_iret (pc := 124) dX8_count_124 rfl ?_
      exact ⟨rfl, rfl⟩
    by_cases h5 : a = 5
    · subst h5
      refine E_iload_n (pc := 70) 1 dX8_count_70 rfl rfl ?_
      refine E_tabIn (pc := 71) 125 dX8_count_71 (by decide) (by decide) rfl rfl ?_
      refine E_aload_n (pc := 125) 0 dX8_count_125 rfl rfl ?_
      refine E_getR0 (pc := 126) dX8_count_126 fl_RX8_58 rfl rfl ?_
      refine E_iconst (pc := 129) (0) dX8_count_129 (by decide) ?_
      refine E_iald (pc := 130) dX8_count_130 rfl (by unfold vp_in; decide) ?_
      refine E_bipush (pc := 131) (-4) dX8_count_131 (by decide) ?_
      refine E_icmp_ne (pc := 133) 141 dX8_count_133 rfl (fun q133 => ?_) (fun q133 => ?_)
      · refine E_aload_n (pc := 141) 0 dX8_count_141 rfl rfl ?_
        refine E_getR0 (pc := 142) dX8_count_142 fl_RX8_61 rfl rfl ?_
        refine E_iconst (pc := 145) (0) dX8_count_145 (by decide) ?_
        refine E_iald (pc := 146) dX8_count_146 rfl (by unfold vp_in; decide) ?_
        refine E_iret (pc := 147) dX8_count_147 rfl ?_
        first | exact ⟨congrArg some (if_pos q133).symm, rfl⟩ | exact ⟨congrArg some (if_neg q133).symm, rfl⟩
      · refine E_bipush (pc := 136) (-4) dX8_count_136 (by decide) ?_
        refine E_goto (pc := 138) 147 dX8_count_138 rfl ?_
        refine E_iret (pc := 147) dX8_count_147 rfl ?_
        first | exact ⟨congrArg some (if_pos q133).symm, rfl⟩ | exact ⟨congrArg some (if_neg q133).symm, rfl⟩
    refine E_iload_n (pc := 70) 1 dX8_count_70 rfl rfl ?_
    refine E_tabOut (pc := 71) 148 dX8_count_71 (cn_out h0 h1 h2 h3 h4 h5) rfl ?_
    refine E_iconst (pc := 148) (-1) dX8_count_148 (by decide) ?_
    refine E_iret (pc := 149) dX8_count_149 rfl ?_
    exact ⟨by rw [cnM, if_neg h0, if_neg h1, if_neg h2, if_neg h3, if_neg h4, if_neg h5], rfl⟩
  · intro i hi hn
    refine E_iload (pc := 10) 5 dX8_count_10 rfl ?_
    refine E_bipush (pc := 12) (6) dX8_count_12 (by decide) ?_
    refine E_icmp_ge (pc := 14) 70 dX8_count_14 rfl (fun q14 => absurd q14 (nI_ge (b := 6) hi (by decide))) (fun q14 => ?_)
    refine E_iload_n (pc := 17) 2 dX8_count_17 rfl rfl ?_
    refine E_aload_n (pc := 18) 0 dX8_count_18 rfl rfl ?_
    refine E_getR0 (pc := 19) dX8_count_19 fl_RX8_37 rfl rfl ?_
    refine E_iload (pc := 22) 5 dX8_count_22 rfl ?_
    refine E_iald (pc := 24) dX8_count_24 rfl (vp_in_nI (by omega) (by decide)) ?_
    refine E_top (y := h g_m_tenths 0 i) (by rw [ixN_nI (by omega)]) ?_
    refine E_if_le (pc := 25) 32 dX8_count_25 rfl (fun q25 => ?_) (fun q25 => ?_)
    · have l1 : mcw h (i + 1) = mcw h i := if_neg (Int32.not_lt.mpr q25)
      refine E_iconst (pc := 32) (0) dX8_count_32 (by decide) ?_
      refine E_iadd (pc := 33) dX8_count_33 ?_
      refine E_top (y := nI (mcw h (i + 1))) (by rw [l1]; first | (rw [nI_succ]; done) | rw [Int32.add_zero]) ?_
      refine E_istore_n (pc := 34) 2 dX8_count_34 rfl (Nat.le_of_ble_eq_true rfl) rfl (lz := [_, _, _, _, _, _]) rfl ?_
      refine E_iload_n (pc := 35) 3 dX8_count_35 rfl rfl ?_
      refine E_aload_n (pc := 36) 0 dX8_count_36 rfl rfl ?_
      refine E_getR0 (pc := 37) dX8_count_37 fl_RX8_37 rfl rfl ?_
      refine E_iload (pc := 40) 5 dX8_count_40 rfl ?_
      refine E_iald (pc := 42) dX8_count_42 rfl (vp_in_nI (by omega) (by decide)) ?_
      refine E_iadd (pc := 43) dX8_count_43 ?_
      refine E_top (y := mct h (i + 1)) (by rw [ixN_nI (by omega)]; rfl) ?_
      refine E_istore_n (pc := 44) 3 dX8_count_44 rfl (Nat.le_of_ble_eq_true rfl) rfl (lz := [_, _, _, _, _, _]) rfl ?_
      refine E_iload (pc := 45) 4 dX8_count_45 rfl ?_
      refine E_aload_n (pc := 47) 0 dX8_count_47 rfl rfl ?_
      refine E_iload (pc := 48) 5 dX8_count_48 rfl ?_
      refine E_callV1 (pc := 50) dX8_count_50 (C_X8_haveWay hG.1 hC12) rfl kv_RX8_260 rfl rfl rfl ⟨Nat.le_of_ble_eq_true rfl, Nat.le_of_ble_eq_true rfl, Nat.le_of_ble_eq_true rfl, Nat.le_of_ble_eq_true rfl⟩ (Nat.le_of_ble_eq_true rfl) ?_
      refine E_if_le (pc := 53) 60 dX8_count_53 rfl (fun q53 => ?_) (fun q53 => ?_)
      · have l2 : ulF (h g_m_jumpers 0) C (i + 1) = ulF (h g_m_jumpers 0) C i := if_neg (fun z => Int32.not_lt.mpr q53 (nI_pos1 z (by have := cntW_le (h g_m_jumpers 0) (nI i) C; omega)))
        refine E_iconst (pc := 60) (0) dX8_count_60 (by decide) ?_
        refine E_iadd (pc := 61) dX8_count_61 ?_
        refine E_top (y := nI (ulF (h g_m_jumpers 0) C (i + 1))) (by rw [l2]; first | (rw [nI_succ]; done) | rw [Int32.add_zero]) ?_
        refine E_istore (pc := 62) 4 dX8_count_62 (Nat.le_of_ble_eq_true rfl) rfl (lz := [_, _, _, _, _, _]) rfl ?_
        refine E_iincN (pc := 64) 5 dX8_count_64 (Nat.le_of_ble_eq_true rfl) rfl rfl (lz := [_, _, _, _, _, _]) rfl ?_
        refine E_goto (pc := 67) 10 dX8_count_67 rfl ?_
        exact hn
      · have l2 : ulF (h g_m_jumpers 0) C (i + 1) = ulF (h g_m_jumpers 0) C i + 1 := if_pos (Nat.pos_of_ne_zero (fun z => q53 (by rw [z]; decide)))
        refine E_iconst (pc := 56) (1) dX8_count_56 (by decide) ?_
        refine E_goto (pc := 57) 61 dX8_count_57 rfl ?_
        refine E_iadd (pc := 61) dX8_count_61 ?_
        refine E_top (y := nI (ulF (h g_m_jumpers 0) C (i + 1))) (by rw [l2]; first | (rw [nI_succ]; done) | rw [Int32.add_zero]) ?_
        refine E_istore (pc := 62) 4 dX8_count_62 (Nat.le_of_ble_eq_true rfl) rfl (lz := [_, _, _, _, _, _]) rfl ?_
        refine E_iincN (pc := 64) 5 dX8_count_64 (Nat.le_of_ble_eq_true rfl) rfl rfl (lz := [_, _, _, _, _, _]) rfl ?_
        refine E_goto (pc := 67) 10 dX8_count_67 rfl ?_
        exact hn
    · have l1 : mcw h (i + 1) = mcw h i + 1 := if_pos (Int32.not_le.mp q25)
      refine E_iconst (pc := 28) (1) dX8_count_28 (by decide) ?_
      refine E_goto (pc := 29) 33 dX8_count_29 rfl ?_
      refine E_iadd (pc := 33) dX8_count_33 ?_
      refine E_top (y := nI (mcw h (i + 1))) (by rw [l1]; first | (rw [nI_succ]; done) | rw [Int32.add_zero]) ?_
      refine E_istore_n (pc := 34) 2 dX8_count_34 rfl (Nat.le_of_ble_eq_true rfl) rfl (lz := [_, _, _, _, _, _]) rfl ?_
      refine E_iload_n (pc := 35) 3 dX8_count_35 rfl rfl ?_
      refine E_aload_n (pc := 36) 0 dX8_count_36 rfl rfl ?_
      refine E_getR0 (pc := 37) dX8_count_37 fl_RX8_37 rfl rfl ?_
      refine E_iload (pc := 40) 5 dX8_count_40 rfl ?_
      refine E_iald (pc := 42) dX8_count_42 rfl (vp_in_nI (by omega) (by decide)) ?_
      refine E_iadd (pc := 43) dX8_count_43 ?_
      refine E_top (y := mct h (i + 1)) (by rw [ixN_nI (by omega)]; rfl) ?_
      refine E_istore_n (pc := 44) 3 dX8_count_44 rfl (Nat.le_of_ble_eq_true rfl) rfl (lz := [_, _, _, _, _, _]) rfl ?_
      refine E_iload (pc := 45) 4 dX8_count_45 rfl ?_
      refine E_aload_n (pc := 47) 0 dX8_count_47 rfl rfl ?_
      refine E_iload (pc := 48) 5 dX8_count_48 rfl ?_
      refine E_callV1 (pc := 50) dX8_count_50 (C_X8_haveWay hG.1 hC12) rfl kv_RX8_260 rfl rfl rfl ⟨Nat.le_of_ble_eq_true rfl, Nat.le_of_ble_eq_true rfl, Nat.le_of_ble_eq_true rfl, Nat.le_of_ble_eq_true rfl⟩ (Nat.le_of_ble_eq_true rfl) ?_
      refine E_if_le (pc := 53) 60 dX8_count_53 rfl (fun q53 => ?_) (fun q53 => ?_)
      · have l2 : ulF (h g_m_jumpers 0) C (i + 1) = ulF (h g_m_jumpers 0) C i := if_neg (fun z => Int32.not_lt.mpr q53 (nI_pos1 z (by have := cntW_le (h g_m_jumpers 0) (nI i) C; omega)))
        refine E_iconst (pc := 60) (0) dX8_count_60 (by decide) ?_
        refine E_iadd (pc := 61) dX8_count_61 ?_
        refine E_top (y := nI (ulF (h g_m_jumpers 0) C (i + 1))) (by rw [l2]; first | (rw [nI_succ]; done) | rw [Int32.add_zero]) ?_
        refine E_istore (pc := 62) 4 dX8_count_62 (Nat.le_of_ble_eq_true rfl) rfl (lz := [_, _, _, _, _, _]) rfl ?_
        refine E_iincN (pc := 64) 5 dX8_count_64 (Nat.le_of_ble_eq_true rfl) rfl rfl (lz := [_, _, _, _, _, _]) rfl ?_
        refine E_goto (pc := 67) 10 dX8_count_67 rfl ?_
        exact hn
      · have l2 : ulF (h g_m_jumpers 0) C (i + 1) = ulF (h g_m_jumpers 0) C i + 1 := if_pos (Nat.pos_of_ne_zero (fun z => q53 (by rw [z]; decide)))
        refine E_iconst (pc := 56) (1) dX8_count_56 (by decide) ?_
        refine E_goto (pc := 57) 61 dX8_count_57 rfl ?_
        refine E_iadd (pc := 61) dX8_count_61 ?_
        refine E_top (y := nI (ulF (h g_m_jumpers 0) C (i + 1))) (by rw [l2]; first | (rw [nI_succ]; done) | rw [Int32.add_zero]) ?_
        refine E_istore (pc := 62) 4 dX8_count_62 (Nat.le_of_ble_eq_true rfl) rfl (lz := [_, _, _, _, _, _]) rfl ?_
        refine E_iincN (pc := 64) 5 dX8_count_64 (Nat.le_of_ble_eq_true rfl) rfl rfl (lz := [_, _, _, _, _, _]) rfl ?_
        refine E_goto (pc := 67) 10 dX8_count_67 rfl ?_
        exact hn
/-! bits of the ways that jumpers have, and how many they are -/
theorem hbF_bits {s : Nat → Int32} {C : Nat} (hs : rgS s C) : ∀ n, n ≤ C → ∃ m, m < 64 ∧ hbF s n = nI m ∧ ∀ w, w < 6 → (m.testBit w = true ↔ ∃ i, i < n ∧ s i = nI w)
  | 0, _ => ⟨0, by decide, rfl, fun w _ => ⟨fun z => by simp at z, fun ⟨i, hi, _⟩ => absurd hi (Nat.not_lt_zero i)⟩⟩
  | n + 1, hn => by
    obtain ⟨m, hm, e, hb⟩ := hbF_bits hs n (by omega)
    obtain ⟨a, ha, ea⟩ := hs n (by omega)
    obtain ⟨b1, b2⟩ := bit_or m hm a ha
    refine ⟨m ||| 2 ^ a, b2, ?_, fun w hw => ?_⟩
    · unfold hbF; rw [e, ea, b1]
    · rw [tb_or m hm a ha w hw, Bool.or_eq_true, hb w hw, decide_eq_true_iff]
      constructor
      · rintro (⟨i, hi, z⟩ | rfl)
        · exact ⟨i, Nat.lt_succ_of_lt hi, z⟩
        · exact ⟨n, Nat.lt_succ_self n, ea⟩
      · rintro ⟨i, hi, z⟩
        rcases Nat.lt_succ_iff_lt_or_eq.mp hi with hi | rfl
        · exact Or.inl ⟨i, hi, z⟩
        · rw [ea] at z; exact Or.inr ((nI_eq (by omega) (by omega)).mp z)
theorem cntW_pos {s : Nat → Int32} {w : Int32} : ∀ C, 0 < cntW s w C ↔ ∃ i, i < C ∧ s i = w
  | 0 => ⟨fun z => absurd z (Nat.lt_irrefl 0), fun ⟨i, hi, _⟩ => absurd hi (Nat.not_lt_zero i)⟩
  | C + 1 => by
    unfold cntW
    by_cases h : s C = w
    · rw [if_pos h]; exact ⟨fun _ => ⟨C, Nat.lt_succ_self C, h⟩, fun _ => Nat.succ_pos _⟩
    · rw [if_neg h, cntW_pos C]
      exact ⟨fun ⟨i, hi, z⟩ => ⟨i, Nat.lt_succ_of_lt hi, z⟩, fun ⟨i, hi, z⟩ => (Nat.lt_succ_iff_lt_or_eq.mp hi).elim (fun y => ⟨i, y, z⟩) (fun y => absurd (y ▸ z) h)⟩
def tbN (m : Nat) : Nat → Nat
  | 0 => 0
  | k + 1 => if m.testBit k = true then tbN m k + 1 else tbN m k
theorem bc_tb : ∀ m, m < 64 → bcI (nI m) = nI (tbN m 6) := by decide +kernel
theorem bc_ul {s : Nat → Int32} {C : Nat} (hs : rgS s C) : bcI (hbF s C) = nI (ulF s C 6) := by
  obtain ⟨m, hm, e, hb⟩ := hbF_bits hs C (Nat.le_refl C)
  rw [e, bc_tb m hm]
  have key : ∀ k, k ≤ 6 → tbN m k = ulF s C k := by
    intro k
    induction k with
    | zero => intro _; rfl
    | succ k ih =>
      intro hk
      unfold tbN ulF
      rw [ih (by omega)]
      by_cases h : m.testBit k = true
      · rw [if_pos h, if_pos ((cntW_pos C).mpr ((hb k (by omega)).mp h))]
      · rw [if_neg h, if_neg (fun z => h ((hb k (by omega)).mpr ((cntW_pos C).mp z)))]
  rw [key 6 (Nat.le_refl 6)]
