/-! the model: byteAt, fails, nameAt -/
def bt (B : Nat → Int32) (L p : Nat) : Int32 := if p < L then B p else -4
set_option maxHeartbeats 1600000 in
theorem C_X8_byteAt {l : Launch} {G : GE} {h : Hp} {p L : Nat} (hL : h g_model 0 1 = nI L) (hL2 : L ≤ 200) (hp : p ≤ 400) : CT l G mX8_byteAt [vR g_model 0, vI (nI p)] h (fun r h' => r = some (bt (h g_m_tape 0) L p) ∧ h' = h) := by
  refine CT.of (lv := [_, _]) (by decide +kernel) (Nat.le_of_ble_eq_true rfl) rfl ?_
  refine E_iload_n (pc := 0) 1 dX8_byteAt_0 rfl rfl ?_
  refine E_aload_n (pc := 1) 0 dX8_byteAt_1 rfl rfl ?_
  refine E_getI (pc := 2) dX8_byteAt_2 fl_RX8_67 rfl rfl ?_
  refine E_eq (st' := [vI (nI L), vI (nI p)]) rfl (by rw [hL]) rfl ?_
  refine E_icmp_ge (pc := 5) 17 dX8_byteAt_5 rfl (fun q5 => ?_) (fun q5 => ?_)
  · have hq : ¬ p < L := fun z => nI_ge z (by omega) q5
    refine E_bipush (pc := 17) (-4) dX8_byteAt_17 (by decide) ?_
    refine E_iret (pc := 19) dX8_byteAt_19 rfl ?_
    first | exact ⟨congrArg some (if_neg hq).symm, rfl⟩ | exact ⟨by rw [ixN_nI (by omega)]; exact congrArg some (if_pos hq).symm, rfl⟩
  · have hq : p < L := Nat.not_le.mp (fun z => q5 (nI_le z (by omega)))
    refine E_aload_n (pc := 8) 0 dX8_byteAt_8 rfl rfl ?_
    refine E_getR0 (pc := 9) dX8_byteAt_9 fl_RX8_7 rfl rfl ?_
    refine E_iload_n (pc := 12) 1 dX8_byteAt_12 rfl rfl ?_
    refine E_iald (pc := 13) dX8_byteAt_13 rfl (vp_in_nI (by omega) (by decide)) ?_
    refine E_goto (pc := 14) 19 dX8_byteAt_14 rfl ?_
    refine E_iret (pc := 19) dX8_byteAt_19 rfl ?_
    first | exact ⟨congrArg some (if_neg hq).symm, rfl⟩ | exact ⟨by rw [ixN_nI (by omega)]; exact congrArg some (if_pos hq).symm, rfl⟩
set_option maxHeartbeats 1600000 in
theorem C_fails0 {l : Launch} {G : GE} {h : Hp} {c : Int32} (hw : h g_model 0 3 = 0) : CT l G mX8_fails [vR g_model 0, vI c] h (fun r h' => r = none ∧ h' = hset (hset h g_model 0 3 c) g_model 0 4 (h g_model 0 6)) := by
  refine CT.of (lv := [_, _]) (by decide +kernel) (Nat.le_of_ble_eq_true rfl) rfl ?_
  refine E_aload_n (pc := 0) 0 dX8_fails_0 rfl rfl ?_
  refine E_getI (pc := 1) dX8_fails_1 fl_RX8_75 rfl rfl ?_
  refine E_top hw ?_
  refine E_if_ne (pc := 4) 20 dX8_fails_4 rfl (fun q4 => absurd rfl q4) (fun q4 => ?_)
  refine E_aload_n (pc := 7) 0 dX8_fails_7 rfl rfl ?_
  refine E_iload_n (pc := 8) 1 dX8_fails_8 rfl rfl ?_
  refine E_put (pc := 9) dX8_fails_9 fp_RX8_75 rfl rfl ?_
  refine E_aload_n (pc := 12) 0 dX8_fails_12 rfl rfl ?_
  refine E_aload_n (pc := 13) 0 dX8_fails_13 rfl rfl ?_
  refine E_getI (pc := 14) dX8_fails_14 fl_RX8_78 rfl rfl ?_
  refine E_put (pc := 17) dX8_fails_17 fp_RX8_81 rfl rfl ?_
  refine E_vret (pc := 20) dX8_fails_20 rfl ?_
  exact ⟨rfl, by rw [hset_k (by decide)]⟩
set_option maxHeartbeats 1600000 in
theorem C_failsW {l : Launch} {G : GE} {h : Hp} {c : Int32} (hw : ¬ h g_model 0 3 = 0) : CT l G mX8_fails [vR g_model 0, vI c] h (fun r h' => r = none ∧ h' = h) := by
  refine CT.of (lv := [_, _]) (by decide +kernel) (Nat.le_of_ble_eq_true rfl) rfl ?_
  refine E_aload_n (pc := 0) 0 dX8_fails_0 rfl rfl ?_
  refine E_getI (pc := 1) dX8_fails_1 fl_RX8_75 rfl rfl ?_
  refine E_if_ne (pc := 4) 20 dX8_fails_4 rfl (fun q4 => ?_) (fun q4 => absurd q4 hw)
  refine E_vret (pc := 20) dX8_fails_20 rfl ?_
  first | exact ⟨rfl, rfl⟩ | exact ⟨by grind [bi], rfl⟩
def cutL : List Nat := [0, 6, 10, 14, 17, 21, 25, 30, 34, 39, 43, 46, 51, 55]
def letL : List Int32 := [119, 101, 105, 103, 104, 116, 98, 101, 110, 100, 114, 105, 115, 101, 114, 117, 110, 102, 97, 108, 108, 109, 97, 114, 107, 115, 116, 97, 110, 100, 110, 101, 97, 114, 113, 117, 105, 99, 107, 102, 101, 101, 116, 112, 105, 116, 104, 97, 98, 105, 116, 115, 101, 101, 110]
def cutA (j : Nat) : Nat := cutL.getD j 0
def letA (j : Nat) : Int32 := letL.getD j 0
/-- the model's own tables -/
def MTb (h : Hp) : Prop := (∀ j, j < 14 → h g_m_cuts 0 j = nI (cutA j)) ∧ (∀ j, j < 55 → h g_m_letters 0 j = letA j) ∧ (∀ j, j < 18 → h g_m_plain 0 j = tUSUAL.getD j 0) ∧ (∀ j, j < 18 → h g_m_leasts 0 j = tLEAST.getD j 0) ∧ ∀ j, j < 18 → h g_m_mosts 0 j = tMOST.getD j 0
def nmL (n : Nat) : Nat := cutA (n + 1) - cutA n
theorem cut_f : ∀ n, n < 13 → cutA n ≤ cutA (n + 1) ∧ cutA (n + 1) ≤ 55 ∧ nmL n ≤ 6 ∧ cutA n + nmL n = cutA (n + 1) := by decide +kernel
theorem let_f : ∀ n, n < 13 → ∀ i, i < 6 → strBytes.getD (6 * n + i) 0 = if i < nmL n then letA (cutA n + i) else 32 := by decide +kernel
theorem let_n : ∀ j, j < 55 → ¬ letA j = 32 := by decide +kernel
abbrev nmP (B : Nat → Int32) (a b n k : Nat) : Prop := b - a = nmL n ∧ ¬ ∃ j, j < k ∧ ¬ B (a + j) = letA (cutA n + j)
theorem nm_iff {B : Nat → Int32} {a b n : Nat} (hn : n < 13) (hB : ∀ j, a ≤ j → j < b → ¬ B j = 32) : isNm B a b n ↔ nmP B a b n (b - a) := by
  obtain ⟨c1, c2, c3, c4⟩ := cut_f n hn
  constructor
  · rintro ⟨h1, h2⟩
    have h3 : ∀ i, i < 6 → sgn B a b i = strBytes.getD (6 * n + i) 0 := fun i hi => Decidable.of_not_not (fun z => h2 ⟨i, hi, z⟩)
    have e1 : ∀ i, i < b - a → i < nmL n ∧ B (a + i) = letA (cutA n + i) := by
      intro i hi
      have h4 := h3 i (by omega)
      rw [let_f n hn i (by omega)] at h4
      unfold sgn at h4
      rw [if_pos (by omega)] at h4
      by_cases h5 : i < nmL n
      · rw [if_pos h5] at h4; exact ⟨h5, h4⟩
      · rw [if_neg h5] at h4; exact absurd h4 (hB _ (by omega) (by omega))
    have e2 : ¬ b - a < nmL n := by
      intro hi
      have h4 := h3 (b - a) (by omega)
      rw [let_f n hn (b - a) (by omega), if_pos hi] at h4
      unfold sgn at h4
      rw [if_neg (by omega)] at h4
      exact let_n _ (by omega) h4.symm
    have e3 : b - a ≤ nmL n := by
      by_cases h0 : b - a = 0
      · omega
      · have := (e1 (b - a - 1) (by omega)).1
        omega
    exact ⟨by omega, fun ⟨j, hj, z⟩ => z (e1 j hj).2⟩
  · rintro ⟨h1, h2⟩
    refine ⟨by omega, fun ⟨i, hi, z⟩ => z ?_⟩
    rw [let_f n hn i hi]
    unfold sgn
    by_cases h5 : i < nmL n
    · rw [if_pos (by omega), if_pos h5]
      exact Decidable.of_not_not (fun y => h2 ⟨i, by omega, y⟩)
    · rw [if_neg (by omega), if_neg h5]
theorem nmF_hit {B : Nat → Int32} {a b m n : Nat} (h : isNm B a b n) : nmF B a b (m + 1) n = n := if_pos h
theorem nmF_mis {B : Nat → Int32} {a b m n : Nat} (h : ¬ isNm B a b n) : nmF B a b (m + 1) n = nmF B a b m (n + 1) := if_neg h
set_option maxHeartbeats 1600000 in
theorem C_X8_nameAt {l : Launch} {G : GE} {h : Hp} {a b L : Nat} (hL : h g_model 0 1 = nI L) (hL2 : L ≤ 200) (hab : a ≤ b) (hbL : b ≤ L) (hK : MTb h) (hB : ∀ j, a ≤ j → j < b → ¬ h g_m_tape 0 j = 32) : CT l G mX8_nameAt [vR g_model 0, vI (nI a), vI (nI b)] h (fun r h' => r = some (if nmF (h g_m_tape 0) a b 13 0 = 13 then -4 else nI (nmF (h g_m_tape 0) a b 13 0)) ∧ h' = h) := by
  refine CT.of (lv := [_, _, _, _, _, _]) (by decide +kernel) (Nat.le_of_ble_eq_true rfl) rfl ?_
  refine E_iconst (pc := 0) (0) dX8_nameAt_0 (by decide) ?_
  refine E_istore_n (pc := 1) 3 dX8_nameAt_1 rfl (Nat.le_of_ble_eq_true rfl) rfl (lz := [_, _, _, _, _, _]) rfl ?_
  refine down (P := fun n => nmF (h g_m_tape 0) a b (13 - n) n = nmF (h g_m_tape 0) a b 13 0 → Ev l G mX8_nameAt _ 2 [some (vR g_model 0), some (vI (nI a)), some (vI (nI b)), some (vI (nI n)), none, none] [] h) 13 ?_ ?_ 0 (Nat.zero_le _) rfl
  · intro hm
    have hm2 : nmF (h g_m_tape 0) a b 13 0 = 13 := hm.symm
    rw [hm2, if_pos rfl]
    refine E_iload_n (pc := 2) 3 dX8_nameAt_2 rfl rfl ?_
    refine E_bipush (pc := 3) (13) dX8_nameAt_3 (by decide) ?_
    refine E_icmp_ge (pc := 5) 103 dX8_nameAt_5 rfl (fun q5 => ?_) (fun q5 => absurd (show (13 : Int32) ≤ 13 by decide) q5)
    refine E_bipush (pc := 103) (-4) dX8_nameAt_103 (by decide) ?_
    refine E_iret (pc := 105) dX8_nameAt_105 rfl ?_
    first | exact ⟨rfl, rfl⟩ | exact ⟨by grind [bi], rfl⟩
  · intro n hn hk hm
    rw [show 13 - n = (13 - (n + 1)) + 1 by omega] at hm
    obtain ⟨c1, c2, c3, c4⟩ := cut_f n hn
    have hiff := nm_iff (B := h g_m_tape 0) (a := a) (b := b) hn hB
    refine E_iload_n (pc := 2) 3 dX8_nameAt_2 rfl rfl ?_
    refine E_bipush (pc := 3) (13) dX8_nameAt_3 (by decide) ?_
    refine E_icmp_ge (pc := 5) 103 dX8_nameAt_5 rfl (fun q5 => absurd q5 (nI_ge (b := 13) hn (by decide))) (fun q5 => ?_)
    refine E_iload_n (pc := 8) 2 dX8_nameAt_8 rfl rfl ?_
    refine E_iload_n (pc := 9) 1 dX8_nameAt_9 rfl rfl ?_
    refine E_isub (pc := 10) dX8_nameAt_10 ?_
    refine E_aload_n (pc := 11) 0 dX8_nameAt_11 rfl rfl ?_
    refine E_getR0 (pc := 12) dX8_nameAt_12 fl_RX8_13 rfl rfl ?_
    refine E_iload_n (pc := 15) 3 dX8_nameAt_15 rfl rfl ?_
    refine E_iconst (pc := 16) (1) dX8_nameAt_16 (by decide) ?_
    refine E_iadd (pc := 17) dX8_nameAt_17 ?_
    refine E_eq (st' := [vI (nI (n + 1)), vR g_m_cuts 0, vI (nI (b - a))]) rfl (by rw [pk_sub hab, ← nI_succ]) rfl ?_
    refine E_iald (pc := 18) dX8_nameAt_18 rfl (vp_in_nI (by omega) (by decide)) ?_
    refine E_aload_n (pc := 19) 0 dX8_nameAt_19 rfl rfl ?_
    refine E_getR0 (pc := 20) dX8_nameAt_20 fl_RX8_13 rfl rfl ?_
    refine E_iload_n (pc := 23) 3 dX8_nameAt_23 rfl rfl ?_
    refine E_iald (pc := 24) dX8_nameAt_24 rfl (vp_in_nI (by omega) (by decide)) ?_
    refine E_isub (pc := 25) dX8_nameAt_25 ?_
    refine E_eq (st' := [vI (nI (nmL n)), vI (nI (b - a))]) rfl (by rw [ixN_nI (by omega), ixN_nI (by omega), hK.1 _ (by omega), hK.1 _ (by omega), pk_sub c1]; rfl) rfl ?_
    refine E_icmp_ne (pc := 26) 33 dX8_nameAt_26 rfl (fun q26 => ?_) (fun q26 => ?_)
    · have hs : ¬ nmP (h g_m_tape 0) a b n 0 := fun z => q26 (by rw [z.1])
      refine E_iconst (pc := 33) (0) dX8_nameAt_33 (by decide) ?_
      refine E_top (y := bi (nmP (h g_m_tape 0) a b n 0)) (by first | exact (bi_t hs).symm | exact (bi_f hs).symm) ?_
      refine E_istore (pc := 34) 4 dX8_nameAt_34 (Nat.le_of_ble_eq_true rfl) rfl (lz := [_, _, _, _, _, _]) rfl ?_
      refine E_iconst (pc := 36) (0) dX8_nameAt_36 (by decide) ?_
      refine E_istore (pc := 37) 5 dX8_nameAt_37 (Nat.le_of_ble_eq_true rfl) rfl (lz := [_, _, _, _, _, _]) rfl ?_
      clear hs
      refine down (P := fun k => Ev l G mX8_nameAt _ 39 [some (vR g_model 0), some (vI (nI a)), some (vI (nI b)), some (vI (nI n)), some (vI (bi (nmP (h g_m_tape 0) a b n k))), some (vI (nI k))] [] h) (b - a) ?_ ?_ 0 (Nat.zero_le _)
      · refine E_iload (pc := 39) 4 dX8_nameAt_39 rfl ?_
        refine E_if_eq (pc := 41) 90 dX8_nameAt_41 rfl (fun q41 => ?_) (fun q41 => ?_)
        · refine E_iload (pc := 90) 4 dX8_nameAt_90 rfl ?_
          refine E_if_eq (pc := 92) 97 dX8_nameAt_92 rfl (fun q92 => ?_) (fun q92 => ?_)
          · have hs : ¬ isNm (h g_m_tape 0) a b n := fun z => bi_0.mp q92 (hiff.mp z)
            refine E_iincN (pc := 97) 3 dX8_nameAt_97 (Nat.le_of_ble_eq_true rfl) rfl rfl (lz := [_, _, _, _, _, _]) rfl ?_
            refine E_goto (pc := 100) 2 dX8_nameAt_100 rfl ?_
            rw [nmF_mis hs] at hm
            exact E_drop 5 (E_drop 4 (hk hm))
          · have hs : isNm (h g_m_tape 0) a b n := hiff.mpr (Decidable.of_not_not (fun z => q92 (bi_0.mpr z)))
            refine E_iload_n (pc := 95) 3 dX8_nameAt_95 rfl rfl ?_
            refine E_iret (pc := 96) dX8_nameAt_96 rfl ?_
            rw [nmF_hit hs] at hm
            rw [← hm, if_neg (by omega)]
            exact ⟨rfl, rfl⟩
        · refine E_iload (pc := 44) 5 dX8_nameAt_44 rfl ?_
          refine E_iload_n (pc := 46) 2 dX8_nameAt_46 rfl rfl ?_
          refine E_iload_n (pc := 47) 1 dX8_nameAt_47 rfl rfl ?_
          refine E_isub (pc := 48) dX8_nameAt_48 ?_
          refine E_top (y := nI (b - a)) (pk_sub hab) ?_
          refine E_icmp_ge (pc := 49) 90 dX8_nameAt_49 rfl (fun q49 => ?_) (fun q49 => absurd (Int32.le_refl _) q49)
          refine E_iload (pc := 90) 4 dX8_nameAt_90 rfl ?_
          refine E_if_eq (pc := 92) 97 dX8_nameAt_92 rfl (fun q92 => ?_) (fun q92 => ?_)
          · have hs : ¬ isNm (h g_m_tape 0) a b n := fun z => bi_0.mp q92 (hiff.mp z)
            refine E_iincN (pc := 97) 3 dX8_nameAt_97 (Nat.le_of_ble_eq_true rfl) rfl rfl (lz := [_, _, _, _, _, _]) rfl ?_
            refine E_goto (pc := 100) 2 dX8_nameAt_100 rfl ?_
            rw [nmF_mis hs] at hm
            exact E_drop 5 (E_drop 4 (hk hm))
          · have hs : isNm (h g_m_tape 0) a b n := hiff.mpr (Decidable.of_not_not (fun z => q92 (bi_0.mpr z)))
            refine E_iload_n (pc := 95) 3 dX8_nameAt_95 rfl rfl ?_
            refine E_iret (pc := 96) dX8_nameAt_96 rfl ?_
            rw [nmF_hit hs] at hm
            rw [← hm, if_neg (by omega)]
            exact ⟨rfl, rfl⟩
      · intro k hkl hn2
        refine E_iload (pc := 39) 4 dX8_nameAt_39 rfl ?_
        refine E_if_eq (pc := 41) 90 dX8_nameAt_41 rfl (fun q41 => ?_) (fun q41 => ?_)
        · have hs : ¬ nmP (h g_m_tape 0) a b n k := bi_0.mp q41
          refine E_iload (pc := 90) 4 dX8_nameAt_90 rfl ?_
          refine E_if_eq (pc := 92) 97 dX8_nameAt_92 rfl (fun q92 => ?_) (fun q92 => absurd (bi_0.mpr hs) q92)
          refine E_iincN (pc := 97) 3 dX8_nameAt_97 (Nat.le_of_ble_eq_true rfl) rfl rfl (lz := [_, _, _, _, _, _]) rfl ?_
          refine E_goto (pc := 100) 2 dX8_nameAt_100 rfl ?_
          rw [nmF_mis (fun z => hs ⟨(hiff.mp z).1, fun ⟨j, hj, y⟩ => (hiff.mp z).2 ⟨j, by omega, y⟩⟩)] at hm
          exact E_drop 5 (E_drop 4 (hk hm))
        · have hs : nmP (h g_m_tape 0) a b n k := Decidable.of_not_not (fun z => q41 (bi_0.mpr z))
          refine E_iload (pc := 44) 5 dX8_nameAt_44 rfl ?_
          refine E_iload_n (pc := 46) 2 dX8_nameAt_46 rfl rfl ?_
          refine E_iload_n (pc := 47) 1 dX8_nameAt_47 rfl rfl ?_
          refine E_isub (pc := 48) dX8_nameAt_48 ?_
          refine E_top (y := nI (b - a)) (pk_sub hab) ?_
          refine E_icmp_ge (pc := 49) 90 dX8_nameAt_49 rfl (fun q49 => absurd q49 (nI_ge hkl (by omega))) (fun q49 => ?_)
          refine E_aload_n (pc := 52) 0 dX8_nameAt_52 rfl rfl ?_
          refine E_iload_n (pc := 53) 1 dX8_nameAt_53 rfl rfl ?_
          refine E_iload (pc := 54) 5 dX8_nameAt_54 rfl ?_
          refine E_iadd (pc := 56) dX8_nameAt_56 ?_
          refine E_eq (st' := [vI (nI (a + k)), vR g_model 0]) rfl (by rw [nI_add]) rfl ?_
          refine E_callV1 (pc := 57) dX8_nameAt_57 (C_X8_byteAt hL hL2 (by omega)) rfl kv_RX8_84 rfl rfl rfl ⟨Nat.le_of_ble_eq_true rfl, Nat.le_of_ble_eq_true rfl, Nat.le_of_ble_eq_true rfl, Nat.le_of_ble_eq_true rfl⟩ (Nat.le_of_ble_eq_true rfl) ?_
          refine E_top (y := h g_m_tape 0 (a + k)) (if_pos (by omega)) ?_
          refine E_aload_n (pc := 60) 0 dX8_nameAt_60 rfl rfl ?_
          refine E_getR0 (pc := 61) dX8_nameAt_61 fl_RX8_16 rfl rfl ?_
          refine E_aload_n (pc := 64) 0 dX8_nameAt_64 rfl rfl ?_
          refine E_getR0 (pc := 65) dX8_nameAt_65 fl_RX8_13 rfl rfl ?_
          refine E_iload_n (pc := 68) 3 dX8_nameAt_68 rfl rfl ?_
          refine E_iald (pc := 69) dX8_nameAt_69 rfl (vp_in_nI (by have := hs.1; omega) (by decide)) ?_
          refine E_iload (pc := 70) 5 dX8_nameAt_70 rfl ?_
          refine E_iadd (pc := 72) dX8_nameAt_72 ?_
          refine E_eq (st' := [vI (nI (cutA n + k)), vR g_m_letters 0, vI (h g_m_tape 0 (a + k))]) rfl (by rw [ixN_nI (by omega), hK.1 n (by omega), nI_add]) rfl ?_
          refine E_iald (pc := 73) dX8_nameAt_73 rfl (vp_in_nI (by have := hs.1; omega) (by decide)) ?_
          refine E_eq (st' := [vI (letA (cutA n + k)), vI (h g_m_tape 0 (a + k))]) rfl (by rw [ixN_nI (by have := hs.1; omega), hK.2.1 _ (by have := hs.1; omega)]) rfl ?_
          refine E_icmp_ne (pc := 74) 81 dX8_nameAt_74 rfl (fun q74 => ?_) (fun q74 => ?_)
          · have ht : ¬ nmP (h g_m_tape 0) a b n (k + 1) := fun z => z.2 ⟨k, Nat.lt_succ_self k, q74⟩
            refine E_iconst (pc := 81) (0) dX8_nameAt_81 (by decide) ?_
            refine E_top (y := bi (nmP (h g_m_tape 0) a b n (k + 1))) (by first | exact (bi_t ht).symm | exact (bi_f ht).symm) ?_
            refine E_istore (pc := 82) 4 dX8_nameAt_82 (Nat.le_of_ble_eq_true rfl) rfl (lz := [_, _, _, _, _, _]) rfl ?_
            refine E_iincN (pc := 84) 5 dX8_nameAt_84 (Nat.le_of_ble_eq_true rfl) rfl rfl (lz := [_, _, _, _, _, _]) rfl ?_
            refine E_goto (pc := 87) 39 dX8_nameAt_87 rfl ?_
            exact hn2
          · have ht : nmP (h g_m_tape 0) a b n (k + 1) := ⟨hs.1, fun ⟨j, hj, z⟩ => (Nat.lt_succ_iff_lt_or_eq.mp hj).elim (fun y => hs.2 ⟨j, y, z⟩) (fun y => z (y ▸ q74))⟩
            refine E_iconst (pc := 77) (1) dX8_nameAt_77 (by decide) ?_
            refine E_goto (pc := 78) 82 dX8_nameAt_78 rfl ?_
            refine E_top (y := bi (nmP (h g_m_tape 0) a b n (k + 1))) (by first | exact (bi_t ht).symm | exact (bi_f ht).symm) ?_
            refine E_istore (pc := 82) 4 dX8_nameAt_82 (Nat.le_of_ble_eq_true rfl) rfl (lz := [_, _, _, _, _, _]) rfl ?_
            refine E_iincN (pc := 84) 5 dX8_nameAt_84 (Nat.le_of_ble_eq_true rfl) rfl rfl (lz := [_, _, _, _, _, _]) rfl ?_
            refine E_goto (pc := 87) 39 dX8_nameAt_87 rfl ?_
            exact hn2
    · have hs : nmP (h g_m_tape 0) a b n 0 := ⟨(nI_eq (by omega) (by omega)).mp q26, fun ⟨j, hj, _⟩ => absurd hj (Nat.not_lt_zero j)⟩
      refine E_iconst (pc := 29) (1) dX8_nameAt_29 (by decide) ?_
      refine E_goto (pc := 30) 34 dX8_nameAt_30 rfl ?_
      refine E_top (y := bi (nmP (h g_m_tape 0) a b n 0)) (by first | exact (bi_t hs).symm | exact (bi_f hs).symm) ?_
      refine E_istore (pc := 34) 4 dX8_nameAt_34 (Nat.le_of_ble_eq_true rfl) rfl (lz := [_, _, _, _, _, _]) rfl ?_
      refine E_iconst (pc := 36) (0) dX8_nameAt_36 (by decide) ?_
      refine E_istore (pc := 37) 5 dX8_nameAt_37 (Nat.le_of_ble_eq_true rfl) rfl (lz := [_, _, _, _, _, _]) rfl ?_
      clear hs
      refine down (P := fun k => Ev l G mX8_nameAt _ 39 [some (vR g_model 0), some (vI (nI a)), some (vI (nI b)), some (vI (nI n)), some (vI (bi (nmP (h g_m_tape 0) a b n k))), some (vI (nI k))] [] h) (b - a) ?_ ?_ 0 (Nat.zero_le _)
      · refine E_iload (pc := 39) 4 dX8_nameAt_39 rfl ?_
        refine E_if_eq (pc := 41) 90 dX8_nameAt_41 rfl (fun q41 => ?_) (fun q41 => ?_)
        · refine E_iload (pc := 90) 4 dX8_nameAt_90 rfl ?_
          refine E_if_eq (pc := 92) 97 dX8_nameAt_92 rfl (fun q92 => ?_) (fun q92 => ?_)
          · have hs : ¬ isNm (h g_m_tape 0) a b n := fun z => bi_0.mp q92 (hiff.mp z)
            refine E_iincN (pc := 97) 3 dX8_nameAt_97 (Nat.le_of_ble_eq_true rfl) rfl rfl (lz := [_, _, _, _, _, _]) rfl ?_
            refine E_goto (pc := 100) 2 dX8_nameAt_100 rfl ?_
            rw [nmF_mis hs] at hm
            exact E_drop 5 (E_drop 4 (hk hm))
          · have hs : isNm (h g_m_tape 0) a b n := hiff.mpr (Decidable.of_not_not (fun z => q92 (bi_0.mpr z)))
            refine E_iload_n (pc := 95) 3 dX8_nameAt_95 rfl rfl ?_
            refine E_iret (pc := 96) dX8_nameAt_96 rfl ?_
            rw [nmF_hit hs] at hm
            rw [← hm, if_neg (by omega)]
            exact ⟨rfl, rfl⟩
        · refine E_iload (pc := 44) 5 dX8_nameAt_44 rfl ?_
          refine E_iload_n (pc := 46) 2 dX8_nameAt_46 rfl rfl ?_
          refine E_iload_n (pc := 47) 1 dX8_nameAt_47 rfl rfl ?_
          refine E_isub (pc := 48) dX8_nameAt_48 ?_
          refine E_top (y := nI (b - a)) (pk_sub hab) ?_
          refine E_icmp_ge (pc := 49) 90 dX8_nameAt_49 rfl (fun q49 => ?_) (fun q49 => absurd (Int32.le_refl _) q49)
          refine E_iload (pc := 90) 4 dX8_nameAt_90 rfl ?_
          refine E_if_eq (pc := 92) 97 dX8_nameAt_92 rfl (fun q92 => ?_) (fun q92 => ?_)
          · have hs : ¬ isNm (h g_m_tape 0) a b n := fun z => bi_0.mp q92 (hiff.mp z)
            refine E_iincN (pc := 97) 3 dX8_nameAt_97 (Nat.le_of_ble_eq_true rfl) rfl rfl (lz := [_, _, _, _, _, _]) rfl ?_
            refine E_goto (pc := 100) 2 dX8_nameAt_100 rfl ?_
            rw [nmF_mis hs] at hm
            exact E_drop 5 (E_drop 4 (hk hm))
          · have hs : isNm (h g_m_tape 0) a b n := hiff.mpr (Decidable.of_not_not (fun z => q92 (bi_0.mpr z)))
            refine E_iload_n (pc := 95) 3 dX8_nameAt_95 rfl rfl ?_
            refine E_iret (pc := 96) dX8_nameAt_96 rfl ?_
            rw [nmF_hit hs] at hm
            rw [← hm, if_neg (by omega)]
            exact ⟨rfl, rfl⟩
      · intro k hkl hn2
        refine E_iload (pc := 39) 4 dX8_nameAt_39 rfl ?_
        refine E_if_eq (pc := 41) 90 dX8_nameAt_41 rfl (fun q41 => ?_) (fun q41 => ?_)
        · have hs : ¬ nmP (h g_m_tape 0) a b n k := bi_0.mp q41
          refine E_iload (pc := 90) 4 dX8_nameAt_90 rfl ?_
          refine E_if_eq (pc := 92) 97 dX8_nameAt_92 rfl (fun q92 => ?_) (fun q92 => absurd (bi_0.mpr hs) q92)
          refine E_iincN (pc := 97) 3 dX8_nameAt_97 (Nat.le_of_ble_eq_true rfl) rfl rfl (lz := [_, _, _, _, _, _]) rfl ?_
          refine E_goto (pc := 100) 2 dX8_nameAt_100 rfl ?_
          rw [nmF_mis (fun z => hs ⟨(hiff.mp z).1, fun ⟨j, hj, y⟩ => (hiff.mp z).2 ⟨j, by omega, y⟩⟩)] at hm
          exact E_drop 5 (E_drop 4 (hk hm))
        · have hs : nmP (h g_m_tape 0) a b n k := Decidable.of_not_not (fun z => q41 (bi_0.mpr z))
          refine E_iload (pc := 44) 5 dX8_nameAt_44 rfl ?_
          refine E_iload_n (pc := 46) 2 dX8_nameAt_46 rfl rfl ?_
          refine E_iload_n (pc := 47) 1 dX8_nameAt_47 rfl rfl ?_
          refine E_isub (pc := 48) dX8_nameAt_48 ?_
          refine E_top (y := nI (b - a)) (pk_sub hab) ?_
          refine E_icmp_ge (pc := 49) 90 dX8_nameAt_49 rfl (fun q49 => absurd q49 (nI_ge hkl (by omega))) (fun q49 => ?_)
          refine E_aload_n (pc := 52) 0 dX8_nameAt_52 rfl rfl ?_
          refine E_iload_n (pc := 53) 1 dX8_nameAt_53 rfl rfl ?_
          refine E_iload (pc := 54) 5 dX8_nameAt_54 rfl ?_
          refine E_iadd (pc := 56) dX8_nameAt_56 ?_
          refine E_eq (st' := [vI (nI (a + k)), vR g_model 0]) rfl (by rw [nI_add]) rfl ?_
          refine E_callV1 (pc := 57) dX8_nameAt_57 (C_X8_byteAt hL hL2 (by omega)) rfl kv_RX8_84 rfl rfl rfl ⟨Nat.le_of_ble_eq_true rfl, Nat.le_of_ble_eq_true rfl, Nat.le_of_ble_eq_true rfl, Nat.le_of_ble_eq_true rfl⟩ (Nat.le_of_ble_eq_true rfl) ?_
          refine E_top (y := h g_m_tape 0 (a + k)) (if_pos (by omega)) ?_
          refine E_aload_n (pc := 60) 0 dX8_nameAt_60 rfl rfl ?_
          refine E_getR0 (pc := 61) dX8_nameAt_61 fl_RX8_16 rfl rfl ?_
          refine E_aload_n (pc := 64) 0 dX8_nameAt_64 rfl rfl ?_
          refine E_getR0 (pc := 65) dX8_nameAt_65 fl_RX8_13 rfl rfl ?_
          refine E_iload_n (pc := 68) 3 dX8_nameAt_68 rfl rfl ?_
          refine E_iald (pc := 69) dX8_nameAt_69 rfl (vp_in_nI (by have := hs.1; omega) (by decide)) ?_
          refine E_iload (pc := 70) 5 dX8_nameAt_70 rfl ?_
          refine E_iadd (pc := 72) dX8_nameAt_72 ?_
          refine E_eq (st' := [vI (nI (cutA n + k)), vR g_m_letters 0, vI (h g_m_tape 0 (a + k))]) rfl (by rw [ixN_nI (by omega), hK.1 n (by omega), nI_add]) rfl ?_
          refine E_iald (pc := 73) dX8_nameAt_73 rfl (vp_in_nI (by have := hs.1; omega) (by decide)) ?_
          refine E_eq (st' := [vI (letA (cutA n + k)), vI (h g_m_tape 0 (a + k))]) rfl (by rw [ixN_nI (by have := hs.1; omega), hK.2.1 _ (by have := hs.1; omega)]) rfl ?_
          refine E_icmp_ne (pc := 74) 81 dX8_nameAt_74 rfl (fun q74 => ?_) (fun q74 => ?_)
          · have ht : ¬ nmP (h g_m_tape 0) a b n (k + 1) := fun z => z.2 ⟨k, Nat.lt_succ_self k, q74⟩
            refine E_iconst (pc := 81) (0) dX8_nameAt_81 (by decide) ?_
            refine E_top (y := bi (nmP (h g_m_tape 0) a b n (k + 1))) (by first | exact (bi_t ht).symm | exact (bi_f ht).symm) ?_
            refine E_istore (pc := 82) 4 dX8_nameAt_82 (Nat.le_of_ble_eq_true rfl) rfl (lz := [_, _, _, _, _, _]) rfl ?_
            refine E_iincN (pc := 84) 5 dX8_nameAt_84 (Nat.le_of_ble_eq_true rfl) rfl rfl (lz := [_, _, _, _, _, _]) rfl ?_
            refine E_goto (pc := 87) 39 dX8_nameAt_87 rfl ?_
            exact hn2
          · have ht : nmP (h g_m_tape 0) a b n (k + 1) := ⟨hs.1, fun ⟨j, hj, z⟩ => (Nat.lt_succ_iff_lt_or_eq.mp hj).elim (fun y => hs.2 ⟨j, y, z⟩) (fun y => z (y ▸ q74))⟩
            refine E_iconst (pc := 77) (1) dX8_nameAt_77 (by decide) ?_
            refine E_goto (pc := 78) 82 dX8_nameAt_78 rfl ?_
            refine E_top (y := bi (nmP (h g_m_tape 0) a b n (k + 1))) (by first | exact (bi_t ht).symm | exact (bi_f ht).symm) ?_
            refine E_istore (pc := 82) 4 dX8_nameAt_82 (Nat.le_of_ble_eq_true rfl) rfl (lz := [_, _, _, _, _, _]) rfl ?_
            refine E_iincN (pc := 84) 5 dX8_nameAt_84 (Nat.le_of_ble_eq_true rfl) rfl rfl (lz := [_, _, _, _, _, _]) rfl ?_
            refine E_goto (pc := 87) 39 dX8_nameAt_87 rfl ?_
            exact hn2
