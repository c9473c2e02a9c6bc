/-! the model: next, number, told -/
def byR (B : Nat → Int32) : Prop := ∀ j, j < 200 → 0 ≤ B j
set_option maxHeartbeats 1600000 in
theorem C_X8_next {l : Launch} {G : GE} {h : Hp} {p L : Nat} (hw : h g_model 0 3 = 0) (hp : h g_model 0 5 = nI p) (hL : h g_model 0 1 = nI L) (hL2 : L ≤ 200) (hpL : p ≤ L) (hT : MTb h) (hB : byR (h g_m_tape 0)) : CT l G mX8_next [vR g_model 0] h (fun r h' => r = none ∧ TkN h h' L (tkA (h g_m_tape 0) L p)) := by
  refine CT.of (lv := [_, _]) (by decide +kernel) (Nat.le_of_ble_eq_true rfl) rfl ?_
  have hA := tkA_le (B := h g_m_tape 0) hpL
  generalize hAe : tkA (h g_m_tape 0) L p = a at hA ⊢
  have tail : ∀ s, s = a → Ev l G mX8_next (fkM G mX8_next (fun r h' => r = none ∧ TkN h h' L a)) 34 [some (vR g_model 0), none] [] (hset h g_model 0 5 (nI s)) := fun s es => by rw [es]; exact next_tok hw hL hL2 hA.2 hT hB (fun h' z => ⟨rfl, z⟩)
  refine E_aload_n (pc := 0) 0 dX8_next_0 rfl rfl ?_
  refine E_getI (pc := 1) dX8_next_1 fl_RX8_75 rfl rfl ?_
  refine E_top hw ?_
  refine E_if_le (pc := 4) 8 dX8_next_4 rfl (fun q4 => ?_) (fun q4 => absurd (Int32.le_refl 0) q4)
  refine E_heq (h' := hset h g_model 0 5 (nI (p + 0))) (by rw [Nat.add_zero, ← hp, hset_self]) ?_
  refine down (P := fun i => rnF isBl (h g_m_tape 0) (L - p - i) (p + i) = a → Ev l G mX8_next _ 8 [some (vR g_model 0), none] [] (hset h g_model 0 5 (nI (p + i)))) (L - p) ?_ ?_ 0 (Nat.zero_le _) hAe
  · intro hr
    rw [Nat.sub_self] at hr
    refine E_aload_n (pc := 8) 0 dX8_next_8 rfl rfl ?_
    refine E_aload_n (pc := 9) 0 dX8_next_9 rfl rfl ?_
    refine E_getI (pc := 10) dX8_next_10 fl_RX8_88 rfl rfl ?_
    refine E_eq (st' := [vI (nI (p + (L - p))), vR g_model 0]) rfl (by rw [hset_eq]) rfl ?_
    refine E_callV1 (pc := 13) dX8_next_13 (C_X8_byteAt (L := L) (by rw [hset_k (by decide)]; exact hL) hL2 (by omega)) rfl kv_RX8_84 rfl rfl rfl ⟨Nat.le_of_ble_eq_true rfl, Nat.le_of_ble_eq_true rfl, Nat.le_of_ble_eq_true rfl, Nat.le_of_ble_eq_true rfl⟩ (Nat.le_of_ble_eq_true rfl) ?_
    refine E_top (y := -4) (if_neg (by omega)) ?_
    refine E_bipush (pc := 16) (32) dX8_next_16 (by decide) ?_
    refine E_icmp_ne (pc := 18) 34 dX8_next_18 rfl (fun q18 => ?_) (fun q18 => absurd q18 (by decide))
    exact tail _ hr
  · intro i hi hn hr
    rw [show L - p - i = (L - p - (i + 1)) + 1 by omega] at hr
    refine E_aload_n (pc := 8) 0 dX8_next_8 rfl rfl ?_
    refine E_aload_n (pc := 9) 0 dX8_next_9 rfl rfl ?_
    refine E_getI (pc := 10) dX8_next_10 fl_RX8_88 rfl rfl ?_
    refine E_eq (st' := [vI (nI (p + i)), vR g_model 0]) rfl (by rw [hset_eq]) rfl ?_
    refine E_callV1 (pc := 13) dX8_next_13 (C_X8_byteAt (L := L) (by rw [hset_k (by decide)]; exact hL) hL2 (by omega)) rfl kv_RX8_84 rfl rfl rfl ⟨Nat.le_of_ble_eq_true rfl, Nat.le_of_ble_eq_true rfl, Nat.le_of_ble_eq_true rfl, Nat.le_of_ble_eq_true rfl⟩ (Nat.le_of_ble_eq_true rfl) ?_
    refine E_top (y := h g_m_tape 0 (p + i)) (by rw [hset_t (by decide)]; exact if_pos (by omega)) ?_
    refine E_bipush (pc := 16) (32) dX8_next_16 (by decide) ?_
    refine E_icmp_ne (pc := 18) 34 dX8_next_18 rfl (fun q18 => ?_) (fun q18 => ?_)
    · exact tail _ ((rnF_no (P := isBl) q18).symm.trans hr)
    · refine E_aload_n (pc := 21) 0 dX8_next_21 rfl rfl ?_
      refine E_dup (pc := 22) dX8_next_22 (fun _ z => by cases z) ?_
      refine E_getI (pc := 23) dX8_next_23 fl_RX8_88 rfl rfl ?_
      refine E_iconst (pc := 26) (1) dX8_next_26 (by decide) ?_
      refine E_iadd (pc := 27) dX8_next_27 ?_
      refine E_eq (st' := [vI (nI (p + (i + 1))), vR g_model 0]) rfl (by rw [hset_eq, ← nI_succ]; rfl) rfl ?_
      refine E_put (pc := 28) dX8_next_28 fp_RX8_88 rfl rfl ?_
      refine E_goto (pc := 31) 8 dX8_next_31 rfl ?_
      exact E_heq (hset_same _ _ _ _ _ _) (hn ((rnF_go (P := isBl) q18).symm.trans hr))
set_option maxHeartbeats 1600000 in
theorem C_nextW {l : Launch} {G : GE} {h : Hp} (hw : 0 < h g_model 0 3) : CT l G mX8_next [vR g_model 0] h (fun r h' => r = none ∧ h' = h) := by
  refine CT.of (lv := [_, _]) (by decide +kernel) (Nat.le_of_ble_eq_true rfl) rfl ?_
  refine E_aload_n (pc := 0) 0 dX8_next_0 rfl rfl ?_
  refine E_getI (pc := 1) dX8_next_1 fl_RX8_75 rfl rfl ?_
  refine E_if_le (pc := 4) 8 dX8_next_4 rfl (fun q4 => absurd hw (Int32.not_lt.mpr q4)) (fun q4 => ?_)
  refine E_vret (pc := 7) dX8_next_7 rfl ?_
  first | exact ⟨rfl, rfl⟩ | exact ⟨by grind [bi], rfl⟩
set_option maxHeartbeats 1600000 in
theorem C_numW {l : Launch} {G : GE} {h : Hp} {lo hi : Int32} (hw : ¬ h g_model 0 3 = 0) : CT l G mX8_number [vR g_model 0, vI lo, vI hi] h (fun r h' => r = some (lo) ∧ h' = h) := by
  refine CT.of (lv := [_, _, _]) (by decide +kernel) (Nat.le_of_ble_eq_true rfl) rfl ?_
  refine E_aload_n (pc := 0) 0 dX8_number_0 rfl rfl ?_
  refine E_getI (pc := 1) dX8_number_1 fl_RX8_75 rfl rfl ?_
  refine E_if_ne (pc := 4) 20 dX8_number_4 rfl (fun q4 => ?_) (fun q4 => absurd q4 hw)
  refine E_aload_n (pc := 20) 0 dX8_number_20 rfl rfl ?_
  refine E_getI (pc := 21) dX8_number_21 fl_RX8_75 rfl rfl ?_
  refine E_if_ne (pc := 24) 47 dX8_number_24 rfl (fun q24 => ?_) (fun q24 => absurd q24 hw)
  refine E_aload_n (pc := 47) 0 dX8_number_47 rfl rfl ?_
  refine E_getI (pc := 48) dX8_number_48 fl_RX8_75 rfl rfl ?_
  refine E_if_ne (pc := 51) 61 dX8_number_51 rfl (fun q51 => ?_) (fun q51 => absurd q51 hw)
  refine E_iload_n (pc := 61) 1 dX8_number_61 rfl rfl ?_
  refine E_iret (pc := 62) dX8_number_62 rfl ?_
  first | exact ⟨rfl, rfl⟩ | exact ⟨by grind [bi], rfl⟩
def nbM (h : Hp) (lo hi : Int32) : Nat := if ¬ h g_model 0 7 = 2 then 2 else if lo ≤ h g_model 0 8 ∧ h g_model 0 8 ≤ hi then 0 else 3
def flH (h : Hp) (n : Nat) : Hp := hset (hset h g_model 0 3 (nI n)) g_model 0 4 (h g_model 0 6)
theorem flH_3 (h : Hp) (n : Nat) : flH h n g_model 0 3 = nI n := by unfold flH; rw [hset_k (by decide)]; exact hset_eq _ _ _ _ _
set_option maxHeartbeats 1600000 in
theorem C_num0 {l : Launch} {G : GE} {h : Hp} {lo hi : Int32} (hw : h g_model 0 3 = 0) : CT l G mX8_number [vR g_model 0, vI lo, vI hi] h (fun r h' => r = some (if nbM h lo hi = 0 then h g_model 0 8 else lo) ∧ h' = if nbM h lo hi = 0 then h else flH h (nbM h lo hi)) := by
  refine CT.of (lv := [_, _, _]) (by decide +kernel) (Nat.le_of_ble_eq_true rfl) rfl ?_
  by_cases h7 : h g_model 0 7 = 2
  · by_cases hb : lo ≤ h g_model 0 8 ∧ h g_model 0 8 ≤ hi
    · have hn : nbM h lo hi = 0 := (if_neg (not_not_intro h7)).trans (if_pos hb)
      rw [hn]
      refine E_aload_n (pc := 0) 0 dX8_number_0 rfl rfl ?_
      refine E_getI (pc := 1) dX8_number_1 fl_RX8_75 rfl rfl ?_
      refine E_top hw ?_
      refine E_if_ne (pc := 4) 20 dX8_number_4 rfl (fun q4 => absurd rfl q4) (fun q4 => ?_)
      refine E_aload_n (pc := 7) 0 dX8_number_7 rfl rfl ?_
      refine E_getI (pc := 8) dX8_number_8 fl_RX8_94 rfl rfl ?_
      refine E_iconst (pc := 11) (2) dX8_number_11 (by decide) ?_
      refine E_icmp_eq (pc := 12) 20 dX8_number_12 rfl (fun q12 => ?_) (fun q12 => absurd h7 q12)
      refine E_aload_n (pc := 20) 0 dX8_number_20 rfl rfl ?_
      refine E_getI (pc := 21) dX8_number_21 fl_RX8_75 rfl rfl ?_
      refine E_top hw ?_
      refine E_if_ne (pc := 24) 47 dX8_number_24 rfl (fun q24 => absurd rfl q24) (fun q24 => ?_)
      refine E_aload_n (pc := 27) 0 dX8_number_27 rfl rfl ?_
      refine E_getI (pc := 28) dX8_number_28 fl_RX8_91 rfl rfl ?_
      refine E_i2l (pc := 31) dX8_number_31 ?_
      refine E_iload_n (pc := 32) 1 dX8_number_32 rfl rfl ?_
      refine E_i2l (pc := 33) dX8_number_33 ?_
      refine E_iload_n (pc := 34) 2 dX8_number_34 rfl rfl ?_
      refine E_i2l (pc := 35) dX8_number_35 ?_
      refine E_callS1 (pc := 36) dX8_number_36 (C_X8_in rfl rfl) rfl ks_RX8_71 rfl ⟨Nat.le_of_ble_eq_true rfl, Nat.le_of_ble_eq_true rfl, Nat.le_of_ble_eq_true rfl, Nat.le_of_ble_eq_true rfl⟩ (Nat.le_of_ble_eq_true rfl) ?_
      refine E_if_ne (pc := 39) 47 dX8_number_39 rfl (fun q39 => ?_) (fun q39 => absurd hb (bi_0.mp q39))
      refine E_aload_n (pc := 47) 0 dX8_number_47 rfl rfl ?_
      refine E_getI (pc := 48) dX8_number_48 fl_RX8_75 rfl rfl ?_
      refine E_top hw ?_
      refine E_if_ne (pc := 51) 61 dX8_number_51 rfl (fun q51 => absurd rfl q51) (fun q51 => ?_)
      refine E_aload_n (pc := 54) 0 dX8_number_54 rfl rfl ?_
      refine E_getI (pc := 55) dX8_number_55 fl_RX8_91 rfl rfl ?_
      refine E_goto (pc := 58) 62 dX8_number_58 rfl ?_
      refine E_iret (pc := 62) dX8_number_62 rfl ?_
      first | exact ⟨rfl, rfl⟩ | exact ⟨by grind [bi], rfl⟩
    · have hn : nbM h lo hi = 3 := (if_neg (not_not_intro h7)).trans (if_neg hb)
      rw [hn]
      refine E_aload_n (pc := 0) 0 dX8_number_0 rfl rfl ?_
      refine E_getI (pc := 1) dX8_number_1 fl_RX8_75 rfl rfl ?_
      refine E_top hw ?_
      refine E_if_ne (pc := 4) 20 dX8_number_4 rfl (fun q4 => absurd rfl q4) (fun q4 => ?_)
      refine E_aload_n (pc := 7) 0 dX8_number_7 rfl rfl ?_
      refine E_getI (pc := 8) dX8_number_8 fl_RX8_94 rfl rfl ?_
      refine E_iconst (pc := 11) (2) dX8_number_11 (by decide) ?_
      refine E_icmp_eq (pc := 12) 20 dX8_number_12 rfl (fun q12 => ?_) (fun q12 => absurd h7 q12)
      refine E_aload_n (pc := 20) 0 dX8_number_20 rfl rfl ?_
      refine E_getI (pc := 21) dX8_number_21 fl_RX8_75 rfl rfl ?_
      refine E_top hw ?_
      refine E_if_ne (pc := 24) 47 dX8_number_24 rfl (fun q24 => absurd rfl q24) (fun q24 => ?_)
      refine E_aload_n (pc := 27) 0 dX8_number_27 rfl rfl ?_
      refine E_getI (pc := 28) dX8_number_28 fl_RX8_91 rfl rfl ?_
      refine E_i2l (pc := 31) dX8_number_31 ?_
      refine E_iload_n (pc := 32) 1 dX8_number_32 rfl rfl ?_
      refine E_i2l (pc := 33) dX8_number_33 ?_
      refine E_iload_n (pc := 34) 2 dX8_number_34 rfl rfl ?_
      refine E_i2l (pc := 35) dX8_number_35 ?_
      refine E_callS1 (pc := 36) dX8_number_36 (C_X8_in rfl rfl) rfl ks_RX8_71 rfl ⟨Nat.le_of_ble_eq_true rfl, Nat.le_of_ble_eq_true rfl, Nat.le_of_ble_eq_true rfl, Nat.le_of_ble_eq_true rfl⟩ (Nat.le_of_ble_eq_true rfl) ?_
      refine E_if_ne (pc := 39) 47 dX8_number_39 rfl (fun q39 => absurd (bi_f hb) q39) (fun q39 => ?_)
      refine E_aload_n (pc := 42) 0 dX8_number_42 rfl rfl ?_
      refine E_iconst (pc := 43) (3) dX8_number_43 (by decide) ?_
      refine E_callV0 (pc := 44) dX8_number_44 (C_fails0 hw) rfl kv_RX8_105 rfl rfl rfl ⟨Nat.le_of_ble_eq_true rfl, Nat.le_of_ble_eq_true rfl, Nat.le_of_ble_eq_true rfl, Nat.le_of_ble_eq_true rfl⟩ (Nat.le_of_ble_eq_true rfl) ?_
      refine E_aload_n (pc := 47) 0 dX8_number_47 rfl rfl ?_
      refine E_getI (pc := 48) dX8_number_48 fl_RX8_75 rfl rfl ?_
      refine E_eq (st' := [vI 3]) rfl (by rw [hset_k (by decide), hset_eq]) rfl ?_
      refine E_if_ne (pc := 51) 61 dX8_number_51 rfl (fun q51 => ?_) (fun q51 => absurd q51 (by decide))
      refine E_iload_n (pc := 61) 1 dX8_number_61 rfl rfl ?_
      refine E_iret (pc := 62) dX8_number_62 rfl ?_
      first | exact ⟨rfl, rfl⟩ | exact ⟨by grind [bi], rfl⟩
  · have hn : nbM h lo hi = 2 := if_pos h7
    rw [hn]
    refine E_aload_n (pc := 0) 0 dX8_number_0 rfl rfl ?_
    refine E_getI (pc := 1) dX8_number_1 fl_RX8_75 rfl rfl ?_
    refine E_top hw ?_
    refine E_if_ne (pc := 4) 20 dX8_number_4 rfl (fun q4 => absurd rfl q4) (fun q4 => ?_)
    refine E_aload_n (pc := 7) 0 dX8_number_7 rfl rfl ?_
    refine E_getI (pc := 8) dX8_number_8 fl_RX8_94 rfl rfl ?_
    refine E_iconst (pc := 11) (2) dX8_number_11 (by decide) ?_
    refine E_icmp_eq (pc := 12) 20 dX8_number_12 rfl (fun q12 => absurd q12 h7) (fun q12 => ?_)
    refine E_aload_n (pc := 15) 0 dX8_number_15 rfl rfl ?_
    refine E_iconst (pc := 16) (2) dX8_number_16 (by decide) ?_
    refine E_callV0 (pc := 17) dX8_number_17 (C_fails0 hw) rfl kv_RX8_105 rfl rfl rfl ⟨Nat.le_of_ble_eq_true rfl, Nat.le_of_ble_eq_true rfl, Nat.le_of_ble_eq_true rfl, Nat.le_of_ble_eq_true rfl⟩ (Nat.le_of_ble_eq_true rfl) ?_
    refine E_aload_n (pc := 20) 0 dX8_number_20 rfl rfl ?_
    refine E_getI (pc := 21) dX8_number_21 fl_RX8_75 rfl rfl ?_
    refine E_eq (st' := [vI 2]) rfl (by rw [hset_k (by decide), hset_eq]) rfl ?_
    refine E_if_ne (pc := 24) 47 dX8_number_24 rfl (fun q24 => ?_) (fun q24 => absurd q24 (by decide))
    refine E_aload_n (pc := 47) 0 dX8_number_47 rfl rfl ?_
    refine E_getI (pc := 48) dX8_number_48 fl_RX8_75 rfl rfl ?_
    refine E_eq (st' := [vI 2]) rfl (by rw [hset_k (by decide), hset_eq]) rfl ?_
    refine E_if_ne (pc := 51) 61 dX8_number_51 rfl (fun q51 => ?_) (fun q51 => absurd q51 (by decide))
    refine E_iload_n (pc := 61) 1 dX8_number_61 rfl rfl ?_
    refine E_iret (pc := 62) dX8_number_62 rfl ?_
    first | exact ⟨rfl, rfl⟩ | exact ⟨by grind [bi], rfl⟩
set_option maxHeartbeats 1600000 in
theorem C_toldW {l : Launch} {G : GE} {h : Hp} {c : Int32} (hw : ¬ h g_model 0 3 = 0) : CT l G mX8_told [vR g_model 0, vI c] h (fun r h' => r = none ∧ h' = h) := by
  refine CT.of (lv := [_, _]) (by decide +kernel) (Nat.le_of_ble_eq_true rfl) rfl ?_
  refine E_aload_n (pc := 0) 0 dX8_told_0 rfl rfl ?_
  refine E_getI (pc := 1) dX8_told_1 fl_RX8_75 rfl rfl ?_
  refine E_if_ne (pc := 4) 24 dX8_told_4 rfl (fun q4 => ?_) (fun q4 => absurd q4 hw)
  refine E_aload_n (pc := 24) 0 dX8_told_24 rfl rfl ?_
  refine E_dup (pc := 25) dX8_told_25 (fun _ z => by cases z) ?_
  refine E_getI (pc := 26) dX8_told_26 fl_RX8_113 rfl rfl ?_
  refine E_aload_n (pc := 29) 0 dX8_told_29 rfl rfl ?_
  refine E_getI (pc := 30) dX8_told_30 fl_RX8_75 rfl rfl ?_
  refine E_if_ne (pc := 33) 42 dX8_told_33 rfl (fun q33 => ?_) (fun q33 => absurd q33 hw)
  refine E_iconst (pc := 42) (0) dX8_told_42 (by decide) ?_
  refine E_ior (pc := 43) dX8_told_43 ?_
  refine E_eq (st' := [vI (h g_model 0 16), vR g_model 0]) rfl (by rw [Int32.or_zero]) rfl ?_
  refine E_put (pc := 44) dX8_told_44 fp_RX8_113 rfl rfl ?_
  refine E_vret (pc := 47) dX8_told_47 rfl ?_
  exact ⟨rfl, hset_self _ _ _ _⟩
set_option maxHeartbeats 1600000 in
theorem C_told0 {l : Launch} {G : GE} {h : Hp} {s : Nat} (hs : s < 18) (hw : h g_model 0 3 = 0) : CT l G mX8_told [vR g_model 0, vI (nI s)] h (fun r h' => r = none ∧ h' = if h g_model 0 16 &&& (1 <<< (nI s &&& 31)) = 0 then hset h g_model 0 16 (h g_model 0 16 ||| (1 <<< (nI s &&& 31))) else flH h 4) := by
  refine CT.of (lv := [_, _]) (by decide +kernel) (Nat.le_of_ble_eq_true rfl) rfl ?_
  by_cases hb : h g_model 0 16 &&& (1 <<< (nI s &&& 31)) = 0
  · rw [if_pos hb]
    refine E_aload_n (pc := 0) 0 dX8_told_0 rfl rfl ?_
    refine E_getI (pc := 1) dX8_told_1 fl_RX8_75 rfl rfl ?_
    refine E_top hw ?_
    refine E_if_ne (pc := 4) 24 dX8_told_4 rfl (fun q4 => absurd rfl q4) (fun q4 => ?_)
    refine E_aload_n (pc := 7) 0 dX8_told_7 rfl rfl ?_
    refine E_getI (pc := 8) dX8_told_8 fl_RX8_113 rfl rfl ?_
    refine E_iload_n (pc := 11) 1 dX8_told_11 rfl rfl ?_
    refine E_ishr (pc := 12) dX8_told_12 ?_
    refine E_iconst (pc := 13) (1) dX8_told_13 (by decide) ?_
    refine E_iand (pc := 14) dX8_told_14 ?_
    refine E_iconst (pc := 15) (1) dX8_told_15 (by decide) ?_
    refine E_icmp_ne (pc := 16) 24 dX8_told_16 rfl (fun q16 => ?_) (fun q16 => absurd hb ((bit_t _ s hs).mp q16))
    refine E_aload_n (pc := 24) 0 dX8_told_24 rfl rfl ?_
    refine E_dup (pc := 25) dX8_told_25 (fun _ z => by cases z) ?_
    refine E_getI (pc := 26) dX8_told_26 fl_RX8_113 rfl rfl ?_
    refine E_aload_n (pc := 29) 0 dX8_told_29 rfl rfl ?_
    refine E_getI (pc := 30) dX8_told_30 fl_RX8_75 rfl rfl ?_
    refine E_top hw ?_
    refine E_if_ne (pc := 33) 42 dX8_told_33 rfl (fun q33 => absurd rfl q33) (fun q33 => ?_)
    refine E_iconst (pc := 36) (1) dX8_told_36 (by decide) ?_
    refine E_iload_n (pc := 37) 1 dX8_told_37 rfl rfl ?_
    refine E_ishl (pc := 38) dX8_told_38 ?_
    refine E_goto (pc := 39) 43 dX8_told_39 rfl ?_
    refine E_ior (pc := 43) dX8_told_43 ?_
    refine E_put (pc := 44) dX8_told_44 fp_RX8_113 rfl rfl ?_
    refine E_vret (pc := 47) dX8_told_47 rfl ?_
    first | exact ⟨rfl, rfl⟩ | exact ⟨by grind [bi], rfl⟩
  · rw [if_neg hb]
    refine E_aload_n (pc := 0) 0 dX8_told_0 rfl rfl ?_
    refine E_getI (pc := 1) dX8_told_1 fl_RX8_75 rfl rfl ?_
    refine E_top hw ?_
    refine E_if_ne (pc := 4) 24 dX8_told_4 rfl (fun q4 => absurd rfl q4) (fun q4 => ?_)
    refine E_aload_n (pc := 7) 0 dX8_told_7 rfl rfl ?_
    refine E_getI (pc := 8) dX8_told_8 fl_RX8_113 rfl rfl ?_
    refine E_iload_n (pc := 11) 1 dX8_told_11 rfl rfl ?_
    refine E_ishr (pc := 12) dX8_told_12 ?_
    refine E_iconst (pc := 13) (1) dX8_told_13 (by decide) ?_
    refine E_iand (pc := 14) dX8_told_14 ?_
    refine E_iconst (pc := 15) (1) dX8_told_15 (by decide) ?_
    refine E_icmp_ne (pc := 16) 24 dX8_told_16 rfl (fun q16 => absurd ((bit_t _ s hs).mpr hb) q16) (fun q16 => ?_)
    refine E_aload_n (pc := 19) 0 dX8_told_19 rfl rfl ?_
    refine E_iconst (pc := 20) (4) dX8_told_20 (by decide) ?_
    refine E_callV0 (pc := 21) dX8_told_21 (C_fails0 hw) rfl kv_RX8_105 rfl rfl rfl ⟨Nat.le_of_ble_eq_true rfl, Nat.le_of_ble_eq_true rfl, Nat.le_of_ble_eq_true rfl, Nat.le_of_ble_eq_true rfl⟩ (Nat.le_of_ble_eq_true rfl) ?_
    refine E_aload_n (pc := 24) 0 dX8_told_24 rfl rfl ?_
    refine E_dup (pc := 25) dX8_told_25 (fun _ z => by cases z) ?_
    refine E_getI (pc := 26) dX8_told_26 fl_RX8_113 rfl rfl ?_
    refine E_aload_n (pc := 29) 0 dX8_told_29 rfl rfl ?_
    refine E_getI (pc := 30) dX8_told_30 fl_RX8_75 rfl rfl ?_
    refine E_top (y := 4) (by rw [hset_k (by decide), hset_eq]) ?_
    refine E_if_ne (pc := 33) 42 dX8_told_33 rfl (fun q33 => ?_) (fun q33 => absurd q33 (by decide))
    refine E_iconst (pc := 42) (0) dX8_told_42 (by decide) ?_
    refine E_ior (pc := 43) dX8_told_43 ?_
    refine E_eq (st' := [vI (hset (hset h g_model 0 3 4) g_model 0 4 (h g_model 0 6) g_model 0 16), vR g_model 0]) rfl (by rw [Int32.or_zero]) rfl ?_
    refine E_put (pc := 44) dX8_told_44 fp_RX8_113 rfl rfl ?_
    refine E_vret (pc := 47) dX8_told_47 rfl ?_
    exact ⟨rfl, hset_self _ _ _ _⟩
