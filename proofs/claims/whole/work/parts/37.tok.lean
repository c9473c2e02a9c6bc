/-! the reader: tokens -/
abbrev isLt (x : Int32) : Prop := 97 ≤ x ∧ x ≤ 122
abbrev isFg (x : Int32) : Prop := 48 ≤ x ∧ x ≤ 57
abbrev isBl (x : Int32) : Prop := x = 32
/-- where a run of signs ends -/
def rnF (P : Int32 → Prop) [DecidablePred P] (B : Nat → Int32) : Nat → Nat → Nat
  | 0, p => p
  | n + 1, p => if P (B p) then rnF P B n (p + 1) else p
theorem rnF_le (P : Int32 → Prop) [DecidablePred P] (B : Nat → Int32) : ∀ n p, p ≤ rnF P B n p ∧ rnF P B n p ≤ p + n
  | 0, p => ⟨Nat.le_refl p, Nat.le_refl p⟩
  | n + 1, p => by
    unfold rnF
    by_cases h : P (B p)
    · rw [if_pos h]; have := rnF_le P B n (p + 1); omega
    · rw [if_neg h]; omega
theorem rnF_go {P : Int32 → Prop} [DecidablePred P] {B : Nat → Int32} {n p : Nat} (h : P (B p)) : rnF P B (n + 1) p = rnF P B n (p + 1) := if_pos h
theorem rnF_no {P : Int32 → Prop} [DecidablePred P] {B : Nat → Int32} {n p : Nat} (h : ¬ P (B p)) : rnF P B (n + 1) p = p := if_neg h
def nmF (B : Nat → Int32) (a b : Nat) : Nat → Nat → Nat
  | 0, n => n
  | m + 1, n => if isNm B a b n then n else nmF B a b m (n + 1)
theorem nmF_le (B : Nat → Int32) (a b : Nat) : ∀ m n, nmF B a b m n ≤ n + m
  | 0, n => Nat.le_refl n
  | m + 1, n => by
    unfold nmF
    by_cases h : isNm B a b n
    · rw [if_pos h]; omega
    · rw [if_neg h]; have := nmF_le B a b m (n + 1); omega
def vlF (B : Nat → Int32) (a : Nat) : Nat → Int32
  | 0 => 0
  | i + 1 => vlF B a i * 10 + B (a + i) - 48
/-- only the reader's fields differ, and neither what was told nor the token's start -/
def Rd (h h2 : Hp) : Prop := (∀ x, x ≠ g_reader → h2 x = h x) ∧ h2 g_reader 0 1 = h g_reader 0 1 ∧ h2 g_reader 0 2 = h g_reader 0 2
theorem Rd.rfl {h : Hp} : Rd h h := ⟨fun _ _ => Eq.refl _, Eq.refl _, Eq.refl _⟩
theorem Rd.put {h h2 : Hp} (r : Rd h h2) {k : Nat} {v : Int32} (h1 : 1 ≠ k) (h22 : 2 ≠ k) : Rd h (hset h2 g_reader 0 k v) := ⟨fun x hx => by rw [hset_t hx]; exact r.1 x hx, by rw [hset_k h1]; exact r.2.1, by rw [hset_k h22]; exact r.2.2⟩
set_option maxHeartbeats 1600000 in
theorem C_X1_takeName {l : Launch} {G : GE} {h : Hp} {a L : Nat} (ha : h g_reader 0 2 = nI a) (hat : h g_reader 0 4 = nI a) (hL : h g_tape 0 1 = nI L) (hL2 : L ≤ 200) (haL : a ≤ L) : CT l G mX1_takeName [vR g_reader 0, vR g_tape 0] h (fun r h' => r = none ∧ Rd h h' ∧ h' g_reader 0 4 = nI (rnF isLt (h g_tapeB 0) (L - a) a) ∧ h' g_reader 0 5 = 1 ∧ h' g_reader 0 6 = nI (nmF (h g_tapeB 0) a (rnF isLt (h g_tapeB 0) (L - a) a) 13 0) ∧ h' g_reader 0 3 = if nmF (h g_tapeB 0) a (rnF isLt (h g_tapeB 0) (L - a) a) 13 0 = 13 then 1 else h g_reader 0 3) := by
  refine CT.of (lv := [_, _]) (by decide +kernel) (Nat.le_of_ble_eq_true rfl) rfl ?_
  have hE := rnF_le isLt (h g_tapeB 0) (L - a) a
  generalize hEe : rnF isLt (h g_tapeB 0) (L - a) a = E at hE ⊢
  refine E_aload_n (pc := 0) 0 dX1_takeName_0 rfl rfl ?_
  refine E_iconst (pc := 1) (1) dX1_takeName_1 (by decide) ?_
  refine E_put (pc := 2) dX1_takeName_2 fp_RX1_42 rfl rfl ?_
  refine down (P := fun i => ∀ h2, Rd h h2 → h2 g_reader 0 4 = nI (a + i) → h2 g_reader 0 5 = 1 → h2 g_reader 0 3 = h g_reader 0 3 → rnF isLt (h g_tapeB 0) (L - a - i) (a + i) = E → Ev l G mX1_takeName _ 5 [some (vR g_reader 0), some (vR g_tape 0)] [] h2) (L - a) ?_ ?_ 0 (Nat.zero_le _) _ (Rd.rfl.put (by decide) (by decide)) (by rw [hset_k (by decide)]; exact hat) (hset_eq _ _ _ _ _) (by rw [hset_k (by decide)]) hEe
  · intro h2 rd e4 e5 e3 hr
    rw [Nat.sub_self] at hr
    have hr2 : a + (L - a) = E := hr
    refine E_aload_n (pc := 5) 0 dX1_takeName_5 rfl rfl ?_
    refine E_getI (pc := 6) dX1_takeName_6 fl_RX1_33 rfl rfl ?_
    refine E_aload_n (pc := 9) 1 dX1_takeName_9 rfl rfl ?_
    refine E_getI (pc := 10) dX1_takeName_10 fl_RX1_65 rfl rfl ?_
    refine E_eq (st' := [vI (nI L), vI (nI (a + (L - a)))]) rfl (by rw [e4, rd.1 g_tape (by decide), hL]) rfl ?_
    refine E_icmp_ge (pc := 13) 44 dX1_takeName_13 rfl (fun q13 => ?_) (fun q13 => absurd (nI_le (by omega) (by omega)) q13)
    rw [hr2] at e4
    refine E_aload_n (pc := 44) 0 dX1_takeName_44 rfl rfl ?_
    refine E_iconst (pc := 45) (0) dX1_takeName_45 (by decide) ?_
    refine E_put (pc := 46) dX1_takeName_46 fp_RX1_48 rfl rfl ?_
    refine down (P := fun n => ∀ h3, Rd h h3 → h3 g_reader 0 4 = nI E → h3 g_reader 0 5 = 1 → h3 g_reader 0 3 = h g_reader 0 3 → h3 g_reader 0 6 = nI n → nmF (h g_tapeB 0) a E (13 - n) n = nmF (h g_tapeB 0) a E 13 0 → Ev l G mX1_takeName _ 49 [some (vR g_reader 0), some (vR g_tape 0)] [] h3) 13 ?_ ?_ 0 (Nat.zero_le _) _ (rd.put (by decide) (by decide)) (by rw [hset_k (by decide)]; exact e4) (by rw [hset_k (by decide)]; exact e5) (by rw [hset_k (by decide)]; exact e3) (hset_eq _ _ _ _ _) rfl
    · intro h3 rd3 f4 f5 f3 f6 hm
      have hm2 : nmF (h g_tapeB 0) a E 13 0 = 13 := hm.symm
      rw [hm2]
      refine E_aload_n (pc := 49) 0 dX1_takeName_49 rfl rfl ?_
      refine E_getI (pc := 50) dX1_takeName_50 fl_RX1_48 rfl rfl ?_
      refine E_bipush (pc := 53) (13) dX1_takeName_53 (by decide) ?_
      refine E_eq (st' := [vI 13, vI (nI 13)]) rfl (by rw [f6]) rfl ?_
      refine E_icmp_ge (pc := 55) 83 dX1_takeName_55 rfl (fun q55 => ?_) (fun q55 => absurd (show (13 : Int32) ≤ nI 13 by decide) q55)
      refine E_aload_n (pc := 83) 0 dX1_takeName_83 rfl rfl ?_
      refine E_getI (pc := 84) dX1_takeName_84 fl_RX1_48 rfl rfl ?_
      refine E_bipush (pc := 87) (13) dX1_takeName_87 (by decide) ?_
      refine E_eq (st' := [vI 13, vI (nI 13)]) rfl (by rw [f6]) rfl ?_
      refine E_icmp_ne (pc := 89) 97 dX1_takeName_89 rfl (fun q89 => absurd (show nI 13 = 13 from rfl) q89) (fun q89 => ?_)
      refine E_aload_n (pc := 92) 0 dX1_takeName_92 rfl rfl ?_
      refine E_iconst (pc := 93) (1) dX1_takeName_93 (by decide) ?_
      refine E_put (pc := 94) dX1_takeName_94 fp_RX1_30 rfl rfl ?_
      refine E_vret (pc := 97) dX1_takeName_97 rfl ?_
      exact ⟨rfl, rd3.put (by decide) (by decide), by rw [hset_k (by decide)]; exact f4, by rw [hset_k (by decide)]; exact f5, by rw [hset_k (by decide)]; exact f6, by rw [if_pos rfl]; exact hset_eq _ _ _ _ _⟩
    · intro n hn hk h3 rd3 f4 f5 f3 f6 hm
      rw [show 13 - n = (13 - (n + 1)) + 1 by omega] at hm
      refine E_aload_n (pc := 49) 0 dX1_takeName_49 rfl rfl ?_
      refine E_getI (pc := 50) dX1_takeName_50 fl_RX1_48 rfl rfl ?_
      refine E_bipush (pc := 53) (13) dX1_takeName_53 (by decide) ?_
      refine E_eq (st' := [vI 13, vI (nI n)]) rfl (by rw [f6]) rfl ?_
      refine E_icmp_ge (pc := 55) 83 dX1_takeName_55 rfl (fun q55 => absurd q55 (nI_ge (b := 13) hn (by decide))) (fun q55 => ?_)
      refine E_aload_n (pc := 58) 0 dX1_takeName_58 rfl rfl ?_
      refine E_aload_n (pc := 59) 1 dX1_takeName_59 rfl rfl ?_
      refine E_aload_n (pc := 60) 0 dX1_takeName_60 rfl rfl ?_
      refine E_getI (pc := 61) dX1_takeName_61 fl_RX1_48 rfl rfl ?_
      refine E_eq (st' := [vI (nI n), vR g_tape 0, vR g_reader 0]) rfl (by rw [f6]) rfl ?_
      refine E_callV1 (pc := 64) dX1_takeName_64 (C_X1_isName (L := L) (by rw [rd3.2.2]; exact ha) f4 (by omega) (by omega) hn) rfl kv_RX1_87 rfl rfl rfl ⟨Nat.le_of_ble_eq_true rfl, Nat.le_of_ble_eq_true rfl, Nat.le_of_ble_eq_true rfl, Nat.le_of_ble_eq_true rfl⟩ (Nat.le_of_ble_eq_true rfl) ?_
      refine E_if_ne (pc := 67) 83 dX1_takeName_67 rfl (fun q67 => ?_) (fun q67 => ?_)
      · have hnm : isNm (h g_tapeB 0) a E n := by have := Decidable.of_not_not (fun z => q67 (bi_0.mpr z)); rw [rd3.1 g_tapeB (by decide)] at this; exact this
        refine E_aload_n (pc := 83) 0 dX1_takeName_83 rfl rfl ?_
        refine E_getI (pc := 84) dX1_takeName_84 fl_RX1_48 rfl rfl ?_
        refine E_bipush (pc := 87) (13) dX1_takeName_87 (by decide) ?_
        refine E_eq (st' := [vI 13, vI (nI n)]) rfl (by rw [f6]) rfl ?_
        refine E_icmp_ne (pc := 89) 97 dX1_takeName_89 rfl (fun q89 => ?_) (fun q89 => absurd q89 (fun z => absurd ((nI_eq (b := 13) (by omega) (by decide)).mp z) (by omega)))
        refine E_vret (pc := 97) dX1_takeName_97 rfl ?_
        have hm2 : nmF (h g_tapeB 0) a E 13 0 = n := hm.symm.trans (if_pos hnm)
        rw [hm2, if_neg (by omega)]
        exact ⟨rfl, rd3, f4, f5, f6, f3⟩
      · have hnm : ¬ isNm (h g_tapeB 0) a E n := by have := bi_0.mp q67; rw [rd3.1 g_tapeB (by decide)] at this; exact this
        refine E_aload_n (pc := 70) 0 dX1_takeName_70 rfl rfl ?_
        refine E_dup (pc := 71) dX1_takeName_71 (fun _ z => by cases z) ?_
        refine E_getI (pc := 72) dX1_takeName_72 fl_RX1_48 rfl rfl ?_
        refine E_iconst (pc := 75) (1) dX1_takeName_75 (by decide) ?_
        refine E_iadd (pc := 76) dX1_takeName_76 ?_
        refine E_eq (st' := [vI (nI (n + 1)), vR g_reader 0]) rfl (by rw [f6, nI_succ]) rfl ?_
        refine E_put (pc := 77) dX1_takeName_77 fp_RX1_48 rfl rfl ?_
        refine E_goto (pc := 80) 49 dX1_takeName_80 rfl ?_
        exact hk _ (rd3.put (by decide) (by decide)) (by rw [hset_k (by decide)]; exact f4) (by rw [hset_k (by decide)]; exact f5) (by rw [hset_k (by decide)]; exact f3) (hset_eq _ _ _ _ _) ((if_neg hnm).symm.trans hm)
  · intro i hi hk h2 rd e4 e5 e3 hr
    rw [show L - a - i = (L - a - (i + 1)) + 1 by omega] at hr
    refine E_aload_n (pc := 5) 0 dX1_takeName_5 rfl rfl ?_
    refine E_getI (pc := 6) dX1_takeName_6 fl_RX1_33 rfl rfl ?_
    refine E_aload_n (pc := 9) 1 dX1_takeName_9 rfl rfl ?_
    refine E_getI (pc := 10) dX1_takeName_10 fl_RX1_65 rfl rfl ?_
    refine E_eq (st' := [vI (nI L), vI (nI (a + i))]) rfl (by rw [e4, rd.1 g_tape (by decide), hL]) rfl ?_
    refine E_icmp_ge (pc := 13) 44 dX1_takeName_13 rfl (fun q13 => absurd q13 (nI_ge (by omega) (by omega))) (fun q13 => ?_)
    refine E_aload_n (pc := 16) 1 dX1_takeName_16 rfl rfl ?_
    refine E_getR0 (pc := 17) dX1_takeName_17 fl_RX1_68 rfl rfl ?_
    refine E_aload_n (pc := 20) 0 dX1_takeName_20 rfl rfl ?_
    refine E_getI (pc := 21) dX1_takeName_21 fl_RX1_33 rfl rfl ?_
    refine E_eq (st' := [vI (nI (a + i)), vR g_tapeB 0]) rfl (by rw [e4]) rfl ?_
    refine E_iald (pc := 24) dX1_takeName_24 rfl (vp_in_nI (by omega) (by decide)) ?_
    refine E_top (y := h g_tapeB 0 (a + i)) (by rw [ixN_nI (by omega), rd.1 g_tapeB (by decide)]) ?_
    refine E_callS1 (pc := 25) dX1_takeName_25 C_X1_isLetter rfl ks_RX1_74 rfl ⟨Nat.le_of_ble_eq_true rfl, Nat.le_of_ble_eq_true rfl, Nat.le_of_ble_eq_true rfl, Nat.le_of_ble_eq_true rfl⟩ (Nat.le_of_ble_eq_true rfl) ?_
    refine E_if_eq (pc := 28) 44 dX1_takeName_28 rfl (fun q28 => ?_) (fun q28 => ?_)
    · have hr2 : a + i = E := (rnF_no (P := isLt) (bi_0.mp q28)).symm.trans hr
      rw [hr2] at e4
      refine E_aload_n (pc := 44) 0 dX1_takeName_44 rfl rfl ?_
      refine E_iconst (pc := 45) (0) dX1_takeName_45 (by decide) ?_
      refine E_put (pc := 46) dX1_takeName_46 fp_RX1_48 rfl rfl ?_
      refine down (P := fun n => ∀ h3, Rd h h3 → h3 g_reader 0 4 = nI E → h3 g_reader 0 5 = 1 → h3 g_reader 0 3 = h g_reader 0 3 → h3 g_reader 0 6 = nI n → nmF (h g_tapeB 0) a E (13 - n) n = nmF (h g_tapeB 0) a E 13 0 → Ev l G mX1_takeName _ 49 [some (vR g_reader 0), some (vR g_tape 0)] [] h3) 13 ?_ ?_ 0 (Nat.zero_le _) _ (rd.put (by decide) (by decide)) (by rw [hset_k (by decide)]; exact e4) (by rw [hset_k (by decide)]; exact e5) (by rw [hset_k (by decide)]; exact e3) (hset_eq _ _ _ _ _) rfl
      · intro h3 rd3 f4 f5 f3 f6 hm
        have hm2 : nmF (h g_tapeB 0) a E 13 0 = 13 := hm.symm
        rw [hm2]
        refine E_aload_n (pc := 49) 0 dX1_takeName_49 rfl rfl ?_
        refine E_getI (pc := 50) dX1_takeName_50 fl_RX1_48 rfl rfl ?_
        refine E_bipush (pc := 53) (13) dX1_takeName_53 (by decide) ?_
        refine E_eq (st' := [vI 13, vI (nI 13)]) rfl (by rw [f6]) rfl ?_
        refine E_icmp_ge (pc := 55) 83 dX1_takeName_55 rfl (fun q55 => ?_) (fun q55 => absurd (show (13 : Int32) ≤ nI 13 by decide) q55)
        refine E_aload_n (pc := 83) 0 dX1_takeName_83 rfl rfl ?_
        refine E_getI (pc := 84) dX1_takeName_84 fl_RX1_48 rfl rfl ?_
        refine E_bipush (pc := 87) (13) dX1_takeName_87 (by decide) ?_
        refine E_eq (st' := [vI 13, vI (nI 13)]) rfl (by rw [f6]) rfl ?_
        refine E_icmp_ne (pc := 89) 97 dX1_takeName_89 rfl (fun q89 => absurd (show nI 13 = 13 from rfl) q89) (fun q89 => ?_)
        refine E_aload_n (pc := 92) 0 dX1_takeName_92 rfl rfl ?_
        refine E_iconst (pc := 93) (1) dX1_takeName_93 (by decide) ?_
        refine E_put (pc := 94) dX1_takeName_94 fp_RX1_30 rfl rfl ?_
        refine E_vret (pc := 97) dX1_takeName_97 rfl ?_
        exact ⟨rfl, rd3.put (by decide) (by decide), by rw [hset_k (by decide)]; exact f4, by rw [hset_k (by decide)]; exact f5, by rw [hset_k (by decide)]; exact f6, by rw [if_pos rfl]; exact hset_eq _ _ _ _ _⟩
      · intro n hn hk h3 rd3 f4 f5 f3 f6 hm
        rw [show 13 - n = (13 - (n + 1)) + 1 by omega] at hm
        refine E_aload_n (pc := 49) 0 dX1_takeName_49 rfl rfl ?_
        refine E_getI (pc := 50) dX1_takeName_50 fl_RX1_48 rfl rfl ?_
        refine E_bipush (pc := 53) (13) dX1_takeName_53 (by decide) ?_
        refine E_eq (st' := [vI 13, vI (nI n)]) rfl (by rw [f6]) rfl ?_
        refine E_icmp_ge (pc := 55) 83 dX1_takeName_55 rfl (fun q55 => absurd q55 (nI_ge (b := 13) hn (by decide))) (fun q55 => ?_)
        refine E_aload_n (pc := 58) 0 dX1_takeName_58 rfl rfl ?_
        refine E_aload_n (pc := 59) 1 dX1_takeName_59 rfl rfl ?_
        refine E_aload_n (pc := 60) 0 dX1_takeName_60 rfl rfl ?_
        refine E_getI (pc := 61) dX1_takeName_61 fl_RX1_48 rfl rfl ?_
        refine E_eq (st' := [vI (nI n), vR g_tape 0, vR g_reader 0]) rfl (by rw [f6]) rfl ?_
        refine E_callV1 (pc := 64) dX1_takeName_64 (C_X1_isName (L := L) (by rw [rd3.2.2]; exact ha) f4 (by omega) (by omega) hn) rfl kv_RX1_87 rfl rfl rfl ⟨Nat.le_of_ble_eq_true rfl, Nat.le_of_ble_eq_true rfl, Nat.le_of_ble_eq_true rfl, Nat.le_of_ble_eq_true rfl⟩ (Nat.le_of_ble_eq_true rfl) ?_
        refine E_if_ne (pc := 67) 83 dX1_takeName_67 rfl (fun q67 => ?_) (fun q67 => ?_)
        · have hnm : isNm (h g_tapeB 0) a E n := by have := Decidable.of_not_not (fun z => q67 (bi_0.mpr z)); rw [rd3.1 g_tapeB (by decide)] at this; exact this
          refine E_aload_n (pc := 83) 0 dX1_takeName_83 rfl rfl ?_
          refine E_getI (pc := 84) dX1_takeName_84 fl_RX1_48 rfl rfl ?_
          refine E_bipush (pc := 87) (13) dX1_takeName_87 (by decide) ?_
          refine E_eq (st' := [vI 13, vI (nI n)]) rfl (by rw [f6]) rfl ?_
          refine E_icmp_ne (pc := 89) 97 dX1_takeName_89 rfl (fun q89 => ?_) (fun q89 => absurd q89 (fun z => absurd ((nI_eq (b := 13) (by omega) (by decide)).mp z) (by omega)))
          refine E_vret (pc := 97) dX1_takeName_97 rfl ?_
          have hm2 : nmF (h g_tapeB 0) a E 13 0 = n := hm.symm.trans (if_pos hnm)
          rw [hm2, if_neg (by omega)]
          exact ⟨rfl, rd3, f4, f5, f6, f3⟩
        · have hnm : ¬ isNm (h g_tapeB 0) a E n := by have := bi_0.mp q67; rw [rd3.1 g_tapeB (by decide)] at this; exact this
          refine E_aload_n (pc := 70) 0 dX1_takeName_70 rfl rfl ?_
          refine E_dup (pc := 71) dX1_takeName_71 (fun _ z => by cases z) ?_
          refine E_getI (pc := 72) dX1_takeName_72 fl_RX1_48 rfl rfl ?_
          refine E_iconst (pc := 75) (1) dX1_takeName_75 (by decide) ?_
          refine E_iadd (pc := 76) dX1_takeName_76 ?_
          refine E_eq (st' := [vI (nI (n + 1)), vR g_reader 0]) rfl (by rw [f6, nI_succ]) rfl ?_
          refine E_put (pc := 77) dX1_takeName_77 fp_RX1_48 rfl rfl ?_
          refine E_goto (pc := 80) 49 dX1_takeName_80 rfl ?_
          exact hk _ (rd3.put (by decide) (by decide)) (by rw [hset_k (by decide)]; exact f4) (by rw [hset_k (by decide)]; exact f5) (by rw [hset_k (by decide)]; exact f3) (hset_eq _ _ _ _ _) ((if_neg hnm).symm.trans hm)
    · refine E_aload_n (pc := 31) 0 dX1_takeName_31 rfl rfl ?_
      refine E_dup (pc := 32) dX1_takeName_32 (fun _ z => by cases z) ?_
      refine E_getI (pc := 33) dX1_takeName_33 fl_RX1_33 rfl rfl ?_
      refine E_iconst (pc := 36) (1) dX1_takeName_36 (by decide) ?_
      refine E_iadd (pc := 37) dX1_takeName_37 ?_
      refine E_eq (st' := [vI (nI (a + (i + 1))), vR g_reader 0]) rfl (by rw [e4, ← nI_succ]; rfl) rfl ?_
      refine E_put (pc := 38) dX1_takeName_38 fp_RX1_33 rfl rfl ?_
      refine E_goto (pc := 41) 5 dX1_takeName_41 rfl ?_
      exact hk _ (rd.put (by decide) (by decide)) (hset_eq _ _ _ _ _) (by rw [hset_k (by decide)]; exact e5) (by rw [hset_k (by decide)]; exact e3) ((rnF_go (Decidable.of_not_not (fun z => q28 (bi_0.mpr z)))).symm.trans hr)
