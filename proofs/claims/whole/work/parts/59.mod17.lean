/-! the model: odds, asks -/
theorem nI_pos1 {n : Nat} (h0 : 0 < n) (h : n < 2 ^ 31) : 0 < nI n := Int32.not_le.mp (nI_nle h0 h)
theorem gS_eq {H B D : Nat} (hH : H ≤ 999) (hB : B ≤ 999) (hD : D ≤ 20) : gSlips (nI H) (nI B) (nI D) = nI (min (D + 1) (H + 1 - B)) := by
  unfold gSlips
  have e1 : nI H - nI B + 1 = nI (H + 1) - nI B := by rw [nI_succ]; grind
  rw [e1, ← nI_succ]
  by_cases h : B ≤ H
  · rw [pk_sub (by omega)]
    by_cases h2 : H + 1 - B < D + 1
    · rw [if_pos (nI_lt h2 (by omega)), if_pos (nI_pos1 (by omega) (by omega)), Nat.min_eq_right (by omega)]
    · rw [if_neg (nI_nlt (by omega) (by omega)), if_pos (nI_pos1 (by omega) (by omega)), Nat.min_eq_left (by omega)]
  · have ht : (nI (H + 1) - nI B).toInt = ((H + 1 : Nat) : Int) - (B : Int) := pk_sub_toInt (by omega) (by omega)
    have h1 : nI (H + 1) - nI B < nI (D + 1) := by rw [Int32.lt_iff_toInt_lt, ht, nI_toInt (by omega)]; omega
    have h2 : ¬ 0 < nI (H + 1) - nI B := by rw [Int32.lt_iff_toInt_lt, ht, show (0 : Int32).toInt = 0 by decide]; omega
    rw [if_pos h1, if_neg h2, show H + 1 - B = 0 by omega, Nat.min_zero]
    rfl
theorem lt_slip {H B i : Nat} (hH : H ≤ 999) (hB : B ≤ 999) (hi : i ≤ 21) : nI H - nI i < nI B ↔ H < B + i := by
  rw [Int32.lt_iff_toInt_lt, pk_sub_toInt (by omega) (by omega), nI_toInt (by omega)]
  omega
set_option maxHeartbeats 1600000 in
theorem C_X8_failing {l : Launch} {G : GE} {h : Hp} {H B D : Nat} (hH : H ≤ 999) (hB : B ≤ 999) (hD : D ≤ 20) : CT l G mX8_failing [vI (nI H), vI (nI B), vI (nI D)] h (fun r h' => r = some (nI (D + 1 - min (D + 1) (H + 1 - B))) ∧ h' = h) := by
  refine CT.of (lv := [_, _, _, _, _]) (by decide +kernel) (Nat.le_of_ble_eq_true rfl) rfl ?_
  refine E_iconst (pc := 0) (0) dX8_failing_0 (by decide) ?_
  refine E_istore_n (pc := 1) 3 dX8_failing_1 rfl (Nat.le_of_ble_eq_true rfl) rfl (lz := [_, _, _, _, _]) rfl ?_
  refine E_iconst (pc := 2) (0) dX8_failing_2 (by decide) ?_
  refine E_istore (pc := 3) 4 dX8_failing_3 (Nat.le_of_ble_eq_true rfl) rfl (lz := [_, _, _, _, _]) rfl ?_
  refine down (P := fun i => Ev l G mX8_failing _ 5 [some (vI (nI H)), some (vI (nI B)), some (vI (nI D)), some (vI (nI (i - min i (H + 1 - B)))), some (vI (nI i))] [] h) (D + 1) ?_ ?_ 0 (Nat.zero_le _)
  · refine E_iload (pc := 5) 4 dX8_failing_5 rfl ?_
    refine E_iload_n (pc := 7) 2 dX8_failing_7 rfl rfl ?_
    refine E_icmp_gt (pc := 8) 33 dX8_failing_8 rfl (fun q8 => ?_) (fun q8 => absurd (nI_lt (a := D) (b := D + 1) (by omega) (by omega)) q8)
    refine E_iload_n (pc := 33) 3 dX8_failing_33 rfl rfl ?_
    refine E_iret (pc := 34) dX8_failing_34 rfl ?_
    exact ⟨rfl, rfl⟩
  · intro i hi hn
    refine E_iload (pc := 5) 4 dX8_failing_5 rfl ?_
    refine E_iload_n (pc := 7) 2 dX8_failing_7 rfl rfl ?_
    refine E_icmp_gt (pc := 8) 33 dX8_failing_8 rfl (fun q8 => absurd q8 (nI_nlt (a := D) (b := i) (by omega) (by omega))) (fun q8 => ?_)
    refine E_iload_n (pc := 11) 3 dX8_failing_11 rfl rfl ?_
    refine E_iload_n (pc := 12) 0 dX8_failing_12 rfl rfl ?_
    refine E_iload (pc := 13) 4 dX8_failing_13 rfl ?_
    refine E_isub (pc := 15) dX8_failing_15 ?_
    refine E_iload_n (pc := 16) 1 dX8_failing_16 rfl rfl ?_
    refine E_icmp_ge (pc := 17) 24 dX8_failing_17 rfl (fun q17 => ?_) (fun q17 => ?_)
    · have hl : i + 1 - min (i + 1) (H + 1 - B) = i - min i (H + 1 - B) := by have := mt (lt_slip (i := i) hH hB (by omega)).mpr (Int32.not_lt.mpr q17); omega
      refine E_iconst (pc := 24) (0) dX8_failing_24 (by decide) ?_
      refine E_iadd (pc := 25) dX8_failing_25 ?_
      refine E_top (y := nI (i + 1 - min (i + 1) (H + 1 - B))) (by rw [hl]; first | (rw [nI_succ]; done) | rw [Int32.add_zero]) ?_
      refine E_istore_n (pc := 26) 3 dX8_failing_26 rfl (Nat.le_of_ble_eq_true rfl) rfl (lz := [_, _, _, _, _]) rfl ?_
      refine E_iincN (pc := 27) 4 dX8_failing_27 (Nat.le_of_ble_eq_true rfl) rfl rfl (lz := [_, _, _, _, _]) rfl ?_
      refine E_goto (pc := 30) 5 dX8_failing_30 rfl ?_
      exact hn
    · have hl : i + 1 - min (i + 1) (H + 1 - B) = i - min i (H + 1 - B) + 1 := by have := (lt_slip (i := i) hH hB (by omega)).mp (Int32.not_le.mp q17); omega
      refine E_iconst (pc := 20) (1) dX8_failing_20 (by decide) ?_
      refine E_goto (pc := 21) 25 dX8_failing_21 rfl ?_
      refine E_iadd (pc := 25) dX8_failing_25 ?_
      refine E_top (y := nI (i + 1 - min (i + 1) (H + 1 - B))) (by rw [hl]; first | (rw [nI_succ]; done) | rw [Int32.add_zero]) ?_
      refine E_istore_n (pc := 26) 3 dX8_failing_26 rfl (Nat.le_of_ble_eq_true rfl) rfl (lz := [_, _, _, _, _]) rfl ?_
      refine E_iincN (pc := 27) 4 dX8_failing_27 (Nat.le_of_ble_eq_true rfl) rfl rfl (lz := [_, _, _, _, _]) rfl ?_
      refine E_goto (pc := 30) 5 dX8_failing_30 rfl ?_
      exact hn
theorem nI_rem {a b : Nat} (ha : a < 2 ^ 31) (hb0 : 0 < b) (hb : b < 2 ^ 31) : nI a - nI a / nI b * nI b = nI (a % b) := by
  rw [pk_div ha hb0 hb, pk_mul, pk_sub (Nat.div_mul_le_self a b)]
  congr 1
  have := Nat.div_add_mod a b
  rw [Nat.mul_comm] at this
  omega
theorem cdF_gcd : ∀ n fuel a b, 2 * n + 1 ≤ fuel → b < 2 ^ n → a < 2 ^ 31 → b < 2 ^ 31 → cdF fuel (nI a) (nI b) = nI (Nat.gcd b a)
  | 0, fuel, a, b, hf, hb, ha, _ => by
    have : b = 0 := by omega
    subst this
    obtain ⟨f, rfl⟩ : ∃ f, fuel = f + 1 := ⟨fuel - 1, by omega⟩
    rw [Nat.gcd_zero_left]
    exact if_pos (show nI 0 ≤ 0 by decide)
  | n + 1, fuel, a, b, hf, hb, ha, hb2 => by
    obtain ⟨f, rfl⟩ : ∃ f, fuel = f + 2 := ⟨fuel - 2, by omega⟩
    rcases Nat.eq_zero_or_pos b with rfl | h0
    · rw [Nat.gcd_zero_left]
      exact if_pos (show nI 0 ≤ 0 by decide)
    · have s1 : cdF (f + 2) (nI a) (nI b) = cdF (f + 1) (nI b) (nI a - nI a / nI b * nI b) := if_neg (nI_nle h0 hb2)
      rw [s1, nI_rem ha h0 hb2, Nat.gcd_rec]
      have hm := Nat.mod_lt a h0
      rcases Nat.eq_zero_or_pos (a % b) with h1 | h1
      · rw [h1, Nat.gcd_zero_left]
        exact if_pos (show nI 0 ≤ 0 by decide)
      · have s2 : cdF (f + 1) (nI b) (nI (a % b)) = cdF f (nI (a % b)) (nI b - nI b / nI (a % b) * nI (a % b)) := if_neg (nI_nle h1 (by omega))
        rw [s2, nI_rem hb2 h1 (by omega), Nat.gcd_rec]
        have hm2 := Nat.mod_lt b h1
        refine cdF_gcd n f (a % b) (b % (a % b)) (by omega) ?_ (by omega) (by omega)
        have h3 : b % (a % b) + (a % b) ≤ b := by
          have := Nat.div_add_mod b (a % b)
          have h4 : 1 ≤ b / (a % b) := Nat.div_pos (by omega) h1
          have h5 : (a % b) * 1 ≤ (a % b) * (b / (a % b)) := Nat.mul_le_mul_left _ h4
          omega
        rw [Nat.pow_succ] at hb
        omega
set_option maxHeartbeats 1600000 in
theorem C_X8_inLowest {l : Launch} {G : GE} {h : Hp} {u v : Nat} {a : Int32} (hu : u < 2 ^ 31) (hv0 : 0 < v) (hv : v < 2 ^ 31) : CT l G mX8_inLowest [vI (nI u), vI (nI v), vI a] h (fun r h' => r = some ((if a = 0 then nI u else nI v) / nI (Nat.gcd u v)) ∧ h' = h) := by
  refine CT.of (lv := [_, _, _, _, _, _]) (by decide +kernel) (Nat.le_of_ble_eq_true rfl) rfl ?_
  have hgp : 0 < Nat.gcd u v := Nat.gcd_pos_of_pos_right u hv0
  have hgl : Nat.gcd u v ≤ v := Nat.gcd_le_right u hv0
  refine E_iload_n (pc := 0) 0 dX8_inLowest_0 rfl rfl ?_
  refine E_istore_n (pc := 1) 3 dX8_inLowest_1 rfl (Nat.le_of_ble_eq_true rfl) rfl (lz := [_, _, _, _, _, _]) rfl ?_
  refine E_iload_n (pc := 2) 1 dX8_inLowest_2 rfl rfl ?_
  refine E_istore (pc := 3) 4 dX8_inLowest_3 (Nat.le_of_ble_eq_true rfl) rfl (lz := [_, _, _, _, _, _]) rfl ?_
  refine (show ∀ n (x y : Nat), y < n → x < 2 ^ 31 → y < 2 ^ 31 → Nat.gcd y x = Nat.gcd u v → Ev l G mX8_inLowest _ 5 [some (vI (nI u)), some (vI (nI v)), some (vI a), some (vI (nI x)), some (vI (nI y)), none] [] h from ?_) (v + 1) u v (Nat.lt_succ_self v) hu hv (Nat.gcd_comm v u)
  intro n
  induction n with
  | zero => intro x y hy; exact absurd hy (Nat.not_lt_zero y)
  | succ n ih =>
    intro x y hy hx hy2 he
    refine E_iload (pc := 5) 4 dX8_inLowest_5 rfl ?_
    refine E_if_eq (pc := 7) 26 dX8_inLowest_7 rfl (fun q7 => ?_) (fun q7 => ?_)
    · have hy0 : y = 0 := (nI_eq (b := 0) hy2 (by decide)).mp q7
      rw [hy0, Nat.gcd_zero_left] at he
      refine E_iload_n (pc := 26) 2 dX8_inLowest_26 rfl rfl ?_
      refine E_if_ne (pc := 27) 34 dX8_inLowest_27 rfl (fun q27 => ?_) (fun q27 => ?_)
      · have hr : (if a = 0 then nI u else nI v) = nI v := if_neg q27
        refine E_iload_n (pc := 34) 1 dX8_inLowest_34 rfl rfl ?_
        refine E_iload_n (pc := 35) 3 dX8_inLowest_35 rfl rfl ?_
        refine E_idiv (pc := 36) dX8_inLowest_36 (by rw [he]; exact nI_ne0 hgp (by omega)) ?_
        refine E_iret (pc := 37) dX8_inLowest_37 rfl ?_
        exact ⟨by rw [hr, he], rfl⟩
      · have hr : (if a = 0 then nI u else nI v) = nI u := if_pos q27
        refine E_iload_n (pc := 30) 0 dX8_inLowest_30 rfl rfl ?_
        refine E_goto (pc := 31) 35 dX8_inLowest_31 rfl ?_
        refine E_iload_n (pc := 35) 3 dX8_inLowest_35 rfl rfl ?_
        refine E_idiv (pc := 36) dX8_inLowest_36 (by rw [he]; exact nI_ne0 hgp (by omega)) ?_
        refine E_iret (pc := 37) dX8_inLowest_37 rfl ?_
        exact ⟨by rw [hr, he], rfl⟩
    · have hy0 : 0 < y := Nat.pos_of_ne_zero (fun z => q7 (by rw [z]; rfl))
      refine E_iload_n (pc := 10) 3 dX8_inLowest_10 rfl rfl ?_
      refine E_iload (pc := 11) 4 dX8_inLowest_11 rfl ?_
      refine E_irem (pc := 13) dX8_inLowest_13 q7 ?_
      refine E_top (y := nI (x % y)) (nI_rem hx hy0 hy2) ?_
      refine E_istore (pc := 14) 5 dX8_inLowest_14 (Nat.le_of_ble_eq_true rfl) rfl (lz := [_, _, _, _, _, _]) rfl ?_
      refine E_iload (pc := 16) 4 dX8_inLowest_16 rfl ?_
      refine E_istore_n (pc := 18) 3 dX8_inLowest_18 rfl (Nat.le_of_ble_eq_true rfl) rfl (lz := [_, _, _, _, _, _]) rfl ?_
      refine E_iload (pc := 19) 5 dX8_inLowest_19 rfl ?_
      refine E_istore (pc := 21) 4 dX8_inLowest_21 (Nat.le_of_ble_eq_true rfl) rfl (lz := [_, _, _, _, _, _]) rfl ?_
      refine E_goto (pc := 23) 5 dX8_inLowest_23 rfl ?_
      exact E_drop 5 (ih y (x % y) (by have := Nat.mod_lt x hy0; omega) hy2 (by have := Nat.mod_lt x hy0; omega) (by rw [← he]; exact (Nat.gcd_rec y x).symm))
