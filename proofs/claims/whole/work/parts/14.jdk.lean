/-! the JDK's own methods -/
set_option maxHeartbeats 1600000 in
theorem C_J9_min_7cf53 {l : Launch} {G : GE} {h : Hp} {x y : Int32} : CT l G mJ9_min_7cf53 [vI x, vI y] h (fun r h' => r = some (if y < x then y else x) ∧ h' = h) := by
  refine CT.of (lv := [_, _]) (by decide +kernel) (Nat.le_of_ble_eq_true rfl) rfl ?_
  refine E_iload_n (pc := 0) 0 dJ9_min_7cf53_0 rfl rfl ?_
  refine E_iload_n (pc := 1) 1 dJ9_min_7cf53_1 rfl rfl ?_
  refine E_icmp_gt (pc := 2) 9 dJ9_min_7cf53_2 rfl (fun q2 => ?_) (fun q2 => ?_)
  · refine E_iload_n (pc := 9) 1 dJ9_min_7cf53_9 rfl rfl ?_
    refine E_iret (pc := 10) dJ9_min_7cf53_10 rfl ?_
    first | exact ⟨rfl, rfl⟩ | exact ⟨by grind [bi], rfl⟩
  · refine E_iload_n (pc := 5) 0 dJ9_min_7cf53_5 rfl rfl ?_
    refine E_goto (pc := 6) 10 dJ9_min_7cf53_6 rfl ?_
    refine E_iret (pc := 10) dJ9_min_7cf53_10 rfl ?_
    first | exact ⟨rfl, rfl⟩ | exact ⟨by grind [bi], rfl⟩
set_option maxHeartbeats 1600000 in
theorem C_J9_max_7cf53 {l : Launch} {G : GE} {h : Hp} {x y : Int32} : CT l G mJ9_max_7cf53 [vI x, vI y] h (fun r h' => r = some (if x < y then y else x) ∧ h' = h) := by
  refine CT.of (lv := [_, _]) (by decide +kernel) (Nat.le_of_ble_eq_true rfl) rfl ?_
  refine E_iload_n (pc := 0) 0 dJ9_max_7cf53_0 rfl rfl ?_
  refine E_iload_n (pc := 1) 1 dJ9_max_7cf53_1 rfl rfl ?_
  refine E_icmp_lt (pc := 2) 9 dJ9_max_7cf53_2 rfl (fun q2 => ?_) (fun q2 => ?_)
  · refine E_iload_n (pc := 9) 1 dJ9_max_7cf53_9 rfl rfl ?_
    refine E_iret (pc := 10) dJ9_max_7cf53_10 rfl ?_
    first | exact ⟨rfl, rfl⟩ | exact ⟨by grind [bi], rfl⟩
  · refine E_iload_n (pc := 5) 0 dJ9_max_7cf53_5 rfl rfl ?_
    refine E_goto (pc := 6) 10 dJ9_max_7cf53_6 rfl ?_
    refine E_iret (pc := 10) dJ9_max_7cf53_10 rfl ?_
    first | exact ⟨rfl, rfl⟩ | exact ⟨by grind [bi], rfl⟩
set_option maxHeartbeats 1600000 in
theorem C_J9_abs_0f7a4 {l : Launch} {G : GE} {h : Hp} {x : Int32} : CT l G mJ9_abs_0f7a4 [vI x] h (fun r h' => r = some (if 0 ≤ x then x else -x) ∧ h' = h) := by
  refine CT.of (lv := [_]) (by decide +kernel) (Nat.le_of_ble_eq_true rfl) rfl ?_
  refine E_iload_n (pc := 0) 0 dJ9_abs_0f7a4_0 rfl rfl ?_
  refine E_if_ge (pc := 1) 9 dJ9_abs_0f7a4_1 rfl (fun q1 => ?_) (fun q1 => ?_)
  · refine E_iload_n (pc := 9) 0 dJ9_abs_0f7a4_9 rfl rfl ?_
    refine E_iret (pc := 10) dJ9_abs_0f7a4_10 rfl ?_
    first | exact ⟨rfl, rfl⟩ | exact ⟨by grind [bi], rfl⟩
  · refine E_iload_n (pc := 4) 0 dJ9_abs_0f7a4_4 rfl rfl ?_
    refine E_ineg (pc := 5) dJ9_abs_0f7a4_5 ?_
    refine E_goto (pc := 6) 10 dJ9_abs_0f7a4_6 rfl ?_
    refine E_iret (pc := 10) dJ9_abs_0f7a4_10 rfl ?_
    first | exact ⟨rfl, rfl⟩ | exact ⟨by grind [bi], rfl⟩
def fdiv (x y : Int32) : Int32 := if 0 ≤ x ^^^ y then x / y else if x / y * y = x then x / y else x / y - 1
def fmod (x y : Int32) : Int32 := if 0 ≤ x ^^^ y then x - x / y * y else if x - x / y * y = 0 then x - x / y * y else x - x / y * y + y
set_option maxHeartbeats 1600000 in
theorem C_J9_floorDiv_7cf53 {l : Launch} {G : GE} {h : Hp} {x y : Int32} (hy : ¬ y = 0) : CT l G mJ9_floorDiv_7cf53 [vI x, vI y] h (fun r h' => r = some (fdiv x y) ∧ h' = h) := by
  refine CT.of (lv := [_, _, _]) (by decide +kernel) (Nat.le_of_ble_eq_true rfl) rfl ?_
  refine E_iload_n (pc := 0) 0 dJ9_floorDiv_7cf53_0 rfl rfl ?_
  refine E_iload_n (pc := 1) 1 dJ9_floorDiv_7cf53_1 rfl rfl ?_
  refine E_idiv (pc := 2) dJ9_floorDiv_7cf53_2 hy ?_
  refine E_istore_n (pc := 3) 2 dJ9_floorDiv_7cf53_3 rfl (Nat.le_of_ble_eq_true rfl) rfl (lz := [_, _, _]) rfl ?_
  refine E_iload_n (pc := 4) 0 dJ9_floorDiv_7cf53_4 rfl rfl ?_
  refine E_iload_n (pc := 5) 1 dJ9_floorDiv_7cf53_5 rfl rfl ?_
  refine E_ixor (pc := 6) dJ9_floorDiv_7cf53_6 ?_
  refine E_if_ge (pc := 7) 21 dJ9_floorDiv_7cf53_7 rfl (fun q7 => ?_) (fun q7 => ?_)
  · refine E_iload_n (pc := 21) 2 dJ9_floorDiv_7cf53_21 rfl rfl ?_
    refine E_iret (pc := 22) dJ9_floorDiv_7cf53_22 rfl ?_
    exact ⟨by grind [fdiv], rfl⟩
  · refine E_iload_n (pc := 10) 2 dJ9_floorDiv_7cf53_10 rfl rfl ?_
    refine E_iload_n (pc := 11) 1 dJ9_floorDiv_7cf53_11 rfl rfl ?_
    refine E_imul (pc := 12) dJ9_floorDiv_7cf53_12 ?_
    refine E_iload_n (pc := 13) 0 dJ9_floorDiv_7cf53_13 rfl rfl ?_
    refine E_icmp_eq (pc := 14) 21 dJ9_floorDiv_7cf53_14 rfl (fun q14 => ?_) (fun q14 => ?_)
    · refine E_iload_n (pc := 21) 2 dJ9_floorDiv_7cf53_21 rfl rfl ?_
      refine E_iret (pc := 22) dJ9_floorDiv_7cf53_22 rfl ?_
      exact ⟨by grind [fdiv], rfl⟩
    · refine E_iload_n (pc := 17) 2 dJ9_floorDiv_7cf53_17 rfl rfl ?_
      refine E_iconst (pc := 18) (1) dJ9_floorDiv_7cf53_18 (by decide) ?_
      refine E_isub (pc := 19) dJ9_floorDiv_7cf53_19 ?_
      refine E_iret (pc := 20) dJ9_floorDiv_7cf53_20 rfl ?_
      exact ⟨by grind [fdiv], rfl⟩
set_option maxHeartbeats 1600000 in
theorem C_J9_floorMod_7cf53 {l : Launch} {G : GE} {h : Hp} {x y : Int32} (hy : ¬ y = 0) : CT l G mJ9_floorMod_7cf53 [vI x, vI y] h (fun r h' => r = some (fmod x y) ∧ h' = h) := by
  refine CT.of (lv := [_, _, _]) (by decide +kernel) (Nat.le_of_ble_eq_true rfl) rfl ?_
  refine E_iload_n (pc := 0) 0 dJ9_floorMod_7cf53_0 rfl rfl ?_
  refine E_iload_n (pc := 1) 1 dJ9_floorMod_7cf53_1 rfl rfl ?_
  refine E_irem (pc := 2) dJ9_floorMod_7cf53_2 hy ?_
  refine E_istore_n (pc := 3) 2 dJ9_floorMod_7cf53_3 rfl (Nat.le_of_ble_eq_true rfl) rfl (lz := [_, _, _]) rfl ?_
  refine E_iload_n (pc := 4) 0 dJ9_floorMod_7cf53_4 rfl rfl ?_
  refine E_iload_n (pc := 5) 1 dJ9_floorMod_7cf53_5 rfl rfl ?_
  refine E_ixor (pc := 6) dJ9_floorMod_7cf53_6 ?_
  refine E_if_ge (pc := 7) 18 dJ9_floorMod_7cf53_7 rfl (fun q7 => ?_) (fun q7 => ?_)
  · refine E_iload_n (pc := 18) 2 dJ9_floorMod_7cf53_18 rfl rfl ?_
    refine E_iret (pc := 19) dJ9_floorMod_7cf53_19 rfl ?_
    exact ⟨by grind [fmod], rfl⟩
  · refine E_iload_n (pc := 10) 2 dJ9_floorMod_7cf53_10 rfl rfl ?_
    refine E_if_eq (pc := 11) 18 dJ9_floorMod_7cf53_11 rfl (fun q11 => ?_) (fun q11 => ?_)
    · refine E_iload_n (pc := 18) 2 dJ9_floorMod_7cf53_18 rfl rfl ?_
      refine E_iret (pc := 19) dJ9_floorMod_7cf53_19 rfl ?_
      exact ⟨by grind [fmod], rfl⟩
    · refine E_iload_n (pc := 14) 2 dJ9_floorMod_7cf53_14 rfl rfl ?_
      refine E_iload_n (pc := 15) 1 dJ9_floorMod_7cf53_15 rfl rfl ?_
      refine E_iadd (pc := 16) dJ9_floorMod_7cf53_16 ?_
      refine E_iret (pc := 17) dJ9_floorMod_7cf53_17 rfl ?_
      exact ⟨by grind [fmod], rfl⟩
set_option maxHeartbeats 1600000 in
theorem C_J6_compare_7cf53 {l : Launch} {G : GE} {h : Hp} {x y : Int32} : CT l G mJ6_compare_7cf53 [vI x, vI y] h (fun r h' => r = some (if x < y then -1 else if x = y then 0 else 1) ∧ h' = h) := by
  refine CT.of (lv := [_, _]) (by decide +kernel) (Nat.le_of_ble_eq_true rfl) rfl ?_
  refine E_iload_n (pc := 0) 0 dJ6_compare_7cf53_0 rfl rfl ?_
  refine E_iload_n (pc := 1) 1 dJ6_compare_7cf53_1 rfl rfl ?_
  refine E_icmp_ge (pc := 2) 9 dJ6_compare_7cf53_2 rfl (fun q2 => ?_) (fun q2 => ?_)
  · refine E_iload_n (pc := 9) 0 dJ6_compare_7cf53_9 rfl rfl ?_
    refine E_iload_n (pc := 10) 1 dJ6_compare_7cf53_10 rfl rfl ?_
    refine E_icmp_ne (pc := 11) 18 dJ6_compare_7cf53_11 rfl (fun q11 => ?_) (fun q11 => ?_)
    · refine E_iconst (pc := 18) (1) dJ6_compare_7cf53_18 (by decide) ?_
      refine E_iret (pc := 19) dJ6_compare_7cf53_19 rfl ?_
      first | exact ⟨rfl, rfl⟩ | exact ⟨by grind [bi], rfl⟩
    · refine E_iconst (pc := 14) (0) dJ6_compare_7cf53_14 (by decide) ?_
      refine E_goto (pc := 15) 19 dJ6_compare_7cf53_15 rfl ?_
      refine E_iret (pc := 19) dJ6_compare_7cf53_19 rfl ?_
      first | exact ⟨rfl, rfl⟩ | exact ⟨by grind [bi], rfl⟩
  · refine E_iconst (pc := 5) (-1) dJ6_compare_7cf53_5 (by decide) ?_
    refine E_goto (pc := 6) 19 dJ6_compare_7cf53_6 rfl ?_
    refine E_iret (pc := 19) dJ6_compare_7cf53_19 rfl ?_
    first | exact ⟨rfl, rfl⟩ | exact ⟨by grind [bi], rfl⟩
def ushr (x y : Int32) : Int32 := (x.toUInt32 >>> (y.toUInt32 &&& Int32.toUInt32 31)).toInt32
def bc1 (x : Int32) : Int32 := x - (ushr x 1 &&& 1431655765)
def bc2 (x : Int32) : Int32 := (x &&& 858993459) + (ushr x 2 &&& 858993459)
def bc3 (x : Int32) : Int32 := (x + ushr x 4) &&& 252645135
def bc4 (x : Int32) : Int32 := x + ushr x 8
def bc5 (x : Int32) : Int32 := (x + ushr x 16) &&& 63
set_option maxHeartbeats 1600000 in
theorem C_J6_bitCount_0f7a4 {l : Launch} {G : GE} {h : Hp} {x : Int32} : CT l G mJ6_bitCount_0f7a4 [vI x] h (fun r h' => r = some (bc5 (bc4 (bc3 (bc2 (bc1 x))))) ∧ h' = h) := by
  refine CT.of (lv := [_]) (by decide +kernel) (Nat.le_of_ble_eq_true rfl) rfl ?_
  refine E_iload_n (pc := 0) 0 dJ6_bitCount_0f7a4_0 rfl rfl ?_
  refine E_iload_n (pc := 1) 0 dJ6_bitCount_0f7a4_1 rfl rfl ?_
  refine E_iconst (pc := 2) (1) dJ6_bitCount_0f7a4_2 (by decide) ?_
  refine E_iushr (pc := 3) dJ6_bitCount_0f7a4_3 ?_
  refine E_ldcw (pc := 4) (1431655765) dJ6_bitCount_0f7a4_4 kk_RJ6_265 ?_
  refine E_iand (pc := 7) dJ6_bitCount_0f7a4_7 ?_
  refine E_isub (pc := 8) dJ6_bitCount_0f7a4_8 ?_
  refine E_istore_n (pc := 9) 0 dJ6_bitCount_0f7a4_9 rfl (Nat.le_of_ble_eq_true rfl) rfl (lz := [_]) rfl ?_
  refine E_iload_n (pc := 10) 0 dJ6_bitCount_0f7a4_10 rfl rfl ?_
  refine E_ldcw (pc := 11) (858993459) dJ6_bitCount_0f7a4_11 kk_RJ6_266 ?_
  refine E_iand (pc := 14) dJ6_bitCount_0f7a4_14 ?_
  refine E_iload_n (pc := 15) 0 dJ6_bitCount_0f7a4_15 rfl rfl ?_
  refine E_iconst (pc := 16) (2) dJ6_bitCount_0f7a4_16 (by decide) ?_
  refine E_iushr (pc := 17) dJ6_bitCount_0f7a4_17 ?_
  refine E_ldcw (pc := 18) (858993459) dJ6_bitCount_0f7a4_18 kk_RJ6_266 ?_
  refine E_iand (pc := 21) dJ6_bitCount_0f7a4_21 ?_
  refine E_iadd (pc := 22) dJ6_bitCount_0f7a4_22 ?_
  refine E_istore_n (pc := 23) 0 dJ6_bitCount_0f7a4_23 rfl (Nat.le_of_ble_eq_true rfl) rfl (lz := [_]) rfl ?_
  refine E_iload_n (pc := 24) 0 dJ6_bitCount_0f7a4_24 rfl rfl ?_
  refine E_iload_n (pc := 25) 0 dJ6_bitCount_0f7a4_25 rfl rfl ?_
  refine E_iconst (pc := 26) (4) dJ6_bitCount_0f7a4_26 (by decide) ?_
  refine E_iushr (pc := 27) dJ6_bitCount_0f7a4_27 ?_
  refine E_iadd (pc := 28) dJ6_bitCount_0f7a4_28 ?_
  refine E_ldcw (pc := 29) (252645135) dJ6_bitCount_0f7a4_29 kk_RJ6_267 ?_
  refine E_iand (pc := 32) dJ6_bitCount_0f7a4_32 ?_
  refine E_istore_n (pc := 33) 0 dJ6_bitCount_0f7a4_33 rfl (Nat.le_of_ble_eq_true rfl) rfl (lz := [_]) rfl ?_
  refine E_iload_n (pc := 34) 0 dJ6_bitCount_0f7a4_34 rfl rfl ?_
  refine E_iload_n (pc := 35) 0 dJ6_bitCount_0f7a4_35 rfl rfl ?_
  refine E_bipush (pc := 36) (8) dJ6_bitCount_0f7a4_36 (by decide) ?_
  refine E_iushr (pc := 38) dJ6_bitCount_0f7a4_38 ?_
  refine E_iadd (pc := 39) dJ6_bitCount_0f7a4_39 ?_
  refine E_istore_n (pc := 40) 0 dJ6_bitCount_0f7a4_40 rfl (Nat.le_of_ble_eq_true rfl) rfl (lz := [_]) rfl ?_
  refine E_iload_n (pc := 41) 0 dJ6_bitCount_0f7a4_41 rfl rfl ?_
  refine E_iload_n (pc := 42) 0 dJ6_bitCount_0f7a4_42 rfl rfl ?_
  refine E_bipush (pc := 43) (16) dJ6_bitCount_0f7a4_43 (by decide) ?_
  refine E_iushr (pc := 45) dJ6_bitCount_0f7a4_45 ?_
  refine E_iadd (pc := 46) dJ6_bitCount_0f7a4_46 ?_
  refine E_istore_n (pc := 47) 0 dJ6_bitCount_0f7a4_47 rfl (Nat.le_of_ble_eq_true rfl) rfl (lz := [_]) rfl ?_
  refine E_iload_n (pc := 48) 0 dJ6_bitCount_0f7a4_48 rfl rfl ?_
  refine E_bipush (pc := 49) (63) dJ6_bitCount_0f7a4_49 (by decide) ?_
  refine E_iand (pc := 51) dJ6_bitCount_0f7a4_51 ?_
  refine E_iret (pc := 52) dJ6_bitCount_0f7a4_52 rfl ?_
  first | exact ⟨rfl, rfl⟩ | exact ⟨by grind [bi], rfl⟩
