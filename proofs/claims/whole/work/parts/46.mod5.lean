/-! the model: high, lowest, under, order -/
theorem nI_div4 {j p : Nat} (hj : j < 8) (hp : p < 4) : nI (4 * j + p) / 4 = nI j := by
  have := pk_div (a := 4 * j + p) (d := 4) (by omega) (by decide) (by decide)
  rw [show (4 : Int32) = nI 4 from rfl, this]
  congr 1
  omega
theorem nI_rem4 {j p : Nat} (hj : j < 8) (hp : p < 4) : nI (4 * j + p) - nI (4 * j + p) / 4 * 4 = nI p := by
  rw [nI_div4 hj hp, show (4 : Int32) = nI 4 from rfl, pk_mul, pk_sub (by omega)]
  congr 1
  omega
theorem min_le9 {z : Int32} (h : z ≤ 999) : minI 999 z = z := by grind [minI]
theorem min_gt9 {z : Int32} (h : ¬ z ≤ 999) : minI 999 z = 999 := by grind [minI]
set_option maxHeartbeats 1600000 in
theorem C_X8_highOf {l : Launch} {G : GE} {h : Hp} {w T : Nat} (hV : RV (h g_m_holds 0)) (hN : RN (mN h w)) (hw : w ≤ 5) (hT : h g_m_tenths 0 w = nI T) (hT1 : 1 ≤ T) (hT8 : T ≤ 8) : CT l G mX8_highOf [vR g_model 0, vI (nI w)] h (fun r h' => r = some (sHigh (h g_m_holds 0) (mN h w) T) ∧ h' = h) := by
  refine CT.of (lv := [_, _, _, _]) (by decide +kernel) (Nat.le_of_ble_eq_true rfl) rfl ?_
  obtain ⟨ml1, ml2⟩ := ml_parts hV hN hT8
  have hx : sHigh (h g_m_holds 0) (mN h w) T = if sGets (h g_m_holds 0) (mN h w) T then (if (lowF (sU (h g_m_holds 0) (mN h w)) T).1 < 0 then 999 else if sU (h g_m_holds 0) (mN h w) (ixN (lowF (sU (h g_m_holds 0) (mN h w)) T).1) < 0 then -4 else minI 999 (divD (sU (h g_m_holds 0) (mN h w) (ixN (lowF (sU (h g_m_holds 0) (mN h w)) T).1)) (tot (h g_m_holds 0)))) else -4 := rfl
  have ht1 : 4 ≤ tot (h g_m_holds 0) := tot_pos hV
  have ht0 : ¬ tot (h g_m_holds 0) = 0 := by grind
  have hdd : ∀ x : Int32, ¬ x < 0 → divD x (tot (h g_m_holds 0)) = x / tot (h g_m_holds 0) := by
    intro x hx
    unfold divD
    rw [if_neg (by grind), fdiv_pos (Int32.not_lt.mp hx) (by grind)]
  refine E_aload_n (pc := 0) 0 dX8_highOf_0 rfl rfl ?_
  refine E_iload_n (pc := 1) 1 dX8_highOf_1 rfl rfl ?_
  refine E_callV1 (pc := 2) dX8_highOf_2 (C_X8_getsAcross hw hT hT1 hT8) rfl kv_RX8_181 rfl rfl rfl ⟨Nat.le_of_ble_eq_true rfl, Nat.le_of_ble_eq_true rfl, Nat.le_of_ble_eq_true rfl, Nat.le_of_ble_eq_true rfl⟩ (Nat.le_of_ble_eq_true rfl) ?_
  refine E_if_ne (pc := 5) 11 dX8_highOf_5 rfl (fun q5 => ?_) (fun q5 => ?_)
  · have hg : sGets (h g_m_holds 0) (mN h w) T := Decidable.of_not_not (fun z => q5 (bi_0.mpr z))
    rw [if_pos hg] at hx
    refine E_aload_n (pc := 11) 0 dX8_highOf_11 rfl rfl ?_
    refine E_iload_n (pc := 12) 1 dX8_highOf_12 rfl rfl ?_
    refine E_callV1 (pc := 13) dX8_highOf_13 (C_X8_lowestOf hV hN hw hT hT8) rfl kv_RX8_184 rfl rfl rfl ⟨Nat.le_of_ble_eq_true rfl, Nat.le_of_ble_eq_true rfl, Nat.le_of_ble_eq_true rfl, Nat.le_of_ble_eq_true rfl⟩ (Nat.le_of_ble_eq_true rfl) ?_
    refine E_istore_n (pc := 16) 2 dX8_highOf_16 rfl (Nat.le_of_ble_eq_true rfl) rfl (lz := [_, _, _, _]) rfl ?_
    refine E_iload_n (pc := 17) 2 dX8_highOf_17 rfl rfl ?_
    refine E_bipush (pc := 18) (-4) dX8_highOf_18 (by decide) ?_
    refine E_icmp_ne (pc := 20) 27 dX8_highOf_20 rfl (fun q20 => ?_) (fun q20 => ?_)
    · have hl : ¬ (lowF (sU (h g_m_holds 0) (mN h w)) T).1 < 0 := fun z => q20 (ml1 z)
      obtain ⟨j, p, hj, hp, e1, e2, e3, e4⟩ := ml2 hl
      rw [if_neg hl, e1, ixN_nI (by omega), ← e4] at hx
      refine E_aload_n (pc := 27) 0 dX8_highOf_27 rfl rfl ?_
      refine E_iload_n (pc := 28) 1 dX8_highOf_28 rfl rfl ?_
      refine E_iload_n (pc := 29) 2 dX8_highOf_29 rfl rfl ?_
      refine E_iconst (pc := 30) (4) dX8_highOf_30 (by decide) ?_
      refine E_idiv (pc := 31) dX8_highOf_31 (by decide) ?_
      refine E_eq (st' := [vI (nI j), vI (nI w), vR g_model 0]) rfl (by rw [e3, nI_div4 (by omega) hp]) rfl ?_
      refine E_iload_n (pc := 32) 2 dX8_highOf_32 rfl rfl ?_
      refine E_iconst (pc := 33) (4) dX8_highOf_33 (by decide) ?_
      refine E_irem (pc := 34) dX8_highOf_34 (by decide) ?_
      refine E_eq (st' := [vI (nI p), vI (nI j), vI (nI w), vR g_model 0]) rfl (by rw [e3, nI_rem4 (by omega) hp]) rfl ?_
      refine E_iconst (pc := 35) (1) dX8_highOf_35 (by decide) ?_
      refine E_callV1 (pc := 36) dX8_highOf_36 (C_X8_placeOf (ax := 1) hw (by omega) (by omega) (by decide)) rfl kv_RX8_173 rfl rfl rfl ⟨Nat.le_of_ble_eq_true rfl, Nat.le_of_ble_eq_true rfl, Nat.le_of_ble_eq_true rfl, Nat.le_of_ble_eq_true rfl⟩ (Nat.le_of_ble_eq_true rfl) ?_
      refine E_istore_n (pc := 39) 3 dX8_highOf_39 rfl (Nat.le_of_ble_eq_true rfl) rfl (lz := [_, _, _, _]) rfl ?_
      refine E_iload_n (pc := 40) 3 dX8_highOf_40 rfl rfl ?_
      refine E_if_ge (pc := 41) 49 dX8_highOf_41 rfl (fun q41 => ?_) (fun q41 => ?_)
      · have hx2 := hx.trans ((if_neg (Int32.not_lt.mpr q41)).trans (congrArg (minI 999) (hdd _ (Int32.not_lt.mpr q41))))
        refine E_iload_n (pc := 49) 3 dX8_highOf_49 rfl rfl ?_
        refine E_aload_n (pc := 50) 0 dX8_highOf_50 rfl rfl ?_
        refine E_callV1 (pc := 51) dX8_highOf_51 C_X8_whole rfl kv_RX8_166 rfl rfl rfl ⟨Nat.le_of_ble_eq_true rfl, Nat.le_of_ble_eq_true rfl, Nat.le_of_ble_eq_true rfl, Nat.le_of_ble_eq_true rfl⟩ (Nat.le_of_ble_eq_true rfl) ?_
        refine E_idiv (pc := 54) dX8_highOf_54 ht0 ?_
        refine E_sipush (pc := 55) (999) dX8_highOf_55 (by decide) ?_
        refine E_icmp_le (pc := 58) 67 dX8_highOf_58 rfl (fun q58 => ?_) (fun q58 => ?_)
        · have hr := hx2.trans (min_le9 q58)
          refine E_iload_n (pc := 67) 3 dX8_highOf_67 rfl rfl ?_
          refine E_aload_n (pc := 68) 0 dX8_highOf_68 rfl rfl ?_
          refine E_callV1 (pc := 69) dX8_highOf_69 C_X8_whole rfl kv_RX8_166 rfl rfl rfl ⟨Nat.le_of_ble_eq_true rfl, Nat.le_of_ble_eq_true rfl, Nat.le_of_ble_eq_true rfl, Nat.le_of_ble_eq_true rfl⟩ (Nat.le_of_ble_eq_true rfl) ?_
          refine E_idiv (pc := 72) dX8_highOf_72 ht0 ?_
          refine E_iret (pc := 73) dX8_highOf_73 rfl ?_
          exact ⟨congrArg some hr.symm, rfl⟩
        · have hr := hx2.trans (min_gt9 q58)
          refine E_sipush (pc := 61) (999) dX8_highOf_61 (by decide) ?_
          refine E_goto (pc := 64) 73 dX8_highOf_64 rfl ?_
          refine E_iret (pc := 73) dX8_highOf_73 rfl ?_
          exact ⟨congrArg some hr.symm, rfl⟩
      · have hr := hx.trans (if_pos (Int32.not_le.mp q41))
        refine E_bipush (pc := 44) (-4) dX8_highOf_44 (by decide) ?_
        refine E_goto (pc := 46) 73 dX8_highOf_46 rfl ?_
        refine E_iret (pc := 73) dX8_highOf_73 rfl ?_
        exact ⟨congrArg some hr.symm, rfl⟩
    · refine E_sipush (pc := 23) (999) dX8_highOf_23 (by decide) ?_
      refine E_iret (pc := 26) dX8_highOf_26 rfl ?_
      have hl : (lowF (sU (h g_m_holds 0) (mN h w)) T).1 < 0 := by
        apply Decidable.of_not_not
        intro z
        obtain ⟨j, p, hj, hp, e1, e2, e3, e4⟩ := ml2 z
        rw [e3] at q20
        exact nI_ne4 (by omega) q20
      exact ⟨by rw [hx, if_pos hl], rfl⟩
  · refine E_bipush (pc := 8) (-4) dX8_highOf_8 (by decide) ?_
    refine E_iret (pc := 10) dX8_highOf_10 rfl ?_
    exact ⟨by rw [hx, if_neg (bi_0.mp q5)], rfl⟩
