/-! THE LAW: its loop -/
set_option maxHeartbeats 4000000 in
theorem law_sw {l : Launch} {G : GE} {L k : Nat} {xs : Nat → Int32} {h : Hp} (hL : L ≤ 3584) (hk : 7 * k + 7 ≤ L) (z : Rel h) (next : ∀ h2, Rel0 h2 → Ev l G mL_law (fkL G L xs) 1533 [some (vR g_script 0), some (vR g_oab 0), some (vR g_model 0), some (vI (nI (7 * k)))] [] h2) (c : Nat) (hc : c < 64) : Ev l G mL_law (fkL G L xs) 33 [some (vR g_script 0), some (vR g_oab 0), some (vR g_model 0), some (vI (nI (7 * k)))] [vI (nI c)] h := by
  by_cases e0 : c = 0
  · subst e0
    exact E_tabIn (pc := 33) 204 dL_law_33 (by decide) (by decide) rfl rfl (law_0 hL hk z next)
  by_cases e1 : c = 1
  · subst e1
    exact E_tabIn (pc := 33) 257 dL_law_33 (by decide) (by decide) rfl rfl (law_1 hL hk z next)
  by_cases e2 : c = 2
  · subst e2
    exact E_tabIn (pc := 33) 280 dL_law_33 (by decide) (by decide) rfl rfl (law_2 hL hk z next)
  by_cases e3 : c = 3
  · subst e3
    exact E_tabIn (pc := 33) 293 dL_law_33 (by decide) (by decide) rfl rfl (law_3 hL hk z next)
  by_cases e4 : c = 4
  · subst e4
    exact E_tabIn (pc := 33) 306 dL_law_33 (by decide) (by decide) rfl rfl (law_4 hL hk z next)
  by_cases e5 : c = 5
  · subst e5
    exact E_tabIn (pc := 33) 329 dL_law_33 (by decide) (by decide) rfl rfl (law_5 hL hk z next)
  by_cases e6 : c = 6
  · subst e6
    exact E_tabIn (pc := 33) 372 dL_law_33 (by decide) (by decide) rfl rfl (law_6 hL hk z next)
  by_cases e7 : c = 7
  · subst e7
    exact E_tabIn (pc := 33) 435 dL_law_33 (by decide) (by decide) rfl rfl (law_7 hL hk z next)
  by_cases e8 : c = 8
  · subst e8
    exact E_tabIn (pc := 33) 488 dL_law_33 (by decide) (by decide) rfl rfl (law_8 hL hk z next)
  by_cases e9 : c = 9
  · subst e9
    exact E_tabIn (pc := 33) 521 dL_law_33 (by decide) (by decide) rfl rfl (law_9 hL hk z next)
  by_cases e10 : c = 10
  · subst e10
    exact E_tabIn (pc := 33) 554 dL_law_33 (by decide) (by decide) rfl rfl (law_10 hL hk z next)
  by_cases e11 : c = 11
  · subst e11
    exact E_tabIn (pc := 33) 607 dL_law_33 (by decide) (by decide) rfl rfl (law_11 hL hk z next)
  by_cases e12 : c = 12
  · subst e12
    exact E_tabIn (pc := 33) 650 dL_law_33 (by decide) (by decide) rfl rfl (law_12 hL hk z next)
  by_cases e13 : c = 13
  · subst e13
    exact E_tabIn (pc := 33) 673 dL_law_33 (by decide) (by decide) rfl rfl (law_13 hL hk z next)
  by_cases e14 : c = 14
  · subst e14
    exact E_tabIn (pc := 33) 696 dL_law_33 (by decide) (by decide) rfl rfl (law_14 hL hk z next)
  by_cases e15 : c = 15
  · subst e15
    exact E_tabIn (pc := 33) 719 dL_law_33 (by decide) (by decide) rfl rfl (law_15 hL hk z next)
  by_cases e16 : c = 16
  · subst e16
    exact E_tabIn (pc := 33) 742 dL_law_33 (by decide) (by decide) rfl rfl (law_16 hL hk z next)
  by_cases e17 : c = 17
  · subst e17
    exact E_tabIn (pc := 33) 765 dL_law_33 (by decide) (by decide) rfl rfl (law_17 hL hk z next)
  by_cases e18 : c = 18
  · subst e18
    exact E_tabIn (pc := 33) 788 dL_law_33 (by decide) (by decide) rfl rfl (law_18 hL hk z next)
  by_cases e19 : c = 19
  · subst e19
    exact E_tabIn (pc := 33) 821 dL_law_33 (by decide) (by decide) rfl rfl (law_19 hL hk z next)
  by_cases e20 : c = 20
  · subst e20
    exact E_tabIn (pc := 33) 844 dL_law_33 (by decide) (by decide) rfl rfl (law_20 hL hk z next)
  by_cases e21 : c = 21
  · subst e21
    exact E_tabIn (pc := 33) 877 dL_law_33 (by decide) (by decide) rfl rfl (law_21 hL hk z next)
  by_cases e22 : c = 22
  · subst e22
    exact E_tabIn (pc := 33) 910 dL_law_33 (by decide) (by decide) rfl rfl (law_22 hL hk z next)
  by_cases e23 : c = 23
  · subst e23
    exact E_tabIn (pc := 33) 953 dL_law_33 (by decide) (by decide) rfl rfl (law_23 hL hk z next)
  by_cases e24 : c = 24
  · subst e24
    exact E_tabIn (pc := 33) 976 dL_law_33 (by decide) (by decide) rfl rfl (law_24 hL hk z next)
  by_cases e25 : c = 25
  · subst e25
    exact E_tabIn (pc := 33) 1009 dL_law_33 (by decide) (by decide) rfl rfl (law_25 hL hk z next)
  by_cases e26 : c = 26
  · subst e26
    exact E_tabIn (pc := 33) 1062 dL_law_33 (by decide) (by decide) rfl rfl (law_26 hL hk z next)
  by_cases e27 : c = 27
  · subst e27
    exact E_tabIn (pc := 33) 1085 dL_law_33 (by decide) (by decide) rfl rfl (law_27 hL hk z next)
  by_cases e28 : c = 28
  · subst e28
    exact E_tabIn (pc := 33) 1118 dL_law_33 (by decide) (by decide) rfl rfl (law_28 hL hk z next)
  by_cases e29 : c = 29
  · subst e29
    exact E_tabIn (pc := 33) 1141 dL_law_33 (by decide) (by decide) rfl rfl (law_29 hL hk z next)
  by_cases e30 : c = 30
  · subst e30
    exact E_tabIn (pc := 33) 1164 dL_law_33 (by decide) (by decide) rfl rfl (law_30 hL hk z next)
  by_cases e31 : c = 31
  · subst e31
    exact E_tabIn (pc := 33) 1177 dL_law_33 (by decide) (by decide) rfl rfl (law_31 hL hk z next)
  by_cases e32 : c = 32
  · subst e32
    exact E_tabIn (pc := 33) 1220 dL_law_33 (by decide) (by decide) rfl rfl (law_32 hL hk z next)
  by_cases e33 : c = 33
  · subst e33
    exact E_tabIn (pc := 33) 1283 dL_law_33 (by decide) (by decide) rfl rfl (law_33 hL hk z next)
  by_cases e34 : c = 34
  · subst e34
    exact E_tabIn (pc := 33) 1336 dL_law_33 (by decide) (by decide) rfl rfl (law_34 hL hk z next)
  by_cases e35 : c = 35
  · subst e35
    exact E_tabIn (pc := 33) 1379 dL_law_33 (by decide) (by decide) rfl rfl (law_35 hL hk z next)
  by_cases e36 : c = 36
  · subst e36
    exact E_tabIn (pc := 33) 1422 dL_law_33 (by decide) (by decide) rfl rfl (law_36 hL hk z next)
  by_cases e37 : c = 37
  · subst e37
    exact E_tabIn (pc := 33) 1497 dL_law_33 (by decide) (by decide) rfl rfl (law_37 hL hk z next)
  by_cases e38 : c = 38
  · subst e38
    exact E_tabIn (pc := 33) 1510 dL_law_33 (by decide) (by decide) rfl rfl (law_38 hL hk z next)
  exact E_tabOut (pc := 33) 1533 dL_law_33 (Or.inr (sw_out c (by omega) hc)) rfl (next _ z.r0)
set_option maxHeartbeats 4000000 in
theorem law_loop {l : Launch} {G : GE} {L : Nat} {xs : Nat → Int32} (hL : L ≤ 3584) : ∀ k, k ≤ L / 7 → ∀ h, Rel h → Ev l G mL_law (fkL G L xs) 18 [some (vR g_script 0), some (vR g_oab 0), some (vR g_model 0), some (vI (nI (7 * k)))] [] h := by
  refine down (P := fun k => ∀ h, Rel h → Ev l G mL_law (fkL G L xs) 18 [some (vR g_script 0), some (vR g_oab 0), some (vR g_model 0), some (vI (nI (7 * k)))] [] h) (L / 7) ?_ ?_
  · intro h z
    generalize hkk : L / 7 = k
    refine E_iload_n (pc := 18) 3 dL_law_18 rfl rfl ?_
    refine E_aload_n (pc := 19) 0 dL_law_19 rfl rfl ?_
    refine E_len_ro (pc := 20) dL_law_20 rfl ?_
    refine E_bipush (pc := 21) (7) dL_law_21 (by decide) ?_
    refine E_isub (pc := 23) dL_law_23 ?_
    refine E_icmp_gt (pc := 24) 1539 dL_law_24 rfl (fun q24 => ?_) (fun q24 => absurd (law_end (by omega) hL) q24)
    refine E_iconst (pc := 1539) (1) dL_law_1539 (by decide) ?_
    exact E_lret dL_law_1540
  · intro k hk hn h z
    have hk7 : 7 * k + 7 ≤ L := by omega
    refine E_iload_n (pc := 18) 3 dL_law_18 rfl rfl ?_
    refine E_aload_n (pc := 19) 0 dL_law_19 rfl rfl ?_
    refine E_len_ro (pc := 20) dL_law_20 rfl ?_
    refine E_bipush (pc := 21) (7) dL_law_21 (by decide) ?_
    refine E_isub (pc := 23) dL_law_23 ?_
    refine E_icmp_gt (pc := 24) 1539 dL_law_24 rfl (fun q24 => absurd q24 (law_go hk7 hL)) (fun q24 => ?_)
    refine E_aload_n (pc := 27) 0 dL_law_27 rfl rfl ?_
    refine E_iload_n (pc := 28) 3 dL_law_28 rfl rfl ?_
    refine E_ald_ro (pc := 29) dL_law_29 rfl (vp_in_nI (by omega) (by omega)) ?_
    refine E_bipush (pc := 30) (63) dL_law_30 (by decide) ?_
    refine E_iand (pc := 32) dL_law_32 ?_
    obtain ⟨c, hc, ec⟩ := and63 (xs (ixN (nI (7 * k))))
    refine E_top ec ?_
    refine law_sw hL hk7 z (fun h2 z2 => ?_) c hc
    refine E_iinc (pc := 1533) 3 (7) dL_law_1533 (Nat.le_of_ble_eq_true rfl) rfl rfl (by decide) (lz := [some (vR g_script 0), some (vR g_oab 0), some (vR g_model 0), some (vI (nI (7 * (k + 1))))]) (by rw [show 7 * (k + 1) = 7 * k + 7 by omega, ← nI_add]; rfl) ?_
    refine E_goto (pc := 1536) 18 dL_law_1536 rfl ?_
    exact E_adj (hn _ (rel_adj z2))
