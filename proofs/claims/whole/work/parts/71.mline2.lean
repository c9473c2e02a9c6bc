/-! the model: a line's number and its end -/
theorem lnT_v {B : Nat → Int32} {L p nm : Nat} {told : Int32} (hs : slT B L p nm told = 0) (hv : ¬ lnV B L p nm = 0) : lnT B L p nm told = lnV B L p nm := (if_neg (not_not_intro hs)).trans (if_pos hv)
theorem lnP_v {B : Nat → Int32} {L a0 p nm : Nat} {told : Int32} (hs : slT B L p nm told = 0) (hv : ¬ lnV B L p nm = 0) : lnP B L a0 p nm told = lnA B L p nm := (if_neg (not_not_intro hs)).trans (if_pos hv)
theorem lnT_x {B : Nat → Int32} {L p nm : Nat} {told : Int32} (hs : slT B L p nm told = 0) (hv : lnV B L p nm = 0) : lnT B L p nm told = lnX B L p nm := (if_neg (not_not_intro hs)).trans (if_neg (not_not_intro hv))
theorem lnP_x {B : Nat → Int32} {L a0 p nm : Nat} {told : Int32} (hs : slT B L p nm told = 0) (hv : lnV B L p nm = 0) : lnP B L a0 p nm told = lnC B L p nm := (if_neg (not_not_intro hs)).trans (if_neg (not_not_intro hv))
theorem lnV_le (B : Nat → Int32) (L p nm : Nat) : lnV B L p nm ≤ 3 := nbT_le _ _ _ _ _
set_option maxHeartbeats 4000000 in
theorem rl_val {l : Launch} {G : GE} {h H : Hp} {Q : QT} {a0 p nm s L : Nat} {x : Int32} (hL : h g_model 0 1 = nI L) (hL2 : L ≤ 200) (hT : MTb h) (hB : byR (h g_m_tape 0)) (hpL : p ≤ L) (hsl : slT (h g_m_tape 0) L p nm (h g_model 0 16) = 0) (hs : slS (h g_m_tape 0) L p nm = nI s) (hs18 : s < 18) (hM : Mr h H) (hr : H g_m_reads 0 = h g_m_reads 0) (h16 : H g_model 0 16 = h g_model 0 16 ||| (1 <<< (slS (h g_m_tape 0) L p nm &&& 31))) (hK : TkS (h g_m_tape 0) H L (lnA (h g_m_tape 0) L p nm)) (hQ : ∀ h', LnM h h' L a0 p nm → Q none h') : Ev l G mX8_readLine (fkM G mX8_readLine Q) 79 [some (vR g_model 0), some (vI x), some (vI (nI s))] [] H := by
  obtain ⟨k6, k3, k4, k5⟩ := hK
  have le2 := slE_le (B := h g_m_tape 0) (nm := nm) hpL
  have le3 := tkA_le (B := h g_m_tape 0) le2.2
  have le4 := tkE_le (B := h g_m_tape 0) le3.2
  have fle := tkF_le (h g_m_tape 0) L (lnA (h g_m_tape 0) L p nm)
  have vle := lnV_le (h g_m_tape 0) L p nm
  have eix : ixN (slS (h g_m_tape 0) L p nm) = s := by rw [hs]; exact ixN_nI (by omega)
  by_cases hf : tkF (h g_m_tape 0) L (lnA (h g_m_tape 0) L p nm) = 0
  · obtain ⟨m5, m7, m8⟩ := k5 hf
    rw [hf] at k3
    have hnb : nbM H (tLEAST.getD s 0) (tMOST.getD s 0) = lnV (h g_m_tape 0) L p nm := by unfold lnV; rw [eix]; exact nbM_eq hf m7 m8
    have eL : H g_m_leasts 0 s = tLEAST.getD s 0 := by rw [hM.1 g_m_leasts (by decide) (by decide)]; exact hT.2.2.2.1 s hs18
    have eM : H g_m_mosts 0 s = tMOST.getD s 0 := by rw [hM.1 g_m_mosts (by decide) (by decide)]; exact hT.2.2.2.2 s hs18
    by_cases hv : lnV (h g_m_tape 0) L p nm = 0
    · have hk2 : tkK (h g_m_tape 0) L (lnA (h g_m_tape 0) L p nm) = 2 := nbT_F0 hf hv
      have cle := tkF_le (h g_m_tape 0) L (lnC (h g_m_tape 0) L p nm)
      refine E_aload_n (pc := 79) 0 dX8_readLine_79 rfl rfl ?_
      refine E_getR0 (pc := 80) dX8_readLine_80 fl_RX8_31 rfl rfl ?_
      refine E_iload_n (pc := 83) 2 dX8_readLine_83 rfl rfl ?_
      refine E_aload_n (pc := 84) 0 dX8_readLine_84 rfl rfl ?_
      refine E_aload_n (pc := 85) 0 dX8_readLine_85 rfl rfl ?_
      refine E_getR0 (pc := 86) dX8_readLine_86 fl_RX8_22 rfl rfl ?_
      refine E_iload_n (pc := 89) 2 dX8_readLine_89 rfl rfl ?_
      refine E_iald (pc := 90) dX8_readLine_90 rfl (vp_in_nI (by omega) (by decide)) ?_
      refine E_aload_n (pc := 91) 0 dX8_readLine_91 rfl rfl ?_
      refine E_getR0 (pc := 92) dX8_readLine_92 fl_RX8_25 rfl rfl ?_
      refine E_iload_n (pc := 95) 2 dX8_readLine_95 rfl rfl ?_
      refine E_iald (pc := 96) dX8_readLine_96 rfl (vp_in_nI (by omega) (by decide)) ?_
      refine E_eq (st' := [vI (tMOST.getD s 0), vI (tLEAST.getD s 0), vR g_model 0, vI (nI s), vR g_m_reads 0]) rfl (by rw [ixN_nI (by omega), eL, eM]) rfl ?_
      refine E_callV1 (pc := 97) dX8_readLine_97 (C_num0 k3) rfl kv_RX8_122 rfl rfl rfl ⟨Nat.le_of_ble_eq_true rfl, Nat.le_of_ble_eq_true rfl, Nat.le_of_ble_eq_true rfl, Nat.le_of_ble_eq_true rfl⟩ (Nat.le_of_ble_eq_true rfl) ?_
      refine E_eq (st' := [vI (tkV (h g_m_tape 0) L (lnA (h g_m_tape 0) L p nm)), vI (nI s), vR g_m_reads 0]) rfl (by rw [hnb, if_pos hv, m8 (Or.inr hk2)]) (by rw [hnb, if_pos hv]) ?_
      refine E_iast (pc := 100) dX8_readLine_100 rfl (vp_in_nI (by omega) (by decide)) ?_
      refine E_heq (h' := hset H g_m_reads 0 s (tkV (h g_m_tape 0) L (lnA (h g_m_tape 0) L p nm))) (by rw [ixN_nI (by omega)]) ?_
      generalize hH1 : hset H g_m_reads 0 s (tkV (h g_m_tape 0) L (lnA (h g_m_tape 0) L p nm)) = H1
      have j1 : Mr h H1 := by rw [← hH1]; exact hM.rd
      have j3 : H1 g_model 0 3 = 0 := by rw [← hH1, hset_t (by decide)]; exact k3
      have j5 : H1 g_model 0 5 = nI (tkE (h g_m_tape 0) L (lnA (h g_m_tape 0) L p nm)) := by rw [← hH1, hset_t (by decide)]; exact m5
      have j16 : H1 g_model 0 16 = h g_model 0 16 ||| (1 <<< (slS (h g_m_tape 0) L p nm &&& 31)) := by rw [← hH1, hset_t (by decide)]; exact h16
      have jr : H1 g_m_reads 0 = upd (h g_m_reads 0) (ixN (slS (h g_m_tape 0) L p nm)) (tkV (h g_m_tape 0) L (lnA (h g_m_tape 0) L p nm)) := by rw [← hH1, hset_arr, hr, eix]
      refine E_aload_n (pc := 101) 0 dX8_readLine_101 rfl rfl ?_
      refine E_callV (pc := 102) dX8_readLine_102 (C_X8_next j3 j5 (by rw [j1.2 1 (by decide) (by decide)]; exact hL) hL2 le4.2 (j1.tb hT) (by rw [j1.tp]; exact hB)) rfl kv_RX8_119 rfl rfl rfl ⟨Nat.le_of_ble_eq_true rfl, Nat.le_of_ble_eq_true rfl, Nat.le_of_ble_eq_true rfl, Nat.le_of_ble_eq_true rfl⟩ (Nat.le_of_ble_eq_true rfl) ?_
      rintro _ H2 ⟨rfl, o⟩
      obtain ⟨o1, o2⟩ := o.s
      rw [j1.tp] at o2
      have r1 := j1.mo o1
      have eT := lnT_x hsl hv
      have eP := lnP_x (a0 := a0) hsl hv
      obtain ⟨p6, p3, p4, p5⟩ := o2
      replace p6 : H2 g_model 0 6 = nI (lnC (h g_m_tape 0) L p nm) := p6
      replace p3 : H2 g_model 0 3 = nI (tkF (h g_m_tape 0) L (lnC (h g_m_tape 0) L p nm)) := p3
      by_cases hf2 : tkF (h g_m_tape 0) L (lnC (h g_m_tape 0) L p nm) = 0
      · obtain ⟨q5, q7, -⟩ := p5 hf2
        replace q7 : H2 g_model 0 7 = nI (tkK (h g_m_tape 0) L (lnC (h g_m_tape 0) L p nm)) := q7
        have kle := tkK_le (h g_m_tape 0) L (lnC (h g_m_tape 0) L p nm)
        rw [hf2] at p3
        by_cases hk3 : tkK (h g_m_tape 0) L (lnC (h g_m_tape 0) L p nm) = 3
        · have eX : lnX (h g_m_tape 0) L p nm = 0 := (if_neg (not_not_intro hf2)).trans (if_pos hk3)
          rw [eX] at eT
          rw [hk3] at q7
          refine E_aload_n (pc := 105) 0 dX8_readLine_105 rfl rfl ?_
          refine E_getI (pc := 106) dX8_readLine_106 fl_RX8_75 rfl rfl ?_
          refine E_top p3 ?_
          refine E_if_ne (pc := 109) 125 dX8_readLine_109 rfl (fun q109 => absurd rfl q109) (fun q109 => ?_)
          refine E_aload_n (pc := 112) 0 dX8_readLine_112 rfl rfl ?_
          refine E_getI (pc := 113) dX8_readLine_113 fl_RX8_94 rfl rfl ?_
          refine E_top q7 ?_
          refine E_iconst (pc := 116) (3) dX8_readLine_116 (by decide) ?_
          refine E_icmp_eq (pc := 117) 125 dX8_readLine_117 rfl (fun q117 => ?_) (fun q117 => absurd (show nI 3 = 3 from rfl) q117)
          refine E_aload_n (pc := 125) 0 dX8_readLine_125 rfl rfl ?_
          refine E_callV (pc := 126) dX8_readLine_126 (C_X8_next p3 q5 (by rw [r1.2 1 (by decide) (by decide)]; exact hL) hL2 (tkE_le (B := h g_m_tape 0) (tkA_le (B := h g_m_tape 0) le4.2).2).2 (r1.tb hT) (by rw [r1.tp]; exact hB)) rfl kv_RX8_119 rfl rfl rfl ⟨Nat.le_of_ble_eq_true rfl, Nat.le_of_ble_eq_true rfl, Nat.le_of_ble_eq_true rfl, Nat.le_of_ble_eq_true rfl⟩ (Nat.le_of_ble_eq_true rfl) ?_
          rintro _ H3 ⟨rfl, u⟩
          obtain ⟨u1, u2⟩ := u.s
          rw [r1.tp] at u2
          refine E_vret (pc := 129) dX8_readLine_129 rfl ?_
          refine hQ _ ⟨r1.mo u1, fun z => absurd eT z, fun _ => ⟨?_, ?_, u2⟩⟩
          · rw [u1.2 16 (by decide), o1.2 16 (by decide)]; exact j16
          · rw [u1.1 g_m_reads (by decide), o1.1 g_m_reads (by decide)]; exact jr
        · have eX : lnX (h g_m_tape 0) L p nm = 2 := (if_neg (not_not_intro hf2)).trans (if_neg hk3)
          rw [eX] at eT
          refine E_aload_n (pc := 105) 0 dX8_readLine_105 rfl rfl ?_
          refine E_getI (pc := 106) dX8_readLine_106 fl_RX8_75 rfl rfl ?_
          refine E_top p3 ?_
          refine E_if_ne (pc := 109) 125 dX8_readLine_109 rfl (fun q109 => absurd rfl q109) (fun q109 => ?_)
          refine E_aload_n (pc := 112) 0 dX8_readLine_112 rfl rfl ?_
          refine E_getI (pc := 113) dX8_readLine_113 fl_RX8_94 rfl rfl ?_
          refine E_top q7 ?_
          refine E_iconst (pc := 116) (3) dX8_readLine_116 (by decide) ?_
          refine E_icmp_eq (pc := 117) 125 dX8_readLine_117 rfl (fun q117 => absurd ((nI_eq (b := 3) (by omega) (by decide)).mp q117) hk3) (fun q117 => ?_)
          refine E_aload_n (pc := 120) 0 dX8_readLine_120 rfl rfl ?_
          refine E_iconst (pc := 121) (2) dX8_readLine_121 (by decide) ?_
          refine E_callV0 (pc := 122) dX8_readLine_122 (C_fails0 p3) rfl kv_RX8_105 rfl rfl rfl ⟨Nat.le_of_ble_eq_true rfl, Nat.le_of_ble_eq_true rfl, Nat.le_of_ble_eq_true rfl, Nat.le_of_ble_eq_true rfl⟩ (Nat.le_of_ble_eq_true rfl) ?_
          refine rl_bad125 (H := flH H2 2) (by rw [flH_3]; decide) (hQ _ (LnM.bad r1.fl eT eP (by decide) (flH_3 _ _) (by rw [flH_4]; exact p6)))
      · have eX : lnX (h g_m_tape 0) L p nm = tkF (h g_m_tape 0) L (lnC (h g_m_tape 0) L p nm) := if_pos hf2
        rw [eX] at eT
        refine E_aload_n (pc := 105) 0 dX8_readLine_105 rfl rfl ?_
        refine E_getI (pc := 106) dX8_readLine_106 fl_RX8_75 rfl rfl ?_
        refine E_top p3 ?_
        refine E_if_ne (pc := 109) 125 dX8_readLine_109 rfl (fun q109 => ?_) (fun q109 => absurd q109 (nI_n0 hf2 (by omega)))
        refine rl_bad125 (by rw [p3]; exact nI_w hf2 (by omega)) (hQ _ (LnM.bad r1 eT eP hf2 p3 (p4 hf2)))
    · refine E_aload_n (pc := 79) 0 dX8_readLine_79 rfl rfl ?_
      refine E_getR0 (pc := 80) dX8_readLine_80 fl_RX8_31 rfl rfl ?_
      refine E_iload_n (pc := 83) 2 dX8_readLine_83 rfl rfl ?_
      refine E_aload_n (pc := 84) 0 dX8_readLine_84 rfl rfl ?_
      refine E_aload_n (pc := 85) 0 dX8_readLine_85 rfl rfl ?_
      refine E_getR0 (pc := 86) dX8_readLine_86 fl_RX8_22 rfl rfl ?_
      refine E_iload_n (pc := 89) 2 dX8_readLine_89 rfl rfl ?_
      refine E_iald (pc := 90) dX8_readLine_90 rfl (vp_in_nI (by omega) (by decide)) ?_
      refine E_aload_n (pc := 91) 0 dX8_readLine_91 rfl rfl ?_
      refine E_getR0 (pc := 92) dX8_readLine_92 fl_RX8_25 rfl rfl ?_
      refine E_iload_n (pc := 95) 2 dX8_readLine_95 rfl rfl ?_
      refine E_iald (pc := 96) dX8_readLine_96 rfl (vp_in_nI (by omega) (by decide)) ?_
      refine E_eq (st' := [vI (tMOST.getD s 0), vI (tLEAST.getD s 0), vR g_model 0, vI (nI s), vR g_m_reads 0]) rfl (by rw [ixN_nI (by omega), eL, eM]) rfl ?_
      refine E_callV1 (pc := 97) dX8_readLine_97 (C_num0 k3) rfl kv_RX8_122 rfl rfl rfl ⟨Nat.le_of_ble_eq_true rfl, Nat.le_of_ble_eq_true rfl, Nat.le_of_ble_eq_true rfl, Nat.le_of_ble_eq_true rfl⟩ (Nat.le_of_ble_eq_true rfl) ?_
      refine E_iast (pc := 100) dX8_readLine_100 rfl (vp_in_nI (by omega) (by decide)) ?_
      refine E_heq (h' := hset (flH H (lnV (h g_m_tape 0) L p nm)) g_m_reads 0 s (tLEAST.getD s 0)) (by rw [hnb, if_neg hv, if_neg hv, ixN_nI (by omega)]) ?_
      refine rl_bad101 (by rw [hset_t (by decide), flH_3]; exact nI_w hv (by omega)) (hQ _ (LnM.bad hM.fl.rd (lnT_v hsl hv) (lnP_v hsl hv) hv (by rw [hset_t (by decide)]; exact flH_3 _ _) (by rw [hset_t (by decide), flH_4]; exact k6)))
  · have hv : lnV (h g_m_tape 0) L p nm = tkF (h g_m_tape 0) L (lnA (h g_m_tape 0) L p nm) := nbT_F hf
    have hv0 : ¬ lnV (h g_m_tape 0) L p nm = 0 := by rw [hv]; exact hf
    exact rl_bad79 hs18 (by rw [k3]; exact nI_w hf (by omega)) (fun v => hQ _ (LnM.bad hM.rd (lnT_v hsl hv0) (lnP_v hsl hv0) hv0 (by rw [hset_t (by decide), k3, hv]) (by rw [hset_t (by decide)]; exact k4 hf)))
