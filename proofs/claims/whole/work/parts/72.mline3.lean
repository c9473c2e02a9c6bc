/-! the model: a line, its rule -/
theorem lnT_s {B : Nat → Int32} {L p nm : Nat} {told : Int32} (hs : ¬ slT B L p nm told = 0) : lnT B L p nm told = slT B L p nm told := if_pos hs
theorem lnP_s {B : Nat → Int32} {L a0 p nm : Nat} {told : Int32} (hs : ¬ slT B L p nm told = 0) : lnP B L a0 p nm told = slP B L a0 p nm := if_pos hs
theorem slT_b {B : Nat → Int32} {L p nm : Nat} {told : Int32} (hs : ¬ slB B L p nm = 0) : slT B L p nm told = slB B L p nm := if_pos hs
theorem slT_o {B : Nat → Int32} {L p nm : Nat} {told : Int32} (hs : slB B L p nm = 0) (hb : told &&& (1 <<< (slS B L p nm &&& 31)) = 0) : slT B L p nm told = 0 := (if_neg (not_not_intro hs)).trans (if_pos hb)
theorem slT_4 {B : Nat → Int32} {L p nm : Nat} {told : Int32} (hs : slB B L p nm = 0) (hb : ¬ told &&& (1 <<< (slS B L p nm &&& 31)) = 0) : slT B L p nm told = 4 := (if_neg (not_not_intro hs)).trans (if_neg hb)
set_option maxHeartbeats 4000000 in
theorem rl_num {l : Launch} {G : GE} {h H : Hp} {Q : QT} {a0 p nm L : Nat} {hi : Int32} (hL : h g_model 0 1 = nI L) (hL2 : L ≤ 200) (hT : MTb h) (hB : byR (h g_m_tape 0)) (hpL : p ≤ L) (hnm : nm < 2) (hhi : hi ≤ 3) (hsB : slB (h g_m_tape 0) L p nm = nbT (h g_m_tape 0) L p 0 hi) (hsS : slS (h g_m_tape 0) L p nm = nI (4 * nm) + tkV (h g_m_tape 0) L (tkA (h g_m_tape 0) L p)) (hM : Mo h H) (hK : TkS (h g_m_tape 0) H L (tkA (h g_m_tape 0) L p)) (hQ : ∀ h', LnM h h' L a0 p nm → Q none h') : Ev l G mX8_readLine (fkM G mX8_readLine Q) 65 [some (vR g_model 0), some (vI (nI nm)), some (vI (nI (4 * nm)))] [vI hi, vI 0, vR g_model 0, vI (nI (4 * nm))] H := by
  obtain ⟨k6, k3, k4, k5⟩ := hK
  have hR : Mr h H := Mr.rfl.mo hM
  have le3 := tkA_le (B := h g_m_tape 0) hpL
  have le4 := tkE_le (B := h g_m_tape 0) le3.2
  have fle := tkF_le (h g_m_tape 0) L (tkA (h g_m_tape 0) L p)
  have ble := slB_le (h g_m_tape 0) L p nm
  have eP : slP (h g_m_tape 0) L a0 p nm = tkA (h g_m_tape 0) L p := if_pos hnm
  have eE : slE (h g_m_tape 0) L p nm = tkE (h g_m_tape 0) L (tkA (h g_m_tape 0) L p) := if_pos hnm
  have h16 : H g_model 0 16 = h g_model 0 16 := hM.2 16 (by decide)
  have badT : ∀ h', ¬ slB (h g_m_tape 0) L p nm = 0 → Mr h h' → h' g_model 0 3 = nI (slB (h g_m_tape 0) L p nm) → h' g_model 0 4 = nI (tkA (h g_m_tape 0) L p) → Q none h' := fun h' z r r3 r4 => by
    have e := slT_b (told := h g_model 0 16) z
    have e0 : ¬ slT (h g_m_tape 0) L p nm (h g_model 0 16) = 0 := by rw [e]; exact z
    exact hQ _ (LnM.bad r (lnT_s e0) (lnP_s e0) e0 (by rw [e]; exact r3) (by rw [eP]; exact r4))
  by_cases hf : tkF (h g_m_tape 0) L (tkA (h g_m_tape 0) L p) = 0
  · obtain ⟨m5, m7, m8⟩ := k5 hf
    rw [hf] at k3
    have hnb : nbM H 0 hi = slB (h g_m_tape 0) L p nm := by rw [hsB]; exact nbM_eq hf m7 m8
    by_cases hv : slB (h g_m_tape 0) L p nm = 0
    · have hk2 := nbT_F0 hf (hsB.symm.trans hv)
      obtain ⟨b1, b2⟩ := nbT_0 (hsB.symm.trans hv)
      obtain ⟨v, hv3, ev⟩ := natof 3 (by decide) b1 (Int32.le_trans b2 hhi)
      have hs : slS (h g_m_tape 0) L p nm = nI (4 * nm + v) := by rw [hsS, ev, nI_add]
      refine E_callV1 (pc := 65) dX8_readLine_65 (C_num0 k3) rfl kv_RX8_122 rfl rfl rfl ⟨Nat.le_of_ble_eq_true rfl, Nat.le_of_ble_eq_true rfl, Nat.le_of_ble_eq_true rfl, Nat.le_of_ble_eq_true rfl⟩ (Nat.le_of_ble_eq_true rfl) ?_
      refine E_eq (st' := [vI (nI v), vI (nI (4 * nm))]) rfl (by rw [hnb, if_pos hv, m8 (Or.inr hk2), ev]) (by rw [hnb, if_pos hv]) ?_
      refine E_iadd (pc := 68) dX8_readLine_68 ?_
      refine E_top (y := nI (4 * nm + v)) (nI_add _ _) ?_
      refine E_istore_n (pc := 69) 2 dX8_readLine_69 rfl (Nat.le_of_ble_eq_true rfl) rfl (lz := [_, _, _]) rfl ?_
      refine E_aload_n (pc := 70) 0 dX8_readLine_70 rfl rfl ?_
      refine E_iload_n (pc := 71) 2 dX8_readLine_71 rfl rfl ?_
      refine E_callV0 (pc := 72) dX8_readLine_72 (C_told0 (by omega) k3) rfl kv_RX8_116 rfl rfl rfl ⟨Nat.le_of_ble_eq_true rfl, Nat.le_of_ble_eq_true rfl, Nat.le_of_ble_eq_true rfl, Nat.le_of_ble_eq_true rfl⟩ (Nat.le_of_ble_eq_true rfl) ?_
      rw [h16]
      by_cases hb : h g_model 0 16 &&& (1 <<< (nI (4 * nm + v) &&& 31)) = 0
      · rw [if_pos hb]
        rw [← hs] at hb
        have sl0 := slT_o hv hb
        refine E_aload_n (pc := 75) 0 dX8_readLine_75 rfl rfl ?_
        refine E_callV (pc := 76) dX8_readLine_76 (C_X8_next (by rw [hset_k (by decide)]; exact k3) (by rw [hset_k (by decide)]; exact m5) (by rw [hset_k (by decide), hM.2 1 (by decide)]; exact hL) hL2 le4.2 ((hR.put (Or.inr rfl)).tb hT) (by rw [(hR.put (Or.inr rfl)).tp]; exact hB)) rfl kv_RX8_119 rfl rfl rfl ⟨Nat.le_of_ble_eq_true rfl, Nat.le_of_ble_eq_true rfl, Nat.le_of_ble_eq_true rfl, Nat.le_of_ble_eq_true rfl⟩ (Nat.le_of_ble_eq_true rfl) ?_
        rintro _ H2 ⟨rfl, o⟩
        obtain ⟨o1, o2⟩ := o.s
        rw [(hR.put (Or.inr rfl)).tp] at o2
        exact rl_val hL hL2 hT hB hpL sl0 hs (by omega) ((hR.put (Or.inr rfl)).mo o1) (by rw [o1.1 g_m_reads (by decide), hset_t (by decide), hM.1 g_m_reads (by decide)]) (by rw [o1.2 16 (by decide), hset_eq, hs]) (by unfold lnA; rw [eE]; exact o2) hQ
      · rw [if_neg hb]
        rw [← hs] at hb
        have sl4 := slT_4 hv hb
        have sl0 : ¬ slT (h g_m_tape 0) L p nm (h g_model 0 16) = 0 := by rw [sl4]; decide
        refine E_aload_n (pc := 75) 0 dX8_readLine_75 rfl rfl ?_
        refine E_callV0 (pc := 76) dX8_readLine_76 (C_nextW (by rw [flH_3]; decide)) rfl kv_RX8_119 rfl rfl rfl ⟨Nat.le_of_ble_eq_true rfl, Nat.le_of_ble_eq_true rfl, Nat.le_of_ble_eq_true rfl, Nat.le_of_ble_eq_true rfl⟩ (Nat.le_of_ble_eq_true rfl) ?_
        exact rl_bad79 (by omega) (by rw [flH_3]; decide) (fun v => hQ _ (LnM.bad hR.fl.rd (lnT_s sl0) (lnP_s sl0) sl0 (by rw [hset_t (by decide), flH_3, sl4]) (by rw [hset_t (by decide), flH_4, eP]; exact k6)))
    · refine E_callV1 (pc := 65) dX8_readLine_65 (C_num0 k3) rfl kv_RX8_122 rfl rfl rfl ⟨Nat.le_of_ble_eq_true rfl, Nat.le_of_ble_eq_true rfl, Nat.le_of_ble_eq_true rfl, Nat.le_of_ble_eq_true rfl⟩ (Nat.le_of_ble_eq_true rfl) ?_
      refine E_eq (st' := [vI 0, vI (nI (4 * nm))]) (h' := flH H (slB (h g_m_tape 0) L p nm)) rfl (by rw [hnb, if_neg hv]) (by rw [hnb, if_neg hv]) ?_
      refine E_iadd (pc := 68) dX8_readLine_68 ?_
      refine E_top (y := nI (4 * nm)) (Int32.add_zero _) ?_
      refine E_istore_n (pc := 69) 2 dX8_readLine_69 rfl (Nat.le_of_ble_eq_true rfl) rfl (lz := [_, _, _]) rfl ?_
      refine E_aload_n (pc := 70) 0 dX8_readLine_70 rfl rfl ?_
      refine E_iload_n (pc := 71) 2 dX8_readLine_71 rfl rfl ?_
      refine E_callV0 (pc := 72) dX8_readLine_72 (C_toldW (by rw [flH_3]; exact nI_n0 hv (by omega))) rfl kv_RX8_116 rfl rfl rfl ⟨Nat.le_of_ble_eq_true rfl, Nat.le_of_ble_eq_true rfl, Nat.le_of_ble_eq_true rfl, Nat.le_of_ble_eq_true rfl⟩ (Nat.le_of_ble_eq_true rfl) ?_
      refine E_aload_n (pc := 75) 0 dX8_readLine_75 rfl rfl ?_
      refine E_callV0 (pc := 76) dX8_readLine_76 (C_nextW (by rw [flH_3]; exact nI_w hv (by omega))) rfl kv_RX8_119 rfl rfl rfl ⟨Nat.le_of_ble_eq_true rfl, Nat.le_of_ble_eq_true rfl, Nat.le_of_ble_eq_true rfl, Nat.le_of_ble_eq_true rfl⟩ (Nat.le_of_ble_eq_true rfl) ?_
      exact rl_bad79 (by omega) (by rw [flH_3]; exact nI_w hv (by omega)) (fun v => badT _ hv hR.fl.rd (by rw [hset_t (by decide), flH_3]) (by rw [hset_t (by decide), flH_4]; exact k6))
  · have eB : slB (h g_m_tape 0) L p nm = tkF (h g_m_tape 0) L (tkA (h g_m_tape 0) L p) := by rw [hsB]; exact nbT_F hf
    have hv : ¬ slB (h g_m_tape 0) L p nm = 0 := by rw [eB]; exact hf
    rw [← eB] at k3
    refine E_callV1 (pc := 65) dX8_readLine_65 (C_numW (by rw [k3]; exact nI_n0 hv (by omega))) rfl kv_RX8_122 rfl rfl rfl ⟨Nat.le_of_ble_eq_true rfl, Nat.le_of_ble_eq_true rfl, Nat.le_of_ble_eq_true rfl, Nat.le_of_ble_eq_true rfl⟩ (Nat.le_of_ble_eq_true rfl) ?_
    refine E_iadd (pc := 68) dX8_readLine_68 ?_
    refine E_top (y := nI (4 * nm)) (Int32.add_zero _) ?_
    refine E_istore_n (pc := 69) 2 dX8_readLine_69 rfl (Nat.le_of_ble_eq_true rfl) rfl (lz := [_, _, _]) rfl ?_
    refine E_aload_n (pc := 70) 0 dX8_readLine_70 rfl rfl ?_
    refine E_iload_n (pc := 71) 2 dX8_readLine_71 rfl rfl ?_
    refine E_callV0 (pc := 72) dX8_readLine_72 (C_toldW (by rw [k3]; exact nI_n0 hv (by omega))) rfl kv_RX8_116 rfl rfl rfl ⟨Nat.le_of_ble_eq_true rfl, Nat.le_of_ble_eq_true rfl, Nat.le_of_ble_eq_true rfl, Nat.le_of_ble_eq_true rfl⟩ (Nat.le_of_ble_eq_true rfl) ?_
    refine E_aload_n (pc := 75) 0 dX8_readLine_75 rfl rfl ?_
    refine E_callV0 (pc := 76) dX8_readLine_76 (C_nextW (by rw [k3]; exact nI_w hv (by omega))) rfl kv_RX8_119 rfl rfl rfl ⟨Nat.le_of_ble_eq_true rfl, Nat.le_of_ble_eq_true rfl, Nat.le_of_ble_eq_true rfl, Nat.le_of_ble_eq_true rfl⟩ (Nat.le_of_ble_eq_true rfl) ?_
    exact rl_bad79 (by omega) (by rw [k3]; exact nI_w hv (by omega)) (fun v => badT _ hv hR.rd (by rw [hset_t (by decide)]; exact k3) (by rw [hset_t (by decide)]; exact k4 hf))
set_option maxHeartbeats 4000000 in
theorem C_X8_readLine {l : Launch} {G : GE} {h : Hp} {a0 p nm L : Nat} (h3 : h g_model 0 3 = 0) (h5 : h g_model 0 5 = nI p) (h6 : h g_model 0 6 = nI a0) (h7 : h g_model 0 7 = 1) (h8 : h g_model 0 8 = nI nm) (hnm : nm < 13) (hL : h g_model 0 1 = nI L) (hL2 : L ≤ 200) (hpL : p ≤ L) (hT : MTb h) (hB : byR (h g_m_tape 0)) : CT l G mX8_readLine [vR g_model 0] h (fun r h' => r = none ∧ LnM h h' L a0 p nm) := by
  refine CT.of (lv := [_, _, _]) (by decide +kernel) (Nat.le_of_ble_eq_true rfl) rfl ?_
  refine E_aload_n (pc := 0) 0 dX8_readLine_0 rfl rfl ?_
  refine E_getI (pc := 1) dX8_readLine_1 fl_RX8_91 rfl rfl ?_
  refine E_top h8 ?_
  refine E_istore_n (pc := 4) 1 dX8_readLine_4 rfl (Nat.le_of_ble_eq_true rfl) rfl (lz := [_, _, _]) rfl ?_
  refine E_aload_n (pc := 5) 0 dX8_readLine_5 rfl rfl ?_
  refine E_getI (pc := 6) dX8_readLine_6 fl_RX8_94 rfl rfl ?_
  refine E_top h7 ?_
  refine E_iconst (pc := 9) (1) dX8_readLine_9 (by decide) ?_
  refine E_icmp_eq (pc := 10) 19 dX8_readLine_10 rfl (fun q10 => ?_) (fun q10 => absurd rfl q10)
  by_cases h2 : nm < 2
  · have e0 : 4 * nI nm = nI (4 * nm) := by rw [show (4 : Int32) = nI 4 from rfl, pk_mul]
    refine E_iload_n (pc := 19) 1 dX8_readLine_19 rfl rfl ?_
    refine E_iconst (pc := 20) (2) dX8_readLine_20 (by decide) ?_
    refine E_icmp_ge (pc := 21) 30 dX8_readLine_21 rfl (fun q21 => absurd q21 (nI_ge (b := 2) h2 (by decide))) (fun q21 => ?_)
    refine E_iconst (pc := 24) (4) dX8_readLine_24 (by decide) ?_
    refine E_iload_n (pc := 25) 1 dX8_readLine_25 rfl rfl ?_
    refine E_imul (pc := 26) dX8_readLine_26 ?_
    refine E_goto (pc := 27) 33 dX8_readLine_27 rfl ?_
    refine E_top e0 ?_
    refine E_istore_n (pc := 33) 2 dX8_readLine_33 rfl (Nat.le_of_ble_eq_true rfl) rfl (lz := [_, _, _]) rfl ?_
    refine E_iload_n (pc := 34) 1 dX8_readLine_34 rfl rfl ?_
    refine E_iconst (pc := 35) (1) dX8_readLine_35 (by decide) ?_
    refine E_icmp_le (pc := 36) 44 dX8_readLine_36 rfl (fun q36 => ?_) (fun q36 => absurd (nI_le (b := 1) (by omega) (by decide)) q36)
    refine E_aload_n (pc := 44) 0 dX8_readLine_44 rfl rfl ?_
    refine E_callV (pc := 45) dX8_readLine_45 (C_X8_next h3 h5 hL hL2 hpL hT hB) rfl kv_RX8_119 rfl rfl rfl ⟨Nat.le_of_ble_eq_true rfl, Nat.le_of_ble_eq_true rfl, Nat.le_of_ble_eq_true rfl, Nat.le_of_ble_eq_true rfl⟩ (Nat.le_of_ble_eq_true rfl) ?_
    rintro _ H1 ⟨rfl, o⟩
    obtain ⟨o1, o2⟩ := o.s
    refine E_iload_n (pc := 48) 1 dX8_readLine_48 rfl rfl ?_
    refine E_iconst (pc := 49) (2) dX8_readLine_49 (by decide) ?_
    refine E_icmp_ge (pc := 50) 79 dX8_readLine_50 rfl (fun q50 => absurd q50 (nI_ge (b := 2) h2 (by decide))) (fun q50 => ?_)
    refine E_iload_n (pc := 53) 2 dX8_readLine_53 rfl rfl ?_
    refine E_aload_n (pc := 54) 0 dX8_readLine_54 rfl rfl ?_
    refine E_iconst (pc := 55) (0) dX8_readLine_55 (by decide) ?_
    refine E_iload_n (pc := 56) 1 dX8_readLine_56 rfl rfl ?_
    refine E_if_ne (pc := 57) 64 dX8_readLine_57 rfl (fun q57 => ?_) (fun q57 => ?_)
    · have hz : ¬ nm = 0 := fun z => q57 (by rw [z]; rfl)
      have ho : nm = 1 := by omega
      refine E_iconst (pc := 64) (2) dX8_readLine_64 (by decide) ?_
      first | exact rl_num hL hL2 hT hB hpL h2 (by decide) (if_pos hz) (by unfold slS; rw [if_pos hz, hz]; exact (Int32.zero_add _).symm) o1 o2 (fun h' z => ⟨rfl, z⟩) | exact rl_num hL hL2 hT hB hpL h2 (by decide) ((if_neg hz).trans (if_pos ho)) (by unfold slS; rw [if_neg hz, if_pos ho, ho]; rfl) o1 o2 (fun h' z => ⟨rfl, z⟩)
    · have hz : nm = 0 := (nI_eq (b := 0) (by omega) (by decide)).mp q57
      refine E_iconst (pc := 60) (3) dX8_readLine_60 (by decide) ?_
      refine E_goto (pc := 61) 65 dX8_readLine_61 rfl ?_
      first | exact rl_num hL hL2 hT hB hpL h2 (by decide) (if_pos hz) (by unfold slS; rw [if_pos hz, hz]; exact (Int32.zero_add _).symm) o1 o2 (fun h' z => ⟨rfl, z⟩) | exact rl_num hL hL2 hT hB hpL h2 (by decide) ((if_neg hz).trans (if_pos ho)) (by unfold slS; rw [if_neg hz, if_pos ho, ho]; rfl) o1 o2 (fun h' z => ⟨rfl, z⟩)
  · have e0 : nI nm + 5 = nI (nm + 5) := by rw [show (5 : Int32) = nI 5 from rfl, nI_add]
    have n0 : ¬ nm = 0 := by omega
    have n1 : ¬ nm = 1 := by omega
    have hs : slS (h g_m_tape 0) L p nm = nI (nm + 5) := (if_neg n0).trans ((if_neg n1).trans e0)
    have hsB : slB (h g_m_tape 0) L p nm = 0 := (if_neg n0).trans (if_neg n1)
    have eP : slP (h g_m_tape 0) L a0 p nm = a0 := if_neg h2
    have eE : slE (h g_m_tape 0) L p nm = p := if_neg h2
    refine E_iload_n (pc := 19) 1 dX8_readLine_19 rfl rfl ?_
    refine E_iconst (pc := 20) (2) dX8_readLine_20 (by decide) ?_
    refine E_icmp_ge (pc := 21) 30 dX8_readLine_21 rfl (fun q21 => ?_) (fun q21 => absurd (nI_le (a := 2) (by omega) (by omega)) q21)
    refine E_iload_n (pc := 30) 1 dX8_readLine_30 rfl rfl ?_
    refine E_iconst (pc := 31) (5) dX8_readLine_31 (by decide) ?_
    refine E_iadd (pc := 32) dX8_readLine_32 ?_
    refine E_top e0 ?_
    refine E_istore_n (pc := 33) 2 dX8_readLine_33 rfl (Nat.le_of_ble_eq_true rfl) rfl (lz := [_, _, _]) rfl ?_
    refine E_iload_n (pc := 34) 1 dX8_readLine_34 rfl rfl ?_
    refine E_iconst (pc := 35) (1) dX8_readLine_35 (by decide) ?_
    refine E_icmp_le (pc := 36) 44 dX8_readLine_36 rfl (fun q36 => absurd ((nI_leI (b := 1) (by omega) (by decide)).mp q36) (by omega)) (fun q36 => ?_)
    refine E_aload_n (pc := 39) 0 dX8_readLine_39 rfl rfl ?_
    refine E_iload_n (pc := 40) 2 dX8_readLine_40 rfl rfl ?_
    refine E_callV0 (pc := 41) dX8_readLine_41 (C_told0 (by omega) h3) rfl kv_RX8_116 rfl rfl rfl ⟨Nat.le_of_ble_eq_true rfl, Nat.le_of_ble_eq_true rfl, Nat.le_of_ble_eq_true rfl, Nat.le_of_ble_eq_true rfl⟩ (Nat.le_of_ble_eq_true rfl) ?_
    by_cases hb : h g_model 0 16 &&& (1 <<< (nI (nm + 5) &&& 31)) = 0
    · rw [if_pos hb]
      rw [← hs] at hb
      have sl0 := slT_o hsB hb
      refine E_aload_n (pc := 44) 0 dX8_readLine_44 rfl rfl ?_
      refine E_callV (pc := 45) dX8_readLine_45 (C_X8_next (by rw [hset_k (by decide)]; exact h3) (by rw [hset_k (by decide)]; exact h5) (by rw [hset_k (by decide)]; exact hL) hL2 hpL ((Mr.rfl.put (Or.inr rfl)).tb hT) (by rw [hset_t (by decide)]; exact hB)) rfl kv_RX8_119 rfl rfl rfl ⟨Nat.le_of_ble_eq_true rfl, Nat.le_of_ble_eq_true rfl, Nat.le_of_ble_eq_true rfl, Nat.le_of_ble_eq_true rfl⟩ (Nat.le_of_ble_eq_true rfl) ?_
      rintro _ H2 ⟨rfl, o⟩
      obtain ⟨o1, o2⟩ := o.s
      rw [hset_t (by decide)] at o2
      refine E_iload_n (pc := 48) 1 dX8_readLine_48 rfl rfl ?_
      refine E_iconst (pc := 49) (2) dX8_readLine_49 (by decide) ?_
      refine E_icmp_ge (pc := 50) 79 dX8_readLine_50 rfl (fun q50 => ?_) (fun q50 => absurd (nI_le (a := 2) (by omega) (by omega)) q50)
      exact rl_val hL hL2 hT hB hpL sl0 hs (by omega) ((Mr.rfl.put (Or.inr rfl)).mo o1) (by rw [o1.1 g_m_reads (by decide), hset_t (by decide)]) (by rw [o1.2 16 (by decide), hset_eq, hs]) (by unfold lnA; rw [eE]; exact o2) (fun h' z => ⟨rfl, z⟩)
    · rw [if_neg hb]
      rw [← hs] at hb
      have sl4 := slT_4 hsB hb
      have sl0 : ¬ slT (h g_m_tape 0) L p nm (h g_model 0 16) = 0 := by rw [sl4]; decide
      refine E_aload_n (pc := 44) 0 dX8_readLine_44 rfl rfl ?_
      refine E_callV0 (pc := 45) dX8_readLine_45 (C_nextW (by rw [flH_3]; decide)) rfl kv_RX8_119 rfl rfl rfl ⟨Nat.le_of_ble_eq_true rfl, Nat.le_of_ble_eq_true rfl, Nat.le_of_ble_eq_true rfl, Nat.le_of_ble_eq_true rfl⟩ (Nat.le_of_ble_eq_true rfl) ?_
      refine E_iload_n (pc := 48) 1 dX8_readLine_48 rfl rfl ?_
      refine E_iconst (pc := 49) (2) dX8_readLine_49 (by decide) ?_
      refine E_icmp_ge (pc := 50) 79 dX8_readLine_50 rfl (fun q50 => ?_) (fun q50 => absurd (nI_le (a := 2) (by omega) (by omega)) q50)
      exact rl_bad79 (by omega) (by rw [flH_3]; decide) (fun v => ⟨rfl, LnM.bad Mr.rfl.fl.rd (lnT_s sl0) (lnP_s sl0) sl0 (by rw [hset_t (by decide), flH_3, sl4]) (by rw [hset_t (by decide), flH_4, eP]; exact h6)⟩)
set_option maxHeartbeats 1600000 in
theorem C_mlineBad {l : Launch} {G : GE} {h : Hp} (h3 : h g_model 0 3 = 0) (h7 : ¬ h g_model 0 7 = 1) : CT l G mX8_readLine [vR g_model 0] h (fun r h' => r = none ∧ h' = flH h 2) := by
  refine CT.of (lv := [_, _, _]) (by decide +kernel) (Nat.le_of_ble_eq_true rfl) rfl ?_
  refine E_aload_n (pc := 0) 0 dX8_readLine_0 rfl rfl ?_
  refine E_getI (pc := 1) dX8_readLine_1 fl_RX8_91 rfl rfl ?_
  refine E_istore_n (pc := 4) 1 dX8_readLine_4 rfl (Nat.le_of_ble_eq_true rfl) rfl (lz := [_, _, _]) rfl ?_
  refine E_aload_n (pc := 5) 0 dX8_readLine_5 rfl rfl ?_
  refine E_getI (pc := 6) dX8_readLine_6 fl_RX8_94 rfl rfl ?_
  refine E_iconst (pc := 9) (1) dX8_readLine_9 (by decide) ?_
  refine E_icmp_eq (pc := 10) 19 dX8_readLine_10 rfl (fun q10 => absurd q10 h7) (fun q10 => ?_)
  refine E_aload_n (pc := 13) 0 dX8_readLine_13 rfl rfl ?_
  refine E_iconst (pc := 14) (2) dX8_readLine_14 (by decide) ?_
  refine E_callV0 (pc := 15) dX8_readLine_15 (C_fails0 h3) rfl kv_RX8_105 rfl rfl rfl ⟨Nat.le_of_ble_eq_true rfl, Nat.le_of_ble_eq_true rfl, Nat.le_of_ble_eq_true rfl, Nat.le_of_ble_eq_true rfl⟩ (Nat.le_of_ble_eq_true rfl) ?_
  refine E_vret (pc := 18) dX8_readLine_18 rfl ?_
  first | exact ⟨rfl, rfl⟩ | exact ⟨by grind [bi], rfl⟩
