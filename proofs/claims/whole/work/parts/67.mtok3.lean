/-! the model: next -/
/-- only what the reading of a text writes differs -/
def Mo (h h' : Hp) : Prop := (∀ x, x ≠ g_model → h' x = h x) ∧ ∀ k, ¬ (3 ≤ k ∧ k ≤ 8) → h' g_model 0 k = h g_model 0 k
theorem Mo.rfl {h : Hp} : Mo h h := ⟨fun _ _ => Eq.refl _, fun _ _ => Eq.refl _⟩
theorem Mo.put {h h2 : Hp} (r : Mo h h2) {k : Nat} {v : Int32} (hk : 3 ≤ k ∧ k ≤ 8) : Mo h (hset h2 g_model 0 k v) := ⟨fun x hx => by rw [hset_t hx]; exact r.1 x hx, fun j hj => by rw [hset_k (b := j) (k := k) (by omega)]; exact r.2 j hj⟩
def TkN (h h' : Hp) (L a : Nat) : Prop := Mo h h' ∧ h' g_model 0 6 = nI a ∧ h' g_model 0 3 = nI (tkF (h g_m_tape 0) L a) ∧ (¬ tkF (h g_m_tape 0) L a = 0 → h' g_model 0 4 = nI a) ∧ (tkF (h g_m_tape 0) L a = 0 → h' g_model 0 5 = nI (tkE (h g_m_tape 0) L a) ∧ h' g_model 0 7 = nI (tkK (h g_m_tape 0) L a) ∧ (tkK (h g_m_tape 0) L a = 1 ∨ tkK (h g_m_tape 0) L a = 2 → h' g_model 0 8 = tkV (h g_m_tape 0) L a))
/-- within next: at place s of the token that begins at a -/
def NxI (h H : Hp) (a s : Nat) : Prop := Mo h H ∧ H g_model 0 6 = nI a ∧ H g_model 0 3 = 0 ∧ H g_model 0 5 = nI s
theorem rnF_all {P : Int32 → Prop} [DecidablePred P] {B : Nat → Int32} : ∀ n p j, p ≤ j → j < rnF P B n p → P (B j)
  | 0, p, j, h1, h2 => by have h2 : j < p := h2; omega
  | n + 1, p, j, h1, h2 => by
    by_cases h : P (B p)
    · rw [rnF_go h] at h2
      by_cases e : j = p
      · rw [e]; exact h
      · exact rnF_all n (p + 1) j (by omega) h2
    · rw [rnF_no h] at h2; omega
set_option maxHeartbeats 1600000 in
theorem next_name {l : Launch} {G : GE} {h H : Hp} {Q : QT} {a E L : Nat} {c : Int32} (hL : h g_model 0 1 = nI L) (hL2 : L ≤ 200) (ha : a < L) (hlt : isLt (h g_m_tape 0 a)) (hE : rnF isLt (h g_m_tape 0) (L - a) a = E) (hT : MTb h) (hN : NxI h H a E) (hQ : ∀ h', TkN h h' L a → Q none h') : Ev l G mX8_next (fkM G mX8_next Q) 118 [some (vR g_model 0), some (vI c)] [] H := by
  obtain ⟨n1, n2, n3, n4⟩ := hN
  have hE2 := rnF_le isLt (h g_m_tape 0) (L - a) a
  rw [hE] at hE2
  have hT2 : MTb H := by unfold MTb; rw [n1.1 g_m_cuts (by decide), n1.1 g_m_letters (by decide), n1.1 g_m_plain (by decide), n1.1 g_m_leasts (by decide), n1.1 g_m_mosts (by decide)]; exact hT
  have hB : ∀ j, a ≤ j → j < E → ¬ h g_m_tape 0 j = 32 := fun j h1 h2 z => by have := rnF_all (P := isLt) (B := h g_m_tape 0) (L - a) a j h1 (by rw [hE]; exact h2); rw [z] at this; exact absurd this (by decide)
  have eB : H g_m_tape 0 = h g_m_tape 0 := by rw [n1.1 g_m_tape (by decide)]
  have hLa : ¬ L ≤ a := by omega
  have k1 : tkK (h g_m_tape 0) L a = 1 := (if_neg hLa).trans (if_pos hlt)
  have k2 : tkE (h g_m_tape 0) L a = E := (if_neg hLa).trans ((if_pos hlt).trans hE)
  have k3 : tkV (h g_m_tape 0) L a = nI (nmF (h g_m_tape 0) a E 13 0) := by unfold tkV; rw [if_pos hlt, hE]
  have k0 : tkF (h g_m_tape 0) L a = if nmF (h g_m_tape 0) a E 13 0 = 13 then 1 else 0 := by unfold tkF; rw [if_neg hLa, if_pos hlt, hE]
  have hle := nmF_le (h g_m_tape 0) a E 13 0
  refine E_aload_n (pc := 118) 0 dX8_next_118 rfl rfl ?_
  refine E_iconst (pc := 119) (1) dX8_next_119 (by decide) ?_
  refine E_put (pc := 120) dX8_next_120 fp_RX8_94 rfl rfl ?_
  refine E_aload_n (pc := 123) 0 dX8_next_123 rfl rfl ?_
  refine E_aload_n (pc := 124) 0 dX8_next_124 rfl rfl ?_
  refine E_aload_n (pc := 125) 0 dX8_next_125 rfl rfl ?_
  refine E_getI (pc := 126) dX8_next_126 fl_RX8_78 rfl rfl ?_
  refine E_aload_n (pc := 129) 0 dX8_next_129 rfl rfl ?_
  refine E_getI (pc := 130) dX8_next_130 fl_RX8_88 rfl rfl ?_
  generalize hH1 : hset H g_model 0 7 1 = H1
  have m1 : Mo h H1 := by rw [← hH1]; exact n1.put (by decide)
  have m7 : H1 g_model 0 7 = 1 := by rw [← hH1]; exact hset_eq _ _ _ _ _
  have m6 : H1 g_model 0 6 = nI a := by rw [← hH1, hset_k (by decide)]; exact n2
  have m5 : H1 g_model 0 5 = nI E := by rw [← hH1, hset_k (by decide)]; exact n4
  have m3 : H1 g_model 0 3 = 0 := by rw [← hH1, hset_k (by decide)]; exact n3
  have eB1 : H1 g_m_tape 0 = h g_m_tape 0 := by rw [m1.1 g_m_tape (by decide)]
  have hT1 : MTb H1 := by rw [← hH1]; unfold MTb; rw [hset_t (by decide), hset_t (by decide), hset_t (by decide), hset_t (by decide), hset_t (by decide)]; exact hT2
  refine E_eq (st' := [vI (nI E), vI (nI a), vR g_model 0, vR g_model 0]) rfl (by rw [m5, m6]) rfl ?_
  refine E_callV1 (pc := 133) dX8_next_133 (C_X8_nameAt (L := L) (by rw [m1.2 1 (by decide)]; exact hL) hL2 (by omega) (by omega) hT1 (by rw [eB1]; exact hB)) rfl kv_RX8_101 rfl rfl rfl ⟨Nat.le_of_ble_eq_true rfl, Nat.le_of_ble_eq_true rfl, Nat.le_of_ble_eq_true rfl, Nat.le_of_ble_eq_true rfl⟩ (Nat.le_of_ble_eq_true rfl) ?_
  refine E_eq (st' := [vI (if nmF (h g_m_tape 0) a E 13 0 = 13 then -4 else nI (nmF (h g_m_tape 0) a E 13 0)), vR g_model 0]) rfl (by rw [eB1]) rfl ?_
  refine E_put (pc := 136) dX8_next_136 fp_RX8_91 rfl rfl ?_
  refine E_aload_n (pc := 139) 0 dX8_next_139 rfl rfl ?_
  refine E_getI (pc := 140) dX8_next_140 fl_RX8_91 rfl rfl ?_
  refine E_top (hset_eq _ _ _ _ _) ?_
  refine E_bipush (pc := 143) (-4) dX8_next_143 (by decide) ?_
  refine E_icmp_ne (pc := 145) 299 dX8_next_145 rfl (fun q145 => ?_) (fun q145 => ?_)
  · have hz : ¬ nmF (h g_m_tape 0) a E 13 0 = 13 := fun z => q145 (by rw [if_pos z])
    rw [if_neg hz] at k0
    refine E_vret (pc := 299) dX8_next_299 rfl ?_
    refine hQ _ ?_
    unfold TkN
    rw [k0, k1, k2, k3]
    first | exact ⟨m1.put (by decide), by rw [hset_k (by decide)]; exact m6, by rw [hset_k (by decide)]; exact m3, fun z => absurd rfl z, fun _ => ⟨by rw [hset_k (by decide)]; exact m5, by rw [hset_k (by decide)]; exact m7, fun _ => by rw [hset_eq, if_neg hz]⟩⟩ | exact ⟨((m1.put (by decide)).put (by decide)).put (by decide), by rw [hset_k (by decide), hset_k (by decide), hset_k (by decide)]; exact m6, by rw [hset_k (by decide)]; exact hset_eq _ _ _ _ _, fun _ => by rw [hset_eq, hset_k (by decide)]; exact m6, fun z => absurd z (by decide)⟩
  · have hz : nmF (h g_m_tape 0) a E 13 0 = 13 := Decidable.of_not_not (fun z => by rw [if_neg z] at q145; exact nI_ne4 (by omega) q145)
    rw [if_pos hz] at k0
    refine E_aload_n (pc := 148) 0 dX8_next_148 rfl rfl ?_
    refine E_iconst (pc := 149) (1) dX8_next_149 (by decide) ?_
    refine E_callV0 (pc := 150) dX8_next_150 (C_fails0 (by rw [hset_k (by decide)]; exact m3)) rfl kv_RX8_105 rfl rfl rfl ⟨Nat.le_of_ble_eq_true rfl, Nat.le_of_ble_eq_true rfl, Nat.le_of_ble_eq_true rfl, Nat.le_of_ble_eq_true rfl⟩ (Nat.le_of_ble_eq_true rfl) ?_
    refine E_goto (pc := 153) 299 dX8_next_153 rfl ?_
    refine E_vret (pc := 299) dX8_next_299 rfl ?_
    refine hQ _ ?_
    unfold TkN
    rw [k0, k1, k2, k3]
    first | exact ⟨m1.put (by decide), by rw [hset_k (by decide)]; exact m6, by rw [hset_k (by decide)]; exact m3, fun z => absurd rfl z, fun _ => ⟨by rw [hset_k (by decide)]; exact m5, by rw [hset_k (by decide)]; exact m7, fun _ => by rw [hset_eq, if_neg hz]⟩⟩ | exact ⟨((m1.put (by decide)).put (by decide)).put (by decide), by rw [hset_k (by decide), hset_k (by decide), hset_k (by decide)]; exact m6, by rw [hset_k (by decide)]; exact hset_eq _ _ _ _ _, fun _ => by rw [hset_eq, hset_k (by decide)]; exact m6, fun z => absurd z (by decide)⟩
def vmF (B : Nat → Int32) (a i : Nat) : Int32 := if i ≤ 2 then vlF B a i else vlF B a 2
set_option maxHeartbeats 1600000 in
theorem next_num {l : Launch} {G : GE} {h H : Hp} {Q : QT} {a E L : Nat} {c : Int32} (hL2 : L ≤ 200) (ha : a < L) (hlt : ¬ isLt (h g_m_tape 0 a)) (hfg : isFg (h g_m_tape 0 a)) (hE : rnF isFg (h g_m_tape 0) (L - a) a = E) (hN : NxI h H a E) (hv : H g_model 0 8 = vmF (h g_m_tape 0) a (E - a)) (hQ : ∀ h', TkN h h' L a → Q none h') : Ev l G mX8_next (fkM G mX8_next Q) 247 [some (vR g_model 0), some (vI c)] [] H := by
  obtain ⟨n1, n2, n3, n4⟩ := hN
  have hE2 := rnF_le isFg (h g_m_tape 0) (L - a) a
  rw [hE] at hE2
  have hLa : ¬ L ≤ a := by omega
  have k1 : tkK (h g_m_tape 0) L a = 2 := (if_neg hLa).trans ((if_neg hlt).trans (if_pos hfg))
  have k2 : tkE (h g_m_tape 0) L a = E := (if_neg hLa).trans ((if_neg hlt).trans ((if_pos hfg).trans hE))
  have k3 : tkV (h g_m_tape 0) L a = vlF (h g_m_tape 0) a (E - a) := by unfold tkV; rw [if_neg hlt, hE]
  have k0 : tkF (h g_m_tape 0) L a = if 2 < E - a then 1 else 0 := by unfold tkF; rw [if_neg hLa, if_neg hlt, if_pos hfg, hE]
  refine E_aload_n (pc := 247) 0 dX8_next_247 rfl rfl ?_
  refine E_iconst (pc := 248) (2) dX8_next_248 (by decide) ?_
  refine E_put (pc := 249) dX8_next_249 fp_RX8_94 rfl rfl ?_
  refine E_aload_n (pc := 252) 0 dX8_next_252 rfl rfl ?_
  refine E_getI (pc := 253) dX8_next_253 fl_RX8_88 rfl rfl ?_
  refine E_aload_n (pc := 256) 0 dX8_next_256 rfl rfl ?_
  refine E_getI (pc := 257) dX8_next_257 fl_RX8_78 rfl rfl ?_
  refine E_isub (pc := 260) dX8_next_260 ?_
  refine E_top (y := nI (E - a)) (by rw [hset_k (by decide), hset_k (by decide), n4, n2, pk_sub (by omega)]) ?_
  refine E_iconst (pc := 261) (2) dX8_next_261 (by decide) ?_
  refine E_icmp_le (pc := 262) 299 dX8_next_262 rfl (fun q262 => ?_) (fun q262 => ?_)
  · have hz : E - a ≤ 2 := (nI_leI (b := 2) (by omega) (by decide)).mp q262
    rw [if_neg (by omega)] at k0
    refine E_vret (pc := 299) dX8_next_299 rfl ?_
    refine hQ _ ?_
    unfold TkN
    rw [k0, k1, k2, k3]
    first | exact ⟨n1.put (by decide), by rw [hset_k (by decide)]; exact n2, by rw [hset_k (by decide)]; exact n3, fun z => absurd rfl z, fun _ => ⟨by rw [hset_k (by decide)]; exact n4, hset_eq _ _ _ _ _, fun _ => by rw [hset_k (by decide), hv]; exact if_pos hz⟩⟩ | exact ⟨((n1.put (by decide)).put (by decide)).put (by decide), by rw [hset_k (by decide), hset_k (by decide), hset_k (by decide)]; exact n2, by rw [hset_k (by decide)]; exact hset_eq _ _ _ _ _, fun _ => by rw [hset_eq, hset_k (by decide)]; exact n2, fun z => absurd z (by decide)⟩
  · have hz : ¬ E - a ≤ 2 := fun z => q262 (nI_le (b := 2) z (by decide))
    rw [if_pos (by omega)] at k0
    refine E_aload_n (pc := 265) 0 dX8_next_265 rfl rfl ?_
    refine E_iconst (pc := 266) (1) dX8_next_266 (by decide) ?_
    refine E_callV0 (pc := 267) dX8_next_267 (C_fails0 (by rw [hset_k (by decide)]; exact n3)) rfl kv_RX8_105 rfl rfl rfl ⟨Nat.le_of_ble_eq_true rfl, Nat.le_of_ble_eq_true rfl, Nat.le_of_ble_eq_true rfl, Nat.le_of_ble_eq_true rfl⟩ (Nat.le_of_ble_eq_true rfl) ?_
    refine E_goto (pc := 270) 299 dX8_next_270 rfl ?_
    refine E_vret (pc := 299) dX8_next_299 rfl ?_
    refine hQ _ ?_
    unfold TkN
    rw [k0, k1, k2, k3]
    first | exact ⟨n1.put (by decide), by rw [hset_k (by decide)]; exact n2, by rw [hset_k (by decide)]; exact n3, fun z => absurd rfl z, fun _ => ⟨by rw [hset_k (by decide)]; exact n4, hset_eq _ _ _ _ _, fun _ => by rw [hset_k (by decide), hv]; exact if_pos hz⟩⟩ | exact ⟨((n1.put (by decide)).put (by decide)).put (by decide), by rw [hset_k (by decide), hset_k (by decide), hset_k (by decide)]; exact n2, by rw [hset_k (by decide)]; exact hset_eq _ _ _ _ _, fun _ => by rw [hset_eq, hset_k (by decide)]; exact n2, fun z => absurd z (by decide)⟩
