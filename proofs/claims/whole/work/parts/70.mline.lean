/-! the model: a line -/
def TkS (B : Nat → Int32) (h' : Hp) (L a : Nat) : Prop := h' g_model 0 6 = nI a ∧ h' g_model 0 3 = nI (tkF B L a) ∧ (¬ tkF B L a = 0 → h' g_model 0 4 = nI a) ∧ (tkF B L a = 0 → h' g_model 0 5 = nI (tkE B L a) ∧ h' g_model 0 7 = nI (tkK B L a) ∧ (tkK B L a = 1 ∨ tkK B L a = 2 → h' g_model 0 8 = tkV B L a))
theorem TkN.s {h h' : Hp} {L a : Nat} (z : TkN h h' L a) : Mo h h' ∧ TkS (h g_m_tape 0) h' L a := z
def Mr (h h' : Hp) : Prop := (∀ x, x ≠ g_model → x ≠ g_m_reads → h' x = h x) ∧ ∀ k, ¬ (3 ≤ k ∧ k ≤ 8) → k ≠ 16 → h' g_model 0 k = h g_model 0 k
theorem Mr.rfl {h : Hp} : Mr h h := ⟨fun _ _ _ => Eq.refl _, fun _ _ _ => Eq.refl _⟩
theorem Mr.put {h h2 : Hp} (r : Mr h h2) {k : Nat} {v : Int32} (hk : (3 ≤ k ∧ k ≤ 8) ∨ k = 16) : Mr h (hset h2 g_model 0 k v) := ⟨fun x hx hy => by rw [hset_t hx]; exact r.1 x hx hy, fun j hj hj2 => by rw [hset_k (b := j) (k := k) (by omega)]; exact r.2 j hj hj2⟩
theorem Mr.rd {h h2 : Hp} (r : Mr h h2) {k : Nat} {v : Int32} : Mr h (hset h2 g_m_reads 0 k v) := ⟨fun x hx hy => by rw [hset_t hy]; exact r.1 x hx hy, fun j hj hj2 => by rw [hset_t (by decide)]; exact r.2 j hj hj2⟩
theorem Mr.mo {h h2 h3 : Hp} (r : Mr h h2) (m : Mo h2 h3) : Mr h h3 := ⟨fun x hx hy => (m.1 x hx).trans (r.1 x hx hy), fun j hj hj2 => (m.2 j hj).trans (r.2 j hj hj2)⟩
theorem Mr.fl {h h2 : Hp} (r : Mr h h2) {n : Nat} : Mr h (flH h2 n) := (r.put (Or.inl (by decide))).put (Or.inl (by decide))
theorem Mr.tb {h h2 : Hp} (r : Mr h h2) (hT : MTb h) : MTb h2 := by
  unfold MTb
  rw [r.1 g_m_cuts (by decide) (by decide), r.1 g_m_letters (by decide) (by decide), r.1 g_m_plain (by decide) (by decide), r.1 g_m_leasts (by decide) (by decide), r.1 g_m_mosts (by decide) (by decide)]
  exact hT
theorem Mr.tp {h h2 : Hp} (r : Mr h h2) : h2 g_m_tape 0 = h g_m_tape 0 := by rw [r.1 g_m_tape (by decide) (by decide)]
theorem flH_4 (h : Hp) (n : Nat) : flH h n g_model 0 4 = h g_model 0 6 := hset_eq _ _ _ _ _
def LnM (h h' : Hp) (L a0 p nm : Nat) : Prop := Mr h h' ∧ (¬ lnT (h g_m_tape 0) L p nm (h g_model 0 16) = 0 → h' g_model 0 3 = nI (lnT (h g_m_tape 0) L p nm (h g_model 0 16)) ∧ h' g_model 0 4 = nI (lnP (h g_m_tape 0) L a0 p nm (h g_model 0 16))) ∧ (lnT (h g_m_tape 0) L p nm (h g_model 0 16) = 0 → h' g_model 0 16 = h g_model 0 16 ||| (1 <<< (slS (h g_m_tape 0) L p nm &&& 31)) ∧ h' g_m_reads 0 = upd (h g_m_reads 0) (ixN (slS (h g_m_tape 0) L p nm)) (tkV (h g_m_tape 0) L (lnA (h g_m_tape 0) L p nm)) ∧ TkS (h g_m_tape 0) h' L (tkA (h g_m_tape 0) L (lnE (h g_m_tape 0) L p nm)))
/-- a line that has a fault -/
theorem LnM.bad {h h' : Hp} {L a0 p nm T P : Nat} (hM : Mr h h') (hT : lnT (h g_m_tape 0) L p nm (h g_model 0 16) = T) (hP : lnP (h g_m_tape 0) L a0 p nm (h g_model 0 16) = P) (h0 : ¬ T = 0) (h3 : h' g_model 0 3 = nI T) (h4 : h' g_model 0 4 = nI P) : LnM h h' L a0 p nm := by
  unfold LnM
  rw [hT, hP]
  exact ⟨hM, fun _ => ⟨h3, h4⟩, fun z => absurd z h0⟩
theorem nI_w {n : Nat} (h : ¬ n = 0) (h2 : n ≤ 4) : 0 < nI n := nI_pos1 (by omega) (by omega)
theorem nI_n0 {n : Nat} (h : ¬ n = 0) (h2 : n ≤ 4) : ¬ nI n = 0 := fun z => h ((nI_eq (b := 0) (by omega) (by decide)).mp z)
theorem ne_of_pos {x : Int32} (h : 0 < x) : ¬ x = 0 := fun z => by rw [z] at h; exact absurd h (by decide)
set_option maxHeartbeats 1600000 in
theorem rl_bad125 {l : Launch} {G : GE} {H : Hp} {Q : QT} {x y : Int32} (hw : 0 < H g_model 0 3) (hQ : Q none H) : Ev l G mX8_readLine (fkM G mX8_readLine Q) 125 [some (vR g_model 0), some (vI x), some (vI y)] [] H := by
  refine E_aload_n (pc := 125) 0 dX8_readLine_125 rfl rfl ?_
  refine E_callV0 (pc := 126) dX8_readLine_126 (C_nextW hw) rfl kv_RX8_119 rfl rfl rfl ⟨Nat.le_of_ble_eq_true rfl, Nat.le_of_ble_eq_true rfl, Nat.le_of_ble_eq_true rfl, Nat.le_of_ble_eq_true rfl⟩ (Nat.le_of_ble_eq_true rfl) ?_
  refine E_vret (pc := 129) dX8_readLine_129 rfl ?_
  exact hQ
set_option maxHeartbeats 1600000 in
theorem rl_bad101 {l : Launch} {G : GE} {H : Hp} {Q : QT} {x y : Int32} (hw : 0 < H g_model 0 3) (hQ : Q none H) : Ev l G mX8_readLine (fkM G mX8_readLine Q) 101 [some (vR g_model 0), some (vI x), some (vI y)] [] H := by
  refine E_aload_n (pc := 101) 0 dX8_readLine_101 rfl rfl ?_
  refine E_callV0 (pc := 102) dX8_readLine_102 (C_nextW hw) rfl kv_RX8_119 rfl rfl rfl ⟨Nat.le_of_ble_eq_true rfl, Nat.le_of_ble_eq_true rfl, Nat.le_of_ble_eq_true rfl, Nat.le_of_ble_eq_true rfl⟩ (Nat.le_of_ble_eq_true rfl) ?_
  refine E_aload_n (pc := 105) 0 dX8_readLine_105 rfl rfl ?_
  refine E_getI (pc := 106) dX8_readLine_106 fl_RX8_75 rfl rfl ?_
  refine E_if_ne (pc := 109) 125 dX8_readLine_109 rfl (fun q109 => ?_) (fun q109 => absurd q109 (ne_of_pos hw))
  exact rl_bad125 hw hQ
set_option maxHeartbeats 1600000 in
theorem rl_bad79 {l : Launch} {G : GE} {H : Hp} {Q : QT} {x : Int32} {s : Nat} (hs : s < 18) (hw : 0 < H g_model 0 3) (hQ : ∀ v, Q none (hset H g_m_reads 0 s v)) : Ev l G mX8_readLine (fkM G mX8_readLine Q) 79 [some (vR g_model 0), some (vI x), some (vI (nI s))] [] H := by
  refine E_aload_n (pc := 79) 0 dX8_readLine_79 rfl rfl ?_
  refine E_getR0 (pc := 80) dX8_readLine_80 fl_RX8_31 rfl rfl ?_
  refine E_iload_n (pc := 83) 2 dX8_readLine_83 rfl rfl ?_
  refine E_aload_n (pc := 84) 0 dX8_readLine_84 rfl rfl ?_
  refine E_aload_n (pc := 85) 0 dX8_readLine_85 rfl rfl ?_
  refine E_getR0 (pc := 86) dX8_readLine_86 fl_RX8_22 rfl rfl ?_
  refine E_iload_n (pc := 89) 2 dX8_readLine_89 rfl rfl ?_
  refine E_iald (pc := 90) dX8_readLine_90 rfl (vp_in_nI (by omega) (by decide)) ?_
  refine E_aload_n (pc := 91) 0 dX8_readLine_91 rfl rfl ?_
  refine E_getR0 (pc := 92) dX8_readLine_92 fl_RX8_25 rfl rfl ?_
  refine E_iload_n (pc := 95) 2 dX8_readLine_95 rfl rfl ?_
  refine E_iald (pc := 96) dX8_readLine_96 rfl (vp_in_nI (by omega) (by decide)) ?_
  refine E_callV1 (pc := 97) dX8_readLine_97 (C_numW (ne_of_pos hw)) rfl kv_RX8_122 rfl rfl rfl ⟨Nat.le_of_ble_eq_true rfl, Nat.le_of_ble_eq_true rfl, Nat.le_of_ble_eq_true rfl, Nat.le_of_ble_eq_true rfl⟩ (Nat.le_of_ble_eq_true rfl) ?_
  refine E_iast (pc := 100) dX8_readLine_100 rfl (vp_in_nI (by omega) (by decide)) ?_
  refine E_heq (by rw [ixN_nI (by omega)]) (rl_bad101 (by rw [hset_t (by decide)]; exact hw) (hQ _))
theorem nbM_eq {B : Nat → Int32} {H : Hp} {L p : Nat} {lo hi : Int32} (hf : tkF B L (tkA B L p) = 0) (h7 : H g_model 0 7 = nI (tkK B L (tkA B L p))) (h8 : tkK B L (tkA B L p) = 1 ∨ tkK B L (tkA B L p) = 2 → H g_model 0 8 = tkV B L (tkA B L p)) : nbM H lo hi = nbT B L p lo hi := by
  unfold nbM nbT
  rw [if_neg (not_not_intro hf), h7]
  by_cases hk : tkK B L (tkA B L p) = 2
  · rw [if_neg (show ¬ ¬ nI (tkK B L (tkA B L p)) = 2 by rw [hk]; exact not_not_intro rfl), if_neg (not_not_intro hk), h8 (Or.inr hk)]
  · rw [if_pos (show ¬ nI (tkK B L (tkA B L p)) = 2 from fun z => hk ((nI_eq (b := 2) (by have := tkK_le B L (tkA B L p); omega) (by decide)).mp z)), if_pos hk]
theorem nbT_F {B : Nat → Int32} {L p : Nat} {lo hi : Int32} (hf : ¬ tkF B L (tkA B L p) = 0) : nbT B L p lo hi = tkF B L (tkA B L p) := if_pos hf
theorem nbT_F0 {B : Nat → Int32} {L p : Nat} {lo hi : Int32} (hf : tkF B L (tkA B L p) = 0) (h : nbT B L p lo hi = 0) : tkK B L (tkA B L p) = 2 := by
  unfold nbT at h
  rw [if_neg (not_not_intro hf)] at h
  exact Decidable.of_not_not (fun z => by rw [if_pos z] at h; exact absurd h (by decide))
