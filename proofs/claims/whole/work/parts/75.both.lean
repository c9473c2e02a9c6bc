/-! both sides at a call -/
def Both (l : Launch) (G : GE) (m1 m2 : MI) (as : List AV) (h : Hp) : Prop := ∃ Q1, CT l G m1 (vR g_oab 0 :: as) h Q1 ∧ ∀ r h1, Q1 r h1 → ∃ a, r = some a ∧ ∃ Q2, CT l G m2 (vR g_model 0 :: as) h1 Q2 ∧ ∀ r2 h2, Q2 r2 h2 → r2 = some a ∧ Rel0 h2
/-- the model's rows are the same -/
def MS (h h' : Hp) : Prop := ∀ a, 26 ≤ a → a ≤ 45 → h' a 0 = h a 0
theorem MS.rfl {h : Hp} : MS h h := fun _ _ _ => Eq.refl _
theorem ne_m {a t : Nat} (h1 : 26 ≤ a) (ht : t < 26) : a ≠ t := by omega
theorem ess_m {a : Nat} (h1 : 26 ≤ a) : ess a 0 := ⟨⟨⟨ne_m h1 (by decide), ne_m h1 (by decide), ne_m h1 (by decide), ne_m h1 (by decide), ne_m h1 (by decide), ne_m h1 (by decide)⟩, ne_m h1 (by decide), ne_m h1 (by decide)⟩, ne_m h1 (by decide), ne_m h1 (by decide), ne_m h1 (by decide), fun z => absurd z.2 (by decide)⟩
theorem Kp.ms {h h' : Hp} (k : Kp h h') : MS h h' := fun a h1 _ => k a 0 (ess_m h1)
theorem Rel.kp {h h' : Hp} (z : Rel h) (k : Kp h h') : Rel h' := by
  have m := k.ms
  obtain ⟨t, v, w, j, s, o, b⟩ := z
  have e1 : h' g_tape 0 = h g_tape 0 := k _ _ (by decide)
  have e2 : h' g_tapeB 0 = h g_tapeB 0 := k _ _ (by decide)
  have e3 : h' g_reader 0 = h g_reader 0 := k _ _ (by decide)
  have e4 : h' g_values 0 = h g_values 0 := k _ _ (by decide)
  have e5 : h' g_ring 0 = h g_ring 0 := k _ _ (by decide)
  have e6 : h' g_held 0 = h g_held 0 := k _ _ (by decide)
  have e7 : h' g_oab 0 = h g_oab 0 := k _ _ (by decide)
  have f1 := m g_model (by decide) (by decide)
  have f2 := m g_m_tape (by decide) (by decide)
  have f3 := m g_m_holds (by decide) (by decide)
  have f4 := m g_m_numbers (by decide) (by decide)
  have f5 := m g_m_tenths (by decide) (by decide)
  have f6 := m g_m_feet (by decide) (by decide)
  have f7 := m g_m_jumpers (by decide) (by decide)
  have f8 := m g_m_lanes (by decide) (by decide)
  have f9 := m g_m_lengths (by decide) (by decide)
  have f10 := m g_m_cells (by decide) (by decide)
  have g1 := m g_m_cuts (by decide) (by decide)
  have g2 := m g_m_letters (by decide) (by decide)
  have g3 := m g_m_plain (by decide) (by decide)
  have g4 := m g_m_leasts (by decide) (by decide)
  have g5 := m g_m_mosts (by decide) (by decide)
  refine ⟨?_, ?_, fun k' hk => ?_, ?_, fun k' hk => ?_, ?_, ?_⟩
  · unfold RelT; rw [e1, e2, e3, f1, f2]; exact t
  · unfold RelV; rw [e4, f3]; exact v
  · have a1 : h' g_way k' = h g_way k' := k _ _ ⟨by decide, by decide, by decide, by decide, fun z => by omega⟩
    have a2 : h' g_nums k' = h g_nums k' := k _ _ ⟨by decide, by decide, by decide, by decide, fun z => by omega⟩
    have := w k' hk
    unfold mN at this ⊢
    rw [a1, a2, f4, f5, f6]; exact this
  · unfold RelJ; rw [e5, e6, f1, f7]; exact j
  · have a1 : h' g_sheet k' = h g_sheet k' := k _ _ ⟨by decide, by decide, by decide, by decide, fun z => absurd z.1 (by decide)⟩
    have a2 : h' g_cells k' = h g_cells k' := k _ _ ⟨by decide, by decide, by decide, by decide, fun z => absurd z.1 (by decide)⟩
    have := s k' hk
    unfold mC at this ⊢
    rw [a1, a2, f8, f9, f10]; exact this
  · unfold RelO; rw [e7, f1]; exact o
  · unfold MTb; rw [g1, g2, g3, g4, g5]; exact b
/-! what the contracts ask -/
theorem Rel.wt {h : Hp} (z : Rel h) : WT h := fun k hk => by
  obtain ⟨w1, -, -, -, T, hT, e⟩ := z.2.2.1 k hk
  exact ⟨T, hT, w1.trans e⟩
theorem Rel.mk {h : Hp} (z : Rel h) : MK h := ⟨z.2.1.2, fun k hk => (z.2.2.1 k hk).2.2.2.1, fun k hk => (z.2.2.1 k hk).2.2.2.2⟩
theorem Rel.seen {h : Hp} (z : Rel h) : ∃ S, S ≤ 5 ∧ h g_m_holds 0 17 = nI S := by
  have := z.2.1.2 17 (by decide)
  obtain ⟨S, h1, h2⟩ := natof (x := h g_m_holds 0 17) 5 (by decide) (Int32.le_trans (by decide) this.1) this.2
  exact ⟨S, h1, h2⟩
theorem Rel.ring {h : Hp} (z : Rel h) : ∃ C S, RG h C S ∧ MG h C S ∧ rgS (h g_held 0) C ∧ rgS (h g_m_jumpers 0) C ∧ ∀ j, j < C → h g_held 0 j = h g_m_jumpers 0 j := by
  obtain ⟨S, hS, eS⟩ := z.seen
  obtain ⟨C, j1, j2, j3, j4, j5⟩ := z.2.2.2.1
  have hh := z.2.1.2 16 (by decide)
  refine ⟨C, S, ⟨j2, j1, by rw [z.2.1.1]; exact eS, hS⟩, ⟨j3, j1, eS, hS, Int32.le_trans (by decide) hh.1, hh.2⟩, fun j hj => ?_, j4, j5⟩
  rw [j5 j hj]; exact j4 j hj
theorem Rel.t8 {h : Hp} (z : Rel h) {w : Int32} (hw : 0 ≤ w ∧ w ≤ 5) : ixN w < 6 := ixN_lt (ixl 5 hw.1 hw.2 (by decide))
theorem Rel.isW {h : Hp} (z : Rel h) {w : Int32} : isW h w ↔ isM h w := by
  constructor
  · rintro ⟨h1, h2⟩; exact ⟨h1, by rw [← (z.2.2.1 _ (z.t8 h1)).1]; exact h2⟩
  · rintro ⟨h1, h2⟩; exact ⟨h1, by rw [(z.2.2.1 _ (z.t8 h1)).1]; exact h2⟩
theorem query {l : Launch} {G : GE} {m1 m2 : MI} {as : List AV} {h : Hp} {a1 : Int32} {f2 : Hp → Int32} (hR : Rel h) (c1 : CT l G m1 (vR g_oab 0 :: as) h (fun r h' => r = some a1 ∧ Kp h h')) (c2 : ∀ h, Rel h → CT l G m2 (vR g_model 0 :: as) h (fun r h' => r = some (f2 h) ∧ h' = h)) (he : a1 = f2 h) (hc : ∀ h', MS h h' → f2 h' = f2 h) : Both l G m1 m2 as h := by
  refine ⟨_, c1, fun r h1 ⟨e1, k⟩ => ⟨a1, e1, _, c2 h1 (hR.kp k), fun r2 h2 ⟨e2, e3⟩ => ?_⟩⟩
  subst e3
  exact ⟨by rw [e2, hc h2 k.ms, he], (hR.kp k).r0⟩
theorem query0 {l : Launch} {G : GE} {m1 m2 : MI} {as : List AV} {h : Hp} {a1 a2 : Int32} (hR : Rel h) (c1 : CT l G m1 (vR g_oab 0 :: as) h (fun r h' => r = some a1 ∧ h' = h)) (c2 : CT l G m2 (vR g_model 0 :: as) h (fun r h' => r = some a2 ∧ h' = h)) (he : a1 = a2) : Both l G m1 m2 as h := by
  refine ⟨_, c1, fun r h1 ⟨e1, e⟩ => ?_⟩
  subst e
  refine ⟨a1, e1, _, c2, fun r2 h2 ⟨e2, e3⟩ => ?_⟩
  subst e3
  exact ⟨by rw [e2, he], hR.r0⟩
