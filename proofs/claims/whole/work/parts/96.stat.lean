/-! what the law's start gives -/
def StatA (G : GE) (A : Nat → Prop) (U : State) (H : Heap) : Prop :=
  (∀ q ∈ statL, va_Z RX3 q.1 "[I" (.ref (G.2.2 q.2 0)) A U H) ∧
  (∀ t n f, roM t = some (n, f) → va_T .int (G.2.2 t 0) n (fun j => .int (f j)) A U H) ∧
  (va_Nw (.methodLinkNest RX1 61 yX7_within RX7) U ∧ va_Nw (.methodLinkNest RX6 15 yX7_within RX7) U ∧ va_Nw (.methodLinkNest RX0 107 yX7_dividedDown RX7) U ∧ va_Nw (.methodLinkNest RX2 25 yX7_within RX7) U ∧ va_Nw (.methodLinkNest RX4 17 yX7_within RX7) U) ∧
  vk_R RX1 91 strText (G.2.2 64 0) U ∧ vk_S 1 [78] [strBytes] (fun _ => G.2.2 64 0) (fun _ => G.2.2 65 0) A U H ∧ va_Z RJ0 "COMPACT_STRINGS" "Z" (.int 1) A U H ∧ va_Zq RJ3 "SIOOBE_FORMATTER" "Ljava/util/function/BiFunction;" A U H
theorem roM_60 {t n : Nat} {f : Nat → Int32} (h : roM t = some (n, f)) : 60 ≤ t := by
  unfold roM at h
  split at h
  · omega
  · omega
  · omega
  · cases h
theorem StatA.stat {G G' : GE} {A : Nat → Prop} {U : State} {H : Heap} (h : StatA G A U H) (hA : ∀ q, Ac G' q → A q) (e : ∀ t i, 60 ≤ t → G'.2.2 t i = G.2.2 t i) : Stat G' U H := by
  obtain ⟨h1, h2, h3, h4, h5, h6, h7⟩ := h
  refine ⟨fun q hq => ?_, fun t n f hf => ?_, h3, ?_, ?_, h6.narrow hA, h7.narrow hA⟩
  · rw [e q.2 0 (by simp [statL] at hq; rcases hq with rfl | rfl | rfl <;> decide)]; exact (h1 q hq).narrow hA
  · rw [e t 0 (roM_60 hf)]; exact (h2 t n f hf).narrow hA
  · rw [e 64 0 (by decide)]; exact h4
  · rw [e 64 0 (by decide), e 65 0 (by decide)]; exact h5.narrow hA
theorem law_cls {s : State} {args : Array Value} (hts : ∀ w ∈ lw_tbl, w.before args s = true) : ∃ D : va_G, ∀ (k : Nat) (q : vw_C), vwCl[k]? = some q → u_Kn s q.1 q.2.1 q.2.2 (D.1 k) (D.2 k) := by
  obtain ⟨c0, i0, k0⟩ := u_known (C := RX0) (T := TX0) (N := 9) (n := 9) hts (fun w h => TB_in (uw0 w h)) (hts _ (TB_in kw_RX7_41.2.1))
  obtain ⟨c1, i1, k1⟩ := u_known (C := RX1) (T := TX1) (N := 7) (n := 7) hts (fun w h => TB_in (uw1 w h)) (hts _ (TB_in kw_RX7_16.2.1))
  obtain ⟨c2, i2, k2⟩ := u_known (C := RX2) (T := TX2) (N := 4) (n := 4) hts (fun w h => TB_in (uw2 w h)) (hts _ (TB_in kw_RX7_54.2.1))
  obtain ⟨c3, i3, k3⟩ := u_known (C := RX3) (T := TX3) (N := 1) (n := 1) hts (fun w h => TB_in (uw3 w h)) (hts _ (TB_in kw_RX7_23.2.1))
  obtain ⟨c4, i4, k4⟩ := u_known (C := RX4) (T := TX4) (N := 3) (n := 3) hts (fun w h => TB_in (uw4 w h)) (hts _ (TB_in kw_RX7_61.2.1))
  obtain ⟨c5, i5, k5⟩ := u_known (C := RX5) (T := TX5) (N := 2) (n := 2) hts (fun w h => TB_in (uw5 w h)) (hts _ (TB_in kw_RX7_7.2.1))
  obtain ⟨c6, i6, k6⟩ := u_known (C := RX6) (T := TX6) (N := 3) (n := 3) hts (fun w h => TB_in (uw6 w h)) (hts _ (TB_in kw_RX7_30.2.1))
  obtain ⟨c7, i7, k7⟩ := u_known (C := RX7) (T := TX7) (N := 10) (n := 10) hts (fun w h => TB_in (uw7 w h)) (hts _ (TB_in kw_RL_7.2.1))
  obtain ⟨c8, i8, k8⟩ := u_known (C := RX8) (T := TX8) (N := 30) (n := 30) hts (fun w h => TB_in (uw8 w h)) (hts _ (TB_in kw_RL_10.2.1))
  refine ⟨(fun k => [c0, c1, c2, c3, c4, c5, c6, c7, c8].getD k c0, fun k => [i0, i1, i2, i3, i4, i5, i6, i7, i8].getD k i0), ?_⟩
  intro k q hq
  match k, hq with
  | 0, hq => cases hq; exact k0
  | 1, hq => cases hq; exact k1
  | 2, hq => cases hq; exact k2
  | 3, hq => cases hq; exact k3
  | 4, hq => cases hq; exact k4
  | 5, hq => cases hq; exact k5
  | 6, hq => cases hq; exact k6
  | 7, hq => cases hq; exact k7
  | 8, hq => cases hq; exact k8
  | k + 9, hq => simp [vwCl] at hq
