/-! bits of ways; what a jumper takes, two ways of finding it -/
theorem bit_or : ∀ m, m < 64 → ∀ a, a < 6 → nI m ||| (1 <<< (nI a &&& 31)) = nI (m ||| 2 ^ a) ∧ m ||| 2 ^ a < 64 := by decide +kernel
theorem bit_at : ∀ m, m < 64 → ∀ a, a < 6 → (nI m &&& (1 <<< (nI a &&& 31)) = 0 ↔ m.testBit a = false) := by decide +kernel
theorem tb_or : ∀ m, m < 64 → ∀ a, a < 6 → ∀ b, b < 6 → (m ||| 2 ^ a).testBit b = (m.testBit b || decide (a = b)) := by decide +kernel
theorem sbF_bits {s : Nat → Int32} {C j S : Nat} (hC : 0 < C) (hs : rgS s C) : ∀ n, ∃ m, m < 64 ∧ sbF s C j S n = nI m ∧ ∀ w, w < 6 → (m.testBit w = true ↔ ∃ i, i < n ∧ s (rix C j S i) = nI w)
  | 0 => ⟨0, by decide, rfl, fun w _ => ⟨fun z => by simp at z, fun ⟨i, hi, _⟩ => absurd hi (Nat.not_lt_zero i)⟩⟩
  | n + 1 => by
    obtain ⟨m, hm, e, hb⟩ := sbF_bits (j := j) (S := S) hC hs n
    obtain ⟨a, ha, ea⟩ := hs (rix C j S n) (rix_lt hC)
    obtain ⟨b1, b2⟩ := bit_or m hm a ha
    refine ⟨m ||| 2 ^ a, b2, ?_, fun w hw => ?_⟩
    · unfold sbF; rw [e, ea, b1]
    · rw [tb_or m hm a ha w hw, Bool.or_eq_true, hb w hw, decide_eq_true_iff]
      constructor
      · rintro (⟨i, hi, z⟩ | rfl)
        · exact ⟨i, Nat.lt_succ_of_lt hi, z⟩
        · exact ⟨n, Nat.lt_succ_self n, ea⟩
      · rintro ⟨i, hi, z⟩
        rcases Nat.lt_succ_iff_lt_or_eq.mp hi with hi | rfl
        · exact Or.inl ⟨i, hi, z⟩
        · rw [ea] at z; exact Or.inr ((nI_eq (by omega) (by omega)).mp z)
/-- b is the choice, m what it is worth -/
def Bs (f : Nat → Int32) (o : Nat) (c0 : Int32) (A : Nat → Prop) (b : Nat) (m : Int32) : Prop :=
  (b = o ∧ m = c0 ∧ ∀ w, A w → w ≠ o → f w ≤ c0) ∨ (b ≠ o ∧ A b ∧ m = f b ∧ c0 < f b ∧ ∀ w, A w → w ≠ o → f w < f b ∨ (f w = f b ∧ b ≤ w))
theorem Bs.uniq {f : Nat → Int32} {o : Nat} {c0 : Int32} {A A' : Nat → Prop} {b b' : Nat} {m m' : Int32} (h : Bs f o c0 A b m) (h' : Bs f o c0 A' b' m') (e : ∀ w, A w ↔ A' w) : b = b' := by
  rcases h with ⟨h1, h2, h3⟩ | ⟨h1, h2, h3, h4, h5⟩
  · rcases h' with ⟨g1, g2, g3⟩ | ⟨g1, g2, g3, g4, g5⟩
    · rw [h1, g1]
    · exact absurd (Int32.lt_of_lt_of_le g4 (h3 b' ((e b').mpr g2) g1)) Int32.lt_irrefl
  · rcases h' with ⟨g1, g2, g3⟩ | ⟨g1, g2, g3, g4, g5⟩
    · exact absurd (Int32.lt_of_lt_of_le h4 (g3 b ((e b).mp h2) h1)) Int32.lt_irrefl
    · rcases h5 b' ((e b').mpr g2) g1 with x | ⟨x, x2⟩
      · rcases g5 b ((e b).mp h2) h1 with y | ⟨y, y2⟩
        · exact absurd (Int32.lt_trans x y) Int32.lt_irrefl
        · rw [y] at x; exact absurd x Int32.lt_irrefl
      · rcases g5 b ((e b).mp h2) h1 with y | ⟨y, y2⟩
        · rw [x] at y; exact absurd y Int32.lt_irrefl
        · omega
theorem Bs.own {f : Nat → Int32} {o : Nat} {c0 : Int32} {A A' : Nat → Prop} {b : Nat} {m : Int32} (h : Bs f o c0 A b m) (e : ∀ w, A' w ↔ A w ∨ w = o) : Bs f o c0 A' b m := by
  rcases h with ⟨h1, h2, h3⟩ | ⟨h1, h2, h3, h4, h5⟩
  · exact Or.inl ⟨h1, h2, fun w hw hne => h3 w (((e w).mp hw).resolve_right hne) hne⟩
  · exact Or.inr ⟨h1, (e b).mpr (Or.inl h2), h3, h4, fun w hw hne => h5 w (((e w).mp hw).resolve_right hne) hne⟩
theorem Bs.ge {f : Nat → Int32} {o : Nat} {c0 : Int32} {A : Nat → Prop} {b : Nat} {m : Int32} (h : Bs f o c0 A b m) : c0 ≤ m := by
  rcases h with ⟨h1, h2, h3⟩ | ⟨h1, h2, h3, h4, h5⟩
  · rw [h2]; exact Int32.le_refl _
  · rw [h3]; exact Int32.le_of_lt h4
/-- x is seen besides, and it is better -/
theorem Bs.take {f : Nat → Int32} {o x : Nat} {c0 : Int32} {A A' : Nat → Prop} {b : Nat} {m : Int32} (h : Bs f o c0 A b m) (e : ∀ w, A' w ↔ A w ∨ w = x) (hx : x ≠ o) (hc : m < f x ∨ (f x = m ∧ b ≠ o ∧ x < b)) : Bs f o c0 A' x (f x) := by
  refine Or.inr ⟨hx, (e x).mpr (Or.inr rfl), rfl, ?_, fun w hw hne => ?_⟩
  · rcases hc with hc | ⟨hc, hb, _⟩
    · exact Int32.lt_of_le_of_lt h.ge hc
    · rcases h with ⟨h1, _⟩ | ⟨_, _, h3, h4, _⟩
      · exact absurd h1 hb
      · rw [hc, h3]; exact h4
  · rcases (e w).mp hw with hw | rfl
    · rcases h with ⟨h1, h2, h3⟩ | ⟨h1, h2, h3, h4, h5⟩
      · rcases hc with hc | ⟨_, hb, _⟩
        · left; exact Int32.lt_of_le_of_lt (h3 w hw hne) (by rw [← h2]; exact hc)
        · exact absurd h1 hb
      · rcases hc with hc | ⟨hc, hb, hl⟩
        · left
          rw [h3] at hc
          rcases h5 w hw hne with y | ⟨y, _⟩
          · exact Int32.lt_trans y hc
          · rw [y]; exact hc
        · rw [hc, h3]
          rcases h5 w hw hne with y | ⟨y, y2⟩
          · exact Or.inl y
          · exact Or.inr ⟨y, by omega⟩
    · exact Or.inr ⟨rfl, Nat.le_refl _⟩
theorem Bs.keep {f : Nat → Int32} {o x : Nat} {c0 : Int32} {A A' : Nat → Prop} {b : Nat} {m : Int32} (h : Bs f o c0 A b m) (e : ∀ w, A' w ↔ A w ∨ w = x) (hc : x ≠ o → ¬ m < f x ∧ (f x = m → b = o ∨ b ≤ x)) : Bs f o c0 A' b m := by
  by_cases hx : x = o
  · subst hx; exact h.own e
  · obtain ⟨c1, c2⟩ := hc hx
    rcases h with ⟨h1, h2, h3⟩ | ⟨h1, h2, h3, h4, h5⟩
    · refine Or.inl ⟨h1, h2, fun w hw hne => ?_⟩
      rcases (e w).mp hw with hw | rfl
      · exact h3 w hw hne
      · rw [← h2]; exact Int32.not_lt.mp c1
    · refine Or.inr ⟨h1, (e b).mpr (Or.inl h2), h3, h4, fun w hw hne => ?_⟩
      rcases (e w).mp hw with hw | rfl
      · exact h5 w hw hne
      · rw [h3] at c1 c2
        by_cases heq : f w = f b
        · exact Or.inr ⟨heq, (c2 heq).resolve_left h1⟩
        · exact Or.inl (Int32.lt_of_le_of_ne (Int32.not_lt.mp c1) heq)
/-- the class's choice -/
theorem chF_Bs {f : Nat → Int32} {m o : Nat} {habit : Int32} (hm : m < 64) (ho : o < 6) (hf : f o ≤ f o + habit) : ∀ w, w ≤ 6 → ∃ b x, b < 6 ∧ chF f (nI m) (nI o) habit w = (nI b, x) ∧ Bs f o (f o + habit) (fun u => u < w ∧ m.testBit u = true) b x
  | 0, _ => ⟨o, f o + habit, ho, by unfold chF; rw [ixN_nI (by omega)], Or.inl ⟨rfl, rfl, fun w hw => absurd hw.1 (Nat.not_lt_zero w)⟩⟩
  | w + 1, hw => by
    obtain ⟨b, x, hb, e, hB⟩ := chF_Bs (habit := habit) hm ho hf w (by omega)
    unfold chF
    rw [e]
    by_cases hbit : m.testBit w = true
    · have hA : ∀ u, (u < w + 1 ∧ m.testBit u = true) ↔ (u < w ∧ m.testBit u = true) ∨ u = w := fun u => ⟨fun z => (Nat.lt_succ_iff_lt_or_eq.mp z.1).elim (fun y => Or.inl ⟨y, z.2⟩) Or.inr, fun z => z.elim (fun y => ⟨Nat.lt_succ_of_lt y.1, y.2⟩) (fun y => by rw [y]; exact ⟨Nat.lt_succ_self w, hbit⟩)⟩
      have hn : ¬ nI m &&& (1 <<< (nI w &&& 31)) = 0 := fun z => by rw [(bit_at m hm w (by omega)).mp z] at hbit; cases hbit
      by_cases hc : x < f w
      · rw [if_pos ⟨hn, hc⟩]
        have hwo : w ≠ o := fun z => by subst z; exact absurd (Int32.lt_of_le_of_lt (Int32.le_trans hf hB.ge) hc) Int32.lt_irrefl
        exact ⟨w, f w, by omega, rfl, hB.take hA hwo (Or.inl hc)⟩
      · rw [if_neg (fun z => hc z.2)]
        refine ⟨b, x, hb, rfl, hB.keep hA (fun hwo => ⟨hc, fun z => ?_⟩)⟩
        rcases hB with ⟨h1, _⟩ | ⟨_, h2, _⟩
        · exact Or.inl h1
        · exact Or.inr (by have := h2.1; omega)
    · have hA : ∀ u, (u < w + 1 ∧ m.testBit u = true) ↔ (u < w ∧ m.testBit u = true) := fun u => ⟨fun z => (Nat.lt_succ_iff_lt_or_eq.mp z.1).elim (fun y => ⟨y, z.2⟩) (fun y => absurd z.2 (y ▸ hbit)), fun z => ⟨Nat.lt_succ_of_lt z.1, z.2⟩⟩
      have hn : nI m &&& (1 <<< (nI w &&& 31)) = 0 := (bit_at m hm w (by omega)).mpr (by simpa using hbit)
      rw [if_neg (fun z => z.1 hn)]
      refine ⟨b, x, hb, rfl, ?_⟩
      rcases hB with ⟨h1, h2, h3⟩ | ⟨h1, h2, h3, h4, h5⟩
      · exact Or.inl ⟨h1, h2, fun u hu => h3 u ((hA u).mp hu)⟩
      · exact Or.inr ⟨h1, (hA b).mpr h2, h3, h4, fun u hu => h5 u ((hA u).mp hu)⟩
/-- the neighbours seen so far -/
abbrev seenA (s : Nat → Int32) (C j S n : Nat) : Nat → Prop := fun w => w < 6 ∧ ∃ i, i < n ∧ s (rix C j S i) = nI w
theorem yrF_Bs {f s : Nat → Int32} {C S j o b : Nat} {habit x : Int32} (hs : rgS s C) (hj : j < C) (ho : o < 6) (eo : s j = nI o) (hf : f o ≤ f o + habit) (h : Bs f o (f o + habit) (seenA s C j S (2 * S + 1)) b x) : yrF f C S habit s j = nI b := by
  unfold yrF
  obtain ⟨m, hm, e, hb⟩ := sbF_bits (s := s) (C := C) (j := j) (S := S) (by omega) hs (2 * S + 1)
  obtain ⟨b', x', hb', e', hB⟩ := chF_Bs (f := f) (m := m) (o := o) (habit := habit) hm ho hf 6 (Nat.le_refl 6)
  rw [e, eo, e']
  show nI b' = nI b
  rw [hB.uniq h (fun w => ⟨fun z => ⟨z.1, (hb w z.1).mp z.2⟩, fun z => ⟨z.1, (hb w z.1).mpr z.2⟩⟩)]
theorem mm_ix : ∀ C, C < 13 → ∀ j, j < C → ∀ S, S < 6 → ∀ i, i < 2 * S + 1 → (nI j + (-(nI S) + nI i) - (nI j + (-(nI S) + nI i)) / nI C * nI C + nI C) - (nI j + (-(nI S) + nI i) - (nI j + (-(nI S) + nI i)) / nI C * nI C + nI C) / nI C * nI C = nI (rix C j S i) := by decide +kernel
theorem sHigh_le (V N : Nat → Int32) (T : Nat) : sHigh V N T ≤ 999 := by
  unfold sHigh clearsA
  split
  · split
    · exact Int32.le_refl _
    · split
      · decide
      · unfold minI
        split
        · rename_i h; exact Int32.le_of_lt h
        · exact Int32.le_refl _
  · decide
theorem sWorth_le (V N : Nat → Int32) (T : Nat) (F : Int32) : sWorth V N T F ≤ 999 := by
  unfold sWorth valA
  split
  · split
    · decide
    · exact sHigh_le V N T
  · decide
theorem mv_rg (h : Hp) (k : Nat) : -1 ≤ mv h k ∧ mv h k ≤ 999 := by
  unfold mv
  split
  · exact ⟨sWorth_ge _ _ _ _, sWorth_le _ _ _ _⟩
  · exact ⟨Int32.le_refl _, by decide⟩
theorem hab_le {x y : Int32} (hx : -1 ≤ x ∧ x ≤ 999) (hy : 0 ≤ y ∧ y ≤ 20) : x ≤ x + y := by grind
