/-! helps: indices, heaps, loops -/
theorem ixg {x : Int32} {n : Nat} (h0 : 0 ≤ x) (h1 : x.toInt < n) : vp_in x n := vp_in_iff.mpr ⟨by simpa using Int32.le_iff_toInt_le.mp h0, h1⟩
theorem ixl {x : Int32} {n : Nat} (b : Int32) (h0 : 0 ≤ x) (h1 : x ≤ b) (hb : b.toInt < n) : vp_in x n := ixg h0 (Int.lt_of_le_of_lt (Int32.le_iff_toInt_le.mp h1) hb)
theorem ixN_lt {x : Int32} {n : Nat} (h : vp_in x n) : ixN x < n := Nat.not_le.mp fun z => h (Or.inr z)
theorem ixN_nI {n : Nat} (h : n < 2 ^ 31) : ixN (nI n) = n := nI_clamp h
theorem E_eq {l : Launch} {G : GE} {mi : MI} {fk : FK} {pc : Nat} {lv lv' : List (Option AV)} {st st' : List AV} {h h' : Hp} (e1 : lv = lv') (e2 : st = st') (e3 : h = h') (k : Ev l G mi fk pc lv' st' h') : Ev l G mi fk pc lv st h := by
  subst e1; subst e2; subst e3; exact k
theorem E_heq {l : Launch} {G : GE} {mi : MI} {fk : FK} {pc : Nat} {lv : List (Option AV)} {st : List AV} {h h' : Hp} (e3 : h = h') (k : Ev l G mi fk pc lv st h') : Ev l G mi fk pc lv st h := by
  subst e3; exact k
theorem E_top {l : Launch} {G : GE} {mi : MI} {fk : FK} {pc : Nat} {lv : List (Option AV)} {st : List AV} {h : Hp} {x y : Int32} (e : x = y) (k : Ev l G mi fk pc lv (vI y :: st) h) : Ev l G mi fk pc lv (vI x :: st) h := by
  subst e; exact k
theorem hset_eq (h : Hp) (t i k : Nat) (v : Int32) : hset h t i k v t i k = v := if_pos ⟨rfl, rfl, rfl⟩
theorem hset_A (h : Hp) (t i k : Nat) (v : Int32) : hset h t i k v = hsetA h t i (upd (h t i) k v) := by
  funext t' i' k'
  unfold hset hsetA upd
  by_cases h1 : t' = t
  · by_cases h2 : i' = i
    · subst h1; subst h2
      by_cases h3 : k' = k
      · simp [h3]
      · simp [h3]
    · simp [h2]
  · simp [h1]
theorem hsetA_A (h : Hp) (t i : Nat) (f g : Nat → Int32) : hsetA (hsetA h t i f) t i g = hsetA h t i g := by
  funext t' i' k'
  unfold hsetA
  by_cases h1 : t' = t ∧ i' = i
  · simp [h1]
  · simp [h1]
theorem hset_hsetA (h : Hp) (t i k : Nat) (v : Int32) (f : Nat → Int32) : hset (hsetA h t i f) t i k v = hsetA h t i (upd f k v) := by
  rw [hset_A, hsetA_A, hsetA_arr]
theorem hsetA_self (h : Hp) (t i : Nat) : hsetA h t i (h t i) = h := by
  funext t' i' k'
  unfold hsetA
  by_cases h1 : t' = t ∧ i' = i
  · obtain ⟨rfl, rfl⟩ := h1; simp
  · simp [h1]
/-- a row cleared up to i -/
def clr (h : Hp) (t k i : Nat) : Hp := hsetA h t k (fun j => if j < i then 0 else h t k j)
theorem clr_0 (h : Hp) (t k : Nat) : clr h t k 0 = h := by
  unfold clr
  rw [show (fun j => if j < 0 then (0 : Int32) else h t k j) = h t k from by funext j; simp]
  exact hsetA_self h t k
theorem clr_s (h : Hp) (t k i : Nat) : hset (clr h t k i) t k i 0 = clr h t k (i + 1) := by
  unfold clr
  rw [hset_hsetA]
  congr 1
  funext j
  unfold upd
  show (if j = i then 0 else if j < i then 0 else h t k j) = if j < i + 1 then 0 else h t k j
  grind
theorem natof {x : Int32} (b : Nat) (hb : b < 2 ^ 31) (h0 : 0 ≤ x) (h1 : x ≤ nI b) : ∃ j : Nat, j ≤ b ∧ x = nI j := by
  obtain ⟨j, hj, rfl⟩ := nI_of (x := x) (Int32.not_lt.mpr h0)
  exact ⟨j, (nI_leI hj hb).mp h1, rfl⟩
theorem nI_spot (t p a : Nat) : 8 * nI t + 2 * nI p + nI a = nI (8 * t + 2 * p + a) := by
  rw [show (8 : Int32) = nI 8 from rfl, show (2 : Int32) = nI 2 from rfl, pk_mul, pk_mul, nI_add, nI_add]
theorem nI_spot2 (t p : Nat) : 8 * nI t + 2 * nI p = nI (8 * t + 2 * p) := by
  rw [show (8 : Int32) = nI 8 from rfl, show (2 : Int32) = nI 2 from rfl, pk_mul, pk_mul, nI_add]
theorem ix3 {t p a : Int32} (h1 : 0 ≤ t) (h2 : t ≤ 7) (h3 : 0 ≤ p) (h4 : p ≤ 3) (h5 : 0 ≤ a) (h6 : a ≤ 1) : vp_in (8 * t + 2 * p + a) 64 := by
  obtain ⟨t', ht, rfl⟩ := natof 7 (by decide) h1 h2
  obtain ⟨p', hp, rfl⟩ := natof 3 (by decide) h3 h4
  obtain ⟨a', ha, rfl⟩ := natof 1 (by decide) h5 h6
  rw [nI_spot]
  exact vp_in_nI (by omega) (by decide)
theorem ix2 {t p : Int32} (h1 : 0 ≤ t) (h2 : t ≤ 7) (h3 : 0 ≤ p) (h4 : p ≤ 3) : vp_in (8 * t + 2 * p) 64 := by
  obtain ⟨t', ht, rfl⟩ := natof 7 (by decide) h1 h2
  obtain ⟨p', hp, rfl⟩ := natof 3 (by decide) h3 h4
  rw [nI_spot2]
  exact vp_in_nI (by omega) (by decide)
