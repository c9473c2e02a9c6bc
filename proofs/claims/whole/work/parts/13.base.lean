/-! small helps -/
theorem E_iincN {l : Launch} {G : GE} {mi : MI} {fk : FK} {pc : Nat} {lv : List (Option AV)} {st : List AV} {h : Hp} (i : Nat) {x : Nat} (hd : decode mi.2.1 pc = .ok (.iinc i 1, 3)) (hb : i < mi.2.2.1) (hn : noL lv i = true) (hv : nth lv i = some (some (vI (nI x)))) {lz : List (Option AV)} (hlv : lset lv i (some (vI (nI (x + 1)))) = lz) (k : Ev l G mi fk (pc + 3) lz st h) : Ev l G mi fk pc lv st h :=
  E_iinc i 1 hd hb hn hv rfl (by rw [← nI_succ]; exact hlv) k
/-- a loop counted up to N, said of its head -/
theorem down {P : Nat → Prop} (N : Nat) (hx : P N) (hs : ∀ i, i < N → P (i + 1) → P i) : ∀ i, i ≤ N → P i := by
  have key : ∀ n i, i + n = N → P i := by
    intro n
    induction n with
    | zero => intro i hi; rw [Nat.add_zero] at hi; rw [hi]; exact hx
    | succ n ih => intro i hi; exact hs i (by omega) (ih (i + 1) (by omega))
  exact fun i hi => key (N - i) i (by omega)
def bi (p : Prop) [Decidable p] : Int32 := if p then 1 else 0
theorem bi_t {p : Prop} [Decidable p] (h : p) : bi p = 1 := if_pos h
theorem bi_f {p : Prop} [Decidable p] (h : ¬ p) : bi p = 0 := if_neg h
theorem bi_1 {p : Prop} [Decidable p] : bi p = 1 ↔ p := by
  unfold bi
  by_cases h : p
  · simp [h]
  · simp [h]
theorem bi_0 {p : Prop} [Decidable p] : bi p = 0 ↔ ¬ p := by
  unfold bi
  by_cases h : p
  · simp [h]
  · simp [h]
theorem bi_congr {p q : Prop} [Decidable p] [Decidable q] (h : p ↔ q) : bi p = bi q := by
  unfold bi
  by_cases hp : p
  · rw [if_pos hp, if_pos (h.mp hp)]
  · rw [if_neg hp, if_neg (fun z => hp (h.mpr z))]
theorem nar_bi {p : Prop} [Decidable p] : narrow .boolean (.int (bi p)) = .int (bi p) := by
  unfold bi
  by_cases h : p
  · rw [if_pos h]; rfl
  · rw [if_neg h]; rfl
