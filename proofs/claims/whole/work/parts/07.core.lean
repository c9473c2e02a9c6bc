/-! THE ABSTRACT MACHINE: values with tags for references, a heap of whole numbers by tag, instance and place -/
abbrev AV : Type := Int32 ⊕ Int64 ⊕ (Nat × Nat)
abbrev vI (x : Int32) : AV := .inl x
abbrev vL (x : Int64) : AV := .inr (.inl x)
abbrev vR (t i : Nat) : AV := .inr (.inr (t, i))
abbrev Hp : Type := Nat → Nat → Nat → Int32
/-- the world's constants: slots of classes, classes of arrays, addresses -/
abbrev GE : Type := va_G × (Nat → ClassId) × (Nat → Nat → Nat)
def cv (G : GE) : AV → Value
  | .inl x => .int x
  | .inr (.inl x) => .long x
  | .inr (.inr (t, i)) => .ref (G.2.2 t i)
def fv (G : GE) (h : Hp) (t i k : Nat) : Option (Nat × Nat) → Value
  | none => .int (h t i k)
  | some (t', j) => .ref (G.2.2 t' (i + j))
def fvs (G : GE) (h : Hp) (t i : Nat) : Nat → List (Option (Nat × Nat)) → List Value
  | _, [] => []
  | k, d :: ds => fv G h t i k d :: fvs G h t i (k + 1) ds
def entS (G : GE) (h : Hp) (t i : Nat) : Option Sh → va_E
  | some (.inl (ci, fs)) => .inr (ci, fvs G h t i 0 fs)
  | some (.inr (.inl (kd, n))) => .inl (G.2.1 kd, n, .inl (h t i))
  | some (.inr (.inr (kd, n, et))) => .inl (G.2.1 kd, n, .inr (.inr (.inr (.inr (fun j => some (G.2.2 et j))))))
  | none => .inr (0, [])
def ent (G : GE) (h : Hp) (t i : Nat) : va_E := entS G h t i (sh t)
def wsG (G : GE) (h : Hp) : va_W := keys.map fun q => (G.2.2 q.1 q.2, ent G h q.1 q.2)
def tysG (G : GE) : List (ClassId × FieldType) := [(G.2.1 0, .int), (G.2.1 1, .boolean), (G.2.1 2, .object RX6), (G.2.1 3, .object RX4)]
def Ac (G : GE) : Nat → Prop := fun q => ∃ t i, (t, i) ∈ keys ∧ q = G.2.2 t i
def Inj (G : GE) : Prop := ∀ t i t' i', (t, i) ∈ keys → (t', i') ∈ keys → G.2.2 t i = G.2.2 t' i' → t = t' ∧ i = i'
theorem keys_nodup : keys.Nodup := by decide
theorem wsG_at {G : GE} {h : Hp} {q : Nat} {t i : Nat} (hq : keys[q]? = some (t, i)) : (wsG G h)[q]? = some (G.2.2 t i, ent G h t i) := by
  unfold wsG
  rw [List.getElem?_map, hq]
  rfl
theorem wsG_of {G : GE} {h : Hp} {k : Nat} {p : Nat × va_E} (hk : (wsG G h)[k]? = some p) : ∃ t i, keys[k]? = some (t, i) ∧ p = (G.2.2 t i, ent G h t i) := by
  unfold wsG at hk
  rw [List.getElem?_map] at hk
  cases hq : keys[k]? with
  | none => rw [hq] at hk; cases hk
  | some z => rw [hq] at hk; exact ⟨z.1, z.2, rfl, (Option.some.inj hk).symm⟩
theorem keys_inj {i j : Nat} {z : Nat × Nat} (h1 : keys[i]? = some z) (h2 : keys[j]? = some z) : i = j := by
  obtain ⟨hi, e1⟩ := List.getElem?_eq_some_iff.mp h1
  obtain ⟨hj, e2⟩ := List.getElem?_eq_some_iff.mp h2
  have a1 := List.Nodup.idxOf_getElem keys_nodup i hi
  have a2 := List.Nodup.idxOf_getElem keys_nodup j hj
  rw [e1] at a1
  rw [e2] at a2
  exact a1.symm.trans a2
theorem wsG_D {G : GE} (hG : Inj G) (h : Hp) : va_D (Ac G) (wsG G h) := by
  refine ⟨fun i j p q hp hq e => ?_, fun k q hk => ?_⟩
  · obtain ⟨t, a, h1, rfl⟩ := wsG_of hp
    obtain ⟨t', a', h2, rfl⟩ := wsG_of hq
    obtain ⟨rfl, rfl⟩ := hG t a t' a' (List.mem_of_getElem? h1) (List.mem_of_getElem? h2) e
    exact keys_inj h1 h2
  · obtain ⟨t, a, h1, rfl⟩ := wsG_of hk
    exact ⟨t, a, List.mem_of_getElem? h1, rfl⟩
/-- one cell becomes another: the world of another heap -/
theorem wsG_set {G : GE} {h h' : Hp} {q t i : Nat} (hq : keys[q]? = some (t, i)) (ho : ∀ t' i', (t', i') ≠ (t, i) → ent G h' t' i' = ent G h t' i') {e : va_E} (he : ent G h' t i = e) : (wsG G h).set q (G.2.2 t i, e) = wsG G h' := by
  apply List.ext_getElem?
  intro k
  rw [List.getElem?_set]
  by_cases hk : q = k
  · subst hk
    have h1 := wsG_at (G := G) (h := h) hq
    have h2 := wsG_at (G := G) (h := h') hq
    have hlt : q < (wsG G h).length := (List.getElem?_eq_some_iff.mp h1).1
    rw [if_pos rfl, if_pos hlt, h2, he]
  · rw [if_neg hk]
    cases hz : keys[k]? with
    | none => simp [wsG, hz]
    | some z =>
      obtain ⟨t', i'⟩ := z
      rw [wsG_at hz, wsG_at hz, ho t' i']
      rintro ⟨rfl, rfl⟩
      exact hk (keys_inj hq hz)
/-! heaps -/
def hset (h : Hp) (t i k : Nat) (v : Int32) : Hp := fun t' i' k' => if t' = t ∧ i' = i ∧ k' = k then v else h t' i' k'
def hsetA (h : Hp) (t i : Nat) (f : Nat → Int32) : Hp := fun t' i' k' => if t' = t ∧ i' = i then f k' else h t' i' k'
theorem entS_congr {G : GE} {h h' : Hp} {t i : Nat} (e : h' t i = h t i) (o : Option Sh) : entS G h' t i o = entS G h t i o := by
  rcases o with _ | ⟨ci, fs⟩ | ⟨kd, n⟩ | ⟨kd, n, et⟩
  · rfl
  · show Sum.inr (ci, fvs G h' t i 0 fs) = Sum.inr (ci, fvs G h t i 0 fs)
    have : ∀ k, fvs G h' t i k fs = fvs G h t i k fs := by
      induction fs with
      | nil => intro k; rfl
      | cons d ds ih =>
        intro k
        show fv G h' t i k d :: _ = fv G h t i k d :: _
        rw [ih (k + 1)]
        cases d with
        | none => show Value.int (h' t i k) :: _ = Value.int (h t i k) :: _; rw [e]
        | some z => rfl
    rw [this 0]
  · show Sum.inl (G.2.1 kd, n, Sum.inl (h' t i)) = Sum.inl (G.2.1 kd, n, Sum.inl (h t i))
    rw [e]
  · rfl
theorem hset_other {h : Hp} {t i k : Nat} {v : Int32} {t' i' : Nat} (hne : (t', i') ≠ (t, i)) : hset h t i k v t' i' = h t' i' := by
  funext k'
  unfold hset
  rw [if_neg]
  rintro ⟨rfl, rfl, -⟩
  exact hne rfl
theorem hsetA_other {h : Hp} {t i : Nat} {f : Nat → Int32} {t' i' : Nat} (hne : (t', i') ≠ (t, i)) : hsetA h t i f t' i' = h t' i' := by
  funext k'
  unfold hsetA
  rw [if_neg]
  rintro ⟨rfl, rfl⟩
  exact hne rfl
theorem hset_arr (h : Hp) (t i k : Nat) (v : Int32) : hset h t i k v t i = upd (h t i) k v := by
  funext k'
  unfold hset upd
  by_cases hk : k' = k
  · rw [if_pos ⟨rfl, rfl, hk⟩, if_pos hk]
  · rw [if_neg (fun z => hk z.2.2), if_neg hk]
theorem hsetA_arr (h : Hp) (t i : Nat) (f : Nat → Int32) : hsetA h t i f t i = f := by
  funext k'
  unfold hsetA
  rw [if_pos ⟨rfl, rfl⟩]
theorem fvs_get {G : GE} {h : Hp} {t i : Nat} : ∀ (fs : List (Option (Nat × Nat))) (k0 k : Nat) (d : Option (Nat × Nat)), nth fs k = some d → (fvs G h t i k0 fs)[k]? = some (fv G h t i (k0 + k) d)
  | [], _, _, _, hk => by cases hk
  | _ :: _, k0, 0, d, hk => by
    obtain rfl := Option.some.inj hk
    rfl
  | _ :: ds, k0, k + 1, d, hk => by
    have := fvs_get (G := G) (h := h) (t := t) (i := i) ds (k0 + 1) k d hk
    show (fvs G h t i (k0 + 1) ds)[k]? = _
    rw [this, Nat.add_assoc, Nat.add_comm 1 k]
theorem fvs_length {G : GE} {h : Hp} {t i : Nat} : ∀ (fs : List (Option (Nat × Nat))) (k0 : Nat), (fvs G h t i k0 fs).length = fs.length
  | [], _ => rfl
  | _ :: ds, k0 => by
    show (fvs G h t i (k0 + 1) ds).length + 1 = ds.length + 1
    rw [fvs_length ds (k0 + 1)]
theorem nth_lt {α : Type} : ∀ (l : List α) (k : Nat) (d : α), nth l k = some d → k < l.length
  | [], _, _, h => by cases h
  | _ :: l, 0, _, _ => Nat.succ_pos _
  | _ :: l, k + 1, d, h => Nat.succ_lt_succ (nth_lt l k d h)
theorem nth_mem {α : Type} : ∀ (l : List α) (k : Nat) (d : α), nth l k = some d → d ∈ l
  | [], _, _, h => by cases h
  | a :: l, 0, _, h => by obtain rfl := Option.some.inj h; exact List.mem_cons_self
  | _ :: l, k + 1, d, h => List.mem_cons_of_mem _ (nth_mem l k d h)
theorem fvs_set {G : GE} {h : Hp} {t i : Nat} {v : Int32} : ∀ (fs : List (Option (Nat × Nat))) (k0 k : Nat), nth fs k = some none → fvs G (hset h t i (k0 + k) v) t i k0 fs = (fvs G h t i k0 fs).set k (.int v)
  | [], _, _, hk => by cases hk
  | d :: ds, k0, 0, hk => by
    obtain rfl := Option.some.inj hk
    show Value.int (hset h t i (k0 + 0) v t i k0) :: fvs G (hset h t i (k0 + 0) v) t i (k0 + 1) ds = Value.int v :: fvs G h t i (k0 + 1) ds
    have e1 : hset h t i (k0 + 0) v t i k0 = v := by unfold hset; rw [if_pos ⟨rfl, rfl, rfl⟩]
    have e2 : ∀ (l : List (Option (Nat × Nat))) (k1 : Nat), k0 < k1 → fvs G (hset h t i (k0 + 0) v) t i k1 l = fvs G h t i k1 l := by
      intro l
      induction l with
      | nil => intro k1 _; rfl
      | cons z zs ih =>
        intro k1 hk1
        show fv G (hset h t i (k0 + 0) v) t i k1 z :: _ = fv G h t i k1 z :: _
        rw [ih (k1 + 1) (Nat.lt_succ_of_lt hk1)]
        cases z with
        | none =>
          show Value.int (hset h t i (k0 + 0) v t i k1) :: _ = Value.int (h t i k1) :: _
          have : hset h t i (k0 + 0) v t i k1 = h t i k1 := by unfold hset; rw [if_neg]; rintro ⟨-, -, e⟩; omega
          rw [this]
        | some _ => rfl
    rw [e1, e2 ds (k0 + 1) (Nat.lt_succ_self _)]
  | d :: ds, k0, k + 1, hk => by
    have e : k0 + (k + 1) = (k0 + 1) + k := by omega
    have := fvs_set (G := G) (h := h) (t := t) (i := i) (v := v) ds (k0 + 1) k hk
    show fv G (hset h t i (k0 + (k + 1)) v) t i k0 d :: fvs G (hset h t i (k0 + (k + 1)) v) t i (k0 + 1) ds = fv G h t i k0 d :: (fvs G h t i (k0 + 1) ds).set k (.int v)
    rw [e, this]
    cases d with
    | none =>
      show Value.int (hset h t i (k0 + 1 + k) v t i k0) :: _ = Value.int (h t i k0) :: _
      have : hset h t i (k0 + 1 + k) v t i k0 = h t i k0 := by unfold hset; rw [if_neg]; rintro ⟨-, -, e⟩; omega
      rw [this]
    | some _ => rfl
/-! which references are good -/
def okV : AV → Prop
  | .inr (.inr (t, i)) => (t, i) ∈ keys ∨ 60 ≤ t
  | _ => True
def okS (l : List AV) : Prop := ∀ v ∈ l, okV v
def okL (l : List (Option AV)) : Prop := ∀ v, some v ∈ l → okV v
theorem okS.tl {v : AV} {l : List AV} (h : okS (v :: l)) : okS l := fun w hw => h w (List.mem_cons_of_mem _ hw)
theorem okS.hd {v : AV} {l : List AV} (h : okS (v :: l)) : okV v := h v List.mem_cons_self
theorem okS.co {v : AV} {l : List AV} (hv : okV v) (h : okS l) : okS (v :: l) := fun w hw => (List.mem_cons.mp hw).elim (fun e => e ▸ hv) (h w)
theorem okS.ci {x : Int32} {l : List AV} (h : okS l) : okS (vI x :: l) := okS.co trivial h
theorem okS.cl {x : Int64} {l : List AV} (h : okS l) : okS (vL x :: l) := okS.co trivial h
theorem sh_lt {t : Nat} {z : Sh} (h : sh t = some z) : t < 60 := Nat.lt_of_lt_of_le (nth_lt shL t z h) (by decide)
theorem okV.key {t i : Nat} {z : Sh} (h : okV (vR t i)) (hs : sh t = some z) : ∃ q : Nat, keys[q]? = some (t, i) := by
  rcases h with h | h
  · exact List.getElem?_of_mem h
  · exact absurd (sh_lt hs) (Nat.not_lt.mpr h)
def fldOk : Bool := keys.all fun q => match sh q.1 with
  | some (.inl (_, fs)) => fs.all fun d => match d with
    | some (t', j) => decide ((t', q.2 + j) ∈ keys)
    | none => true
  | some (.inr (.inr (_, n, et))) => (List.range n).all fun j => decide ((et, j) ∈ keys)
  | _ => true
theorem fldOk_true : fldOk = true := by decide +kernel
theorem fld_ok {t i ci : Nat} {fs : List (Option (Nat × Nat))} {k t' j : Nat} (hq : (t, i) ∈ keys) (hs : sh t = some (.inl (ci, fs))) (hk : nth fs k = some (some (t', j))) : (t', i + j) ∈ keys := by
  have h1 := List.all_eq_true.mp fldOk_true (t, i) hq
  simp only [hs] at h1
  have h2 := List.all_eq_true.mp h1 _ (nth_mem fs k _ hk)
  exact of_decide_eq_true h2
theorem arr_ok {t i kd n et j : Nat} (hq : (t, i) ∈ keys) (hs : sh t = some (.inr (.inr (kd, n, et)))) (hj : j < n) : (et, j) ∈ keys := by
  have h1 := List.all_eq_true.mp fldOk_true (t, i) hq
  simp only [hs] at h1
  exact of_decide_eq_true (List.all_eq_true.mp h1 j (List.mem_range.mpr hj))
/-! locals -/
def lset {α : Type} : List α → Nat → α → List α
  | [], _, _ => []
  | _ :: l, 0, v => v :: l
  | a :: l, n + 1, v => a :: lset l n v
def asc (G : GE) : Nat → List (Option AV) → List (Nat × Value)
  | _, [] => []
  | k, none :: l => asc G (k + 1) l
  | k, some v :: l => (k, cv G v) :: asc G (k + 1) l
theorem asc_mem {G : GE} : ∀ (l : List (Option AV)) (k i : Nat) (v : AV), nth l i = some (some v) → (k + i, cv G v) ∈ asc G k l
  | [], _, _, _, h => by cases h
  | a :: l, k, 0, v, h => by
    obtain rfl := Option.some.inj h
    exact List.mem_cons_self
  | none :: l, k, i + 1, v, h => by
    have := asc_mem (G := G) l (k + 1) i v h
    rw [show k + (i + 1) = k + 1 + i by omega]
    exact this
  | some w :: l, k, i + 1, v, h => by
    have := asc_mem (G := G) l (k + 1) i v h
    rw [show k + (i + 1) = k + 1 + i by omega]
    exact List.mem_cons_of_mem _ this
theorem asc_of {G : GE} : ∀ (l : List (Option AV)) (k j : Nat) (w : Value), (j, w) ∈ asc G k l → ∃ i v, j = k + i ∧ nth l i = some (some v) ∧ w = cv G v
  | [], _, _, _, h => by cases h
  | none :: l, k, j, w, h => by
    obtain ⟨i, v, h1, h2, h3⟩ := asc_of (G := G) l (k + 1) j w h
    exact ⟨i + 1, v, by omega, h2, h3⟩
  | some a :: l, k, j, w, h => by
    rcases List.mem_cons.mp h with h | h
    · exact ⟨0, a, by have := congrArg Prod.fst h; simpa using this, rfl, congrArg Prod.snd h⟩
    · obtain ⟨i, v, h1, h2, h3⟩ := asc_of (G := G) l (k + 1) j w h
      exact ⟨i + 1, v, by omega, h2, h3⟩
def lk (G : GE) (ls : Array Slot) (n : Nat) (lv : List (Option AV)) : Prop := lv_has ls n (asc G 0 lv)
theorem lk_get {G : GE} {ls : Array Slot} {n : Nat} {lv : List (Option AV)} (h : lk G ls n lv) {i : Nat} {v : AV} (hi : nth lv i = some (some v)) : ls[i]? = some (.val (cv G v)) := by
  have := asc_mem (G := G) lv 0 i v hi
  rw [Nat.zero_add] at this
  exact h.2.2 _ this
theorem lv_has_sub {ls : Array Slot} {n : Nat} {l l' : List (Nat × Value)} (h : lv_has ls n l) (hs : ∀ q ∈ l', q ∈ l) : lv_has ls n l' := ⟨h.1, h.2.1, fun q hq => h.2.2 q (hs q hq)⟩
def noL (lv : List (Option AV)) : Nat → Bool
  | 0 => true
  | i + 1 => match nth lv i with
    | some (some (.inr (.inl _))) => false
    | _ => true
theorem nth_lset {α : Type} : ∀ (l : List α) (i k : Nat) (v w : α), nth (lset l i v) k = some w → (k = i ∧ w = v) ∨ (k ≠ i ∧ nth l k = some w)
  | [], i, k, v, w, h => by cases h
  | a :: l, 0, 0, v, w, h => Or.inl ⟨rfl, (Option.some.inj h).symm⟩
  | a :: l, 0, k + 1, v, w, h => Or.inr ⟨by omega, h⟩
  | a :: l, i + 1, 0, v, w, h => Or.inr ⟨by omega, h⟩
  | a :: l, i + 1, k + 1, v, w, h => by
    rcases nth_lset l i k v w h with ⟨h1, h2⟩ | ⟨h1, h2⟩
    · exact Or.inl ⟨by omega, h2⟩
    · exact Or.inr ⟨by omega, h2⟩
theorem lk_set {G : GE} {ls' : Array Slot} {n : Nat} {lv : List (Option AV)} {i : Nat} {v : AV} (hn : noL lv i = true) (h : lv_has ls' n ((i, cv G v) :: (asc G 0 lv).filter (fun q => !(q.1 == i) && !(q.1 + 1 == i && q.2.category == 2)))) : lk G ls' n (lset lv i (some v)) := by
  refine lv_has_sub h fun q hq => ?_
  obtain ⟨j, w⟩ := q
  obtain ⟨k, u, h1, h2, h3⟩ := asc_of _ _ _ _ hq
  rw [Nat.zero_add] at h1
  subst h1
  rcases nth_lset lv i j (some v) (some u) h2 with ⟨rfl, e⟩ | ⟨hne, hu⟩
  · obtain rfl := Option.some.inj e
    rw [h3]
    exact List.mem_cons_self
  · refine List.mem_cons_of_mem _ (List.mem_filter.mpr ⟨?_, ?_⟩)
    · have := asc_mem (G := G) lv 0 j u hu
      rw [Nat.zero_add] at this
      rw [h3]
      exact this
    · have a1 : (j == i) = false := beq_false_of_ne hne
      have a2 : (j + 1 == i && w.category == 2) = false := by
        by_cases hji : j + 1 = i
        · subst hji
          have hn' : (match nth lv j with | some (some (.inr (.inl _))) => false | _ => true) = true := hn
          rw [hu] at hn'
          rcases u with x | x | ⟨t, y⟩
          · rw [h3]; simp [cv, Value.category]
          · cases hn'
          · rw [h3]; simp [cv, Value.category]
        · rw [beq_false_of_ne hji]; rfl
      show (!(j == i) && !(j + 1 == i && w.category == 2)) = true
      rw [a1, a2]; rfl
theorem okL_set {lv : List (Option AV)} {i : Nat} {v : AV} (h : okL lv) (hv : okV v) : okL (lset lv i (some v)) := by
  have key : ∀ (l : List (Option AV)) (i : Nat), okL l → okL (lset l i (some v)) := by
    intro l
    induction l with
    | nil => intro i h; exact h
    | cons a l ih =>
      intro i h w hw
      cases i with
      | zero =>
        rcases List.mem_cons.mp hw with e | hw
        · obtain rfl := Option.some.inj e; exact hv
        · exact h w (List.mem_cons_of_mem _ hw)
      | succ i =>
        rcases List.mem_cons.mp hw with e | hw
        · exact h w (by rw [e]; exact List.mem_cons_self)
        · exact ih i (fun u hu => h u (List.mem_cons_of_mem _ hu)) w hw
  exact key lv i h
theorem okL_get {lv : List (Option AV)} {i : Nat} {v : AV} (h : okL lv) (hi : nth lv i = some (some v)) : okV v := h v (nth_mem _ _ _ hi)
