/-! MAKING: cells -/
def lf (x : List Int32) : Nat → Int32 := fun j => x.getD j 0
theorem lf_up (x : List Int32) (v : Int32) : upd (lf x) x.length v = lf (x ++ [v]) := by
  funext j
  unfold upd lf
  by_cases h : j = x.length
  · rw [if_pos h, h]; simp
  · rw [if_neg h]
    by_cases h2 : j < x.length
    · simp [List.getElem?_append_left h2]
    · simp [List.getElem?_eq_none (show x.length ≤ j by omega), List.getElem?_eq_none (show (x ++ [v]).length ≤ j by simp; omega)]
section
variable {l : Launch} {G : GE} {mi : MI} {nk : NK} {cells slots pc : Nat} {lv : List (Nat × Value)} {st : List Value} {ws : va_W}
theorem N_new {idx N : Nat} (ci : Nat) {C : String} {T : u_T} (ty : Nat → FieldType) (fs : List Value) (hd : decode mi.2.1 pc = .ok (.new idx, 3)) (hc : vwCl[ci]? = some (C, T, N)) (hw : Cond.classLink mi.1.cls idx C ∈ TB ∧ Cond.instantiable C N ∈ TB ∧ Cond.initialized C ∈ TB) (hu : ∀ w ∈ u_ws C T N, w ∈ TB) (hty : ∀ k, k < N → parseFieldDescriptor (T k).2.2.1 = some (ty k)) (hfs : ∀ j, j < N → defaultValue (ty j) = vp_V fs j) (hr : cells + 1 ≤ nk.2.1.cells ∧ slots + N ≤ nk.2.1.slots) (k : ∀ q : Nat, Nv l G mi nk (cells + 1) (slots + N) (pc + 3) lv (.ref q :: st) (ws ++ [(q, .inr (ci, fs))])) : Nv l G mi nk cells slots pc lv st ws := by
  intro p e s m args below meth c X H locs ls hP hD hS hl
  have hts := X.2.2.2.2.1
  exact va_new X.1 X.2.1 hts hu ty hty X.2.2.2.1 (hts _ hw.1) (hts _ hw.2.1) (hts _ hw.2.2) X.2.2.2.2.2.1 hP hD hS X.2.2.2.2.2.2.2.1 hc hfs hr.1 hr.2 hd (fun q H1 hP1 hD1 hS1 => k q p e s m args below meth c X H1 locs ls hP1 hD1 hS1 hl)
theorem N_newI {N : Nat} {n : Int32} (hd : decode mi.2.1 pc = .ok (.newarray .int, 2)) (hw : Cond.arrayClass .int ∈ TB) (hn : ¬ n < 0) (hN : n.toNatClampNeg = N) (hb : N * 4 ≤ 536870912) (hr : cells + 1 ≤ nk.2.1.cells ∧ slots + N ≤ nk.2.1.slots) (k : ∀ q : Nat, Nv l G mi nk (cells + 1) (slots + N) (pc + 2) lv (.ref q :: st) (ws ++ [(q, .inl (G.2.1 0, N, .inl (lf [])))])) : Nv l G mi nk cells slots pc lv (.int n :: st) ws := by
  intro p e s m args below meth c X H locs ls hP hD hS hl
  have hts := X.2.2.2.2.1
  have hK := X.2.2.2.2.2.1
  refine va_newa (atype := .int) (ty := .int) (a0 := (N, .inl (lf []))) X.1 X.2.1 (hts _ hw) rfl hK hP hD hS X.2.2.2.2.2.2.2.1 (fun cA => rfl) hn hN hb hr.1 hr.2 hd (fun q cA H1 hK1 hP1 hD1 hS1 => ?_)
  have h1 : s.vm.findClass ("[" ++ FieldType.int.toString) = some cA := (hK1.2 4 (cA, .int) rfl).2
  have h2 : s.vm.findClass ("[" ++ FieldType.int.toString) = some (G.2.1 0) := (hK.2 0 _ tys0).2
  have h3 : cA = G.2.1 0 := Option.some.inj (h1.symm.trans h2)
  subst h3
  exact k q p e s m args below meth c X H1 locs ls hP1 hD1 hS1 hl
theorem N_newZ {N : Nat} {n : Int32} (hd : decode mi.2.1 pc = .ok (.newarray .boolean, 2)) (hw : Cond.arrayClass .boolean ∈ TB) (hn : ¬ n < 0) (hN : n.toNatClampNeg = N) (hb : N * 1 ≤ 536870912) (hr : cells + 1 ≤ nk.2.1.cells ∧ slots + N ≤ nk.2.1.slots) (k : ∀ q : Nat, Nv l G mi nk (cells + 1) (slots + N) (pc + 2) lv (.ref q :: st) (ws ++ [(q, .inl (G.2.1 1, N, .inl (lf [])))])) : Nv l G mi nk cells slots pc lv (.int n :: st) ws := by
  intro p e s m args below meth c X H locs ls hP hD hS hl
  have hts := X.2.2.2.2.1
  have hK := X.2.2.2.2.2.1
  refine va_newa (atype := .boolean) (ty := .boolean) (a0 := (N, .inl (lf []))) X.1 X.2.1 (hts _ hw) rfl hK hP hD hS X.2.2.2.2.2.2.2.1 (fun cA => rfl) hn hN hb hr.1 hr.2 hd (fun q cA H1 hK1 hP1 hD1 hS1 => ?_)
  have h1 : s.vm.findClass ("[" ++ FieldType.boolean.toString) = some cA := (hK1.2 4 (cA, .boolean) rfl).2
  have h2 : s.vm.findClass ("[" ++ FieldType.boolean.toString) = some (G.2.1 1) := (hK.2 1 _ tys1).2
  have h3 : cA = G.2.1 1 := Option.some.inj (h1.symm.trans h2)
  subst h3
  exact k q p e s m args below meth c X H1 locs ls hP1 hD1 hS1 hl
theorem N_newQ {N idx : Nat} {n : Int32} (kd : Nat) {C : String} (hd : decode mi.2.1 pc = .ok (.anewarray idx, 3)) (hkd : ∀ G : GE, (tysG G)[kd]? = some (G.2.1 kd, .object C)) (hw : Cond.classLink mi.1.cls idx C ∈ TB) (ho : ∀ (G : GE) (A : Nat → Prop) (U : State) (H : Heap), SU G A U H → va_AO C U) (hn : ¬ n < 0) (hN : n.toNatClampNeg = N) (hb : N * 4 ≤ 536870912) (hr : cells + 1 ≤ nk.2.1.cells ∧ slots + N ≤ nk.2.1.slots) (k : ∀ q : Nat, Nv l G mi nk (cells + 1) (slots + N) (pc + 3) lv (.ref q :: st) (ws ++ [(q, .inl (G.2.1 kd, N, .inr (.inr (.inr (.inr (fun _ => none))))))])) : Nv l G mi nk cells slots pc lv (.int n :: st) ws := by
  intro p e s m args below meth c X H locs ls hP hD hS hl
  have hts := X.2.2.2.2.1
  have hK := X.2.2.2.2.2.1
  refine va_newq X.1 X.2.1 X.2.2.2.1 (hts _ hw) (ho _ _ _ _ X.2.2.2.2.2.2.1) hK hP hD hS X.2.2.2.2.2.2.2.1 hn hN hb hr.1 hr.2 hd (fun q cA H1 hK1 hP1 hD1 hS1 => ?_)
  obtain ⟨k1, c1, -, -, -, h1⟩ := (hK1.2 4 (cA, .object C) rfl).2
  obtain ⟨k2, c2, -, -, -, h2⟩ := (hK.2 kd _ (hkd G)).2
  have h3 : cA = G.2.1 kd := Option.some.inj (h1.symm.trans h2)
  subst h3
  exact k q p e s m args below meth c X H1 locs ls hP1 hD1 hS1 hl
theorem N_get {idx ci k a : Nat} (q0 : Nat) {fs : List Value} {v : Value} (hd : decode mi.2.1 pc = .ok (.getfield idx, 3)) (hf : FL mi.1.cls idx ci k) (he : ws[q0]? = some (a, .inr (ci, fs))) (hv : fs[k]? = some v) (kk : Nv l G mi nk cells slots (pc + 3) lv (v :: st) ws) : Nv l G mi nk cells slots pc lv (.ref a :: st) ws := by
  intro p e s m args below meth c X H locs ls hP hD hS hl
  obtain ⟨C, T, N, hc, hkN, hw, hu⟩ := hf
  exact va_get X.1 X.2.1 X.2.2.2.2.1 hu X.2.2.2.1 X.2.2.2.2.2.1 hP q0 he hc k hkN (X.2.2.2.2.1 _ hw) (fun _ z => z) hv hd (kk p e s m args below meth c X H locs ls hP hD hS hl)
/-- a field that its class's constructor writes -/
def FQ (own : String) (idx ci k : Nat) (fin : Bool) (ty : FieldType) : Prop := ∃ (C : String) (T : u_T) (N : Nat) (ty0 : Nat → FieldType), vwCl[ci]? = some (C, T, N) ∧ k < N ∧ Cond.fieldLink own idx (T k).1 (T k).2.1 (T k).2.2.1 ∈ TB ∧ (∀ w ∈ u_ws C T N, w ∈ TB) ∧ (∀ k, k < N → parseFieldDescriptor (T k).2.2.1 = some (ty0 k)) ∧ (∀ a, a < N → ∀ b, b < N → a ≠ b → (T a).2.1 ≠ (T b).2.1) ∧ (T k).2.2.2 = fin ∧ (T k).1 = own ∧ ty0 k = ty
theorem N_putF {idx ci k a : Nat} (q0 : Nat) {fs : List Value} {v : Value} {ty : FieldType} {ws' : va_W} (hd : decode mi.2.1 pc = .ok (.putfield idx, 3)) (hf : FQ mi.1.cls idx ci k true ty) (he : ws[q0]? = some (a, .inr (ci, fs))) (hi : mi.1.name = "<init>") (hn : narrow ty v = v) (hfit : fits ty v = true) (hk : k < fs.length) (hws : ws.set q0 (a, .inr (ci, fs.set k v)) = ws') (kk : Nv l G mi nk cells slots (pc + 3) lv st ws') : Nv l G mi nk cells slots pc lv (v :: .ref a :: st) ws := by
  subst hws
  intro p e s m args below meth c X H locs ls hP hD hS hl
  obtain ⟨C, T, N, ty0, hc, hkN, hw, hu, hty, hnm, hfin, hown, hint⟩ := hf
  exact va_putF (v := v) (ty := ty) X.1 X.2.1 X.2.2.2.2.1 hu ty0 hty hnm X.2.2.2.1 X.2.2.2.2.2.1 hP hD hS q0 he hc k hkN (X.2.2.2.2.1 _ hw) (fun _ z => z) hfin (X.2.2.2.2.2.2.2.2.2.2 hi) hown ((hty k hkN).trans (congrArg some hint)) hn hfit hk hd (fun H1 locs1 hP1 hD1 hS1 => kk p e s m args below meth c X H1 locs1 ls hP1 hD1 hS1 hl)
theorem N_putI {idx ci k a : Nat} (q0 : Nat) {fs : List Value} {v : Value} {ty : FieldType} {ws' : va_W} (hd : decode mi.2.1 pc = .ok (.putfield idx, 3)) (hf : FQ mi.1.cls idx ci k false ty) (he : ws[q0]? = some (a, .inr (ci, fs))) (hn : narrow ty v = v) (hfit : fits ty v = true) (hk : k < fs.length) (hws : ws.set q0 (a, .inr (ci, fs.set k v)) = ws') (kk : Nv l G mi nk cells slots (pc + 3) lv st ws') : Nv l G mi nk cells slots pc lv (v :: .ref a :: st) ws := by
  subst hws
  intro p e s m args below meth c X H locs ls hP hD hS hl
  obtain ⟨C, T, N, ty0, hc, hkN, hw, hu, hty, hnm, hfin, hown, hint⟩ := hf
  exact va_put (v := v) (ty := ty) X.1 X.2.1 X.2.2.2.2.1 hu ty0 hty hnm X.2.2.2.1 X.2.2.2.2.2.1 hP hD hS q0 he hc k hkN (X.2.2.2.2.1 _ hw) (fun _ z => z) hfin ((hty k hkN).trans (congrArg some hint)) hn hfit hk hd (fun H1 locs1 hP1 hD1 hS1 => kk p e s m args below meth c X H1 locs1 ls hP1 hD1 hS1 hl)
theorem N_iast {a n : Nat} (q0 : Nat) {x : List Int32} {i v : Int32} {ws' : va_W} (hd : decode mi.2.1 pc = .ok (.iastore, 1)) (ha : ws[q0]? = some (a, .inl (G.2.1 0, n, .inl (lf x)))) (hi : i.toNatClampNeg = x.length) (hin : vp_in i n) (hws : ws.set q0 (a, .inl (G.2.1 0, n, .inl (lf (x ++ [v])))) = ws') (kk : Nv l G mi nk cells slots (pc + 1) lv st ws') : Nv l G mi nk cells slots pc lv (.int v :: .int i :: .ref a :: st) ws := by
  subst hws
  intro p e s m args below meth c X H locs ls hP hD hS hl
  refine va_iast X.1 X.2.1 X.2.2.2.2.2.1 hP hD hS q0 0 ha tys0 hin hd (fun H1 locs1 hP1 hD1 hS1 => ?_)
  rw [hi, lf_up] at hP1 hD1
  exact kk p e s m args below meth c X H1 locs1 ls hP1 hD1 hS1 hl
theorem N_aast {a n v : Nat} (q0 kd qk ci : Nat) {C : String} {T : u_T} {N : Nat} {vs : List Value} {f : Nat → Option Nat} {i : Int32} {ws' : va_W} (hd : decode mi.2.1 pc = .ok (.aastore, 1)) (ha : ws[q0]? = some (a, .inl (G.2.1 kd, n, .inr (.inr (.inr (.inr f)))))) (hkd : ∀ G : GE, (tysG G)[kd]? = some (G.2.1 kd, .object C)) (hv : ws[qk]? = some (v, .inr (ci, vs))) (hc : vwCl[ci]? = some (C, T, N)) (hin : vp_in i n) (hws : ws.set q0 (a, .inl (G.2.1 kd, n, .inr (.inr (.inr (.inr (va_up f i.toNatClampNeg (some v))))))) = ws') (kk : Nv l G mi nk cells slots (pc + 1) lv st ws') : Nv l G mi nk cells slots pc lv (.ref v :: .int i :: .ref a :: st) ws := by
  subst hws
  intro p e s m args below meth c X H locs ls hP hD hS hl
  exact va_astq (r := (C, T, N)) X.1 X.2.1 X.2.2.2.2.2.1 hP hD hS q0 kd qk ci ha (hkd G) hv hc hin hd (fun H1 locs1 hP1 hD1 hS1 => kk p e s m args below meth c X H1 locs1 ls hP1 hD1 hS1 hl)
theorem N_gets {idx : Nat} (hd : decode mi.2.1 pc = .ok (.getstatic idx, 3)) (hw : Cond.fieldLink mi.1.cls idx RX3 "USUAL" "[I" ∈ TB) (kk : Nv l G mi nk cells slots (pc + 3) lv (.ref (G.2.2 60 0) :: st) ws) : Nv l G mi nk cells slots pc lv st ws := by
  intro p e s m args below meth c X H locs ls hP hD hS hl
  exact va_gets X.1 X.2.1 X.2.2.2.2.2.2.1.1 hS X.2.2.2.1 (X.2.2.2.2.1 _ hw) (fun _ z => z) hd (kk p e s m args below meth c X H locs ls hP hD hS hl)
end
