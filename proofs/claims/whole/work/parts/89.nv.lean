/-! MAKING: worlds that grow -/
/-- what nobody writes while the objects are made -/
def nestI : List Cond := [.methodLinkNest RX7 9 yX5_init RX7, .methodLinkNest RX7 18 yX1_init RX7, .methodLinkNest RX7 36 yX6_init RX7, .methodLinkNest RX7 56 yX2_init RX7, .methodLinkNest RX7 67 yX4_init RX7]
def SU (G : GE) (A : Nat → Prop) (U : State) (H : Heap) : Prop :=
  va_Z RX3 "USUAL" "[I" (.ref (G.2.2 60 0)) A U H ∧ va_T .int (G.2.2 60 0) 18 (fun j => .int (tUSUAL.getD j 0)) A U H ∧
  (va_Nw (.methodLinkNest RX7 9 yX5_init RX7) U ∧ va_Nw (.methodLinkNest RX7 18 yX1_init RX7) U ∧ va_Nw (.methodLinkNest RX7 36 yX6_init RX7) U ∧ va_Nw (.methodLinkNest RX7 56 yX2_init RX7) U ∧ va_Nw (.methodLinkNest RX7 67 yX4_init RX7) U) ∧ va_AO RX6 U ∧ va_AO RX4 U
theorem SU.warm {G : GE} {A : Nat → Prop} {s U : State} {H : Heap} (hW : s.WarmedH U.vm) (h : SU G A s H) : SU G A U H := by
  obtain ⟨h1, h2, ⟨n1, n2, n3, n4, n5⟩, h4, h5⟩ := h
  exact ⟨h1.moved hW.alike, h2.moved hW.alike, ⟨n1.warmM hW, n2.warmM hW, n3.warmM hW, n4.warmM hW, n5.warmM hW⟩, h4.moved hW.alike, h5.moved hW.alike⟩
theorem SU.same {G : GE} {A : Nat → Prop} {s U : State} {H : Heap} (hv : U.vm = s.vm) (h : SU G A s H) : SU G A U H := by
  obtain ⟨h1, h2, ⟨n1, n2, n3, n4, n5⟩, h4, h5⟩ := h
  have ha : s.vm.Alike U.vm := by rw [hv]; exact Vm.Alike.refl s.vm
  exact ⟨h1.moved ha, h2.moved ha, ⟨va_Nw.same rfl hv.symm n1, va_Nw.same rfl hv.symm n2, va_Nw.same rfl hv.symm n3, va_Nw.same rfl hv.symm n4, va_Nw.same rfl hv.symm n5⟩, h4.moved ha, h5.moved ha⟩
theorem SU.kept {G : GE} {A : Nat → Prop} {U : State} {H H1 : Heap} (h : SU G A U H) (hq : ∀ a : Nat, a < H.size → ¬ A a → H1[a]? = H[a]?) : SU G A U H1 := ⟨h.1.kept hq, h.2.1.kept hq, h.2.2⟩
theorem SU.narrow {G : GE} {A B : Nat → Prop} {U : State} {H : Heap} (h : SU G A U H) (hAB : ∀ q, B q → A q) : SU G B U H := ⟨h.1.narrow hAB, h.2.1.narrow hAB, h.2.2⟩
/-- what a frame may write, its room, where it goes -/
abbrev NK : Type := (State → Nat → Prop) × Room × (State → Array Value → List Frame → State → Prop)
def Cn (G : GE) (mi : MI) (nk : NK) (p : Program) (s : State) (m : MethodId) (args : Array Value) (meth : Method) (c : Code) : Prop :=
  p.tables.exec = Jvm.exec ∧ c.code = mi.2.1 ∧ c.maxLocals = mi.2.2.1 ∧ s.vm.findClass mi.1.cls = some m.cls ∧ (∀ w ∈ TB, w.before args s = true) ∧ va_K G.1 vwCl (tysG G) s ∧ SU G (nk.1 s) s s.heap ∧ (∀ q, s.heap.size ≤ q → nk.1 s q) ∧ meth.locks = false ∧ meth.sig.returnType = mi.2.2.2.1 ∧ (mi.1.name = "<init>" → meth.name = "<init>")
def Nv (l : Launch) (G : GE) (mi : MI) (nk : NK) (cells slots pc : Nat) (lv : List (Nat × Value)) (st : List Value) (ws : va_W) : Prop :=
  ∀ (p : Program) (e : Env) (s : State) (m : MethodId) (args : Array Value) (below : List Frame) (meth : Method) (c : Code), Cn G mi nk p s m args meth c →
  ∀ (H : Heap) (locs : List Loc) (ls : Array Slot), va_P G.1 vwCl ws H → va_D (nk.1 s) ws → va_S (nk.1 s) s.heap H locs → lv_has ls mi.2.2.1 lv →
    W p l e nk.2.1 s m args below meth c H locs cells slots (nk.2.2 s args below) (F0 m pc ls st)
theorem N_ws {l : Launch} {G : GE} {mi : MI} {nk : NK} {cells slots pc : Nat} {lv : List (Nat × Value)} {st : List Value} {ws ws' : va_W} (e : ws = ws') (k : Nv l G mi nk cells slots pc lv st ws') : Nv l G mi nk cells slots pc lv st ws := by
  subst e; exact k
theorem N_cs {l : Launch} {G : GE} {mi : MI} {nk : NK} {cells slots cells' slots' pc : Nat} {lv : List (Nat × Value)} {st : List Value} {ws : va_W} (e1 : cells = cells') (e2 : slots = slots') (k : Nv l G mi nk cells' slots' pc lv st ws) : Nv l G mi nk cells slots pc lv st ws := by
  subst e1; subst e2; exact k
section
variable {l : Launch} {G : GE} {mi : MI} {nk : NK} {cells slots pc : Nat} {lv : List (Nat × Value)} {st : List Value} {ws : va_W}
theorem N_aload {j : Fin 4} (k0 : Nat) {i x : Nat} (hd : decode mi.2.1 pc = .ok (.aload_n j, 1)) (hi : (j : Nat) = i) (hv : lv[k0]? = some (i, .ref x)) (k : Nv l G mi nk cells slots (pc + 1) lv (.ref x :: st) ws) : Nv l G mi nk cells slots pc lv st ws := by
  intro p e s m args below meth c X H locs ls hP hD hS hl
  exact lv_aload_n X.1 X.2.1 hd hi (lv_at hl k0 hv) (k p e s m args below meth c X H locs ls hP hD hS hl)
theorem N_iload {j : Fin 4} (k0 : Nat) {i : Nat} {x : Int32} (hd : decode mi.2.1 pc = .ok (.iload_n j, 1)) (hi : (j : Nat) = i) (hv : lv[k0]? = some (i, .int x)) (k : Nv l G mi nk cells slots (pc + 1) lv (.int x :: st) ws) : Nv l G mi nk cells slots pc lv st ws := by
  intro p e s m args below meth c X H locs ls hP hD hS hl
  exact lv_iload_n X.1 X.2.1 hd hi (lv_at hl k0 hv) (k p e s m args below meth c X H locs ls hP hD hS hl)
theorem N_istore {j : Fin 4} {i : Nat} {x : Int32} {lv' : List (Nat × Value)} (hd : decode mi.2.1 pc = .ok (.istore_n j, 1)) (hi : (j : Nat) = i) (hn : i < mi.2.2.1) (hl' : (i, Value.int x) :: lv.filter (fun q => !(q.1 == i) && !(q.1 + 1 == i && q.2.category == 2)) = lv') (k : Nv l G mi nk cells slots (pc + 1) lv' st ws) : Nv l G mi nk cells slots pc lv (.int x :: st) ws := by
  intro p e s m args below meth c X H locs ls hP hD hS hl
  exact lv_istore_n X.1 X.2.1 hd hi hl hn hl' (fun ls9 h9 => k p e s m args below meth c X H locs ls9 hP hD hS h9)
theorem N_astore {j : Fin 4} {i : Nat} {x : Nat} {lv' : List (Nat × Value)} (hd : decode mi.2.1 pc = .ok (.astore_n j, 1)) (hi : (j : Nat) = i) (hn : i < mi.2.2.1) (hl' : (i, Value.ref x) :: lv.filter (fun q => !(q.1 == i) && !(q.1 + 1 == i && q.2.category == 2)) = lv') (k : Nv l G mi nk cells slots (pc + 1) lv' st ws) : Nv l G mi nk cells slots pc lv (.ref x :: st) ws := by
  intro p e s m args below meth c X H locs ls hP hD hS hl
  exact lv_astore_n X.1 X.2.1 hd hi hl hn hl' (fun ls9 h9 => k p e s m args below meth c X H locs ls9 hP hD hS h9)
theorem N_iinc {i : Nat} (k0 : Nat) {n : Int} {x v : Int32} {lv' : List (Nat × Value)} (hd : decode mi.2.1 pc = .ok (.iinc i n, 3)) (hv : lv[k0]? = some (i, .int x)) (hx : x + Int32.ofInt n = v) (hn : i < mi.2.2.1) (hl' : (i, Value.int v) :: lv.filter (fun q => !(q.1 == i) && !(q.1 + 1 == i && q.2.category == 2)) = lv') (k : Nv l G mi nk cells slots (pc + 3) lv' st ws) : Nv l G mi nk cells slots pc lv st ws := by
  intro p e s m args below meth c X H locs ls hP hD hS hl
  exact lv_iinc X.1 X.2.1 hd hl hv hx hn hl' (fun ls9 h9 => k p e s m args below meth c X H locs ls9 hP hD hS h9)
theorem N_dup {v : Value} (hd : decode mi.2.1 pc = .ok (.dup, 1)) (hc : v.category = 1) (k : Nv l G mi nk cells slots (pc + 1) lv (v :: v :: st) ws) : Nv l G mi nk cells slots pc lv (v :: st) ws := by
  intro p e s m args below meth c X H locs ls hP hD hS hl
  exact lv_dup X.1 X.2.1 hd hc (k p e s m args below meth c X H locs ls hP hD hS hl)
theorem N_iconst {n : Int} (v : Int32) (hd : decode mi.2.1 pc = .ok (.iconst n, 1)) (hv : Int32.ofInt n = v) (k : Nv l G mi nk cells slots (pc + 1) lv (.int v :: st) ws) : Nv l G mi nk cells slots pc lv st ws := by
  intro p e s m args below meth c X H locs ls hP hD hS hl
  exact lv_iconst X.1 X.2.1 hd hv (k p e s m args below meth c X H locs ls hP hD hS hl)
theorem N_bipush {n : Int} (v : Int32) (hd : decode mi.2.1 pc = .ok (.bipush n, 2)) (hv : (Int8.ofInt n).toInt32 = v) (k : Nv l G mi nk cells slots (pc + 2) lv (.int v :: st) ws) : Nv l G mi nk cells slots pc lv st ws := by
  intro p e s m args below meth c X H locs ls hP hD hS hl
  exact lv_bipush X.1 X.2.1 hd hv (k p e s m args below meth c X H locs ls hP hD hS hl)
theorem N_sipush {n : Int} (v : Int32) (hd : decode mi.2.1 pc = .ok (.sipush n, 3)) (hv : (Int16.ofInt n).toInt32 = v) (k : Nv l G mi nk cells slots (pc + 3) lv (.int v :: st) ws) : Nv l G mi nk cells slots pc lv st ws := by
  intro p e s m args below meth c X H locs ls hP hD hS hl
  exact lv_sipush X.1 X.2.1 hd hv (k p e s m args below meth c X H locs ls hP hD hS hl)
theorem N_goto {off : Int} (tgt : Nat) (hd : decode mi.2.1 pc = .ok (.goto off, 3)) (ht : (pc : Int) + off = (tgt : Int)) (k : Nv l G mi nk cells slots tgt lv st ws) : Nv l G mi nk cells slots pc lv st ws := by
  intro p e s m args below meth c X H locs ls hP hD hS hl
  exact lv_goto X.1 X.2.1 hd ht (k p e s m args below meth c X H locs ls hP hD hS hl)
theorem N_icmp_geT {x y : Int32} {off : Int} (tgt : Nat) (hd : decode mi.2.1 pc = .ok (.if_icmp .ge off, 3)) (ht : (pc : Int) + off = (tgt : Int)) (hc : y ≤ x) (k : Nv l G mi nk cells slots tgt lv st ws) : Nv l G mi nk cells slots pc lv (.int y :: .int x :: st) ws := by
  intro p e s m args below meth c X H locs ls hP hD hS hl
  exact lv_icmp_ge X.1 X.2.1 hd ht (fun _ => k p e s m args below meth c X H locs ls hP hD hS hl) (fun z => absurd hc z)
theorem N_icmp_geF {x y : Int32} {off : Int} (tgt : Nat) (hd : decode mi.2.1 pc = .ok (.if_icmp .ge off, 3)) (ht : (pc : Int) + off = (tgt : Int)) (hc : ¬ y ≤ x) (k : Nv l G mi nk cells slots (pc + 3) lv st ws) : Nv l G mi nk cells slots pc lv (.int y :: .int x :: st) ws := by
  intro p e s m args below meth c X H locs ls hP hD hS hl
  exact lv_icmp_ge X.1 X.2.1 hd ht (fun z => absurd z hc) (fun _ => k p e s m args below meth c X H locs ls hP hD hS hl)
theorem N_obj {idx x : Nat} (hd : decode mi.2.1 pc = .ok (.invokespecial idx, 3)) (hw : Cond.methodLink mi.1.cls idx objectInit ∈ TB ∧ Cond.instanceMethod objectInit ∈ TB ∧ Cond.code objectInit ⟨#[0xb1]⟩ 1 none ∈ TB) (hr : 1 ≤ nk.2.1.frames ∧ 12 ≤ nk.2.1.locals) (k : Nv l G mi nk cells slots (pc + 3) lv [] ws) : Nv l G mi nk cells slots pc lv [.ref x] ws := by
  intro p e s m args below meth c X H locs ls hP hD hS hl
  have hts := X.2.2.2.2.1
  refine W.objInit X.1 X.2.1 X.2.2.2.1 (hts _ hw.1) (hts _ hw.2.1) (hts _ hw.2.2) rfl (by rw [X.2.2.1]; exact hl.1) rfl hd hr.1 hr.2 ?_
  refine W.eq (g2 := F0 m (pc + 3) ls []) rfl ?_
  exact k p e s m args below meth c X H locs ls hP hD hS hl
end
