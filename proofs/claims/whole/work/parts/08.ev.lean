/-! CONTEXT, CONTRACTS AND THE JUDGEMENT -/
/-- a method: name, bytes, number of locals, answer's type, depth of its calls -/
abbrev MI : Type := MethodName × ByteArray × Nat × Option FieldType × Nat
def rmD (d : Nat) : Room := { frames := d, cells := 0, slots := 0, locals := 38 * d }
def tUSUAL : List Int32 := [5, 5, 5, 5, 9, 9, 9, 20, 5, 2, 15, 10, 2, 6, 1, 0, 0, 1]
def tLEAST : List Int32 := [1, 1, 1, 1, 1, 1, 1, 0, 1, 1, 0, 0, 0, 1, 1, 0, 0, 1]
def tMOST : List Int32 := [20, 20, 20, 20, 18, 18, 18, 60, 20, 9, 99, 30, 9, 18, 2, 2, 20, 5]
abbrev RO : Type := Nat → Option (Nat × (Nat → Int32))
def roM : RO
  | 60 => some (18, fun j => tUSUAL.getD j 0)
  | 61 => some (18, fun j => tLEAST.getD j 0)
  | 62 => some (18, fun j => tMOST.getD j 0)
  | _ => none
def statL : List (String × Nat) := [("USUAL", 60), ("LEAST", 61), ("MOST", 62)]
def nestW : List Cond := [.methodLinkNest RX1 61 yX7_within RX7, .methodLinkNest RX6 15 yX7_within RX7, .methodLinkNest RX0 107 yX7_dividedDown RX7, .methodLinkNest RX2 25 yX7_within RX7, .methodLinkNest RX4 17 yX7_within RX7]
def strText : String := "weightbend  rise  run   fall  mark  stand near  quick feet  pit   habit seen  "
def strBytes : List Int32 := [119, 101, 105, 103, 104, 116, 98, 101, 110, 100, 32, 32, 114, 105, 115, 101, 32, 32, 114, 117, 110, 32, 32, 32, 102, 97, 108, 108, 32, 32, 109, 97, 114, 107, 32, 32, 115, 116, 97, 110, 100, 32, 110, 101, 97, 114, 32, 32, 113, 117, 105, 99, 107, 32, 102, 101, 101, 116, 32, 32, 112, 105, 116, 32, 32, 32, 104, 97, 98, 105, 116, 32, 115, 101, 101, 110, 32, 32]
/-- what nobody writes: the rules' tables, the text of names, who may call whom in the nest -/
def Stat (G : GE) (U : State) (H : Heap) : Prop :=
  (∀ q ∈ statL, va_Z RX3 q.1 "[I" (.ref (G.2.2 q.2 0)) (Ac G) U H) ∧
  (∀ t n f, roM t = some (n, f) → va_T .int (G.2.2 t 0) n (fun j => .int (f j)) (Ac G) U H) ∧
  (va_Nw (.methodLinkNest RX1 61 yX7_within RX7) U ∧ va_Nw (.methodLinkNest RX6 15 yX7_within RX7) U ∧ va_Nw (.methodLinkNest RX0 107 yX7_dividedDown RX7) U ∧ va_Nw (.methodLinkNest RX2 25 yX7_within RX7) U ∧ va_Nw (.methodLinkNest RX4 17 yX7_within RX7) U) ∧
  vk_R RX1 91 strText (G.2.2 64 0) U ∧ vk_S 1 [78] [strBytes] (fun _ => G.2.2 64 0) (fun _ => G.2.2 65 0) (Ac G) U H ∧ va_Z RJ0 "COMPACT_STRINGS" "Z" (.int 1) (Ac G) U H ∧ va_Zq RJ3 "SIOOBE_FORMATTER" "Ljava/util/function/BiFunction;" (Ac G) U H
theorem Stat.warm {G : GE} {s U : State} {H : Heap} (hW : s.WarmedH U.vm) (h : Stat G s H) : Stat G U H := by
  obtain ⟨h1, h2, ⟨n1, n2, n3, n4, n5⟩, h4, h5, h6, h7⟩ := h
  exact ⟨fun q hq => (h1 q hq).moved hW.alike, fun t n f hf => (h2 t n f hf).moved hW.alike, ⟨n1.warmM hW, n2.warmM hW, n3.warmM hW, n4.warmM hW, n5.warmM hW⟩, h4.warm hW, h5.moved hW.alike, h6.moved hW.alike, h7.moved hW.alike⟩
theorem Stat.kept {G : GE} {U : State} {H H1 : Heap} (hq : ∀ a : Nat, a < H.size → ¬ Ac G a → H1[a]? = H[a]?) (h : Stat G U H) : Stat G U H1 := by
  obtain ⟨h1, h2, h3, h4, h5, h6, h7⟩ := h
  exact ⟨fun q hq' => (h1 q hq').kept hq, fun t n f hf => (h2 t n f hf).kept hq, h3, h4, h5.kept hq, h6.kept hq, h7.kept hq⟩
theorem Stat.same {G : GE} {s U : State} {H : Heap} (hv : U.vm = s.vm) (h : Stat G s H) : Stat G U H := by
  obtain ⟨h1, h2, ⟨n1, n2, n3, n4, n5⟩, h4, h5, h6, h7⟩ := h
  have ha : s.vm.Alike U.vm := by rw [hv]; exact Vm.Alike.refl s.vm
  exact ⟨fun q hq => (h1 q hq).moved ha, fun t n f hf => (h2 t n f hf).moved ha, ⟨va_Nw.same rfl hv.symm n1, va_Nw.same rfl hv.symm n2, va_Nw.same rfl hv.symm n3, va_Nw.same rfl hv.symm n4, va_Nw.same rfl hv.symm n5⟩, h4.same hv, h5.moved ha, h6.moved ha, h7.moved ha⟩
def World (G : GE) (h : Hp) (U : State) : Prop := va_P G.1 vwCl (wsG G h) U.heap ∧ va_K G.1 vwCl (tysG G) U ∧ Inj G ∧ Stat G U U.heap
def wA (mi : MI) : List Cond := .code mi.1 mi.2.1 mi.2.2.1 mi.2.2.2.1 :: TB
abbrev QT : Type := Option Int32 → Hp → Prop
def Qc (G : GE) (Q : QT) : Array Value → State → Outcome → State → Prop := fun _ st oc t => (∃ (r : Option Int32) (h' : Hp), oc = .returned (r.map Value.int) ∧ Q r h' ∧ va_P G.1 vwCl (wsG G h') t.heap) ∧ va_F (Ac G) st t
/-- the contract: called on these arguments and this heap the method returns, and Q holds of its answer and the heap behind it -/
def CT (l : Launch) (G : GE) (mi : MI) (as : List AV) (h : Hp) (Q : QT) : Prop :=
  okS as → Met l mi.1 (wA mi) (rmD mi.2.2.2.2) (va_Pc (as.map (cv G)) (World G h)) (Qc G Q) 0 0 (Ac G)
/-- the frame's kind: read-only rows beside those of every method, room, cells and slots so far, what is to be reached -/
abbrev FK : Type := RO × Room × Nat × Nat × (State → Array Value → List Frame → State → Prop)
def fkM (G : GE) (mi : MI) (Q : QT) : FK := (roM, rmD mi.2.2.2.2, 0, 0, fun s args below => MQ below (Qc G Q) args s 0 0 (Ac G))
def Cx (G : GE) (mi : MI) (fk : FK) (p : Program) (s : State) (m : MethodId) (args : Array Value) (meth : Method) (c : Code) : Prop :=
  p.tables.exec = Jvm.exec ∧ c.code = mi.2.1 ∧ c.maxLocals = mi.2.2.1 ∧ s.vm.findClass mi.1.cls = some m.cls ∧ (∀ w ∈ TB, w.before args s = true) ∧ va_K G.1 vwCl (tysG G) s ∧ Inj G ∧ Stat G s s.heap ∧ (∀ t n f, fk.1 t = some (n, f) → va_T .int (G.2.2 t 0) n (fun j => .int (f j)) (Ac G) s s.heap) ∧ meth.locks = false ∧ meth.sig.returnType = mi.2.2.2.1
/-- from this place, with these locals, this stack and this heap, the machine comes where the frame's kind says -/
def Ev (l : Launch) (G : GE) (mi : MI) (fk : FK) (pc : Nat) (lv : List (Option AV)) (st : List AV) (h : Hp) : Prop :=
  ∀ (p : Program) (e : Env) (s : State) (m : MethodId) (args : Array Value) (below : List Frame) (meth : Method) (c : Code), Cx G mi fk p s m args meth c →
  ∀ (H : Heap) (locs : List Loc) (ls : Array Slot), va_P G.1 vwCl (wsG G h) H → va_S (Ac G) s.heap H locs → lk G ls mi.2.2.1 lv → okL lv → okS st →
    W p l e fk.2.1 s m args below meth c H locs fk.2.2.1 fk.2.2.2.1 (fk.2.2.2.2 s args below) (F0 m pc ls (st.map (cv G)))
/-! a contract out of a walk -/
def lvA : List AV → List (Option AV)
  | [] => []
  | .inr (.inl x) :: l => some (vL x) :: none :: lvA l
  | v :: l => some v :: lvA l
def lvOf (as : List AV) (n : Nat) : List (Option AV) := lvA as ++ List.replicate (n - (lvA as).length) none
theorem asc_app {G : GE} : ∀ (l : List (Option AV)) (k n : Nat), asc G k (l ++ List.replicate n none) = asc G k l
  | [], k, n => by
    induction n generalizing k with
    | zero => rfl
    | succ n ih => show asc G (k + 1) (List.replicate n none) = []; exact ih (k + 1)
  | none :: l, k, n => asc_app l (k + 1) n
  | some v :: l, k, n => by
    show (k, cv G v) :: asc G (k + 1) (l ++ List.replicate n none) = (k, cv G v) :: asc G (k + 1) l
    rw [asc_app l (k + 1) n]
theorem asc_args {G : GE} : ∀ (as : List AV) (k : Nat), asc G k (lvA as) = lv_args k (as.map (cv G))
  | [], k => rfl
  | .inl x :: l, k => by
    show (k, Value.int x) :: asc G (k + 1) (lvA l) = (k, Value.int x) :: lv_args (k + 1) (l.map (cv G))
    rw [asc_args l (k + 1)]
  | .inr (.inl x) :: l, k => by
    show (k, Value.long x) :: asc G (k + 1 + 1) (lvA l) = (k, Value.long x) :: lv_args (k + 2) (l.map (cv G))
    rw [asc_args l (k + 1 + 1)]
  | .inr (.inr (t, i)) :: l, k => by
    show (k, Value.ref (G.2.2 t i)) :: asc G (k + 1) (lvA l) = (k, Value.ref (G.2.2 t i)) :: lv_args (k + 1) (l.map (cv G))
    rw [asc_args l (k + 1)]
theorem lg_len {G : GE} : ∀ (as : List AV), (lg_sl (as.map (cv G))).length = (lvA as).length
  | [] => rfl
  | .inl x :: l => by show (lg_sl (l.map (cv G))).length + 1 = (lvA l).length + 1; rw [lg_len l]
  | .inr (.inl x) :: l => by show (lg_sl (l.map (cv G))).length + 1 + 1 = (lvA l).length + 1 + 1; rw [lg_len l]
  | .inr (.inr (t, i)) :: l => by show (lg_sl (l.map (cv G))).length + 1 = (lvA l).length + 1; rw [lg_len l]
theorem okL_of {as : List AV} {n : Nat} (h : okS as) : okL (lvOf as n) := by
  have key : ∀ (as : List AV), okS as → okL (lvA as) := by
    intro as
    induction as with
    | nil => intro _ v hv; cases hv
    | cons a as ih =>
      intro h v hv
      rcases a with x | x | ⟨t, i⟩
      · rcases List.mem_cons.mp hv with e | hv
        · obtain rfl := Option.some.inj e; trivial
        · exact ih h.tl v hv
      · rcases List.mem_cons.mp hv with e | hv
        · obtain rfl := Option.some.inj e; trivial
        · rcases List.mem_cons.mp hv with e | hv
          · cases e
          · exact ih h.tl v hv
      · rcases List.mem_cons.mp hv with e | hv
        · obtain rfl := Option.some.inj e; exact h.hd
        · exact ih h.tl v hv
  intro v hv
  rcases List.mem_append.mp hv with h1 | h1
  · exact key as h v h1
  · cases (List.mem_replicate.mp h1).2
/-- as the kit's Met.ofW, of a method that is plain itself (Math has methods that a table replaces, but not these) -/
theorem metF {l : Launch} {y : MethodName} {ws ws' : List Cond} {rm : Room} {Pc : Array Value → State → Prop} {Qc : Array Value → State → Outcome → State → Prop} {mc ms : Nat} {free : Addr → Prop} {cc : ByteArray} {maxL : Nat} {ret : Option FieldType}
    (hy : plainFor y = true) (hw : ws = Cond.code y cc maxL ret :: ws')
    (body : ∀ p e s m args below meth c s₁, BodyLoose p l y (headSpec ws rm) cc maxL ret e s m args below meth c s₁ → c.maxLocals = maxL → Pc args s →
      W p l e (headSpec ws rm).room s m args below meth c s.heap [] 0 0 (MQ below Qc args s mc ms free) (entryFrame m args maxL)) : Met l y ws rm Pc Qc mc ms free := by
  refine MetFree.of_bodySF (code := cc) (maxLocals := maxL) (ret := ret) hy ?_ ?_
  · intro args s m h hn
    obtain ⟨meth, c, h1, h2, h3, h4, h5, h6, -, -⟩ := Cond.code_spec hn (atoms_spec (ws := ws) h _ (by rw [hw]; exact List.mem_cons_self))
    exact ⟨meth, c, h1, h2, h3, h4, h5, h6⟩
  · intro p e s m args below meth c s₁ B hml hP _
    have hh0 : s₁.heap = s.heap := by rw [B.state]; rfl
    obtain ⟨t, a1, o, b1, b2, b3⟩ := body p e s m args below meth c s₁ B hml hP s₁ hh0 (Stand.of_body B)
    exact ⟨t, o, a1, b1, b2, ⟨b3.1, b3.2⟩⟩
theorem CT.of {l : Launch} {G : GE} {mi : MI} {as : List AV} {h : Hp} {Q : QT} (hp : plainFor mi.1 = true) (hn : (lvA as).length ≤ mi.2.2.1) {lv : List (Option AV)} (hlv : lvOf as mi.2.2.1 = lv) (k : Ev l G mi (fkM G mi Q) 0 lv [] h) : CT l G mi as h Q := by
  subst hlv
  intro hok
  refine metF (cc := mi.2.1) (maxL := mi.2.2.1) (ret := mi.2.2.2.1) hp rfl ?_
  intro p e s m args below meth c s₁ B hml hv
  obtain ⟨rfl, hP, hK, hI, hSt⟩ := hv
  have hts := atoms_spec (ws := wA mi) B.pre
  rw [lg_entry_eq]
  refine k p e s m _ below meth c ⟨B.exec, B.bytes, hml, findClass_of_methodNamed B.named, fun w hw => hts w (List.mem_cons_of_mem _ hw), hK, hI, hSt, hSt.2.1, B.notSynchronized, B.returns⟩ s.heap [] _ hP va_S.rf ?_ (okL_of hok) (fun v hv => by cases hv)
  have h1 := lv_entry (as.map (cv G)) (n := mi.2.2.1) (by rw [lg_len]; exact hn)
  unfold lk lvOf
  rw [asc_app, asc_args]
  exact h1
