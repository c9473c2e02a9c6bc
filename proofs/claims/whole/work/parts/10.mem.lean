/-! FIELDS -/
/-- field k of class ci may be read through place idx of own's pool -/
def FL (own : String) (idx ci k : Nat) : Prop := ∃ (C : String) (T : u_T) (N : Nat), vwCl[ci]? = some (C, T, N) ∧ k < N ∧ Cond.fieldLink own idx (T k).1 (T k).2.1 (T k).2.2.1 ∈ TB ∧ (∀ w ∈ u_ws C T N, w ∈ TB)
def FP (own : String) (idx ci k : Nat) : Prop := ∃ (C : String) (T : u_T) (N : Nat) (ty0 : Nat → FieldType), vwCl[ci]? = some (C, T, N) ∧ k < N ∧ Cond.fieldLink own idx (T k).1 (T k).2.1 (T k).2.2.1 ∈ TB ∧ (∀ w ∈ u_ws C T N, w ∈ TB) ∧ (∀ k, k < N → parseFieldDescriptor (T k).2.2.1 = some (ty0 k)) ∧ (∀ a, a < N → ∀ b, b < N → a ≠ b → (T a).2.1 ≠ (T b).2.1) ∧ (T k).2.2.2 = false ∧ ty0 k = .int
theorem E_getI {l : Launch} {G : GE} {mi : MI} {fk : FK} {pc : Nat} {lv : List (Option AV)} {st : List AV} {h : Hp} {idx ci k t i : Nat} {fs : List (Option (Nat × Nat))} (hd : decode mi.2.1 pc = .ok (.getfield idx, 3)) (hf : FL mi.1.cls idx ci k) (hs : sh t = some (.inl (ci, fs))) (hk : nth fs k = some none) (kk : Ev l G mi fk (pc + 3) lv (vI (h t i k) :: st) h) : Ev l G mi fk pc lv (vR t i :: st) h := by
  intro p e s m args below meth c X H locs ls hP hS hl okl oks
  obtain ⟨C, T, N, hc, hkN, hw, hu⟩ := hf
  obtain ⟨q, hq⟩ := okV.key oks.hd hs
  have he : (wsG G h)[q]? = some (G.2.2 t i, .inr (ci, fvs G h t i 0 fs)) := by rw [wsG_at hq]; unfold ent; rw [hs]; rfl
  have hv := fvs_get (G := G) (h := h) (t := t) (i := i) fs 0 k none hk
  rw [Nat.zero_add] at hv
  exact va_get X.1 X.2.1 X.2.2.2.2.1 hu X.2.2.2.1 X.2.2.2.2.2.1 hP q he hc k hkN (X.2.2.2.2.1 _ hw) (fun _ z => z) hv hd (kk p e s m args below meth c X H locs ls hP hS hl okl oks.tl.ci)
theorem E_getR {l : Launch} {G : GE} {mi : MI} {fk : FK} {pc : Nat} {lv : List (Option AV)} {st : List AV} {h : Hp} {idx ci k t i t' j : Nat} {fs : List (Option (Nat × Nat))} (hd : decode mi.2.1 pc = .ok (.getfield idx, 3)) (hf : FL mi.1.cls idx ci k) (hs : sh t = some (.inl (ci, fs))) (hk : nth fs k = some (some (t', j))) (kk : Ev l G mi fk (pc + 3) lv (vR t' (i + j) :: st) h) : Ev l G mi fk pc lv (vR t i :: st) h := by
  intro p e s m args below meth c X H locs ls hP hS hl okl oks
  obtain ⟨C, T, N, hc, hkN, hw, hu⟩ := hf
  obtain ⟨q, hq⟩ := okV.key oks.hd hs
  have he : (wsG G h)[q]? = some (G.2.2 t i, .inr (ci, fvs G h t i 0 fs)) := by rw [wsG_at hq]; unfold ent; rw [hs]; rfl
  have hv := fvs_get (G := G) (h := h) (t := t) (i := i) fs 0 k _ hk
  rw [Nat.zero_add] at hv
  exact va_get X.1 X.2.1 X.2.2.2.2.1 hu X.2.2.2.1 X.2.2.2.2.2.1 hP q he hc k hkN (X.2.2.2.2.1 _ hw) (fun _ z => z) hv hd (kk p e s m args below meth c X H locs ls hP hS hl okl (okS.co (Or.inl (fld_ok (List.mem_of_getElem? hq) hs hk)) oks.tl))
theorem E_put {l : Launch} {G : GE} {mi : MI} {fk : FK} {pc : Nat} {lv : List (Option AV)} {st : List AV} {h : Hp} {idx ci k t i : Nat} {x : Int32} {fs : List (Option (Nat × Nat))} (hd : decode mi.2.1 pc = .ok (.putfield idx, 3)) (hf : FP mi.1.cls idx ci k) (hs : sh t = some (.inl (ci, fs))) (hk : nth fs k = some none) (kk : Ev l G mi fk (pc + 3) lv st (hset h t i k x)) : Ev l G mi fk pc lv (vI x :: vR t i :: st) h := by
  intro p e s m args below meth c X H locs ls hP hS hl okl oks
  obtain ⟨C, T, N, ty0, hc, hkN, hw, hu, hty, hnm, hfin, hint⟩ := hf
  obtain ⟨q, hq⟩ := okV.key oks.tl.hd hs
  have he : (wsG G h)[q]? = some (G.2.2 t i, .inr (ci, fvs G h t i 0 fs)) := by rw [wsG_at hq]; unfold ent; rw [hs]; rfl
  refine va_put (v := .int x) (ty := .int) X.1 X.2.1 X.2.2.2.2.1 hu ty0 hty hnm X.2.2.2.1 X.2.2.2.2.2.1 hP (wsG_D X.2.2.2.2.2.2.1 h) hS q he hc k hkN (X.2.2.2.2.1 _ hw) (fun _ z => z) hfin ((hty k hkN).trans (congrArg some hint)) rfl rfl (by rw [fvs_length]; exact nth_lt _ _ _ hk) hd (fun H1 locs1 hP1 hD1 hS1 => ?_)
  have e1 := wsG_set (G := G) (h := h) (h' := hset h t i k x) (e := .inr (ci, (fvs G h t i 0 fs).set k (.int x))) hq (fun t' i' hne => entS_congr (hset_other hne) _) (by unfold ent; rw [hs]; show Sum.inr (ci, fvs G (hset h t i k x) t i 0 fs) = _; have := fvs_set (G := G) (h := h) (t := t) (i := i) (v := x) fs 0 k hk; rw [Nat.zero_add] at this; rw [this])
  rw [e1] at hP1
  exact kk p e s m args below meth c X H1 locs1 ls hP1 hS1 hl okl oks.tl.tl
/-! ARRAYS -/
abbrev ixN (i : Int32) : Nat := i.toNatClampNeg
theorem tys0 {G : GE} : (tysG G)[0]? = some (G.2.1 0, .int) := rfl
theorem tys1 {G : GE} : (tysG G)[1]? = some (G.2.1 1, .boolean) := rfl
theorem ent_arr {G : GE} {h : Hp} {t i q kd n : Nat} (hq : keys[q]? = some (t, i)) (hs : sh t = some (.inr (.inl (kd, n)))) : (wsG G h)[q]? = some (G.2.2 t i, .inl (G.2.1 kd, n, .inl (h t i))) := by rw [wsG_at hq]; unfold ent; rw [hs]; rfl
theorem E_iald {l : Launch} {G : GE} {mi : MI} {fk : FK} {pc : Nat} {lv : List (Option AV)} {st : List AV} {h : Hp} {t i n : Nat} {x : Int32} (hd : decode mi.2.1 pc = .ok (.iaload, 1)) (hs : sh t = some (.inr (.inl (0, n)))) (hx : vp_in x n) (kk : Ev l G mi fk (pc + 1) lv (vI (h t i (ixN x)) :: st) h) : Ev l G mi fk pc lv (vI x :: vR t i :: st) h := by
  intro p e s m args below meth c X H locs ls hP hS hl okl oks
  obtain ⟨q, hq⟩ := okV.key oks.tl.hd hs
  exact va_iald X.1 X.2.1 X.2.2.2.2.2.1 hP q 0 (ent_arr hq hs) tys0 hx hd (kk p e s m args below meth c X H locs ls hP hS hl okl oks.tl.tl.ci)
theorem E_zald {l : Launch} {G : GE} {mi : MI} {fk : FK} {pc : Nat} {lv : List (Option AV)} {st : List AV} {h : Hp} {t i n : Nat} {x : Int32} (hd : decode mi.2.1 pc = .ok (.baload, 1)) (hs : sh t = some (.inr (.inl (1, n)))) (hx : vp_in x n) (kk : Ev l G mi fk (pc + 1) lv (vI (h t i (ixN x)) :: st) h) : Ev l G mi fk pc lv (vI x :: vR t i :: st) h := by
  intro p e s m args below meth c X H locs ls hP hS hl okl oks
  obtain ⟨q, hq⟩ := okV.key oks.tl.hd hs
  exact va_zald X.1 X.2.1 X.2.2.2.2.2.1 hP q 1 (ent_arr hq hs) tys1 hx hd (kk p e s m args below meth c X H locs ls hP hS hl okl oks.tl.tl.ci)
theorem E_ald_ro {l : Launch} {G : GE} {mi : MI} {fk : FK} {pc : Nat} {lv : List (Option AV)} {st : List AV} {h : Hp} {t n : Nat} {f : Nat → Int32} {x : Int32} (hd : decode mi.2.1 pc = .ok (.iaload, 1)) (hs : fk.1 t = some (n, f)) (hx : vp_in x n) (kk : Ev l G mi fk (pc + 1) lv (vI (f (ixN x)) :: st) h) : Ev l G mi fk pc lv (vI x :: vR t 0 :: st) h := by
  intro p e s m args below meth c X H locs ls hP hS hl okl oks
  exact va_ti X.1 X.2.1 (X.2.2.2.2.2.2.2.2.1 t n f hs) hS hx rfl hd (kk p e s m args below meth c X H locs ls hP hS hl okl oks.tl.tl.ci)
theorem E_len_ro {l : Launch} {G : GE} {mi : MI} {fk : FK} {pc : Nat} {lv : List (Option AV)} {st : List AV} {h : Hp} {t n : Nat} {f : Nat → Int32} (hd : decode mi.2.1 pc = .ok (.arraylength, 1)) (hs : fk.1 t = some (n, f)) (kk : Ev l G mi fk (pc + 1) lv (vI (Int32.ofNat n) :: st) h) : Ev l G mi fk pc lv (vR t 0 :: st) h := by
  intro p e s m args below meth c X H locs ls hP hS hl okl oks
  exact va_tlen X.1 X.2.1 (X.2.2.2.2.2.2.2.2.1 t n f hs) hS rfl hd (kk p e s m args below meth c X H locs ls hP hS hl okl oks.tl.ci)
theorem E_len {l : Launch} {G : GE} {mi : MI} {fk : FK} {pc : Nat} {lv : List (Option AV)} {st : List AV} {h : Hp} {t i n : Nat} (hd : decode mi.2.1 pc = .ok (.arraylength, 1)) (hs : sh t = some (.inr (.inl (0, n)))) (kk : Ev l G mi fk (pc + 1) lv (vI (Int32.ofNat n) :: st) h) : Ev l G mi fk pc lv (vR t i :: st) h := by
  intro p e s m args below meth c X H locs ls hP hS hl okl oks
  obtain ⟨q, hq⟩ := okV.key oks.hd hs
  exact va_alen X.1 X.2.1 X.2.2.2.2.2.1 hP q 0 (ent_arr hq hs) tys0 rfl hd (kk p e s m args below meth c X H locs ls hP hS hl okl oks.tl.ci)
theorem wsG_arr {G : GE} {h h' : Hp} {t i q kd n : Nat} {f : Nat → Int32} (hq : keys[q]? = some (t, i)) (hs : sh t = some (.inr (.inl (kd, n)))) (ho : ∀ t' i', (t', i') ≠ (t, i) → h' t' i' = h t' i') (he : h' t i = f) : (wsG G h).set q (G.2.2 t i, .inl (G.2.1 kd, n, .inl f)) = wsG G h' :=
  wsG_set hq (fun t' i' hne => entS_congr (ho t' i' hne) _) (by unfold ent; rw [hs]; show Sum.inl (G.2.1 kd, n, Sum.inl (h' t i)) = _; rw [he])
theorem E_iast {l : Launch} {G : GE} {mi : MI} {fk : FK} {pc : Nat} {lv : List (Option AV)} {st : List AV} {h : Hp} {t i n : Nat} {x v : Int32} (hd : decode mi.2.1 pc = .ok (.iastore, 1)) (hs : sh t = some (.inr (.inl (0, n)))) (hx : vp_in x n) (kk : Ev l G mi fk (pc + 1) lv st (hset h t i (ixN x) v)) : Ev l G mi fk pc lv (vI v :: vI x :: vR t i :: st) h := by
  intro p e s m args below meth c X H locs ls hP hS hl okl oks
  obtain ⟨q, hq⟩ := okV.key oks.tl.tl.hd hs
  refine va_iast X.1 X.2.1 X.2.2.2.2.2.1 hP (wsG_D X.2.2.2.2.2.2.1 h) hS q 0 (ent_arr hq hs) tys0 hx hd (fun H1 locs1 hP1 hD1 hS1 => ?_)
  rw [wsG_arr (G := G) (h' := hset h t i (ixN x) v) hq hs (fun _ _ hne => hset_other hne) (hset_arr h t i (ixN x) v)] at hP1
  exact kk p e s m args below meth c X H1 locs1 ls hP1 hS1 hl okl oks.tl.tl.tl
theorem E_zast {l : Launch} {G : GE} {mi : MI} {fk : FK} {pc : Nat} {lv : List (Option AV)} {st : List AV} {h : Hp} {t i n : Nat} {x v : Int32} (hd : decode mi.2.1 pc = .ok (.bastore, 1)) (hs : sh t = some (.inr (.inl (1, n)))) (hx : vp_in x n) (kk : Ev l G mi fk (pc + 1) lv st (hset h t i (ixN x) (vp_nar .boolean v))) : Ev l G mi fk pc lv (vI v :: vI x :: vR t i :: st) h := by
  intro p e s m args below meth c X H locs ls hP hS hl okl oks
  obtain ⟨q, hq⟩ := okV.key oks.tl.tl.hd hs
  refine va_zast X.1 X.2.1 X.2.2.2.2.2.1 hP (wsG_D X.2.2.2.2.2.2.1 h) hS q 1 (ent_arr hq hs) tys1 hx hd (fun H1 locs1 hP1 hD1 hS1 => ?_)
  rw [wsG_arr (G := G) (h' := hset h t i (ixN x) (vp_nar .boolean v)) hq hs (fun _ _ hne => hset_other hne) (hset_arr h t i (ixN x) _)] at hP1
  exact kk p e s m args below meth c X H1 locs1 ls hP1 hS1 hl okl oks.tl.tl.tl
theorem E_aald {l : Launch} {G : GE} {mi : MI} {fk : FK} {pc : Nat} {lv : List (Option AV)} {st : List AV} {h : Hp} {t i kd n et : Nat} {x : Int32} (hd : decode mi.2.1 pc = .ok (.aaload, 1)) (hs : sh t = some (.inr (.inr (kd, n, et)))) (hc : ∃ C : String, ∀ G : GE, (tysG G)[kd]? = some (G.2.1 kd, .object C)) (hx : vp_in x n) (kk : Ev l G mi fk (pc + 1) lv (vR et (ixN x) :: st) h) : Ev l G mi fk pc lv (vI x :: vR t i :: st) h := by
  intro p e s m args below meth c X H locs ls hP hS hl okl oks
  obtain ⟨C, hC⟩ := hc
  obtain ⟨q, hq⟩ := okV.key oks.tl.hd hs
  have he : (wsG G h)[q]? = some (G.2.2 t i, .inl (G.2.1 kd, n, .inr (.inr (.inr (.inr (fun j => some (G.2.2 et j))))))) := by rw [wsG_at hq]; unfold ent; rw [hs]; rfl
  exact va_aldq X.1 X.2.1 X.2.2.2.2.2.1 hP q kd he (hC G) hx hd (kk p e s m args below meth c X H locs ls hP hS hl okl (okS.co (Or.inl (arr_ok (List.mem_of_getElem? hq) hs (Nat.not_le.mp fun z => hx (Or.inr z)))) oks.tl.tl))
theorem E_gets {l : Launch} {G : GE} {mi : MI} {fk : FK} {pc : Nat} {lv : List (Option AV)} {st : List AV} {h : Hp} {idx t : Nat} {n : String} (hd : decode mi.2.1 pc = .ok (.getstatic idx, 3)) (hm : (n, t) ∈ statL) (hw : Cond.fieldLink mi.1.cls idx RX3 n "[I" ∈ TB) (kk : Ev l G mi fk (pc + 3) lv (vR t 0 :: st) h) : Ev l G mi fk pc lv st h := by
  intro p e s m args below meth c X H locs ls hP hS hl okl oks
  exact va_gets X.1 X.2.1 (X.2.2.2.2.2.2.2.1.1 _ hm) hS X.2.2.2.1 (X.2.2.2.2.1 _ hw) (fun _ z => z) hd (kk p e s m args below meth c X H locs ls hP hS hl okl (okS.co (Or.inr (by
    simp [statL] at hm
    rcases hm with ⟨-, rfl⟩ | ⟨-, rfl⟩ | ⟨-, rfl⟩ <;> decide)) oks))
/-! RETURNS -/
theorem E_iret {l : Launch} {G : GE} {mi : MI} {Q : QT} {pc : Nat} {lv : List (Option AV)} {h : Hp} {x : Int32} (hd : decode mi.2.1 pc = .ok (.ireturn, 1)) (hr : mi.2.2.2.1 = some .int) (hq : Q (some x) h) : Ev l G mi (fkM G mi Q) pc lv [vI x] h := by
  intro p e s m args below meth c X H locs ls hP hS hl okl oks
  have hlk : meth.locks = false := X.2.2.2.2.2.2.2.2.2.1
  exact W.iret (v := x) (Qc := Qc G Q) (free := Ac G) X.1 X.2.1 (X.2.2.2.2.2.2.2.2.2.2.trans hr) (fun t ht hW => ⟨⟨some x, h, rfl, hq, by rw [ht]; exact hP⟩, hS.F ht⟩) hS.2.2 hd hlk
theorem E_zret {l : Launch} {G : GE} {mi : MI} {Q : QT} {pc : Nat} {lv : List (Option AV)} {h : Hp} {x : Int32} {ty : FieldType} (hd : decode mi.2.1 pc = .ok (.ireturn, 1)) (hr : mi.2.2.2.1 = some ty) (hn : narrow ty (.int x) = .int x) (hq : Q (some x) h) : Ev l G mi (fkM G mi Q) pc lv [vI x] h := by
  intro p e s m args below meth c X H locs ls hP hS hl okl oks
  have hlk : meth.locks = false := X.2.2.2.2.2.2.2.2.2.1
  exact W.zret (v := x) (Qc := Qc G Q) (free := Ac G) X.1 X.2.1 (X.2.2.2.2.2.2.2.2.2.2.trans hr) hn (fun t ht hW => ⟨⟨some x, h, rfl, hq, by rw [ht]; exact hP⟩, hS.F ht⟩) hS.2.2 hd hlk
theorem E_vret {l : Launch} {G : GE} {mi : MI} {Q : QT} {pc : Nat} {lv : List (Option AV)} {h : Hp} (hd : decode mi.2.1 pc = .ok (.return_, 1)) (hr : mi.2.2.2.1 = none) (hq : Q none h) : Ev l G mi (fkM G mi Q) pc lv [] h := by
  intro p e s m args below meth c X H locs ls hP hS hl okl oks
  have hlk : meth.locks = false := X.2.2.2.2.2.2.2.2.2.1
  exact W.vret (Qc := Qc G Q) (free := Ac G) X.1 X.2.1 (X.2.2.2.2.2.2.2.2.2.2.trans hr) (fun t ht hW => ⟨⟨none, h, rfl, hq, by rw [ht]; exact hP⟩, hS.F ht⟩) hS.2.2 hd hlk
/-! CALLS -/
theorem wA_good {mi mj : MI} (hc : Cond.code mj.1 mj.2.1 mj.2.2.1 mj.2.2.2.1 ∈ TB) : GoodIn TB (wA mj) := by
  intro w hw
  rcases List.mem_cons.mp hw with rfl | hw
  · exact ⟨hc, good_of_word (TB_good hc)⟩
  · exact ⟨hw, good_of_word (TB_good hw)⟩
theorem World.blind {G : GE} {h : Hp} {av : List Value} : FrameBlind (va_Pc av (World G h)) := by
  intro a U g mk q
  obtain ⟨q0, qP, qK, qI, qS⟩ := q
  exact ⟨q0, qP, va_K.moved (u := U) (U := U.calling g mk a) (Vm.Alike.refl U.vm) qK, qI, Stat.same (s := U) (U := U.calling g mk a) rfl qS⟩
/-- how a method is linked at place idx of own's pool -/
def LkB (own : String) (idx : Nat) (mj : MI) (n : Nat) : Prop := Cond.methodLink own idx mj.1 ∈ TB ∧ Cond.initialized mj.1.cls ∈ TB ∧ Cond.code mj.1 mj.2.1 mj.2.2.1 mj.2.2.2.1 ∈ TB ∧ mj.1.cls ≠ "java/lang/invoke/MethodHandle" ∧ mj.1.cls ≠ "java/lang/invoke/VarHandle" ∧ (parseMethodDescriptor mj.1.desc).map (fun d => d.parameters.length) = some n
def LkV (own : String) (idx : Nat) (mj : MI) (n : Nat) : Prop := LkB own idx mj n ∧ Cond.instanceMethod mj.1 ∈ TB ∧ Cond.selects mj.1.cls mj.1 mj.1 ∈ TB
def LkS (own : String) (idx : Nat) (mj : MI) (n : Nat) : Prop := LkB own idx mj n ∧ Cond.static mj.1 ∈ TB
/-- a nest mate's static method -/
def LkN (own : String) (idx : Nat) (mj : MI) (n : Nat) : Prop := (∀ (G : GE) (U : State) (H : Heap), Stat G U H → va_Nw (.methodLinkNest own idx mj.1 RX7) U) ∧ Cond.initialized mj.1.cls ∈ TB ∧ Cond.code mj.1 mj.2.1 mj.2.2.1 mj.2.2.2.1 ∈ TB ∧ (mj.1.cls ≠ "java/lang/invoke/MethodHandle" ∧ mj.1.cls ≠ "java/lang/invoke/VarHandle" ∧ (parseMethodDescriptor mj.1.desc).map (fun d => d.parameters.length) = some n) ∧ Cond.static mj.1 ∈ TB
def rI : Option Int32 → List AV
  | none => []
  | some x => [vI x]
def wd : List AV → Nat
  | [] => 0
  | .inr (.inl _) :: l => 2 + wd l
  | _ :: l => 1 + wd l
theorem wd_ok {G : GE} : ∀ l : List AV, ((l.map (cv G)).map fun v => v.category).sum = wd l
  | [] => rfl
  | .inl x :: l => by show 1 + ((l.map (cv G)).map fun v => v.category).sum = 1 + wd l; rw [wd_ok l]
  | .inr (.inl x) :: l => by show 2 + ((l.map (cv G)).map fun v => v.category).sum = 2 + wd l; rw [wd_ok l]
  | .inr (.inr (t, i)) :: l => by show 1 + ((l.map (cv G)).map fun v => v.category).sum = 1 + wd l; rw [wd_ok l]
/-- behind a call -/
theorem call_end {l : Launch} {G : GE} {mi : MI} {fk : FK} {pc : Nat} {lv : List (Option AV)} {rest : List AV} {Q : QT} {p : Program} {e : Env} {s : State} {m : MethodId} {args a : Array Value} {below : List Frame} {meth : Method} {c : Code} (X : Cx G mi fk p s m args meth c) {H : Heap} {locs : List Loc} {ls : Array Slot} {st0 : List Value} (hS : va_S (Ac G) s.heap H locs) (hl : lk G ls mi.2.2.1 lv) (okl : okL lv) (okr : okS rest)
    (hr : va_Run p l e fk.2.1 s m args below meth c H locs fk.2.2.1 fk.2.2.2.1 0 0 (F0 m pc ls st0) (rest.map (cv G)) (Qc G Q a) (Ac G))
    (kk : ∀ (r : Option Int32) (h' : Hp), Q r h' → Ev l G mi fk (pc + 3) lv (rI r ++ rest) h') : W p l e fk.2.1 s m args below meth c H locs fk.2.2.1 fk.2.2.2.1 (fk.2.2.2.2 s args below) (F0 m pc ls st0) := by
  intro T hT Y
  obtain ⟨v, st₀, t, T', L, h0, Y', hL, e1, e2, ⟨⟨r, h', hv, hq, hP'⟩, hz, hk⟩, st⟩ := hr T hT Y
  have hv' : v = r.map Value.int := by
    have := hv
    injection this
  subst hv'
  rw [h0] at hz hk
  have hS' : va_S (Ac G) s.heap T'.heap (locs ++ L) := ⟨Nat.le_trans hS.1 (by rw [e1]; exact hz), fun q h1 h2 => by rw [e1, hk q (Nat.lt_of_lt_of_le h1 hS.1) h2]; exact hS.2.1 q h1 h2, fun q hq => by
      rcases List.mem_append.mp hq with h | h
      · exact hS.2.2 q h
      · exact hL q h⟩
  have hok : okS (rI r ++ rest) := by
    cases r with
    | none => exact okr
    | some x => exact okr.ci
  obtain ⟨t2, a1, b1⟩ := kk r h' hq p e s m args below meth c X T'.heap (locs ++ L) ls (by rw [e1]; exact hP') hS' hl okl hok T' rfl Y'
  refine ⟨t2, st t2 ?_, b1⟩
  have e3 : (rI r ++ rest).map (cv G) = (r.map Value.int).toList ++ rest.map (cv G) := by cases r <;> rfl
  rw [e3] at a1
  exact a1
theorem E_callV {l : Launch} {G : GE} {mi : MI} {fk : FK} {pc : Nat} {lv : List (Option AV)} {st : List AV} {h : Hp} {mj : MI} {idx n ci t i : Nat} {as rest : List AV} {fs : List (Option (Nat × Nat))} {T : u_T} {N : Nat} {Q : QT} (hd : decode mi.2.1 pc = .ok (.invokevirtual idx, 3)) (hc : CT l G mj (vR t i :: as) h Q) (hst : st = as.reverse ++ vR t i :: rest) (hL : LkV mi.1.cls idx mj n) (hs : sh t = some (.inl (ci, fs))) (hcl : vwCl[ci]? = some (mj.1.cls, T, N)) (hn : as.length = n) (hR : mj.2.2.2.2 + 1 ≤ fk.2.1.frames ∧ 8 + (mj.2.2.1 + 11) + 38 * mj.2.2.2.2 ≤ fk.2.1.locals ∧ fk.2.2.1 ≤ fk.2.1.cells ∧ fk.2.2.2.1 ≤ fk.2.1.slots) (hw : wd rest ≤ 8)
    (kk : ∀ (r : Option Int32) (h' : Hp), Q r h' → Ev l G mi fk (pc + 3) lv (rI r ++ rest) h') : Ev l G mi fk pc lv st h := by
  subst hst
  intro p e s m args below meth c X H locs ls hP hS hl okl oks
  obtain ⟨⟨w1, w2, w3, w4, w5, w6⟩, w7, w8⟩ := hL
  have hts := X.2.2.2.2.1
  have okr : okS rest := fun v hv => oks v (List.mem_append_right _ (List.mem_cons_of_mem _ hv))
  have okb : okV (vR t i) := oks _ (List.mem_append_right _ List.mem_cons_self)
  have oka : okS (vR t i :: as) := okS.co okb (fun v hv => oks v (List.mem_append_left _ (List.mem_reverse.mpr hv)))
  obtain ⟨q, hq⟩ := okV.key okb hs
  have he : (wsG G h)[q]? = some (G.2.2 t i, .inr (ci, fvs G h t i 0 fs)) := by rw [wsG_at hq]; unfold ent; rw [hs]; rfl
  have hrecv := va_recv X.2.2.2.2.2.1 hP hcl he
  have hM := hc oka
  have hst2 : (as.reverse ++ vR t i :: rest).map (cv G) = (as.map (cv G)).reverse ++ Value.ref (G.2.2 t i) :: rest.map (cv G) := by rw [List.map_append, List.map_reverse]; rfl
  refine call_end X hS hl okl okr (a := (Value.ref (G.2.2 t i) :: as.map (cv G)).toArray) (Q := Q) ?_ kk
  exact va_runV (As := as.map (cv G)) (n := n) (C := mj.1.cls) (b := G.2.2 t i) (own := mi.1.cls) (nL := mi.2.2.1) (bytes := mj.2.1) (maxL := mj.2.2.1) (ret := mj.2.2.2.1) (index := idx) ⟨X.1, X.2.1, X.2.2.1, X.2.2.2.1, hts⟩ hM
    ⟨callB_of n hts (wA_good (mi := mi) w3) rfl rfl rfl (hts _ w2) (hts _ w1) ⟨w4, w5, w6⟩ ⟨hR.1, hR.2.1⟩, hts _ w7, hts _ w8⟩
    ⟨World.blind, hrecv, fun U hU hW => ⟨rfl, by rw [hU]; exact hP, va_K.moved hW.alike X.2.2.2.2.2.1, X.2.2.2.2.2.2.1, by rw [hU]; exact (X.2.2.2.2.2.2.2.1.kept hS.2.1).warm hW⟩⟩
    rfl (by rw [List.length_map]; exact hn) hl.1 hst2 (lv_room (by rw [wd_ok]; exact hw)) hd ⟨hR.2.2.1, hR.2.2.2⟩
theorem E_callS {l : Launch} {G : GE} {mi : MI} {fk : FK} {pc : Nat} {lv : List (Option AV)} {st : List AV} {h : Hp} {mj : MI} {idx n : Nat} {as rest : List AV} {Q : QT} (hd : decode mi.2.1 pc = .ok (.invokestatic idx, 3)) (hc : CT l G mj as h Q) (hst : st = as.reverse ++ rest) (hL : LkS mi.1.cls idx mj n) (hn : as.length = n) (hR : mj.2.2.2.2 + 1 ≤ fk.2.1.frames ∧ 8 + (mj.2.2.1 + 11) + 38 * mj.2.2.2.2 ≤ fk.2.1.locals ∧ fk.2.2.1 ≤ fk.2.1.cells ∧ fk.2.2.2.1 ≤ fk.2.1.slots) (hw : wd rest ≤ 8)
    (kk : ∀ (r : Option Int32) (h' : Hp), Q r h' → Ev l G mi fk (pc + 3) lv (rI r ++ rest) h') : Ev l G mi fk pc lv st h := by
  subst hst
  intro p e s m args below meth c X H locs ls hP hS hl okl oks
  obtain ⟨⟨w1, w2, w3, w4, w5, w6⟩, w7⟩ := hL
  have hts := X.2.2.2.2.1
  have okr : okS rest := fun v hv => oks v (List.mem_append_right _ hv)
  have oka : okS as := fun v hv => oks v (List.mem_append_left _ (List.mem_reverse.mpr hv))
  have hM := hc oka
  have hst2 : (as.reverse ++ rest).map (cv G) = (as.map (cv G)).reverse ++ rest.map (cv G) := by rw [List.map_append, List.map_reverse]
  refine call_end X hS hl okl okr (a := (as.map (cv G)).toArray) (Q := Q) ?_ kk
  exact va_runS (As := as.map (cv G)) (n := n) (own := mi.1.cls) (nL := mi.2.2.1) (bytes := mj.2.1) (maxL := mj.2.2.1) (ret := mj.2.2.2.1) (index := idx) ⟨X.1, X.2.1, X.2.2.1, X.2.2.2.1, hts⟩ hM
    ⟨callB_of n hts (wA_good (mi := mi) w3) rfl rfl rfl (hts _ w2) (hts _ w1) ⟨w4, w5, w6⟩ ⟨hR.1, hR.2.1⟩, hts _ w7⟩
    ⟨World.blind, fun U hU hW => ⟨rfl, by rw [hU]; exact hP, va_K.moved hW.alike X.2.2.2.2.2.1, X.2.2.2.2.2.2.1, by rw [hU]; exact (X.2.2.2.2.2.2.2.1.kept hS.2.1).warm hW⟩⟩
    rfl (by rw [List.length_map]; exact hn) hl.1 hst2 (lv_room (by rw [wd_ok]; exact hw)) hd ⟨hR.2.2.1, hR.2.2.2⟩
theorem E_callN {l : Launch} {G : GE} {mi : MI} {fk : FK} {pc : Nat} {lv : List (Option AV)} {st : List AV} {h : Hp} {mj : MI} {idx n : Nat} {as rest : List AV} {Q : QT} (hd : decode mi.2.1 pc = .ok (.invokestatic idx, 3)) (hc : CT l G mj as h Q) (hst : st = as.reverse ++ rest) (hL : LkN mi.1.cls idx mj n) (hn : as.length = n) (hR : mj.2.2.2.2 + 1 ≤ fk.2.1.frames ∧ 8 + (mj.2.2.1 + 11) + 38 * mj.2.2.2.2 ≤ fk.2.1.locals ∧ fk.2.2.1 ≤ fk.2.1.cells ∧ fk.2.2.2.1 ≤ fk.2.1.slots) (hw : wd rest ≤ 8)
    (kk : ∀ (r : Option Int32) (h' : Hp), Q r h' → Ev l G mi fk (pc + 3) lv (rI r ++ rest) h') : Ev l G mi fk pc lv st h := by
  subst hst
  intro p e s m args below meth c X H locs ls hP hS hl okl oks
  obtain ⟨w1, w2, w3, w4, w7⟩ := hL
  have hts := X.2.2.2.2.1
  have okr : okS rest := fun v hv => oks v (List.mem_append_right _ hv)
  have oka : okS as := fun v hv => oks v (List.mem_append_left _ (List.mem_reverse.mpr hv))
  have hM := hc oka
  have hst2 : (as.reverse ++ rest).map (cv G) = (as.map (cv G)).reverse ++ rest.map (cv G) := by rw [List.map_append, List.map_reverse]
  refine call_end X hS hl okl okr (a := (as.map (cv G)).toArray) (Q := Q) ?_ kk
  exact va_runSN (As := as.map (cv G)) (n := n) (own := mi.1.cls) (host := RX7) (nL := mi.2.2.1) (bytes := mj.2.1) (maxL := mj.2.2.1) (ret := mj.2.2.2.1) (index := idx) ⟨X.1, X.2.1, X.2.2.1, X.2.2.2.1, hts⟩ hM
    ⟨va_cnB n hts (wA_good (mi := mi) w3) rfl rfl rfl (w1 G s s.heap X.2.2.2.2.2.2.2.1) (hts _ w2) w4 ⟨hR.1, hR.2.1⟩, hts _ w7, trivial⟩
    ⟨World.blind, fun U hU hW => ⟨rfl, by rw [hU]; exact hP, va_K.moved hW.alike X.2.2.2.2.2.1, X.2.2.2.2.2.2.1, by rw [hU]; exact (X.2.2.2.2.2.2.2.1.kept hS.2.1).warm hW⟩⟩
    rfl (by rw [List.length_map]; exact hn) hl.1 hst2 (lv_room (by rw [wd_ok]; exact hw)) hd ⟨hR.2.2.1, hR.2.2.2⟩
/-! the same, tidied: what a walk leaves is written out -/
theorem E_getR0 {l : Launch} {G : GE} {mi : MI} {fk : FK} {pc : Nat} {lv : List (Option AV)} {st : List AV} {h : Hp} {idx ci k t i t' : Nat} {fs : List (Option (Nat × Nat))} (hd : decode mi.2.1 pc = .ok (.getfield idx, 3)) (hf : FL mi.1.cls idx ci k) (hs : sh t = some (.inl (ci, fs))) (hk : nth fs k = some (some (t', 0))) (kk : Ev l G mi fk (pc + 3) lv (vR t' i :: st) h) : Ev l G mi fk pc lv (vR t i :: st) h := E_getR hd hf hs hk kk
theorem E_getRJ {l : Launch} {G : GE} {mi : MI} {fk : FK} {pc : Nat} {lv : List (Option AV)} {st : List AV} {h : Hp} {idx ci k t t' j : Nat} {fs : List (Option (Nat × Nat))} (hd : decode mi.2.1 pc = .ok (.getfield idx, 3)) (hf : FL mi.1.cls idx ci k) (hs : sh t = some (.inl (ci, fs))) (hk : nth fs k = some (some (t', j))) (kk : Ev l G mi fk (pc + 3) lv (vR t' j :: st) h) : Ev l G mi fk pc lv (vR t 0 :: st) h := E_getR hd hf hs hk (by rw [Nat.zero_add]; exact kk)
theorem E_callV1 {x : Int32} {l : Launch} {G : GE} {mi : MI} {fk : FK} {pc : Nat} {lv : List (Option AV)} {st : List AV} {h : Hp} {mj : MI} {idx n ci t i : Nat} {as rest : List AV} {fs : List (Option (Nat × Nat))} {T : u_T} {N : Nat} {g : Hp} (hd : decode mi.2.1 pc = .ok (.invokevirtual idx, 3)) (hc : CT l G mj (vR t i :: as) h (fun r h' => r = some x ∧ h' = g)) (hst : st = as.reverse ++ vR t i :: rest) (hL : LkV mi.1.cls idx mj n) (hs : sh t = some (.inl (ci, fs))) (hcl : vwCl[ci]? = some (mj.1.cls, T, N)) (hn : as.length = n) (hR : mj.2.2.2.2 + 1 ≤ fk.2.1.frames ∧ 8 + (mj.2.2.1 + 11) + 38 * mj.2.2.2.2 ≤ fk.2.1.locals ∧ fk.2.2.1 ≤ fk.2.1.cells ∧ fk.2.2.2.1 ≤ fk.2.1.slots) (hw : wd rest ≤ 8) (kk : Ev l G mi fk (pc + 3) lv (vI x :: rest) g) : Ev l G mi fk pc lv st h := E_callV hd hc hst hL hs hcl hn hR hw (fun r h' hq => by obtain ⟨rfl, rfl⟩ := hq; exact kk)
theorem E_callV0 {l : Launch} {G : GE} {mi : MI} {fk : FK} {pc : Nat} {lv : List (Option AV)} {st : List AV} {h : Hp} {mj : MI} {idx n ci t i : Nat} {as rest : List AV} {fs : List (Option (Nat × Nat))} {T : u_T} {N : Nat} {g : Hp} (hd : decode mi.2.1 pc = .ok (.invokevirtual idx, 3)) (hc : CT l G mj (vR t i :: as) h (fun r h' => r = none ∧ h' = g)) (hst : st = as.reverse ++ vR t i :: rest) (hL : LkV mi.1.cls idx mj n) (hs : sh t = some (.inl (ci, fs))) (hcl : vwCl[ci]? = some (mj.1.cls, T, N)) (hn : as.length = n) (hR : mj.2.2.2.2 + 1 ≤ fk.2.1.frames ∧ 8 + (mj.2.2.1 + 11) + 38 * mj.2.2.2.2 ≤ fk.2.1.locals ∧ fk.2.2.1 ≤ fk.2.1.cells ∧ fk.2.2.2.1 ≤ fk.2.1.slots) (hw : wd rest ≤ 8) (kk : Ev l G mi fk (pc + 3) lv rest g) : Ev l G mi fk pc lv st h := E_callV hd hc hst hL hs hcl hn hR hw (fun r h' hq => by obtain ⟨rfl, rfl⟩ := hq; exact kk)
theorem E_callS1 {x : Int32} {l : Launch} {G : GE} {mi : MI} {fk : FK} {pc : Nat} {lv : List (Option AV)} {st : List AV} {h : Hp} {mj : MI} {idx n : Nat} {as rest : List AV} {g : Hp} (hd : decode mi.2.1 pc = .ok (.invokestatic idx, 3)) (hc : CT l G mj as h (fun r h' => r = some x ∧ h' = g)) (hst : st = as.reverse ++ rest) (hL : LkS mi.1.cls idx mj n) (hn : as.length = n) (hR : mj.2.2.2.2 + 1 ≤ fk.2.1.frames ∧ 8 + (mj.2.2.1 + 11) + 38 * mj.2.2.2.2 ≤ fk.2.1.locals ∧ fk.2.2.1 ≤ fk.2.1.cells ∧ fk.2.2.2.1 ≤ fk.2.1.slots) (hw : wd rest ≤ 8) (kk : Ev l G mi fk (pc + 3) lv (vI x :: rest) g) : Ev l G mi fk pc lv st h := E_callS hd hc hst hL hn hR hw (fun r h' hq => by obtain ⟨rfl, rfl⟩ := hq; exact kk)
theorem E_callS0 {l : Launch} {G : GE} {mi : MI} {fk : FK} {pc : Nat} {lv : List (Option AV)} {st : List AV} {h : Hp} {mj : MI} {idx n : Nat} {as rest : List AV} {g : Hp} (hd : decode mi.2.1 pc = .ok (.invokestatic idx, 3)) (hc : CT l G mj as h (fun r h' => r = none ∧ h' = g)) (hst : st = as.reverse ++ rest) (hL : LkS mi.1.cls idx mj n) (hn : as.length = n) (hR : mj.2.2.2.2 + 1 ≤ fk.2.1.frames ∧ 8 + (mj.2.2.1 + 11) + 38 * mj.2.2.2.2 ≤ fk.2.1.locals ∧ fk.2.2.1 ≤ fk.2.1.cells ∧ fk.2.2.2.1 ≤ fk.2.1.slots) (hw : wd rest ≤ 8) (kk : Ev l G mi fk (pc + 3) lv rest g) : Ev l G mi fk pc lv st h := E_callS hd hc hst hL hn hR hw (fun r h' hq => by obtain ⟨rfl, rfl⟩ := hq; exact kk)
theorem E_callN1 {x : Int32} {l : Launch} {G : GE} {mi : MI} {fk : FK} {pc : Nat} {lv : List (Option AV)} {st : List AV} {h : Hp} {mj : MI} {idx n : Nat} {as rest : List AV} {g : Hp} (hd : decode mi.2.1 pc = .ok (.invokestatic idx, 3)) (hc : CT l G mj as h (fun r h' => r = some x ∧ h' = g)) (hst : st = as.reverse ++ rest) (hL : LkN mi.1.cls idx mj n) (hn : as.length = n) (hR : mj.2.2.2.2 + 1 ≤ fk.2.1.frames ∧ 8 + (mj.2.2.1 + 11) + 38 * mj.2.2.2.2 ≤ fk.2.1.locals ∧ fk.2.2.1 ≤ fk.2.1.cells ∧ fk.2.2.2.1 ≤ fk.2.1.slots) (hw : wd rest ≤ 8) (kk : Ev l G mi fk (pc + 3) lv (vI x :: rest) g) : Ev l G mi fk pc lv st h := E_callN hd hc hst hL hn hR hw (fun r h' hq => by obtain ⟨rfl, rfl⟩ := hq; exact kk)
theorem E_callN0 {l : Launch} {G : GE} {mi : MI} {fk : FK} {pc : Nat} {lv : List (Option AV)} {st : List AV} {h : Hp} {mj : MI} {idx n : Nat} {as rest : List AV} {g : Hp} (hd : decode mi.2.1 pc = .ok (.invokestatic idx, 3)) (hc : CT l G mj as h (fun r h' => r = none ∧ h' = g)) (hst : st = as.reverse ++ rest) (hL : LkN mi.1.cls idx mj n) (hn : as.length = n) (hR : mj.2.2.2.2 + 1 ≤ fk.2.1.frames ∧ 8 + (mj.2.2.1 + 11) + 38 * mj.2.2.2.2 ≤ fk.2.1.locals ∧ fk.2.2.1 ≤ fk.2.1.cells ∧ fk.2.2.2.1 ≤ fk.2.1.slots) (hw : wd rest ≤ 8) (kk : Ev l G mi fk (pc + 3) lv rest g) : Ev l G mi fk pc lv st h := E_callN hd hc hst hL hn hR hw (fun r h' hq => by obtain ⟨rfl, rfl⟩ := hq; exact kk)
