/-! ROWS: one an instruction -/
theorem cv_cat {G : GE} {v : AV} (hc : ∀ x, v ≠ vL x) : (cv G v).category = 1 := by
  rcases v with x | x | ⟨t, i⟩
  · rfl
  · exact absurd rfl (hc x)
  · rfl
theorem E_iadd {l : Launch} {G : GE} {mi : MI} {fk : FK} {pc : Nat} {lv : List (Option AV)} {st : List AV} {h : Hp} {x y : Int32} (hd : decode mi.2.1 pc = .ok (.iadd, 1)) (k : Ev l G mi fk (pc + 1) lv (vI (x + y) :: st) h) : Ev l G mi fk pc lv (vI y :: vI x :: st) h := by
  intro p e s m args below meth c X H locs ls hP hS hl okl oks
  exact lv_iadd X.1 X.2.1 hd (k p e s m args below meth c X H locs ls hP hS hl okl oks.tl.tl.ci)
theorem E_isub {l : Launch} {G : GE} {mi : MI} {fk : FK} {pc : Nat} {lv : List (Option AV)} {st : List AV} {h : Hp} {x y : Int32} (hd : decode mi.2.1 pc = .ok (.isub, 1)) (k : Ev l G mi fk (pc + 1) lv (vI (x - y) :: st) h) : Ev l G mi fk pc lv (vI y :: vI x :: st) h := by
  intro p e s m args below meth c X H locs ls hP hS hl okl oks
  exact lv_isub X.1 X.2.1 hd (k p e s m args below meth c X H locs ls hP hS hl okl oks.tl.tl.ci)
theorem E_imul {l : Launch} {G : GE} {mi : MI} {fk : FK} {pc : Nat} {lv : List (Option AV)} {st : List AV} {h : Hp} {x y : Int32} (hd : decode mi.2.1 pc = .ok (.imul, 1)) (k : Ev l G mi fk (pc + 1) lv (vI (x * y) :: st) h) : Ev l G mi fk pc lv (vI y :: vI x :: st) h := by
  intro p e s m args below meth c X H locs ls hP hS hl okl oks
  exact lv_imul X.1 X.2.1 hd (k p e s m args below meth c X H locs ls hP hS hl okl oks.tl.tl.ci)
theorem E_iand {l : Launch} {G : GE} {mi : MI} {fk : FK} {pc : Nat} {lv : List (Option AV)} {st : List AV} {h : Hp} {x y : Int32} (hd : decode mi.2.1 pc = .ok (.iand, 1)) (k : Ev l G mi fk (pc + 1) lv (vI (x &&& y) :: st) h) : Ev l G mi fk pc lv (vI y :: vI x :: st) h := by
  intro p e s m args below meth c X H locs ls hP hS hl okl oks
  exact lv_iand X.1 X.2.1 hd (k p e s m args below meth c X H locs ls hP hS hl okl oks.tl.tl.ci)
theorem E_ior {l : Launch} {G : GE} {mi : MI} {fk : FK} {pc : Nat} {lv : List (Option AV)} {st : List AV} {h : Hp} {x y : Int32} (hd : decode mi.2.1 pc = .ok (.ior, 1)) (k : Ev l G mi fk (pc + 1) lv (vI (x ||| y) :: st) h) : Ev l G mi fk pc lv (vI y :: vI x :: st) h := by
  intro p e s m args below meth c X H locs ls hP hS hl okl oks
  exact lv_ior X.1 X.2.1 hd (k p e s m args below meth c X H locs ls hP hS hl okl oks.tl.tl.ci)
theorem E_ixor {l : Launch} {G : GE} {mi : MI} {fk : FK} {pc : Nat} {lv : List (Option AV)} {st : List AV} {h : Hp} {x y : Int32} (hd : decode mi.2.1 pc = .ok (.ixor, 1)) (k : Ev l G mi fk (pc + 1) lv (vI (x ^^^ y) :: st) h) : Ev l G mi fk pc lv (vI y :: vI x :: st) h := by
  intro p e s m args below meth c X H locs ls hP hS hl okl oks
  exact lv_ixor X.1 X.2.1 hd (k p e s m args below meth c X H locs ls hP hS hl okl oks.tl.tl.ci)
theorem E_ishl {l : Launch} {G : GE} {mi : MI} {fk : FK} {pc : Nat} {lv : List (Option AV)} {st : List AV} {h : Hp} {x y : Int32} (hd : decode mi.2.1 pc = .ok (.ishl, 1)) (k : Ev l G mi fk (pc + 1) lv (vI (x <<< (y &&& 31)) :: st) h) : Ev l G mi fk pc lv (vI y :: vI x :: st) h := by
  intro p e s m args below meth c X H locs ls hP hS hl okl oks
  exact lv_ishl X.1 X.2.1 hd (k p e s m args below meth c X H locs ls hP hS hl okl oks.tl.tl.ci)
theorem E_ishr {l : Launch} {G : GE} {mi : MI} {fk : FK} {pc : Nat} {lv : List (Option AV)} {st : List AV} {h : Hp} {x y : Int32} (hd : decode mi.2.1 pc = .ok (.ishr, 1)) (k : Ev l G mi fk (pc + 1) lv (vI (x >>> (y &&& 31)) :: st) h) : Ev l G mi fk pc lv (vI y :: vI x :: st) h := by
  intro p e s m args below meth c X H locs ls hP hS hl okl oks
  exact lv_ishr X.1 X.2.1 hd (k p e s m args below meth c X H locs ls hP hS hl okl oks.tl.tl.ci)
theorem E_iushr {l : Launch} {G : GE} {mi : MI} {fk : FK} {pc : Nat} {lv : List (Option AV)} {st : List AV} {h : Hp} {x y : Int32} (hd : decode mi.2.1 pc = .ok (.iushr, 1)) (k : Ev l G mi fk (pc + 1) lv (vI ((x.toUInt32 >>> (y.toUInt32 &&& Int32.toUInt32 31)).toInt32) :: st) h) : Ev l G mi fk pc lv (vI y :: vI x :: st) h := by
  intro p e s m args below meth c X H locs ls hP hS hl okl oks
  exact lv_iushr X.1 X.2.1 hd rfl (k p e s m args below meth c X H locs ls hP hS hl okl oks.tl.tl.ci)
theorem E_idiv {l : Launch} {G : GE} {mi : MI} {fk : FK} {pc : Nat} {lv : List (Option AV)} {st : List AV} {h : Hp} {x y : Int32} (hd : decode mi.2.1 pc = .ok (.idiv, 1)) (hy : ¬ y = 0) (k : Ev l G mi fk (pc + 1) lv (vI (x / y) :: st) h) : Ev l G mi fk pc lv (vI y :: vI x :: st) h := by
  intro p e s m args below meth c X H locs ls hP hS hl okl oks
  exact lv_idiv X.1 X.2.1 hd hy (k p e s m args below meth c X H locs ls hP hS hl okl oks.tl.tl.ci)
theorem E_irem {l : Launch} {G : GE} {mi : MI} {fk : FK} {pc : Nat} {lv : List (Option AV)} {st : List AV} {h : Hp} {x y : Int32} (hd : decode mi.2.1 pc = .ok (.irem, 1)) (hy : ¬ y = 0) (k : Ev l G mi fk (pc + 1) lv (vI (x - x / y * y) :: st) h) : Ev l G mi fk pc lv (vI y :: vI x :: st) h := by
  intro p e s m args below meth c X H locs ls hP hS hl okl oks
  exact lv_irem X.1 X.2.1 hd hy (k p e s m args below meth c X H locs ls hP hS hl okl oks.tl.tl.ci)
theorem E_ineg {l : Launch} {G : GE} {mi : MI} {fk : FK} {pc : Nat} {lv : List (Option AV)} {st : List AV} {h : Hp} {x : Int32} (hd : decode mi.2.1 pc = .ok (.ineg, 1)) (k : Ev l G mi fk (pc + 1) lv (vI (-x) :: st) h) : Ev l G mi fk pc lv (vI x :: st) h := by
  intro p e s m args below meth c X H locs ls hP hS hl okl oks
  exact lv_ineg X.1 X.2.1 hd (k p e s m args below meth c X H locs ls hP hS hl okl oks.tl.ci)
theorem E_i2b {l : Launch} {G : GE} {mi : MI} {fk : FK} {pc : Nat} {lv : List (Option AV)} {st : List AV} {h : Hp} {x : Int32} (hd : decode mi.2.1 pc = .ok (.i2b, 1)) (k : Ev l G mi fk (pc + 1) lv (vI (x.toInt8.toInt32) :: st) h) : Ev l G mi fk pc lv (vI x :: st) h := by
  intro p e s m args below meth c X H locs ls hP hS hl okl oks
  exact lv_i2b X.1 X.2.1 hd rfl (k p e s m args below meth c X H locs ls hP hS hl okl oks.tl.ci)
theorem E_i2s {l : Launch} {G : GE} {mi : MI} {fk : FK} {pc : Nat} {lv : List (Option AV)} {st : List AV} {h : Hp} {x : Int32} (hd : decode mi.2.1 pc = .ok (.i2s, 1)) (k : Ev l G mi fk (pc + 1) lv (vI (x.toInt16.toInt32) :: st) h) : Ev l G mi fk pc lv (vI x :: st) h := by
  intro p e s m args below meth c X H locs ls hP hS hl okl oks
  exact lv_i2s X.1 X.2.1 hd rfl (k p e s m args below meth c X H locs ls hP hS hl okl oks.tl.ci)
theorem E_i2c {l : Launch} {G : GE} {mi : MI} {fk : FK} {pc : Nat} {lv : List (Option AV)} {st : List AV} {h : Hp} {x : Int32} (hd : decode mi.2.1 pc = .ok (.i2c, 1)) (k : Ev l G mi fk (pc + 1) lv (vI ((x.toUInt32 % 65536).toInt32) :: st) h) : Ev l G mi fk pc lv (vI x :: st) h := by
  intro p e s m args below meth c X H locs ls hP hS hl okl oks
  exact lv_i2c X.1 X.2.1 hd rfl (k p e s m args below meth c X H locs ls hP hS hl okl oks.tl.ci)
theorem E_i2l {l : Launch} {G : GE} {mi : MI} {fk : FK} {pc : Nat} {lv : List (Option AV)} {st : List AV} {h : Hp} {x : Int32} (hd : decode mi.2.1 pc = .ok (.i2l, 1)) (k : Ev l G mi fk (pc + 1) lv (vL x.toInt64 :: st) h) : Ev l G mi fk pc lv (vI x :: st) h := by
  intro p e s m args below meth c X H locs ls hP hS hl okl oks
  exact lv_i2l X.1 X.2.1 hd rfl (k p e s m args below meth c X H locs ls hP hS hl okl oks.tl.cl)
theorem E_l2i {l : Launch} {G : GE} {mi : MI} {fk : FK} {pc : Nat} {lv : List (Option AV)} {st : List AV} {h : Hp} {x : Int64} (hd : decode mi.2.1 pc = .ok (.l2i, 1)) (k : Ev l G mi fk (pc + 1) lv (vI x.toInt32 :: st) h) : Ev l G mi fk pc lv (vL x :: st) h := by
  intro p e s m args below meth c X H locs ls hP hS hl okl oks
  exact lv_l2i X.1 X.2.1 hd rfl (k p e s m args below meth c X H locs ls hP hS hl okl oks.tl.ci)
theorem E_ladd {l : Launch} {G : GE} {mi : MI} {fk : FK} {pc : Nat} {lv : List (Option AV)} {st : List AV} {h : Hp} {x y : Int64} (hd : decode mi.2.1 pc = .ok (.ladd, 1)) (k : Ev l G mi fk (pc + 1) lv (vL (x + y) :: st) h) : Ev l G mi fk pc lv (vL y :: vL x :: st) h := by
  intro p e s m args below meth c X H locs ls hP hS hl okl oks
  exact lv_ladd X.1 X.2.1 hd (k p e s m args below meth c X H locs ls hP hS hl okl oks.tl.tl.cl)
theorem E_land {l : Launch} {G : GE} {mi : MI} {fk : FK} {pc : Nat} {lv : List (Option AV)} {st : List AV} {h : Hp} {x y : Int64} (hd : decode mi.2.1 pc = .ok (.land, 1)) (k : Ev l G mi fk (pc + 1) lv (vL (x &&& y) :: st) h) : Ev l G mi fk pc lv (vL y :: vL x :: st) h := by
  intro p e s m args below meth c X H locs ls hP hS hl okl oks
  exact lv_land X.1 X.2.1 hd (k p e s m args below meth c X H locs ls hP hS hl okl oks.tl.tl.cl)
theorem E_lor {l : Launch} {G : GE} {mi : MI} {fk : FK} {pc : Nat} {lv : List (Option AV)} {st : List AV} {h : Hp} {x y : Int64} (hd : decode mi.2.1 pc = .ok (.lor, 1)) (k : Ev l G mi fk (pc + 1) lv (vL (x ||| y) :: st) h) : Ev l G mi fk pc lv (vL y :: vL x :: st) h := by
  intro p e s m args below meth c X H locs ls hP hS hl okl oks
  exact lv_lor X.1 X.2.1 hd (k p e s m args below meth c X H locs ls hP hS hl okl oks.tl.tl.cl)
theorem E_lshl {l : Launch} {G : GE} {mi : MI} {fk : FK} {pc : Nat} {lv : List (Option AV)} {st : List AV} {h : Hp} {x : Int64} {y : Int32} (hd : decode mi.2.1 pc = .ok (.lshl, 1)) (k : Ev l G mi fk (pc + 1) lv (vL (x <<< (y.toInt64 &&& 63)) :: st) h) : Ev l G mi fk pc lv (vI y :: vL x :: st) h := by
  intro p e s m args below meth c X H locs ls hP hS hl okl oks
  exact lv_lshl X.1 X.2.1 hd rfl (k p e s m args below meth c X H locs ls hP hS hl okl oks.tl.tl.cl)
theorem E_lshr {l : Launch} {G : GE} {mi : MI} {fk : FK} {pc : Nat} {lv : List (Option AV)} {st : List AV} {h : Hp} {x : Int64} {y : Int32} (hd : decode mi.2.1 pc = .ok (.lshr, 1)) (k : Ev l G mi fk (pc + 1) lv (vL (x >>> (y.toInt64 &&& 63)) :: st) h) : Ev l G mi fk pc lv (vI y :: vL x :: st) h := by
  intro p e s m args below meth c X H locs ls hP hS hl okl oks
  exact lv_lshr X.1 X.2.1 hd rfl (k p e s m args below meth c X H locs ls hP hS hl okl oks.tl.tl.cl)
theorem E_lushr {l : Launch} {G : GE} {mi : MI} {fk : FK} {pc : Nat} {lv : List (Option AV)} {st : List AV} {h : Hp} {x : Int64} {y : Int32} (hd : decode mi.2.1 pc = .ok (.lushr, 1)) (k : Ev l G mi fk (pc + 1) lv (vL ((x.toUInt64 >>> (y.toInt64.toUInt64 &&& Int64.toUInt64 63)).toInt64) :: st) h) : Ev l G mi fk pc lv (vI y :: vL x :: st) h := by
  intro p e s m args below meth c X H locs ls hP hS hl okl oks
  exact lv_lushr X.1 X.2.1 hd rfl (k p e s m args below meth c X H locs ls hP hS hl okl oks.tl.tl.cl)
theorem E_lcmp {l : Launch} {G : GE} {mi : MI} {fk : FK} {pc : Nat} {lv : List (Option AV)} {st : List AV} {h : Hp} {x y : Int64} (hd : decode mi.2.1 pc = .ok (.lcmp, 1)) (k : Ev l G mi fk (pc + 1) lv (vI (lg_cmp x y) :: st) h) : Ev l G mi fk pc lv (vL y :: vL x :: st) h := by
  intro p e s m args below meth c X H locs ls hP hS hl okl oks
  exact W.lcmp X.1 X.2.1 hd (k p e s m args below meth c X H locs ls hP hS hl okl oks.tl.tl.ci)
theorem E_iconst {l : Launch} {G : GE} {mi : MI} {fk : FK} {pc : Nat} {lv : List (Option AV)} {st : List AV} {h : Hp} {n : Int} (v : Int32) (hd : decode mi.2.1 pc = .ok (.iconst n, 1)) (hv : Int32.ofInt n = v) (k : Ev l G mi fk (pc + 1) lv (vI v :: st) h) : Ev l G mi fk pc lv st h := by
  intro p e s m args below meth c X H locs ls hP hS hl okl oks
  exact lv_iconst X.1 X.2.1 hd hv (k p e s m args below meth c X H locs ls hP hS hl okl oks.ci)
theorem E_bipush {l : Launch} {G : GE} {mi : MI} {fk : FK} {pc : Nat} {lv : List (Option AV)} {st : List AV} {h : Hp} {n : Int} (v : Int32) (hd : decode mi.2.1 pc = .ok (.bipush n, 2)) (hv : (Int8.ofInt n).toInt32 = v) (k : Ev l G mi fk (pc + 2) lv (vI v :: st) h) : Ev l G mi fk pc lv st h := by
  intro p e s m args below meth c X H locs ls hP hS hl okl oks
  exact lv_bipush X.1 X.2.1 hd hv (k p e s m args below meth c X H locs ls hP hS hl okl oks.ci)
theorem E_sipush {l : Launch} {G : GE} {mi : MI} {fk : FK} {pc : Nat} {lv : List (Option AV)} {st : List AV} {h : Hp} {n : Int} (v : Int32) (hd : decode mi.2.1 pc = .ok (.sipush n, 3)) (hv : (Int16.ofInt n).toInt32 = v) (k : Ev l G mi fk (pc + 3) lv (vI v :: st) h) : Ev l G mi fk pc lv st h := by
  intro p e s m args below meth c X H locs ls hP hS hl okl oks
  exact lv_sipush X.1 X.2.1 hd hv (k p e s m args below meth c X H locs ls hP hS hl okl oks.ci)
theorem E_lconst {l : Launch} {G : GE} {mi : MI} {fk : FK} {pc : Nat} {lv : List (Option AV)} {st : List AV} {h : Hp} {n : Fin 2} (v : Int64) (hd : decode mi.2.1 pc = .ok (.lconst n, 1)) (hv : Int64.ofNat (n : Nat) = v) (k : Ev l G mi fk (pc + 1) lv (vL v :: st) h) : Ev l G mi fk pc lv st h := by
  intro p e s m args below meth c X H locs ls hP hS hl okl oks
  exact lv_lconst X.1 X.2.1 hd hv (k p e s m args below meth c X H locs ls hP hS hl okl oks.cl)
theorem E_ldc {l : Launch} {G : GE} {mi : MI} {fk : FK} {pc : Nat} {lv : List (Option AV)} {st : List AV} {h : Hp} {n : Nat} (v : Int32) (hd : decode mi.2.1 pc = .ok (.ldc n, 2)) (hw : Cond.constant mi.1.cls n v ∈ TB) (k : Ev l G mi fk (pc + 2) lv (vI v :: st) h) : Ev l G mi fk pc lv st h := by
  intro p e s m args below meth c X H locs ls hP hS hl okl oks
  exact lv_ldc X.1 X.2.1 X.2.2.2.1 (X.2.2.2.2.1 _ hw) hd (k p e s m args below meth c X H locs ls hP hS hl okl oks.ci)
theorem E_ldcw {l : Launch} {G : GE} {mi : MI} {fk : FK} {pc : Nat} {lv : List (Option AV)} {st : List AV} {h : Hp} {n : Nat} (v : Int32) (hd : decode mi.2.1 pc = .ok (.ldc_w n, 3)) (hw : Cond.constant mi.1.cls n v ∈ TB) (k : Ev l G mi fk (pc + 3) lv (vI v :: st) h) : Ev l G mi fk pc lv st h := by
  intro p e s m args below meth c X H locs ls hP hS hl okl oks
  exact lv_ldcw X.1 X.2.1 X.2.2.2.1 (X.2.2.2.2.1 _ hw) hd (k p e s m args below meth c X H locs ls hP hS hl okl oks.ci)
theorem E_ldc2 {l : Launch} {G : GE} {mi : MI} {fk : FK} {pc : Nat} {lv : List (Option AV)} {st : List AV} {h : Hp} {n : Nat} (v : Int64) (hd : decode mi.2.1 pc = .ok (.ldc2_w n, 3)) (hw : Cond.constantLong mi.1.cls n v ∈ TB) (k : Ev l G mi fk (pc + 3) lv (vL v :: st) h) : Ev l G mi fk pc lv st h := by
  intro p e s m args below meth c X H locs ls hP hS hl okl oks
  exact lv_ldc2 X.1 X.2.1 X.2.2.2.1 (X.2.2.2.2.1 _ hw) hd (k p e s m args below meth c X H locs ls hP hS hl okl oks.cl)
theorem E_iload_n {l : Launch} {G : GE} {mi : MI} {fk : FK} {pc : Nat} {lv : List (Option AV)} {st : List AV} {h : Hp} {j : Fin 4} (i : Nat) {x : Int32} (hd : decode mi.2.1 pc = .ok (.iload_n j, 1)) (hi : (j : Nat) = i) (hv : nth lv i = some (some (vI x))) (k : Ev l G mi fk (pc + 1) lv (vI x :: st) h) : Ev l G mi fk pc lv st h := by
  intro p e s m args below meth c X H locs ls hP hS hl okl oks
  exact lv_iload_n X.1 X.2.1 hd hi (lk_get hl hv) (k p e s m args below meth c X H locs ls hP hS hl okl (okS.co (okL_get okl hv) oks))
theorem E_iload {l : Launch} {G : GE} {mi : MI} {fk : FK} {pc : Nat} {lv : List (Option AV)} {st : List AV} {h : Hp} (i : Nat) {x : Int32} (hd : decode mi.2.1 pc = .ok (.iload i, 2)) (hv : nth lv i = some (some (vI x))) (k : Ev l G mi fk (pc + 2) lv (vI x :: st) h) : Ev l G mi fk pc lv st h := by
  intro p e s m args below meth c X H locs ls hP hS hl okl oks
  exact lv_iload X.1 X.2.1 hd (lk_get hl hv) (k p e s m args below meth c X H locs ls hP hS hl okl (okS.co (okL_get okl hv) oks))
theorem E_lload_n {l : Launch} {G : GE} {mi : MI} {fk : FK} {pc : Nat} {lv : List (Option AV)} {st : List AV} {h : Hp} {j : Fin 4} (i : Nat) {x : Int64} (hd : decode mi.2.1 pc = .ok (.lload_n j, 1)) (hi : (j : Nat) = i) (hv : nth lv i = some (some (vL x))) (k : Ev l G mi fk (pc + 1) lv (vL x :: st) h) : Ev l G mi fk pc lv st h := by
  intro p e s m args below meth c X H locs ls hP hS hl okl oks
  exact lv_lload_n X.1 X.2.1 hd hi (lk_get hl hv) (k p e s m args below meth c X H locs ls hP hS hl okl (okS.co (okL_get okl hv) oks))
theorem E_lload {l : Launch} {G : GE} {mi : MI} {fk : FK} {pc : Nat} {lv : List (Option AV)} {st : List AV} {h : Hp} (i : Nat) {x : Int64} (hd : decode mi.2.1 pc = .ok (.lload i, 2)) (hv : nth lv i = some (some (vL x))) (k : Ev l G mi fk (pc + 2) lv (vL x :: st) h) : Ev l G mi fk pc lv st h := by
  intro p e s m args below meth c X H locs ls hP hS hl okl oks
  exact lv_lload X.1 X.2.1 hd (lk_get hl hv) (k p e s m args below meth c X H locs ls hP hS hl okl (okS.co (okL_get okl hv) oks))
theorem E_aload_n {l : Launch} {G : GE} {mi : MI} {fk : FK} {pc : Nat} {lv : List (Option AV)} {st : List AV} {h : Hp} {j : Fin 4} (i : Nat) {t y : Nat} (hd : decode mi.2.1 pc = .ok (.aload_n j, 1)) (hi : (j : Nat) = i) (hv : nth lv i = some (some (vR t y))) (k : Ev l G mi fk (pc + 1) lv (vR t y :: st) h) : Ev l G mi fk pc lv st h := by
  intro p e s m args below meth c X H locs ls hP hS hl okl oks
  exact lv_aload_n X.1 X.2.1 hd hi (lk_get hl hv) (k p e s m args below meth c X H locs ls hP hS hl okl (okS.co (okL_get okl hv) oks))
theorem E_aload {l : Launch} {G : GE} {mi : MI} {fk : FK} {pc : Nat} {lv : List (Option AV)} {st : List AV} {h : Hp} (i : Nat) {t y : Nat} (hd : decode mi.2.1 pc = .ok (.aload i, 2)) (hv : nth lv i = some (some (vR t y))) (k : Ev l G mi fk (pc + 2) lv (vR t y :: st) h) : Ev l G mi fk pc lv st h := by
  intro p e s m args below meth c X H locs ls hP hS hl okl oks
  exact lv_aload X.1 X.2.1 hd (lk_get hl hv) (k p e s m args below meth c X H locs ls hP hS hl okl (okS.co (okL_get okl hv) oks))
theorem E_istore_n {l : Launch} {G : GE} {mi : MI} {fk : FK} {pc : Nat} {lv : List (Option AV)} {st : List AV} {h : Hp} {j : Fin 4} (i : Nat) {x : Int32} (hd : decode mi.2.1 pc = .ok (.istore_n j, 1)) (hi : (j : Nat) = i) (hb : i < mi.2.2.1) (hn : noL lv i = true) {lz : List (Option AV)} (hlv : lset lv i (some (vI x)) = lz) (k : Ev l G mi fk (pc + 1) lz st h) : Ev l G mi fk pc lv (vI x :: st) h := by
  intro p e s m args below meth c X H locs ls hP hS hl okl oks
  subst hlv
  exact lv_istore_n X.1 X.2.1 hd hi hl hb rfl (fun ls9 h9 => k p e s m args below meth c X H locs ls9 hP hS (lk_set hn h9) (okL_set okl trivial) oks.tl)
theorem E_istore {l : Launch} {G : GE} {mi : MI} {fk : FK} {pc : Nat} {lv : List (Option AV)} {st : List AV} {h : Hp} (i : Nat) {x : Int32} (hd : decode mi.2.1 pc = .ok (.istore i, 2)) (hb : i < mi.2.2.1) (hn : noL lv i = true) {lz : List (Option AV)} (hlv : lset lv i (some (vI x)) = lz) (k : Ev l G mi fk (pc + 2) lz st h) : Ev l G mi fk pc lv (vI x :: st) h := by
  intro p e s m args below meth c X H locs ls hP hS hl okl oks
  subst hlv
  exact lv_istore X.1 X.2.1 hd hl hb rfl (fun ls9 h9 => k p e s m args below meth c X H locs ls9 hP hS (lk_set hn h9) (okL_set okl trivial) oks.tl)
theorem E_astore_n {l : Launch} {G : GE} {mi : MI} {fk : FK} {pc : Nat} {lv : List (Option AV)} {st : List AV} {h : Hp} {j : Fin 4} (i : Nat) {t y : Nat} (hd : decode mi.2.1 pc = .ok (.astore_n j, 1)) (hi : (j : Nat) = i) (hb : i < mi.2.2.1) (hn : noL lv i = true) {lz : List (Option AV)} (hlv : lset lv i (some (vR t y)) = lz) (k : Ev l G mi fk (pc + 1) lz st h) : Ev l G mi fk pc lv (vR t y :: st) h := by
  intro p e s m args below meth c X H locs ls hP hS hl okl oks
  subst hlv
  exact lv_astore_n X.1 X.2.1 hd hi hl hb rfl (fun ls9 h9 => k p e s m args below meth c X H locs ls9 hP hS (lk_set hn h9) (okL_set okl oks.hd) oks.tl)
theorem E_astore {l : Launch} {G : GE} {mi : MI} {fk : FK} {pc : Nat} {lv : List (Option AV)} {st : List AV} {h : Hp} (i : Nat) {t y : Nat} (hd : decode mi.2.1 pc = .ok (.astore i, 2)) (hb : i < mi.2.2.1) (hn : noL lv i = true) {lz : List (Option AV)} (hlv : lset lv i (some (vR t y)) = lz) (k : Ev l G mi fk (pc + 2) lz st h) : Ev l G mi fk pc lv (vR t y :: st) h := by
  intro p e s m args below meth c X H locs ls hP hS hl okl oks
  subst hlv
  exact lv_astore X.1 X.2.1 hd hl hb rfl (fun ls9 h9 => k p e s m args below meth c X H locs ls9 hP hS (lk_set hn h9) (okL_set okl oks.hd) oks.tl)
theorem E_iinc {l : Launch} {G : GE} {mi : MI} {fk : FK} {pc : Nat} {lv : List (Option AV)} {st : List AV} {h : Hp} (i : Nat) {n : Int} {x : Int32} (d : Int32) (hd : decode mi.2.1 pc = .ok (.iinc i n, 3)) (hb : i < mi.2.2.1) (hn : noL lv i = true) (hv : nth lv i = some (some (vI x))) (hc : Int32.ofInt n = d) {lz : List (Option AV)} (hlv : lset lv i (some (vI (x + d))) = lz) (k : Ev l G mi fk (pc + 3) lz st h) : Ev l G mi fk pc lv st h := by
  intro p e s m args below meth c X H locs ls hP hS hl okl oks
  subst hlv
  obtain ⟨q, hq⟩ := List.getElem?_of_mem (asc_mem (G := G) lv 0 i _ hv)
  rw [Nat.zero_add] at hq
  exact lv_iinc X.1 X.2.1 hd hl hq (by rw [hc]) hb rfl (fun ls9 h9 => k p e s m args below meth c X H locs ls9 hP hS (lk_set hn h9) (okL_set okl trivial) oks)
theorem E_dup {l : Launch} {G : GE} {mi : MI} {fk : FK} {pc : Nat} {lv : List (Option AV)} {st : List AV} {h : Hp} {v : AV} (hd : decode mi.2.1 pc = .ok (.dup, 1)) (hc : ∀ x, v ≠ vL x) (k : Ev l G mi fk (pc + 1) lv (v :: v :: st) h) : Ev l G mi fk pc lv (v :: st) h := by
  intro p e s m args below meth c X H locs ls hP hS hl okl oks
  exact lv_dup X.1 X.2.1 hd (cv_cat hc) (k p e s m args below meth c X H locs ls hP hS hl okl (okS.co oks.hd oks))
theorem E_dup2 {l : Launch} {G : GE} {mi : MI} {fk : FK} {pc : Nat} {lv : List (Option AV)} {st : List AV} {h : Hp} {v w : AV} (hd : decode mi.2.1 pc = .ok (.dup2, 1)) (hc : ∀ x, v ≠ vL x) (hc2 : ∀ x, w ≠ vL x) (k : Ev l G mi fk (pc + 1) lv (v :: w :: v :: w :: st) h) : Ev l G mi fk pc lv (v :: w :: st) h := by
  intro p e s m args below meth c X H locs ls hP hS hl okl oks
  exact lv_dup2_11 X.1 X.2.1 hd (cv_cat hc) (cv_cat hc2) (k p e s m args below meth c X H locs ls hP hS hl okl (okS.co oks.hd (okS.co oks.tl.hd oks)))
theorem E_pop {l : Launch} {G : GE} {mi : MI} {fk : FK} {pc : Nat} {lv : List (Option AV)} {st : List AV} {h : Hp} {v : AV} (hd : decode mi.2.1 pc = .ok (.pop, 1)) (hc : ∀ x, v ≠ vL x) (k : Ev l G mi fk (pc + 1) lv st h) : Ev l G mi fk pc lv (v :: st) h := by
  intro p e s m args below meth c X H locs ls hP hS hl okl oks
  exact lv_pop X.1 X.2.1 hd (cv_cat hc) (k p e s m args below meth c X H locs ls hP hS hl okl oks.tl)
theorem E_if_eq {l : Launch} {G : GE} {mi : MI} {fk : FK} {pc : Nat} {lv : List (Option AV)} {st : List AV} {h : Hp} {x : Int32} {off : Int} (tgt : Nat) (hd : decode mi.2.1 pc = .ok (.ifCond .eq off, 3)) (ht : (pc : Int) + off = (tgt : Int)) (kt : x = 0 → Ev l G mi fk tgt lv st h) (kf : ¬ x = 0 → Ev l G mi fk (pc + 3) lv st h) : Ev l G mi fk pc lv (vI x :: st) h := by
  intro p e s m args below meth c X H locs ls hP hS hl okl oks
  exact lv_if_eq X.1 X.2.1 hd ht (fun q => kt q p e s m args below meth c X H locs ls hP hS hl okl oks.tl) (fun q => kf q p e s m args below meth c X H locs ls hP hS hl okl oks.tl)
theorem E_if_ne {l : Launch} {G : GE} {mi : MI} {fk : FK} {pc : Nat} {lv : List (Option AV)} {st : List AV} {h : Hp} {x : Int32} {off : Int} (tgt : Nat) (hd : decode mi.2.1 pc = .ok (.ifCond .ne off, 3)) (ht : (pc : Int) + off = (tgt : Int)) (kt : ¬ x = 0 → Ev l G mi fk tgt lv st h) (kf : x = 0 → Ev l G mi fk (pc + 3) lv st h) : Ev l G mi fk pc lv (vI x :: st) h := by
  intro p e s m args below meth c X H locs ls hP hS hl okl oks
  exact lv_if_ne X.1 X.2.1 hd ht (fun q => kt q p e s m args below meth c X H locs ls hP hS hl okl oks.tl) (fun q => kf q p e s m args below meth c X H locs ls hP hS hl okl oks.tl)
theorem E_if_lt {l : Launch} {G : GE} {mi : MI} {fk : FK} {pc : Nat} {lv : List (Option AV)} {st : List AV} {h : Hp} {x : Int32} {off : Int} (tgt : Nat) (hd : decode mi.2.1 pc = .ok (.ifCond .lt off, 3)) (ht : (pc : Int) + off = (tgt : Int)) (kt : x < 0 → Ev l G mi fk tgt lv st h) (kf : ¬ x < 0 → Ev l G mi fk (pc + 3) lv st h) : Ev l G mi fk pc lv (vI x :: st) h := by
  intro p e s m args below meth c X H locs ls hP hS hl okl oks
  exact lv_if_lt X.1 X.2.1 hd ht (fun q => kt q p e s m args below meth c X H locs ls hP hS hl okl oks.tl) (fun q => kf q p e s m args below meth c X H locs ls hP hS hl okl oks.tl)
theorem E_if_ge {l : Launch} {G : GE} {mi : MI} {fk : FK} {pc : Nat} {lv : List (Option AV)} {st : List AV} {h : Hp} {x : Int32} {off : Int} (tgt : Nat) (hd : decode mi.2.1 pc = .ok (.ifCond .ge off, 3)) (ht : (pc : Int) + off = (tgt : Int)) (kt : 0 ≤ x → Ev l G mi fk tgt lv st h) (kf : ¬ 0 ≤ x → Ev l G mi fk (pc + 3) lv st h) : Ev l G mi fk pc lv (vI x :: st) h := by
  intro p e s m args below meth c X H locs ls hP hS hl okl oks
  exact lv_if_ge X.1 X.2.1 hd ht (fun q => kt q p e s m args below meth c X H locs ls hP hS hl okl oks.tl) (fun q => kf q p e s m args below meth c X H locs ls hP hS hl okl oks.tl)
theorem E_if_gt {l : Launch} {G : GE} {mi : MI} {fk : FK} {pc : Nat} {lv : List (Option AV)} {st : List AV} {h : Hp} {x : Int32} {off : Int} (tgt : Nat) (hd : decode mi.2.1 pc = .ok (.ifCond .gt off, 3)) (ht : (pc : Int) + off = (tgt : Int)) (kt : 0 < x → Ev l G mi fk tgt lv st h) (kf : ¬ 0 < x → Ev l G mi fk (pc + 3) lv st h) : Ev l G mi fk pc lv (vI x :: st) h := by
  intro p e s m args below meth c X H locs ls hP hS hl okl oks
  exact lv_if_gt X.1 X.2.1 hd ht (fun q => kt q p e s m args below meth c X H locs ls hP hS hl okl oks.tl) (fun q => kf q p e s m args below meth c X H locs ls hP hS hl okl oks.tl)
theorem E_if_le {l : Launch} {G : GE} {mi : MI} {fk : FK} {pc : Nat} {lv : List (Option AV)} {st : List AV} {h : Hp} {x : Int32} {off : Int} (tgt : Nat) (hd : decode mi.2.1 pc = .ok (.ifCond .le off, 3)) (ht : (pc : Int) + off = (tgt : Int)) (kt : x ≤ 0 → Ev l G mi fk tgt lv st h) (kf : ¬ x ≤ 0 → Ev l G mi fk (pc + 3) lv st h) : Ev l G mi fk pc lv (vI x :: st) h := by
  intro p e s m args below meth c X H locs ls hP hS hl okl oks
  exact lv_if_le X.1 X.2.1 hd ht (fun q => kt q p e s m args below meth c X H locs ls hP hS hl okl oks.tl) (fun q => kf q p e s m args below meth c X H locs ls hP hS hl okl oks.tl)
theorem E_icmp_eq {l : Launch} {G : GE} {mi : MI} {fk : FK} {pc : Nat} {lv : List (Option AV)} {st : List AV} {h : Hp} {x y : Int32} {off : Int} (tgt : Nat) (hd : decode mi.2.1 pc = .ok (.if_icmp .eq off, 3)) (ht : (pc : Int) + off = (tgt : Int)) (kt : x = y → Ev l G mi fk tgt lv st h) (kf : ¬ x = y → Ev l G mi fk (pc + 3) lv st h) : Ev l G mi fk pc lv (vI y :: vI x :: st) h := by
  intro p e s m args below meth c X H locs ls hP hS hl okl oks
  exact lv_icmp_eq X.1 X.2.1 hd ht (fun q => kt q p e s m args below meth c X H locs ls hP hS hl okl oks.tl.tl) (fun q => kf q p e s m args below meth c X H locs ls hP hS hl okl oks.tl.tl)
theorem E_icmp_ne {l : Launch} {G : GE} {mi : MI} {fk : FK} {pc : Nat} {lv : List (Option AV)} {st : List AV} {h : Hp} {x y : Int32} {off : Int} (tgt : Nat) (hd : decode mi.2.1 pc = .ok (.if_icmp .ne off, 3)) (ht : (pc : Int) + off = (tgt : Int)) (kt : ¬ x = y → Ev l G mi fk tgt lv st h) (kf : x = y → Ev l G mi fk (pc + 3) lv st h) : Ev l G mi fk pc lv (vI y :: vI x :: st) h := by
  intro p e s m args below meth c X H locs ls hP hS hl okl oks
  exact lv_icmp_ne X.1 X.2.1 hd ht (fun q => kt q p e s m args below meth c X H locs ls hP hS hl okl oks.tl.tl) (fun q => kf q p e s m args below meth c X H locs ls hP hS hl okl oks.tl.tl)
theorem E_icmp_lt {l : Launch} {G : GE} {mi : MI} {fk : FK} {pc : Nat} {lv : List (Option AV)} {st : List AV} {h : Hp} {x y : Int32} {off : Int} (tgt : Nat) (hd : decode mi.2.1 pc = .ok (.if_icmp .lt off, 3)) (ht : (pc : Int) + off = (tgt : Int)) (kt : x < y → Ev l G mi fk tgt lv st h) (kf : ¬ x < y → Ev l G mi fk (pc + 3) lv st h) : Ev l G mi fk pc lv (vI y :: vI x :: st) h := by
  intro p e s m args below meth c X H locs ls hP hS hl okl oks
  exact lv_icmp_lt X.1 X.2.1 hd ht (fun q => kt q p e s m args below meth c X H locs ls hP hS hl okl oks.tl.tl) (fun q => kf q p e s m args below meth c X H locs ls hP hS hl okl oks.tl.tl)
theorem E_icmp_ge {l : Launch} {G : GE} {mi : MI} {fk : FK} {pc : Nat} {lv : List (Option AV)} {st : List AV} {h : Hp} {x y : Int32} {off : Int} (tgt : Nat) (hd : decode mi.2.1 pc = .ok (.if_icmp .ge off, 3)) (ht : (pc : Int) + off = (tgt : Int)) (kt : y ≤ x → Ev l G mi fk tgt lv st h) (kf : ¬ y ≤ x → Ev l G mi fk (pc + 3) lv st h) : Ev l G mi fk pc lv (vI y :: vI x :: st) h := by
  intro p e s m args below meth c X H locs ls hP hS hl okl oks
  exact lv_icmp_ge X.1 X.2.1 hd ht (fun q => kt q p e s m args below meth c X H locs ls hP hS hl okl oks.tl.tl) (fun q => kf q p e s m args below meth c X H locs ls hP hS hl okl oks.tl.tl)
theorem E_icmp_gt {l : Launch} {G : GE} {mi : MI} {fk : FK} {pc : Nat} {lv : List (Option AV)} {st : List AV} {h : Hp} {x y : Int32} {off : Int} (tgt : Nat) (hd : decode mi.2.1 pc = .ok (.if_icmp .gt off, 3)) (ht : (pc : Int) + off = (tgt : Int)) (kt : y < x → Ev l G mi fk tgt lv st h) (kf : ¬ y < x → Ev l G mi fk (pc + 3) lv st h) : Ev l G mi fk pc lv (vI y :: vI x :: st) h := by
  intro p e s m args below meth c X H locs ls hP hS hl okl oks
  exact lv_icmp_gt X.1 X.2.1 hd ht (fun q => kt q p e s m args below meth c X H locs ls hP hS hl okl oks.tl.tl) (fun q => kf q p e s m args below meth c X H locs ls hP hS hl okl oks.tl.tl)
theorem E_icmp_le {l : Launch} {G : GE} {mi : MI} {fk : FK} {pc : Nat} {lv : List (Option AV)} {st : List AV} {h : Hp} {x y : Int32} {off : Int} (tgt : Nat) (hd : decode mi.2.1 pc = .ok (.if_icmp .le off, 3)) (ht : (pc : Int) + off = (tgt : Int)) (kt : x ≤ y → Ev l G mi fk tgt lv st h) (kf : ¬ x ≤ y → Ev l G mi fk (pc + 3) lv st h) : Ev l G mi fk pc lv (vI y :: vI x :: st) h := by
  intro p e s m args below meth c X H locs ls hP hS hl okl oks
  exact lv_icmp_le X.1 X.2.1 hd ht (fun q => kt q p e s m args below meth c X H locs ls hP hS hl okl oks.tl.tl) (fun q => kf q p e s m args below meth c X H locs ls hP hS hl okl oks.tl.tl)
theorem E_goto {l : Launch} {G : GE} {mi : MI} {fk : FK} {pc : Nat} {lv : List (Option AV)} {st : List AV} {h : Hp} {off : Int} (tgt : Nat) (hd : decode mi.2.1 pc = .ok (.goto off, 3)) (ht : (pc : Int) + off = (tgt : Int)) (k : Ev l G mi fk tgt lv st h) : Ev l G mi fk pc lv st h := by
  intro p e s m args below meth c X H locs ls hP hS hl okl oks
  exact lv_goto X.1 X.2.1 hd ht (k p e s m args below meth c X H locs ls hP hS hl okl oks)
theorem E_tabIn {l : Launch} {G : GE} {mi : MI} {fk : FK} {pc : Nat} {lv : List (Option AV)} {st : List AV} {h : Hp} {dflt lo hi : Int} {offs : Array Int} {len : Nat} {x : Int32} {off : Int} (tgt : Nat) (hd : decode mi.2.1 pc = .ok (.tableswitch dflt lo hi offs, len)) (h1 : ¬ x.toInt < lo) (h2 : ¬ hi < x.toInt) (ho : offs[(x.toInt - lo).toNat]? = some off) (ht : (pc : Int) + off = (tgt : Int)) (k : Ev l G mi fk tgt lv st h) : Ev l G mi fk pc lv (vI x :: st) h := by
  intro p e s m args below meth c X H locs ls hP hS hl okl oks
  exact lv_tableIn X.1 X.2.1 hd h1 h2 ho ht (k p e s m args below meth c X H locs ls hP hS hl okl oks.tl)
theorem E_tabOut {l : Launch} {G : GE} {mi : MI} {fk : FK} {pc : Nat} {lv : List (Option AV)} {st : List AV} {h : Hp} {dflt lo hi : Int} {offs : Array Int} {len : Nat} {x : Int32} (tgt : Nat) (hd : decode mi.2.1 pc = .ok (.tableswitch dflt lo hi offs, len)) (h1 : x.toInt < lo ∨ hi < x.toInt) (ht : (pc : Int) + dflt = (tgt : Int)) (k : Ev l G mi fk tgt lv st h) : Ev l G mi fk pc lv (vI x :: st) h := by
  intro p e s m args below meth c X H locs ls hP hS hl okl oks
  exact lv_tableOut X.1 X.2.1 hd h1 ht (k p e s m args below meth c X H locs ls hP hS hl okl oks.tl)
