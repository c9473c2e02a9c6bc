/-! MAKING: arraycopy from the table, constructors' calls and ends -/
section
variable {l : Launch} {G : GE} {mi : MI} {nk : NK} {cells slots pc : Nat} {lv : List (Nat × Value)} {st : List Value} {ws : va_W}
theorem N_copyU {idx a1 n1 : Nat} (q1 : Nat) {f1 : Nat → Int32} {ws' : va_W} (hd : decode mi.2.1 pc = .ok (.invokestatic idx, 3)) (hL : LkC mi.1.cls idx) (ha1 : ws[q1]? = some (a1, .inl (G.2.1 0, n1, .inl f1))) (hn1 : n1 = 18) (hR : 1 ≤ nk.2.1.frames ∧ (st.map fun v => v.category).sum + (nativeFrameWords "java/lang/System" "arraycopy" 5 + 11) ≤ nk.2.1.locals) (hws : ws.set q1 (a1, .inl (G.2.1 0, n1, .inl (va_cpy (fun j => tUSUAL.getD j 0) f1 0 0 18))) = ws') (kk : Nv l G mi nk cells slots (pc + 3) lv st ws') : Nv l G mi nk cells slots pc lv (.int 18 :: .int 0 :: .ref a1 :: .int 0 :: .ref (G.2.2 60 0) :: st) ws := by
  subst hws
  subst hn1
  intro p e s m args below meth c X H locs ls hP hD hS hl
  obtain ⟨w1, w2, w3, w4⟩ := hL
  have hts := X.2.2.2.2.1
  have hX := X.2.2.2.2.2.2.1.2.1
  intro T hT Y
  obtain ⟨scr, hr1, hr2, hr3, hr4, -, hr5, hr7⟩ := hX
  have hc0 : H[G.2.2 60 0]? = some scr := by rw [hS.2.1 _ (Array.getElem?_eq_some_iff.mp hr1).1 hr7]; exact hr1
  have hc1 : H[a1]? = some (vp_cell (G.2.1 0) (18, .inl f1)) := hP q1 _ ha1
  obtain ⟨hr6, k0, hk0, cm0, hkk0⟩ := hr2
  obtain ⟨-, k1, hk1, cm1, hkk1⟩ := (X.2.2.2.2.2.1.2 0 _ tys0).1 18 (fun j => .int (f1 j))
  obtain ⟨vm', Y', step⟩ := Y.arraycopy X.1 X.2.2.2.1 (hts _ w1) (hts _ w2) (hts _ w3) (hts _ w4) (src := G.2.2 60 0) (dst := a1) (cs := scr) (cd := vp_cell (G.2.1 0) (18, .inl f1)) (srcPos := 0) (destPos := 0) (n := 18) (by rw [hT]; exact hc0) (by rw [hT]; exact hc1)
    hr6 (fun _ h => by cases h) hr3 (fun h => by cases h) hk0 hk1 hkk0 hkk1 (by simp [refKind]) (by decide) (by decide) (by decide)
    (by show ¬ (0 : Int) + 18 > (scr.slots.size : Int); omega)
    (by show ¬ (0 : Int) + 18 > ((arrV (G.2.1 0) 18 (fun j => .int (f1 j))).slots.size : Int); rw [arrV_size]; decide)
    (fun vm₁ _ i hi => by
      have hi : i < 18 := hi
      have e : scr.slots.getD (0 + i) .null = .int (tUSUAL.getD (0 + i) 0) := by
        rw [Array.getD_eq_getD_getElem?, hr5 _ (by omega)]
        rfl
      refine ⟨?_, ?_⟩
      · show fits _ (scr.slots.getD (0 + i) .null) = true
        rw [e]
        exact fits_int _
      · show _
        rw [show (Int32.toNatClampNeg 0) + i = 0 + i from rfl, e]
        exact trivial)
    (g := F0 m pc ls (.int 18 :: .int 0 :: .ref a1 :: .int 0 :: .ref (G.2.2 60 0) :: st)) rfl (by rw [hl.1]; exact X.2.2.1.symm) (rest := st) rfl (by rw [X.2.1]; exact hd) hR.1 (by show 2 * 0 + _ + _ ≤ _; omega)
  have e1 : copied scr (vp_cell (G.2.1 0) (18, .inl f1)) 0 0 18 = vp_cell (G.2.1 0) (18, .inl (va_cpy (fun j => tUSUAL.getD j 0) f1 0 0 18)) := va_copiedX (fun z => .int z) scr (G.2.1 0) (fun j => tUSUAL.getD j 0) f1 hr5 (by decide)
  rw [e1] at Y' step
  have hlt : a1 < H.size := (Array.getElem?_eq_some_iff.mp hc1).1
  have hheap : ((T.setVm vm').setCell a1 (vp_cell (G.2.1 0) (18, .inl (va_cpy (fun j => tUSUAL.getD j 0) f1 0 0 18)))).heap = H.setIfInBounds a1 (vp_cell (G.2.1 0) (18, .inl (va_cpy (fun j => tUSUAL.getD j 0) f1 0 0 18))) := by rw [← hT]; rfl
  have oq : ∀ q : Nat, q ≠ a1 → (H.setIfInBounds a1 (vp_cell (G.2.1 0) (18, .inl (va_cpy (fun j => tUSUAL.getD j 0) f1 0 0 18))))[q]? = H[q]? := fun q hq => by simp [Array.getElem?_setIfInBounds, Ne.symm hq]
  have hP1 := hP.set hD ha1 (show va_at G.1 vwCl (a1, .inl (G.2.1 0, 18, .inl (va_cpy (fun j => tUSUAL.getD j 0) f1 0 0 18))) (H.setIfInBounds a1 (vp_cell (G.2.1 0) (18, .inl (va_cpy (fun j => tUSUAL.getD j 0) f1 0 0 18)))) from (show (H.setIfInBounds a1 _)[a1]? = some _ by simp [Array.getElem?_setIfInBounds, hlt])) oq
  obtain ⟨t, a1', b1⟩ := kk p e s m args below meth c X _ _ ls hP1 (hD.set ha1) ⟨by simp; exact hS.1, fun q g1 g2 => by
      rw [oq q (fun e => g2 (by rw [e]; exact hD.2 q1 _ ha1))]
      exact hS.2.1 q g1 g2, fun q hq => by
      rcases List.mem_append.mp hq with h | h
      · exact hS.2.2 q h
      · obtain ⟨z, -, hz⟩ := List.mem_map.mp h
        rw [← hz]
        exact hD.2 q1 _ ha1⟩ hl _ hheap Y'
  exact ⟨t, step t a1', b1⟩
end
/-- a constructor's contract: on the cells ws0 it leaves cells with Q; mc cells of ms slots come -/
def rmK (d mc ms : Nat) : Room := { frames := d, cells := mc, slots := ms, locals := 38 * d }
def KP (G : GE) (ws0 : va_W) (sz : Nat) (U : State) : Prop := U.heap.size = sz ∧ va_P G.1 vwCl ws0 U.heap ∧ va_K G.1 vwCl (tysG G) U ∧ va_D (fun _ => True) ws0 ∧ SU G (va_A ws0 sz) U U.heap
def KB (G : GE) (ws0 : va_W) (sz : Nat) (ws1 : va_W) (t : State) : Prop := va_P G.1 vwCl ws1 t.heap ∧ va_D (va_A ws0 sz) ws1
def KT (l : Launch) (G : GE) (mi : MI) (as : List Value) (ws0 : va_W) (d mc ms : Nat) (Q : va_W → Prop) : Prop :=
  ∀ sz, Met l mi.1 (wA mi) (rmK d mc ms) (va_Pc as (KP G ws0 sz)) (va_Qv Q (KB G ws0 sz) (va_A ws0 sz)) mc ms (va_A ws0 sz)
def nkK (G : GE) (ws0 : va_W) (d mc ms : Nat) (Q : va_W → Prop) : NK := (fun s => va_A ws0 s.heap.size, rmK d mc ms, fun s args below => MQ below (va_Qv Q (KB G ws0 s.heap.size) (va_A ws0 s.heap.size)) args s mc ms (va_A ws0 s.heap.size))
theorem KT.of {l : Launch} {G : GE} {mi : MI} {as : List Value} {ws0 : va_W} {d mc ms : Nat} {Q : va_W → Prop} (hp : plainFor mi.1 = true) {lv : List (Nat × Value)} (hn : (lg_sl as).length ≤ mi.2.2.1) (hlv : lv_args 0 as = lv) (k : Nv l G mi (nkK G ws0 d mc ms Q) 0 0 0 lv [] ws0) : KT l G mi as ws0 d mc ms Q := by
  subst hlv
  intro sz
  refine metF (cc := mi.2.1) (maxL := mi.2.2.1) (ret := mi.2.2.2.1) hp rfl ?_
  intro p e s m args below meth c s₁ B hml hv
  obtain ⟨rfl, hsz, hP, hK, hD, hU⟩ := hv
  subst hsz
  have hts := atoms_spec (ws := wA mi) B.pre
  rw [lg_entry_eq]
  have hnm : meth.name = mi.1.name := (name_of_methodNamed B.named B.method).1
  exact k p e s m _ below meth c ⟨B.exec, B.bytes, hml, findClass_of_methodNamed B.named, fun w hw => hts w (List.mem_cons_of_mem _ hw), hK, hU, fun q h => Or.inr h, B.notSynchronized, B.returns, fun hi => hnm.trans hi⟩ s.heap [] _ hP hD.self va_S.rf (lv_entry as (n := mi.2.2.1) hn)
theorem N_ret {l : Launch} {G : GE} {mi : MI} {ws0 ws : va_W} {d mc ms pc : Nat} {lv : List (Nat × Value)} {Q : va_W → Prop} (hd : decode mi.2.1 pc = .ok (.return_, 1)) (hr : mi.2.2.2.1 = none) (hq : Q ws) : Nv l G mi (nkK G ws0 d mc ms Q) mc ms pc lv [] ws := by
  intro p e s m args below meth c X H locs ls hP hD hS hl
  exact W.vret X.1 X.2.1 (X.2.2.2.2.2.2.2.2.2.1.trans hr) (fun t ht hW => ⟨⟨ws, rfl, hq, by rw [ht]; exact hP, hD⟩, hS.F ht⟩) hS.2.2 hd X.2.2.2.2.2.2.2.2.1
theorem KP.blind {G : GE} {ws0 : va_W} {sz : Nat} {av : List Value} : FrameBlind (va_Pc av (KP G ws0 sz)) := by
  intro a U g mk q
  obtain ⟨q0, q1, qP, qK, qD, qS⟩ := q
  exact ⟨q0, q1, qP, va_K.moved (u := U) (U := U.calling g mk a) (Vm.Alike.refl U.vm) qK, qD, SU.same (s := U) (U := U.calling g mk a) rfl qS⟩
theorem join_app {A0 : Nat → Prop} {D : va_G} {cl : List vw_C} {wr wc w1 : va_W} {H H1 : Heap} (hP : va_P D cl (wr ++ wc) H) (hD : va_D A0 (wr ++ wc)) (hk : ∀ q : Nat, q < H.size → ¬ va_A wc H.size q → H1[q]? = H[q]?) (hF : ∀ q, va_A wc H.size q → A0 q) (hP1 : va_P D cl w1 H1) (hD1 : va_D (va_A wc H.size) w1) : va_P D cl (wr ++ w1) H1 ∧ va_D A0 (wr ++ w1) := by
  have up : ∀ (k : Nat) (q : Nat × va_E), wr[k]? = some q → (wr ++ wc)[k]? = some q := fun k q h => by rw [List.getElem?_append_left (List.getElem?_eq_some_iff.mp h).1]; exact h
  have up2 : ∀ (k : Nat) (q : Nat × va_E), wc[k]? = some q → (wr ++ wc)[wr.length + k]? = some q := fun k q h => by rw [List.getElem?_append_right (by omega), Nat.add_sub_cancel_left]; exact h
  have apart : ∀ (k : Nat) (q : Nat × va_E), wr[k]? = some q → q.1 < H.size ∧ ¬ va_A wc H.size q.1 := by
    intro k q hq
    have hl := (hP k q (up k q hq)).lt
    refine ⟨hl, fun h => ?_⟩
    rcases h with ⟨k2, e, h⟩ | h
    · have hij := hD.1 k (wr.length + k2) q (q.1, e) (up k q hq) (up2 k2 _ h) rfl
      have := (List.getElem?_eq_some_iff.mp hq).1
      omega
    · omega
  refine ⟨va_P.app (fun k q hq => ?_) hP1, va_D.app ⟨fun i j x y hx hy e => hD.1 i j x y (up i x hx) (up j y hy) e, fun k q hq => hD.2 k q (up k q hq)⟩ (hD1.weaken (fun k q _ h => hF q.1 h)) (fun i j x y hx hy hxy => ?_)⟩
  · obtain ⟨g1, g2⟩ := apart k q hq
    exact (hP k q (up k q hq)).kept (hk q.1 g1 g2)
  · exact (apart i x hx).2 (by rw [hxy]; exact hD1.2 j y hy)
theorem tail_P {D : va_G} {cl : List vw_C} {wr wc : va_W} {H : Heap} (hP : va_P D cl (wr ++ wc) H) : va_P D cl wc H := fun k q hq => hP (wr.length + k) q (by rw [List.getElem?_append_right (by omega), Nat.add_sub_cancel_left]; exact hq)
theorem tail_D {A : Nat → Prop} {wr wc : va_W} (hD : va_D A (wr ++ wc)) : va_D A wc := by
  have up2 : ∀ (k : Nat) (q : Nat × va_E), wc[k]? = some q → (wr ++ wc)[wr.length + k]? = some q := fun k q h => by rw [List.getElem?_append_right (by omega), Nat.add_sub_cancel_left]; exact h
  exact ⟨fun i j x y hx hy e => by have := hD.1 _ _ x y (up2 i x hx) (up2 j y hy) e; omega, fun k q hq => hD.2 _ q (up2 k q hq)⟩
/-- how a constructor is linked -/
def LkI (own : String) (idx : Nat) (mj : MI) (n : Nat) : Prop := Cond.methodLink own idx mj.1 ∈ TB ∧ Cond.initialized mj.1.cls ∈ TB ∧ Cond.code mj.1 mj.2.1 mj.2.2.1 none ∈ TB ∧ Cond.instanceMethod mj.1 ∈ TB ∧ mj.1.name = "<init>" ∧ (mj.1.cls ≠ "java/lang/invoke/MethodHandle" ∧ mj.1.cls ≠ "java/lang/invoke/VarHandle" ∧ (parseMethodDescriptor mj.1.desc).map (fun d => d.parameters.length) = some n) ∧ mj.2.2.2.1 = none
def LkJ (own : String) (idx : Nat) (mj : MI) (n : Nat) : Prop := (∀ (G : GE) (A : Nat → Prop) (U : State) (H : Heap), SU G A U H → va_Nw (.methodLinkNest own idx mj.1 RX7) U) ∧ Cond.initialized mj.1.cls ∈ TB ∧ Cond.code mj.1 mj.2.1 mj.2.2.1 none ∈ TB ∧ Cond.instanceMethod mj.1 ∈ TB ∧ mj.1.name = "<init>" ∧ (mj.1.cls ≠ "java/lang/invoke/MethodHandle" ∧ mj.1.cls ≠ "java/lang/invoke/VarHandle" ∧ (parseMethodDescriptor mj.1.desc).map (fun d => d.parameters.length) = some n) ∧ mj.2.2.2.1 = none
section
variable {l : Launch} {G : GE} {mi : MI} {nk : NK} {cells slots pc : Nat} {lv : List (Nat × Value)} {st : List Value} {ws : va_W}
theorem N_callI {mj : MI} {idx n b d mc ms : Nat} {as rest : List Value} {wr ws0 : va_W} {Q : va_W → Prop} (hd : decode mi.2.1 pc = .ok (.invokespecial idx, 3)) (hc : KT l G mj (.ref b :: as) ws0 d mc ms Q) (hws : ws = wr ++ ws0) (hst : st = as.reverse ++ .ref b :: rest) (hL : LkI mi.1.cls idx mj n) (hn : as.length = n) (hR : d + 1 ≤ nk.2.1.frames ∧ 8 + (mj.2.2.1 + 11) + 38 * d ≤ nk.2.1.locals ∧ cells + mc ≤ nk.2.1.cells ∧ slots + ms ≤ nk.2.1.slots) (hw : (rest.map fun v => v.category).sum ≤ 8) (kk : ∀ ws1, Q ws1 → Nv l G mi nk (cells + mc) (slots + ms) (pc + 3) lv rest (wr ++ ws1)) : Nv l G mi nk cells slots pc lv st ws := by
  subst hws
  subst hst
  intro p e s m args below meth c X H locs ls hP hD hS hl
  obtain ⟨w1, w2, w3, w4, w5, w6, w7⟩ := hL
  have hts := X.2.2.2.2.1
  have hPc := tail_P hP
  have hDc := tail_D hD
  have hF : ∀ q, va_A ws0 H.size q → nk.1 s q := fun q h => h.elim (fun ⟨k, e, hk⟩ => hDc.2 k (q, e) hk) (fun h => X.2.2.2.2.2.2.2.1 q (Nat.le_trans hS.1 h))
  refine va_callv (va_runI (As := as) (rest := rest) (n := n) (b := b) (own := mi.1.cls) (nL := mi.2.2.1) (bytes := mj.2.1) (maxL := mj.2.2.1) (index := idx) ⟨X.1, X.2.1, X.2.2.1, X.2.2.2.1, hts⟩ (hc H.size)
    (cwI n hts (wA_good (mi := mi) (by rw [w7]; exact w3)) (by unfold wA; rw [w7]) rfl rfl (hts _ w2) (hts _ w1) (hts _ w4) w5 w6 ⟨hR.1, hR.2.1⟩)
    ⟨KP.blind, fun U hU hW => ⟨rfl, by rw [hU], by rw [hU]; exact hPc, va_K.moved hW.alike X.2.2.2.2.2.1, hDc.weaken (fun _ _ _ _ => trivial), by rw [hU]; exact ((X.2.2.2.2.2.2.1.kept hS.2.1).narrow hF).warm hW⟩⟩
    rfl hn hl.1 rfl (lv_room hw) hd ⟨hR.2.2.1, hR.2.2.2⟩) hS (fun q _ h => hF q h) hF (fun ws1 t H1 locs1 ht hvm hq hB hz hk hS1 => ?_)
  obtain ⟨hP1, hD1⟩ := hB
  rw [ht] at hP1
  obtain ⟨hP2, hD2⟩ := join_app hP hD hk hF hP1 hD1
  exact kk ws1 hq p e s m args below meth c X H1 locs1 ls hP2 hD2 hS1 hl
theorem N_callJ {mj : MI} {idx n b d mc ms : Nat} {as rest : List Value} {wr ws0 : va_W} {Q : va_W → Prop} (hd : decode mi.2.1 pc = .ok (.invokespecial idx, 3)) (hc : KT l G mj (.ref b :: as) ws0 d mc ms Q) (hws : ws = wr ++ ws0) (hst : st = as.reverse ++ .ref b :: rest) (hL : LkJ mi.1.cls idx mj n) (hn : as.length = n) (hR : d + 1 ≤ nk.2.1.frames ∧ 8 + (mj.2.2.1 + 11) + 38 * d ≤ nk.2.1.locals ∧ cells + mc ≤ nk.2.1.cells ∧ slots + ms ≤ nk.2.1.slots) (hw : (rest.map fun v => v.category).sum ≤ 8) (kk : ∀ ws1, Q ws1 → Nv l G mi nk (cells + mc) (slots + ms) (pc + 3) lv rest (wr ++ ws1)) : Nv l G mi nk cells slots pc lv st ws := by
  subst hws
  subst hst
  intro p e s m args below meth c X H locs ls hP hD hS hl
  obtain ⟨w1, w2, w3, w4, w5, w6, w7⟩ := hL
  have hts := X.2.2.2.2.1
  have hPc := tail_P hP
  have hDc := tail_D hD
  have hF : ∀ q, va_A ws0 H.size q → nk.1 s q := fun q h => h.elim (fun ⟨k, e, hk⟩ => hDc.2 k (q, e) hk) (fun h => X.2.2.2.2.2.2.2.1 q (Nat.le_trans hS.1 h))
  refine va_callv (va_runIN (As := as) (rest := rest) (n := n) (b := b) (own := mi.1.cls) (host := RX7) (nL := mi.2.2.1) (bytes := mj.2.1) (maxL := mj.2.2.1) (index := idx) ⟨X.1, X.2.1, X.2.2.1, X.2.2.2.1, hts⟩ (hc H.size)
    ⟨va_cnB n hts (wA_good (mi := mi) (by rw [w7]; exact w3)) (by unfold wA; rw [w7]) rfl rfl (w1 G _ s s.heap X.2.2.2.2.2.2.1) (hts _ w2) w6 ⟨hR.1, hR.2.1⟩, w5, hts _ w4⟩
    ⟨KP.blind, fun U hU hW => ⟨rfl, by rw [hU], by rw [hU]; exact hPc, va_K.moved hW.alike X.2.2.2.2.2.1, hDc.weaken (fun _ _ _ _ => trivial), by rw [hU]; exact ((X.2.2.2.2.2.2.1.kept hS.2.1).narrow hF).warm hW⟩⟩
    rfl hn hl.1 rfl (lv_room hw) hd ⟨hR.2.2.1, hR.2.2.2⟩) hS (fun q _ h => hF q h) hF (fun ws1 t H1 locs1 ht hvm hq hB hz hk hS1 => ?_)
  obtain ⟨hP1, hD1⟩ := hB
  rw [ht] at hP1
  obtain ⟨hP2, hD2⟩ := join_app hP hD hk hF hP1 hD1
  exact kk ws1 hq p e s m args below meth c X H1 locs1 ls hP2 hD2 hS1 hl
end
