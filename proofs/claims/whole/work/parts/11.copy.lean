/-! System.arraycopy -/
def LkC (own : String) (idx : Nat) : Prop := Cond.methodLink own idx arraycopyName ∈ TB ∧ Cond.native arraycopyName ∈ TB ∧ Cond.static arraycopyName ∈ TB ∧ Cond.initialized "java/lang/System" ∈ TB
theorem fits_int (x : Int32) : fits .int (.int x) = true := rfl
theorem E_copy {l : Launch} {G : GE} {mi : MI} {fk : FK} {pc : Nat} {lv : List (Option AV)} {st : List AV} {h : Hp} {idx t0 i0 n0 t1 i1 n1 : Nat} {sp dp n : Int32} (hd : decode mi.2.1 pc = .ok (.invokestatic idx, 3)) (hL : LkC mi.1.cls idx) (hs0 : sh t0 = some (.inr (.inl (0, n0)))) (hs1 : sh t1 = some (.inr (.inl (0, n1)))) (hR : 1 ≤ fk.2.1.frames ∧ wd st + (nativeFrameWords "java/lang/System" "arraycopy" 5 + 11) ≤ fk.2.1.locals) (h1 : ¬ sp < 0) (h2 : ¬ dp < 0) (h3 : ¬ n < 0) (h4 : sp.toNatClampNeg + n.toNatClampNeg ≤ n0) (h5 : dp.toNatClampNeg + n.toNatClampNeg ≤ n1)
    (kk : Ev l G mi fk (pc + 3) lv st (hsetA h t1 i1 (va_cpy (h t0 i0) (h t1 i1) sp.toNatClampNeg dp.toNatClampNeg n.toNatClampNeg))) : Ev l G mi fk pc lv (vI n :: vI dp :: vR t1 i1 :: vI sp :: vR t0 i0 :: st) h := by
  intro p e s m args below meth c X H locs ls hP hS hl okl oks
  obtain ⟨w1, w2, w3, w4⟩ := hL
  have hts := X.2.2.2.2.1
  obtain ⟨q0, hq0⟩ := okV.key oks.tl.tl.tl.tl.hd hs0
  obtain ⟨q1, hq1⟩ := okV.key oks.tl.tl.hd hs1
  refine va_copyi X.1 X.2.1 (X.2.2.1.trans hl.1.symm) X.2.2.2.1 (hts _ w1) (hts _ w2) (hts _ w3) (hts _ w4) X.2.2.2.2.2.1 hP (wsG_D X.2.2.2.2.2.2.1 h) hS q0 q1 0 0 (ent_arr hq0 hs0) (ent_arr hq1 hs1) tys0 tys0 rfl h1 h2 h3 h4 h5 (fun i _ => fits_int _) hR.1 (by rw [wd_ok]; exact hR.2) hd (fun H1 locs1 hP1 hD1 hS1 => ?_)
  rw [wsG_arr (G := G) (h' := hsetA h t1 i1 (va_cpy (h t0 i0) (h t1 i1) sp.toNatClampNeg dp.toNatClampNeg n.toNatClampNeg)) hq1 hs1 (fun _ _ hne => hsetA_other hne) (hsetA_arr h t1 i1 _)] at hP1
  exact kk p e s m args below meth c X H1 locs1 ls hP1 hS1 hl okl oks.tl.tl.tl.tl.tl
theorem E_copyRO {l : Launch} {G : GE} {mi : MI} {fk : FK} {pc : Nat} {lv : List (Option AV)} {st : List AV} {h : Hp} {idx t0 n0 t1 i1 n1 : Nat} {f : Nat → Int32} {sp dp n : Int32} (hd : decode mi.2.1 pc = .ok (.invokestatic idx, 3)) (hL : LkC mi.1.cls idx) (hs0 : fk.1 t0 = some (n0, f)) (hs1 : sh t1 = some (.inr (.inl (0, n1)))) (hR : 1 ≤ fk.2.1.frames ∧ wd st + (nativeFrameWords "java/lang/System" "arraycopy" 5 + 11) ≤ fk.2.1.locals) (h1 : ¬ sp < 0) (h2 : ¬ dp < 0) (h3 : ¬ n < 0) (h4 : sp.toNatClampNeg + n.toNatClampNeg ≤ n0) (h5 : dp.toNatClampNeg + n.toNatClampNeg ≤ n1)
    (kk : Ev l G mi fk (pc + 3) lv st (hsetA h t1 i1 (va_cpy f (h t1 i1) sp.toNatClampNeg dp.toNatClampNeg n.toNatClampNeg))) : Ev l G mi fk pc lv (vI n :: vI dp :: vR t1 i1 :: vI sp :: vR t0 0 :: st) h := by
  intro p e s m args below meth c X H locs ls hP hS hl okl oks
  obtain ⟨w1, w2, w3, w4⟩ := hL
  have hts := X.2.2.2.2.1
  have hX := X.2.2.2.2.2.2.2.2.1 t0 n0 f hs0
  obtain ⟨q1, hq1⟩ := okV.key oks.tl.tl.hd hs1
  have nn : ∀ z : Int32, ¬ z < 0 → z.toInt = (z.toNatClampNeg : Int) := by
    intro z hz
    have hz0 : (0 : Int) ≤ z.toInt := by
      have := Int32.not_lt.mp hz
      simpa using Int32.le_iff_toInt_le.mp this
    show z.toInt = ((z.toInt.toNat : Nat) : Int)
    omega
  have hD := wsG_D X.2.2.2.2.2.2.1 h
  have ha1 := ent_arr (G := G) (h := h) hq1 hs1
  intro T hT Y
  obtain ⟨scr, hr1, hr2, hr3, hr4, -, hr5, hr7⟩ := hX
  have hc0 : H[G.2.2 t0 0]? = some scr := by rw [hS.2.1 _ (Array.getElem?_eq_some_iff.mp hr1).1 hr7]; exact hr1
  have hc1 : H[G.2.2 t1 i1]? = some (vp_cell (G.2.1 0) (n1, .inl (h t1 i1))) := hP q1 _ ha1
  obtain ⟨hr6, k0, hk0, cm0, hkk0⟩ := hr2
  obtain ⟨-, k1, hk1, cm1, hkk1⟩ := (X.2.2.2.2.2.1.2 0 _ tys0).1 n1 (fun j => .int (h t1 i1 j))
  obtain ⟨vm', Y', step⟩ := Y.arraycopy X.1 X.2.2.2.1 (hts _ w1) (hts _ w2) (hts _ w3) (hts _ w4) (src := G.2.2 t0 0) (dst := G.2.2 t1 i1) (cs := scr) (cd := vp_cell (G.2.1 0) (n1, .inl (h t1 i1))) (srcPos := sp) (destPos := dp) (n := n) (by rw [hT]; exact hc0) (by rw [hT]; exact hc1)
    hr6 (fun _ h => by cases h) hr3 (fun h => by cases h) hk0 hk1 hkk0 hkk1 (by simp [refKind]) h1 h2 h3
    (by rw [nn sp h1, nn n h3]; omega)
    (by rw [nn dp h2, nn n h3]; show ¬ _ > ((arrV (G.2.1 0) n1 (fun j => .int (h t1 i1 j))).slots.size : Int); rw [arrV_size]; omega)
    (fun vm₁ _ i hi => by
      have e : scr.slots.getD (sp.toNatClampNeg + i) .null = .int (f (sp.toNatClampNeg + i)) := by
        rw [Array.getD_eq_getD_getElem?, hr5 _ (by omega)]
        rfl
      refine ⟨?_, ?_⟩
      · rw [e]
        exact fits_int _
      · rw [e]
        exact trivial)
    (g := F0 m pc ls (.int n :: .int dp :: .ref (G.2.2 t1 i1) :: .int sp :: .ref (G.2.2 t0 0) :: st.map (cv G))) rfl (by rw [hl.1]; exact X.2.2.1.symm) (rest := st.map (cv G)) rfl (by rw [X.2.1]; exact hd) hR.1 (by show 2 * 0 + _ + _ ≤ _; rw [wd_ok]; omega)
  have e1 : copied scr (vp_cell (G.2.1 0) (n1, .inl (h t1 i1))) sp dp n = vp_cell (G.2.1 0) (n1, .inl (va_cpy f (h t1 i1) sp.toNatClampNeg dp.toNatClampNeg n.toNatClampNeg)) := va_copiedX (fun z => .int z) scr (G.2.1 0) f (h t1 i1) hr5 h4
  rw [e1] at Y' step
  have hlt : G.2.2 t1 i1 < H.size := (Array.getElem?_eq_some_iff.mp hc1).1
  have hheap : ((T.setVm vm').setCell (G.2.2 t1 i1) (vp_cell (G.2.1 0) (n1, .inl (va_cpy f (h t1 i1) sp.toNatClampNeg dp.toNatClampNeg n.toNatClampNeg)))).heap = H.setIfInBounds (G.2.2 t1 i1) (vp_cell (G.2.1 0) (n1, .inl (va_cpy f (h t1 i1) sp.toNatClampNeg dp.toNatClampNeg n.toNatClampNeg))) := by rw [← hT]; rfl
  have oq : ∀ q : Nat, q ≠ G.2.2 t1 i1 → (H.setIfInBounds (G.2.2 t1 i1) (vp_cell (G.2.1 0) (n1, .inl (va_cpy f (h t1 i1) sp.toNatClampNeg dp.toNatClampNeg n.toNatClampNeg))))[q]? = H[q]? := fun q hq => by simp [Array.getElem?_setIfInBounds, Ne.symm hq]
  have hP1 := hP.set hD ha1 (show va_at G.1 vwCl (G.2.2 t1 i1, .inl (G.2.1 0, n1, .inl (va_cpy f (h t1 i1) sp.toNatClampNeg dp.toNatClampNeg n.toNatClampNeg))) (H.setIfInBounds (G.2.2 t1 i1) (vp_cell (G.2.1 0) (n1, .inl (va_cpy f (h t1 i1) sp.toNatClampNeg dp.toNatClampNeg n.toNatClampNeg)))) from (show (H.setIfInBounds (G.2.2 t1 i1) _)[G.2.2 t1 i1]? = some _ by simp [Array.getElem?_setIfInBounds, hlt])) oq
  rw [wsG_arr (G := G) (h' := hsetA h t1 i1 (va_cpy f (h t1 i1) sp.toNatClampNeg dp.toNatClampNeg n.toNatClampNeg)) hq1 hs1 (fun _ _ hne => hsetA_other hne) (hsetA_arr h t1 i1 _)] at hP1
  obtain ⟨t, a1, b1⟩ := kk p e s m args below meth c X _ _ ls hP1 ⟨by simp; exact hS.1, fun q g1 g2 => by
      rw [oq q (fun e => g2 (by rw [e]; exact hD.2 q1 _ ha1))]
      exact hS.2.1 q g1 g2, fun q hq => by
      rcases List.mem_append.mp hq with h | h
      · exact hS.2.2 q h
      · obtain ⟨z, -, hz⟩ := List.mem_map.mp h
        rw [← hz]
        exact hD.2 q1 _ ha1⟩ hl okl oks.tl.tl.tl.tl.tl _ hheap Y'
  exact ⟨t, step t a1, b1⟩
