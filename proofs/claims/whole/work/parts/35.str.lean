/-! the text of names: String.charAt -/
theorem E_ldcS {l : Launch} {G : GE} {mi : MI} {fk : FK} {pc : Nat} {lv : List (Option AV)} {st : List AV} {h : Hp} (hd : decode mi.2.1 pc = .ok (.ldc 91, 2)) (hcls : mi.1.cls = RX1) (kk : Ev l G mi fk (pc + 2) lv (vR 64 0 :: st) h) : Ev l G mi fk pc lv st h := by
  intro p e s m args below meth c X H locs ls hP hS hl okl oks
  exact va_ldcS X.1 X.2.1 (hcls ▸ X.2.2.2.1) X.2.2.2.2.2.2.2.1.2.2.2.1 hd (kk p e s m args below meth c X H locs ls hP hS hl okl (okS.co (Or.inr (by decide)) oks))
theorem E_strCod {l : Launch} {G : GE} {mi : MI} {fk : FK} {pc : Nat} {lv : List (Option AV)} {st : List AV} {h : Hp} (hd : decode mi.2.1 pc = .ok (.getfield 15, 3)) (hcls : mi.1.cls = RJ0) (kk : Ev l G mi fk (pc + 3) lv (vI 0 :: st) h) : Ev l G mi fk pc lv (vR 64 0 :: st) h := by
  intro p e s m args below meth c X H locs ls hP hS hl okl oks
  exact vk_getf X.1 X.2.1 (X.2.2.2.2.2.2.2.1.2.2.2.2.1.1 0 (by decide)).2.1 hS (hcls ▸ X.2.2.2.1) (X.2.2.2.2.1 _ fw_RJ0_15) (fun _ z => z) hd (kk p e s m args below meth c X H locs ls hP hS hl okl oks.tl.ci)
theorem E_strVal {l : Launch} {G : GE} {mi : MI} {fk : FK} {pc : Nat} {lv : List (Option AV)} {st : List AV} {h : Hp} (hd : decode mi.2.1 pc = .ok (.getfield 9, 3)) (hcls : mi.1.cls = RJ0) (kk : Ev l G mi fk (pc + 3) lv (vR 65 0 :: st) h) : Ev l G mi fk pc lv (vR 64 0 :: st) h := by
  intro p e s m args below meth c X H locs ls hP hS hl okl oks
  exact vk_getf X.1 X.2.1 (X.2.2.2.2.2.2.2.1.2.2.2.2.1.1 0 (by decide)).2.2.1 hS (hcls ▸ X.2.2.2.1) (X.2.2.2.2.1 _ fw_RJ0_9) (fun _ z => z) hd (kk p e s m args below meth c X H locs ls hP hS hl okl (okS.co (Or.inr (by decide)) oks.tl))
theorem E_getCS {l : Launch} {G : GE} {mi : MI} {fk : FK} {pc : Nat} {lv : List (Option AV)} {st : List AV} {h : Hp} (hd : decode mi.2.1 pc = .ok (.getstatic 38, 3)) (hcls : mi.1.cls = RJ0) (kk : Ev l G mi fk (pc + 3) lv (vI 1 :: st) h) : Ev l G mi fk pc lv st h := by
  intro p e s m args below meth c X H locs ls hP hS hl okl oks
  exact va_gets X.1 X.2.1 X.2.2.2.2.2.2.2.1.2.2.2.2.2.1 hS (hcls ▸ X.2.2.2.1) (X.2.2.2.2.1 _ fw_RJ0_38) (fun _ z => z) hd (kk p e s m args below meth c X H locs ls hP hS hl okl oks.ci)
theorem E_lenB {l : Launch} {G : GE} {mi : MI} {fk : FK} {pc : Nat} {lv : List (Option AV)} {st : List AV} {h : Hp} (hd : decode mi.2.1 pc = .ok (.arraylength, 1)) (kk : Ev l G mi fk (pc + 1) lv (vI 78 :: st) h) : Ev l G mi fk pc lv (vR 65 0 :: st) h := by
  intro p e s m args below meth c X H locs ls hP hS hl okl oks
  exact va_tlen X.1 X.2.1 (X.2.2.2.2.2.2.2.1.2.2.2.2.1.1 0 (by decide)).2.2.2 hS rfl hd (kk p e s m args below meth c X H locs ls hP hS hl okl oks.tl.ci)
theorem E_baldB {l : Launch} {G : GE} {mi : MI} {fk : FK} {pc : Nat} {lv : List (Option AV)} {st : List AV} {h : Hp} {x : Int32} (hd : decode mi.2.1 pc = .ok (.baload, 1)) (hx : vp_in x 78) (kk : Ev l G mi fk (pc + 1) lv (vI (strBytes.getD (ixN x) 0) :: st) h) : Ev l G mi fk pc lv (vI x :: vR 65 0 :: st) h := by
  intro p e s m args below meth c X H locs ls hP hS hl okl oks
  exact va_tb X.1 X.2.1 (X.2.2.2.2.2.2.2.1.2.2.2.2.1.1 0 (by decide)).2.2.2 hS hx rfl hd (kk p e s m args below meth c X H locs ls hP hS hl okl oks.tl.tl.ci)
theorem E_callStr {l : Launch} {G : GE} {mi : MI} {fk : FK} {pc : Nat} {lv : List (Option AV)} {st : List AV} {h : Hp} {mj : MI} {idx n : Nat} {as rest : List AV} {x : Int32} {g : Hp} (hd : decode mi.2.1 pc = .ok (.invokevirtual idx, 3)) (hc : CT l G mj (vR 64 0 :: as) h (fun r h' => r = some x ∧ h' = g)) (hst : st = as.reverse ++ vR 64 0 :: rest) (hL : LkV mi.1.cls idx mj n) (hcl : mj.1.cls = "java/lang/String") (hn : as.length = n) (hR : mj.2.2.2.2 + 1 ≤ fk.2.1.frames ∧ 8 + (mj.2.2.1 + 11) + 38 * mj.2.2.2.2 ≤ fk.2.1.locals ∧ fk.2.2.1 ≤ fk.2.1.cells ∧ fk.2.2.2.1 ≤ fk.2.1.slots) (hw : wd rest ≤ 8)
    (kk : Ev l G mi fk (pc + 3) lv (vI x :: rest) g) : Ev l G mi fk pc lv st h := by
  subst hst
  intro p e s m args below meth c X H locs ls hP hS hl okl oks
  obtain ⟨⟨w1, w2, w3, w4, w5, w6⟩, w7, w8⟩ := hL
  have hts := X.2.2.2.2.1
  have okr : okS rest := fun v hv => oks v (List.mem_append_right _ (List.mem_cons_of_mem _ hv))
  have oka : okS (vR 64 0 :: as) := okS.co (Or.inr (by decide)) (fun v hv => oks v (List.mem_append_left _ (List.mem_reverse.mpr hv)))
  have hrecv := vk_recv (i := 0) X.2.2.2.2.2.2.2.1.2.2.2.2.1 (by decide) hS
  have hM := hc oka
  have hst2 : (as.reverse ++ vR 64 0 :: rest).map (cv G) = (as.map (cv G)).reverse ++ Value.ref (G.2.2 64 0) :: rest.map (cv G) := by rw [List.map_append, List.map_reverse]; rfl
  refine call_end X hS hl okl okr (a := (Value.ref (G.2.2 64 0) :: as.map (cv G)).toArray) (Q := fun r h' => r = some x ∧ h' = g) ?_ (fun r h' hq => by obtain ⟨rfl, rfl⟩ := hq; exact kk)
  exact va_runV (As := as.map (cv G)) (n := n) (C := mj.1.cls) (b := G.2.2 64 0) (own := mi.1.cls) (nL := mi.2.2.1) (bytes := mj.2.1) (maxL := mj.2.2.1) (ret := mj.2.2.2.1) (index := idx) ⟨X.1, X.2.1, X.2.2.1, X.2.2.2.1, hts⟩ hM
    ⟨callB_of n hts (wA_good (mi := mi) w3) rfl rfl rfl (hts _ w2) (hts _ w1) ⟨w4, w5, w6⟩ ⟨hR.1, hR.2.1⟩, hts _ w7, hts _ w8⟩
    ⟨World.blind, by rw [hcl]; exact hrecv, fun U hU hW => ⟨rfl, by rw [hU]; exact hP, va_K.moved hW.alike X.2.2.2.2.2.1, X.2.2.2.2.2.2.1, by rw [hU]; exact (X.2.2.2.2.2.2.2.1.kept hS.2.1).warm hW⟩⟩
    rfl (by rw [List.length_map]; exact hn) hl.1 hst2 (lv_room (by rw [wd_ok]; exact hw)) hd ⟨hR.2.2.1, hR.2.2.2⟩
/-- Preconditions.checkIndex, whatever the formatter is -/
theorem M_chk (l : Launch) (i n : Int32) (v : Value) (h0 : ¬ i < 0) (h1 : i < n) (hv1 : v.category = 1) : Met l yJ3_checkIndex_8e157 (wA mJ3_checkIndex_8e157) (rmD 1) (va_Pc [.int i, .int n, v] (fun _ => True)) (vp_Si (fun r => r = i)) 0 0 (fun _ => False) := by
  refine metF (cc := cJ3_checkIndex_8e157) (maxL := 3) (ret := some .int) (by decide +kernel) rfl ?_
  intro p e s m args below meth c s₁ B hml hv
  obtain ⟨rfl, -⟩ := hv
  have hx := B.exec
  have hb := B.bytes
  have hr := B.returns
  have hlocks := B.notSynchronized
  rw [lg_entry_eq]
  have hlen : (lg_sl [.int i, .int n, v]).length ≤ 3 := by
    show ([Slot.val (.int i)] ++ ([Slot.val (.int n)] ++ lg_sl [v])).length ≤ 3
    cases v <;> first | (exact Nat.le_refl 3) | (cases hv1)
  have hl0 := lv_entry ([.int i, .int n, v]) (n := 3) hlen
  generalize (lg_sl [.int i, .int n, v] ++ List.replicate (3 - (lg_sl [.int i, .int n, v]).length) Slot.unset).toArray = ls at hl0 ⊢
  have g0 : ls[0]? = some (.val (.int i)) := hl0.2.2 (0, .int i) (by show (0, Value.int i) ∈ (0, Value.int i) :: _; exact List.mem_cons_self)
  have g1 : ls[1]? = some (.val (.int n)) := hl0.2.2 (1, .int n) (by show (1, Value.int n) ∈ (0, Value.int i) :: (1, Value.int n) :: _; exact List.mem_cons_of_mem _ List.mem_cons_self)
  refine lv_iload_n hx hb dJ3_checkIndex_8e157_0 rfl g0 ?_
  refine lv_if_lt (tgt := 9) hx hb dJ3_checkIndex_8e157_1 rfl (fun q => absurd q h0) (fun _ => ?_)
  refine lv_iload_n hx hb dJ3_checkIndex_8e157_4 rfl g0 ?_
  refine lv_iload_n hx hb dJ3_checkIndex_8e157_5 rfl g1 ?_
  refine lv_icmp_lt (tgt := 16) hx hb dJ3_checkIndex_8e157_6 rfl (fun _ => ?_) (fun q => absurd h1 q)
  refine lv_iload_n hx hb dJ3_checkIndex_8e157_16 rfl g0 ?_
  exact W.iret (v := i) hx hb hr (fun t ht hW => ⟨i, rfl, rfl, ht⟩) (fun q hq => by cases hq) dJ3_checkIndex_8e157_17
theorem E_chk {l : Launch} {G : GE} {mi : MI} {fk : FK} {pc : Nat} {lv : List (Option AV)} {st : List AV} {h : Hp} {i n : Int32} (hcls : mi.1.cls = RJ0) (hd : decode mi.2.1 pc = .ok (.getstatic 1053, 3)) (hd2 : decode mi.2.1 (pc + 3) = .ok (.invokestatic 1059, 3)) (h0 : ¬ i < 0) (h1 : i < n) (hR : 1 + 1 ≤ fk.2.1.frames ∧ 8 + (3 + 11) + 38 * 1 ≤ fk.2.1.locals ∧ fk.2.2.1 ≤ fk.2.1.cells ∧ fk.2.2.2.1 ≤ fk.2.1.slots) (hw : wd st ≤ 8) (kk : Ev l G mi fk (pc + 3 + 3) lv (vI i :: st) h) : Ev l G mi fk pc lv (vI n :: vI i :: st) h := by
  intro p e s m args below meth c X H locs ls hP hS hl okl oks
  have hts := X.2.2.2.2.1
  obtain ⟨⟨w1, w2, w3, w4, w5, w6⟩, w7⟩ := ks_RJ0_1059
  have hown : s.vm.findClass RJ0 = some m.cls := hcls ▸ X.2.2.2.1
  have key : ∀ v : Value, v.category = 1 → W p l e fk.2.1 s m args below meth c H locs fk.2.2.1 fk.2.2.2.1 (fk.2.2.2.2 s args below) (F0 m (pc + 3) ls (v :: .int n :: .int i :: st.map (cv G))) := by
    intro v hv
    have hr : va_Run p l e fk.2.1 s m args below meth c H locs fk.2.2.1 fk.2.2.2.1 0 0 (F0 m (pc + 3) ls (v :: .int n :: .int i :: st.map (cv G))) (st.map (cv G)) (vp_Si (fun r => r = i) ([.int i, .int n, v] : List Value).toArray) (fun _ => False) :=
      va_runS (As := [.int i, .int n, v]) (n := 3) (own := RJ0) (nL := mi.2.2.1) (bytes := cJ3_checkIndex_8e157) (maxL := 3) (ret := some .int) (index := 1059) ⟨X.1, X.2.1, X.2.2.1, hown, hts⟩ (M_chk l i n v h0 h1 hv)
        ⟨callB_of 3 hts (wA_good (mi := mi) (mj := mJ3_checkIndex_8e157) w3) rfl rfl rfl (hts _ w2) (hts _ w1) ⟨w4, w5, w6⟩ ⟨hR.1, hR.2.1⟩, hts _ w7⟩
        ⟨fun a U g mk q => q, fun U hU hW => ⟨rfl, trivial⟩⟩ rfl rfl hl.1 rfl (lv_room (by rw [wd_ok]; exact hw)) hd2 ⟨hR.2.2.1, hR.2.2.2⟩
    intro T hT Y
    obtain ⟨v', st₀, t, T', L, z0, Y', hL, e1, e2, ⟨r, er, rfl, hh⟩, stp⟩ := hr T hT Y
    cases er
    have hheap : T'.heap = H := by rw [e1, hh, z0]
    have hS' : va_S (Ac G) s.heap H (locs ++ L) := ⟨hS.1, hS.2.1, fun q hq => by
      rcases List.mem_append.mp hq with z | z
      · exact hS.2.2 q z
      · exact (hL q z).elim⟩
    obtain ⟨t2, a1, b1⟩ := kk p e s m args below meth c X H (locs ++ L) ls hP hS' hl okl oks.tl.tl.ci T' hheap Y'
    exact ⟨t2, stp t2 a1, b1⟩
  rcases X.2.2.2.2.2.2.2.1.2.2.2.2.2.2 with hz | ⟨t, hz⟩
  · exact va_gets X.1 X.2.1 hz hS hown (hts _ fw_RJ0_1053) (fun _ z => z) hd (key .null rfl)
  · exact va_gets X.1 X.2.1 hz hS hown (hts _ fw_RJ0_1053) (fun _ z => z) hd (key (.ref t) rfl)
