/-! what the law's start gives: arrays, tables, the text -/
theorem law_arr {s : State} {args : Array Value} {ty : FieldType} (h : (Cond.arrayClass ty).before args s = true) (hp : ∀ cA, s.vm.findClass ("[" ++ ty.toString) = some cA → va_RA s cA ty) : ∃ cA, ArrOfT s cA ty ∧ va_RA s cA ty := by
  obtain ⟨cA, kA, comp, h1, h2, h3⟩ := Cond.arrayClass_spec h
  exact ⟨cA, fun n z => ⟨fun k h => (by cases h), kA, h2, comp, h3⟩, hp cA h1⟩
theorem law_arq {s : State} {args : Array Value} {C : String} (h : (Cond.arrayOver (.object C)).before args s = true) : ∃ cA, ArrOfT s cA (.object C) ∧ va_RA s cA (.object C) := by
  obtain ⟨comp, cA, kA, h1, -, h3, h4, h5⟩ := Cond.arrayOver_spec h
  exact ⟨cA, fun n z => ⟨fun k h => (by cases h), kA, h3, comp, h4⟩, kA, comp, h3, h4, h1, h5⟩
abbrev gv_1 : Cond := Jvm.Cond.and given_1 narrow_1
theorem gv_arr : (Cond.arrayOf (.static RX3 "USUAL" "[I") .int ∈ flatC gv_1 ∧ Cond.eq (.length (.static RX3 "USUAL" "[I")) (.int 18) ∈ flatC gv_1) ∧ (Cond.arrayOf (.static RX3 "LEAST" "[I") .int ∈ flatC gv_1 ∧ Cond.eq (.length (.static RX3 "LEAST" "[I")) (.int 18) ∈ flatC gv_1) ∧ Cond.arrayOf (.static RX3 "MOST" "[I") .int ∈ flatC gv_1 ∧ Cond.eq (.length (.static RX3 "MOST" "[I")) (.int 18) ∈ flatC gv_1 := by decide +kernel
theorem gv_u : ∀ j, j < 18 → Cond.eq (.elem (.static RX3 "USUAL" "[I") (.int (Int32.ofNat j))) (.int (tUSUAL.getD j 0)) ∈ flatC gv_1 := by decide +kernel
theorem gv_l : ∀ j, j < 18 → Cond.eq (.elem (.static RX3 "LEAST" "[I") (.int (Int32.ofNat j))) (.int (tLEAST.getD j 0)) ∈ flatC gv_1 := by decide +kernel
theorem gv_m : ∀ j, j < 18 → Cond.eq (.elem (.static RX3 "MOST" "[I") (.int (Int32.ofNat j))) (.int (tMOST.getD j 0)) ∈ flatC gv_1 := by decide +kernel
theorem gv_s : Cond.exactly (.string RX1 91) "java/lang/String" ∈ flatC gv_1 ∧ Cond.eq (.field (.string RX1 91) "java/lang/String" "coder" "B") (.int 0) ∈ flatC gv_1 ∧ Cond.arrayOf (.field (.string RX1 91) "java/lang/String" "value" "[B") .byte ∈ flatC gv_1 ∧ Cond.eq (.length (.field (.string RX1 91) "java/lang/String" "value" "[B")) (.int 78) ∈ flatC gv_1 ∧ Cond.eq (.static RJ0 "COMPACT_STRINGS" "Z") (.int 1) ∈ flatC gv_1 ∧ Cond.isRef (.static RJ3 "SIOOBE_FORMATTER" "Ljava/util/function/BiFunction;") ∈ flatC gv_1 := by decide +kernel
theorem gv_b : ∀ j, j < 78 → Cond.eq (.elem (.field (.string RX1 91) "java/lang/String" "value" "[B") (.int (Int32.ofNat j))) (.int (strBytes.getD j 0)) ∈ flatC gv_1 := by decide +kernel
theorem tb_st : (Cond.laysStatic RX3 "USUAL" "[I" ∈ lw_tbl ∧ Cond.laysStatic RX3 "LEAST" "[I" ∈ lw_tbl ∧ Cond.laysStatic RX3 "MOST" "[I" ∈ lw_tbl ∧ Cond.initialized RX3 ∈ lw_tbl) ∧ Cond.laysStatic RJ0 "COMPACT_STRINGS" "Z" ∈ lw_tbl ∧ Cond.initialized RJ0 ∈ lw_tbl ∧ Cond.laysStatic RJ3 "SIOOBE_FORMATTER" "Ljava/util/function/BiFunction;" ∈ lw_tbl ∧ Cond.initialized RJ3 ∈ lw_tbl ∧ Cond.stringRef RX1 91 strText ∈ lw_tbl ∧ Cond.arrayOver (.object RX6) ∈ lw_tbl ∧ Cond.arrayOver (.object RX4) ∈ lw_tbl := by decide +kernel
theorem tb_nw : (∀ w ∈ nestW, w ∈ lw_tbl) ∧ ∀ w ∈ nestI, w ∈ lw_tbl := by decide +kernel
set_option maxHeartbeats 4000000 in
theorem law_stat {p : Program} {s : State} {m : MethodId} {meth : Method} {c : Code} {b L : Nat} {xs : Nat → Int32} (hL : L ≤ 3584) (C0 : lw_At p s m meth c b L xs) : ∃ G : GE, va_K G.1 vwCl (tysG G) s ∧ StatA G (fun q => s.heap.size ≤ q) s s.heap ∧ SU G (fun q => s.heap.size ≤ q) s s.heap ∧ va_T .int (G.2.2 63 0) L (fun j => .int (xs j)) (fun q => s.heap.size ≤ q) s s.heap ∧ G.2.2 63 0 = b := by
  obtain ⟨hx, hb, hr, hml, hown, hts, hX, hbl, hlocks, hgv⟩ := C0
  have hs := flat_of_before _ hgv
  have hA : ∀ a : Nat, a < s.heap.size → ¬ (fun q : Nat => s.heap.size ≤ q) a := fun a h => Nat.not_le.mpr h
  obtain ⟨D, hD⟩ := law_cls hts
  obtain ⟨t0, r0, s0⟩ := law_arr (hts _ (TB_in ka_I)) (fun cA h => h)
  obtain ⟨t1, r1, s1⟩ := law_arr (hts _ (TB_in ka_Z)) (fun cA h => h)
  obtain ⟨t2, r2, s2⟩ := law_arq (hts _ tb_st.2.2.2.2.2.2.1)
  obtain ⟨t3, r3, s3⟩ := law_arq (hts _ tb_st.2.2.2.2.2.2.2)
  obtain ⟨u, hu, hU⟩ := va_Tof (N := 18) (f := fun j => .int (tUSUAL.getD j 0)) (A := fun q => s.heap.size ≤ q) (by decide) (hs _ gv_arr.1.1) (va_eqt (hs _ gv_arr.1.2)) (fun j hj => va_eqt (hs _ (gv_u j hj))) hA
  obtain ⟨le, hle, hLE⟩ := va_Tof (N := 18) (f := fun j => .int (tLEAST.getD j 0)) (A := fun q => s.heap.size ≤ q) (by decide) (hs _ gv_arr.2.1.1) (va_eqt (hs _ gv_arr.2.1.2)) (fun j hj => va_eqt (hs _ (gv_l j hj))) hA
  obtain ⟨mo, hmo, hMO⟩ := va_Tof (N := 18) (f := fun j => .int (tMOST.getD j 0)) (A := fun q => s.heap.size ≤ q) (by decide) (hs _ gv_arr.2.2.1) (va_eqt (hs _ gv_arr.2.2.2)) (fun j hj => va_eqt (hs _ (gv_m j hj))) hA
  obtain ⟨adK, adV, hS, hSe⟩ := vk_Sof (N := 1) (tm := fun _ => .string RX1 91) (len := [78]) (byt := [strBytes]) (A := fun q => s.heap.size ≤ q) (args := #[Value.ref b]) (s := s) (fun i hi => by obtain rfl : i = 0 := (by omega); decide) (fun i hi => hs _ gv_s.1) (fun i hi => hs _ gv_s.2.1) (fun i hi => hs _ gv_s.2.2.1) (fun i hi => by obtain rfl : i = 0 := (by omega); exact hs _ gv_s.2.2.2.1) (fun i hi j hj => by obtain rfl : i = 0 := (by omega); exact hs _ (gv_b j hj)) (fun i j hi hj hne => absurd (show i = j by omega) hne) hA
  have hZU : va_Z RX3 "USUAL" "[I" (.ref u) (fun q => s.heap.size ≤ q) s s.heap := va_Zref (hts _ tb_st.1.1) (hts _ tb_st.1.2.2.2) hu hA
  have hZL : va_Z RX3 "LEAST" "[I" (.ref le) (fun q => s.heap.size ≤ q) s s.heap := va_Zref (hts _ tb_st.1.2.1) (hts _ tb_st.1.2.2.2) hle hA
  have hZM : va_Z RX3 "MOST" "[I" (.ref mo) (fun q => s.heap.size ≤ q) s s.heap := va_Zref (hts _ tb_st.1.2.2.1) (hts _ tb_st.1.2.2.2) hmo hA
  have hNw : ∀ w ∈ nestW, va_Nw w s := fun w hw => va_Nw.of (by have := hw; simp [nestW] at this; rcases this with rfl | rfl | rfl | rfl | rfl <;> rfl) (hts w (tb_nw.1 w hw))
  have hNi : ∀ w ∈ nestI, va_Nw w s := fun w hw => va_Nw.of (by have := hw; simp [nestI] at this; rcases this with rfl | rfl | rfl | rfl | rfl <;> rfl) (hts w (tb_nw.2 w hw))
  refine ⟨(D, fun k => [t0, t1, t2, t3].getD k t0, fun t _ => [u, le, mo, b, adK 0, adV 0].getD (t - 60) 0), ⟨hD, fun k q hq => ?_⟩, ⟨fun q hq => ?_, fun t n f hf => ?_, ⟨hNw _ (by simp [nestW]), hNw _ (by simp [nestW]), hNw _ (by simp [nestW]), hNw _ (by simp [nestW]), hNw _ (by simp [nestW])⟩, vk_R.of (hts _ tb_st.2.2.2.2.2.1) (hSe 0 (by decide)), ?_, va_Zof (hts _ tb_st.2.1) (hts _ tb_st.2.2.1) (va_eqt (hs _ gv_s.2.2.2.2.1)) hA, va_Zqof (hts _ tb_st.2.2.2.1) (hts _ tb_st.2.2.2.2.1) (hs _ gv_s.2.2.2.2.2) hA⟩, ⟨hZU, hU, ⟨hNi _ (by simp [nestI]), hNi _ (by simp [nestI]), hNi _ (by simp [nestI]), hNi _ (by simp [nestI]), hNi _ (by simp [nestI])⟩, va_AO.of (hts _ tb_st.2.2.2.2.2.2.1), va_AO.of (hts _ tb_st.2.2.2.2.2.2.2)⟩, ?_, rfl⟩
  · match k, hq with
    | 0, hq => cases hq; exact ⟨r0, s0⟩
    | 1, hq => cases hq; exact ⟨r1, s1⟩
    | 2, hq => cases hq; exact ⟨r2, s2⟩
    | 3, hq => cases hq; exact ⟨r3, s3⟩
    | k + 4, hq => simp [tysG] at hq
  · simp only [statL, List.mem_cons, List.not_mem_nil, or_false] at hq
    rcases hq with rfl | rfl | rfl
    · exact hZU
    · exact hZL
    · exact hZM
  · unfold roM at hf
    split at hf
    · cases hf; exact hU
    · cases hf; exact hLE
    · cases hf; exact hMO
    · cases hf
  · refine ⟨fun i hi => ?_, fun i j hi hj _ => by omega⟩
    obtain rfl : i = 0 := by omega
    exact hS.1 0 (by decide)
  · obtain ⟨scr, h1, h2, h3, h4, h5⟩ := hX
    exact ⟨scr, h1, h2, h3, by omega, by rw [h4], h5, hA _ hbl⟩
