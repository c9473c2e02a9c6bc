/-! THE LAW: its frame, its script, its end -/
abbrev mL_law : MI := (yL_law, cL_law, 4, some .boolean, 20)
def roL (L : Nat) (xs : Nat → Int32) : RO
  | 63 => some (L, xs)
  | t => roM t
def fkL (G : GE) (L : Nat) (xs : Nat → Int32) : FK := (roL L xs, room_1, 64, 2500, fun s args below t => (∀ q, Ac G q → s.heap.size ≤ q) → lw_Z below args s t)
theorem vin_s {L k : Nat} {x : Int32} (j : Nat) (hx : x = nI j) (hj : 7 * k + j < L) (hL : L ≤ 3584) : vp_in (nI (7 * k) + x) L := by
  rw [hx, nI_add]
  exact vp_in_nI hj (by omega)
theorem law_go {L k : Nat} (hk : 7 * k + 7 ≤ L) (hL : L ≤ 3584) : ¬ Int32.ofNat L - 7 < nI (7 * k) := by
  show ¬ nI L - 7 < nI (7 * k)
  rw [show (7 : Int32) = nI 7 from rfl, pk_sub (by omega)]
  exact nI_nlt (by omega) (by omega)
theorem law_small : ∀ L, L < 7 → Int32.ofNat L - 7 < 0 := by decide +kernel
theorem law_end {L k : Nat} (hk : k = L / 7) (hL : L ≤ 3584) : Int32.ofNat L - 7 < nI (7 * k) := by
  by_cases h : L < 7
  · have : k = 0 := by omega
    rw [this]
    exact law_small L h
  · show nI L - 7 < nI (7 * k)
    rw [show (7 : Int32) = nI 7 from rfl, pk_sub (by omega)]
    exact nI_lt (by omega) (by omega)
theorem and63 (x : Int32) : ∃ c, c < 64 ∧ x &&& 63 = nI c := by
  have h0 : 0 ≤ x &&& 63 := by
    rw [msb0, Int32.toBitVec_and, BitVec.msb_and]
    show (x.toBitVec.msb && (63#32).msb) = false
    rw [show (63#32).msb = false by decide, Bool.and_false]
  obtain ⟨j, hj, e⟩ := nI_of (x := x &&& 63) (Int32.not_lt.mpr h0)
  refine ⟨j, ?_, e⟩
  have h1 : (x &&& 63).toBitVec.toNat ≤ 63 := by
    rw [Int32.toBitVec_and, BitVec.toNat_and]
    exact Nat.and_le_right
  have h2 : (nI j).toBitVec.toNat = j := by
    show (BitVec.ofNat 32 j).toNat = j
    rw [BitVec.toNat_ofNat, Nat.mod_eq_of_lt (by omega)]
  rw [e, h2] at h1
  omega
theorem sw_out : ∀ c, 39 ≤ c → c < 64 → 38 < (nI c).toInt := by
  intro c h1 h2
  rw [nI_toInt (by omega)]
  omega
/-- the law's own end, with any arguments -/
theorem lw_retG {p : Program} {l : Launch} {e : Env} {s : State} {m : MethodId} {args : Array Value} {below : List Frame} {meth : Method} {c : Code} (hx : p.tables.exec = Jvm.exec) (hb : c.code = code) (hr : meth.sig.returnType = ret) (hlocks : meth.locks = false) {pc : Nat} {H : Heap} {ls : Array Slot} (hdg : decode code pc = .ok (.ireturn, 1)) : W p l e room_1 s m args below meth c H [] 600000 7302250 (lw_Z below args s) (F0 m pc ls [.int 1]) := by
  intro T hT X
  obtain ⟨fs, hret, hrun, hended, hW, hframe⟩ := X.leave (v := some (.int 1)) (hlocks := hlocks) (fun h => by rw [hr] at h; cases h)
  have hmeth' : T.vm.method? m = some meth := X.method'
  refine ⟨T.setFrames fs, ?_, .returned (some (.int 1)), hrun, hended, rfl, ⟨_, rfl⟩, hW, hframe⟩
  jvm_step X.here [X.here.top, hx, hb, hdg, hmeth', hr, ret, narrow_b1]
  (try refine ⟨rfl, ?_⟩); (try refine ⟨rfl, ?_⟩)
  first | (intro acts; rw [hret _ acts rfl rfl rfl]) | rw [hret _ _ rfl rfl rfl]
  exact Steps.refl _
theorem E_lret {l : Launch} {G : GE} {L : Nat} {xs : Nat → Int32} {pc : Nat} {lv : List (Option AV)} {h : Hp} (hd : decode code pc = .ok (.ireturn, 1)) : Ev l G mL_law (fkL G L xs) pc lv [vI 1] h := by
  intro p e s m args below meth c X H locs ls hP hS hl okl oks
  by_cases hyp : ∀ q, Ac G q → s.heap.size ≤ q
  · have k0 : W p l e room_1 s m args below meth c H locs 64 2500 (lw_Z below args s) (F0 m pc ls [.int 1]) := by
      refine va_forget (fun q hq => hyp _ (hS.2.2 q hq)) ?_
      refine W.widen (k := 600000) (n := 7302250) (by decide) (by decide) ?_
      exact lw_retG X.1 X.2.1 X.2.2.2.2.2.2.2.2.2.2 X.2.2.2.2.2.2.2.2.2.1 hd
    intro T hT Y
    obtain ⟨t, a, b⟩ := k0 T hT Y
    exact ⟨t, a, fun _ => b⟩
  · intro T hT Y
    exact ⟨_, Steps.refl _, fun z => absurd z hyp⟩
