/-! what is reckoned, over the rules V and a way's numbers N -/
def tot (V : Nat → Int32) : Int32 := V 0 + V 1 + V 2 + V 3
def sMid (V : Nat → Int32) (t : Int32) (ax : Int32) : Int32 := if ax = 0 then V 8 * t - V 10 else V 11 + V 7 * t - V 9 * t * t
def bsF (V N : Nat → Int32) (t ax : Nat) : Nat → Int32
  | 0 => tot V * sMid V (nI t) (nI ax)
  | p + 1 => bsF V N t ax p - V p * N (8 * t + 2 * p + ax)
def sBase (V N : Nat → Int32) (t ax : Nat) : Int32 := bsF V N t ax 4
def sPlace (V N : Nat → Int32) (t p ax : Nat) : Int32 := sBase V N t ax + tot V * N (8 * t + 2 * p + ax)
def absI (x : Int32) : Int32 := if 0 ≤ x then x else -x
def minI (x y : Int32) : Int32 := if y < x then y else x
def maxI (x y : Int32) : Int32 := if x < y then y else x
abbrev sNear (V : Nat → Int32) (x : Int32) : Prop := absI x ≤ tot V * V 12
def sLA (V N : Nat → Int32) (t : Nat) : Nat → Int32
  | 0 => 1000000
  | p + 1 => minI (sLA V N t p) (sPlace V N t p 0)
def sMA (V N : Nat → Int32) (t : Nat) : Nat → Int32
  | 0 => -1000000
  | p + 1 => maxI (sMA V N t p) (sPlace V N t p 0)
def sLU (V N : Nat → Int32) (t : Nat) : Nat → Int32
  | 0 => 1000000
  | p + 1 => if sPlace V N t p 1 < sLU V N t p ∧ sNear V (sPlace V N t p 0) then sPlace V N t p 1 else sLU V N t p
def sLP (V N : Nat → Int32) (t : Nat) (z : Int32) : Nat → Int32
  | 0 => z
  | p + 1 => if sPlace V N t p 1 < sLU V N t p ∧ sNear V (sPlace V N t p 0) then nI p else sLP V N t z p
abbrev sBentP (V N : Nat → Int32) (t p : Nat) : Prop := V (4 + p) < absI (N (8 * t + 2 * p) - N (8 * t + 2 * p + 2)) + absI (N (8 * t + 2 * p + 1) - N (8 * t + 2 * p + 3))
abbrev sBent (V N : Nat → Int32) (t : Nat) : Prop := sBentP V N t 0 ∨ sBentP V N t 1 ∨ sBentP V N t 2
abbrev sHastyP (V N : Nat → Int32) (k : Nat) : Prop := V 13 < absI (N (k + 8) - N k)
abbrev sHasty (V N : Nat → Int32) (T t : Nat) : Prop := t + 1 < T ∧ ∃ i, i < 8 ∧ sHastyP V N (8 * t + i)
/-- the first place of the least of u, up to i; -1 where none is below 1000000 -/
def lowF (u : Nat → Int32) : Nat → Int32 × Int32
  | 0 => (-1, 1000000)
  | i + 1 => if u i < (lowF u i).2 then (nI i, u i) else lowF u i
def gtMid (V u : Nat → Int32) : Nat → Int32
  | 0 => -1000000
  | i + 1 => if u i < 1000000 then maxI (gtMid V u i) (tot V * sMid V (nI i) 1) else gtMid V u i
def divD (v d : Int32) : Int32 := if d < 1 then 0 else fdiv v d
/-- HIGH, by what is measured -/
def clearsA (V la ma u : Nat → Int32) (T : Nat) : Int32 :=
  if ma 0 < 0 ∧ 0 < la (T - 1) then
    if (lowF u T).1 < 0 then 999
    else if u (ixN (lowF u T).1) < 0 then -4
    else minI 999 (divD (u (ixN (lowF u T).1)) (tot V))
  else -4
def landF (N : Nat → Int32) (T : Nat) : Nat → Int32
  | 0 => 0
  | p + 1 => if N (8 * (T - 1) + 2 * (p + 1) + 1) ≤ N (8 * (T - 1) + 2 * ixN (landF N T p) + 1) then nI (p + 1) else landF N T p
abbrev bearsA (N : Nat → Int32) (T : Nat) (pit : Int32) : Prop := pit = 2 ∨ 3 - pit ≤ landF N T 3
def whyA (V N b hs : Nat → Int32) (T : Nat) (feet : Int32) : Int32 :=
  if ∃ t, t < T ∧ ¬ b t = 0 then 1 else if ∃ t, t < T ∧ ¬ hs t = 0 then 2 else if V 14 < feet then 3 else if bearsA N T (V 15) then 0 else 4
def valA (why high : Int32) : Int32 := if why = 0 then (if high = -4 then -1 else high) else -1
theorem e_ix {t p a : Nat} (h : 8 * t + 2 * p + a < 2 ^ 31) : 8 * t + 2 * p + a = ixN (8 * nI t + 2 * nI p + nI a) := by rw [nI_spot, ixN_nI h]
theorem e_ix2 {t p : Nat} (h : 8 * t + 2 * p < 2 ^ 31) : 8 * t + 2 * p = ixN (8 * nI t + 2 * nI p) := by rw [nI_spot2, ixN_nI h]
theorem vin3 {t p a : Nat} (ht : t ≤ 7) (hp : p ≤ 3) (ha : a ≤ 1) : vp_in (8 * nI t + 2 * nI p + nI a) 64 := by rw [nI_spot]; exact vp_in_nI (by omega) (by decide)
theorem vin2 {t p : Nat} (ht : t ≤ 7) (hp : p ≤ 3) : vp_in (8 * nI t + 2 * nI p) 64 := by rw [nI_spot2]; exact vp_in_nI (by omega) (by decide)
/-- what measurePlaces lays of tenth t -/
def mp (h : Hp) (t : Nat) (la ma lu lp : Int32) : Hp := hset (hset (hset (hset h g_lAcr 0 t la) g_mAcr 0 t ma) g_lUp 0 t lu) g_lPart 0 t lp
theorem hset_comm (h : Hp) {t i k t' i' k' : Nat} (v v' : Int32) (hne : t ≠ t') : hset (hset h t i k v) t' i' k' v' = hset (hset h t' i' k' v') t i k v := by
  funext a b c
  unfold hset
  by_cases h1 : a = t ∧ b = i ∧ c = k
  · by_cases h2 : a = t' ∧ b = i' ∧ c = k'
    · exact absurd (h1.1.symm.trans h2.1) hne
    · simp [h1, h2, hne]
  · by_cases h2 : a = t' ∧ b = i' ∧ c = k'
    · have hne' : ¬ t' = t := fun e => hne e.symm
      simp [h2, hne']
    · simp [h1, h2]
theorem hset_same (h : Hp) (t i k : Nat) (v v' : Int32) : hset (hset h t i k v) t i k v' = hset h t i k v' := by
  funext a b c
  unfold hset
  by_cases h1 : a = t ∧ b = i ∧ c = k <;> simp [h1]
theorem hset_self (h : Hp) (t i k : Nat) : hset h t i k (h t i k) = h := by
  funext a b c
  unfold hset
  by_cases h1 : a = t ∧ b = i ∧ c = k
  · obtain ⟨rfl, rfl, rfl⟩ := h1; simp
  · simp [h1]
theorem mp_1 (h : Hp) (t : Nat) (la ma lu lp v : Int32) : hset (mp h t la ma lu lp) g_lAcr 0 t v = mp h t v ma lu lp := by
  unfold mp
  rw [hset_comm _ lp v (by decide), hset_comm _ lu v (by decide), hset_comm _ ma v (by decide), hset_same]
theorem mp_2 (h : Hp) (t : Nat) (la ma lu lp v : Int32) : hset (mp h t la ma lu lp) g_mAcr 0 t v = mp h t la v lu lp := by
  unfold mp
  rw [hset_comm _ lp v (by decide), hset_comm _ lu v (by decide), hset_same]
theorem mp_3 (h : Hp) (t : Nat) (la ma lu lp v : Int32) : hset (mp h t la ma lu lp) g_lUp 0 t v = mp h t la ma v lp := by
  unfold mp
  rw [hset_comm _ lp v (by decide), hset_same]
theorem mp_4 (h : Hp) (t : Nat) (la ma lu lp v : Int32) : hset (mp h t la ma lu lp) g_lPart 0 t v = mp h t la ma lu v := by
  unfold mp
  rw [hset_same]
theorem mp_0 (h : Hp) (t : Nat) (la ma lu : Int32) : hset (hset (hset h g_lAcr 0 t la) g_mAcr 0 t ma) g_lUp 0 t lu = mp h t la ma lu (h g_lPart 0 t) := by
  unfold mp
  conv => lhs; rw [← hset_self (hset (hset (hset h g_lAcr 0 t la) g_mAcr 0 t ma) g_lUp 0 t lu) g_lPart 0 t]
  congr 1
theorem mp_o (h : Hp) (t : Nat) (la ma lu lp : Int32) {a b : Nat} (ha : a ≠ g_lAcr ∧ a ≠ g_mAcr ∧ a ≠ g_lUp ∧ a ≠ g_lPart) : mp h t la ma lu lp a b = h a b := by
  unfold mp
  rw [hset_other (fun e => ha.2.2.2 (congrArg Prod.fst e)), hset_other (fun e => ha.2.2.1 (congrArg Prod.fst e)), hset_other (fun e => ha.2.1 (congrArg Prod.fst e)), hset_other (fun e => ha.1 (congrArg Prod.fst e))]
theorem mp_r1 (h : Hp) (t : Nat) (la ma lu lp : Int32) : mp h t la ma lu lp g_lAcr 0 t = la := by simp [mp, hset, g_lAcr, g_mAcr, g_lUp, g_lPart]
theorem mp_r2 (h : Hp) (t : Nat) (la ma lu lp : Int32) : mp h t la ma lu lp g_mAcr 0 t = ma := by simp [mp, hset, g_lAcr, g_mAcr, g_lUp, g_lPart]
theorem mp_r3 (h : Hp) (t : Nat) (la ma lu lp : Int32) : mp h t la ma lu lp g_lUp 0 t = lu := by simp [mp, hset, g_lAcr, g_mAcr, g_lUp, g_lPart]
theorem mp_r4 (h : Hp) (t : Nat) (la ma lu lp : Int32) : mp h t la ma lu lp g_lPart 0 t = lp := by simp [mp, hset, g_lAcr, g_mAcr, g_lUp, g_lPart]
/-- forget a local -/
theorem E_drop {l : Launch} {G : GE} {mi : MI} {fk : FK} {pc : Nat} {lv : List (Option AV)} {st : List AV} {h : Hp} (i : Nat) (k : Ev l G mi fk pc (lset lv i none) st h) : Ev l G mi fk pc lv st h := by
  intro p e s m args below meth c X H locs ls hP hS hl okl oks
  have key : ∀ (j : Nat) (v : AV), nth (lset lv i none) j = some (some v) → nth lv j = some (some v) := by
    intro j v hv
    rcases nth_lset lv i j none (some v) hv with ⟨-, e⟩ | ⟨-, e⟩
    · cases e
    · exact e
  refine k p e s m args below meth c X H locs ls hP hS (lv_has_sub hl fun q hq => ?_) (fun v hv => ?_) oks
  · obtain ⟨j, w⟩ := q
    obtain ⟨a, v, h1, h2, h3⟩ := asc_of _ _ _ _ hq
    have := asc_mem (G := G) lv 0 a v (key a v h2)
    rw [h1, h3]
    exact this
  · have : ∀ (l : List (Option AV)) (i : Nat), some v ∈ lset l i none → some v ∈ l := by
      intro l
      induction l with
      | nil => intro i hv; exact hv
      | cons a l ih =>
        intro i hv
        cases i with
        | zero =>
          rcases List.mem_cons.mp hv with e | hv
          · cases e
          · exact List.mem_cons_of_mem _ hv
        | succ i =>
          rcases List.mem_cons.mp hv with e | hv
          · rw [e]; exact List.mem_cons_self
          · exact List.mem_cons_of_mem _ (ih i hv)
    exact okl v (this lv i hv)
theorem vinA {t p a : Nat} (h : 8 * t + 2 * p + a < 64) : vp_in (8 * nI t + 2 * nI p + nI a) 64 := by rw [nI_spot]; exact vp_in_nI h (by decide)
theorem e_ixA {t p a : Nat} (h : 8 * t + 2 * p + a < 64) : ixN (8 * nI t + 2 * nI p + nI a) = 8 * t + 2 * p + a := by rw [nI_spot, ixN_nI (by omega)]
theorem e_ixB {t p : Nat} (h : 8 * t + 2 * p < 64) : ixN (8 * nI t + 2 * nI p) = 8 * t + 2 * p := by rw [nI_spot2, ixN_nI (by omega)]
theorem vin4 {p n : Nat} {a : Nat} (h : a + p < n) (hn : n < 2 ^ 31) : vp_in (nI a + nI p) n := by rw [nI_add]; exact vp_in_nI h hn
theorem e_ix4 {p a : Nat} (h : a + p < 2 ^ 31) : ixN (nI a + nI p) = a + p := by rw [nI_add, ixN_nI h]
