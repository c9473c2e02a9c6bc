/-! how large things are -/
def ab (x : Int32) (n : Nat) : Prop := x.toInt.natAbs ≤ n
theorem ab_bm {z : Int} {n : Nat} (h : z.natAbs ≤ n) (hn : n < 2 ^ 31) : z.bmod (2 ^ 32) = z := by
  apply Int.bmod_eq_of_le <;> omega
theorem ab_add {x y : Int32} {a b : Nat} (hx : ab x a) (hy : ab y b) (hn : a + b < 2 ^ 31) : ab (x + y) (a + b) := by
  unfold ab at *
  rw [Int32.toInt_add, ab_bm (n := a + b) (by omega) hn]
  omega
theorem ab_sub {x y : Int32} {a b : Nat} (hx : ab x a) (hy : ab y b) (hn : a + b < 2 ^ 31) : ab (x - y) (a + b) := by
  unfold ab at *
  rw [Int32.toInt_sub, ab_bm (n := a + b) (by omega) hn]
  omega
theorem ab_mul {x y : Int32} {a b : Nat} (hx : ab x a) (hy : ab y b) (hn : a * b < 2 ^ 31) : ab (x * y) (a * b) := by
  unfold ab at *
  have h1 : (x.toInt * y.toInt).natAbs ≤ a * b := by rw [Int.natAbs_mul]; exact Nat.mul_le_mul hx hy
  rw [Int32.toInt_mul, ab_bm h1 hn]
  exact h1
theorem ab_mono {x : Int32} {a b : Nat} (hx : ab x a) (h : a ≤ b) : ab x b := Nat.le_trans hx h
theorem ab_of {x : Int32} (lo hi : Int32) {n : Nat} (h0 : lo ≤ x) (h1 : x ≤ hi) (hl : lo.toInt.natAbs ≤ n) (hh : hi.toInt.natAbs ≤ n) : ab x n := by
  unfold ab
  have := Int32.le_iff_toInt_le.mp h0
  have := Int32.le_iff_toInt_le.mp h1
  omega
theorem ab_nI {n : Nat} (h : n < 2 ^ 31) : ab (nI n) n := by
  unfold ab
  have h1 : (nI n).toInt = n := nI_toInt h
  omega
theorem ab_lt {x : Int32} {a : Nat} (b : Int32) (h : ab x a) (hb : (a : Int) < b.toInt) : x < b := by
  rw [Int32.lt_iff_toInt_lt]
  unfold ab at h
  omega
theorem ab_gt {x : Int32} {a : Nat} (b : Int32) (h : ab x a) (hb : b.toInt < -(a : Int)) : b < x := by
  rw [Int32.lt_iff_toInt_lt]
  unfold ab at h
  omega
/-- rules within their bounds -/
def RV (V : Nat → Int32) : Prop := ∀ i, i < 18 → tLEAST.getD i 0 ≤ V i ∧ V i ≤ tMOST.getD i 0
def RN (N : Nat → Int32) : Prop := ∀ i, i < 64 → -9 ≤ N i ∧ N i ≤ 9
theorem RV_ab {V : Nat → Int32} (h : RV V) {i n : Nat} (hi : i < 18) (h0 : (tLEAST.getD i 0).toInt.natAbs ≤ n) (h1 : (tMOST.getD i 0).toInt.natAbs ≤ n) : ab (V i) n := ab_of _ _ (h i hi).1 (h i hi).2 h0 h1
theorem tot_ab {V : Nat → Int32} (h : RV V) : ab (tot V) 80 := ab_add (a := 60) (b := 20) (ab_add (a := 40) (b := 20) (ab_add (a := 20) (b := 20) (RV_ab h (by decide) (by decide) (by decide)) (RV_ab h (by decide) (by decide) (by decide)) (by decide)) (RV_ab h (by decide) (by decide) (by decide)) (by decide)) (RV_ab h (by decide) (by decide) (by decide)) (by decide)
theorem tot_pos {V : Nat → Int32} (h : RV V) : 4 ≤ tot V := by
  have a0 := (h 0 (by decide)).1
  have a1 := (h 1 (by decide)).1
  have a2 := (h 2 (by decide)).1
  have a3 := (h 3 (by decide)).1
  have b0 := (h 0 (by decide)).2
  have b1 := (h 1 (by decide)).2
  have b2 := (h 2 (by decide)).2
  have b3 := (h 3 (by decide)).2
  simp only [tLEAST, tMOST, List.getD_cons_zero, List.getD_cons_succ] at *
  unfold tot
  grind
theorem mid_ab {V : Nat → Int32} (h : RV V) {t : Nat} (ht : t ≤ 7) (ax : Int32) : ab (sMid V (nI t) ax) 891 := by
  have h7 : ab (nI t) 7 := ab_mono (ab_nI (by omega)) ht
  unfold sMid
  by_cases hc : ax = 0
  · rw [if_pos hc]
    exact ab_mono (ab_sub (a := 140) (b := 99) (ab_mul (a := 20) (b := 7) (RV_ab h (by decide) (by decide) (by decide)) h7 (by decide)) (RV_ab h (by decide) (by decide) (by decide)) (by decide)) (by decide)
  · rw [if_neg hc]
    exact ab_sub (a := 450) (b := 441) (ab_add (a := 30) (b := 420) (RV_ab h (by decide) (by decide) (by decide)) (ab_mul (a := 60) (b := 7) (RV_ab h (by decide) (by decide) (by decide)) h7 (by decide)) (by decide)) (ab_mul (a := 63) (b := 7) (ab_mul (a := 9) (b := 7) (RV_ab h (by decide) (by decide) (by decide)) h7 (by decide)) h7 (by decide)) (by decide)
theorem tm_ab {V : Nat → Int32} (h : RV V) {t : Nat} (ht : t ≤ 7) (ax : Int32) : ab (tot V * sMid V (nI t) ax) 71280 := ab_mul (a := 80) (b := 891) (tot_ab h) (mid_ab h ht ax) (by decide)
theorem RN_ab {N : Nat → Int32} (h : RN N) {i : Nat} (hi : i < 64) : ab (N i) 9 := ab_of _ _ (h i hi).1 (h i hi).2 (by decide) (by decide)
theorem bs_ab {V N : Nat → Int32} (h : RV V) (hN : RN N) {t ax : Nat} (ht : t ≤ 7) (ha : ax ≤ 1) : ∀ p, p ≤ 4 → ab (bsF V N t ax p) (71280 + p * 180)
  | 0, _ => tm_ab h ht _
  | p + 1, hp => by
    unfold bsF
    have h1 : ab (V p) 20 := by
      rcases (show p = 0 ∨ p = 1 ∨ p = 2 ∨ p = 3 by omega) with rfl | rfl | rfl | rfl <;> exact RV_ab h (by decide) (by decide) (by decide)
    exact ab_mono (ab_sub (a := 71280 + p * 180) (b := 180) (bs_ab h hN ht ha p (by omega)) (ab_mul (a := 20) (b := 9) h1 (RN_ab hN (by omega)) (by decide)) (by omega)) (by omega)
theorem pl_ab {V N : Nat → Int32} (h : RV V) (hN : RN N) {t p ax : Nat} (ht : t ≤ 7) (hp : p ≤ 3) (ha : ax ≤ 1) : ab (sPlace V N t p ax) 72720 :=
  ab_add (a := 72000) (b := 720) (bs_ab h hN ht ha 4 (by decide)) (ab_mul (a := 80) (b := 9) (tot_ab h) (RN_ab hN (by omega)) (by decide)) (by decide)
theorem pl_lt {V N : Nat → Int32} (h : RV V) (hN : RN N) {t p ax : Nat} (ht : t ≤ 7) (hp : p ≤ 3) (ha : ax ≤ 1) : sPlace V N t p ax < 1000000 := ab_lt _ (pl_ab h hN ht hp ha) (by decide)
theorem tm_gt {V : Nat → Int32} (h : RV V) {t : Nat} (ht : t ≤ 7) (ax : Int32) : -1000000 < tot V * sMid V (nI t) ax := ab_gt _ (tm_ab h ht ax) (by decide)
/-- near, as the model says it -/
theorem near_iff {x m : Int32} (hx : ab x 72720) (hm : ab m 720) : (-m ≤ x ∧ x ≤ m) ↔ absI x ≤ m := by
  unfold ab at hx hm
  have e1 : (-m).toInt = -m.toInt := by rw [Int32.toInt_neg]; apply Int.bmod_eq_of_le <;> omega
  have e2 : (-x).toInt = -x.toInt := by rw [Int32.toInt_neg]; apply Int.bmod_eq_of_le <;> omega
  unfold absI
  rw [Int32.le_iff_toInt_le, Int32.le_iff_toInt_le, e1]
  by_cases hc : 0 ≤ x
  · rw [if_pos hc, Int32.le_iff_toInt_le]
    have := Int32.le_iff_toInt_le.mp hc
    have e0 : (0 : Int32).toInt = 0 := by decide
    omega
  · rw [if_neg hc, Int32.le_iff_toInt_le, e2]
    have := mt Int32.le_iff_toInt_le.mpr hc
    have e0 : (0 : Int32).toInt = 0 := by decide
    omega
theorem nearV {V N : Nat → Int32} (h : RV V) (hN : RN N) {t p : Nat} (ht : t ≤ 7) (hp : p ≤ 3) : (-tot V * V 12 ≤ sPlace V N t p 0 ∧ sPlace V N t p 0 ≤ tot V * V 12) ↔ sNear V (sPlace V N t p 0) := by
  rw [show -tot V * V 12 = -(tot V * V 12) by grind]
  exact near_iff (pl_ab h hN ht hp (by decide)) (ab_mul (a := 80) (b := 9) (tot_ab h) (RV_ab h (by decide) (by decide) (by decide)) (by decide))
theorem sMA_lt (V N : Nat → Int32) (t : Nat) : ∀ p, sMA V N t p < 0 ↔ ∀ j, j < p → sPlace V N t j 0 < 0
  | 0 => ⟨fun _ j hj => absurd hj (Nat.not_lt_zero j), fun _ => show (-1000000 : Int32) < 0 by decide⟩
  | p + 1 => by
    unfold sMA
    have ih := sMA_lt V N t p
    have key : maxI (sMA V N t p) (sPlace V N t p 0) < 0 ↔ sMA V N t p < 0 ∧ sPlace V N t p 0 < 0 := by grind [maxI]
    rw [key, ih]
    exact ⟨fun z j hj => (Nat.lt_succ_iff_lt_or_eq.mp hj).elim (z.1 j) (fun e => e ▸ z.2), fun z => ⟨fun j hj => z j (Nat.lt_succ_of_lt hj), z p (Nat.lt_succ_self p)⟩⟩
theorem sLA_gt (V N : Nat → Int32) (t : Nat) : ∀ p, 0 < sLA V N t p ↔ ∀ j, j < p → 0 < sPlace V N t j 0
  | 0 => ⟨fun _ j hj => absurd hj (Nat.not_lt_zero j), fun _ => show (0 : Int32) < 1000000 by decide⟩
  | p + 1 => by
    unfold sLA
    have ih := sLA_gt V N t p
    have key : 0 < minI (sLA V N t p) (sPlace V N t p 0) ↔ 0 < sLA V N t p ∧ 0 < sPlace V N t p 0 := by grind [minI]
    rw [key, ih]
    exact ⟨fun z j hj => (Nat.lt_succ_iff_lt_or_eq.mp hj).elim (z.1 j) (fun e => e ▸ z.2), fun z => ⟨fun j hj => z j (Nat.lt_succ_of_lt hj), z p (Nat.lt_succ_self p)⟩⟩
/-! the lowest, scanned part by part -/
def mlI (V N : Nat → Int32) (t : Nat) (b l : Int32) : Nat → Int32 × Int32
  | 0 => (b, l)
  | p + 1 => if sNear V (sPlace V N t p 0) ∧ ((mlI V N t b l p).1 = -4 ∨ sPlace V N t p 1 < (mlI V N t b l p).2) then (4 * nI t + nI p, sPlace V N t p 1) else mlI V N t b l p
def mlO (V N : Nat → Int32) : Nat → Int32 × Int32
  | 0 => (-4, 0)
  | t + 1 => mlI V N t (mlO V N t).1 (mlO V N t).2 4
theorem sLP_or (V N : Nat → Int32) (t : Nat) (z : Int32) : ∀ p, sLP V N t z p = z ∨ ∃ j, j < p ∧ sLP V N t z p = nI j
  | 0 => Or.inl rfl
  | p + 1 => by
    unfold sLP
    by_cases hc : sPlace V N t p 1 < sLU V N t p ∧ sNear V (sPlace V N t p 0)
    · rw [if_pos hc]; exact Or.inr ⟨p, Nat.lt_succ_self p, rfl⟩
    · rw [if_neg hc]
      rcases sLP_or V N t z p with e | ⟨j, hj, e⟩
      · exact Or.inl e
      · exact Or.inr ⟨j, Nat.lt_succ_of_lt hj, e⟩
theorem lt1M : ¬ (1000000 : Int32) < 1000000 := Int32.lt_irrefl
theorem sLP_lt {V N : Nat → Int32} {t : Nat} {z : Int32} (p : Nat) (hz : sLU V N t p < 1000000) : ∃ j, j < p ∧ sLP V N t z p = nI j := by
  induction p with
  | zero => exact absurd hz lt1M
  | succ p ih =>
    unfold sLP
    unfold sLU at hz
    by_cases hc : sPlace V N t p 1 < sLU V N t p ∧ sNear V (sPlace V N t p 0)
    · rw [if_pos hc]; exact ⟨p, Nat.lt_succ_self p, rfl⟩
    · rw [if_neg hc] at hz ⊢
      obtain ⟨j, hj, e⟩ := ih hz
      exact ⟨j, Nat.lt_succ_of_lt hj, e⟩
theorem n4 {t p : Nat} (ht : t ≤ 7) (hp : p ≤ 3) : ¬ 4 * nI t + nI p = -4 := by
  rw [show (4 : Int32) = nI 4 from rfl, pk_mul, nI_add]
  intro e
  have := congrArg Int32.toInt e
  rw [nI_toInt (by omega)] at this
  rw [show (-nI 4).toInt = -4 by decide] at this
  omega
theorem sLU_le (V N : Nat → Int32) (t : Nat) : ∀ p, sLU V N t p ≤ 1000000
  | 0 => Int32.le_refl _
  | p + 1 => by
    unfold sLU
    have := sLU_le V N t p
    by_cases hc : sPlace V N t p 1 < sLU V N t p ∧ sNear V (sPlace V N t p 0)
    · rw [if_pos hc]; exact Int32.le_of_lt (Int32.lt_of_lt_of_le hc.1 this)
    · rw [if_neg hc]; exact this
theorem lowF_le (u : Nat → Int32) : ∀ i, (lowF u i).2 ≤ 1000000
  | 0 => Int32.le_refl _
  | i + 1 => by
    unfold lowF
    have := lowF_le u i
    by_cases hc : u i < (lowF u i).2
    · rw [if_pos hc]; exact Int32.le_of_lt (Int32.lt_of_lt_of_le hc this)
    · rw [if_neg hc]; exact this
/-- what the scan has in hand beside the class's two steps -/
def mlS (V N : Nat → Int32) (t : Nat) : Int32 × Int32 := if (lowF (sU V N) t).2 < 1000000 then (4 * (lowF (sU V N) t).1 + sLP V N (ixN (lowF (sU V N) t).1) 0 4, (lowF (sU V N) t).2) else (-4, 0)
theorem ml_step (nr : Prop) [Decidable nr] (M q u le b0 l0 x y : Int32) (hq : q < M) (hx : u < le → ¬ x = -4) (h1 : le < M → ¬ b0 = -4 ∧ l0 = le) (h2 : ¬ le < M → b0 = -4 ∧ le = M) (hu : u ≤ M) :
    (if nr ∧ ((if u < le then (x, u) else (b0, l0)).1 = -4 ∨ q < (if u < le then (x, u) else (b0, l0)).2) then (y, q) else (if u < le then (x, u) else (b0, l0))) = if (if q < u ∧ nr then q else u) < le then ((if q < u ∧ nr then y else x), (if q < u ∧ nr then q else u)) else (b0, l0) := by
  by_cases hn : nr
  · by_cases ha : u < le
    · have := hx ha
      by_cases hb : q < u
      · simp [hn, ha, hb, this, Int32.lt_trans hb ha]
      · simp [hn, ha, hb, this]
    · by_cases hl : le < M
      · obtain ⟨e1, e2⟩ := h1 hl
        by_cases hb : q < le
        · have : q < u := Int32.lt_of_lt_of_le hb (Int32.not_lt.mp ha)
          simp [hn, ha, e1, e2, hb, this]
        · by_cases hc : q < u
          · simp [hn, ha, e1, e2, hb, hc]
          · simp [hn, ha, e1, e2, hb, hc]
      · obtain ⟨e1, e2⟩ := h2 hl
        have hc : q < u := Int32.lt_of_lt_of_le hq (by rw [← e2]; exact Int32.not_lt.mp ha)
        have hb : q < le := by rw [e2]; exact hq
        simp [hn, ha, e1, hc, hb]
  · simp [hn]
theorem ite_add4 (c : Prop) [Decidable c] (a x y : Int32) : (if c then a + x else a + y) = a + if c then x else y := by by_cases h : c <;> simp [h]
theorem lowF_far (u : Nat → Int32) : ∀ i, ¬ (lowF u i).2 < 1000000 → (lowF u i).2 = 1000000 := fun i h => Int32.le_antisymm (lowF_le u i) (Int32.not_lt.mp h)
theorem mlI_eq {V N : Nat → Int32} (h : RV V) (hN : RN N) {t : Nat} (ht : t ≤ 7) (hb : (lowF (sU V N) t).2 < 1000000 → ¬ (mlS V N t).1 = -4) : ∀ p, p ≤ 4 → mlI V N t (mlS V N t).1 (mlS V N t).2 p = if sLU V N t p < (lowF (sU V N) t).2 then (4 * nI t + sLP V N t 0 p, sLU V N t p) else ((mlS V N t).1, (mlS V N t).2)
  | 0, _ => by
    have : ¬ sLU V N t 0 < (lowF (sU V N) t).2 := Int32.not_lt.mpr (lowF_le _ _)
    rw [if_neg this]
    rfl
  | p + 1, hp => by
    unfold mlI
    rw [mlI_eq h hN ht hb p (by omega)]
    have hq : sPlace V N t p 1 < 1000000 := pl_lt h hN ht (by omega) (by decide)
    have := ml_step (sNear V (sPlace V N t p 0)) 1000000 (sPlace V N t p 1) (sLU V N t p) (lowF (sU V N) t).2 (mlS V N t).1 (mlS V N t).2 (4 * nI t + sLP V N t 0 p) (4 * nI t + nI p) hq (fun z => by
      obtain ⟨j, hj, e⟩ := sLP_lt (z := 0) p (Int32.lt_of_lt_of_le z (lowF_le _ _))
      rw [e]
      exact n4 ht (by omega)) (fun z => ⟨hb z, by unfold mlS; rw [if_pos z]⟩) (fun z => ⟨by unfold mlS; rw [if_neg z], lowF_far _ _ z⟩) (sLU_le V N t p)
    rw [this, sLU, sLP, ite_add4]
theorem lowF_far1 (u : Nat → Int32) : ∀ i, i ≤ 8 → ((lowF u i).2 < 1000000 → ∃ j, j < i ∧ (lowF u i).1 = nI j ∧ (lowF u i).2 = u j) ∧ (¬ (lowF u i).2 < 1000000 → (lowF u i).1 = -1)
  | 0, _ => ⟨fun z => absurd z lt1M, fun _ => rfl⟩
  | i + 1, hi => by
    unfold lowF
    obtain ⟨a1, a2⟩ := lowF_far1 u i (by omega)
    by_cases hc : u i < (lowF u i).2
    · rw [if_pos hc]; exact ⟨fun _ => ⟨i, Nat.lt_succ_self i, rfl, rfl⟩, fun z => absurd (Int32.lt_of_lt_of_le hc (lowF_le u i)) z⟩
    · rw [if_neg hc]; exact ⟨fun z => (a1 z).elim (fun j hj => ⟨j, Nat.lt_succ_of_lt hj.1, hj.2⟩), a2⟩
theorem mlS_ne {V N : Nat → Int32} {t : Nat} (ht : t ≤ 8) (hz : (lowF (sU V N) t).2 < 1000000) : ¬ (mlS V N t).1 = -4 := by
  unfold mlS
  rw [if_pos hz]
  obtain ⟨j, hj, e1, e2⟩ := (lowF_far1 (sU V N) t ht).1 hz
  obtain ⟨p, hp, e3⟩ := sLP_lt (V := V) (N := N) (t := j) (z := 0) 4 (by rw [← show sU V N j = sLU V N j 4 from rfl, ← e2]; exact hz)
  show ¬ 4 * (lowF (sU V N) t).1 + sLP V N (ixN (lowF (sU V N) t).1) 0 4 = -4
  rw [e1, ixN_nI (by omega), e3]
  exact n4 (by omega) (by omega)
theorem mlO_eq {V N : Nat → Int32} (h : RV V) (hN : RN N) : ∀ t, t ≤ 8 → mlO V N t = mlS V N t
  | 0, _ => by unfold mlS; rw [if_neg (show ¬ (lowF (sU V N) 0).2 < 1000000 from lt1M)]; rfl
  | t + 1, ht => by
    unfold mlO
    rw [mlO_eq h hN t (by omega), mlI_eq h hN (by omega) (mlS_ne (by omega)) 4 (by decide)]
    by_cases hc : sLU V N t 4 < (lowF (sU V N) t).2
    · rw [if_pos hc]
      have e : lowF (sU V N) (t + 1) = (nI t, sLU V N t 4) := if_pos hc
      unfold mlS
      rw [e, if_pos (show (nI t, sLU V N t 4).2 < 1000000 from Int32.lt_of_lt_of_le hc (lowF_le _ _)), ixN_nI (by omega)]
    · rw [if_neg hc]
      have e : lowF (sU V N) (t + 1) = lowF (sU V N) t := if_neg hc
      unfold mlS
      rw [e]
