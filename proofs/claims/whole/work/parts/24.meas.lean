/-! what is measured, and the worth that it gives -/
/-- tenth t is measured of the numbers N -/
def MsP (h : Hp) (V N : Nat → Int32) (t : Nat) : Prop := h g_lAcr 0 t = sLA V N t 4 ∧ h g_mAcr 0 t = sMA V N t 4 ∧ h g_lUp 0 t = sLU V N t 4 ∧ h g_bent 0 t = bi (sBent V N t)
def MsH (h : Hp) (V N : Nat → Int32) (T t : Nat) : Prop := h g_hasty 0 t = bi (sHasty V N T t)
def Ms (h : Hp) (V N : Nat → Int32) (T : Nat) : Prop := ∀ t, t < T → MsP h V N t ∧ MsH h V N T t
/-- all but tenth t is measured -/
def MsO (h : Hp) (V N : Nat → Int32) (T t : Nat) : Prop := (∀ u, u < T → u ≠ t → MsP h V N u) ∧ ∀ u, u < T → u ≠ t → u + 1 ≠ t → MsH h V N T u
def sWhy (V N : Nat → Int32) (T : Nat) (F : Int32) : Int32 := whyA V N (fun t => bi (sBent V N t)) (fun t => bi (sHasty V N T t)) T F
def sHigh (V N : Nat → Int32) (T : Nat) : Int32 := clearsA V (fun t => sLA V N t 4) (fun t => sMA V N t 4) (fun t => sLU V N t 4) T
def sWorth (V N : Nat → Int32) (T : Nat) (F : Int32) : Int32 := valA (sWhy V N T F) (sHigh V N T)
theorem ex_congr {T : Nat} {f g : Nat → Int32} (h : ∀ t, t < T → f t = g t) : (∃ t, t < T ∧ ¬ f t = 0) ↔ ∃ t, t < T ∧ ¬ g t = 0 :=
  ⟨fun ⟨t, h1, h2⟩ => ⟨t, h1, by rw [← h t h1]; exact h2⟩, fun ⟨t, h1, h2⟩ => ⟨t, h1, by rw [h t h1]; exact h2⟩⟩
theorem whyA_congr {V N b b' hs hs' : Nat → Int32} {T : Nat} {F : Int32} (h1 : ∀ t, t < T → b t = b' t) (h2 : ∀ t, t < T → hs t = hs' t) : whyA V N b hs T F = whyA V N b' hs' T F := by
  unfold whyA
  by_cases c1 : ∃ t, t < T ∧ ¬ b t = 0
  · rw [if_pos c1, if_pos ((ex_congr h1).mp c1)]
  · rw [if_neg c1, if_neg (fun z => c1 ((ex_congr h1).mpr z))]
    by_cases c2 : ∃ t, t < T ∧ ¬ hs t = 0
    · rw [if_pos c2, if_pos ((ex_congr h2).mp c2)]
    · rw [if_neg c2, if_neg (fun z => c2 ((ex_congr h2).mpr z))]
theorem lowF_congr {u u' : Nat → Int32} : ∀ i, (∀ t, t < i → u t = u' t) → lowF u i = lowF u' i
  | 0, _ => rfl
  | i + 1, h => by
    unfold lowF
    rw [lowF_congr i (fun t ht => h t (Nat.lt_succ_of_lt ht)), h i (Nat.lt_succ_self i)]
theorem gtMid_congr {V u u' : Nat → Int32} : ∀ i, (∀ t, t < i → u t = u' t) → gtMid V u i = gtMid V u' i
  | 0, _ => rfl
  | i + 1, h => by
    unfold gtMid
    rw [gtMid_congr i (fun t ht => h t (Nat.lt_succ_of_lt ht)), h i (Nat.lt_succ_self i)]
theorem clearsA_congr {V la la' ma ma' u u' : Nat → Int32} {T : Nat} (hT : 1 ≤ T) (hT8 : T ≤ 8) (h1 : ∀ t, t < T → la t = la' t) (h2 : ∀ t, t < T → ma t = ma' t) (h3 : ∀ t, t < T → u t = u' t) : clearsA V la ma u T = clearsA V la' ma' u' T := by
  unfold clearsA
  rw [h1 (T - 1) (by omega), h2 0 (by omega), lowF_congr T h3]
  rcases lowF_or u' T with e | ⟨j, hj, e⟩
  · have hn : (-1 : Int32) < 0 := by decide
    rw [e, if_pos hn, if_pos hn]
  · rw [e, ixN_nI (by omega), h3 j hj]
theorem Ms.worth {h : Hp} {V N : Nat → Int32} {T : Nat} {F : Int32} (hT : 1 ≤ T) (hT8 : T ≤ 8) (hM : Ms h V N T) : valA (whyA V N (h g_bent 0) (h g_hasty 0) T F) (clearsA V (h g_lAcr 0) (h g_mAcr 0) (h g_lUp 0) T) = sWorth V N T F := by
  unfold sWorth sWhy sHigh
  rw [whyA_congr (b' := fun t => bi (sBent V N t)) (hs' := fun t => bi (sHasty V N T t)) (fun t ht => (hM t ht).1.2.2.2) (fun t ht => (hM t ht).2), clearsA_congr hT hT8 (la' := fun t => sLA V N t 4) (ma' := fun t => sMA V N t 4) (u' := fun t => sLU V N t 4) (fun t ht => (hM t ht).1.1) (fun t ht => (hM t ht).1.2.1) (fun t ht => (hM t ht).1.2.2.1)]
theorem Ms.high {h : Hp} {V N : Nat → Int32} {T : Nat} (hT : 1 ≤ T) (hT8 : T ≤ 8) (hM : Ms h V N T) : clearsA V (h g_lAcr 0) (h g_mAcr 0) (h g_lUp 0) T = sHigh V N T := by
  unfold sHigh
  rw [clearsA_congr hT hT8 (la' := fun t => sLA V N t 4) (ma' := fun t => sMA V N t 4) (u' := fun t => sLU V N t 4) (fun t ht => (hM t ht).1.1) (fun t ht => (hM t ht).1.2.1) (fun t ht => (hM t ht).1.2.2.1)]
theorem Ms.why {h : Hp} {V N : Nat → Int32} {T : Nat} {F : Int32} (hM : Ms h V N T) : whyA V N (h g_bent 0) (h g_hasty 0) T F = sWhy V N T F := by
  unfold sWhy
  rw [whyA_congr (b' := fun t => bi (sBent V N t)) (hs' := fun t => bi (sHasty V N T t)) (fun t ht => (hM t ht).1.2.2.2) (fun t ht => (hM t ht).2)]
/-! a tenth measured anew -/
theorem hset_k {h : Hp} {t i k : Nat} {v : Int32} {b : Nat} (hne : b ≠ k) : hset h t i k v t i b = h t i b := by
  unfold hset
  rw [if_neg (fun z => hne z.2.2)]
theorem mpp_k {h : Hp} {k t p a b : Nat} (hne : b ≠ t) : mpp h k t p a 0 b = h a 0 b := by
  unfold mpp mp
  unfold hset
  rw [if_neg (fun z => hne z.2.2), if_neg (fun z => hne z.2.2), if_neg (fun z => hne z.2.2), if_neg (fun z => hne z.2.2)]
theorem mT_places {h : Hp} {k T t : Nat} {a : Nat} (ha : a ≠ g_bent) (hb : a ≠ g_hasty) : mT h k T t a = mpp h k t 4 a := by
  unfold mT
  by_cases h0 : 0 < t
  · rw [if_pos h0, hset_t hb, hset_t hb, hset_t ha]
  · rw [if_neg h0, hset_t hb, hset_t ha]
theorem mT_bent {h : Hp} {k T t : Nat} : mT h k T t g_bent = hset (mpp h k t 4) g_bent 0 t (bi (sBent (h g_values 0) (h g_nums k) t)) g_bent := by
  unfold mT
  by_cases h0 : 0 < t
  · rw [if_pos h0, hset_t (by decide), hset_t (by decide)]
  · rw [if_neg h0, hset_t (by decide)]
theorem mT_P {h : Hp} {k T t : Nat} : MsP (mT h k T t) (h g_values 0) (h g_nums k) t := by
  refine ⟨?_, ?_, ?_, ?_⟩
  · rw [mT_places (by decide) (by decide)]; exact mp_r1 _ _ _ _ _ _
  · rw [mT_places (by decide) (by decide)]; exact mp_r2 _ _ _ _ _ _
  · rw [mT_places (by decide) (by decide)]; exact mp_r3 _ _ _ _ _ _
  · rw [mT_bent]; exact hset_eq _ _ _ _ _
theorem mT_Po {h : Hp} {k T t u : Nat} {V N : Nat → Int32} (hu : u ≠ t) (hM : MsP h V N u) : MsP (mT h k T t) V N u := by
  refine ⟨?_, ?_, ?_, ?_⟩
  · rw [mT_places (by decide) (by decide), mpp_k hu]; exact hM.1
  · rw [mT_places (by decide) (by decide), mpp_k hu]; exact hM.2.1
  · rw [mT_places (by decide) (by decide), mpp_k hu]; exact hM.2.2.1
  · rw [mT_bent, hset_k hu, mpp_k hu]; exact hM.2.2.2
theorem mT_H {h : Hp} {k T t : Nat} : MsH (mT h k T t) (h g_values 0) (h g_nums k) T t := by
  unfold MsH mT
  by_cases h0 : 0 < t
  · rw [if_pos h0, hset_k (by omega)]; exact hset_eq _ _ _ _ _
  · rw [if_neg h0]; exact hset_eq _ _ _ _ _
theorem mT_H1 {h : Hp} {k T t u : Nat} (hu : u + 1 = t) : MsH (mT h k T t) (h g_values 0) (h g_nums k) T u := by
  unfold MsH mT
  rw [if_pos (by omega), show t - 1 = u by omega]
  exact hset_eq _ _ _ _ _
theorem mT_Ho {h : Hp} {k T t u : Nat} {V N : Nat → Int32} (hu : u ≠ t) (hu1 : u + 1 ≠ t) (hM : MsH h V N T u) : MsH (mT h k T t) V N T u := by
  unfold MsH mT
  by_cases h0 : 0 < t
  · rw [if_pos h0, hset_k (by omega), hset_k hu, hset_t (by decide), mpp_k hu]; exact hM
  · rw [if_neg h0, hset_k hu, hset_t (by decide), mpp_k hu]; exact hM
/-- all but t measured, t measured anew: all is measured -/
theorem MsO.all {h : Hp} {k T t : Nat} (hM : MsO h (h g_values 0) (h g_nums k) T t) : Ms (mT h k T t) (h g_values 0) (h g_nums k) T := by
  intro u hu
  by_cases e : u = t
  · subst e; exact ⟨mT_P, mT_H⟩
  · refine ⟨mT_Po e (hM.1 u hu e), ?_⟩
    by_cases e1 : u + 1 = t
    · exact mT_H1 e1
    · exact mT_Ho e e1 (hM.2 u hu e e1)
theorem measN_Ms {h : Hp} {k T : Nat} : ∀ i, ∀ u, u < i → MsP (measN h k T i) (h g_values 0) (h g_nums k) u ∧ MsH (measN h k T i) (h g_values 0) (h g_nums k) T u
  | 0, u, hu => absurd hu (Nat.not_lt_zero u)
  | i + 1, u, hu => by
    have ev : measN h k T i g_values 0 = h g_values 0 := by rw [measN_t (by decide)]
    have en : measN h k T i g_nums k = h g_nums k := by rw [measN_t (by decide)]
    show MsP (mT (measN h k T i) k T i) _ _ u ∧ MsH (mT (measN h k T i) k T i) _ _ T u
    by_cases e : u = i
    · subst e
      have a1 := mT_P (h := measN h k T u) (k := k) (T := T) (t := u)
      have a2 := mT_H (h := measN h k T u) (k := k) (T := T) (t := u)
      rw [ev, en] at a1 a2
      exact ⟨a1, a2⟩
    · obtain ⟨b1, b2⟩ := measN_Ms (h := h) (k := k) (T := T) i u (by omega)
      refine ⟨mT_Po e b1, ?_⟩
      by_cases e1 : u + 1 = i
      · have a2 := mT_H1 (h := measN h k T i) (k := k) (T := T) e1
        rw [ev, en] at a2
        exact a2
      · exact mT_Ho e e1 b2
theorem measN_all {h : Hp} {k T : Nat} : Ms (measN h k T T) (h g_values 0) (h g_nums k) T := fun u hu => measN_Ms T u hu
/-! what a tenth's measures depend on -/
theorem sMid_t : True := trivial
theorem bsF_congr {V N N' : Nat → Int32} {t ax : Nat} (h : ∀ i, i < 8 → N (8 * t + i) = N' (8 * t + i)) (ha : ax ≤ 1) : ∀ p, p ≤ 4 → bsF V N t ax p = bsF V N' t ax p
  | 0, _ => rfl
  | p + 1, hp => by
    unfold bsF
    rw [bsF_congr h ha p (by omega), show 8 * t + 2 * p + ax = 8 * t + (2 * p + ax) by omega, h _ (by omega)]
theorem sPlace_congr {V N N' : Nat → Int32} {t p ax : Nat} (h : ∀ i, i < 8 → N (8 * t + i) = N' (8 * t + i)) (ha : ax ≤ 1) (hp : p ≤ 3) : sPlace V N t p ax = sPlace V N' t p ax := by
  unfold sPlace sBase
  rw [bsF_congr h ha 4 (by omega), show 8 * t + 2 * p + ax = 8 * t + (2 * p + ax) by omega, h _ (by omega)]
theorem sLA_congr {V N N' : Nat → Int32} {t : Nat} (h : ∀ i, i < 8 → N (8 * t + i) = N' (8 * t + i)) : ∀ p, p ≤ 4 → sLA V N t p = sLA V N' t p
  | 0, _ => rfl
  | p + 1, hp => by
    unfold sLA
    rw [sLA_congr h p (by omega), sPlace_congr h (by decide) (by omega)]
theorem sMA_congr {V N N' : Nat → Int32} {t : Nat} (h : ∀ i, i < 8 → N (8 * t + i) = N' (8 * t + i)) : ∀ p, p ≤ 4 → sMA V N t p = sMA V N' t p
  | 0, _ => rfl
  | p + 1, hp => by
    unfold sMA
    rw [sMA_congr h p (by omega), sPlace_congr h (by decide) (by omega)]
theorem sLU_congr {V N N' : Nat → Int32} {t : Nat} (h : ∀ i, i < 8 → N (8 * t + i) = N' (8 * t + i)) : ∀ p, p ≤ 4 → sLU V N t p = sLU V N' t p
  | 0, _ => rfl
  | p + 1, hp => by
    unfold sLU
    rw [sLU_congr h p (by omega), sPlace_congr h (by decide) (by omega), sPlace_congr h (by decide) (by omega)]
theorem sBentP_congr {V N N' : Nat → Int32} {t p : Nat} (h : ∀ i, i < 8 → N (8 * t + i) = N' (8 * t + i)) (hp : p ≤ 2) : sBentP V N t p ↔ sBentP V N' t p := by
  unfold sBentP
  rw [show 8 * t + 2 * p + 3 = 8 * t + (2 * p + 3) by omega, show 8 * t + 2 * p + 2 = 8 * t + (2 * p + 2) by omega, show 8 * t + 2 * p + 1 = 8 * t + (2 * p + 1) by omega, h _ (by omega), h _ (by omega), h _ (by omega), h _ (by omega)]
theorem sBent_congr {V N N' : Nat → Int32} {t : Nat} (h : ∀ i, i < 8 → N (8 * t + i) = N' (8 * t + i)) : sBent V N t ↔ sBent V N' t := by
  unfold sBent
  rw [sBentP_congr h (by decide), sBentP_congr h (by decide), sBentP_congr h (by decide)]
theorem sHasty_congr {V N N' : Nat → Int32} {T t : Nat} (h : ∀ i, i < 16 → N (8 * t + i) = N' (8 * t + i)) : sHasty V N T t ↔ sHasty V N' T t := by
  have key : ∀ i, i < 8 → (sHastyP V N (8 * t + i) ↔ sHastyP V N' (8 * t + i)) := by
    intro i hi
    unfold sHastyP
    rw [show 8 * t + i + 8 = 8 * t + (i + 8) by omega, h i (by omega), h (i + 8) (by omega)]
  exact ⟨fun ⟨h1, i, h2, h3⟩ => ⟨h1, i, h2, (key i h2).mp h3⟩, fun ⟨h1, i, h2, h3⟩ => ⟨h1, i, h2, (key i h2).mpr h3⟩⟩
theorem MsP.congr {h : Hp} {V N N' : Nat → Int32} {t : Nat} (e : ∀ i, i < 8 → N (8 * t + i) = N' (8 * t + i)) (hM : MsP h V N t) : MsP h V N' t :=
  ⟨hM.1.trans (sLA_congr e 4 (by omega)), hM.2.1.trans (sMA_congr e 4 (by omega)), hM.2.2.1.trans (sLU_congr e 4 (by omega)), hM.2.2.2.trans (bi_congr (sBent_congr e))⟩
theorem MsH.congr {h : Hp} {V N N' : Nat → Int32} {T t : Nat} (e : ∀ i, i < 16 → N (8 * t + i) = N' (8 * t + i)) (hM : MsH h V N T t) : MsH h V N' T t := hM.trans (bi_congr (sHasty_congr e))
/-- a number of tenth t is another: all but t stays measured -/
theorem MsO.congr {h : Hp} {V N N' : Nat → Int32} {T t : Nat} (e : ∀ j, ¬ (8 * t ≤ j ∧ j < 8 * t + 8) → N j = N' j) (hM : MsO h V N T t) : MsO h V N' T t :=
  ⟨fun u hu hne => (hM.1 u hu hne).congr (fun i hi => e _ (by omega)), fun u hu hne h1 => (hM.2 u hu hne h1).congr (fun i hi => e _ (by omega))⟩
theorem Ms.off {h : Hp} {V N : Nat → Int32} {T : Nat} (hM : Ms h V N T) (t : Nat) : MsO h V N T t := ⟨fun u hu _ => (hM u hu).1, fun u hu _ _ => (hM u hu).2⟩
/-- what measuring t leaves, where the numbers then go back -/
theorem MsO.after {h : Hp} {k T t : Nat} {V N : Nat → Int32} (hM : MsO h V N T t) : MsO (mT h k T t) V N T t :=
  ⟨fun u hu hne => mT_Po hne (hM.1 u hu hne), fun u hu hne h1 => mT_Ho hne h1 (hM.2 u hu hne h1)⟩
/-- a world whose measures are the same -/
theorem MsO.same {h h' : Hp} {V N : Nat → Int32} {T t : Nat} (hM : MsO h V N T t) (e1 : h' g_lAcr = h g_lAcr) (e2 : h' g_mAcr = h g_mAcr) (e3 : h' g_lUp = h g_lUp) (e4 : h' g_bent = h g_bent) (e5 : h' g_hasty = h g_hasty) : MsO h' V N T t :=
  ⟨fun u hu hne => ⟨by rw [e1]; exact (hM.1 u hu hne).1, by rw [e2]; exact (hM.1 u hu hne).2.1, by rw [e3]; exact (hM.1 u hu hne).2.2.1, by rw [e4]; exact (hM.1 u hu hne).2.2.2⟩, fun u hu hne h1 => by unfold MsH; rw [e5]; exact hM.2 u hu hne h1⟩
theorem Ms.same {h h' : Hp} {V N : Nat → Int32} {T : Nat} (hM : Ms h V N T) (e1 : h' g_lAcr = h g_lAcr) (e2 : h' g_mAcr = h g_mAcr) (e3 : h' g_lUp = h g_lUp) (e4 : h' g_bent = h g_bent) (e5 : h' g_hasty = h g_hasty) : Ms h' V N T :=
  fun u hu => ⟨⟨by rw [e1]; exact (hM u hu).1.1, by rw [e2]; exact (hM u hu).1.2.1, by rw [e3]; exact (hM u hu).1.2.2.1, by rw [e4]; exact (hM u hu).1.2.2.2⟩, by unfold MsH; rw [e5]; exact (hM u hu).2⟩
