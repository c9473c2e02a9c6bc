/-! THE TIE between the class's cells and the model's -/
def RelT (h : Hp) : Prop := (∃ L, L ≤ 200 ∧ h g_tape 0 1 = nI L ∧ h g_model 0 1 = nI L) ∧ h g_tapeB 0 = h g_m_tape 0 ∧ byR (h g_m_tape 0) ∧ h g_reader 0 3 = h g_model 0 2
def RelV0 (h : Hp) : Prop := (∀ j, j < 18 → h g_values 0 j = h g_m_holds 0 j) ∧ RV (h g_m_holds 0)
def RelV (h : Hp) : Prop := h g_values 0 = h g_m_holds 0 ∧ RV (h g_m_holds 0)
def RelW0 (h : Hp) : Prop := ∀ k, k < 6 → h g_way k 1 = h g_m_tenths 0 k ∧ h g_way k 2 = h g_m_feet 0 k ∧ (∀ i, i < 64 → h g_nums k i = mN h k i) ∧ RN (mN h k) ∧ ∃ T, T ≤ 8 ∧ h g_m_tenths 0 k = nI T
def RelW (h : Hp) : Prop := ∀ k, k < 6 → h g_way k 1 = h g_m_tenths 0 k ∧ h g_way k 2 = h g_m_feet 0 k ∧ h g_nums k = mN h k ∧ RN (mN h k) ∧ ∃ T, T ≤ 8 ∧ h g_m_tenths 0 k = nI T
def RelJ (h : Hp) : Prop := ∃ C, C ≤ 12 ∧ h g_ring 0 3 = nI C ∧ h g_model 0 22 = nI C ∧ rgS (h g_m_jumpers 0) C ∧ ∀ j, j < C → h g_held 0 j = h g_m_jumpers 0 j
def lnR (a b : Int32) : Prop := (a = -1 ∧ b = -4) ∨ (a = b ∧ 0 ≤ b)
def RelS (h : Hp) : Prop := ∀ k, k < 4 → ∃ Z, Z ≤ 64 ∧ h g_sheet k 1 = nI Z ∧ h g_m_lengths 0 k = nI Z ∧ lnR (h g_sheet k 0) (h g_m_lanes 0 k) ∧ ∀ i, i < Z → h g_cells k i = mC h k i
def RelO (h : Hp) : Prop := h g_oab 0 9 = h g_model 0 29
def Rel0 (h : Hp) : Prop := RelT h ∧ RelV0 h ∧ RelW0 h ∧ RelJ h ∧ RelS h ∧ RelO h ∧ MTb h
def Rel (h : Hp) : Prop := RelT h ∧ RelV h ∧ RelW h ∧ RelJ h ∧ RelS h ∧ RelO h ∧ MTb h
theorem RelV.r0 {h : Hp} (z : RelV h) : RelV0 h := ⟨fun j _ => by rw [z.1], z.2⟩
theorem RelW.r0 {h : Hp} (z : RelW h) : RelW0 h := fun k hk => ⟨(z k hk).1, (z k hk).2.1, fun i _ => by rw [(z k hk).2.2.1], (z k hk).2.2.2.1, (z k hk).2.2.2.2⟩
theorem Rel.r0 {h : Hp} (z : Rel h) : Rel0 h := ⟨z.1, z.2.1.r0, z.2.2.1.r0, z.2.2.2⟩
/-- what lies beyond the rows' ends is nobody's: laid as the model's -/
def adj (h : Hp) : Hp := fun t i k => if t = g_nums ∧ i < 6 ∧ 64 ≤ k then h g_m_numbers 0 (64 * i + k) else if t = g_values ∧ 18 ≤ k then h g_m_holds 0 k else h t i k
theorem adj_o {h : Hp} {t i : Nat} (h1 : t ≠ g_nums) (h2 : t ≠ g_values) : adj h t i = h t i := by
  funext k
  unfold adj
  rw [if_neg (fun z => h1 z.1), if_neg (fun z => h2 z.1)]
theorem adj_n {h : Hp} {i k : Nat} (hk : k < 64) : adj h g_nums i k = h g_nums i k := by
  unfold adj
  rw [if_neg (fun z => by omega), if_neg (fun z => absurd z.1 (by decide))]
theorem adj_v {h : Hp} {i k : Nat} (hk : k < 18) : adj h g_values i k = h g_values i k := by
  unfold adj
  rw [if_neg (fun z => absurd z.1 (by decide)), if_neg (fun z => by omega)]
theorem arrV_congr {c : ClassId} {n : Nat} {f g : Nat → Int32} (e : ∀ j, j < n → f j = g j) : arrV c n (fun j => .int (f j)) = arrV c n (fun j => .int (g j)) := by
  unfold arrV
  congr 1
  congr 1
  funext j
  show Value.int (f j.val) = Value.int (g j.val)
  rw [e j.val j.isLt]
theorem vaP_adj {G : GE} {h : Hp} {H : Heap} (hP : va_P G.1 vwCl (wsG G h) H) : va_P G.1 vwCl (wsG G (adj h)) H := by
  intro k q hk
  obtain ⟨t, i, hq, rfl⟩ := wsG_of hk
  have h1 := hP k _ (wsG_at hq)
  by_cases e1 : t = g_nums
  · subst e1
    have h2 : H[G.2.2 g_nums i]? = some (arrV (G.2.1 0) 64 (fun j => .int (h g_nums i j))) := h1
    show H[G.2.2 g_nums i]? = some (arrV (G.2.1 0) 64 (fun j => .int (adj h g_nums i j)))
    rw [h2, arrV_congr (fun j hj => (adj_n (h := h) (i := i) hj).symm)]
  · by_cases e2 : t = g_values
    · subst e2
      have h2 : H[G.2.2 g_values i]? = some (arrV (G.2.1 0) 18 (fun j => .int (h g_values i j))) := h1
      show H[G.2.2 g_values i]? = some (arrV (G.2.1 0) 18 (fun j => .int (adj h g_values i j)))
      rw [h2, arrV_congr (fun j hj => (adj_v (h := h) (i := i) hj).symm)]
    · have h2 : ent G (adj h) t i = ent G h t i := entS_congr (adj_o e1 e2) _
      rw [h2]
      exact h1
theorem E_adj {l : Launch} {G : GE} {mi : MI} {fk : FK} {pc : Nat} {lv : List (Option AV)} {st : List AV} {h : Hp} (k : Ev l G mi fk pc lv st (adj h)) : Ev l G mi fk pc lv st h :=
  fun p e s m args below meth c X H locs ls hP hS hl okl oks => k p e s m args below meth c X H locs ls (vaP_adj hP) hS hl okl oks
theorem rel_adj {h : Hp} (z : Rel0 h) : Rel (adj h) := by
  obtain ⟨⟨⟨L, t1, t2, t3⟩, t4, t5, t6⟩, ⟨v1, v2⟩, w, ⟨C, j1, j2, j3, j4, j5⟩, s, o, b⟩ := z
  have eN : ∀ k, mN (adj h) k = mN h k := fun k => by
    unfold mN
    rw [adj_o (by decide) (by decide)]
  refine ⟨⟨⟨L, t1, ?_, ?_⟩, ?_, ?_, ?_⟩, ⟨?_, ?_⟩, fun k hk => ?_, ⟨C, j1, ?_, ?_, ?_, ?_⟩, fun k hk => ?_, ?_, ?_⟩
  · rw [adj_o (by decide) (by decide)]; exact t2
  · rw [adj_o (by decide) (by decide)]; exact t3
  · rw [adj_o (by decide) (by decide), adj_o (by decide) (by decide)]; exact t4
  · rw [adj_o (by decide) (by decide)]; exact t5
  · rw [adj_o (by decide) (by decide), adj_o (by decide) (by decide)]; exact t6
  · rw [adj_o (t := g_m_holds) (by decide) (by decide)]
    funext j
    by_cases hj : j < 18
    · rw [adj_v hj]; exact v1 j hj
    · unfold adj; rw [if_neg (fun z => absurd z.1 (by decide)), if_pos ⟨rfl, by omega⟩]
  · rw [adj_o (by decide) (by decide)]; exact v2
  · obtain ⟨w1, w2, w3, w4, w5⟩ := w k hk
    rw [eN, adj_o (t := g_way) (by decide) (by decide), adj_o (t := g_m_tenths) (by decide) (by decide), adj_o (t := g_m_feet) (by decide) (by decide)]
    refine ⟨w1, w2, ?_, w4, w5⟩
    funext i
    by_cases hi : i < 64
    · rw [adj_n hi]; exact w3 i hi
    · unfold adj; rw [if_pos ⟨rfl, hk, by omega⟩]
  · rw [adj_o (by decide) (by decide)]; exact j2
  · rw [adj_o (by decide) (by decide)]; exact j3
  · rw [adj_o (by decide) (by decide)]; exact j4
  · intro j hj; rw [adj_o (by decide) (by decide), adj_o (by decide) (by decide)]; exact j5 j hj
  · obtain ⟨Z, s1, s2, s3, s4, s5⟩ := s k hk
    refine ⟨Z, s1, ?_, ?_, ?_, fun i hi => ?_⟩
    · rw [adj_o (by decide) (by decide)]; exact s2
    · rw [adj_o (by decide) (by decide)]; exact s3
    · rw [adj_o (by decide) (by decide), adj_o (by decide) (by decide)]; exact s4
    · unfold mC; rw [adj_o (by decide) (by decide), adj_o (by decide) (by decide)]; exact s5 i hi
  · unfold RelO; rw [adj_o (by decide) (by decide), adj_o (by decide) (by decide)]; exact o
  · unfold MTb; rw [adj_o (by decide) (by decide), adj_o (by decide) (by decide), adj_o (by decide) (by decide), adj_o (by decide) (by decide), adj_o (by decide) (by decide)]; exact b
