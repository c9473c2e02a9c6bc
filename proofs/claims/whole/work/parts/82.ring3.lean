/-! jumpers -/
theorem alF_congrF {f f' : Nat → Int32} {C S : Nat} {habit : Int32} (hC : 0 < C) (e : ∀ i, i < 6 → f i = f' i) : ∀ (n y : Nat) {s : Nat → Int32}, rgS s C → alF f C S habit n y s = alF f' C S habit n y s
  | 0, _, _, _ => rfl
  | n + 1, y, s, h => by
    unfold alF
    rw [alF_congr hC n (y + 1) (fun i hi => yrF_congrF h e hi), alF_congrF hC e n (y + 1) (yrF_rg h)]
theorem rg_upd {s : Nat → Int32} {C j w : Nat} (h : rgS s C) (hw : w < 6) : rgS (upd s j (nI w)) C := fun i hi => by
  unfold upd
  by_cases e : i = j
  · rw [if_pos e]; exact ⟨w, hw, rfl⟩
  · rw [if_neg e]; exact h i hi
section
variable {l : Launch} {G : GE} {h : Hp}
theorem both_jumper (z : Rel h) {w : Int32} : Both l G mX7_jumper mX8_jumper [vI w] h := by
  obtain ⟨C, hC, j1, j2, j3, j4⟩ := z.2.2.2.1
  have p0 : 0 ≤ nI C := nI_pos' (by omega)
  have p1 : nI C ≤ 12 := nI_le (b := 12) hC (by decide)
  refine ⟨_, C_X7_jumper (by rw [j1]; exact p0), fun r h1 ⟨er, eh⟩ => ⟨_, er, ?_⟩⟩
  rw [j1] at eh ⊢
  by_cases c : (0 ≤ w ∧ w ≤ 5) ∧ nI C < 12
  · have hC2 : C < 12 := Nat.not_le.mp (fun y => Int32.not_le.mpr c.2 (nI_le (a := 12) y (by omega)))
    rw [if_pos c, ixN_nI (by omega), ← nI_succ] at eh
    have e1 : h1 g_model 0 22 = nI C := by rw [eh, hset_t (by decide), hset_t (by decide)]; exact j2
    refine ⟨_, C_X8_jumper (by rw [e1]; exact p0) (by rw [e1]; exact p1), fun r2 h2 ⟨er2, eh2⟩ => ?_⟩
    rw [e1] at er2 eh2
    rw [if_pos c, ixN_nI (by omega), ← nI_succ] at eh2
    refine ⟨er2, ?_⟩
    obtain ⟨w', hw', rfl⟩ := natof (x := w) 5 (by decide) c.1.1 c.1.2
    subst eh2
    subst eh
    obtain ⟨t, vv, ww, j, s, o, b⟩ := z.r0
    refine ⟨t.same ?_ ?_ ?_ ?_ ?_ ?_, vv.same ?_ ?_, ww.same ?_ ?_ ?_ ?_ ?_, ⟨C + 1, by omega, ?_, hset_eq _ _ _ _ _, fun i hi => ?_, fun i hi => ?_⟩, s.same ?_ ?_ ?_ ?_ ?_, o.same ?_ ?_, b.same ?_ ?_ ?_ ?_ ?_⟩
    · simp (disch := decide) only [hset_t]
    · simp (disch := decide) only [hset_t]
    · simp (disch := decide) only [hset_t]
    · simp (disch := decide) only [hset_t]
    · simp (disch := decide) only [hset_t, hset_k]
    · simp (disch := decide) only [hset_t, hset_k]
    · simp (disch := decide) only [hset_t]
    · simp (disch := decide) only [hset_t]
    · intros; simp (disch := decide) only [hset_t]
    · intros; simp (disch := decide) only [hset_t]
    · simp (disch := decide) only [hset_t]
    · simp (disch := decide) only [hset_t]
    · simp (disch := decide) only [hset_t]
    · simp (disch := decide) only [hset_t]; exact hset_eq _ _ _ _ _
    · simp (disch := decide) only [hset_t]
      by_cases e : i = C
      · rw [e, hset_eq]; exact ⟨w', by omega, rfl⟩
      · rw [hset_k e]; simp (disch := decide) only [hset_t]; exact j3 i (by omega)
    · simp (disch := decide) only [hset_t]
      by_cases e : i = C
      · rw [e, hset_eq, hset_eq]
      · rw [hset_k e, hset_k e]; simp (disch := decide) only [hset_t]; exact j4 i (by omega)
    all_goals (intros; simp (disch := decide) only [hset_t, hset_k])
  · rw [if_neg c] at eh
    subst eh
    refine ⟨_, C_X8_jumper (by rw [j2]; exact p0) (by rw [j2]; exact p1), fun r2 h2 ⟨er2, eh2⟩ => ?_⟩
    rw [j2] at er2 eh2
    rw [if_neg c] at eh2
    subst eh2
    exact ⟨er2, z.r0⟩
theorem both_takes (z : Rel h) {j w : Int32} : Both l G mX7_takes mX8_takes [vI j, vI w] h := by
  obtain ⟨C, hC, j1, j2, j3, j4⟩ := z.2.2.2.1
  have p0 : 0 ≤ nI C := nI_pos' (by omega)
  have p1 : nI C ≤ 12 := nI_le (b := 12) hC (by decide)
  refine ⟨_, C_X7_takes (by rw [j1]; exact p0) (by rw [j1]; exact p1), fun r h1 ⟨er, eh⟩ => ⟨_, er, ?_⟩⟩
  rw [j1] at eh ⊢
  by_cases c : (0 ≤ j ∧ j ≤ nI C - 1) ∧ 0 ≤ w ∧ w ≤ 5
  · rw [if_pos c] at eh ⊢
    have e1 : h1 g_model 0 22 = nI C := by rw [eh, hset_t (by decide)]; exact j2
    refine ⟨_, C_X8_takes (by rw [e1]; exact p0) (by rw [e1]; exact p1), fun r2 h2 ⟨er2, eh2⟩ => ?_⟩
    rw [e1, if_pos c] at er2 eh2
    obtain ⟨j', hj', rfl⟩ := zsub c.1 (by omega)
    rw [ixN_nI (by omega)] at er2 eh2 eh ⊢
    obtain ⟨w', hw', rfl⟩ := natof (x := w) 5 (by decide) c.2.1 c.2.2
    subst eh2
    subst eh
    refine ⟨by rw [er2, hset_t (by decide), j4 j' hj'], ?_⟩
    obtain ⟨t, vv, ww, j, s, o, b⟩ := z.r0
    refine ⟨t.same ?_ ?_ ?_ ?_ ?_ ?_, vv.same ?_ ?_, ww.same ?_ ?_ ?_ ?_ ?_, ⟨C, hC, ?_, ?_, fun i hi => ?_, fun i hi => ?_⟩, s.same ?_ ?_ ?_ ?_ ?_, o.same ?_ ?_, b.same ?_ ?_ ?_ ?_ ?_⟩
    · simp (disch := decide) only [hset_t]
    · simp (disch := decide) only [hset_t]
    · simp (disch := decide) only [hset_t]
    · simp (disch := decide) only [hset_t]
    · simp (disch := decide) only [hset_t]
    · simp (disch := decide) only [hset_t]
    · simp (disch := decide) only [hset_t]
    · simp (disch := decide) only [hset_t]
    · intros; simp (disch := decide) only [hset_t]
    · intros; simp (disch := decide) only [hset_t]
    · simp (disch := decide) only [hset_t]
    · simp (disch := decide) only [hset_t]
    · simp (disch := decide) only [hset_t]
    · simp (disch := decide) only [hset_t]; exact j1
    · simp (disch := decide) only [hset_t]; exact j2
    · by_cases e : i = j'
      · rw [e, hset_eq]; exact ⟨w', by omega, rfl⟩
      · rw [hset_k e]; simp (disch := decide) only [hset_t]; exact j3 i hi
    · rw [hset_t (by decide)]
      by_cases e : i = j'
      · rw [e, hset_eq, hset_eq]
      · rw [hset_k e, hset_k e]; simp (disch := decide) only [hset_t]; exact j4 i hi
    all_goals (intros; simp (disch := decide) only [hset_t])
  · rw [if_neg c] at eh ⊢
    subst eh
    refine ⟨_, C_X8_takes (by rw [j2]; exact p0) (by rw [j2]; exact p1), fun r2 h2 ⟨er2, eh2⟩ => ?_⟩
    rw [j2, if_neg c] at er2 eh2
    subst eh2
    exact ⟨er2, z.r0⟩
theorem MK.ms {h h' : Hp} (m : MS h h') (k : MK h) : MK h' := by
  obtain ⟨a1, a2, a3⟩ := k
  exact ⟨by rw [m g_m_holds (by decide) (by decide)]; exact a1, fun k hk => by rw [mN_ms m]; exact a2 k hk, fun k hk => by rw [m g_m_tenths (by decide) (by decide)]; exact a3 k hk⟩
theorem MG.ms {h h' : Hp} {C S : Nat} (m : MS h h') (k : MG h C S) : MG h' C S := by
  unfold MG
  rw [m g_model (by decide) (by decide), m g_m_holds (by decide) (by decide)]
  exact k
theorem both_years (z : Rel h) {n : Int32} : Both l G mX7_years mX8_years [vI n] h := by
  obtain ⟨C, S, r1, r2, r3, r4, r5⟩ := z.ring
  refine ⟨_, C_X7_years z.wt r1 r3, fun r h1 q1 => ?_⟩
  by_cases c : 1 ≤ n ∧ n ≤ 20
  · simp only [if_pos c] at q1
    obtain ⟨q1, q2, q3⟩ := q1
    have m : MS h h1 := fun a ha _ => q2 a 0 (ess_m ha) (ne_m ha (by decide))
    refine ⟨_, q1, _, C_X8_years (z.mk.ms m) (r2.ms m) (by rw [m g_m_jumpers (by decide) (by decide)]; exact r4), fun r2' h2 y1 => ?_⟩
    simp only [if_pos c] at y1
    rw [mv_ms m, m g_m_holds (by decide) (by decide), m g_m_jumpers (by decide) (by decide)] at y1
    obtain ⟨y1, y2, y3⟩ := y1
    have ey : ∀ j, j < C → yrN (wv h) C S (h g_values 0 16) (ixN n) (h g_held 0) j = yrN (mv h) C S (h g_m_holds 0 16) (ixN n) (h g_m_jumpers 0) j := fun j hj => by
      rw [z.V, yrN_congrF (rel_wv z) (ixN n) r3 j hj]
      exact yrN_congr (ixN n) r5 j hj
    refine ⟨by rw [y1, unF_congr2 C ey r5], ?_⟩
    have rc : ∀ a b, ess a b → a ≠ g_held → a < 26 → h2 a b = h a b := fun a b e1 e2 e3 => by rw [y2 a (Nat.ne_of_lt (Nat.lt_of_lt_of_le e3 (by decide))) (Nat.ne_of_lt (Nat.lt_of_lt_of_le e3 (by decide))) (Nat.ne_of_lt (Nat.lt_of_lt_of_le e3 (by decide))) (Nat.ne_of_lt (Nat.lt_of_lt_of_le e3 (by decide)))]; exact q2 a b e1 e2
    have rm : ∀ a, 26 ≤ a → a ≤ 45 → a ≠ g_m_worths → a ≠ g_m_before → a ≠ g_m_then → a ≠ g_m_jumpers → h2 a 0 = h a 0 := fun a e1 e2 e3 e4 e5 e6 => by rw [y2 a e3 e4 e5 e6]; exact m a e1 e2
    obtain ⟨t, vv, ww, j, s, o, b⟩ := z.r0
    refine ⟨t.same ?_ ?_ ?_ ?_ ?_ ?_, vv.same ?_ ?_, ww.same (fun k hk => ?_) (fun k hk => ?_) ?_ ?_ ?_, ⟨C, r1.2.1, ?_, ?_, fun i hi => ?_, fun i hi => ?_⟩, s.same (fun k hk => ?_) (fun k hk => ?_) ?_ ?_ ?_, o.same ?_ ?_, b.same ?_ ?_ ?_ ?_ ?_⟩
    · exact rc _ _ (by decide) (by decide) (by decide)
    · exact rc _ _ (by decide) (by decide) (by decide)
    · rw [rc _ _ (by decide) (by decide) (by decide)]
    · exact rm _ (by decide) (by decide) (by decide) (by decide) (by decide) (by decide)
    · rw [rm _ (by decide) (by decide) (by decide) (by decide) (by decide) (by decide)]
    · rw [rm _ (by decide) (by decide) (by decide) (by decide) (by decide) (by decide)]
    · exact rc _ _ (by decide) (by decide) (by decide)
    · exact rm _ (by decide) (by decide) (by decide) (by decide) (by decide) (by decide)
    · exact rc _ _ ⟨by decide, by decide, by decide, by decide, fun q => by omega⟩ (by decide) (by decide)
    · exact rc _ _ ⟨by decide, by decide, by decide, by decide, fun q => by omega⟩ (by decide) (by decide)
    · exact rm _ (by decide) (by decide) (by decide) (by decide) (by decide) (by decide)
    · exact rm _ (by decide) (by decide) (by decide) (by decide) (by decide) (by decide)
    · exact rm _ (by decide) (by decide) (by decide) (by decide) (by decide) (by decide)
    · rw [rc _ _ (by decide) (by decide) (by decide)]; exact r1.1
    · rw [rm _ (by decide) (by decide) (by decide) (by decide) (by decide) (by decide)]; exact r2.1
    · rw [y3 i hi]; exact yrN_rg _ r4 i hi
    · rw [y3 i hi, y2 g_held (by decide) (by decide) (by decide) (by decide), q3 i hi]; exact ey i hi
    · exact rc _ _ ⟨by decide, by decide, by decide, by decide, fun q => absurd q.1 (by decide)⟩ (by decide) (by decide)
    · exact rc _ _ ⟨by decide, by decide, by decide, by decide, fun q => absurd q.1 (by decide)⟩ (by decide) (by decide)
    · exact rm _ (by decide) (by decide) (by decide) (by decide) (by decide) (by decide)
    · exact rm _ (by decide) (by decide) (by decide) (by decide) (by decide) (by decide)
    · exact rm _ (by decide) (by decide) (by decide) (by decide) (by decide) (by decide)
    · rw [rc _ _ (by decide) (by decide) (by decide)]
    · rw [rm _ (by decide) (by decide) (by decide) (by decide) (by decide) (by decide)]
    all_goals exact rm _ (by decide) (by decide) (by decide) (by decide) (by decide) (by decide)
  · simp only [if_neg c] at q1
    obtain ⟨q1, rfl⟩ := q1
    refine ⟨_, q1, _, C_X8_years z.mk r2 r4, fun r2' h2 y1 => ?_⟩
    simp only [if_neg c] at y1
    obtain ⟨y1, rfl⟩ := y1
    exact ⟨y1, z.r0⟩
theorem RelJ.kj {h h' : Hp} (z : RelJ h) (e : KJ h h') (ej : ∀ j, j < 12 → h' g_m_jumpers 0 j = h g_m_jumpers 0 j) : RelJ h' := by
  obtain ⟨C, hC, j1, j2, j3, j4⟩ := z
  refine ⟨C, hC, ?_, ?_, fun i hi => ?_, fun i hi => ?_⟩
  · rw [e g_ring (by decide) (by decide) (by decide) (by decide)]; exact j1
  · rw [e g_model (by decide) (by decide) (by decide) (by decide)]; exact j2
  · rw [ej i (by omega)]; exact j3 i hi
  · rw [ej i (by omega), e g_held (by decide) (by decide) (by decide) (by decide)]; exact j4 i hi
theorem both_all (z : Rel h) : Both l G mX7_all mX8_all [] h := by
  obtain ⟨C, S, r1, r2, r3, r4, r5⟩ := z.ring
  refine ⟨_, C_X7_all z.wt r1 r3, fun r h1 ⟨q1, q2⟩ => ?_⟩
  have m := q2.ms
  refine ⟨_, q1, _, C_X8_all (z.mk.ms m) (r2.ms m) (by rw [m g_m_jumpers (by decide) (by decide)]; exact r4), fun r2' h2 ⟨y1, y2, y3⟩ => ⟨?_, ?_⟩⟩
  · rw [y1, mv_ms m, m g_m_holds (by decide) (by decide), m g_m_jumpers (by decide) (by decide), z.V]
    by_cases c : C = 0
    · rw [if_pos c, if_pos c]
    · rw [if_neg c, if_neg c, alF_congrF (by omega) (rel_wv z) 41 0 r3, alF_congr (by omega) 41 0 r5]
  · have z1 := (z.kp q2).r0
    exact rel0_kj z1 (fun a e1 e2 e3 e4 _ => y2 a e1 e2 e3 e4) (z1.2.2.2.1.kj y2 y3)
theorem both_odd (z : Rel h) {j w n : Int32} : Both l G mX7_odd mX8_odd [vI j, vI w, vI n] h := by
  obtain ⟨C, S, r1, r2, r3, r4, r5⟩ := z.ring
  refine ⟨_, C_X7_odd z.wt r1 r3, fun r h1 ⟨q1, q2⟩ => ?_⟩
  have m := q2.ms
  refine ⟨_, q1, _, C_X8_odd (z.mk.ms m) (r2.ms m) (by rw [m g_m_jumpers (by decide) (by decide)]; exact r4), fun r2' h2 ⟨y1, y2, y3⟩ => ⟨?_, ?_⟩⟩
  · rw [y1, mv_ms m, m g_m_holds (by decide) (by decide), m g_m_jumpers (by decide) (by decide), z.V]
    by_cases c : (0 ≤ j ∧ j ≤ nI C - 1) ∧ (0 ≤ w ∧ w ≤ 5) ∧ 0 ≤ n ∧ n ≤ 20
    · rw [if_pos c, if_pos c]
      obtain ⟨w', hw', rfl⟩ := natof (x := w) 5 (by decide) c.2.1.1 c.2.1.2
      refine congrArg some (congrArg nI (cntW_congr C (fun i hi => ?_)))
      rw [yrN_congrF (rel_wv z) (ixN n) (rg_upd r3 (by omega)) i hi]
      refine (yrN_congr (ixN n) (fun k hk => ?_) i hi).symm
      unfold upd
      by_cases e : k = ixN j
      · rw [if_pos e, if_pos e]
      · rw [if_neg e, if_neg e]; exact r5 k hk
    · rw [if_neg c, if_neg c]
  · have z1 := (z.kp q2).r0
    exact rel0_kj z1 (fun a e1 e2 e3 e4 _ => y2 a e1 e2 e3 e4) (z1.2.2.2.1.kj y2 y3)
end
