/-! calls that change nothing that counts -/
theorem Rel.V {h : Hp} (z : Rel h) : h g_values 0 = h g_m_holds 0 := z.2.1.1
theorem Rel.w1 {h : Hp} (z : Rel h) {k : Nat} (hk : k < 6) : h g_way k 1 = h g_m_tenths 0 k := (z.2.2.1 k hk).1
theorem Rel.w2 {h : Hp} (z : Rel h) {k : Nat} (hk : k < 6) : h g_way k 2 = h g_m_feet 0 k := (z.2.2.1 k hk).2.1
theorem Rel.w3 {h : Hp} (z : Rel h) {k : Nat} (hk : k < 6) : h g_nums k = mN h k := (z.2.2.1 k hk).2.2.1
theorem rel_wv {h : Hp} (z : Rel h) : ∀ k, k < 6 → wv h k = mv h k := fun k hk => by
  unfold wv mv
  rw [z.V, z.w1 hk, z.w2 hk, z.w3 hk]
theorem rel_wvP {h : Hp} (z : Rel h) {p : Nat} {v : Int32} : ∀ k, k < 6 → wvP h p v k = mvP h p v k := fun k hk => by
  unfold wvP mvP
  rw [z.V, z.w1 hk, z.w2 hk, z.w3 hk]
theorem sBest_congr {f g : Nat → Int32} {a : Int32} (e : ∀ k, k < 6 → f k = g k) : sBest f a = sBest g a := by
  unfold sBest
  rw [bstF_congr 6 e]
theorem Rel.m8 {h : Hp} (z : Rel h) {w : Int32} (hw : 0 ≤ w ∧ w ≤ 5) : h g_m_tenths 0 (ixN w) ≤ 8 := by
  obtain ⟨T, hT, e⟩ := (z.2.2.1 _ (z.t8 hw)).2.2.2.2
  rw [e]
  exact nI_le (b := 8) hT (by decide)
section
variable {l : Launch} {G : GE} {h : Hp}
theorem both_fault (z : Rel h) : Both l G mX7_fault mX8_fault [] h := query0 z C_X7_fault C_X8_fault z.1.2.2.2
theorem both_torn (z : Rel h) : Both l G mX7_torn mX8_torn [] h := query0 z C_X7_torn C_X8_torn z.2.2.2.2.2.1
theorem both_rule (z : Rel h) {n : Int32} : Both l G mX7_rule mX8_rule [vI n] h := query0 z C_X7_rule C_X8_rule (by rw [z.V])
theorem both_of (z : Rel h) {w a : Int32} : Both l G mX7_of mX8_of [vI w, vI a] h := by
  refine query0 z C_X7_of C_X8_of ?_
  by_cases hw : 0 ≤ w ∧ w ≤ 5
  · rw [z.w1 (z.t8 hw), z.w2 (z.t8 hw)]
  · rw [if_neg (fun y => hw y.1.1), if_neg (fun y => hw y.1.1)]
theorem both_pays (z : Rel h) {a b g c : Int32} : Both l G mX7_pays mX8_pays [vI a, vI b, vI g, vI c] h := query0 z C_X7_pays C_X8_pays rfl
theorem both_pits (z : Rel h) {w : Int32} : Both l G mX7_pits mX8_pits [vI w] h := by
  refine query0 z (C_X7_pits z.wt) (C_X8_pits z.mk) ?_
  by_cases c : isM h w
  · rw [if_pos (z.isW.mpr c), if_pos c, z.w1 (z.t8 c.1), z.w3 (z.t8 c.1)]
  · rw [if_neg (mt z.isW.mp c), if_neg c]
theorem both_who (z : Rel h) {w : Int32} : Both l G mX7_who mX8_who [vI w] h := by
  obtain ⟨C, S, r1, r2, -, -, r5⟩ := z.ring
  exact query0 z (C_X7_who r1) (C_X8_who r2) (by rw [cntW_congr C r5])
theorem cw_eq (z : Rel h) : ∀ k, k ≤ 6 → cwF h k = mcw h k ∧ ctF h k = mct h k
  | 0, _ => ⟨rfl, rfl⟩
  | k + 1, hk => by
    obtain ⟨e1, e2⟩ := cw_eq z k (by omega)
    unfold cwF mcw ctF mct
    rw [e1, e2, z.w1 (by omega)]
    exact ⟨rfl, rfl⟩
theorem hbF_congr {s s' : Nat → Int32} : ∀ n, (∀ i, i < n → s i = s' i) → hbF s n = hbF s' n
  | 0, _ => rfl
  | n + 1, e => by
    unfold hbF
    rw [hbF_congr n (fun i hi => e i (Nat.lt_succ_of_lt hi)), e n (Nat.lt_succ_self n)]
theorem both_count (z : Rel h) {a : Int32} : Both l G mX7_count mX8_count [vI a] h := by
  obtain ⟨C, S, r1, r2, -, r4, r5⟩ := z.ring
  refine query0 z (C_X7_count r1) (C_X8_count r2) ?_
  obtain ⟨e1, e2⟩ := cw_eq z 6 (Nat.le_refl 6)
  obtain ⟨L, -, t1, t2⟩ := z.1.1
  obtain ⟨Z, -, s1, s2, s3, -⟩ := z.2.2.2.2.1 0 (by decide)
  unfold cnA cnM
  rw [e1, e2, r1.1, r2.1, hbF_congr C r5, bc_ul r4, t1, t2, s1, s2]
  rcases s3 with ⟨y1, y2⟩ | ⟨y1, y2⟩
  · rw [if_pos y1, if_pos y2]
  · rw [if_neg (show ¬ h g_sheet 0 0 = -1 from fun y => by rw [y1] at y; rw [y] at y2; exact absurd y2 (by decide)), if_neg (show ¬ h g_m_lanes 0 0 = -4 from fun y => by rw [y] at y2; exact absurd y2 (by decide))]
end
