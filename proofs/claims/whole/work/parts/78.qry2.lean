/-! calls that change nothing that counts: ways -/
section
variable {l : Launch} {G : GE} {h : Hp}
theorem Rel.c8 (z : Rel h) {w : Int32} (hw : 0 ≤ w ∧ w ≤ 5) : h g_way (ixN w) 1 ≤ 8 := by rw [z.w1 (z.t8 hw)]; exact z.m8 hw
theorem nat_t {t b : Int32} (h0 : 0 ≤ t) (h1 : t ≤ b - 1) (hb : b ≤ 8) (hb0 : 0 < b) : ∃ j : Nat, j ≤ 7 ∧ t = nI j := natof 7 (by decide) h0 (by show t ≤ 7; grind)
theorem ix_tpa {t p a : Int32} (h1 : 0 ≤ t) (h2 : t ≤ 7) (h3 : 0 ≤ p) (h4 : p ≤ 3) (h5 : 0 ≤ a) (h6 : a ≤ 1) : ixN (8 * t + 2 * p + a) = 8 * ixN t + 2 * ixN p + ixN a := by
  obtain ⟨t', ht, rfl⟩ := natof 7 (by decide) h1 h2
  obtain ⟨p', hp, rfl⟩ := natof 3 (by decide) h3 h4
  obtain ⟨a', ha, rfl⟩ := natof 1 (by decide) h5 h6
  rw [nI_spot, ixN_nI (by omega), ixN_nI (by omega), ixN_nI (by omega), ixN_nI (by omega)]
theorem ix_tp {t p : Int32} (h1 : 0 ≤ t) (h2 : t ≤ 7) (h3 : 0 ≤ p) (h4 : p ≤ 3) : ixN (8 * t + 2 * p) = 8 * ixN t + 2 * ixN p := by
  obtain ⟨t', ht, rfl⟩ := natof 7 (by decide) h1 h2
  obtain ⟨p', hp, rfl⟩ := natof 3 (by decide) h3 h4
  rw [nI_spot2, ixN_nI (by omega), ixN_nI (by omega), ixN_nI (by omega)]
theorem t_le7 {t b : Int32} (h0 : 0 ≤ t) (h1 : t ≤ b - 1) (hb : b ≤ 8) (hb0 : 0 < b) : t ≤ 7 := by grind
theorem both_at (z : Rel h) {w t p a : Int32} : Both l G mX7_at mX8_at [vI w, vI t, vI p, vI a] h := by
  by_cases hw : 0 ≤ w ∧ w ≤ 5
  · refine query0 z (C_X7_at (z.c8 hw)) (C_X8_at (z.m8 hw)) ?_
    rw [z.w1 (z.t8 hw), z.w3 (z.t8 hw)]
    by_cases c : (((0 ≤ w ∧ w ≤ 5) ∧ 0 < h g_m_tenths 0 (ixN w)) ∧ (0 ≤ t ∧ t ≤ h g_m_tenths 0 (ixN w) - 1) ∧ 0 ≤ p ∧ p ≤ 3) ∧ 0 ≤ a ∧ a ≤ 1
    · rw [if_pos c, if_pos c, ix_tpa c.1.2.1.1 (t_le7 c.1.2.1.1 c.1.2.1.2 (z.m8 hw) c.1.1.2) c.1.2.2.1 c.1.2.2.2 c.2.1 c.2.2]
    · rw [if_neg c, if_neg c]
  · exact query0 z (C_at7b hw) (C_at8b hw) rfl
theorem both_place (z : Rel h) {w t p a : Int32} : Both l G mX7_place mX8_place [vI w, vI t, vI p, vI a] h := by
  by_cases hw : 0 ≤ w ∧ w ≤ 5
  · refine query0 z (C_X7_place z.wt) (C_X8_place (z.m8 hw)) ?_
    unfold isW
    rw [z.V, z.w1 (z.t8 hw), z.w3 (z.t8 hw)]
  · exact query0 z (C_X7_place z.wt) (C_place8b hw) (if_neg (fun y => hw y.1.1.1))
theorem both_near (z : Rel h) {w t p : Int32} : Both l G mX7_near mX8_near [vI w, vI t, vI p] h := by
  by_cases hw : 0 ≤ w ∧ w ≤ 5
  · refine query0 z (C_X7_near z.wt) (C_X8_near z.mk.1 z.mk.2.1 (z.m8 hw)) ?_
    unfold isW
    rw [z.V, z.w1 (z.t8 hw), z.w3 (z.t8 hw)]
  · exact query0 z (C_X7_near z.wt) (C_near8b hw) (if_neg (fun y => hw y.1.1))
theorem mN_ms {h h' : Hp} (m : MS h h') {k : Nat} : mN h' k = mN h k := by
  unfold mN
  rw [m g_m_numbers (by decide) (by decide)]
theorem both_high (z : Rel h) {w : Int32} : Both l G mX7_high mX8_high [vI w] h := by
  refine query z (C_X7_high z.wt) (fun h z => C_X8_high z.mk) ?_ ?_
  · by_cases c : isM h w
    · rw [if_pos (z.isW.mpr c), if_pos c, z.V, z.w1 (z.t8 c.1), z.w3 (z.t8 c.1)]
    · rw [if_neg (mt z.isW.mp c), if_neg c]
  · intro h' m; simp only [mN_ms m, isM, m g_m_tenths (by decide) (by decide), m g_m_holds (by decide) (by decide), m g_m_numbers (by decide) (by decide)]
theorem both_lowest (z : Rel h) {w : Int32} : Both l G mX7_lowest mX8_lowest [vI w] h := by
  refine query z (C_X7_lowest z.wt) (fun h z => C_X8_lowest z.mk) ?_ ?_
  · by_cases c : isM h w
    · rw [if_pos (z.isW.mpr c), if_pos c, z.V, z.w1 (z.t8 c.1), z.w3 (z.t8 c.1)]
    · rw [if_neg (mt z.isW.mp c), if_neg c]
  · intro h' m; simp only [mN_ms m, isM, m g_m_tenths (by decide) (by decide), m g_m_holds (by decide) (by decide), m g_m_numbers (by decide) (by decide)]
theorem both_under (z : Rel h) {w : Int32} : Both l G mX7_under mX8_under [vI w] h := by
  refine query z (C_X7_under z.wt) (fun h z => C_X8_under z.mk) ?_ ?_
  · by_cases c : isM h w
    · rw [if_pos (z.isW.mpr c), if_pos c, z.V, z.w1 (z.t8 c.1), z.w3 (z.t8 c.1)]
    · rw [if_neg (mt z.isW.mp c), if_neg c]
  · intro h' m; simp only [mN_ms m, isM, m g_m_tenths (by decide) (by decide), m g_m_holds (by decide) (by decide), m g_m_numbers (by decide) (by decide)]
theorem both_order (z : Rel h) {w : Int32} : Both l G mX7_order mX8_order [vI w] h := by
  refine query z (C_X7_order z.wt) (fun h z => C_X8_order z.mk) ?_ ?_
  · by_cases c : isM h w
    · rw [if_pos (z.isW.mpr c), if_pos c, z.V, z.w1 (z.t8 c.1), z.w3 (z.t8 c.1)]
    · rw [if_neg (mt z.isW.mp c), if_neg c]
  · intro h' m; simp only [mN_ms m, isM, m g_m_tenths (by decide) (by decide), m g_m_holds (by decide) (by decide), m g_m_numbers (by decide) (by decide)]
theorem both_barred (z : Rel h) {w : Int32} : Both l G mX7_barred mX8_barred [vI w] h := by
  refine query z (C_X7_barred z.wt) (fun h z => C_X8_barred z.mk) ?_ ?_
  · by_cases c : isM h w
    · rw [if_pos (z.isW.mpr c), if_pos c, z.V, z.w1 (z.t8 c.1), z.w2 (z.t8 c.1), z.w3 (z.t8 c.1)]
    · rw [if_neg (mt z.isW.mp c), if_neg c]
  · intro h' m; simp only [mN_ms m, isM, m g_m_tenths (by decide) (by decide), m g_m_feet (by decide) (by decide), m g_m_holds (by decide) (by decide), m g_m_numbers (by decide) (by decide)]
theorem both_worth (z : Rel h) {w c : Int32} : Both l G mX7_worth mX8_worth [vI w, vI c] h := by
  refine query z (C_X7_worth z.wt) (fun h z => C_X8_worth z.mk) ?_ ?_
  · by_cases c : isM h w
    · rw [if_pos (z.isW.mpr c), if_pos c, z.V, z.w1 (z.t8 c.1), z.w2 (z.t8 c.1), z.w3 (z.t8 c.1)]
    · rw [if_neg (mt z.isW.mp c), if_neg c]
  · intro h' m; simp only [mN_ms m, isM, m g_m_tenths (by decide) (by decide), m g_m_feet (by decide) (by decide), m g_m_holds (by decide) (by decide), m g_m_numbers (by decide) (by decide)]
theorem both_better (z : Rel h) {w : Int32} : Both l G mX7_better mX8_better [vI w] h := by
  refine query z (C_X7_better z.wt) (fun h z => C_X8_better z.mk) ?_ ?_
  · by_cases c : isM h w
    · rw [if_pos (z.isW.mpr c), if_pos c, z.V, z.w1 (z.t8 c.1), z.w2 (z.t8 c.1), z.w3 (z.t8 c.1)]
    · rw [if_neg (mt z.isW.mp c), if_neg c]
  · intro h' m; simp only [mN_ms m, isM, m g_m_tenths (by decide) (by decide), m g_m_feet (by decide) (by decide), m g_m_holds (by decide) (by decide), m g_m_numbers (by decide) (by decide)]
theorem both_around (z : Rel h) {w a : Int32} : Both l G mX7_around mX8_around [vI w, vI a] h := by
  refine query z (C_X7_around z.wt) (fun h z => C_X8_around z.mk) ?_ ?_
  · by_cases c : isM h w ∧ 0 ≤ a ∧ a ≤ 2
    · rw [if_pos (show isW h w ∧ 0 ≤ a ∧ a ≤ 2 from ⟨z.isW.mpr c.1, c.2⟩), if_pos c, z.V, z.w1 (z.t8 c.1.1), z.w2 (z.t8 c.1.1), z.w3 (z.t8 c.1.1)]
    · rw [if_neg (show ¬ (isW h w ∧ 0 ≤ a ∧ a ≤ 2) from fun y => c ⟨z.isW.mp y.1, y.2⟩), if_neg c]
  · intro h' m; simp only [mN_ms m, isM, m g_m_tenths (by decide) (by decide), m g_m_feet (by decide) (by decide), m g_m_holds (by decide) (by decide), m g_m_numbers (by decide) (by decide)]
theorem both_odds (z : Rel h) {w bar d tr a : Int32} : Both l G mX7_odds mX8_odds [vI w, vI bar, vI d, vI tr, vI a] h := by
  refine query z (C_X7_odds z.wt) (fun h z => C_X8_odds z.mk) ?_ ?_
  · by_cases c : okOddM h w bar d tr a
    · rw [if_pos (show okOdds h w bar d tr a from ⟨z.isW.mpr c.1, c.2⟩), if_pos c, z.V, z.w1 (z.t8 c.1.1), z.w3 (z.t8 c.1.1)]
    · rw [if_neg (show ¬ okOdds h w bar d tr a from fun y => c ⟨z.isW.mp y.1, y.2⟩), if_neg c]
  · intro h' m; simp only [mN_ms m, okOddM, isM, m g_m_tenths (by decide) (by decide), m g_m_holds (by decide) (by decide), m g_m_numbers (by decide) (by decide)]
theorem both_asks (z : Rel h) {w d a b : Int32} : Both l G mX7_asks mX8_asks [vI w, vI d, vI a, vI b] h := by
  refine query z (C_X7_asks z.wt) (fun h z => C_X8_asks z.mk) ?_ ?_
  · by_cases c : okAskM h w d a b
    · rw [if_pos (show okAsks h w d a b from ⟨z.isW.mpr c.1, c.2⟩), if_pos c, z.V, z.w1 (z.t8 c.1.1), z.w3 (z.t8 c.1.1)]
    · rw [if_neg (show ¬ okAsks h w d a b from fun y => c ⟨z.isW.mp y.1, y.2⟩), if_neg c]
  · intro h' m; simp only [mN_ms m, okAskM, isM, m g_m_tenths (by decide) (by decide), m g_m_holds (by decide) (by decide), m g_m_numbers (by decide) (by decide)]
theorem mv_ms {h h' : Hp} (m : MS h h') : mv h' = mv h := by
  funext k
  unfold mv
  simp only [mN_ms m, m g_m_tenths (by decide) (by decide), m g_m_feet (by decide) (by decide), m g_m_holds (by decide) (by decide), m g_m_numbers (by decide) (by decide)]
theorem both_best (z : Rel h) {a : Int32} : Both l G mX7_best mX8_best [vI a] h :=
  query z (C_X7_best z.wt) (fun h z => C_X8_best z.mk) (sBest_congr (rel_wv z)) (fun h' m => by rw [mv_ms m])
theorem both_suits (z : Rel h) {p v : Int32} : Both l G mX7_suits mX8_suits [vI p, vI v] h := by
  refine query z (C_X7_suits z.wt) (fun h z => C_X8_suits z.mk) ?_ ?_
  · rw [bstF_congr 6 (rel_wvP z)]
  · intro h' m
    have e : mvP h' (ixN p) v = mvP h (ixN p) v := by
      funext k
      unfold mvP
      simp only [mN_ms m, m g_m_tenths (by decide) (by decide), m g_m_feet (by decide) (by decide), m g_m_holds (by decide) (by decide), m g_m_numbers (by decide) (by decide)]
    rw [e]
end
