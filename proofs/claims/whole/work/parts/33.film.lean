/-! the class: film -/
abbrev rdOk (Z t : Nat) (f : Int32) : Prop := (0 ≤ f ∧ f ≤ nI Z - 1) ∧ ixN f + 8 * (t + 1) ≤ Z
def rdH (h : Hp) (k t : Nat) (f : Int32) (i : Nat) : Hp := hsetA h g_nums 6 (fun j => if 8 * t ≤ j ∧ j < 8 * t + i then h g_cells k (ixN f + j) else h g_nums 6 j)
theorem rdH_0 (h : Hp) (k t : Nat) (f : Int32) : rdH h k t f 0 = h := by
  unfold rdH
  rw [show (fun j => if 8 * t ≤ j ∧ j < 8 * t + 0 then h g_cells k (ixN f + j) else h g_nums 6 j) = h g_nums 6 from by funext j; rw [if_neg (by omega)]]
  exact hsetA_self h g_nums 6
theorem rdH_s (h : Hp) (k t : Nat) (f : Int32) (i : Nat) : hset (rdH h k t f i) g_nums 6 (8 * t + i) (h g_cells k (ixN f + (8 * t + i))) = rdH h k t f (i + 1) := by
  unfold rdH
  rw [hset_hsetA]
  congr 1
  funext j
  unfold upd
  show (if j = 8 * t + i then h g_cells k (ixN f + (8 * t + i)) else if 8 * t ≤ j ∧ j < 8 * t + i then h g_cells k (ixN f + j) else h g_nums 6 j) = if 8 * t ≤ j ∧ j < 8 * t + (i + 1) then h g_cells k (ixN f + j) else h g_nums 6 j
  by_cases h1 : j = 8 * t + i
  · rw [if_pos h1, if_pos (by omega), h1]
  · by_cases h2 : 8 * t ≤ j ∧ j < 8 * t + i
    · rw [if_neg h1, if_pos h2, if_pos (by omega)]
    · rw [if_neg h1, if_neg h2, if_neg (by omega)]
theorem rdH_t {h : Hp} {k t : Nat} {f : Int32} {i a : Nat} (ha : a ≠ g_nums) : rdH h k t f i a = h a := hsetA_t ha
theorem zsub {Z : Nat} {f : Int32} (h : 0 ≤ f ∧ f ≤ nI Z - 1) (hZ : Z ≤ 64) : ∃ f', f' < Z ∧ f = nI f' := by
  have hC0 : 0 < Z := Nat.pos_of_ne_zero (fun z => by rw [z] at h; exact absurd (Int32.le_trans h.1 h.2) (by decide))
  rw [show (1 : Int32) = nI 1 from rfl, pk_sub hC0] at h
  obtain ⟨j, hj, e⟩ := natof (x := f) (Z - 1) (by omega) h.1 h.2
  exact ⟨j, by omega, e⟩
set_option maxHeartbeats 1600000 in
theorem C_X4_readTenth {l : Launch} {G : GE} {h : Hp} {k t Z : Nat} {f : Int32} (hZ : h g_sheet k 1 = nI Z) (hZ64 : Z ≤ 64) (ht : t ≤ 7) : CT l G mX4_readTenth [vR g_sheet k, vI f, vI (nI t), vR g_nums 6] h (fun r h' => r = some (if rdOk Z t f then 0 else 2) ∧ h' = if rdOk Z t f then rdH h k t f 8 else h) := by
  refine CT.of (lv := [_, _, _, _, _]) (by decide +kernel) (Nat.le_of_ble_eq_true rfl) rfl ?_
  refine E_aload_n (pc := 0) 0 dX4_readTenth_0 rfl rfl ?_
  refine E_iload_n (pc := 1) 1 dX4_readTenth_1 rfl rfl ?_
  refine E_callV1 (pc := 2) dX4_readTenth_2 C_X4_hasCell rfl kv_RX4_30 rfl rfl rfl ⟨Nat.le_of_ble_eq_true rfl, Nat.le_of_ble_eq_true rfl, Nat.le_of_ble_eq_true rfl, Nat.le_of_ble_eq_true rfl⟩ (Nat.le_of_ble_eq_true rfl) ?_
  refine E_top (y := bi (0 ≤ f ∧ f ≤ nI Z - 1)) (by rw [hZ]) ?_
  refine E_if_eq (pc := 5) 25 dX4_readTenth_5 rfl (fun q5 => ?_) (fun q5 => ?_)
  · refine E_iconst (pc := 25) (2) dX4_readTenth_25 (by decide) ?_
    refine E_iret (pc := 26) dX4_readTenth_26 rfl ?_
    first | exact ⟨by rw [if_neg (fun z => bi_0.mp q5 z.1)], by rw [if_neg (fun z => bi_0.mp q5 z.1)]⟩ | exact ⟨by rw [if_neg h2], by rw [if_neg h2]⟩
  · have h1 : 0 ≤ f ∧ f ≤ nI Z - 1 := Decidable.of_not_not (fun z => q5 (bi_0.mpr z))
    obtain ⟨f', hf', rfl⟩ := zsub h1 hZ64
    have ei : ixN (nI f') = f' := ixN_nI (by omega)
    refine E_aload_n (pc := 8) 0 dX4_readTenth_8 rfl rfl ?_
    refine E_iload_n (pc := 9) 1 dX4_readTenth_9 rfl rfl ?_
    refine E_bipush (pc := 10) (8) dX4_readTenth_10 (by decide) ?_
    refine E_iload_n (pc := 12) 2 dX4_readTenth_12 rfl rfl ?_
    refine E_iconst (pc := 13) (1) dX4_readTenth_13 (by decide) ?_
    refine E_iadd (pc := 14) dX4_readTenth_14 ?_
    refine E_imul (pc := 15) dX4_readTenth_15 ?_
    refine E_iadd (pc := 16) dX4_readTenth_16 ?_
    refine E_iconst (pc := 17) (1) dX4_readTenth_17 (by decide) ?_
    refine E_isub (pc := 18) dX4_readTenth_18 ?_
    refine E_eq (st' := [vI (nI (f' + 8 * (t + 1) - 1)), vR g_sheet k]) rfl (by rw [← nI_succ, show (8 : Int32) = nI 8 from rfl, show (1 : Int32) = nI 1 from rfl, pk_mul, nI_add, pk_sub (by omega)]) rfl ?_
    refine E_callV1 (pc := 19) dX4_readTenth_19 C_X4_hasCell rfl kv_RX4_30 rfl rfl rfl ⟨Nat.le_of_ble_eq_true rfl, Nat.le_of_ble_eq_true rfl, Nat.le_of_ble_eq_true rfl, Nat.le_of_ble_eq_true rfl⟩ (Nat.le_of_ble_eq_true rfl) ?_
    refine E_top (y := bi (0 ≤ nI (f' + 8 * (t + 1) - 1) ∧ nI (f' + 8 * (t + 1) - 1) ≤ nI Z - 1)) (by rw [hZ]) ?_
    refine E_if_ne (pc := 22) 27 dX4_readTenth_22 rfl (fun q22 => ?_) (fun q22 => ?_)
    · have h2 : rdOk Z t (nI f') := ⟨h1, by
        have h3 := Decidable.of_not_not (fun z => q22 (bi_0.mpr z))
        rw [show (1 : Int32) = nI 1 from rfl, pk_sub (by omega)] at h3
        have := (nI_leI (by omega) (by omega)).mp h3.2
        rw [ei]; omega⟩
      refine E_bipush (pc := 27) (8) dX4_readTenth_27 (by decide) ?_
      refine E_iload_n (pc := 29) 2 dX4_readTenth_29 rfl rfl ?_
      refine E_imul (pc := 30) dX4_readTenth_30 ?_
      refine E_top (y := nI (8 * t)) (by rw [show (8 : Int32) = nI 8 from rfl, pk_mul]) ?_
      refine E_istore (pc := 31) 4 dX4_readTenth_31 (Nat.le_of_ble_eq_true rfl) rfl (lz := [_, _, _, _, _]) rfl ?_
      have h9 := h2.2
      rw [ei] at h9
      refine E_heq (rdH_0 h k t (nI f')).symm ?_
      refine down (P := fun i => Ev l G mX4_readTenth _ 33 [some (vR g_sheet k), some (vI (nI f')), some (vI (nI t)), some (vR g_nums 6), some (vI (nI (8 * t + i)))] [] (rdH h k t (nI f') i)) 8 ?_ ?_ 0 (Nat.zero_le _)
      · refine E_iload (pc := 33) 4 dX4_readTenth_33 rfl ?_
        refine E_bipush (pc := 35) (8) dX4_readTenth_35 (by decide) ?_
        refine E_iload_n (pc := 37) 2 dX4_readTenth_37 rfl rfl ?_
        refine E_iconst (pc := 38) (1) dX4_readTenth_38 (by decide) ?_
        refine E_iadd (pc := 39) dX4_readTenth_39 ?_
        refine E_imul (pc := 40) dX4_readTenth_40 ?_
        refine E_top (y := nI (8 * t + 8)) (by rw [← nI_succ, show (8 : Int32) = nI 8 from rfl, pk_mul]; rfl) ?_
        refine E_icmp_ge (pc := 41) 63 dX4_readTenth_41 rfl (fun q41 => ?_) (fun q41 => absurd (Int32.le_refl _) q41)
        refine E_iconst (pc := 63) (0) dX4_readTenth_63 (by decide) ?_
        refine E_iret (pc := 64) dX4_readTenth_64 rfl ?_
        exact ⟨by rw [if_pos h2], by rw [if_pos h2]⟩
      · intro i hi hn
        refine E_iload (pc := 33) 4 dX4_readTenth_33 rfl ?_
        refine E_bipush (pc := 35) (8) dX4_readTenth_35 (by decide) ?_
        refine E_iload_n (pc := 37) 2 dX4_readTenth_37 rfl rfl ?_
        refine E_iconst (pc := 38) (1) dX4_readTenth_38 (by decide) ?_
        refine E_iadd (pc := 39) dX4_readTenth_39 ?_
        refine E_imul (pc := 40) dX4_readTenth_40 ?_
        refine E_top (y := nI (8 * t + 8)) (by rw [← nI_succ, show (8 : Int32) = nI 8 from rfl, pk_mul]; rfl) ?_
        refine E_icmp_ge (pc := 41) 63 dX4_readTenth_41 rfl (fun q41 => absurd q41 (nI_ge (by omega) (by omega))) (fun q41 => ?_)
        refine E_aload_n (pc := 44) 3 dX4_readTenth_44 rfl rfl ?_
        refine E_iload (pc := 45) 4 dX4_readTenth_45 rfl ?_
        refine E_aload_n (pc := 47) 0 dX4_readTenth_47 rfl rfl ?_
        refine E_getR0 (pc := 48) dX4_readTenth_48 fl_RX4_13 rfl rfl ?_
        refine E_iload_n (pc := 51) 1 dX4_readTenth_51 rfl rfl ?_
        refine E_iload (pc := 52) 4 dX4_readTenth_52 rfl ?_
        refine E_iadd (pc := 54) dX4_readTenth_54 ?_
        refine E_eq (st' := [vI (nI (f' + (8 * t + i))), vR g_cells k, vI (nI (8 * t + i)), vR g_nums 6]) rfl (by rw [nI_add]) rfl ?_
        refine E_iald (pc := 55) dX4_readTenth_55 rfl (vp_in_nI (by omega) (by decide)) ?_
        refine E_top (y := h g_cells k (ixN (nI f') + (8 * t + i))) (by rw [ixN_nI (by omega), ei, rdH_t (by decide)]) ?_
        refine E_iast (pc := 56) dX4_readTenth_56 rfl (vp_in_nI (by omega) (by decide)) ?_
        refine E_iincN (pc := 57) 4 dX4_readTenth_57 (Nat.le_of_ble_eq_true rfl) rfl rfl (lz := [_, _, _, _, _]) rfl ?_
        refine E_goto (pc := 60) 33 dX4_readTenth_60 rfl ?_
        exact E_heq (by rw [ixN_nI (by omega)]; exact rdH_s h k t (nI f') i) hn
    · have h2 : ¬ rdOk Z t (nI f') := fun z => bi_0.mp q22 ⟨nI_pos' (by omega), by rw [show (1 : Int32) = nI 1 from rfl, pk_sub (by omega)]; exact nI_le (by have := z.2; rw [ei] at this; omega) (by omega)⟩
      refine E_iconst (pc := 25) (2) dX4_readTenth_25 (by decide) ?_
      refine E_iret (pc := 26) dX4_readTenth_26 rfl ?_
      first | exact ⟨by rw [if_neg (fun z => bi_0.mp q5 z.1)], by rw [if_neg (fun z => bi_0.mp q5 z.1)]⟩ | exact ⟨by rw [if_neg h2], by rw [if_neg h2]⟩
/-- how far the film goes: 0 all of it, 1 a cell is wanting, 2 a tenth is out of bounds -/
def flF (ok inb : Nat → Prop) [DecidablePred ok] [DecidablePred inb] : Nat → Nat → Nat × Nat
  | 0, c => (0, c)
  | n + 1, c => if ok c then (if inb c then flF ok inb n (c + 1) else (2, c)) else (1, c)
theorem flF_le (ok inb : Nat → Prop) [DecidablePred ok] [DecidablePred inb] : ∀ n c, (flF ok inb n c).2 ≤ c + n ∧ c ≤ (flF ok inb n c).2
  | 0, c => ⟨Nat.le_refl c, Nat.le_refl c⟩
  | n + 1, c => by
    unfold flF
    by_cases h1 : ok c
    · rw [if_pos h1]
      by_cases h2 : inb c
      · rw [if_pos h2]; have := flF_le ok inb n (c + 1); omega
      · rw [if_neg h2]; exact ⟨by show c ≤ c + (n + 1); omega, Nat.le_refl c⟩
    · rw [if_neg h1]; exact ⟨by show c ≤ c + (n + 1); omega, Nat.le_refl c⟩
abbrev inC (g : Nat → Int32) (f c : Nat) : Prop := ¬ ∃ i, i < 8 ∧ ¬ okN (g (f + 8 * c + i))
abbrev okFilm (w k lane n on : Int32) : Prop := (0 ≤ w ∧ w ≤ 5) ∧ (0 ≤ k ∧ k ≤ 3) ∧ (0 ≤ lane ∧ lane ≤ 2) ∧ (2 ≤ n ∧ n ≤ 8) ∧ 1 ≤ on ∧ on ≤ 2
def fdA (h : Hp) (k : Nat) (lane : Int32) : Int32 := if h g_sheet k 0 = -1 then 1 else if h g_sheet k 0 = lane then 0 else 3
def flmA (h : Hp) (k Z : Nat) (f : Int32) (n : Nat) : Nat × Nat := flF (fun c => rdOk Z c f) (fun c => inC (h g_cells k) (ixN f) c) n 0
/-- all is kept but what is torn -/
def KpT (h h' : Hp) : Prop := ∀ a b, ess a b → a ≠ g_oab → h' a b = h a b
/-- and one way -/
def KpF (h h' : Hp) (k : Nat) : Prop := ∀ a b, ess a b → a ≠ g_oab → ¬ (a = g_nums ∧ b = k) → ¬ (a = g_way ∧ b = k) → h' a b = h a b
def QFilm (h : Hp) (Z : Nat) (w k lane f n on : Int32) : QT := fun r h' =>
  if okFilm w k lane n on then
    if fdA h (ixN k) lane = 0 then
      if (flmA h (ixN k) Z f (ixN n)).1 = 2 then r = some (-20 - nI (flmA h (ixN k) Z f (ixN n)).2) ∧ Kp h h'
      else h' g_oab 0 9 = (if (flmA h (ixN k) Z f (ixN n)).1 = 0 then 0 else 2) ∧
        if (flmA h (ixN k) Z f (ixN n)).2 < 2 then r = some 0 ∧ KpT h h'
        else r = some (nI (flmA h (ixN k) Z f (ixN n)).2) ∧ h' g_way (ixN w) 1 = nI (flmA h (ixN k) Z f (ixN n)).2 ∧ h' g_way (ixN w) 2 = on ∧ (∀ j, j < 64 → h' g_nums (ixN w) j = if j < 8 * (flmA h (ixN k) Z f (ixN n)).2 then h g_cells (ixN k) (ixN f + j) else 0) ∧ KpF h h' (ixN w)
    else r = some 0 ∧ h' g_oab 0 9 = fdA h (ixN k) lane ∧ KpT h h'
  else r = some (-1) ∧ h' = h
