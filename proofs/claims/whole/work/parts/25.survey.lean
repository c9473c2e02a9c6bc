/-! the judge: changes looked at one by one -/
def chN (N : Nat → Int32) (c : Nat) : Nat → Int32 := upd N (c / 2) (N (c / 2) + stp c)
/-- what a look may change: the judge's rows, no more -/
def SmJ (h h' : Hp) : Prop := ∀ a, noJ a → h' a = h a
theorem hset_nums (h : Hp) (k i : Nat) (v : Int32) : hset h g_nums k i v g_nums k = upd (h g_nums k) i v := hset_arr h g_nums k i v
theorem upd_same (f : Nat → Int32) (i : Nat) (v w : Int32) : upd (upd f i v) i w = upd f i w := by
  funext j
  unfold upd
  by_cases e : j = i
  · rw [if_pos e, if_pos e]
  · rw [if_neg e, if_neg e, if_neg e]
theorem upd_self (f : Nat → Int32) (i : Nat) : upd f i (f i) = f := by
  funext j
  unfold upd
  by_cases e : j = i
  · rw [if_pos e, e]
  · rw [if_neg e]
theorem upd_at (f : Nat → Int32) (i : Nat) (v : Int32) : upd f i v i = v := if_pos rfl
theorem upd_ne {f : Nat → Int32} {i j : Nat} {v : Int32} (h : j ≠ i) : upd f i v j = f j := if_neg h
theorem div16 {c : Nat} (hc : c < 128) : nI c / 16 = nI (c / 16) := pk_div (d := 16) (by omega) (by decide) (by decide)
theorem div8 {c : Nat} (hc : c < 64) : nI c / 8 = nI (c / 8) := pk_div (d := 8) (by omega) (by decide) (by decide)
set_option maxHeartbeats 1600000 in
theorem C_X0_valueWith {l : Launch} {G : GE} {h : Hp} {k T c : Nat} {F : Int32} (hT : h g_way k 1 = nI T) (hF : h g_way k 2 = F) (hT1 : 1 ≤ T) (hT8 : T ≤ 8) (hc : c < 128) (hM : MsO h (h g_values 0) (h g_nums k) T (c / 16)) : CT l G mX0_valueWith [vR g_judge 0, vR g_way k, vI (nI c)] h (fun r h' => r = some (sWorth (h g_values 0) (chN (h g_nums k) c) T F) ∧ SmJ h h' ∧ MsO h' (h g_values 0) (h g_nums k) T (c / 16)) := by
  refine CT.of (lv := [_, _, _, _]) (by decide +kernel) (Nat.le_of_ble_eq_true rfl) rfl ?_
  have en : hset h g_nums k (c / 2) (h g_nums k (c / 2) + stp c) g_nums k = chN (h g_nums k) c := hset_nums _ _ _ _
  have ev : hset h g_nums k (c / 2) (h g_nums k (c / 2) + stp c) g_values = h g_values := hset_t (by decide)
  have ew : hset h g_nums k (c / 2) (h g_nums k (c / 2) + stp c) g_way = h g_way := hset_t (by decide)
  have hM1 : MsO (hset h g_nums k (c / 2) (h g_nums k (c / 2) + stp c)) (h g_values 0) (chN (h g_nums k) c) T (c / 16) := (hM.same (hset_t (by decide)) (hset_t (by decide)) (hset_t (by decide)) (hset_t (by decide)) (hset_t (by decide))).congr (fun j hj => (upd_ne (by omega)).symm)
  have hA : Ms (mT (hset h g_nums k (c / 2) (h g_nums k (c / 2) + stp c)) k T (c / 16)) (h g_values 0) (chN (h g_nums k) c) T := by
    have := MsO.all (h := hset h g_nums k (c / 2) (h g_nums k (c / 2) + stp c)) (k := k) (T := T) (t := c / 16) (by rw [en, ev]; exact hM1)
    rw [en, ev] at this
    exact this
  refine E_aload_n (pc := 0) 1 dX0_valueWith_0 rfl rfl ?_
  refine E_iload_n (pc := 1) 2 dX0_valueWith_1 rfl rfl ?_
  refine E_callV0 (pc := 2) dX0_valueWith_2 (C_X6_change hc) rfl kv_RX0_131 rfl rfl rfl ⟨Nat.le_of_ble_eq_true rfl, Nat.le_of_ble_eq_true rfl, Nat.le_of_ble_eq_true rfl, Nat.le_of_ble_eq_true rfl⟩ (Nat.le_of_ble_eq_true rfl) ?_
  refine E_aload_n (pc := 5) 0 dX0_valueWith_5 rfl rfl ?_
  refine E_aload_n (pc := 6) 1 dX0_valueWith_6 rfl rfl ?_
  refine E_iload_n (pc := 7) 2 dX0_valueWith_7 rfl rfl ?_
  refine E_bipush (pc := 8) (16) dX0_valueWith_8 (by decide) ?_
  refine E_idiv (pc := 10) dX0_valueWith_10 (by decide) ?_
  refine E_eq (st' := [vI (nI (c / 16)), vR g_way k, vR g_judge 0]) rfl (by rw [div16 hc]) rfl ?_
  refine E_callV0 (pc := 11) dX0_valueWith_11 (C_X0_measureTenth (T := T) (by rw [ew]; exact hT) hT8 (by omega)) rfl kv_RX0_73 rfl rfl rfl ⟨Nat.le_of_ble_eq_true rfl, Nat.le_of_ble_eq_true rfl, Nat.le_of_ble_eq_true rfl, Nat.le_of_ble_eq_true rfl⟩ (Nat.le_of_ble_eq_true rfl) ?_
  refine E_aload_n (pc := 14) 0 dX0_valueWith_14 rfl rfl ?_
  refine E_aload_n (pc := 15) 1 dX0_valueWith_15 rfl rfl ?_
  refine E_callV1 (pc := 16) dX0_valueWith_16 (C_X0_value (T := T) (by rw [mT_t (by decide), ew]; exact hT) hT1 hT8) rfl kv_RX0_135 rfl rfl rfl ⟨Nat.le_of_ble_eq_true rfl, Nat.le_of_ble_eq_true rfl, Nat.le_of_ble_eq_true rfl, Nat.le_of_ble_eq_true rfl⟩ (Nat.le_of_ble_eq_true rfl) ?_
  refine E_top (y := sWorth (h g_values 0) (chN (h g_nums k) c) T F) (by rw [mT_t (a := g_values) (by decide), mT_t (a := g_nums) (by decide), mT_t (a := g_way) (by decide), en, ev, ew, hF]; exact hA.worth hT1 hT8) ?_
  refine E_istore_n (pc := 19) 3 dX0_valueWith_19 rfl (Nat.le_of_ble_eq_true rfl) rfl (lz := [_, _, _, _]) rfl ?_
  refine E_aload_n (pc := 20) 1 dX0_valueWith_20 rfl rfl ?_
  refine E_iload_n (pc := 21) 2 dX0_valueWith_21 rfl rfl ?_
  refine E_callV0 (pc := 22) dX0_valueWith_22 (C_X6_changeBack hc) rfl kv_RX0_138 rfl rfl rfl ⟨Nat.le_of_ble_eq_true rfl, Nat.le_of_ble_eq_true rfl, Nat.le_of_ble_eq_true rfl, Nat.le_of_ble_eq_true rfl⟩ (Nat.le_of_ble_eq_true rfl) ?_
  refine E_iload_n (pc := 25) 3 dX0_valueWith_25 rfl rfl ?_
  refine E_iret (pc := 26) dX0_valueWith_26 rfl ?_
  refine ⟨rfl, ?_, ?_⟩
  · intro a ha
    by_cases e : a = g_nums
    · subst e
      rw [mT_t (by decide), en]
      funext b
      by_cases eb : b = k
      · subst eb
        rw [hset_nums, mT_t (by decide), en]
        unfold chN
        rw [upd_same, upd_at, Int32.add_sub_cancel, upd_self]
      · rw [hset_other (fun z => eb (congrArg Prod.snd z)), mT_t (by decide), hset_other (fun z => eb (congrArg Prod.snd z))]
    · rw [hset_t e, mT_t ha, hset_t e]
  · have h9 := (hM.same (h' := hset h g_nums k (c / 2) (h g_nums k (c / 2) + stp c)) (hset_t (by decide)) (hset_t (by decide)) (hset_t (by decide)) (hset_t (by decide)) (hset_t (by decide))).after (k := k)
    exact h9.same (hset_t (by decide)) (hset_t (by decide)) (hset_t (by decide)) (hset_t (by decide)) (hset_t (by decide))
