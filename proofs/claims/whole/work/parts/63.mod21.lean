/-! the model: film -/
abbrev mC (h : Hp) (k : Nat) : Nat → Int32 := fun i => h g_m_cells 0 (64 * k + i)
def fdM (h : Hp) (k : Nat) (lane : Int32) : Int32 := if h g_m_lanes 0 k = -4 then 1 else if h g_m_lanes 0 k = lane then 0 else 3
def flmM (h : Hp) (k Z : Nat) (f : Int32) (n : Nat) : Nat × Nat := flF (fun c => rdOk Z c f) (fun c => inC (mC h k) (ixN f) c) n 0
def fmH (h : Hp) (w k F : Nat) (on b : Int32) (c i : Nat) : Hp := fed (fun j => mC h k (F + j)) (hset (hset (fed (fun _ => 0) (hset h g_model 0 29 b) g_m_numbers (64 * w) 64) g_m_tenths 0 w (nI c)) g_m_feet 0 w on) g_m_numbers (64 * w) i
theorem fmH_o {h : Hp} {w k F : Nat} {on b : Int32} {c i a : Nat} (h1 : a ≠ g_m_numbers) (h2 : a ≠ g_m_tenths) (h3 : a ≠ g_m_feet) (h4 : a ≠ g_model) : fmH h w k F on b c i a = h a := by
  unfold fmH
  rw [fed_a h1, hset_o2 h3, hset_o2 h2, fed_a h1, hset_o2 h4]
def QFilmM (h : Hp) (Z : Nat) (w k lane f n on : Int32) : QT := fun r h' =>
  if okFilm w k lane n on then
    if fdM h (ixN k) lane = 0 then
      if (flmM h (ixN k) Z f (ixN n)).1 = 2 then r = some (-20 - nI (flmM h (ixN k) Z f (ixN n)).2) ∧ h' = h
      else if (flmM h (ixN k) Z f (ixN n)).2 < 2 then r = some 0 ∧ h' = hset h g_model 0 29 (if (flmM h (ixN k) Z f (ixN n)).1 = 0 then 0 else 2)
        else r = some (nI (flmM h (ixN k) Z f (ixN n)).2) ∧ h' = fmH h (ixN w) (ixN k) (ixN f) on (if (flmM h (ixN k) Z f (ixN n)).1 = 0 then 0 else 2) (flmM h (ixN k) Z f (ixN n)).2 (8 * (flmM h (ixN k) Z f (ixN n)).2)
    else r = some 0 ∧ h' = hset h g_model 0 29 (fdM h (ixN k) lane)
  else r = some (-1) ∧ h' = h
theorem l_add {a b : Nat} (h : a + b < 2 ^ 31) : (nI a).toInt64 + (nI b).toInt64 = (nI (a + b)).toInt64 := by
  rw [← Int64.toInt_inj, Int64.toInt_add, Int32.toInt_toInt64, Int32.toInt_toInt64, Int32.toInt_toInt64, nI_toInt (by omega), nI_toInt (by omega), nI_toInt h]
  rw [Int.bmod_eq_of_le (by omega) (by omega)]
  omega
theorem l_add0 (f : Int32) : f.toInt64 + (nI 0).toInt64 = f.toInt64 := by
  rw [show (nI 0).toInt64 = 0 by decide, Int64.add_zero]
theorem nI_8r {c e : Nat} (hc : c < 8) (he : e < 8) : nI (8 * c + e) - nI (8 * c + e) / 8 * 8 = nI e := by
  have := nI_rem (a := 8 * c + e) (b := 8) (by omega) (by decide) (by decide)
  rw [show (8 : Int32) = nI 8 from rfl, this]
  congr 1
  omega
theorem nI_8d {c e : Nat} (hc : c < 8) (he : e < 8) : nI (8 * c + e) / 8 = nI c := by
  have := pk_div (a := 8 * c + e) (d := 8) (by omega) (by decide) (by decide)
  rw [show (8 : Int32) = nI 8 from rfl, this]
  congr 1
  omega
set_option maxHeartbeats 1600000 in
/-- the end of film: what is torn, and the way if two tenths came -/
theorem film_tail {l : Launch} {G : GE} {h : Hp} {Q : QT} {w k n c : Nat} {lane f on b x y : Int32} (hw : w ≤ 5) (hk : k ≤ 3) (hc : c ≤ 8) (hf : 2 ≤ c → ∃ F, f = nI F ∧ F + 8 * c ≤ 64) (h1 : c < 2 → Q (some 0) (hset h g_model 0 29 b)) (h2 : 2 ≤ c → Q (some (nI c)) (fmH h w k (ixN f) on b c (8 * c))) : Ev l G mX8_film (fkM G mX8_film Q) 225 [some (vR g_model 0), some (vI (nI w)), some (vI (nI k)), some (vI lane), some (vI f), some (vI (nI n)), some (vI on), some (vI b), some (vI (nI c)), some (vI x), some (vI y)] [] h := by
  refine E_aload_n (pc := 225) 0 dX8_film_225 rfl rfl ?_
  refine E_iload (pc := 226) 7 dX8_film_226 rfl ?_
  refine E_put (pc := 228) dX8_film_228 fp_RX8_273 rfl rfl ?_
  refine E_iload (pc := 231) 8 dX8_film_231 rfl ?_
  refine E_iconst (pc := 233) (2) dX8_film_233 (by decide) ?_
  refine E_icmp_ge (pc := 234) 239 dX8_film_234 rfl (fun q234 => ?_) (fun q234 => ?_)
  · have hq : 2 ≤ c := (nI_leI (a := 2) (b := c) (by decide) (by omega)).mp q234
    refine E_aload_n (pc := 239) 0 dX8_film_239 rfl rfl ?_
    refine E_iload_n (pc := 240) 1 dX8_film_240 rfl rfl ?_
    refine E_callV0 (pc := 241) dX8_film_241 (C_X8_clear hw) rfl kv_RX8_148 rfl rfl rfl ⟨Nat.le_of_ble_eq_true rfl, Nat.le_of_ble_eq_true rfl, Nat.le_of_ble_eq_true rfl, Nat.le_of_ble_eq_true rfl⟩ (Nat.le_of_ble_eq_true rfl) ?_
    refine E_aload_n (pc := 244) 0 dX8_film_244 rfl rfl ?_
    refine E_getR0 (pc := 245) dX8_film_245 fl_RX8_37 rfl rfl ?_
    refine E_iload_n (pc := 248) 1 dX8_film_248 rfl rfl ?_
    refine E_iload (pc := 249) 8 dX8_film_249 rfl ?_
    refine E_iast (pc := 251) dX8_film_251 rfl (vp_in_nI (by omega) (by decide)) ?_
    refine E_aload_n (pc := 252) 0 dX8_film_252 rfl rfl ?_
    refine E_getR0 (pc := 253) dX8_film_253 fl_RX8_40 rfl rfl ?_
    refine E_iload_n (pc := 256) 1 dX8_film_256 rfl rfl ?_
    refine E_iload (pc := 257) 6 dX8_film_257 rfl ?_
    refine E_iast (pc := 259) dX8_film_259 rfl (vp_in_nI (by omega) (by decide)) ?_
    refine E_iconst (pc := 260) (0) dX8_film_260 (by decide) ?_
    refine E_istore (pc := 261) 10 dX8_film_261 (Nat.le_of_ble_eq_true rfl) rfl (lz := [_, _, _, _, _, _, _, _, _, _, _]) rfl ?_
    obtain ⟨F, ef, hF⟩ := hf hq
    subst ef
    rw [ixN_nI (show F < 2 ^ 31 by omega)] at h2
    refine E_heq (h' := fmH h w k F on b c 0) (by rw [ixN_nI (show w < 2 ^ 31 by omega)]; exact (fed_0 _ _ _ _).symm) ?_
    refine down (P := fun i => Ev l G mX8_film _ 263 [some (vR g_model 0), some (vI (nI w)), some (vI (nI k)), some (vI lane), some (vI (nI F)), some (vI (nI n)), some (vI on), some (vI b), some (vI (nI c)), some (vI x), some (vI (nI i))] [] (fmH h w k F on b c i)) (8 * c) ?_ ?_ 0 (Nat.zero_le _)
    · refine E_iload (pc := 263) 10 dX8_film_263 rfl ?_
      refine E_bipush (pc := 265) (8) dX8_film_265 (by decide) ?_
      refine E_iload (pc := 267) 8 dX8_film_267 rfl ?_
      refine E_imul (pc := 269) dX8_film_269 ?_
      refine E_top (y := nI (8 * c)) (by rw [show (8 : Int32) = nI 8 from rfl, pk_mul]) ?_
      refine E_icmp_ge (pc := 270) 306 dX8_film_270 rfl (fun q270 => ?_) (fun q270 => absurd (Int32.le_refl _) q270)
      refine E_iload (pc := 306) 8 dX8_film_306 rfl ?_
      refine E_iret (pc := 308) dX8_film_308 rfl ?_
      exact h2 hq
    · intro i hi hn
      refine E_iload (pc := 263) 10 dX8_film_263 rfl ?_
      refine E_bipush (pc := 265) (8) dX8_film_265 (by decide) ?_
      refine E_iload (pc := 267) 8 dX8_film_267 rfl ?_
      refine E_imul (pc := 269) dX8_film_269 ?_
      refine E_top (y := nI (8 * c)) (by rw [show (8 : Int32) = nI 8 from rfl, pk_mul]) ?_
      refine E_icmp_ge (pc := 270) 306 dX8_film_270 rfl (fun q270 => absurd q270 (nI_ge hi (by omega))) (fun q270 => ?_)
      refine E_aload_n (pc := 273) 0 dX8_film_273 rfl rfl ?_
      refine E_getR0 (pc := 274) dX8_film_274 fl_RX8_34 rfl rfl ?_
      refine E_bipush (pc := 277) (64) dX8_film_277 (by decide) ?_
      refine E_iload_n (pc := 279) 1 dX8_film_279 rfl rfl ?_
      refine E_imul (pc := 280) dX8_film_280 ?_
      refine E_iload (pc := 281) 10 dX8_film_281 rfl ?_
      refine E_iadd (pc := 283) dX8_film_283 ?_
      refine E_top (nI_64 w i) ?_
      refine E_aload_n (pc := 284) 0 dX8_film_284 rfl rfl ?_
      refine E_getR0 (pc := 285) dX8_film_285 fl_RX8_64 rfl rfl ?_
      refine E_bipush (pc := 288) (64) dX8_film_288 (by decide) ?_
      refine E_iload_n (pc := 290) 2 dX8_film_290 rfl rfl ?_
      refine E_imul (pc := 291) dX8_film_291 ?_
      refine E_iload (pc := 292) 4 dX8_film_292 rfl ?_
      refine E_iadd (pc := 294) dX8_film_294 ?_
      refine E_iload (pc := 295) 10 dX8_film_295 rfl ?_
      refine E_iadd (pc := 297) dX8_film_297 ?_
      refine E_top (y := nI (64 * k + (F + i))) (by rw [nI_64, nI_add, Nat.add_assoc]) ?_
      refine E_iald (pc := 298) dX8_film_298 rfl (vp_in_nI (by omega) (by decide)) ?_
      refine E_top (y := mC h k (F + i)) (by rw [ixN_nI (by omega), fmH_o (by decide) (by decide) (by decide) (by decide)]) ?_
      refine E_iast (pc := 299) dX8_film_299 rfl (vp_in_nI (by omega) (by decide)) ?_
      refine E_iincN (pc := 300) 10 dX8_film_300 (Nat.le_of_ble_eq_true rfl) rfl rfl (lz := [_, _, _, _, _, _, _, _, _, _, _]) rfl ?_
      refine E_goto (pc := 303) 263 dX8_film_303 rfl ?_
      exact E_heq (by rw [ixN_nI (by omega)]; exact fed_s (fun j => mC h k (F + j)) _ g_m_numbers (64 * w) i) hn
  · have hq : c < 2 := by have := mt (nI_leI (a := 2) (b := c) (by decide) (by omega)).mpr q234; omega
    refine E_iconst (pc := 237) (0) dX8_film_237 (by decide) ?_
    refine E_iret (pc := 238) dX8_film_238 rfl ?_
    exact h1 hq
