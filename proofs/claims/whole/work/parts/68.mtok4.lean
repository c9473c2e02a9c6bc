/-! the model: next, its loops -/
theorem hset_cm {h : Hp} {t i k k' : Nat} {v v' : Int32} (hne : k ≠ k') : hset (hset h t i k v) t i k' v' = hset (hset h t i k' v') t i k v := by
  funext a b c
  unfold hset
  by_cases h1 : a = t ∧ b = i ∧ c = k
  · rw [if_neg (fun z => hne (h1.2.2.symm.trans z.2.2)), if_pos h1, if_pos h1]
  · rw [if_neg h1, if_neg h1]
set_option maxHeartbeats 4000000 in
theorem next_tok {l : Launch} {G : GE} {h : Hp} {Q : QT} {a L : Nat} (hw : h g_model 0 3 = 0) (hL : h g_model 0 1 = nI L) (hL2 : L ≤ 200) (haL : a ≤ L) (hT : MTb h) (hB : ∀ j, j < 200 → 0 ≤ h g_m_tape 0 j) (hQ : ∀ h', TkN h h' L a → Q none h') : Ev l G mX8_next (fkM G mX8_next Q) 34 [some (vR g_model 0), none] [] (hset h g_model 0 5 (nI a)) := by
  refine E_aload_n (pc := 34) 0 dX8_next_34 rfl rfl ?_
  refine E_aload_n (pc := 35) 0 dX8_next_35 rfl rfl ?_
  refine E_getI (pc := 36) dX8_next_36 fl_RX8_88 rfl rfl ?_
  refine E_eq (st' := [vI (nI a), vR g_model 0]) rfl (by rw [hset_eq]) rfl ?_
  refine E_put (pc := 39) dX8_next_39 fp_RX8_78 rfl rfl ?_
  refine E_aload_n (pc := 42) 0 dX8_next_42 rfl rfl ?_
  refine E_aload_n (pc := 43) 0 dX8_next_43 rfl rfl ?_
  refine E_getI (pc := 44) dX8_next_44 fl_RX8_88 rfl rfl ?_
  refine E_eq (st' := [vI (nI a), vR g_model 0]) rfl (by rw [hset_k (by decide), hset_eq]) rfl ?_
  refine E_callV1 (pc := 47) dX8_next_47 (C_X8_byteAt (L := L) (by rw [hset_k (by decide), hset_k (by decide)]; exact hL) hL2 (by omega)) rfl kv_RX8_84 rfl rfl rfl ⟨Nat.le_of_ble_eq_true rfl, Nat.le_of_ble_eq_true rfl, Nat.le_of_ble_eq_true rfl, Nat.le_of_ble_eq_true rfl⟩ (Nat.le_of_ble_eq_true rfl) ?_
  refine E_top (y := bt (h g_m_tape 0) L a) (by rw [hset_t (by decide), hset_t (by decide)]) ?_
  refine E_istore_n (pc := 50) 1 dX8_next_50 rfl (Nat.le_of_ble_eq_true rfl) rfl (lz := [_, _]) rfl ?_
  refine E_aload_n (pc := 51) 0 dX8_next_51 rfl rfl ?_
  refine E_iconst (pc := 52) (0) dX8_next_52 (by decide) ?_
  refine E_put (pc := 53) dX8_next_53 fp_RX8_91 rfl rfl ?_
  generalize hH1 : hset (hset (hset h g_model 0 5 (nI a)) g_model 0 6 (nI a)) g_model 0 8 0 = H
  have m1 : Mo h H := by rw [← hH1]; exact ((Mo.rfl.put (by decide)).put (by decide)).put (by decide)
  have m6 : H g_model 0 6 = nI a := by rw [← hH1, hset_k (by decide)]; exact hset_eq _ _ _ _ _
  have m5 : H g_model 0 5 = nI a := by rw [← hH1, hset_k (by decide), hset_k (by decide)]; exact hset_eq _ _ _ _ _
  have m3 : H g_model 0 3 = 0 := by rw [← hH1, hset_k (by decide), hset_k (by decide), hset_k (by decide)]; exact hw
  have m8 : H g_model 0 8 = 0 := by rw [← hH1]; exact hset_eq _ _ _ _ _
  have mL : H g_model 0 1 = nI L := by rw [m1.2 1 (by decide)]; exact hL
  have eB : H g_m_tape 0 = h g_m_tape 0 := by rw [m1.1 g_m_tape (by decide)]
  clear hH1
  refine E_iload_n (pc := 56) 1 dX8_next_56 rfl rfl ?_
  refine E_bipush (pc := 57) (-4) dX8_next_57 (by decide) ?_
  refine E_icmp_ne (pc := 59) 70 dX8_next_59 rfl (fun q59 => ?_) (fun q59 => ?_)
  · have hLa : a < L := Nat.not_le.mp (fun z => q59 (if_neg (by omega)))
    have hLa2 : ¬ L ≤ a := by omega
    refine E_eq (lv' := [some (vR g_model 0), some (vI (h g_m_tape 0 a))]) (by rw [show bt (h g_m_tape 0) L a = h g_m_tape 0 a from if_pos hLa]) rfl rfl ?_
    refine E_iload_n (pc := 70) 1 dX8_next_70 rfl rfl ?_
    refine E_i2l (pc := 71) dX8_next_71 ?_
    refine E_ldc2 (pc := 72) (97) dX8_next_72 kk_RX8_97 ?_
    refine E_ldc2 (pc := 75) (122) dX8_next_75 kk_RX8_99 ?_
    refine E_callS1 (pc := 78) dX8_next_78 (C_X8_in (a := 97) (b := 122) (by decide) (by decide)) rfl ks_RX8_71 rfl ⟨Nat.le_of_ble_eq_true rfl, Nat.le_of_ble_eq_true rfl, Nat.le_of_ble_eq_true rfl, Nat.le_of_ble_eq_true rfl⟩ (Nat.le_of_ble_eq_true rfl) ?_
    refine E_if_eq (pc := 81) 156 dX8_next_81 rfl (fun q81 => ?_) (fun q81 => ?_)
    · have hlt : ¬ isLt (h g_m_tape 0 a) := bi_0.mp q81
      refine E_iload_n (pc := 156) 1 dX8_next_156 rfl rfl ?_
      refine E_i2l (pc := 157) dX8_next_157 ?_
      refine E_ldc2 (pc := 158) (48) dX8_next_158 kk_RX8_109 ?_
      refine E_ldc2 (pc := 161) (57) dX8_next_161 kk_RX8_111 ?_
      refine E_callS1 (pc := 164) dX8_next_164 (C_X8_in (a := 48) (b := 57) (by decide) (by decide)) rfl ks_RX8_71 rfl ⟨Nat.le_of_ble_eq_true rfl, Nat.le_of_ble_eq_true rfl, Nat.le_of_ble_eq_true rfl, Nat.le_of_ble_eq_true rfl⟩ (Nat.le_of_ble_eq_true rfl) ?_
      refine E_if_eq (pc := 167) 273 dX8_next_167 rfl (fun q167 => ?_) (fun q167 => ?_)
      · have hfg : ¬ isFg (h g_m_tape 0 a) := bi_0.mp q167
        refine E_aload_n (pc := 273) 0 dX8_next_273 rfl rfl ?_
        have k1 : tkK (h g_m_tape 0) L a = 3 := (if_neg hLa2).trans ((if_neg hlt).trans (if_neg hfg))
        have k2 : tkE (h g_m_tape 0) L a = a + 1 := (if_neg hLa2).trans ((if_neg hlt).trans (if_neg hfg))
        refine E_iconst (pc := 274) (3) dX8_next_274 (by decide) ?_
        refine E_put (pc := 275) dX8_next_275 fp_RX8_94 rfl rfl ?_
        refine E_aload_n (pc := 278) 0 dX8_next_278 rfl rfl ?_
        refine E_dup (pc := 279) dX8_next_279 (fun _ z => by cases z) ?_
        refine E_getI (pc := 280) dX8_next_280 fl_RX8_88 rfl rfl ?_
        refine E_iconst (pc := 283) (1) dX8_next_283 (by decide) ?_
        refine E_iadd (pc := 284) dX8_next_284 ?_
        refine E_eq (st' := [vI (nI (a + 1)), vR g_model 0]) rfl (by rw [hset_k (by decide), m5, ← nI_succ]) rfl ?_
        refine E_put (pc := 285) dX8_next_285 fp_RX8_88 rfl rfl ?_
        refine E_iload_n (pc := 288) 1 dX8_next_288 rfl rfl ?_
        refine E_bipush (pc := 289) (59) dX8_next_289 (by decide) ?_
        refine E_icmp_eq (pc := 291) 299 dX8_next_291 rfl (fun q291 => ?_) (fun q291 => ?_)
        · have k0 : tkF (h g_m_tape 0) L a = 0 := (if_neg hLa2).trans ((if_neg hlt).trans ((if_neg hfg).trans (if_pos q291)))
          refine E_vret (pc := 299) dX8_next_299 rfl ?_
          refine hQ _ ?_
          first | exact fin | (unfold TkN; rw [k0, k1, k2]; exact ⟨(m1.put (by decide)).put (by decide), by rw [hset_k (by decide), hset_k (by decide)]; exact m6, by rw [hset_k (by decide), hset_k (by decide)]; exact m3, fun z => absurd rfl z, fun _ => ⟨hset_eq _ _ _ _ _, by rw [hset_k (by decide)]; exact hset_eq _ _ _ _ _, fun z => absurd z (by decide)⟩⟩) | (unfold TkN; rw [k0, k1, k2]; exact ⟨(((m1.put (by decide)).put (by decide)).put (by decide)).put (by decide), by rw [hset_k (by decide), hset_k (by decide), hset_k (by decide), hset_k (by decide)]; exact m6, by rw [hset_k (by decide)]; exact hset_eq _ _ _ _ _, fun _ => by rw [hset_eq, hset_k (by decide), hset_k (by decide)]; exact m6, fun z => absurd z (by decide)⟩)
        · have k0 : tkF (h g_m_tape 0) L a = 1 := (if_neg hLa2).trans ((if_neg hlt).trans ((if_neg hfg).trans (if_neg q291)))
          refine E_aload_n (pc := 294) 0 dX8_next_294 rfl rfl ?_
          refine E_iconst (pc := 295) (1) dX8_next_295 (by decide) ?_
          refine E_callV0 (pc := 296) dX8_next_296 (C_fails0 (by rw [hset_k (by decide), hset_k (by decide)]; exact m3)) rfl kv_RX8_105 rfl rfl rfl ⟨Nat.le_of_ble_eq_true rfl, Nat.le_of_ble_eq_true rfl, Nat.le_of_ble_eq_true rfl, Nat.le_of_ble_eq_true rfl⟩ (Nat.le_of_ble_eq_true rfl) ?_
          refine E_vret (pc := 299) dX8_next_299 rfl ?_
          refine hQ _ ?_
          first | exact fin | (unfold TkN; rw [k0, k1, k2]; exact ⟨(m1.put (by decide)).put (by decide), by rw [hset_k (by decide), hset_k (by decide)]; exact m6, by rw [hset_k (by decide), hset_k (by decide)]; exact m3, fun z => absurd rfl z, fun _ => ⟨hset_eq _ _ _ _ _, by rw [hset_k (by decide)]; exact hset_eq _ _ _ _ _, fun z => absurd z (by decide)⟩⟩) | (unfold TkN; rw [k0, k1, k2]; exact ⟨(((m1.put (by decide)).put (by decide)).put (by decide)).put (by decide), by rw [hset_k (by decide), hset_k (by decide), hset_k (by decide), hset_k (by decide)]; exact m6, by rw [hset_k (by decide)]; exact hset_eq _ _ _ _ _, fun _ => by rw [hset_eq, hset_k (by decide), hset_k (by decide)]; exact m6, fun z => absurd z (by decide)⟩)
      · have hfg : isFg (h g_m_tape 0 a) := Decidable.of_not_not (fun z => q167 (bi_0.mpr z))
        have hE := rnF_le isFg (h g_m_tape 0) (L - a) a
        generalize hEe : rnF isFg (h g_m_tape 0) (L - a) a = E at hE
        have tail : ∀ s, a + s = E → Ev l G mX8_next (fkM G mX8_next Q) 247 [some (vR g_model 0), some (vI (h g_m_tape 0 a))] [] (hset (hset H g_model 0 5 (nI (a + s))) g_model 0 8 (vmF (h g_m_tape 0) a s)) := fun s es => next_num hL2 hLa hlt hfg hEe ⟨(m1.put (by decide)).put (by decide), by rw [hset_k (by decide), hset_k (by decide)]; exact m6, by rw [hset_k (by decide), hset_k (by decide)]; exact m3, by rw [hset_k (by decide), hset_eq, es]⟩ (by rw [hset_eq, ← es, Nat.add_sub_cancel_left]) hQ
        refine E_heq (h' := hset (hset H g_model 0 5 (nI (a + 0))) g_model 0 8 (vmF (h g_m_tape 0) a 0)) (by rw [Nat.add_zero, ← m5, hset_self, show vmF (h g_m_tape 0) a 0 = 0 from rfl, ← m8, hset_self]) ?_
        refine down (P := fun i => rnF isFg (h g_m_tape 0) (L - a - i) (a + i) = E → Ev l G mX8_next (fkM G mX8_next Q) 170 [some (vR g_model 0), some (vI (h g_m_tape 0 a))] [] (hset (hset H g_model 0 5 (nI (a + i))) g_model 0 8 (vmF (h g_m_tape 0) a i))) (L - a) ?_ ?_ 0 (Nat.zero_le _) hEe
        · intro hr
          rw [Nat.sub_self] at hr
          refine E_aload_n (pc := 170) 0 dX8_next_170 rfl rfl ?_
          refine E_aload_n (pc := 171) 0 dX8_next_171 rfl rfl ?_
          refine E_getI (pc := 172) dX8_next_172 fl_RX8_88 rfl rfl ?_
          refine E_eq (st' := [vI (nI (a + (L - a))), vR g_model 0]) rfl (by rw [hset_k (by decide), hset_eq]) rfl ?_
          refine E_callV1 (pc := 175) dX8_next_175 (C_X8_byteAt (L := L) (by rw [hset_k (by decide), hset_k (by decide)]; exact mL) hL2 (by omega)) rfl kv_RX8_84 rfl rfl rfl ⟨Nat.le_of_ble_eq_true rfl, Nat.le_of_ble_eq_true rfl, Nat.le_of_ble_eq_true rfl, Nat.le_of_ble_eq_true rfl⟩ (Nat.le_of_ble_eq_true rfl) ?_
          refine E_top (y := -4) (if_neg (by omega)) ?_
          refine E_i2l (pc := 178) dX8_next_178 ?_
          refine E_ldc2 (pc := 179) (48) dX8_next_179 kk_RX8_109 ?_
          refine E_ldc2 (pc := 182) (57) dX8_next_182 kk_RX8_111 ?_
          refine E_callS1 (pc := 185) dX8_next_185 (C_X8_in (a := 48) (b := 57) (by decide) (by decide)) rfl ks_RX8_71 rfl ⟨Nat.le_of_ble_eq_true rfl, Nat.le_of_ble_eq_true rfl, Nat.le_of_ble_eq_true rfl, Nat.le_of_ble_eq_true rfl⟩ (Nat.le_of_ble_eq_true rfl) ?_
          refine E_if_eq (pc := 188) 247 dX8_next_188 rfl (fun q188 => ?_) (fun q188 => absurd (show bi ((48 : Int32) ≤ -4 ∧ (-4 : Int32) ≤ 57) = 0 by decide) q188)
          exact tail _ hr
        · intro i hi hn hr
          rw [show L - a - i = (L - a - (i + 1)) + 1 by omega] at hr
          refine E_aload_n (pc := 170) 0 dX8_next_170 rfl rfl ?_
          refine E_aload_n (pc := 171) 0 dX8_next_171 rfl rfl ?_
          refine E_getI (pc := 172) dX8_next_172 fl_RX8_88 rfl rfl ?_
          refine E_eq (st' := [vI (nI (a + i)), vR g_model 0]) rfl (by rw [hset_k (by decide), hset_eq]) rfl ?_
          refine E_callV1 (pc := 175) dX8_next_175 (C_X8_byteAt (L := L) (by rw [hset_k (by decide), hset_k (by decide)]; exact mL) hL2 (by omega)) rfl kv_RX8_84 rfl rfl rfl ⟨Nat.le_of_ble_eq_true rfl, Nat.le_of_ble_eq_true rfl, Nat.le_of_ble_eq_true rfl, Nat.le_of_ble_eq_true rfl⟩ (Nat.le_of_ble_eq_true rfl) ?_
          refine E_top (y := h g_m_tape 0 (a + i)) (by rw [hset_t (by decide), hset_t (by decide), eB]; exact if_pos (by omega)) ?_
          refine E_i2l (pc := 178) dX8_next_178 ?_
          refine E_ldc2 (pc := 179) (48) dX8_next_179 kk_RX8_109 ?_
          refine E_ldc2 (pc := 182) (57) dX8_next_182 kk_RX8_111 ?_
          refine E_callS1 (pc := 185) dX8_next_185 (C_X8_in (a := 48) (b := 57) (by decide) (by decide)) rfl ks_RX8_71 rfl ⟨Nat.le_of_ble_eq_true rfl, Nat.le_of_ble_eq_true rfl, Nat.le_of_ble_eq_true rfl, Nat.le_of_ble_eq_true rfl⟩ (Nat.le_of_ble_eq_true rfl) ?_
          refine E_if_eq (pc := 188) 247 dX8_next_188 rfl (fun q188 => ?_) (fun q188 => ?_)
          · exact tail _ ((rnF_no (P := isFg) (bi_0.mp q188)).symm.trans hr)
          · refine E_aload_n (pc := 191) 0 dX8_next_191 rfl rfl ?_
            refine E_aload_n (pc := 192) 0 dX8_next_192 rfl rfl ?_
            refine E_getI (pc := 193) dX8_next_193 fl_RX8_88 rfl rfl ?_
            refine E_aload_n (pc := 196) 0 dX8_next_196 rfl rfl ?_
            refine E_getI (pc := 197) dX8_next_197 fl_RX8_78 rfl rfl ?_
            refine E_isub (pc := 200) dX8_next_200 ?_
            refine E_eq (st' := [vI (nI i), vR g_model 0]) rfl (by rw [hset_k (by decide), hset_eq, hset_k (by decide), hset_k (by decide), m6, pk_sub (by omega), Nat.add_sub_cancel_left]) rfl ?_
            refine E_iconst (pc := 201) (2) dX8_next_201 (by decide) ?_
            refine E_icmp_ge (pc := 202) 227 dX8_next_202 rfl (fun q202 => ?_) (fun q202 => ?_)
            · have h2 : 2 ≤ i := (nI_leI (a := 2) (by decide) (by omega)).mp q202
              refine E_aload_n (pc := 227) 0 dX8_next_227 rfl rfl ?_
              refine E_getI (pc := 228) dX8_next_228 fl_RX8_91 rfl rfl ?_
              refine E_eq (st' := [vI (vmF (h g_m_tape 0) a (i + 1)), vR g_model 0]) rfl (by first | (rw [hset_eq]; unfold vmF; rw [if_neg (show ¬ i + 1 ≤ 2 by omega)]; by_cases e : i = 2; (rw [if_pos (by omega), e]); rw [if_neg (by omega)]; done) | (unfold vmF; rw [if_pos (show i ≤ 2 by omega), if_pos (show i + 1 ≤ 2 by omega)]; unfold vlF; rw [Int32.mul_comm 10]; first | rfl | (cases i <;> rfl))) rfl ?_
              refine E_put (pc := 231) dX8_next_231 fp_RX8_91 rfl rfl ?_
              refine E_aload_n (pc := 234) 0 dX8_next_234 rfl rfl ?_
              refine E_dup (pc := 235) dX8_next_235 (fun _ z => by cases z) ?_
              refine E_getI (pc := 236) dX8_next_236 fl_RX8_88 rfl rfl ?_
              refine E_iconst (pc := 239) (1) dX8_next_239 (by decide) ?_
              refine E_iadd (pc := 240) dX8_next_240 ?_
              refine E_eq (st' := [vI (nI (a + (i + 1))), vR g_model 0]) rfl (by rw [hset_k (by decide), hset_k (by decide), hset_eq, ← nI_succ]; rfl) rfl ?_
              refine E_put (pc := 241) dX8_next_241 fp_RX8_88 rfl rfl ?_
              refine E_goto (pc := 244) 170 dX8_next_244 rfl ?_
              refine E_heq ?_ (hn ((rnF_go (P := isFg) (Decidable.of_not_not (fun z => q188 (bi_0.mpr z)))).symm.trans hr))
              rw [hset_same, hset_cm (by decide), hset_same]
            · have h2 : ¬ 2 ≤ i := fun z => q202 (nI_le (a := 2) z (by omega))
              refine E_bipush (pc := 205) (10) dX8_next_205 (by decide) ?_
              refine E_aload_n (pc := 207) 0 dX8_next_207 rfl rfl ?_
              refine E_getI (pc := 208) dX8_next_208 fl_RX8_91 rfl rfl ?_
              refine E_eq (st' := [vI (vmF (h g_m_tape 0) a i), vI 10, vR g_model 0]) rfl (by rw [hset_eq]) rfl ?_
              refine E_imul (pc := 211) dX8_next_211 ?_
              refine E_aload_n (pc := 212) 0 dX8_next_212 rfl rfl ?_
              refine E_aload_n (pc := 213) 0 dX8_next_213 rfl rfl ?_
              refine E_getI (pc := 214) dX8_next_214 fl_RX8_88 rfl rfl ?_
              refine E_eq (st' := [vI (nI (a + i)), vR g_model 0, vI (10 * vmF (h g_m_tape 0) a i), vR g_model 0]) rfl (by rw [hset_k (by decide), hset_eq]) rfl ?_
              refine E_callV1 (pc := 217) dX8_next_217 (C_X8_byteAt (L := L) (by rw [hset_k (by decide), hset_k (by decide)]; exact mL) hL2 (by omega)) rfl kv_RX8_84 rfl rfl rfl ⟨Nat.le_of_ble_eq_true rfl, Nat.le_of_ble_eq_true rfl, Nat.le_of_ble_eq_true rfl, Nat.le_of_ble_eq_true rfl⟩ (Nat.le_of_ble_eq_true rfl) ?_
              refine E_top (y := h g_m_tape 0 (a + i)) (by rw [hset_t (by decide), hset_t (by decide), eB]; exact if_pos (by omega)) ?_
              refine E_iadd (pc := 220) dX8_next_220 ?_
              refine E_bipush (pc := 221) (48) dX8_next_221 (by decide) ?_
              refine E_isub (pc := 223) dX8_next_223 ?_
              refine E_goto (pc := 224) 231 dX8_next_224 rfl ?_
              refine E_eq (st' := [vI (vmF (h g_m_tape 0) a (i + 1)), vR g_model 0]) rfl (by first | (rw [hset_eq]; unfold vmF; rw [if_neg (show ¬ i + 1 ≤ 2 by omega)]; by_cases e : i = 2; (rw [if_pos (by omega), e]); rw [if_neg (by omega)]; done) | (unfold vmF; rw [if_pos (show i ≤ 2 by omega), if_pos (show i + 1 ≤ 2 by omega)]; unfold vlF; rw [Int32.mul_comm 10]; first | rfl | (cases i <;> rfl))) rfl ?_
              refine E_put (pc := 231) dX8_next_231 fp_RX8_91 rfl rfl ?_
              refine E_aload_n (pc := 234) 0 dX8_next_234 rfl rfl ?_
              refine E_dup (pc := 235) dX8_next_235 (fun _ z => by cases z) ?_
              refine E_getI (pc := 236) dX8_next_236 fl_RX8_88 rfl rfl ?_
              refine E_iconst (pc := 239) (1) dX8_next_239 (by decide) ?_
              refine E_iadd (pc := 240) dX8_next_240 ?_
              refine E_eq (st' := [vI (nI (a + (i + 1))), vR g_model 0]) rfl (by rw [hset_k (by decide), hset_k (by decide), hset_eq, ← nI_succ]; rfl) rfl ?_
              refine E_put (pc := 241) dX8_next_241 fp_RX8_88 rfl rfl ?_
              refine E_goto (pc := 244) 170 dX8_next_244 rfl ?_
              refine E_heq ?_ (hn ((rnF_go (P := isFg) (Decidable.of_not_not (fun z => q188 (bi_0.mpr z)))).symm.trans hr))
              rw [hset_same, hset_cm (by decide), hset_same]
    · have hlt : isLt (h g_m_tape 0 a) := Decidable.of_not_not (fun z => q81 (bi_0.mpr z))
      have hE := rnF_le isLt (h g_m_tape 0) (L - a) a
      generalize hEe : rnF isLt (h g_m_tape 0) (L - a) a = E at hE
      have tail : ∀ s, s = E → Ev l G mX8_next (fkM G mX8_next Q) 118 [some (vR g_model 0), some (vI (h g_m_tape 0 a))] [] (hset H g_model 0 5 (nI s)) := fun s es => next_name hL hL2 hLa hlt hEe hT ⟨m1.put (by decide), by rw [hset_k (by decide)]; exact m6, by rw [hset_k (by decide)]; exact m3, by rw [hset_eq, es]⟩ hQ
      refine E_heq (h' := hset H g_model 0 5 (nI (a + 0))) (by rw [Nat.add_zero, ← m5, hset_self]) ?_
      refine down (P := fun i => rnF isLt (h g_m_tape 0) (L - a - i) (a + i) = E → Ev l G mX8_next (fkM G mX8_next Q) 84 [some (vR g_model 0), some (vI (h g_m_tape 0 a))] [] (hset H g_model 0 5 (nI (a + i)))) (L - a) ?_ ?_ 0 (Nat.zero_le _) hEe
      · intro hr
        rw [Nat.sub_self] at hr
        refine E_aload_n (pc := 84) 0 dX8_next_84 rfl rfl ?_
        refine E_aload_n (pc := 85) 0 dX8_next_85 rfl rfl ?_
        refine E_getI (pc := 86) dX8_next_86 fl_RX8_88 rfl rfl ?_
        refine E_eq (st' := [vI (nI (a + (L - a))), vR g_model 0]) rfl (by rw [hset_eq]) rfl ?_
        refine E_callV1 (pc := 89) dX8_next_89 (C_X8_byteAt (L := L) (by rw [hset_k (by decide)]; exact mL) hL2 (by omega)) rfl kv_RX8_84 rfl rfl rfl ⟨Nat.le_of_ble_eq_true rfl, Nat.le_of_ble_eq_true rfl, Nat.le_of_ble_eq_true rfl, Nat.le_of_ble_eq_true rfl⟩ (Nat.le_of_ble_eq_true rfl) ?_
        refine E_top (y := -4) (if_neg (by omega)) ?_
        refine E_i2l (pc := 92) dX8_next_92 ?_
        refine E_ldc2 (pc := 93) (97) dX8_next_93 kk_RX8_97 ?_
        refine E_ldc2 (pc := 96) (122) dX8_next_96 kk_RX8_99 ?_
        refine E_callS1 (pc := 99) dX8_next_99 (C_X8_in (a := 97) (b := 122) (by decide) (by decide)) rfl ks_RX8_71 rfl ⟨Nat.le_of_ble_eq_true rfl, Nat.le_of_ble_eq_true rfl, Nat.le_of_ble_eq_true rfl, Nat.le_of_ble_eq_true rfl⟩ (Nat.le_of_ble_eq_true rfl) ?_
        refine E_if_eq (pc := 102) 118 dX8_next_102 rfl (fun q102 => ?_) (fun q102 => absurd (show bi ((97 : Int32) ≤ -4 ∧ (-4 : Int32) ≤ 122) = 0 by decide) q102)
        exact tail _ hr
      · intro i hi hn hr
        rw [show L - a - i = (L - a - (i + 1)) + 1 by omega] at hr
        refine E_aload_n (pc := 84) 0 dX8_next_84 rfl rfl ?_
        refine E_aload_n (pc := 85) 0 dX8_next_85 rfl rfl ?_
        refine E_getI (pc := 86) dX8_next_86 fl_RX8_88 rfl rfl ?_
        refine E_eq (st' := [vI (nI (a + i)), vR g_model 0]) rfl (by rw [hset_eq]) rfl ?_
        refine E_callV1 (pc := 89) dX8_next_89 (C_X8_byteAt (L := L) (by rw [hset_k (by decide)]; exact mL) hL2 (by omega)) rfl kv_RX8_84 rfl rfl rfl ⟨Nat.le_of_ble_eq_true rfl, Nat.le_of_ble_eq_true rfl, Nat.le_of_ble_eq_true rfl, Nat.le_of_ble_eq_true rfl⟩ (Nat.le_of_ble_eq_true rfl) ?_
        refine E_top (y := h g_m_tape 0 (a + i)) (by rw [hset_t (by decide), eB]; exact if_pos (by omega)) ?_
        refine E_i2l (pc := 92) dX8_next_92 ?_
        refine E_ldc2 (pc := 93) (97) dX8_next_93 kk_RX8_97 ?_
        refine E_ldc2 (pc := 96) (122) dX8_next_96 kk_RX8_99 ?_
        refine E_callS1 (pc := 99) dX8_next_99 (C_X8_in (a := 97) (b := 122) (by decide) (by decide)) rfl ks_RX8_71 rfl ⟨Nat.le_of_ble_eq_true rfl, Nat.le_of_ble_eq_true rfl, Nat.le_of_ble_eq_true rfl, Nat.le_of_ble_eq_true rfl⟩ (Nat.le_of_ble_eq_true rfl) ?_
        refine E_if_eq (pc := 102) 118 dX8_next_102 rfl (fun q102 => ?_) (fun q102 => ?_)
        · exact tail _ ((rnF_no (P := isLt) (bi_0.mp q102)).symm.trans hr)
        · refine E_aload_n (pc := 105) 0 dX8_next_105 rfl rfl ?_
          refine E_dup (pc := 106) dX8_next_106 (fun _ z => by cases z) ?_
          refine E_getI (pc := 107) dX8_next_107 fl_RX8_88 rfl rfl ?_
          refine E_iconst (pc := 110) (1) dX8_next_110 (by decide) ?_
          refine E_iadd (pc := 111) dX8_next_111 ?_
          refine E_eq (st' := [vI (nI (a + (i + 1))), vR g_model 0]) rfl (by rw [hset_eq, ← nI_succ]; rfl) rfl ?_
          refine E_put (pc := 112) dX8_next_112 fp_RX8_88 rfl rfl ?_
          refine E_goto (pc := 115) 84 dX8_next_115 rfl ?_
          exact E_heq (hset_same _ _ _ _ _ _) (hn ((rnF_go (P := isLt) (Decidable.of_not_not (fun z => q102 (bi_0.mpr z)))).symm.trans hr))
  · have hLa : L ≤ a := Nat.not_lt.mp (fun z => by have e : bt (h g_m_tape 0) L a = h g_m_tape 0 a := if_pos z; rw [e] at q59; exact absurd (hB a (by omega)) (by rw [q59]; decide))
    refine E_aload_n (pc := 62) 0 dX8_next_62 rfl rfl ?_
    refine E_iconst (pc := 63) (0) dX8_next_63 (by decide) ?_
    have k0 : tkF (h g_m_tape 0) L a = 0 := if_pos hLa
    have k1 : tkK (h g_m_tape 0) L a = 0 := if_pos hLa
    have k2 : tkE (h g_m_tape 0) L a = a := if_pos hLa
    have fin : TkN h (hset H g_model 0 7 0) L a := by unfold TkN; rw [k0, k1, k2]; exact ⟨m1.put (by decide), by rw [hset_k (by decide)]; exact m6, by rw [hset_k (by decide)]; exact m3, fun z => absurd rfl z, fun _ => ⟨by rw [hset_k (by decide)]; exact m5, hset_eq _ _ _ _ _, fun z => absurd z (by decide)⟩⟩
    refine E_put (pc := 64) dX8_next_64 fp_RX8_94 rfl rfl ?_
    refine E_goto (pc := 67) 299 dX8_next_67 rfl ?_
    refine E_vret (pc := 299) dX8_next_299 rfl ?_
    refine hQ _ ?_
    first | exact fin | (unfold TkN; rw [k0, k1, k2]; exact ⟨(m1.put (by decide)).put (by decide), by rw [hset_k (by decide), hset_k (by decide)]; exact m6, by rw [hset_k (by decide), hset_k (by decide)]; exact m3, fun z => absurd rfl z, fun _ => ⟨hset_eq _ _ _ _ _, by rw [hset_k (by decide)]; exact hset_eq _ _ _ _ _, fun z => absurd z (by decide)⟩⟩) | (unfold TkN; rw [k0, k1, k2]; exact ⟨(((m1.put (by decide)).put (by decide)).put (by decide)).put (by decide), by rw [hset_k (by decide), hset_k (by decide), hset_k (by decide), hset_k (by decide)]; exact m6, by rw [hset_k (by decide)]; exact hset_eq _ _ _ _ _, fun _ => by rw [hset_eq, hset_k (by decide), hset_k (by decide)]; exact m6, fun z => absurd z (by decide)⟩)
