/-! constructors -/
set_option maxHeartbeats 8000000 in
set_option maxRecDepth 20000 in
theorem K_X5_init {l : Launch} {G : GE} {h0 : Nat} : KT l G mX5_init [.ref h0] [(h0, .inr (5, [.null, .int 0]))] 2 1 200 (fun w => ∃ q1 : Nat, w = [(h0, .inr (5, [.ref q1, .int 0])), (q1, .inl (G.2.1 0, 200, .inl (lf [])))]) := by
  refine KT.of (lv := [(0, .ref h0)]) (by decide +kernel) (Nat.le_of_ble_eq_true rfl) rfl ?_
  refine N_aload (pc := 0) 0 dX5_init_0 rfl rfl ?_
  refine N_obj (pc := 1) dX5_init_1 ko_RX5 ⟨Nat.le_of_ble_eq_true rfl, Nat.le_of_ble_eq_true rfl⟩ ?_
  refine N_aload (pc := 4) 0 dX5_init_4 rfl rfl ?_
  refine N_sipush (pc := 5) (200) dX5_init_5 (by decide) ?_
  refine N_newI (pc := 8) (N := 200) dX5_init_8 ka_I (by decide) (by decide) (by decide) ⟨Nat.le_of_ble_eq_true rfl, Nat.le_of_ble_eq_true rfl⟩ (fun q1 => ?_)
  refine N_ws (ws' := [(h0, .inr (5, [.null, .int 0])), (q1, .inl (G.2.1 0, 200, .inl (lf [])))]) rfl ?_
  refine N_putF (pc := 10) 0 dX5_init_10 fq_RX5_9 rfl rfl rfl rfl (Nat.le_of_ble_eq_true rfl) (ws' := [(h0, .inr (5, [.ref q1, .int 0])), (q1, .inl (G.2.1 0, 200, .inl (lf [])))]) rfl ?_
  refine N_cs (cells' := 1) (slots' := 200) rfl rfl ?_
  exact N_ret (pc := 13) dX5_init_13 rfl ⟨q1, rfl⟩
set_option maxHeartbeats 8000000 in
set_option maxRecDepth 20000 in
theorem K_X1_init {l : Launch} {G : GE} {h0 : Nat} : KT l G mX1_init [.ref h0] [(h0, .inr (1, [.null, .int 0, .int 0, .int 0, .int 0, .int 0, .int 0]))] 2 1 18 (fun w => ∃ q1 : Nat, w = [(h0, .inr (1, [.ref q1, .int 0, .int 0, .int 0, .int 0, .int 0, .int 0])), (q1, .inl (G.2.1 0, 18, .inl (lf [])))]) := by
  refine KT.of (lv := [(0, .ref h0)]) (by decide +kernel) (Nat.le_of_ble_eq_true rfl) rfl ?_
  refine N_aload (pc := 0) 0 dX1_init_0 rfl rfl ?_
  refine N_obj (pc := 1) dX1_init_1 ko_RX1 ⟨Nat.le_of_ble_eq_true rfl, Nat.le_of_ble_eq_true rfl⟩ ?_
  refine N_aload (pc := 4) 0 dX1_init_4 rfl rfl ?_
  refine N_bipush (pc := 5) (18) dX1_init_5 (by decide) ?_
  refine N_newI (pc := 7) (N := 18) dX1_init_7 ka_I (by decide) (by decide) (by decide) ⟨Nat.le_of_ble_eq_true rfl, Nat.le_of_ble_eq_true rfl⟩ (fun q1 => ?_)
  refine N_ws (ws' := [(h0, .inr (1, [.null, .int 0, .int 0, .int 0, .int 0, .int 0, .int 0])), (q1, .inl (G.2.1 0, 18, .inl (lf [])))]) rfl ?_
  refine N_putF (pc := 9) 0 dX1_init_9 fq_RX1_11 rfl rfl rfl rfl (Nat.le_of_ble_eq_true rfl) (ws' := [(h0, .inr (1, [.ref q1, .int 0, .int 0, .int 0, .int 0, .int 0, .int 0])), (q1, .inl (G.2.1 0, 18, .inl (lf [])))]) rfl ?_
  refine N_cs (cells' := 1) (slots' := 18) rfl rfl ?_
  exact N_ret (pc := 12) dX1_init_12 rfl ⟨q1, rfl⟩
set_option maxHeartbeats 8000000 in
set_option maxRecDepth 20000 in
theorem K_X3_init {l : Launch} {G : GE} {h0 : Nat} : KT l G mX3_init [.ref h0] [(h0, .inr (3, [.null]))] 2 1 18 (fun w => ∃ q1 : Nat, w = [(h0, .inr (3, [.ref q1])), (q1, .inl (G.2.1 0, 18, .inl (va_cpy (fun j => tUSUAL.getD j 0) (lf []) 0 0 18)))]) := by
  refine KT.of (lv := [(0, .ref h0)]) (by decide +kernel) (Nat.le_of_ble_eq_true rfl) rfl ?_
  refine N_aload (pc := 0) 0 dX3_init_0 rfl rfl ?_
  refine N_obj (pc := 1) dX3_init_1 ko_RX3 ⟨Nat.le_of_ble_eq_true rfl, Nat.le_of_ble_eq_true rfl⟩ ?_
  refine N_aload (pc := 4) 0 dX3_init_4 rfl rfl ?_
  refine N_bipush (pc := 5) (18) dX3_init_5 (by decide) ?_
  refine N_newI (pc := 7) (N := 18) dX3_init_7 ka_I (by decide) (by decide) (by decide) ⟨Nat.le_of_ble_eq_true rfl, Nat.le_of_ble_eq_true rfl⟩ (fun q1 => ?_)
  refine N_ws (ws' := [(h0, .inr (3, [.null])), (q1, .inl (G.2.1 0, 18, .inl (lf [])))]) rfl ?_
  refine N_putF (pc := 9) 0 dX3_init_9 fq_RX3_11 rfl rfl rfl rfl (Nat.le_of_ble_eq_true rfl) (ws' := [(h0, .inr (3, [.ref q1])), (q1, .inl (G.2.1 0, 18, .inl (lf [])))]) rfl ?_
  refine N_gets (pc := 12) dX3_init_12 fw_RX3_15 ?_
  refine N_iconst (pc := 15) (0) dX3_init_15 (by decide) ?_
  refine N_aload (pc := 16) 0 dX3_init_16 rfl rfl ?_
  refine N_get (pc := 17) 0 dX3_init_17 fl_RX3_11 rfl rfl ?_
  refine N_iconst (pc := 20) (0) dX3_init_20 (by decide) ?_
  refine N_bipush (pc := 21) (18) dX3_init_21 (by decide) ?_
  refine N_copyU (pc := 23) 1 dX3_init_23 kc_RX3_18 rfl rfl ⟨Nat.le_of_ble_eq_true rfl, Nat.le_of_ble_eq_true rfl⟩ (ws' := [(h0, .inr (3, [.ref q1])), (q1, .inl (G.2.1 0, 18, .inl (va_cpy (fun j => tUSUAL.getD j 0) (lf []) 0 0 18)))]) rfl ?_
  refine N_cs (cells' := 1) (slots' := 18) rfl rfl ?_
  exact N_ret (pc := 26) dX3_init_26 rfl ⟨q1, rfl⟩
set_option maxHeartbeats 8000000 in
set_option maxRecDepth 20000 in
theorem K_X6_init {l : Launch} {G : GE} {h0 : Nat} : KT l G mX6_init [.ref h0] [(h0, .inr (6, [.null, .int 0, .int 0]))] 2 1 64 (fun w => ∃ q1 : Nat, w = [(h0, .inr (6, [.ref q1, .int 0, .int 0])), (q1, .inl (G.2.1 0, 64, .inl (lf [])))]) := by
  refine KT.of (lv := [(0, .ref h0)]) (by decide +kernel) (Nat.le_of_ble_eq_true rfl) rfl ?_
  refine N_aload (pc := 0) 0 dX6_init_0 rfl rfl ?_
  refine N_obj (pc := 1) dX6_init_1 ko_RX6 ⟨Nat.le_of_ble_eq_true rfl, Nat.le_of_ble_eq_true rfl⟩ ?_
  refine N_aload (pc := 4) 0 dX6_init_4 rfl rfl ?_
  refine N_bipush (pc := 5) (64) dX6_init_5 (by decide) ?_
  refine N_newI (pc := 7) (N := 64) dX6_init_7 ka_I (by decide) (by decide) (by decide) ⟨Nat.le_of_ble_eq_true rfl, Nat.le_of_ble_eq_true rfl⟩ (fun q1 => ?_)
  refine N_ws (ws' := [(h0, .inr (6, [.null, .int 0, .int 0])), (q1, .inl (G.2.1 0, 64, .inl (lf [])))]) rfl ?_
  refine N_putF (pc := 9) 0 dX6_init_9 fq_RX6_11 rfl rfl rfl rfl (Nat.le_of_ble_eq_true rfl) (ws' := [(h0, .inr (6, [.ref q1, .int 0, .int 0])), (q1, .inl (G.2.1 0, 64, .inl (lf [])))]) rfl ?_
  refine N_cs (cells' := 1) (slots' := 64) rfl rfl ?_
  exact N_ret (pc := 12) dX6_init_12 rfl ⟨q1, rfl⟩
set_option maxHeartbeats 8000000 in
set_option maxRecDepth 20000 in
theorem K_X2_init {l : Launch} {G : GE} {h0 : Nat} : KT l G mX2_init [.ref h0] [(h0, .inr (2, [.null, .null, .null, .int 0]))] 2 3 36 (fun w => ∃ q1 q2 q3 : Nat, w = [(h0, .inr (2, [.ref q1, .ref q2, .ref q3, .int 0])), (q1, .inl (G.2.1 0, 12, .inl (lf []))), (q2, .inl (G.2.1 0, 12, .inl (lf []))), (q3, .inl (G.2.1 0, 12, .inl (lf [])))]) := by
  refine KT.of (lv := [(0, .ref h0)]) (by decide +kernel) (Nat.le_of_ble_eq_true rfl) rfl ?_
  refine N_aload (pc := 0) 0 dX2_init_0 rfl rfl ?_
  refine N_obj (pc := 1) dX2_init_1 ko_RX2 ⟨Nat.le_of_ble_eq_true rfl, Nat.le_of_ble_eq_true rfl⟩ ?_
  refine N_aload (pc := 4) 0 dX2_init_4 rfl rfl ?_
  refine N_bipush (pc := 5) (12) dX2_init_5 (by decide) ?_
  refine N_newI (pc := 7) (N := 12) dX2_init_7 ka_I (by decide) (by decide) (by decide) ⟨Nat.le_of_ble_eq_true rfl, Nat.le_of_ble_eq_true rfl⟩ (fun q1 => ?_)
  refine N_ws (ws' := [(h0, .inr (2, [.null, .null, .null, .int 0])), (q1, .inl (G.2.1 0, 12, .inl (lf [])))]) rfl ?_
  refine N_putF (pc := 9) 0 dX2_init_9 fq_RX2_11 rfl rfl rfl rfl (Nat.le_of_ble_eq_true rfl) (ws' := [(h0, .inr (2, [.ref q1, .null, .null, .int 0])), (q1, .inl (G.2.1 0, 12, .inl (lf [])))]) rfl ?_
  refine N_aload (pc := 12) 0 dX2_init_12 rfl rfl ?_
  refine N_bipush (pc := 13) (12) dX2_init_13 (by decide) ?_
  refine N_newI (pc := 15) (N := 12) dX2_init_15 ka_I (by decide) (by decide) (by decide) ⟨Nat.le_of_ble_eq_true rfl, Nat.le_of_ble_eq_true rfl⟩ (fun q2 => ?_)
  refine N_ws (ws' := [(h0, .inr (2, [.ref q1, .null, .null, .int 0])), (q1, .inl (G.2.1 0, 12, .inl (lf []))), (q2, .inl (G.2.1 0, 12, .inl (lf [])))]) rfl ?_
  refine N_putF (pc := 17) 0 dX2_init_17 fq_RX2_15 rfl rfl rfl rfl (Nat.le_of_ble_eq_true rfl) (ws' := [(h0, .inr (2, [.ref q1, .ref q2, .null, .int 0])), (q1, .inl (G.2.1 0, 12, .inl (lf []))), (q2, .inl (G.2.1 0, 12, .inl (lf [])))]) rfl ?_
  refine N_aload (pc := 20) 0 dX2_init_20 rfl rfl ?_
  refine N_bipush (pc := 21) (12) dX2_init_21 (by decide) ?_
  refine N_newI (pc := 23) (N := 12) dX2_init_23 ka_I (by decide) (by decide) (by decide) ⟨Nat.le_of_ble_eq_true rfl, Nat.le_of_ble_eq_true rfl⟩ (fun q3 => ?_)
  refine N_ws (ws' := [(h0, .inr (2, [.ref q1, .ref q2, .null, .int 0])), (q1, .inl (G.2.1 0, 12, .inl (lf []))), (q2, .inl (G.2.1 0, 12, .inl (lf []))), (q3, .inl (G.2.1 0, 12, .inl (lf [])))]) rfl ?_
  refine N_putF (pc := 25) 0 dX2_init_25 fq_RX2_18 rfl rfl rfl rfl (Nat.le_of_ble_eq_true rfl) (ws' := [(h0, .inr (2, [.ref q1, .ref q2, .ref q3, .int 0])), (q1, .inl (G.2.1 0, 12, .inl (lf []))), (q2, .inl (G.2.1 0, 12, .inl (lf []))), (q3, .inl (G.2.1 0, 12, .inl (lf [])))]) rfl ?_
  refine N_cs (cells' := 3) (slots' := 36) rfl rfl ?_
  exact N_ret (pc := 28) dX2_init_28 rfl ⟨q1, q2, q3, rfl⟩
set_option maxHeartbeats 8000000 in
set_option maxRecDepth 20000 in
theorem K_X4_init {l : Launch} {G : GE} {h0 : Nat} : KT l G mX4_init [.ref h0] [(h0, .inr (4, [.int 0, .int 0, .null]))] 2 1 64 (fun w => ∃ q1 : Nat, w = [(h0, .inr (4, [.int (-1), .int 0, .ref q1])), (q1, .inl (G.2.1 0, 64, .inl (lf [])))]) := by
  refine KT.of (lv := [(0, .ref h0)]) (by decide +kernel) (Nat.le_of_ble_eq_true rfl) rfl ?_
  refine N_aload (pc := 0) 0 dX4_init_0 rfl rfl ?_
  refine N_obj (pc := 1) dX4_init_1 ko_RX4 ⟨Nat.le_of_ble_eq_true rfl, Nat.le_of_ble_eq_true rfl⟩ ?_
  refine N_aload (pc := 4) 0 dX4_init_4 rfl rfl ?_
  refine N_iconst (pc := 5) (-1) dX4_init_5 (by decide) ?_
  refine N_putI (pc := 6) 0 dX4_init_6 fq_RX4_9 rfl rfl rfl (Nat.le_of_ble_eq_true rfl) (ws' := [(h0, .inr (4, [.int (-1), .int 0, .null]))]) rfl ?_
  refine N_aload (pc := 9) 0 dX4_init_9 rfl rfl ?_
  refine N_bipush (pc := 10) (64) dX4_init_10 (by decide) ?_
  refine N_newI (pc := 12) (N := 64) dX4_init_12 ka_I (by decide) (by decide) (by decide) ⟨Nat.le_of_ble_eq_true rfl, Nat.le_of_ble_eq_true rfl⟩ (fun q1 => ?_)
  refine N_ws (ws' := [(h0, .inr (4, [.int (-1), .int 0, .null])), (q1, .inl (G.2.1 0, 64, .inl (lf [])))]) rfl ?_
  refine N_putF (pc := 14) 0 dX4_init_14 fq_RX4_13 rfl rfl rfl rfl (Nat.le_of_ble_eq_true rfl) (ws' := [(h0, .inr (4, [.int (-1), .int 0, .ref q1])), (q1, .inl (G.2.1 0, 64, .inl (lf [])))]) rfl ?_
  refine N_cs (cells' := 1) (slots' := 64) rfl rfl ?_
  exact N_ret (pc := 17) dX4_init_17 rfl ⟨q1, rfl⟩
set_option maxHeartbeats 8000000 in
set_option maxRecDepth 20000 in
theorem K_X0_init {l : Launch} {G : GE} {h0 r0 : Nat} : KT l G mX0_init [.ref h0, .ref r0] [(h0, .inr (0, [.null, .null, .null, .null, .null, .null, .null, .int 0, .null]))] 2 7 176 (fun w => ∃ q1 q2 q3 q4 q5 q6 q7 : Nat, w = [(h0, .inr (0, [.ref r0, .ref q1, .ref q2, .ref q3, .ref q4, .ref q5, .ref q6, .int 0, .ref q7])), (q1, .inl (G.2.1 0, 8, .inl (lf []))), (q2, .inl (G.2.1 0, 8, .inl (lf []))), (q3, .inl (G.2.1 0, 8, .inl (lf []))), (q4, .inl (G.2.1 0, 8, .inl (lf []))), (q5, .inl (G.2.1 1, 8, .inl (lf []))), (q6, .inl (G.2.1 1, 8, .inl (lf []))), (q7, .inl (G.2.1 0, 128, .inl (lf [])))]) := by
  refine KT.of (lv := [(0, .ref h0), (1, .ref r0)]) (by decide +kernel) (Nat.le_of_ble_eq_true rfl) rfl ?_
  refine N_aload (pc := 0) 0 dX0_init_0 rfl rfl ?_
  refine N_obj (pc := 1) dX0_init_1 ko_RX0 ⟨Nat.le_of_ble_eq_true rfl, Nat.le_of_ble_eq_true rfl⟩ ?_
  refine N_aload (pc := 4) 0 dX0_init_4 rfl rfl ?_
  refine N_bipush (pc := 5) (8) dX0_init_5 (by decide) ?_
  refine N_newI (pc := 7) (N := 8) dX0_init_7 ka_I (by decide) (by decide) (by decide) ⟨Nat.le_of_ble_eq_true rfl, Nat.le_of_ble_eq_true rfl⟩ (fun q1 => ?_)
  refine N_ws (ws' := [(h0, .inr (0, [.null, .null, .null, .null, .null, .null, .null, .int 0, .null])), (q1, .inl (G.2.1 0, 8, .inl (lf [])))]) rfl ?_
  refine N_putF (pc := 9) 0 dX0_init_9 fq_RX0_11 rfl rfl rfl rfl (Nat.le_of_ble_eq_true rfl) (ws' := [(h0, .inr (0, [.null, .ref q1, .null, .null, .null, .null, .null, .int 0, .null])), (q1, .inl (G.2.1 0, 8, .inl (lf [])))]) rfl ?_
  refine N_aload (pc := 12) 0 dX0_init_12 rfl rfl ?_
  refine N_bipush (pc := 13) (8) dX0_init_13 (by decide) ?_
  refine N_newI (pc := 15) (N := 8) dX0_init_15 ka_I (by decide) (by decide) (by decide) ⟨Nat.le_of_ble_eq_true rfl, Nat.le_of_ble_eq_true rfl⟩ (fun q2 => ?_)
  refine N_ws (ws' := [(h0, .inr (0, [.null, .ref q1, .null, .null, .null, .null, .null, .int 0, .null])), (q1, .inl (G.2.1 0, 8, .inl (lf []))), (q2, .inl (G.2.1 0, 8, .inl (lf [])))]) rfl ?_
  refine N_putF (pc := 17) 0 dX0_init_17 fq_RX0_17 rfl rfl rfl rfl (Nat.le_of_ble_eq_true rfl) (ws' := [(h0, .inr (0, [.null, .ref q1, .ref q2, .null, .null, .null, .null, .int 0, .null])), (q1, .inl (G.2.1 0, 8, .inl (lf []))), (q2, .inl (G.2.1 0, 8, .inl (lf [])))]) rfl ?_
  refine N_aload (pc := 20) 0 dX0_init_20 rfl rfl ?_
  refine N_bipush (pc := 21) (8) dX0_init_21 (by decide) ?_
  refine N_newI (pc := 23) (N := 8) dX0_init_23 ka_I (by decide) (by decide) (by decide) ⟨Nat.le_of_ble_eq_true rfl, Nat.le_of_ble_eq_true rfl⟩ (fun q3 => ?_)
  refine N_ws (ws' := [(h0, .inr (0, [.null, .ref q1, .ref q2, .null, .null, .null, .null, .int 0, .null])), (q1, .inl (G.2.1 0, 8, .inl (lf []))), (q2, .inl (G.2.1 0, 8, .inl (lf []))), (q3, .inl (G.2.1 0, 8, .inl (lf [])))]) rfl ?_
  refine N_putF (pc := 25) 0 dX0_init_25 fq_RX0_20 rfl rfl rfl rfl (Nat.le_of_ble_eq_true rfl) (ws' := [(h0, .inr (0, [.null, .ref q1, .ref q2, .ref q3, .null, .null, .null, .int 0, .null])), (q1, .inl (G.2.1 0, 8, .inl (lf []))), (q2, .inl (G.2.1 0, 8, .inl (lf []))), (q3, .inl (G.2.1 0, 8, .inl (lf [])))]) rfl ?_
  refine N_aload (pc := 28) 0 dX0_init_28 rfl rfl ?_
  refine N_bipush (pc := 29) (8) dX0_init_29 (by decide) ?_
  refine N_newI (pc := 31) (N := 8) dX0_init_31 ka_I (by decide) (by decide) (by decide) ⟨Nat.le_of_ble_eq_true rfl, Nat.le_of_ble_eq_true rfl⟩ (fun q4 => ?_)
  refine N_ws (ws' := [(h0, .inr (0, [.null, .ref q1, .ref q2, .ref q3, .null, .null, .null, .int 0, .null])), (q1, .inl (G.2.1 0, 8, .inl (lf []))), (q2, .inl (G.2.1 0, 8, .inl (lf []))), (q3, .inl (G.2.1 0, 8, .inl (lf []))), (q4, .inl (G.2.1 0, 8, .inl (lf [])))]) rfl ?_
  refine N_putF (pc := 33) 0 dX0_init_33 fq_RX0_23 rfl rfl rfl rfl (Nat.le_of_ble_eq_true rfl) (ws' := [(h0, .inr (0, [.null, .ref q1, .ref q2, .ref q3, .ref q4, .null, .null, .int 0, .null])), (q1, .inl (G.2.1 0, 8, .inl (lf []))), (q2, .inl (G.2.1 0, 8, .inl (lf []))), (q3, .inl (G.2.1 0, 8, .inl (lf []))), (q4, .inl (G.2.1 0, 8, .inl (lf [])))]) rfl ?_
  refine N_aload (pc := 36) 0 dX0_init_36 rfl rfl ?_
  refine N_bipush (pc := 37) (8) dX0_init_37 (by decide) ?_
  refine N_newZ (pc := 39) (N := 8) dX0_init_39 ka_Z (by decide) (by decide) (by decide) ⟨Nat.le_of_ble_eq_true rfl, Nat.le_of_ble_eq_true rfl⟩ (fun q5 => ?_)
  refine N_ws (ws' := [(h0, .inr (0, [.null, .ref q1, .ref q2, .ref q3, .ref q4, .null, .null, .int 0, .null])), (q1, .inl (G.2.1 0, 8, .inl (lf []))), (q2, .inl (G.2.1 0, 8, .inl (lf []))), (q3, .inl (G.2.1 0, 8, .inl (lf []))), (q4, .inl (G.2.1 0, 8, .inl (lf []))), (q5, .inl (G.2.1 1, 8, .inl (lf [])))]) rfl ?_
  refine N_putF (pc := 41) 0 dX0_init_41 fq_RX0_26 rfl rfl rfl rfl (Nat.le_of_ble_eq_true rfl) (ws' := [(h0, .inr (0, [.null, .ref q1, .ref q2, .ref q3, .ref q4, .ref q5, .null, .int 0, .null])), (q1, .inl (G.2.1 0, 8, .inl (lf []))), (q2, .inl (G.2.1 0, 8, .inl (lf []))), (q3, .inl (G.2.1 0, 8, .inl (lf []))), (q4, .inl (G.2.1 0, 8, .inl (lf []))), (q5, .inl (G.2.1 1, 8, .inl (lf [])))]) rfl ?_
  refine N_aload (pc := 44) 0 dX0_init_44 rfl rfl ?_
  refine N_bipush (pc := 45) (8) dX0_init_45 (by decide) ?_
  refine N_newZ (pc := 47) (N := 8) dX0_init_47 ka_Z (by decide) (by decide) (by decide) ⟨Nat.le_of_ble_eq_true rfl, Nat.le_of_ble_eq_true rfl⟩ (fun q6 => ?_)
  refine N_ws (ws' := [(h0, .inr (0, [.null, .ref q1, .ref q2, .ref q3, .ref q4, .ref q5, .null, .int 0, .null])), (q1, .inl (G.2.1 0, 8, .inl (lf []))), (q2, .inl (G.2.1 0, 8, .inl (lf []))), (q3, .inl (G.2.1 0, 8, .inl (lf []))), (q4, .inl (G.2.1 0, 8, .inl (lf []))), (q5, .inl (G.2.1 1, 8, .inl (lf []))), (q6, .inl (G.2.1 1, 8, .inl (lf [])))]) rfl ?_
  refine N_putF (pc := 49) 0 dX0_init_49 fq_RX0_30 rfl rfl rfl rfl (Nat.le_of_ble_eq_true rfl) (ws' := [(h0, .inr (0, [.null, .ref q1, .ref q2, .ref q3, .ref q4, .ref q5, .ref q6, .int 0, .null])), (q1, .inl (G.2.1 0, 8, .inl (lf []))), (q2, .inl (G.2.1 0, 8, .inl (lf []))), (q3, .inl (G.2.1 0, 8, .inl (lf []))), (q4, .inl (G.2.1 0, 8, .inl (lf []))), (q5, .inl (G.2.1 1, 8, .inl (lf []))), (q6, .inl (G.2.1 1, 8, .inl (lf [])))]) rfl ?_
  refine N_aload (pc := 52) 0 dX0_init_52 rfl rfl ?_
  refine N_sipush (pc := 53) (128) dX0_init_53 (by decide) ?_
  refine N_newI (pc := 56) (N := 128) dX0_init_56 ka_I (by decide) (by decide) (by decide) ⟨Nat.le_of_ble_eq_true rfl, Nat.le_of_ble_eq_true rfl⟩ (fun q7 => ?_)
  refine N_ws (ws' := [(h0, .inr (0, [.null, .ref q1, .ref q2, .ref q3, .ref q4, .ref q5, .ref q6, .int 0, .null])), (q1, .inl (G.2.1 0, 8, .inl (lf []))), (q2, .inl (G.2.1 0, 8, .inl (lf []))), (q3, .inl (G.2.1 0, 8, .inl (lf []))), (q4, .inl (G.2.1 0, 8, .inl (lf []))), (q5, .inl (G.2.1 1, 8, .inl (lf []))), (q6, .inl (G.2.1 1, 8, .inl (lf []))), (q7, .inl (G.2.1 0, 128, .inl (lf [])))]) rfl ?_
  refine N_putF (pc := 58) 0 dX0_init_58 fq_RX0_33 rfl rfl rfl rfl (Nat.le_of_ble_eq_true rfl) (ws' := [(h0, .inr (0, [.null, .ref q1, .ref q2, .ref q3, .ref q4, .ref q5, .ref q6, .int 0, .ref q7])), (q1, .inl (G.2.1 0, 8, .inl (lf []))), (q2, .inl (G.2.1 0, 8, .inl (lf []))), (q3, .inl (G.2.1 0, 8, .inl (lf []))), (q4, .inl (G.2.1 0, 8, .inl (lf []))), (q5, .inl (G.2.1 1, 8, .inl (lf []))), (q6, .inl (G.2.1 1, 8, .inl (lf []))), (q7, .inl (G.2.1 0, 128, .inl (lf [])))]) rfl ?_
  refine N_aload (pc := 61) 0 dX0_init_61 rfl rfl ?_
  refine N_aload (pc := 62) 1 dX0_init_62 rfl rfl ?_
  refine N_putF (pc := 63) 0 dX0_init_63 fq_RX0_36 rfl rfl rfl rfl (Nat.le_of_ble_eq_true rfl) (ws' := [(h0, .inr (0, [.ref r0, .ref q1, .ref q2, .ref q3, .ref q4, .ref q5, .ref q6, .int 0, .ref q7])), (q1, .inl (G.2.1 0, 8, .inl (lf []))), (q2, .inl (G.2.1 0, 8, .inl (lf []))), (q3, .inl (G.2.1 0, 8, .inl (lf []))), (q4, .inl (G.2.1 0, 8, .inl (lf []))), (q5, .inl (G.2.1 1, 8, .inl (lf []))), (q6, .inl (G.2.1 1, 8, .inl (lf []))), (q7, .inl (G.2.1 0, 128, .inl (lf [])))]) rfl ?_
  refine N_cs (cells' := 7) (slots' := 176) rfl rfl ?_
  exact N_ret (pc := 66) dX0_init_66 rfl ⟨q1, q2, q3, q4, q5, q6, q7, rfl⟩
