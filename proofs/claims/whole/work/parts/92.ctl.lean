/-! links of constructors (by program) -/
theorem ko_RX5 : Cond.methodLink RX5 1 objectInit ∈ TB ∧ Cond.instanceMethod objectInit ∈ TB ∧ Cond.code objectInit ⟨#[0xb1]⟩ 1 none ∈ TB := ⟨TB_mem (mt1 30 rfl) rfl, TB_mem (mt1 23 rfl) rfl, TB_mem (mt1 24 rfl) rfl⟩
theorem ka_I : Cond.arrayClass .int ∈ TB := TB_mem (mt1 41 rfl) rfl
theorem fq_RX5_9 : FQ RX5 9 5 0 true (.array .int) := ⟨RX5, TX5, 2, tyX5, rfl, by decide, TB_mem (mt1 31 rfl) rfl, uw5, tyX5_ok, nmX5, rfl, rfl, rfl⟩
theorem ko_RX1 : Cond.methodLink RX1 3 objectInit ∈ TB ∧ Cond.instanceMethod objectInit ∈ TB ∧ Cond.code objectInit ⟨#[0xb1]⟩ 1 none ∈ TB := ⟨TB_mem (mt1 47 rfl) rfl, TB_mem (mt1 23 rfl) rfl, TB_mem (mt1 24 rfl) rfl⟩
theorem fq_RX1_11 : FQ RX1 11 1 0 true (.array .int) := ⟨RX1, TX1, 7, tyX1, rfl, by decide, TB_mem (mt1 48 rfl) rfl, uw1, tyX1_ok, nmX1, rfl, rfl, rfl⟩
theorem ko_RX3 : Cond.methodLink RX3 3 objectInit ∈ TB ∧ Cond.instanceMethod objectInit ∈ TB ∧ Cond.code objectInit ⟨#[0xb1]⟩ 1 none ∈ TB := ⟨TB_mem (mt1 78 rfl) rfl, TB_mem (mt1 23 rfl) rfl, TB_mem (mt1 24 rfl) rfl⟩
theorem fq_RX3_11 : FQ RX3 11 3 0 true (.array .int) := ⟨RX3, TX3, 1, tyX3, rfl, by decide, TB_mem (mt1 84 rfl) rfl, uw3, tyX3_ok, nmX3, rfl, rfl, rfl⟩
theorem ko_RX6 : Cond.methodLink RX6 5 objectInit ∈ TB ∧ Cond.instanceMethod objectInit ∈ TB ∧ Cond.code objectInit ⟨#[0xb1]⟩ 1 none ∈ TB := ⟨TB_mem (mt1 97 rfl) rfl, TB_mem (mt1 23 rfl) rfl, TB_mem (mt1 24 rfl) rfl⟩
theorem fq_RX6_11 : FQ RX6 11 6 0 true (.array .int) := ⟨RX6, TX6, 3, tyX6, rfl, by decide, TB_mem (mt1 98 rfl) rfl, uw6, tyX6_ok, nmX6, rfl, rfl, rfl⟩
theorem ko_RX2 : Cond.methodLink RX2 3 objectInit ∈ TB ∧ Cond.instanceMethod objectInit ∈ TB ∧ Cond.code objectInit ⟨#[0xb1]⟩ 1 none ∈ TB := ⟨TB_mem (mt1 155 rfl) rfl, TB_mem (mt1 23 rfl) rfl, TB_mem (mt1 24 rfl) rfl⟩
theorem fq_RX2_11 : FQ RX2 11 2 0 true (.array .int) := ⟨RX2, TX2, 4, tyX2, rfl, by decide, TB_mem (mt1 156 rfl) rfl, uw2, tyX2_ok, nmX2, rfl, rfl, rfl⟩
theorem fq_RX2_15 : FQ RX2 15 2 1 true (.array .int) := ⟨RX2, TX2, 4, tyX2, rfl, by decide, TB_mem (mt1 158 rfl) rfl, uw2, tyX2_ok, nmX2, rfl, rfl, rfl⟩
theorem fq_RX2_18 : FQ RX2 18 2 2 true (.array .int) := ⟨RX2, TX2, 4, tyX2, rfl, by decide, TB_mem (mt1 160 rfl) rfl, uw2, tyX2_ok, nmX2, rfl, rfl, rfl⟩
theorem ko_RX4 : Cond.methodLink RX4 1 objectInit ∈ TB ∧ Cond.instanceMethod objectInit ∈ TB ∧ Cond.code objectInit ⟨#[0xb1]⟩ 1 none ∈ TB := ⟨TB_mem (mt1 178 rfl) rfl, TB_mem (mt1 23 rfl) rfl, TB_mem (mt1 24 rfl) rfl⟩
theorem fq_RX4_9 : FQ RX4 9 4 0 false (.int) := ⟨RX4, TX4, 3, tyX4, rfl, by decide, TB_mem (mt1 179 rfl) rfl, uw4, tyX4_ok, nmX4, rfl, rfl, rfl⟩
theorem fq_RX4_13 : FQ RX4 13 4 2 true (.array .int) := ⟨RX4, TX4, 3, tyX4, rfl, by decide, TB_mem (mt1 182 rfl) rfl, uw4, tyX4_ok, nmX4, rfl, rfl, rfl⟩
theorem ko_RX0 : Cond.methodLink RX0 5 objectInit ∈ TB ∧ Cond.instanceMethod objectInit ∈ TB ∧ Cond.code objectInit ⟨#[0xb1]⟩ 1 none ∈ TB := ⟨TB_mem (mt1 119 rfl) rfl, TB_mem (mt1 23 rfl) rfl, TB_mem (mt1 24 rfl) rfl⟩
theorem fq_RX0_11 : FQ RX0 11 0 1 true (.array .int) := ⟨RX0, TX0, 9, tyX0, rfl, by decide, TB_mem (mt1 121 rfl) rfl, uw0, tyX0_ok, nmX0, rfl, rfl, rfl⟩
theorem fq_RX0_17 : FQ RX0 17 0 2 true (.array .int) := ⟨RX0, TX0, 9, tyX0, rfl, by decide, TB_mem (mt1 122 rfl) rfl, uw0, tyX0_ok, nmX0, rfl, rfl, rfl⟩
theorem fq_RX0_20 : FQ RX0 20 0 3 true (.array .int) := ⟨RX0, TX0, 9, tyX0, rfl, by decide, TB_mem (mt1 123 rfl) rfl, uw0, tyX0_ok, nmX0, rfl, rfl, rfl⟩
theorem fq_RX0_23 : FQ RX0 23 0 4 true (.array .int) := ⟨RX0, TX0, 9, tyX0, rfl, by decide, TB_mem (mt1 124 rfl) rfl, uw0, tyX0_ok, nmX0, rfl, rfl, rfl⟩
theorem ka_Z : Cond.arrayClass .boolean ∈ TB := TB_mem (mt1 149 rfl) rfl
theorem fq_RX0_26 : FQ RX0 26 0 5 true (.array .boolean) := ⟨RX0, TX0, 9, tyX0, rfl, by decide, TB_mem (mt1 126 rfl) rfl, uw0, tyX0_ok, nmX0, rfl, rfl, rfl⟩
theorem fq_RX0_30 : FQ RX0 30 0 6 true (.array .boolean) := ⟨RX0, TX0, 9, tyX0, rfl, by decide, TB_mem (mt1 127 rfl) rfl, uw0, tyX0_ok, nmX0, rfl, rfl, rfl⟩
theorem fq_RX0_33 : FQ RX0 33 0 8 true (.array .int) := ⟨RX0, TX0, 9, tyX0, rfl, by decide, TB_mem (mt1 129 rfl) rfl, uw0, tyX0_ok, nmX0, rfl, rfl, rfl⟩
theorem fq_RX0_36 : FQ RX0 36 0 0 true (.object RX3) := ⟨RX0, TX0, 9, tyX0, rfl, by decide, TB_mem (mt1 120 rfl) rfl, uw0, tyX0_ok, nmX0, rfl, rfl, rfl⟩
theorem ko_RX7 : Cond.methodLink RX7 1 objectInit ∈ TB ∧ Cond.instanceMethod objectInit ∈ TB ∧ Cond.code objectInit ⟨#[0xb1]⟩ 1 none ∈ TB := ⟨TB_mem (mt1 22 rfl) rfl, TB_mem (mt1 23 rfl) rfl, TB_mem (mt1 24 rfl) rfl⟩
theorem kw_RX7_7 : Cond.classLink RX7 7 RX5 ∈ TB ∧ Cond.instantiable RX5 2 ∈ TB ∧ Cond.initialized RX5 ∈ TB := ⟨TB_mem (mt1 25 rfl) rfl, TB_mem (mt1 26 rfl) rfl, TB_mem (mt1 2 rfl) rfl⟩
theorem kd_X5 : ∀ j, j < 2 → defaultValue (tyX5 j) = vp_V [.null, .int 0] j := fun j hj => by rcases (show j = 0 ∨ j = 1 by omega) with rfl | rfl <;> rfl
theorem kjn_RX7_9 : LkJ RX7 9 mX5_init 0 := ⟨(fun _ _ _ _ h => h.2.2.1.1), TB_mem (mt1 2 rfl) rfl, TB_mem (mt1 29 rfl) rfl, TB_mem (mt1 28 rfl) rfl, rfl, ⟨by decide, by decide, by decide +kernel⟩, rfl⟩
theorem fq_RX7_10 : FQ RX7 10 7 0 true (.object RX5) := ⟨RX7, TX7, 10, tyX7, rfl, by decide, TB_mem (mt1 190 rfl) rfl, uw7, tyX7_ok, nmX7, rfl, rfl, rfl⟩
theorem kw_RX7_16 : Cond.classLink RX7 16 RX1 ∈ TB ∧ Cond.instantiable RX1 7 ∈ TB ∧ Cond.initialized RX1 ∈ TB := ⟨TB_mem (mt1 42 rfl) rfl, TB_mem (mt1 43 rfl) rfl, TB_mem (mt1 3 rfl) rfl⟩
theorem kd_X1 : ∀ j, j < 7 → defaultValue (tyX1 j) = vp_V [.null, .int 0, .int 0, .int 0, .int 0, .int 0, .int 0] j := fun j hj => by rcases (show j = 0 ∨ j = 1 ∨ j = 2 ∨ j = 3 ∨ j = 4 ∨ j = 5 ∨ j = 6 by omega) with rfl | rfl | rfl | rfl | rfl | rfl | rfl <;> rfl
theorem kjn_RX7_18 : LkJ RX7 18 mX1_init 0 := ⟨(fun _ _ _ _ h => h.2.2.1.2.1), TB_mem (mt1 3 rfl) rfl, TB_mem (mt1 46 rfl) rfl, TB_mem (mt1 45 rfl) rfl, rfl, ⟨by decide, by decide, by decide +kernel⟩, rfl⟩
theorem fq_RX7_19 : FQ RX7 19 7 1 true (.object RX1) := ⟨RX7, TX7, 10, tyX7, rfl, by decide, TB_mem (mt1 191 rfl) rfl, uw7, tyX7_ok, nmX7, rfl, rfl, rfl⟩
theorem kw_RX7_23 : Cond.classLink RX7 23 RX3 ∈ TB ∧ Cond.instantiable RX3 1 ∈ TB ∧ Cond.initialized RX3 ∈ TB := ⟨TB_mem (mt1 73 rfl) rfl, TB_mem (mt1 74 rfl) rfl, TB_mem (mt1 4 rfl) rfl⟩
theorem kd_X3 : ∀ j, j < 1 → defaultValue (tyX3 j) = vp_V [.null] j := fun j hj => by rcases (show j = 0 by omega) with rfl <;> rfl
theorem kin_RX7_25 : LkI RX7 25 mX3_init 0 := ⟨TB_mem (mt1 75 rfl) rfl, TB_mem (mt1 4 rfl) rfl, TB_mem (mt1 77 rfl) rfl, TB_mem (mt1 76 rfl) rfl, rfl, ⟨by decide, by decide, by decide +kernel⟩, rfl⟩
theorem fq_RX7_26 : FQ RX7 26 7 2 true (.object RX3) := ⟨RX7, TX7, 10, tyX7, rfl, by decide, TB_mem (mt1 192 rfl) rfl, uw7, tyX7_ok, nmX7, rfl, rfl, rfl⟩
theorem kl_RX7_30 : Cond.classLink RX7 30 RX6 ∈ TB := TB_mem (mt1 91 rfl) rfl
theorem fq_RX7_32 : FQ RX7 32 7 3 true (.array (.object RX6)) := ⟨RX7, TX7, 10, tyX7, rfl, by decide, TB_mem (mt1 193 rfl) rfl, uw7, tyX7_ok, nmX7, rfl, rfl, rfl⟩
theorem kw_RX7_30 : Cond.classLink RX7 30 RX6 ∈ TB ∧ Cond.instantiable RX6 3 ∈ TB ∧ Cond.initialized RX6 ∈ TB := ⟨TB_mem (mt1 91 rfl) rfl, TB_mem (mt1 93 rfl) rfl, TB_mem (mt1 6 rfl) rfl⟩
theorem kd_X6 : ∀ j, j < 3 → defaultValue (tyX6 j) = vp_V [.null, .int 0, .int 0] j := fun j hj => by rcases (show j = 0 ∨ j = 1 ∨ j = 2 by omega) with rfl | rfl | rfl <;> rfl
theorem kjn_RX7_36 : LkJ RX7 36 mX6_init 0 := ⟨(fun _ _ _ _ h => h.2.2.1.2.2.1), TB_mem (mt1 6 rfl) rfl, TB_mem (mt1 96 rfl) rfl, TB_mem (mt1 95 rfl) rfl, rfl, ⟨by decide, by decide, by decide +kernel⟩, rfl⟩
theorem fq_RX7_37 : FQ RX7 37 7 4 true (.object RX6) := ⟨RX7, TX7, 10, tyX7, rfl, by decide, TB_mem (mt1 194 rfl) rfl, uw7, tyX7_ok, nmX7, rfl, rfl, rfl⟩
theorem kw_RX7_41 : Cond.classLink RX7 41 RX0 ∈ TB ∧ Cond.instantiable RX0 9 ∈ TB ∧ Cond.initialized RX0 ∈ TB := ⟨TB_mem (mt1 114 rfl) rfl, TB_mem (mt1 115 rfl) rfl, TB_mem (mt1 7 rfl) rfl⟩
theorem kd_X0 : ∀ j, j < 9 → defaultValue (tyX0 j) = vp_V [.null, .null, .null, .null, .null, .null, .null, .int 0, .null] j := fun j hj => by rcases (show j = 0 ∨ j = 1 ∨ j = 2 ∨ j = 3 ∨ j = 4 ∨ j = 5 ∨ j = 6 ∨ j = 7 ∨ j = 8 by omega) with rfl | rfl | rfl | rfl | rfl | rfl | rfl | rfl | rfl <;> rfl
theorem kin_RX7_43 : LkI RX7 43 mX0_init 1 := ⟨TB_mem (mt1 116 rfl) rfl, TB_mem (mt1 7 rfl) rfl, TB_mem (mt1 118 rfl) rfl, TB_mem (mt1 117 rfl) rfl, rfl, ⟨by decide, by decide, by decide +kernel⟩, rfl⟩
theorem fq_RX7_46 : FQ RX7 46 7 5 true (.object RX0) := ⟨RX7, TX7, 10, tyX7, rfl, by decide, TB_mem (mt1 195 rfl) rfl, uw7, tyX7_ok, nmX7, rfl, rfl, rfl⟩
theorem fq_RX7_50 : FQ RX7 50 7 6 true (.array .int) := ⟨RX7, TX7, 10, tyX7, rfl, by decide, TB_mem (mt1 196 rfl) rfl, uw7, tyX7_ok, nmX7, rfl, rfl, rfl⟩
theorem kw_RX7_54 : Cond.classLink RX7 54 RX2 ∈ TB ∧ Cond.instantiable RX2 4 ∈ TB ∧ Cond.initialized RX2 ∈ TB := ⟨TB_mem (mt1 150 rfl) rfl, TB_mem (mt1 151 rfl) rfl, TB_mem (mt1 8 rfl) rfl⟩
theorem kd_X2 : ∀ j, j < 4 → defaultValue (tyX2 j) = vp_V [.null, .null, .null, .int 0] j := fun j hj => by rcases (show j = 0 ∨ j = 1 ∨ j = 2 ∨ j = 3 by omega) with rfl | rfl | rfl | rfl <;> rfl
theorem kjn_RX7_56 : LkJ RX7 56 mX2_init 0 := ⟨(fun _ _ _ _ h => h.2.2.1.2.2.2.1), TB_mem (mt1 8 rfl) rfl, TB_mem (mt1 154 rfl) rfl, TB_mem (mt1 153 rfl) rfl, rfl, ⟨by decide, by decide, by decide +kernel⟩, rfl⟩
theorem fq_RX7_57 : FQ RX7 57 7 7 true (.object RX2) := ⟨RX7, TX7, 10, tyX7, rfl, by decide, TB_mem (mt1 197 rfl) rfl, uw7, tyX7_ok, nmX7, rfl, rfl, rfl⟩
theorem kl_RX7_61 : Cond.classLink RX7 61 RX4 ∈ TB := TB_mem (mt1 172 rfl) rfl
theorem fq_RX7_63 : FQ RX7 63 7 8 true (.array (.object RX4)) := ⟨RX7, TX7, 10, tyX7, rfl, by decide, TB_mem (mt1 198 rfl) rfl, uw7, tyX7_ok, nmX7, rfl, rfl, rfl⟩
theorem kw_RX7_61 : Cond.classLink RX7 61 RX4 ∈ TB ∧ Cond.instantiable RX4 3 ∈ TB ∧ Cond.initialized RX4 ∈ TB := ⟨TB_mem (mt1 172 rfl) rfl, TB_mem (mt1 174 rfl) rfl, TB_mem (mt1 9 rfl) rfl⟩
theorem kd_X4 : ∀ j, j < 3 → defaultValue (tyX4 j) = vp_V [.int 0, .int 0, .null] j := fun j hj => by rcases (show j = 0 ∨ j = 1 ∨ j = 2 by omega) with rfl | rfl | rfl <;> rfl
theorem kjn_RX7_67 : LkJ RX7 67 mX4_init 0 := ⟨(fun _ _ _ _ h => h.2.2.1.2.2.2.2), TB_mem (mt1 9 rfl) rfl, TB_mem (mt1 177 rfl) rfl, TB_mem (mt1 176 rfl) rfl, rfl, ⟨by decide, by decide, by decide +kernel⟩, rfl⟩
theorem ko_RX8 : Cond.methodLink RX8 1 objectInit ∈ TB ∧ Cond.instanceMethod objectInit ∈ TB ∧ Cond.code objectInit ⟨#[0xb1]⟩ 1 none ∈ TB := ⟨TB_mem (mt4 74 rfl) rfl, TB_mem (mt1 23 rfl) rfl, TB_mem (mt1 24 rfl) rfl⟩
theorem fq_RX8_7 : FQ RX8 7 8 0 true (.array .int) := ⟨RX8, TX8, 30, tyX8, rfl, by decide, TB_mem (mt4 75 rfl) rfl, uw8, tyX8_ok, nmX8, rfl, rfl, rfl⟩
theorem fq_RX8_13 : FQ RX8 13 8 9 true (.array .int) := ⟨RX8, TX8, 30, tyX8, rfl, by decide, TB_mem (mt4 84 rfl) rfl, uw8, tyX8_ok, nmX8, rfl, rfl, rfl⟩
theorem fq_RX8_16 : FQ RX8 16 8 10 true (.array .int) := ⟨RX8, TX8, 30, tyX8, rfl, by decide, TB_mem (mt4 85 rfl) rfl, uw8, tyX8_ok, nmX8, rfl, rfl, rfl⟩
theorem fq_RX8_19 : FQ RX8 19 8 11 true (.array .int) := ⟨RX8, TX8, 30, tyX8, rfl, by decide, TB_mem (mt4 86 rfl) rfl, uw8, tyX8_ok, nmX8, rfl, rfl, rfl⟩
theorem fq_RX8_22 : FQ RX8 22 8 12 true (.array .int) := ⟨RX8, TX8, 30, tyX8, rfl, by decide, TB_mem (mt4 87 rfl) rfl, uw8, tyX8_ok, nmX8, rfl, rfl, rfl⟩
theorem fq_RX8_25 : FQ RX8 25 8 13 true (.array .int) := ⟨RX8, TX8, 30, tyX8, rfl, by decide, TB_mem (mt4 88 rfl) rfl, uw8, tyX8_ok, nmX8, rfl, rfl, rfl⟩
theorem fq_RX8_28 : FQ RX8 28 8 14 true (.array .int) := ⟨RX8, TX8, 30, tyX8, rfl, by decide, TB_mem (mt4 89 rfl) rfl, uw8, tyX8_ok, nmX8, rfl, rfl, rfl⟩
theorem fq_RX8_31 : FQ RX8 31 8 15 true (.array .int) := ⟨RX8, TX8, 30, tyX8, rfl, by decide, TB_mem (mt4 90 rfl) rfl, uw8, tyX8_ok, nmX8, rfl, rfl, rfl⟩
theorem fq_RX8_34 : FQ RX8 34 8 17 true (.array .int) := ⟨RX8, TX8, 30, tyX8, rfl, by decide, TB_mem (mt4 92 rfl) rfl, uw8, tyX8_ok, nmX8, rfl, rfl, rfl⟩
theorem fq_RX8_37 : FQ RX8 37 8 18 true (.array .int) := ⟨RX8, TX8, 30, tyX8, rfl, by decide, TB_mem (mt4 93 rfl) rfl, uw8, tyX8_ok, nmX8, rfl, rfl, rfl⟩
theorem fq_RX8_40 : FQ RX8 40 8 19 true (.array .int) := ⟨RX8, TX8, 30, tyX8, rfl, by decide, TB_mem (mt4 94 rfl) rfl, uw8, tyX8_ok, nmX8, rfl, rfl, rfl⟩
theorem fq_RX8_43 : FQ RX8 43 8 20 true (.array .int) := ⟨RX8, TX8, 30, tyX8, rfl, by decide, TB_mem (mt4 95 rfl) rfl, uw8, tyX8_ok, nmX8, rfl, rfl, rfl⟩
theorem fq_RX8_46 : FQ RX8 46 8 21 true (.array .int) := ⟨RX8, TX8, 30, tyX8, rfl, by decide, TB_mem (mt4 96 rfl) rfl, uw8, tyX8_ok, nmX8, rfl, rfl, rfl⟩
theorem fq_RX8_49 : FQ RX8 49 8 23 true (.array .int) := ⟨RX8, TX8, 30, tyX8, rfl, by decide, TB_mem (mt4 98 rfl) rfl, uw8, tyX8_ok, nmX8, rfl, rfl, rfl⟩
theorem fq_RX8_52 : FQ RX8 52 8 24 true (.array .int) := ⟨RX8, TX8, 30, tyX8, rfl, by decide, TB_mem (mt4 99 rfl) rfl, uw8, tyX8_ok, nmX8, rfl, rfl, rfl⟩
theorem fq_RX8_55 : FQ RX8 55 8 25 true (.array .int) := ⟨RX8, TX8, 30, tyX8, rfl, by decide, TB_mem (mt4 100 rfl) rfl, uw8, tyX8_ok, nmX8, rfl, rfl, rfl⟩
theorem fq_RX8_58 : FQ RX8 58 8 26 true (.array .int) := ⟨RX8, TX8, 30, tyX8, rfl, by decide, TB_mem (mt4 101 rfl) rfl, uw8, tyX8_ok, nmX8, rfl, rfl, rfl⟩
theorem fq_RX8_61 : FQ RX8 61 8 27 true (.array .int) := ⟨RX8, TX8, 30, tyX8, rfl, by decide, TB_mem (mt4 102 rfl) rfl, uw8, tyX8_ok, nmX8, rfl, rfl, rfl⟩
theorem fq_RX8_64 : FQ RX8 64 8 28 true (.array .int) := ⟨RX8, TX8, 30, tyX8, rfl, by decide, TB_mem (mt4 103 rfl) rfl, uw8, tyX8_ok, nmX8, rfl, rfl, rfl⟩
theorem kw_RL_7 : Cond.classLink RL 7 RX7 ∈ TB ∧ Cond.instantiable RX7 10 ∈ TB ∧ Cond.initialized RX7 ∈ TB := ⟨TB_mem (mt1 17 rfl) rfl, TB_mem (mt1 18 rfl) rfl, TB_mem (mt1 1 rfl) rfl⟩
theorem kd_X7 : ∀ j, j < 10 → defaultValue (tyX7 j) = vp_V [.null, .null, .null, .null, .null, .null, .null, .null, .null, .int 0] j := fun j hj => by rcases (show j = 0 ∨ j = 1 ∨ j = 2 ∨ j = 3 ∨ j = 4 ∨ j = 5 ∨ j = 6 ∨ j = 7 ∨ j = 8 ∨ j = 9 by omega) with rfl | rfl | rfl | rfl | rfl | rfl | rfl | rfl | rfl | rfl <;> rfl
theorem kin_RL_9 : LkI RL 9 mX7_init 0 := ⟨TB_mem (mt1 19 rfl) rfl, TB_mem (mt1 1 rfl) rfl, TB_mem (mt1 21 rfl) rfl, TB_mem (mt1 20 rfl) rfl, rfl, ⟨by decide, by decide, by decide +kernel⟩, rfl⟩
theorem kw_RL_10 : Cond.classLink RL 10 RX8 ∈ TB ∧ Cond.instantiable RX8 30 ∈ TB ∧ Cond.initialized RX8 ∈ TB := ⟨TB_mem (mt4 69 rfl) rfl, TB_mem (mt4 70 rfl) rfl, TB_mem (mt1 10 rfl) rfl⟩
theorem kd_X8 : ∀ j, j < 30 → defaultValue (tyX8 j) = vp_V [.null, .int 0, .int 0, .int 0, .int 0, .int 0, .int 0, .int 0, .int 0, .null, .null, .null, .null, .null, .null, .null, .int 0, .null, .null, .null, .null, .null, .int 0, .null, .null, .null, .null, .null, .null, .int 0] j := fun j hj => by rcases (show j = 0 ∨ j = 1 ∨ j = 2 ∨ j = 3 ∨ j = 4 ∨ j = 5 ∨ j = 6 ∨ j = 7 ∨ j = 8 ∨ j = 9 ∨ j = 10 ∨ j = 11 ∨ j = 12 ∨ j = 13 ∨ j = 14 ∨ j = 15 ∨ j = 16 ∨ j = 17 ∨ j = 18 ∨ j = 19 ∨ j = 20 ∨ j = 21 ∨ j = 22 ∨ j = 23 ∨ j = 24 ∨ j = 25 ∨ j = 26 ∨ j = 27 ∨ j = 28 ∨ j = 29 by omega) with rfl | rfl | rfl | rfl | rfl | rfl | rfl | rfl | rfl | rfl | rfl | rfl | rfl | rfl | rfl | rfl | rfl | rfl | rfl | rfl | rfl | rfl | rfl | rfl | rfl | rfl | rfl | rfl | rfl | rfl <;> rfl
theorem kin_RL_12 : LkI RL 12 mX8_init 0 := ⟨TB_mem (mt4 71 rfl) rfl, TB_mem (mt1 10 rfl) rfl, TB_mem (mt4 73 rfl) rfl, TB_mem (mt4 72 rfl) rfl, rfl, ⟨by decide, by decide, by decide +kernel⟩, rfl⟩
