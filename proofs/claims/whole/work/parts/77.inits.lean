/-! ===== the constructors ===== -/
abbrev zd0 : List Value := [.int 0, .null, .null, .null, .int 0, .null, .null, .null, .int 0, .int 0, .int 0]
theorem zdf0 : ∀ j, j < 11 → defaultValue (tyX0 j) = vp_V zd0 j := by
  intro j hj
  rcases (show j = 0 ∨ j = 1 ∨ j = 2 ∨ j = 3 ∨ j = 4 ∨ j = 5 ∨ j = 6 ∨ j = 7 ∨ j = 8 ∨ j = 9 ∨ j = 10 by omega) with rfl | rfl | rfl | rfl | rfl | rfl | rfl | rfl | rfl | rfl | rfl <;> rfl
abbrev zd1 : List Value := [.int 0, .null, .null]
theorem zdf1 : ∀ j, j < 3 → defaultValue (tyX1 j) = vp_V zd1 j := by
  intro j hj
  rcases (show j = 0 ∨ j = 1 ∨ j = 2 by omega) with rfl | rfl | rfl <;> rfl
abbrev zd2 : List Value := [.null, .int 0, .null, .int 0, .int 0, .int 0, .null, .int 0, .int 0, .int 0, .int 0, .int 0, .int 0, .int 0, .int 0]
theorem zdf2 : ∀ j, j < 15 → defaultValue (tyX2 j) = vp_V zd2 j := by
  intro j hj
  rcases (show j = 0 ∨ j = 1 ∨ j = 2 ∨ j = 3 ∨ j = 4 ∨ j = 5 ∨ j = 6 ∨ j = 7 ∨ j = 8 ∨ j = 9 ∨ j = 10 ∨ j = 11 ∨ j = 12 ∨ j = 13 ∨ j = 14 by omega) with rfl | rfl | rfl | rfl | rfl | rfl | rfl | rfl | rfl | rfl | rfl | rfl | rfl | rfl | rfl <;> rfl
abbrev zd3 : List Value := [.int 0, .int 0, .null]
theorem zdf3 : ∀ j, j < 3 → defaultValue (tyX3 j) = vp_V zd3 j := by
  intro j hj
  rcases (show j = 0 ∨ j = 1 ∨ j = 2 by omega) with rfl | rfl | rfl <;> rfl
abbrev zd4 : List Value := [.int 0, .null, .null, .null]
theorem zdf4 : ∀ j, j < 4 → defaultValue (tyX4 j) = vp_V zd4 j := by
  intro j hj
  rcases (show j = 0 ∨ j = 1 ∨ j = 2 ∨ j = 3 by omega) with rfl | rfl | rfl | rfl <;> rfl
abbrev zd5 : List Value := [.null, .null, .null, .null, .null, .null, .null, .null, .int 0]
theorem zdf5 : ∀ j, j < 9 → defaultValue (tyX5 j) = vp_V zd5 j := by
  intro j hj
  rcases (show j = 0 ∨ j = 1 ∨ j = 2 ∨ j = 3 ∨ j = 4 ∨ j = 5 ∨ j = 6 ∨ j = 7 ∨ j = 8 by omega) with rfl | rfl | rfl | rfl | rfl | rfl | rfl | rfl | rfl <;> rfl
abbrev zd6 : List Value := [.null, .null, .null, .int 0, .null, .int 0, .int 0, .int 0, .int 0, .null, .int 0, .int 0, .int 0, .int 0, .int 0, .int 0, .int 0, .int 0, .int 0, .long 0, .long 0, .long 0, .null, .null, .null, .null, .null, .int 0, .null]
theorem zdf6 : ∀ j, j < 29 → defaultValue (tyX6 j) = vp_V zd6 j := by
  intro j hj
  rcases (show j = 0 ∨ j = 1 ∨ j = 2 ∨ j = 3 ∨ j = 4 ∨ j = 5 ∨ j = 6 ∨ j = 7 ∨ j = 8 ∨ j = 9 ∨ j = 10 ∨ j = 11 ∨ j = 12 ∨ j = 13 ∨ j = 14 ∨ j = 15 ∨ j = 16 ∨ j = 17 ∨ j = 18 ∨ j = 19 ∨ j = 20 ∨ j = 21 ∨ j = 22 ∨ j = 23 ∨ j = 24 ∨ j = 25 ∨ j = 26 ∨ j = 27 ∨ j = 28 by omega) with rfl | rfl | rfl | rfl | rfl | rfl | rfl | rfl | rfl | rfl | rfl | rfl | rfl | rfl | rfl | rfl | rfl | rfl | rfl | rfl | rfl | rfl | rfl | rfl | rfl | rfl | rfl | rfl | rfl <;> rfl
theorem YiX0 : zYi yX0_init cX0_init := ⟨(ztb_at 99 (by decide +kernel) (by decide +kernel)), (ztb_at 73 (by decide +kernel) (by decide +kernel)), ⟨by decide +kernel, by decide +kernel⟩, by decide +kernel, rfl, (ztb_at 98 (by decide +kernel) (by decide +kernel))⟩
theorem YiX1 : zYi yX1_init cX1_init := ⟨(ztb_at 175 (by decide +kernel) (by decide +kernel)), (ztb_at 75 (by decide +kernel) (by decide +kernel)), ⟨by decide +kernel, by decide +kernel⟩, by decide +kernel, rfl, (ztb_at 174 (by decide +kernel) (by decide +kernel))⟩
theorem YiX2 : zYi yX2_init cX2_init := ⟨(ztb_at 218 (by decide +kernel) (by decide +kernel)), (ztb_at 77 (by decide +kernel) (by decide +kernel)), ⟨by decide +kernel, by decide +kernel⟩, by decide +kernel, rfl, (ztb_at 217 (by decide +kernel) (by decide +kernel))⟩
theorem YiX3 : zYi yX3_init cX3_init := ⟨(ztb_at 199 (by decide +kernel) (by decide +kernel)), (ztb_at 76 (by decide +kernel) (by decide +kernel)), ⟨by decide +kernel, by decide +kernel⟩, by decide +kernel, rfl, (ztb_at 198 (by decide +kernel) (by decide +kernel))⟩
theorem YiX4 : zYi yX4_init cX4_init := ⟨(ztb_at 154 (by decide +kernel) (by decide +kernel)), (ztb_at 74 (by decide +kernel) (by decide +kernel)), ⟨by decide +kernel, by decide +kernel⟩, by decide +kernel, rfl, (ztb_at 153 (by decide +kernel) (by decide +kernel))⟩
theorem YiX5 : zYi yX5_init cX5_init := ⟨(ztb_at 91 (by decide +kernel) (by decide +kernel)), (ztb_at 72 (by decide +kernel) (by decide +kernel)), ⟨by decide +kernel, by decide +kernel⟩, by decide +kernel, rfl, (ztb_at 90 (by decide +kernel) (by decide +kernel))⟩
theorem oi_i : Cond.instanceMethod Lib.objectInit ∈ ztb := (ztb_at 93 (by decide +kernel) (by decide +kernel))
theorem oi_c : Cond.code Lib.objectInit ⟨#[0xb1]⟩ 1 none ∈ ztb := (ztb_at 94 (by decide +kernel) (by decide +kernel))
theorem oi_0 : Cond.methodLink RX0 3 Lib.objectInit ∈ ztb := (ztb_at 100 (by decide +kernel) (by decide +kernel))
theorem oi_1 : Cond.methodLink RX1 1 Lib.objectInit ∈ ztb := (ztb_at 176 (by decide +kernel) (by decide +kernel))
theorem oi_2 : Cond.methodLink RX2 3 Lib.objectInit ∈ ztb := (ztb_at 219 (by decide +kernel) (by decide +kernel))
theorem oi_3 : Cond.methodLink RX3 3 Lib.objectInit ∈ ztb := (ztb_at 200 (by decide +kernel) (by decide +kernel))
theorem oi_4 : Cond.methodLink RX4 3 Lib.objectInit ∈ ztb := (ztb_at 155 (by decide +kernel) (by decide +kernel))
theorem oi_5 : Cond.methodLink RX5 1 Lib.objectInit ∈ ztb := (ztb_at 92 (by decide +kernel) (by decide +kernel))
theorem oi_6 : Cond.methodLink RX6 1 Lib.objectInit ∈ ztb := (ztb_at 799 (by decide +kernel) (by decide +kernel))
theorem ac_int : Cond.arrayClass .int ∈ ztb := (ztb_at 149 (by decide +kernel) (by decide +kernel))
theorem ac_byte : Cond.arrayClass .byte ∈ ztb := (ztb_at 274 (by decide +kernel) (by decide +kernel))
theorem ac_boolean : Cond.arrayClass .boolean ∈ ztb := (ztb_at 275 (by decide +kernel) (by decide +kernel))
theorem cl_1_13 : Cond.classLink RX1 13 RX0 ∈ ztb := (ztb_at 177 (by decide +kernel) (by decide +kernel))
theorem cl_1_20 : Cond.classLink RX1 20 RX4 ∈ ztb := (ztb_at 179 (by decide +kernel) (by decide +kernel))
theorem cl_2_19 : Cond.classLink RX2 19 RX0 ∈ ztb := (ztb_at 220 (by decide +kernel) (by decide +kernel))
theorem cl_5_7 : Cond.classLink RX5 7 RX0 ∈ ztb := (ztb_at 95 (by decide +kernel) (by decide +kernel))
theorem cl_5_19 : Cond.classLink RX5 19 RX4 ∈ ztb := (ztb_at 150 (by decide +kernel) (by decide +kernel))
theorem cl_5_26 : Cond.classLink RX5 26 RX1 ∈ ztb := (ztb_at 170 (by decide +kernel) (by decide +kernel))
theorem cl_5_33 : Cond.classLink RX5 33 RX3 ∈ ztb := (ztb_at 194 (by decide +kernel) (by decide +kernel))
theorem cl_5_40 : Cond.classLink RX5 40 RX2 ∈ ztb := (ztb_at 214 (by decide +kernel) (by decide +kernel))
theorem cl_L_7 : Cond.classLink RL 7 RX5 ∈ ztb := (ztb_at 87 (by decide +kernel) (by decide +kernel))
theorem cl_L_10 : Cond.classLink RL 10 RX6 ∈ ztb := (ztb_at 794 (by decide +kernel) (by decide +kernel))
theorem is_0 : Cond.instantiable RX0 11 ∈ ztb := (ztb_at 96 (by decide +kernel) (by decide +kernel))
theorem iz_0 : Cond.initialized RX0 ∈ ztb := (ztb_at 73 (by decide +kernel) (by decide +kernel))
theorem is_1 : Cond.instantiable RX1 3 ∈ ztb := (ztb_at 172 (by decide +kernel) (by decide +kernel))
theorem iz_1 : Cond.initialized RX1 ∈ ztb := (ztb_at 75 (by decide +kernel) (by decide +kernel))
theorem is_2 : Cond.instantiable RX2 15 ∈ ztb := (ztb_at 215 (by decide +kernel) (by decide +kernel))
theorem iz_2 : Cond.initialized RX2 ∈ ztb := (ztb_at 77 (by decide +kernel) (by decide +kernel))
theorem is_3 : Cond.instantiable RX3 3 ∈ ztb := (ztb_at 196 (by decide +kernel) (by decide +kernel))
theorem iz_3 : Cond.initialized RX3 ∈ ztb := (ztb_at 76 (by decide +kernel) (by decide +kernel))
theorem is_4 : Cond.instantiable RX4 4 ∈ ztb := (ztb_at 151 (by decide +kernel) (by decide +kernel))
theorem iz_4 : Cond.initialized RX4 ∈ ztb := (ztb_at 74 (by decide +kernel) (by decide +kernel))
theorem is_5 : Cond.instantiable RX5 9 ∈ ztb := (ztb_at 88 (by decide +kernel) (by decide +kernel))
theorem iz_5 : Cond.initialized RX5 ∈ ztb := (ztb_at 72 (by decide +kernel) (by decide +kernel))
theorem is_6 : Cond.instantiable RX6 29 ∈ ztb := (ztb_at 795 (by decide +kernel) (by decide +kernel))
theorem iz_6 : Cond.initialized RX6 ∈ ztb := (ztb_at 78 (by decide +kernel) (by decide +kernel))
theorem pf_0_9 : Cond.fieldLink RX0 9 (TX0 0).1 (TX0 0).2.1 (TX0 0).2.2.1 ∈ ztb := (ztb_at 101 (by decide +kernel) (by decide +kernel))
theorem pf_0_15 : Cond.fieldLink RX0 15 (TX0 1).1 (TX0 1).2.1 (TX0 1).2.2.1 ∈ ztb := (ztb_at 104 (by decide +kernel) (by decide +kernel))
theorem pf_0_19 : Cond.fieldLink RX0 19 (TX0 2).1 (TX0 2).2.1 (TX0 2).2.2.1 ∈ ztb := (ztb_at 106 (by decide +kernel) (by decide +kernel))
theorem pf_0_22 : Cond.fieldLink RX0 22 (TX0 3).1 (TX0 3).2.1 (TX0 3).2.2.1 ∈ ztb := (ztb_at 109 (by decide +kernel) (by decide +kernel))
theorem pf_0_25 : Cond.fieldLink RX0 25 (TX0 4).1 (TX0 4).2.1 (TX0 4).2.2.1 ∈ ztb := (ztb_at 110 (by decide +kernel) (by decide +kernel))
theorem pf_0_28 : Cond.fieldLink RX0 28 (TX0 5).1 (TX0 5).2.1 (TX0 5).2.2.1 ∈ ztb := (ztb_at 113 (by decide +kernel) (by decide +kernel))
theorem pf_0_31 : Cond.fieldLink RX0 31 (TX0 6).1 (TX0 6).2.1 (TX0 6).2.2.1 ∈ ztb := (ztb_at 115 (by decide +kernel) (by decide +kernel))
theorem pf_0_34 : Cond.fieldLink RX0 34 (TX0 7).1 (TX0 7).2.1 (TX0 7).2.2.1 ∈ ztb := (ztb_at 117 (by decide +kernel) (by decide +kernel))
theorem pf_0_37 : Cond.fieldLink RX0 37 (TX0 8).1 (TX0 8).2.1 (TX0 8).2.2.1 ∈ ztb := (ztb_at 119 (by decide +kernel) (by decide +kernel))
theorem pf_0_40 : Cond.fieldLink RX0 40 (TX0 9).1 (TX0 9).2.1 (TX0 9).2.2.1 ∈ ztb := (ztb_at 122 (by decide +kernel) (by decide +kernel))
theorem pf_0_43 : Cond.fieldLink RX0 43 (TX0 10).1 (TX0 10).2.1 (TX0 10).2.2.1 ∈ ztb := (ztb_at 124 (by decide +kernel) (by decide +kernel))
theorem pf_1_7 : Cond.fieldLink RX1 7 (TX1 0).1 (TX1 0).2.1 (TX1 0).2.2.1 ∈ ztb := (ztb_at 181 (by decide +kernel) (by decide +kernel))
theorem pf_1_16 : Cond.fieldLink RX1 16 (TX1 1).1 (TX1 1).2.1 (TX1 1).2.2.1 ∈ ztb := (ztb_at 183 (by decide +kernel) (by decide +kernel))
theorem pf_1_23 : Cond.fieldLink RX1 23 (TX1 2).1 (TX1 2).2.1 (TX1 2).2.2.1 ∈ ztb := (ztb_at 185 (by decide +kernel) (by decide +kernel))
theorem pf_2_9 : Cond.fieldLink RX2 9 (TX2 0).1 (TX2 0).2.1 (TX2 0).2.2.1 ∈ ztb := (ztb_at 222 (by decide +kernel) (by decide +kernel))
theorem pf_2_15 : Cond.fieldLink RX2 15 (TX2 1).1 (TX2 1).2.1 (TX2 1).2.2.1 ∈ ztb := (ztb_at 224 (by decide +kernel) (by decide +kernel))
theorem pf_2_22 : Cond.fieldLink RX2 22 (TX2 2).1 (TX2 2).2.1 (TX2 2).2.2.1 ∈ ztb := (ztb_at 226 (by decide +kernel) (by decide +kernel))
theorem pf_2_26 : Cond.fieldLink RX2 26 (TX2 3).1 (TX2 3).2.1 (TX2 3).2.2.1 ∈ ztb := (ztb_at 228 (by decide +kernel) (by decide +kernel))
theorem pf_2_29 : Cond.fieldLink RX2 29 (TX2 4).1 (TX2 4).2.1 (TX2 4).2.2.1 ∈ ztb := (ztb_at 230 (by decide +kernel) (by decide +kernel))
theorem pf_2_32 : Cond.fieldLink RX2 32 (TX2 5).1 (TX2 5).2.1 (TX2 5).2.2.1 ∈ ztb := (ztb_at 232 (by decide +kernel) (by decide +kernel))
theorem pf_2_35 : Cond.fieldLink RX2 35 (TX2 6).1 (TX2 6).2.1 (TX2 6).2.2.1 ∈ ztb := (ztb_at 234 (by decide +kernel) (by decide +kernel))
theorem pf_2_39 : Cond.fieldLink RX2 39 (TX2 7).1 (TX2 7).2.1 (TX2 7).2.2.1 ∈ ztb := (ztb_at 235 (by decide +kernel) (by decide +kernel))
theorem pf_2_43 : Cond.fieldLink RX2 43 (TX2 8).1 (TX2 8).2.1 (TX2 8).2.2.1 ∈ ztb := (ztb_at 236 (by decide +kernel) (by decide +kernel))
theorem pf_2_46 : Cond.fieldLink RX2 46 (TX2 9).1 (TX2 9).2.1 (TX2 9).2.2.1 ∈ ztb := (ztb_at 237 (by decide +kernel) (by decide +kernel))
theorem pf_2_49 : Cond.fieldLink RX2 49 (TX2 10).1 (TX2 10).2.1 (TX2 10).2.2.1 ∈ ztb := (ztb_at 238 (by decide +kernel) (by decide +kernel))
theorem pf_2_52 : Cond.fieldLink RX2 52 (TX2 11).1 (TX2 11).2.1 (TX2 11).2.2.1 ∈ ztb := (ztb_at 239 (by decide +kernel) (by decide +kernel))
theorem pf_2_55 : Cond.fieldLink RX2 55 (TX2 12).1 (TX2 12).2.1 (TX2 12).2.2.1 ∈ ztb := (ztb_at 240 (by decide +kernel) (by decide +kernel))
theorem pf_2_58 : Cond.fieldLink RX2 58 (TX2 13).1 (TX2 13).2.1 (TX2 13).2.2.1 ∈ ztb := (ztb_at 241 (by decide +kernel) (by decide +kernel))
theorem pf_2_61 : Cond.fieldLink RX2 61 (TX2 14).1 (TX2 14).2.1 (TX2 14).2.2.1 ∈ ztb := (ztb_at 242 (by decide +kernel) (by decide +kernel))
theorem pf_3_9 : Cond.fieldLink RX3 9 (TX3 0).1 (TX3 0).2.1 (TX3 0).2.2.1 ∈ ztb := (ztb_at 201 (by decide +kernel) (by decide +kernel))
theorem pf_3_15 : Cond.fieldLink RX3 15 (TX3 1).1 (TX3 1).2.1 (TX3 1).2.2.1 ∈ ztb := (ztb_at 203 (by decide +kernel) (by decide +kernel))
theorem pf_3_18 : Cond.fieldLink RX3 18 (TX3 2).1 (TX3 2).2.1 (TX3 2).2.2.1 ∈ ztb := (ztb_at 205 (by decide +kernel) (by decide +kernel))
theorem pf_4_9 : Cond.fieldLink RX4 9 (TX4 0).1 (TX4 0).2.1 (TX4 0).2.2.1 ∈ ztb := (ztb_at 156 (by decide +kernel) (by decide +kernel))
theorem pf_4_15 : Cond.fieldLink RX4 15 (TX4 1).1 (TX4 1).2.1 (TX4 1).2.2.1 ∈ ztb := (ztb_at 158 (by decide +kernel) (by decide +kernel))
theorem pf_4_19 : Cond.fieldLink RX4 19 (TX4 2).1 (TX4 2).2.1 (TX4 2).2.2.1 ∈ ztb := (ztb_at 159 (by decide +kernel) (by decide +kernel))
theorem pf_4_22 : Cond.fieldLink RX4 22 (TX4 3).1 (TX4 3).2.1 (TX4 3).2.2.1 ∈ ztb := (ztb_at 160 (by decide +kernel) (by decide +kernel))
theorem pf_5_10 : Cond.fieldLink RX5 10 (TX5 0).1 (TX5 0).2.1 (TX5 0).2.2.1 ∈ ztb := (ztb_at 276 (by decide +kernel) (by decide +kernel))
theorem pf_5_16 : Cond.fieldLink RX5 16 (TX5 1).1 (TX5 1).2.1 (TX5 1).2.2.1 ∈ ztb := (ztb_at 277 (by decide +kernel) (by decide +kernel))
theorem pf_5_22 : Cond.fieldLink RX5 22 (TX5 2).1 (TX5 2).2.1 (TX5 2).2.2.1 ∈ ztb := (ztb_at 278 (by decide +kernel) (by decide +kernel))
theorem pf_5_29 : Cond.fieldLink RX5 29 (TX5 3).1 (TX5 3).2.1 (TX5 3).2.2.1 ∈ ztb := (ztb_at 279 (by decide +kernel) (by decide +kernel))
theorem pf_5_36 : Cond.fieldLink RX5 36 (TX5 4).1 (TX5 4).2.1 (TX5 4).2.2.1 ∈ ztb := (ztb_at 280 (by decide +kernel) (by decide +kernel))
theorem pf_5_43 : Cond.fieldLink RX5 43 (TX5 5).1 (TX5 5).2.1 (TX5 5).2.2.1 ∈ ztb := (ztb_at 281 (by decide +kernel) (by decide +kernel))
theorem pf_5_47 : Cond.fieldLink RX5 47 (TX5 6).1 (TX5 6).2.1 (TX5 6).2.2.1 ∈ ztb := (ztb_at 282 (by decide +kernel) (by decide +kernel))
theorem pf_5_51 : Cond.fieldLink RX5 51 (TX5 7).1 (TX5 7).2.1 (TX5 7).2.2.1 ∈ ztb := (ztb_at 283 (by decide +kernel) (by decide +kernel))
theorem pf_5_54 : Cond.fieldLink RX5 54 (TX5 8).1 (TX5 8).2.1 (TX5 8).2.2.1 ∈ ztb := (ztb_at 284 (by decide +kernel) (by decide +kernel))
theorem pf_6_7 : Cond.fieldLink RX6 7 (TX6 0).1 (TX6 0).2.1 (TX6 0).2.2.1 ∈ ztb := (ztb_at 808 (by decide +kernel) (by decide +kernel))
theorem pf_6_13 : Cond.fieldLink RX6 13 (TX6 1).1 (TX6 1).2.1 (TX6 1).2.2.1 ∈ ztb := (ztb_at 809 (by decide +kernel) (by decide +kernel))
theorem pf_6_16 : Cond.fieldLink RX6 16 (TX6 2).1 (TX6 2).2.1 (TX6 2).2.2.1 ∈ ztb := (ztb_at 810 (by decide +kernel) (by decide +kernel))
theorem pf_6_20 : Cond.fieldLink RX6 20 (TX6 4).1 (TX6 4).2.1 (TX6 4).2.2.1 ∈ ztb := (ztb_at 812 (by decide +kernel) (by decide +kernel))
theorem pf_6_23 : Cond.fieldLink RX6 23 (TX6 9).1 (TX6 9).2.1 (TX6 9).2.2.1 ∈ ztb := (ztb_at 817 (by decide +kernel) (by decide +kernel))
theorem pf_6_26 : Cond.fieldLink RX6 26 (TX6 22).1 (TX6 22).2.1 (TX6 22).2.2.1 ∈ ztb := (ztb_at 830 (by decide +kernel) (by decide +kernel))
theorem pf_6_29 : Cond.fieldLink RX6 29 (TX6 23).1 (TX6 23).2.1 (TX6 23).2.2.1 ∈ ztb := (ztb_at 831 (by decide +kernel) (by decide +kernel))
theorem pf_6_32 : Cond.fieldLink RX6 32 (TX6 24).1 (TX6 24).2.1 (TX6 24).2.2.1 ∈ ztb := (ztb_at 832 (by decide +kernel) (by decide +kernel))
theorem pf_6_35 : Cond.fieldLink RX6 35 (TX6 25).1 (TX6 25).2.1 (TX6 25).2.2.1 ∈ ztb := (ztb_at 833 (by decide +kernel) (by decide +kernel))
theorem pf_6_38 : Cond.fieldLink RX6 38 (TX6 26).1 (TX6 26).2.1 (TX6 26).2.2.1 ∈ ztb := (ztb_at 834 (by decide +kernel) (by decide +kernel))
theorem pf_6_41 : Cond.fieldLink RX6 41 (TX6 28).1 (TX6 28).2.1 (TX6 28).2.2.1 ∈ ztb := (ztb_at 836 (by decide +kernel) (by decide +kernel))
abbrev zrmX0 : Room := { frames := 1, cells := 6, slots := 53, locals := 100 }
abbrev zrmX4 : Room := { frames := 1, cells := 3, slots := 18, locals := 100 }
abbrev zrmX3 : Room := { frames := 1, cells := 1, slots := 40, locals := 100 }
abbrev zrmX1 : Room := { frames := 2, cells := 11, slots := 86, locals := 200 }
abbrev zrmX2 : Room := { frames := 2, cells := 9, slots := 249, locals := 200 }
abbrev zrmX5 : Room := { frames := 3, cells := 64, slots := 1230, locals := 300 }
section
variable {l : Launch} {G : zG} {base : Nat}
set_option maxRecDepth 100000 in
theorem k_X0_1 (hG : zGb G base) : zBK l G base yX0_init cX0_init zrmX0 1 7 0 zd0 6 53 := by
  refine zBK.of (own := RX0) (by decide +kernel) rfl rfl ?_
  refine n_aload (i := 0) dX0_init_0 rfl ?_
  refine n_obj oi_0 oi_i oi_c dX0_init_1 (Nat.le_of_ble_eq_true rfl) (Nat.le_of_ble_eq_true rfl) ?_
  refine n_aload (i := 0) dX0_init_4 rfl ?_
  refine n_iconst dX0_init_5 rfl ?_
  refine n_put (th := 1) (ci := 0) hG (Nat.le_of_ble_eq_true rfl) (Nat.le_of_ble_eq_true rfl) (Nat.le_of_ble_eq_true rfl) rfl inX0z tyX0 tyX0_ok nmX0 rfl (k := 0) (by decide) pf_0_9 rfl (tyX0_ok 0 (by decide)) rfl rfl (Nat.le_of_ble_eq_true rfl) dX0_init_6 ?_
  refine n_aload (i := 0) dX0_init_9 rfl ?_
  refine n_iconst dX0_init_10 rfl ?_
  refine n_newa (t := 0) (n := 5) (ty := .int) hG ac_int rfl rfl (fun _ _ h => h) rfl (by decide) (by decide) (by decide) (Nat.le_of_ble_eq_true rfl) (Nat.le_of_ble_eq_true rfl) (Nat.le_of_ble_eq_true rfl) dX0_init_11 ?_
  refine n_putF (th := 1) (ci := 0) rfl hG (Nat.le_of_ble_eq_true rfl) (Nat.le_of_ble_eq_true rfl) (Nat.le_of_ble_eq_true rfl) rfl inX0z tyX0 tyX0_ok nmX0 rfl (k := 1) (by decide) pf_0_15 rfl rfl (tyX0_ok 1 (by decide)) rfl rfl (Nat.le_of_ble_eq_true rfl) dX0_init_13 ?_
  refine n_aload (i := 0) dX0_init_16 rfl ?_
  refine n_iconst dX0_init_17 rfl ?_
  refine n_newa (t := 0) (n := 5) (ty := .int) hG ac_int rfl rfl (fun _ _ h => h) rfl (by decide) (by decide) (by decide) (Nat.le_of_ble_eq_true rfl) (Nat.le_of_ble_eq_true rfl) (Nat.le_of_ble_eq_true rfl) dX0_init_18 ?_
  refine n_putF (th := 1) (ci := 0) rfl hG (Nat.le_of_ble_eq_true rfl) (Nat.le_of_ble_eq_true rfl) (Nat.le_of_ble_eq_true rfl) rfl inX0z tyX0 tyX0_ok nmX0 rfl (k := 2) (by decide) pf_0_19 rfl rfl (tyX0_ok 2 (by decide)) rfl rfl (Nat.le_of_ble_eq_true rfl) dX0_init_20 ?_
  refine n_aload (i := 0) dX0_init_23 rfl ?_
  refine n_bipush dX0_init_24 rfl ?_
  refine n_newa (t := 0) (n := 25) (ty := .int) hG ac_int rfl rfl (fun _ _ h => h) rfl (by decide) (by decide) (by decide) (Nat.le_of_ble_eq_true rfl) (Nat.le_of_ble_eq_true rfl) (Nat.le_of_ble_eq_true rfl) dX0_init_26 ?_
  refine n_putF (th := 1) (ci := 0) rfl hG (Nat.le_of_ble_eq_true rfl) (Nat.le_of_ble_eq_true rfl) (Nat.le_of_ble_eq_true rfl) rfl inX0z tyX0 tyX0_ok nmX0 rfl (k := 3) (by decide) pf_0_22 rfl rfl (tyX0_ok 3 (by decide)) rfl rfl (Nat.le_of_ble_eq_true rfl) dX0_init_28 ?_
  refine n_aload (i := 0) dX0_init_31 rfl ?_
  refine n_iconst dX0_init_32 rfl ?_
  refine n_put (th := 1) (ci := 0) hG (Nat.le_of_ble_eq_true rfl) (Nat.le_of_ble_eq_true rfl) (Nat.le_of_ble_eq_true rfl) rfl inX0z tyX0 tyX0_ok nmX0 rfl (k := 4) (by decide) pf_0_25 rfl (tyX0_ok 4 (by decide)) rfl rfl (Nat.le_of_ble_eq_true rfl) dX0_init_33 ?_
  refine n_aload (i := 0) dX0_init_36 rfl ?_
  refine n_bipush dX0_init_37 rfl ?_
  refine n_newa (t := 0) (n := 6) (ty := .int) hG ac_int rfl rfl (fun _ _ h => h) rfl (by decide) (by decide) (by decide) (Nat.le_of_ble_eq_true rfl) (Nat.le_of_ble_eq_true rfl) (Nat.le_of_ble_eq_true rfl) dX0_init_39 ?_
  refine n_putF (th := 1) (ci := 0) rfl hG (Nat.le_of_ble_eq_true rfl) (Nat.le_of_ble_eq_true rfl) (Nat.le_of_ble_eq_true rfl) rfl inX0z tyX0 tyX0_ok nmX0 rfl (k := 5) (by decide) pf_0_28 rfl rfl (tyX0_ok 5 (by decide)) rfl rfl (Nat.le_of_ble_eq_true rfl) dX0_init_41 ?_
  refine n_aload (i := 0) dX0_init_44 rfl ?_
  refine n_bipush dX0_init_45 rfl ?_
  refine n_newa (t := 0) (n := 6) (ty := .int) hG ac_int rfl rfl (fun _ _ h => h) rfl (by decide) (by decide) (by decide) (Nat.le_of_ble_eq_true rfl) (Nat.le_of_ble_eq_true rfl) (Nat.le_of_ble_eq_true rfl) dX0_init_47 ?_
  refine n_putF (th := 1) (ci := 0) rfl hG (Nat.le_of_ble_eq_true rfl) (Nat.le_of_ble_eq_true rfl) (Nat.le_of_ble_eq_true rfl) rfl inX0z tyX0 tyX0_ok nmX0 rfl (k := 6) (by decide) pf_0_31 rfl rfl (tyX0_ok 6 (by decide)) rfl rfl (Nat.le_of_ble_eq_true rfl) dX0_init_49 ?_
  refine n_aload (i := 0) dX0_init_52 rfl ?_
  refine n_bipush dX0_init_53 rfl ?_
  refine n_newa (t := 0) (n := 6) (ty := .int) hG ac_int rfl rfl (fun _ _ h => h) rfl (by decide) (by decide) (by decide) (Nat.le_of_ble_eq_true rfl) (Nat.le_of_ble_eq_true rfl) (Nat.le_of_ble_eq_true rfl) dX0_init_55 ?_
  refine n_putF (th := 1) (ci := 0) rfl hG (Nat.le_of_ble_eq_true rfl) (Nat.le_of_ble_eq_true rfl) (Nat.le_of_ble_eq_true rfl) rfl inX0z tyX0 tyX0_ok nmX0 rfl (k := 7) (by decide) pf_0_34 rfl rfl (tyX0_ok 7 (by decide)) rfl rfl (Nat.le_of_ble_eq_true rfl) dX0_init_57 ?_
  refine n_aload (i := 0) dX0_init_60 rfl ?_
  refine n_iconst dX0_init_61 rfl ?_
  refine n_put (th := 1) (ci := 0) hG (Nat.le_of_ble_eq_true rfl) (Nat.le_of_ble_eq_true rfl) (Nat.le_of_ble_eq_true rfl) rfl inX0z tyX0 tyX0_ok nmX0 rfl (k := 8) (by decide) pf_0_37 rfl (tyX0_ok 8 (by decide)) rfl rfl (Nat.le_of_ble_eq_true rfl) dX0_init_62 ?_
  refine n_aload (i := 0) dX0_init_65 rfl ?_
  refine n_iconst dX0_init_66 rfl ?_
  refine n_put (th := 1) (ci := 0) hG (Nat.le_of_ble_eq_true rfl) (Nat.le_of_ble_eq_true rfl) (Nat.le_of_ble_eq_true rfl) rfl inX0z tyX0 tyX0_ok nmX0 rfl (k := 9) (by decide) pf_0_40 rfl (tyX0_ok 9 (by decide)) rfl rfl (Nat.le_of_ble_eq_true rfl) dX0_init_67 ?_
  refine n_aload (i := 0) dX0_init_70 rfl ?_
  refine n_iconst dX0_init_71 rfl ?_
  refine n_put (th := 1) (ci := 0) hG (Nat.le_of_ble_eq_true rfl) (Nat.le_of_ble_eq_true rfl) (Nat.le_of_ble_eq_true rfl) rfl inX0z tyX0 tyX0_ok nmX0 rfl (k := 10) (by decide) pf_0_43 rfl (tyX0_ok 10 (by decide)) rfl rfl (Nat.le_of_ble_eq_true rfl) dX0_init_72 ?_
  refine n_ret (n := 7) dX0_init_75 rfl ?_ (Nat.le_of_ble_eq_true rfl) (Nat.le_of_ble_eq_true rfl)
  intro o h1 h2 H h
  rcases (show o = 1 ∨ o = 2 ∨ o = 3 ∨ o = 4 ∨ o = 5 ∨ o = 6 ∨ o = 7 by omega) with rfl | rfl | rfl | rfl | rfl | rfl | rfl
  · exact h
  · exact h
  · exact h
  · exact h
  · exact h
  · exact h
  · exact h
set_option maxRecDepth 100000 in
theorem k_X0_8 (hG : zGb G base) : zBK l G base yX0_init cX0_init zrmX0 8 7 0 zd0 6 53 := by
  refine zBK.of (own := RX0) (by decide +kernel) rfl rfl ?_
  refine n_aload (i := 0) dX0_init_0 rfl ?_
  refine n_obj oi_0 oi_i oi_c dX0_init_1 (Nat.le_of_ble_eq_true rfl) (Nat.le_of_ble_eq_true rfl) ?_
  refine n_aload (i := 0) dX0_init_4 rfl ?_
  refine n_iconst dX0_init_5 rfl ?_
  refine n_put (th := 8) (ci := 0) hG (Nat.le_of_ble_eq_true rfl) (Nat.le_of_ble_eq_true rfl) (Nat.le_of_ble_eq_true rfl) rfl inX0z tyX0 tyX0_ok nmX0 rfl (k := 0) (by decide) pf_0_9 rfl (tyX0_ok 0 (by decide)) rfl rfl (Nat.le_of_ble_eq_true rfl) dX0_init_6 ?_
  refine n_aload (i := 0) dX0_init_9 rfl ?_
  refine n_iconst dX0_init_10 rfl ?_
  refine n_newa (t := 0) (n := 5) (ty := .int) hG ac_int rfl rfl (fun _ _ h => h) rfl (by decide) (by decide) (by decide) (Nat.le_of_ble_eq_true rfl) (Nat.le_of_ble_eq_true rfl) (Nat.le_of_ble_eq_true rfl) dX0_init_11 ?_
  refine n_putF (th := 8) (ci := 0) rfl hG (Nat.le_of_ble_eq_true rfl) (Nat.le_of_ble_eq_true rfl) (Nat.le_of_ble_eq_true rfl) rfl inX0z tyX0 tyX0_ok nmX0 rfl (k := 1) (by decide) pf_0_15 rfl rfl (tyX0_ok 1 (by decide)) rfl rfl (Nat.le_of_ble_eq_true rfl) dX0_init_13 ?_
  refine n_aload (i := 0) dX0_init_16 rfl ?_
  refine n_iconst dX0_init_17 rfl ?_
  refine n_newa (t := 0) (n := 5) (ty := .int) hG ac_int rfl rfl (fun _ _ h => h) rfl (by decide) (by decide) (by decide) (Nat.le_of_ble_eq_true rfl) (Nat.le_of_ble_eq_true rfl) (Nat.le_of_ble_eq_true rfl) dX0_init_18 ?_
  refine n_putF (th := 8) (ci := 0) rfl hG (Nat.le_of_ble_eq_true rfl) (Nat.le_of_ble_eq_true rfl) (Nat.le_of_ble_eq_true rfl) rfl inX0z tyX0 tyX0_ok nmX0 rfl (k := 2) (by decide) pf_0_19 rfl rfl (tyX0_ok 2 (by decide)) rfl rfl (Nat.le_of_ble_eq_true rfl) dX0_init_20 ?_
  refine n_aload (i := 0) dX0_init_23 rfl ?_
  refine n_bipush dX0_init_24 rfl ?_
  refine n_newa (t := 0) (n := 25) (ty := .int) hG ac_int rfl rfl (fun _ _ h => h) rfl (by decide) (by decide) (by decide) (Nat.le_of_ble_eq_true rfl) (Nat.le_of_ble_eq_true rfl) (Nat.le_of_ble_eq_true rfl) dX0_init_26 ?_
  refine n_putF (th := 8) (ci := 0) rfl hG (Nat.le_of_ble_eq_true rfl) (Nat.le_of_ble_eq_true rfl) (Nat.le_of_ble_eq_true rfl) rfl inX0z tyX0 tyX0_ok nmX0 rfl (k := 3) (by decide) pf_0_22 rfl rfl (tyX0_ok 3 (by decide)) rfl rfl (Nat.le_of_ble_eq_true rfl) dX0_init_28 ?_
  refine n_aload (i := 0) dX0_init_31 rfl ?_
  refine n_iconst dX0_init_32 rfl ?_
  refine n_put (th := 8) (ci := 0) hG (Nat.le_of_ble_eq_true rfl) (Nat.le_of_ble_eq_true rfl) (Nat.le_of_ble_eq_true rfl) rfl inX0z tyX0 tyX0_ok nmX0 rfl (k := 4) (by decide) pf_0_25 rfl (tyX0_ok 4 (by decide)) rfl rfl (Nat.le_of_ble_eq_true rfl) dX0_init_33 ?_
  refine n_aload (i := 0) dX0_init_36 rfl ?_
  refine n_bipush dX0_init_37 rfl ?_
  refine n_newa (t := 0) (n := 6) (ty := .int) hG ac_int rfl rfl (fun _ _ h => h) rfl (by decide) (by decide) (by decide) (Nat.le_of_ble_eq_true rfl) (Nat.le_of_ble_eq_true rfl) (Nat.le_of_ble_eq_true rfl) dX0_init_39 ?_
  refine n_putF (th := 8) (ci := 0) rfl hG (Nat.le_of_ble_eq_true rfl) (Nat.le_of_ble_eq_true rfl) (Nat.le_of_ble_eq_true rfl) rfl inX0z tyX0 tyX0_ok nmX0 rfl (k := 5) (by decide) pf_0_28 rfl rfl (tyX0_ok 5 (by decide)) rfl rfl (Nat.le_of_ble_eq_true rfl) dX0_init_41 ?_
  refine n_aload (i := 0) dX0_init_44 rfl ?_
  refine n_bipush dX0_init_45 rfl ?_
  refine n_newa (t := 0) (n := 6) (ty := .int) hG ac_int rfl rfl (fun _ _ h => h) rfl (by decide) (by decide) (by decide) (Nat.le_of_ble_eq_true rfl) (Nat.le_of_ble_eq_true rfl) (Nat.le_of_ble_eq_true rfl) dX0_init_47 ?_
  refine n_putF (th := 8) (ci := 0) rfl hG (Nat.le_of_ble_eq_true rfl) (Nat.le_of_ble_eq_true rfl) (Nat.le_of_ble_eq_true rfl) rfl inX0z tyX0 tyX0_ok nmX0 rfl (k := 6) (by decide) pf_0_31 rfl rfl (tyX0_ok 6 (by decide)) rfl rfl (Nat.le_of_ble_eq_true rfl) dX0_init_49 ?_
  refine n_aload (i := 0) dX0_init_52 rfl ?_
  refine n_bipush dX0_init_53 rfl ?_
  refine n_newa (t := 0) (n := 6) (ty := .int) hG ac_int rfl rfl (fun _ _ h => h) rfl (by decide) (by decide) (by decide) (Nat.le_of_ble_eq_true rfl) (Nat.le_of_ble_eq_true rfl) (Nat.le_of_ble_eq_true rfl) dX0_init_55 ?_
  refine n_putF (th := 8) (ci := 0) rfl hG (Nat.le_of_ble_eq_true rfl) (Nat.le_of_ble_eq_true rfl) (Nat.le_of_ble_eq_true rfl) rfl inX0z tyX0 tyX0_ok nmX0 rfl (k := 7) (by decide) pf_0_34 rfl rfl (tyX0_ok 7 (by decide)) rfl rfl (Nat.le_of_ble_eq_true rfl) dX0_init_57 ?_
  refine n_aload (i := 0) dX0_init_60 rfl ?_
  refine n_iconst dX0_init_61 rfl ?_
  refine n_put (th := 8) (ci := 0) hG (Nat.le_of_ble_eq_true rfl) (Nat.le_of_ble_eq_true rfl) (Nat.le_of_ble_eq_true rfl) rfl inX0z tyX0 tyX0_ok nmX0 rfl (k := 8) (by decide) pf_0_37 rfl (tyX0_ok 8 (by decide)) rfl rfl (Nat.le_of_ble_eq_true rfl) dX0_init_62 ?_
  refine n_aload (i := 0) dX0_init_65 rfl ?_
  refine n_iconst dX0_init_66 rfl ?_
  refine n_put (th := 8) (ci := 0) hG (Nat.le_of_ble_eq_true rfl) (Nat.le_of_ble_eq_true rfl) (Nat.le_of_ble_eq_true rfl) rfl inX0z tyX0 tyX0_ok nmX0 rfl (k := 9) (by decide) pf_0_40 rfl (tyX0_ok 9 (by decide)) rfl rfl (Nat.le_of_ble_eq_true rfl) dX0_init_67 ?_
  refine n_aload (i := 0) dX0_init_70 rfl ?_
  refine n_iconst dX0_init_71 rfl ?_
  refine n_put (th := 8) (ci := 0) hG (Nat.le_of_ble_eq_true rfl) (Nat.le_of_ble_eq_true rfl) (Nat.le_of_ble_eq_true rfl) rfl inX0z tyX0 tyX0_ok nmX0 rfl (k := 10) (by decide) pf_0_43 rfl (tyX0_ok 10 (by decide)) rfl rfl (Nat.le_of_ble_eq_true rfl) dX0_init_72 ?_
  refine n_ret (n := 7) dX0_init_75 rfl ?_ (Nat.le_of_ble_eq_true rfl) (Nat.le_of_ble_eq_true rfl)
  intro o h1 h2 H h
  rcases (show o = 8 ∨ o = 9 ∨ o = 10 ∨ o = 11 ∨ o = 12 ∨ o = 13 ∨ o = 14 by omega) with rfl | rfl | rfl | rfl | rfl | rfl | rfl
  · exact h
  · exact h
  · exact h
  · exact h
  · exact h
  · exact h
  · exact h
set_option maxRecDepth 100000 in
theorem k_X0_21 (hG : zGb G base) : zBK l G base yX0_init cX0_init zrmX0 21 7 0 zd0 6 53 := by
  refine zBK.of (own := RX0) (by decide +kernel) rfl rfl ?_
  refine n_aload (i := 0) dX0_init_0 rfl ?_
  refine n_obj oi_0 oi_i oi_c dX0_init_1 (Nat.le_of_ble_eq_true rfl) (Nat.le_of_ble_eq_true rfl) ?_
  refine n_aload (i := 0) dX0_init_4 rfl ?_
  refine n_iconst dX0_init_5 rfl ?_
  refine n_put (th := 21) (ci := 0) hG (Nat.le_of_ble_eq_true rfl) (Nat.le_of_ble_eq_true rfl) (Nat.le_of_ble_eq_true rfl) rfl inX0z tyX0 tyX0_ok nmX0 rfl (k := 0) (by decide) pf_0_9 rfl (tyX0_ok 0 (by decide)) rfl rfl (Nat.le_of_ble_eq_true rfl) dX0_init_6 ?_
  refine n_aload (i := 0) dX0_init_9 rfl ?_
  refine n_iconst dX0_init_10 rfl ?_
  refine n_newa (t := 0) (n := 5) (ty := .int) hG ac_int rfl rfl (fun _ _ h => h) rfl (by decide) (by decide) (by decide) (Nat.le_of_ble_eq_true rfl) (Nat.le_of_ble_eq_true rfl) (Nat.le_of_ble_eq_true rfl) dX0_init_11 ?_
  refine n_putF (th := 21) (ci := 0) rfl hG (Nat.le_of_ble_eq_true rfl) (Nat.le_of_ble_eq_true rfl) (Nat.le_of_ble_eq_true rfl) rfl inX0z tyX0 tyX0_ok nmX0 rfl (k := 1) (by decide) pf_0_15 rfl rfl (tyX0_ok 1 (by decide)) rfl rfl (Nat.le_of_ble_eq_true rfl) dX0_init_13 ?_
  refine n_aload (i := 0) dX0_init_16 rfl ?_
  refine n_iconst dX0_init_17 rfl ?_
  refine n_newa (t := 0) (n := 5) (ty := .int) hG ac_int rfl rfl (fun _ _ h => h) rfl (by decide) (by decide) (by decide) (Nat.le_of_ble_eq_true rfl) (Nat.le_of_ble_eq_true rfl) (Nat.le_of_ble_eq_true rfl) dX0_init_18 ?_
  refine n_putF (th := 21) (ci := 0) rfl hG (Nat.le_of_ble_eq_true rfl) (Nat.le_of_ble_eq_true rfl) (Nat.le_of_ble_eq_true rfl) rfl inX0z tyX0 tyX0_ok nmX0 rfl (k := 2) (by decide) pf_0_19 rfl rfl (tyX0_ok 2 (by decide)) rfl rfl (Nat.le_of_ble_eq_true rfl) dX0_init_20 ?_
  refine n_aload (i := 0) dX0_init_23 rfl ?_
  refine n_bipush dX0_init_24 rfl ?_
  refine n_newa (t := 0) (n := 25) (ty := .int) hG ac_int rfl rfl (fun _ _ h => h) rfl (by decide) (by decide) (by decide) (Nat.le_of_ble_eq_true rfl) (Nat.le_of_ble_eq_true rfl) (Nat.le_of_ble_eq_true rfl) dX0_init_26 ?_
  refine n_putF (th := 21) (ci := 0) rfl hG (Nat.le_of_ble_eq_true rfl) (Nat.le_of_ble_eq_true rfl) (Nat.le_of_ble_eq_true rfl) rfl inX0z tyX0 tyX0_ok nmX0 rfl (k := 3) (by decide) pf_0_22 rfl rfl (tyX0_ok 3 (by decide)) rfl rfl (Nat.le_of_ble_eq_true rfl) dX0_init_28 ?_
  refine n_aload (i := 0) dX0_init_31 rfl ?_
  refine n_iconst dX0_init_32 rfl ?_
  refine n_put (th := 21) (ci := 0) hG (Nat.le_of_ble_eq_true rfl) (Nat.le_of_ble_eq_true rfl) (Nat.le_of_ble_eq_true rfl) rfl inX0z tyX0 tyX0_ok nmX0 rfl (k := 4) (by decide) pf_0_25 rfl (tyX0_ok 4 (by decide)) rfl rfl (Nat.le_of_ble_eq_true rfl) dX0_init_33 ?_
  refine n_aload (i := 0) dX0_init_36 rfl ?_
  refine n_bipush dX0_init_37 rfl ?_
  refine n_newa (t := 0) (n := 6) (ty := .int) hG ac_int rfl rfl (fun _ _ h => h) rfl (by decide) (by decide) (by decide) (Nat.le_of_ble_eq_true rfl) (Nat.le_of_ble_eq_true rfl) (Nat.le_of_ble_eq_true rfl) dX0_init_39 ?_
  refine n_putF (th := 21) (ci := 0) rfl hG (Nat.le_of_ble_eq_true rfl) (Nat.le_of_ble_eq_true rfl) (Nat.le_of_ble_eq_true rfl) rfl inX0z tyX0 tyX0_ok nmX0 rfl (k := 5) (by decide) pf_0_28 rfl rfl (tyX0_ok 5 (by decide)) rfl rfl (Nat.le_of_ble_eq_true rfl) dX0_init_41 ?_
  refine n_aload (i := 0) dX0_init_44 rfl ?_
  refine n_bipush dX0_init_45 rfl ?_
  refine n_newa (t := 0) (n := 6) (ty := .int) hG ac_int rfl rfl (fun _ _ h => h) rfl (by decide) (by decide) (by decide) (Nat.le_of_ble_eq_true rfl) (Nat.le_of_ble_eq_true rfl) (Nat.le_of_ble_eq_true rfl) dX0_init_47 ?_
  refine n_putF (th := 21) (ci := 0) rfl hG (Nat.le_of_ble_eq_true rfl) (Nat.le_of_ble_eq_true rfl) (Nat.le_of_ble_eq_true rfl) rfl inX0z tyX0 tyX0_ok nmX0 rfl (k := 6) (by decide) pf_0_31 rfl rfl (tyX0_ok 6 (by decide)) rfl rfl (Nat.le_of_ble_eq_true rfl) dX0_init_49 ?_
  refine n_aload (i := 0) dX0_init_52 rfl ?_
  refine n_bipush dX0_init_53 rfl ?_
  refine n_newa (t := 0) (n := 6) (ty := .int) hG ac_int rfl rfl (fun _ _ h => h) rfl (by decide) (by decide) (by decide) (Nat.le_of_ble_eq_true rfl) (Nat.le_of_ble_eq_true rfl) (Nat.le_of_ble_eq_true rfl) dX0_init_55 ?_
  refine n_putF (th := 21) (ci := 0) rfl hG (Nat.le_of_ble_eq_true rfl) (Nat.le_of_ble_eq_true rfl) (Nat.le_of_ble_eq_true rfl) rfl inX0z tyX0 tyX0_ok nmX0 rfl (k := 7) (by decide) pf_0_34 rfl rfl (tyX0_ok 7 (by decide)) rfl rfl (Nat.le_of_ble_eq_true rfl) dX0_init_57 ?_
  refine n_aload (i := 0) dX0_init_60 rfl ?_
  refine n_iconst dX0_init_61 rfl ?_
  refine n_put (th := 21) (ci := 0) hG (Nat.le_of_ble_eq_true rfl) (Nat.le_of_ble_eq_true rfl) (Nat.le_of_ble_eq_true rfl) rfl inX0z tyX0 tyX0_ok nmX0 rfl (k := 8) (by decide) pf_0_37 rfl (tyX0_ok 8 (by decide)) rfl rfl (Nat.le_of_ble_eq_true rfl) dX0_init_62 ?_
  refine n_aload (i := 0) dX0_init_65 rfl ?_
  refine n_iconst dX0_init_66 rfl ?_
  refine n_put (th := 21) (ci := 0) hG (Nat.le_of_ble_eq_true rfl) (Nat.le_of_ble_eq_true rfl) (Nat.le_of_ble_eq_true rfl) rfl inX0z tyX0 tyX0_ok nmX0 rfl (k := 9) (by decide) pf_0_40 rfl (tyX0_ok 9 (by decide)) rfl rfl (Nat.le_of_ble_eq_true rfl) dX0_init_67 ?_
  refine n_aload (i := 0) dX0_init_70 rfl ?_
  refine n_iconst dX0_init_71 rfl ?_
  refine n_put (th := 21) (ci := 0) hG (Nat.le_of_ble_eq_true rfl) (Nat.le_of_ble_eq_true rfl) (Nat.le_of_ble_eq_true rfl) rfl inX0z tyX0 tyX0_ok nmX0 rfl (k := 10) (by decide) pf_0_43 rfl (tyX0_ok 10 (by decide)) rfl rfl (Nat.le_of_ble_eq_true rfl) dX0_init_72 ?_
  refine n_ret (n := 7) dX0_init_75 rfl ?_ (Nat.le_of_ble_eq_true rfl) (Nat.le_of_ble_eq_true rfl)
  intro o h1 h2 H h
  rcases (show o = 21 ∨ o = 22 ∨ o = 23 ∨ o = 24 ∨ o = 25 ∨ o = 26 ∨ o = 27 by omega) with rfl | rfl | rfl | rfl | rfl | rfl | rfl
  · exact h
  · exact h
  · exact h
  · exact h
  · exact h
  · exact h
  · exact h
set_option maxRecDepth 100000 in
theorem k_X0_33 (hG : zGb G base) : zBK l G base yX0_init cX0_init zrmX0 33 7 0 zd0 6 53 := by
  refine zBK.of (own := RX0) (by decide +kernel) rfl rfl ?_
  refine n_aload (i := 0) dX0_init_0 rfl ?_
  refine n_obj oi_0 oi_i oi_c dX0_init_1 (Nat.le_of_ble_eq_true rfl) (Nat.le_of_ble_eq_true rfl) ?_
  refine n_aload (i := 0) dX0_init_4 rfl ?_
  refine n_iconst dX0_init_5 rfl ?_
  refine n_put (th := 33) (ci := 0) hG (Nat.le_of_ble_eq_true rfl) (Nat.le_of_ble_eq_true rfl) (Nat.le_of_ble_eq_true rfl) rfl inX0z tyX0 tyX0_ok nmX0 rfl (k := 0) (by decide) pf_0_9 rfl (tyX0_ok 0 (by decide)) rfl rfl (Nat.le_of_ble_eq_true rfl) dX0_init_6 ?_
  refine n_aload (i := 0) dX0_init_9 rfl ?_
  refine n_iconst dX0_init_10 rfl ?_
  refine n_newa (t := 0) (n := 5) (ty := .int) hG ac_int rfl rfl (fun _ _ h => h) rfl (by decide) (by decide) (by decide) (Nat.le_of_ble_eq_true rfl) (Nat.le_of_ble_eq_true rfl) (Nat.le_of_ble_eq_true rfl) dX0_init_11 ?_
  refine n_putF (th := 33) (ci := 0) rfl hG (Nat.le_of_ble_eq_true rfl) (Nat.le_of_ble_eq_true rfl) (Nat.le_of_ble_eq_true rfl) rfl inX0z tyX0 tyX0_ok nmX0 rfl (k := 1) (by decide) pf_0_15 rfl rfl (tyX0_ok 1 (by decide)) rfl rfl (Nat.le_of_ble_eq_true rfl) dX0_init_13 ?_
  refine n_aload (i := 0) dX0_init_16 rfl ?_
  refine n_iconst dX0_init_17 rfl ?_
  refine n_newa (t := 0) (n := 5) (ty := .int) hG ac_int rfl rfl (fun _ _ h => h) rfl (by decide) (by decide) (by decide) (Nat.le_of_ble_eq_true rfl) (Nat.le_of_ble_eq_true rfl) (Nat.le_of_ble_eq_true rfl) dX0_init_18 ?_
  refine n_putF (th := 33) (ci := 0) rfl hG (Nat.le_of_ble_eq_true rfl) (Nat.le_of_ble_eq_true rfl) (Nat.le_of_ble_eq_true rfl) rfl inX0z tyX0 tyX0_ok nmX0 rfl (k := 2) (by decide) pf_0_19 rfl rfl (tyX0_ok 2 (by decide)) rfl rfl (Nat.le_of_ble_eq_true rfl) dX0_init_20 ?_
  refine n_aload (i := 0) dX0_init_23 rfl ?_
  refine n_bipush dX0_init_24 rfl ?_
  refine n_newa (t := 0) (n := 25) (ty := .int) hG ac_int rfl rfl (fun _ _ h => h) rfl (by decide) (by decide) (by decide) (Nat.le_of_ble_eq_true rfl) (Nat.le_of_ble_eq_true rfl) (Nat.le_of_ble_eq_true rfl) dX0_init_26 ?_
  refine n_putF (th := 33) (ci := 0) rfl hG (Nat.le_of_ble_eq_true rfl) (Nat.le_of_ble_eq_true rfl) (Nat.le_of_ble_eq_true rfl) rfl inX0z tyX0 tyX0_ok nmX0 rfl (k := 3) (by decide) pf_0_22 rfl rfl (tyX0_ok 3 (by decide)) rfl rfl (Nat.le_of_ble_eq_true rfl) dX0_init_28 ?_
  refine n_aload (i := 0) dX0_init_31 rfl ?_
  refine n_iconst dX0_init_32 rfl ?_
  refine n_put (th := 33) (ci := 0) hG (Nat.le_of_ble_eq_true rfl) (Nat.le_of_ble_eq_true rfl) (Nat.le_of_ble_eq_true rfl) rfl inX0z tyX0 tyX0_ok nmX0 rfl (k := 4) (by decide) pf_0_25 rfl (tyX0_ok 4 (by decide)) rfl rfl (Nat.le_of_ble_eq_true rfl) dX0_init_33 ?_
  refine n_aload (i := 0) dX0_init_36 rfl ?_
  refine n_bipush dX0_init_37 rfl ?_
  refine n_newa (t := 0) (n := 6) (ty := .int) hG ac_int rfl rfl (fun _ _ h => h) rfl (by decide) (by decide) (by decide) (Nat.le_of_ble_eq_true rfl) (Nat.le_of_ble_eq_true rfl) (Nat.le_of_ble_eq_true rfl) dX0_init_39 ?_
  refine n_putF (th := 33) (ci := 0) rfl hG (Nat.le_of_ble_eq_true rfl) (Nat.le_of_ble_eq_true rfl) (Nat.le_of_ble_eq_true rfl) rfl inX0z tyX0 tyX0_ok nmX0 rfl (k := 5) (by decide) pf_0_28 rfl rfl (tyX0_ok 5 (by decide)) rfl rfl (Nat.le_of_ble_eq_true rfl) dX0_init_41 ?_
  refine n_aload (i := 0) dX0_init_44 rfl ?_
  refine n_bipush dX0_init_45 rfl ?_
  refine n_newa (t := 0) (n := 6) (ty := .int) hG ac_int rfl rfl (fun _ _ h => h) rfl (by decide) (by decide) (by decide) (Nat.le_of_ble_eq_true rfl) (Nat.le_of_ble_eq_true rfl) (Nat.le_of_ble_eq_true rfl) dX0_init_47 ?_
  refine n_putF (th := 33) (ci := 0) rfl hG (Nat.le_of_ble_eq_true rfl) (Nat.le_of_ble_eq_true rfl) (Nat.le_of_ble_eq_true rfl) rfl inX0z tyX0 tyX0_ok nmX0 rfl (k := 6) (by decide) pf_0_31 rfl rfl (tyX0_ok 6 (by decide)) rfl rfl (Nat.le_of_ble_eq_true rfl) dX0_init_49 ?_
  refine n_aload (i := 0) dX0_init_52 rfl ?_
  refine n_bipush dX0_init_53 rfl ?_
  refine n_newa (t := 0) (n := 6) (ty := .int) hG ac_int rfl rfl (fun _ _ h => h) rfl (by decide) (by decide) (by decide) (Nat.le_of_ble_eq_true rfl) (Nat.le_of_ble_eq_true rfl) (Nat.le_of_ble_eq_true rfl) dX0_init_55 ?_
  refine n_putF (th := 33) (ci := 0) rfl hG (Nat.le_of_ble_eq_true rfl) (Nat.le_of_ble_eq_true rfl) (Nat.le_of_ble_eq_true rfl) rfl inX0z tyX0 tyX0_ok nmX0 rfl (k := 7) (by decide) pf_0_34 rfl rfl (tyX0_ok 7 (by decide)) rfl rfl (Nat.le_of_ble_eq_true rfl) dX0_init_57 ?_
  refine n_aload (i := 0) dX0_init_60 rfl ?_
  refine n_iconst dX0_init_61 rfl ?_
  refine n_put (th := 33) (ci := 0) hG (Nat.le_of_ble_eq_true rfl) (Nat.le_of_ble_eq_true rfl) (Nat.le_of_ble_eq_true rfl) rfl inX0z tyX0 tyX0_ok nmX0 rfl (k := 8) (by decide) pf_0_37 rfl (tyX0_ok 8 (by decide)) rfl rfl (Nat.le_of_ble_eq_true rfl) dX0_init_62 ?_
  refine n_aload (i := 0) dX0_init_65 rfl ?_
  refine n_iconst dX0_init_66 rfl ?_
  refine n_put (th := 33) (ci := 0) hG (Nat.le_of_ble_eq_true rfl) (Nat.le_of_ble_eq_true rfl) (Nat.le_of_ble_eq_true rfl) rfl inX0z tyX0 tyX0_ok nmX0 rfl (k := 9) (by decide) pf_0_40 rfl (tyX0_ok 9 (by decide)) rfl rfl (Nat.le_of_ble_eq_true rfl) dX0_init_67 ?_
  refine n_aload (i := 0) dX0_init_70 rfl ?_
  refine n_iconst dX0_init_71 rfl ?_
  refine n_put (th := 33) (ci := 0) hG (Nat.le_of_ble_eq_true rfl) (Nat.le_of_ble_eq_true rfl) (Nat.le_of_ble_eq_true rfl) rfl inX0z tyX0 tyX0_ok nmX0 rfl (k := 10) (by decide) pf_0_43 rfl (tyX0_ok 10 (by decide)) rfl rfl (Nat.le_of_ble_eq_true rfl) dX0_init_72 ?_
  refine n_ret (n := 7) dX0_init_75 rfl ?_ (Nat.le_of_ble_eq_true rfl) (Nat.le_of_ble_eq_true rfl)
  intro o h1 h2 H h
  rcases (show o = 33 ∨ o = 34 ∨ o = 35 ∨ o = 36 ∨ o = 37 ∨ o = 38 ∨ o = 39 by omega) with rfl | rfl | rfl | rfl | rfl | rfl | rfl
  · exact h
  · exact h
  · exact h
  · exact h
  · exact h
  · exact h
  · exact h
set_option maxRecDepth 100000 in
theorem k_X0_55 (hG : zGb G base) : zBK l G base yX0_init cX0_init zrmX0 55 7 0 zd0 6 53 := by
  refine zBK.of (own := RX0) (by decide +kernel) rfl rfl ?_
  refine n_aload (i := 0) dX0_init_0 rfl ?_
  refine n_obj oi_0 oi_i oi_c dX0_init_1 (Nat.le_of_ble_eq_true rfl) (Nat.le_of_ble_eq_true rfl) ?_
  refine n_aload (i := 0) dX0_init_4 rfl ?_
  refine n_iconst dX0_init_5 rfl ?_
  refine n_put (th := 55) (ci := 0) hG (Nat.le_of_ble_eq_true rfl) (Nat.le_of_ble_eq_true rfl) (Nat.le_of_ble_eq_true rfl) rfl inX0z tyX0 tyX0_ok nmX0 rfl (k := 0) (by decide) pf_0_9 rfl (tyX0_ok 0 (by decide)) rfl rfl (Nat.le_of_ble_eq_true rfl) dX0_init_6 ?_
  refine n_aload (i := 0) dX0_init_9 rfl ?_
  refine n_iconst dX0_init_10 rfl ?_
  refine n_newa (t := 0) (n := 5) (ty := .int) hG ac_int rfl rfl (fun _ _ h => h) rfl (by decide) (by decide) (by decide) (Nat.le_of_ble_eq_true rfl) (Nat.le_of_ble_eq_true rfl) (Nat.le_of_ble_eq_true rfl) dX0_init_11 ?_
  refine n_putF (th := 55) (ci := 0) rfl hG (Nat.le_of_ble_eq_true rfl) (Nat.le_of_ble_eq_true rfl) (Nat.le_of_ble_eq_true rfl) rfl inX0z tyX0 tyX0_ok nmX0 rfl (k := 1) (by decide) pf_0_15 rfl rfl (tyX0_ok 1 (by decide)) rfl rfl (Nat.le_of_ble_eq_true rfl) dX0_init_13 ?_
  refine n_aload (i := 0) dX0_init_16 rfl ?_
  refine n_iconst dX0_init_17 rfl ?_
  refine n_newa (t := 0) (n := 5) (ty := .int) hG ac_int rfl rfl (fun _ _ h => h) rfl (by decide) (by decide) (by decide) (Nat.le_of_ble_eq_true rfl) (Nat.le_of_ble_eq_true rfl) (Nat.le_of_ble_eq_true rfl) dX0_init_18 ?_
  refine n_putF (th := 55) (ci := 0) rfl hG (Nat.le_of_ble_eq_true rfl) (Nat.le_of_ble_eq_true rfl) (Nat.le_of_ble_eq_true rfl) rfl inX0z tyX0 tyX0_ok nmX0 rfl (k := 2) (by decide) pf_0_19 rfl rfl (tyX0_ok 2 (by decide)) rfl rfl (Nat.le_of_ble_eq_true rfl) dX0_init_20 ?_
  refine n_aload (i := 0) dX0_init_23 rfl ?_
  refine n_bipush dX0_init_24 rfl ?_
  refine n_newa (t := 0) (n := 25) (ty := .int) hG ac_int rfl rfl (fun _ _ h => h) rfl (by decide) (by decide) (by decide) (Nat.le_of_ble_eq_true rfl) (Nat.le_of_ble_eq_true rfl) (Nat.le_of_ble_eq_true rfl) dX0_init_26 ?_
  refine n_putF (th := 55) (ci := 0) rfl hG (Nat.le_of_ble_eq_true rfl) (Nat.le_of_ble_eq_true rfl) (Nat.le_of_ble_eq_true rfl) rfl inX0z tyX0 tyX0_ok nmX0 rfl (k := 3) (by decide) pf_0_22 rfl rfl (tyX0_ok 3 (by decide)) rfl rfl (Nat.le_of_ble_eq_true rfl) dX0_init_28 ?_
  refine n_aload (i := 0) dX0_init_31 rfl ?_
  refine n_iconst dX0_init_32 rfl ?_
  refine n_put (th := 55) (ci := 0) hG (Nat.le_of_ble_eq_true rfl) (Nat.le_of_ble_eq_true rfl) (Nat.le_of_ble_eq_true rfl) rfl inX0z tyX0 tyX0_ok nmX0 rfl (k := 4) (by decide) pf_0_25 rfl (tyX0_ok 4 (by decide)) rfl rfl (Nat.le_of_ble_eq_true rfl) dX0_init_33 ?_
  refine n_aload (i := 0) dX0_init_36 rfl ?_
  refine n_bipush dX0_init_37 rfl ?_
  refine n_newa (t := 0) (n := 6) (ty := .int) hG ac_int rfl rfl (fun _ _ h => h) rfl (by decide) (by decide) (by decide) (Nat.le_of_ble_eq_true rfl) (Nat.le_of_ble_eq_true rfl) (Nat.le_of_ble_eq_true rfl) dX0_init_39 ?_
  refine n_putF (th := 55) (ci := 0) rfl hG (Nat.le_of_ble_eq_true rfl) (Nat.le_of_ble_eq_true rfl) (Nat.le_of_ble_eq_true rfl) rfl inX0z tyX0 tyX0_ok nmX0 rfl (k := 5) (by decide) pf_0_28 rfl rfl (tyX0_ok 5 (by decide)) rfl rfl (Nat.le_of_ble_eq_true rfl) dX0_init_41 ?_
  refine n_aload (i := 0) dX0_init_44 rfl ?_
  refine n_bipush dX0_init_45 rfl ?_
  refine n_newa (t := 0) (n := 6) (ty := .int) hG ac_int rfl rfl (fun _ _ h => h) rfl (by decide) (by decide) (by decide) (Nat.le_of_ble_eq_true rfl) (Nat.le_of_ble_eq_true rfl) (Nat.le_of_ble_eq_true rfl) dX0_init_47 ?_
  refine n_putF (th := 55) (ci := 0) rfl hG (Nat.le_of_ble_eq_true rfl) (Nat.le_of_ble_eq_true rfl) (Nat.le_of_ble_eq_true rfl) rfl inX0z tyX0 tyX0_ok nmX0 rfl (k := 6) (by decide) pf_0_31 rfl rfl (tyX0_ok 6 (by decide)) rfl rfl (Nat.le_of_ble_eq_true rfl) dX0_init_49 ?_
  refine n_aload (i := 0) dX0_init_52 rfl ?_
  refine n_bipush dX0_init_53 rfl ?_
  refine n_newa (t := 0) (n := 6) (ty := .int) hG ac_int rfl rfl (fun _ _ h => h) rfl (by decide) (by decide) (by decide) (Nat.le_of_ble_eq_true rfl) (Nat.le_of_ble_eq_true rfl) (Nat.le_of_ble_eq_true rfl) dX0_init_55 ?_
  refine n_putF (th := 55) (ci := 0) rfl hG (Nat.le_of_ble_eq_true rfl) (Nat.le_of_ble_eq_true rfl) (Nat.le_of_ble_eq_true rfl) rfl inX0z tyX0 tyX0_ok nmX0 rfl (k := 7) (by decide) pf_0_34 rfl rfl (tyX0_ok 7 (by decide)) rfl rfl (Nat.le_of_ble_eq_true rfl) dX0_init_57 ?_
  refine n_aload (i := 0) dX0_init_60 rfl ?_
  refine n_iconst dX0_init_61 rfl ?_
  refine n_put (th := 55) (ci := 0) hG (Nat.le_of_ble_eq_true rfl) (Nat.le_of_ble_eq_true rfl) (Nat.le_of_ble_eq_true rfl) rfl inX0z tyX0 tyX0_ok nmX0 rfl (k := 8) (by decide) pf_0_37 rfl (tyX0_ok 8 (by decide)) rfl rfl (Nat.le_of_ble_eq_true rfl) dX0_init_62 ?_
  refine n_aload (i := 0) dX0_init_65 rfl ?_
  refine n_iconst dX0_init_66 rfl ?_
  refine n_put (th := 55) (ci := 0) hG (Nat.le_of_ble_eq_true rfl) (Nat.le_of_ble_eq_true rfl) (Nat.le_of_ble_eq_true rfl) rfl inX0z tyX0 tyX0_ok nmX0 rfl (k := 9) (by decide) pf_0_40 rfl (tyX0_ok 9 (by decide)) rfl rfl (Nat.le_of_ble_eq_true rfl) dX0_init_67 ?_
  refine n_aload (i := 0) dX0_init_70 rfl ?_
  refine n_iconst dX0_init_71 rfl ?_
  refine n_put (th := 55) (ci := 0) hG (Nat.le_of_ble_eq_true rfl) (Nat.le_of_ble_eq_true rfl) (Nat.le_of_ble_eq_true rfl) rfl inX0z tyX0 tyX0_ok nmX0 rfl (k := 10) (by decide) pf_0_43 rfl (tyX0_ok 10 (by decide)) rfl rfl (Nat.le_of_ble_eq_true rfl) dX0_init_72 ?_
  refine n_ret (n := 7) dX0_init_75 rfl ?_ (Nat.le_of_ble_eq_true rfl) (Nat.le_of_ble_eq_true rfl)
  intro o h1 h2 H h
  rcases (show o = 55 ∨ o = 56 ∨ o = 57 ∨ o = 58 ∨ o = 59 ∨ o = 60 ∨ o = 61 by omega) with rfl | rfl | rfl | rfl | rfl | rfl | rfl
  · exact h
  · exact h
  · exact h
  · exact h
  · exact h
  · exact h
  · exact h
set_option maxRecDepth 100000 in
theorem k_X4_15 (hG : zGb G base) : zBK l G base yX4_init cX4_init zrmX4 15 4 4 zd4 3 18 := by
  refine zBK.of (own := RX4) (by decide +kernel) rfl rfl ?_
  refine n_aload (i := 0) dX4_init_0 rfl ?_
  refine n_obj oi_4 oi_i oi_c dX4_init_1 (Nat.le_of_ble_eq_true rfl) (Nat.le_of_ble_eq_true rfl) ?_
  refine n_aload (i := 0) dX4_init_4 rfl ?_
  refine n_iconst dX4_init_5 rfl ?_
  refine n_put (th := 15) (ci := 4) hG (Nat.le_of_ble_eq_true rfl) (Nat.le_of_ble_eq_true rfl) (Nat.le_of_ble_eq_true rfl) rfl inX4z tyX4 tyX4_ok nmX4 rfl (k := 0) (by decide) pf_4_9 rfl (tyX4_ok 0 (by decide)) rfl rfl (Nat.le_of_ble_eq_true rfl) dX4_init_6 ?_
  refine n_aload (i := 0) dX4_init_9 rfl ?_
  refine n_bipush dX4_init_10 rfl ?_
  refine n_newa (t := 0) (n := 6) (ty := .int) hG ac_int rfl rfl (fun _ _ h => h) rfl (by decide) (by decide) (by decide) (Nat.le_of_ble_eq_true rfl) (Nat.le_of_ble_eq_true rfl) (Nat.le_of_ble_eq_true rfl) dX4_init_12 ?_
  refine n_putF (th := 15) (ci := 4) rfl hG (Nat.le_of_ble_eq_true rfl) (Nat.le_of_ble_eq_true rfl) (Nat.le_of_ble_eq_true rfl) rfl inX4z tyX4 tyX4_ok nmX4 rfl (k := 1) (by decide) pf_4_15 rfl rfl (tyX4_ok 1 (by decide)) rfl rfl (Nat.le_of_ble_eq_true rfl) dX4_init_14 ?_
  refine n_aload (i := 0) dX4_init_17 rfl ?_
  refine n_bipush dX4_init_18 rfl ?_
  refine n_newa (t := 0) (n := 6) (ty := .int) hG ac_int rfl rfl (fun _ _ h => h) rfl (by decide) (by decide) (by decide) (Nat.le_of_ble_eq_true rfl) (Nat.le_of_ble_eq_true rfl) (Nat.le_of_ble_eq_true rfl) dX4_init_20 ?_
  refine n_putF (th := 15) (ci := 4) rfl hG (Nat.le_of_ble_eq_true rfl) (Nat.le_of_ble_eq_true rfl) (Nat.le_of_ble_eq_true rfl) rfl inX4z tyX4 tyX4_ok nmX4 rfl (k := 2) (by decide) pf_4_19 rfl rfl (tyX4_ok 2 (by decide)) rfl rfl (Nat.le_of_ble_eq_true rfl) dX4_init_22 ?_
  refine n_aload (i := 0) dX4_init_25 rfl ?_
  refine n_bipush dX4_init_26 rfl ?_
  refine n_newa (t := 0) (n := 6) (ty := .int) hG ac_int rfl rfl (fun _ _ h => h) rfl (by decide) (by decide) (by decide) (Nat.le_of_ble_eq_true rfl) (Nat.le_of_ble_eq_true rfl) (Nat.le_of_ble_eq_true rfl) dX4_init_28 ?_
  refine n_putF (th := 15) (ci := 4) rfl hG (Nat.le_of_ble_eq_true rfl) (Nat.le_of_ble_eq_true rfl) (Nat.le_of_ble_eq_true rfl) rfl inX4z tyX4 tyX4_ok nmX4 rfl (k := 3) (by decide) pf_4_22 rfl rfl (tyX4_ok 3 (by decide)) rfl rfl (Nat.le_of_ble_eq_true rfl) dX4_init_30 ?_
  refine n_ret (n := 4) dX4_init_33 rfl ?_ (Nat.le_of_ble_eq_true rfl) (Nat.le_of_ble_eq_true rfl)
  intro o h1 h2 H h
  rcases (show o = 15 ∨ o = 16 ∨ o = 17 ∨ o = 18 by omega) with rfl | rfl | rfl | rfl
  · exact h
  · exact h
  · exact h
  · exact h
set_option maxRecDepth 100000 in
theorem k_X4_28 (hG : zGb G base) : zBK l G base yX4_init cX4_init zrmX4 28 4 4 zd4 3 18 := by
  refine zBK.of (own := RX4) (by decide +kernel) rfl rfl ?_
  refine n_aload (i := 0) dX4_init_0 rfl ?_
  refine n_obj oi_4 oi_i oi_c dX4_init_1 (Nat.le_of_ble_eq_true rfl) (Nat.le_of_ble_eq_true rfl) ?_
  refine n_aload (i := 0) dX4_init_4 rfl ?_
  refine n_iconst dX4_init_5 rfl ?_
  refine n_put (th := 28) (ci := 4) hG (Nat.le_of_ble_eq_true rfl) (Nat.le_of_ble_eq_true rfl) (Nat.le_of_ble_eq_true rfl) rfl inX4z tyX4 tyX4_ok nmX4 rfl (k := 0) (by decide) pf_4_9 rfl (tyX4_ok 0 (by decide)) rfl rfl (Nat.le_of_ble_eq_true rfl) dX4_init_6 ?_
  refine n_aload (i := 0) dX4_init_9 rfl ?_
  refine n_bipush dX4_init_10 rfl ?_
  refine n_newa (t := 0) (n := 6) (ty := .int) hG ac_int rfl rfl (fun _ _ h => h) rfl (by decide) (by decide) (by decide) (Nat.le_of_ble_eq_true rfl) (Nat.le_of_ble_eq_true rfl) (Nat.le_of_ble_eq_true rfl) dX4_init_12 ?_
  refine n_putF (th := 28) (ci := 4) rfl hG (Nat.le_of_ble_eq_true rfl) (Nat.le_of_ble_eq_true rfl) (Nat.le_of_ble_eq_true rfl) rfl inX4z tyX4 tyX4_ok nmX4 rfl (k := 1) (by decide) pf_4_15 rfl rfl (tyX4_ok 1 (by decide)) rfl rfl (Nat.le_of_ble_eq_true rfl) dX4_init_14 ?_
  refine n_aload (i := 0) dX4_init_17 rfl ?_
  refine n_bipush dX4_init_18 rfl ?_
  refine n_newa (t := 0) (n := 6) (ty := .int) hG ac_int rfl rfl (fun _ _ h => h) rfl (by decide) (by decide) (by decide) (Nat.le_of_ble_eq_true rfl) (Nat.le_of_ble_eq_true rfl) (Nat.le_of_ble_eq_true rfl) dX4_init_20 ?_
  refine n_putF (th := 28) (ci := 4) rfl hG (Nat.le_of_ble_eq_true rfl) (Nat.le_of_ble_eq_true rfl) (Nat.le_of_ble_eq_true rfl) rfl inX4z tyX4 tyX4_ok nmX4 rfl (k := 2) (by decide) pf_4_19 rfl rfl (tyX4_ok 2 (by decide)) rfl rfl (Nat.le_of_ble_eq_true rfl) dX4_init_22 ?_
  refine n_aload (i := 0) dX4_init_25 rfl ?_
  refine n_bipush dX4_init_26 rfl ?_
  refine n_newa (t := 0) (n := 6) (ty := .int) hG ac_int rfl rfl (fun _ _ h => h) rfl (by decide) (by decide) (by decide) (Nat.le_of_ble_eq_true rfl) (Nat.le_of_ble_eq_true rfl) (Nat.le_of_ble_eq_true rfl) dX4_init_28 ?_
  refine n_putF (th := 28) (ci := 4) rfl hG (Nat.le_of_ble_eq_true rfl) (Nat.le_of_ble_eq_true rfl) (Nat.le_of_ble_eq_true rfl) rfl inX4z tyX4 tyX4_ok nmX4 rfl (k := 3) (by decide) pf_4_22 rfl rfl (tyX4_ok 3 (by decide)) rfl rfl (Nat.le_of_ble_eq_true rfl) dX4_init_30 ?_
  refine n_ret (n := 4) dX4_init_33 rfl ?_ (Nat.le_of_ble_eq_true rfl) (Nat.le_of_ble_eq_true rfl)
  intro o h1 h2 H h
  rcases (show o = 28 ∨ o = 29 ∨ o = 30 ∨ o = 31 by omega) with rfl | rfl | rfl | rfl
  · exact h
  · exact h
  · exact h
  · exact h
set_option maxRecDepth 100000 in
theorem k_X4_40 (hG : zGb G base) : zBK l G base yX4_init cX4_init zrmX4 40 4 4 zd4 3 18 := by
  refine zBK.of (own := RX4) (by decide +kernel) rfl rfl ?_
  refine n_aload (i := 0) dX4_init_0 rfl ?_
  refine n_obj oi_4 oi_i oi_c dX4_init_1 (Nat.le_of_ble_eq_true rfl) (Nat.le_of_ble_eq_true rfl) ?_
  refine n_aload (i := 0) dX4_init_4 rfl ?_
  refine n_iconst dX4_init_5 rfl ?_
  refine n_put (th := 40) (ci := 4) hG (Nat.le_of_ble_eq_true rfl) (Nat.le_of_ble_eq_true rfl) (Nat.le_of_ble_eq_true rfl) rfl inX4z tyX4 tyX4_ok nmX4 rfl (k := 0) (by decide) pf_4_9 rfl (tyX4_ok 0 (by decide)) rfl rfl (Nat.le_of_ble_eq_true rfl) dX4_init_6 ?_
  refine n_aload (i := 0) dX4_init_9 rfl ?_
  refine n_bipush dX4_init_10 rfl ?_
  refine n_newa (t := 0) (n := 6) (ty := .int) hG ac_int rfl rfl (fun _ _ h => h) rfl (by decide) (by decide) (by decide) (Nat.le_of_ble_eq_true rfl) (Nat.le_of_ble_eq_true rfl) (Nat.le_of_ble_eq_true rfl) dX4_init_12 ?_
  refine n_putF (th := 40) (ci := 4) rfl hG (Nat.le_of_ble_eq_true rfl) (Nat.le_of_ble_eq_true rfl) (Nat.le_of_ble_eq_true rfl) rfl inX4z tyX4 tyX4_ok nmX4 rfl (k := 1) (by decide) pf_4_15 rfl rfl (tyX4_ok 1 (by decide)) rfl rfl (Nat.le_of_ble_eq_true rfl) dX4_init_14 ?_
  refine n_aload (i := 0) dX4_init_17 rfl ?_
  refine n_bipush dX4_init_18 rfl ?_
  refine n_newa (t := 0) (n := 6) (ty := .int) hG ac_int rfl rfl (fun _ _ h => h) rfl (by decide) (by decide) (by decide) (Nat.le_of_ble_eq_true rfl) (Nat.le_of_ble_eq_true rfl) (Nat.le_of_ble_eq_true rfl) dX4_init_20 ?_
  refine n_putF (th := 40) (ci := 4) rfl hG (Nat.le_of_ble_eq_true rfl) (Nat.le_of_ble_eq_true rfl) (Nat.le_of_ble_eq_true rfl) rfl inX4z tyX4 tyX4_ok nmX4 rfl (k := 2) (by decide) pf_4_19 rfl rfl (tyX4_ok 2 (by decide)) rfl rfl (Nat.le_of_ble_eq_true rfl) dX4_init_22 ?_
  refine n_aload (i := 0) dX4_init_25 rfl ?_
  refine n_bipush dX4_init_26 rfl ?_
  refine n_newa (t := 0) (n := 6) (ty := .int) hG ac_int rfl rfl (fun _ _ h => h) rfl (by decide) (by decide) (by decide) (Nat.le_of_ble_eq_true rfl) (Nat.le_of_ble_eq_true rfl) (Nat.le_of_ble_eq_true rfl) dX4_init_28 ?_
  refine n_putF (th := 40) (ci := 4) rfl hG (Nat.le_of_ble_eq_true rfl) (Nat.le_of_ble_eq_true rfl) (Nat.le_of_ble_eq_true rfl) rfl inX4z tyX4 tyX4_ok nmX4 rfl (k := 3) (by decide) pf_4_22 rfl rfl (tyX4_ok 3 (by decide)) rfl rfl (Nat.le_of_ble_eq_true rfl) dX4_init_30 ?_
  refine n_ret (n := 4) dX4_init_33 rfl ?_ (Nat.le_of_ble_eq_true rfl) (Nat.le_of_ble_eq_true rfl)
  intro o h1 h2 H h
  rcases (show o = 40 ∨ o = 41 ∨ o = 42 ∨ o = 43 by omega) with rfl | rfl | rfl | rfl
  · exact h
  · exact h
  · exact h
  · exact h
set_option maxRecDepth 100000 in
theorem k_X3_45 (hG : zGb G base) : zBK l G base yX3_init cX3_init zrmX3 45 2 3 zd3 1 40 := by
  refine zBK.of (own := RX3) (by decide +kernel) rfl rfl ?_
  refine n_aload (i := 0) dX3_init_0 rfl ?_
  refine n_obj oi_3 oi_i oi_c dX3_init_1 (Nat.le_of_ble_eq_true rfl) (Nat.le_of_ble_eq_true rfl) ?_
  refine n_aload (i := 0) dX3_init_4 rfl ?_
  refine n_bipush dX3_init_5 rfl ?_
  refine n_put (th := 45) (ci := 3) hG (Nat.le_of_ble_eq_true rfl) (Nat.le_of_ble_eq_true rfl) (Nat.le_of_ble_eq_true rfl) rfl inX3z tyX3 tyX3_ok nmX3 rfl (k := 0) (by decide) pf_3_9 rfl (tyX3_ok 0 (by decide)) rfl rfl (Nat.le_of_ble_eq_true rfl) dX3_init_7 ?_
  refine n_aload (i := 0) dX3_init_10 rfl ?_
  refine n_iconst dX3_init_11 rfl ?_
  refine n_put (th := 45) (ci := 3) hG (Nat.le_of_ble_eq_true rfl) (Nat.le_of_ble_eq_true rfl) (Nat.le_of_ble_eq_true rfl) rfl inX3z tyX3 tyX3_ok nmX3 rfl (k := 1) (by decide) pf_3_15 rfl (tyX3_ok 1 (by decide)) rfl rfl (Nat.le_of_ble_eq_true rfl) dX3_init_12 ?_
  refine n_aload (i := 0) dX3_init_15 rfl ?_
  refine n_bipush dX3_init_16 rfl ?_
  refine n_newa (t := 0) (n := 40) (ty := .int) hG ac_int rfl rfl (fun _ _ h => h) rfl (by decide) (by decide) (by decide) (Nat.le_of_ble_eq_true rfl) (Nat.le_of_ble_eq_true rfl) (Nat.le_of_ble_eq_true rfl) dX3_init_18 ?_
  refine n_putF (th := 45) (ci := 3) rfl hG (Nat.le_of_ble_eq_true rfl) (Nat.le_of_ble_eq_true rfl) (Nat.le_of_ble_eq_true rfl) rfl inX3z tyX3 tyX3_ok nmX3 rfl (k := 2) (by decide) pf_3_18 rfl rfl (tyX3_ok 2 (by decide)) rfl rfl (Nat.le_of_ble_eq_true rfl) dX3_init_20 ?_
  refine n_ret (n := 2) dX3_init_23 rfl ?_ (Nat.le_of_ble_eq_true rfl) (Nat.le_of_ble_eq_true rfl)
  intro o h1 h2 H h
  rcases (show o = 45 ∨ o = 46 by omega) with rfl | rfl
  · exact h
  · exact h
set_option maxRecDepth 100000 in
theorem k_X3_47 (hG : zGb G base) : zBK l G base yX3_init cX3_init zrmX3 47 2 3 zd3 1 40 := by
  refine zBK.of (own := RX3) (by decide +kernel) rfl rfl ?_
  refine n_aload (i := 0) dX3_init_0 rfl ?_
  refine n_obj oi_3 oi_i oi_c dX3_init_1 (Nat.le_of_ble_eq_true rfl) (Nat.le_of_ble_eq_true rfl) ?_
  refine n_aload (i := 0) dX3_init_4 rfl ?_
  refine n_bipush dX3_init_5 rfl ?_
  refine n_put (th := 47) (ci := 3) hG (Nat.le_of_ble_eq_true rfl) (Nat.le_of_ble_eq_true rfl) (Nat.le_of_ble_eq_true rfl) rfl inX3z tyX3 tyX3_ok nmX3 rfl (k := 0) (by decide) pf_3_9 rfl (tyX3_ok 0 (by decide)) rfl rfl (Nat.le_of_ble_eq_true rfl) dX3_init_7 ?_
  refine n_aload (i := 0) dX3_init_10 rfl ?_
  refine n_iconst dX3_init_11 rfl ?_
  refine n_put (th := 47) (ci := 3) hG (Nat.le_of_ble_eq_true rfl) (Nat.le_of_ble_eq_true rfl) (Nat.le_of_ble_eq_true rfl) rfl inX3z tyX3 tyX3_ok nmX3 rfl (k := 1) (by decide) pf_3_15 rfl (tyX3_ok 1 (by decide)) rfl rfl (Nat.le_of_ble_eq_true rfl) dX3_init_12 ?_
  refine n_aload (i := 0) dX3_init_15 rfl ?_
  refine n_bipush dX3_init_16 rfl ?_
  refine n_newa (t := 0) (n := 40) (ty := .int) hG ac_int rfl rfl (fun _ _ h => h) rfl (by decide) (by decide) (by decide) (Nat.le_of_ble_eq_true rfl) (Nat.le_of_ble_eq_true rfl) (Nat.le_of_ble_eq_true rfl) dX3_init_18 ?_
  refine n_putF (th := 47) (ci := 3) rfl hG (Nat.le_of_ble_eq_true rfl) (Nat.le_of_ble_eq_true rfl) (Nat.le_of_ble_eq_true rfl) rfl inX3z tyX3 tyX3_ok nmX3 rfl (k := 2) (by decide) pf_3_18 rfl rfl (tyX3_ok 2 (by decide)) rfl rfl (Nat.le_of_ble_eq_true rfl) dX3_init_20 ?_
  refine n_ret (n := 2) dX3_init_23 rfl ?_ (Nat.le_of_ble_eq_true rfl) (Nat.le_of_ble_eq_true rfl)
  intro o h1 h2 H h
  rcases (show o = 47 ∨ o = 48 by omega) with rfl | rfl
  · exact h
  · exact h
set_option maxRecDepth 100000 in
theorem k_X3_49 (hG : zGb G base) : zBK l G base yX3_init cX3_init zrmX3 49 2 3 zd3 1 40 := by
  refine zBK.of (own := RX3) (by decide +kernel) rfl rfl ?_
  refine n_aload (i := 0) dX3_init_0 rfl ?_
  refine n_obj oi_3 oi_i oi_c dX3_init_1 (Nat.le_of_ble_eq_true rfl) (Nat.le_of_ble_eq_true rfl) ?_
  refine n_aload (i := 0) dX3_init_4 rfl ?_
  refine n_bipush dX3_init_5 rfl ?_
  refine n_put (th := 49) (ci := 3) hG (Nat.le_of_ble_eq_true rfl) (Nat.le_of_ble_eq_true rfl) (Nat.le_of_ble_eq_true rfl) rfl inX3z tyX3 tyX3_ok nmX3 rfl (k := 0) (by decide) pf_3_9 rfl (tyX3_ok 0 (by decide)) rfl rfl (Nat.le_of_ble_eq_true rfl) dX3_init_7 ?_
  refine n_aload (i := 0) dX3_init_10 rfl ?_
  refine n_iconst dX3_init_11 rfl ?_
  refine n_put (th := 49) (ci := 3) hG (Nat.le_of_ble_eq_true rfl) (Nat.le_of_ble_eq_true rfl) (Nat.le_of_ble_eq_true rfl) rfl inX3z tyX3 tyX3_ok nmX3 rfl (k := 1) (by decide) pf_3_15 rfl (tyX3_ok 1 (by decide)) rfl rfl (Nat.le_of_ble_eq_true rfl) dX3_init_12 ?_
  refine n_aload (i := 0) dX3_init_15 rfl ?_
  refine n_bipush dX3_init_16 rfl ?_
  refine n_newa (t := 0) (n := 40) (ty := .int) hG ac_int rfl rfl (fun _ _ h => h) rfl (by decide) (by decide) (by decide) (Nat.le_of_ble_eq_true rfl) (Nat.le_of_ble_eq_true rfl) (Nat.le_of_ble_eq_true rfl) dX3_init_18 ?_
  refine n_putF (th := 49) (ci := 3) rfl hG (Nat.le_of_ble_eq_true rfl) (Nat.le_of_ble_eq_true rfl) (Nat.le_of_ble_eq_true rfl) rfl inX3z tyX3 tyX3_ok nmX3 rfl (k := 2) (by decide) pf_3_18 rfl rfl (tyX3_ok 2 (by decide)) rfl rfl (Nat.le_of_ble_eq_true rfl) dX3_init_20 ?_
  refine n_ret (n := 2) dX3_init_23 rfl ?_ (Nat.le_of_ble_eq_true rfl) (Nat.le_of_ble_eq_true rfl)
  intro o h1 h2 H h
  rcases (show o = 49 ∨ o = 50 by omega) with rfl | rfl
  · exact h
  · exact h
set_option maxRecDepth 100000 in
theorem k_X3_51 (hG : zGb G base) : zBK l G base yX3_init cX3_init zrmX3 51 2 3 zd3 1 40 := by
  refine zBK.of (own := RX3) (by decide +kernel) rfl rfl ?_
  refine n_aload (i := 0) dX3_init_0 rfl ?_
  refine n_obj oi_3 oi_i oi_c dX3_init_1 (Nat.le_of_ble_eq_true rfl) (Nat.le_of_ble_eq_true rfl) ?_
  refine n_aload (i := 0) dX3_init_4 rfl ?_
  refine n_bipush dX3_init_5 rfl ?_
  refine n_put (th := 51) (ci := 3) hG (Nat.le_of_ble_eq_true rfl) (Nat.le_of_ble_eq_true rfl) (Nat.le_of_ble_eq_true rfl) rfl inX3z tyX3 tyX3_ok nmX3 rfl (k := 0) (by decide) pf_3_9 rfl (tyX3_ok 0 (by decide)) rfl rfl (Nat.le_of_ble_eq_true rfl) dX3_init_7 ?_
  refine n_aload (i := 0) dX3_init_10 rfl ?_
  refine n_iconst dX3_init_11 rfl ?_
  refine n_put (th := 51) (ci := 3) hG (Nat.le_of_ble_eq_true rfl) (Nat.le_of_ble_eq_true rfl) (Nat.le_of_ble_eq_true rfl) rfl inX3z tyX3 tyX3_ok nmX3 rfl (k := 1) (by decide) pf_3_15 rfl (tyX3_ok 1 (by decide)) rfl rfl (Nat.le_of_ble_eq_true rfl) dX3_init_12 ?_
  refine n_aload (i := 0) dX3_init_15 rfl ?_
  refine n_bipush dX3_init_16 rfl ?_
  refine n_newa (t := 0) (n := 40) (ty := .int) hG ac_int rfl rfl (fun _ _ h => h) rfl (by decide) (by decide) (by decide) (Nat.le_of_ble_eq_true rfl) (Nat.le_of_ble_eq_true rfl) (Nat.le_of_ble_eq_true rfl) dX3_init_18 ?_
  refine n_putF (th := 51) (ci := 3) rfl hG (Nat.le_of_ble_eq_true rfl) (Nat.le_of_ble_eq_true rfl) (Nat.le_of_ble_eq_true rfl) rfl inX3z tyX3 tyX3_ok nmX3 rfl (k := 2) (by decide) pf_3_18 rfl rfl (tyX3_ok 2 (by decide)) rfl rfl (Nat.le_of_ble_eq_true rfl) dX3_init_20 ?_
  refine n_ret (n := 2) dX3_init_23 rfl ?_ (Nat.le_of_ble_eq_true rfl) (Nat.le_of_ble_eq_true rfl)
  intro o h1 h2 H h
  rcases (show o = 51 ∨ o = 52 by omega) with rfl | rfl
  · exact h
  · exact h
set_option maxRecDepth 100000 in
theorem k_X1_20 (hG : zGb G base) : zBK l G base yX1_init cX1_init zrmX1 20 12 1 zd1 11 86 := by
  refine zBK.of (own := RX1) (by decide +kernel) rfl rfl ?_
  refine n_aload (i := 0) dX1_init_0 rfl ?_
  refine n_obj oi_1 oi_i oi_c dX1_init_1 (Nat.le_of_ble_eq_true rfl) (Nat.le_of_ble_eq_true rfl) ?_
  refine n_aload (i := 0) dX1_init_4 rfl ?_
  refine n_iconst dX1_init_5 rfl ?_
  refine n_put (th := 20) (ci := 1) hG (Nat.le_of_ble_eq_true rfl) (Nat.le_of_ble_eq_true rfl) (Nat.le_of_ble_eq_true rfl) rfl inX1z tyX1 tyX1_ok nmX1 rfl (k := 0) (by decide) pf_1_7 rfl (tyX1_ok 0 (by decide)) rfl rfl (Nat.le_of_ble_eq_true rfl) dX1_init_6 ?_
  refine n_aload (i := 0) dX1_init_9 rfl ?_
  refine n_new (ci := 0) (fs := zd0) hG cl_1_13 is_0 iz_0 inX0z tyX0 tyX0_ok rfl zdf0 (Nat.le_of_ble_eq_true rfl) (Nat.le_of_ble_eq_true rfl) (Nat.le_of_ble_eq_true rfl) dX1_init_10 ?_
  refine n_dup dX1_init_13 ?_
  refine n_callN (b := 21) hG (k_X0_21 hG) YiX0 ⟨rfl, rfl⟩ (fun _ h => h.1.1) (Nat.le_of_ble_eq_true rfl) (Nat.le_of_ble_eq_true rfl) rfl rfl ⟨Nat.le_of_ble_eq_true rfl, Nat.le_of_ble_eq_true rfl⟩ (Nat.le_of_ble_eq_true rfl) (Nat.le_of_ble_eq_true rfl) (Nat.le_of_ble_eq_true rfl) dX1_init_14 ?_
  refine n_putF (th := 20) (ci := 1) rfl hG (Nat.le_of_ble_eq_true rfl) (Nat.le_of_ble_eq_true rfl) (Nat.le_of_ble_eq_true rfl) rfl inX1z tyX1 tyX1_ok nmX1 rfl (k := 1) (by decide) pf_1_16 rfl rfl (tyX1_ok 1 (by decide)) rfl rfl (Nat.le_of_ble_eq_true rfl) dX1_init_17 ?_
  refine n_aload (i := 0) dX1_init_20 rfl ?_
  refine n_new (ci := 4) (fs := zd4) hG cl_1_20 is_4 iz_4 inX4z tyX4 tyX4_ok rfl zdf4 (Nat.le_of_ble_eq_true rfl) (Nat.le_of_ble_eq_true rfl) (Nat.le_of_ble_eq_true rfl) dX1_init_21 ?_
  refine n_dup dX1_init_24 ?_
  refine n_callN (b := 28) hG (k_X4_28 hG) YiX4 ⟨rfl, rfl⟩ (fun _ h => h.1.2.1) (Nat.le_of_ble_eq_true rfl) (Nat.le_of_ble_eq_true rfl) rfl rfl ⟨Nat.le_of_ble_eq_true rfl, Nat.le_of_ble_eq_true rfl⟩ (Nat.le_of_ble_eq_true rfl) (Nat.le_of_ble_eq_true rfl) (Nat.le_of_ble_eq_true rfl) dX1_init_25 ?_
  refine n_putF (th := 20) (ci := 1) rfl hG (Nat.le_of_ble_eq_true rfl) (Nat.le_of_ble_eq_true rfl) (Nat.le_of_ble_eq_true rfl) rfl inX1z tyX1 tyX1_ok nmX1 rfl (k := 2) (by decide) pf_1_23 rfl rfl (tyX1_ok 2 (by decide)) rfl rfl (Nat.le_of_ble_eq_true rfl) dX1_init_28 ?_
  refine n_ret (n := 12) dX1_init_31 rfl ?_ (Nat.le_of_ble_eq_true rfl) (Nat.le_of_ble_eq_true rfl)
  intro o h1 h2 H h
  rcases (show o = 20 ∨ o = 21 ∨ o = 22 ∨ o = 23 ∨ o = 24 ∨ o = 25 ∨ o = 26 ∨ o = 27 ∨ o = 28 ∨ o = 29 ∨ o = 30 ∨ o = 31 by omega) with rfl | rfl | rfl | rfl | rfl | rfl | rfl | rfl | rfl | rfl | rfl | rfl
  · exact h
  · exact h
  · exact h
  · exact h
  · exact h
  · exact h
  · exact h
  · exact h
  · exact h
  · exact h
  · exact h
  · exact h
set_option maxRecDepth 100000 in
theorem k_X1_32 (hG : zGb G base) : zBK l G base yX1_init cX1_init zrmX1 32 12 1 zd1 11 86 := by
  refine zBK.of (own := RX1) (by decide +kernel) rfl rfl ?_
  refine n_aload (i := 0) dX1_init_0 rfl ?_
  refine n_obj oi_1 oi_i oi_c dX1_init_1 (Nat.le_of_ble_eq_true rfl) (Nat.le_of_ble_eq_true rfl) ?_
  refine n_aload (i := 0) dX1_init_4 rfl ?_
  refine n_iconst dX1_init_5 rfl ?_
  refine n_put (th := 32) (ci := 1) hG (Nat.le_of_ble_eq_true rfl) (Nat.le_of_ble_eq_true rfl) (Nat.le_of_ble_eq_true rfl) rfl inX1z tyX1 tyX1_ok nmX1 rfl (k := 0) (by decide) pf_1_7 rfl (tyX1_ok 0 (by decide)) rfl rfl (Nat.le_of_ble_eq_true rfl) dX1_init_6 ?_
  refine n_aload (i := 0) dX1_init_9 rfl ?_
  refine n_new (ci := 0) (fs := zd0) hG cl_1_13 is_0 iz_0 inX0z tyX0 tyX0_ok rfl zdf0 (Nat.le_of_ble_eq_true rfl) (Nat.le_of_ble_eq_true rfl) (Nat.le_of_ble_eq_true rfl) dX1_init_10 ?_
  refine n_dup dX1_init_13 ?_
  refine n_callN (b := 33) hG (k_X0_33 hG) YiX0 ⟨rfl, rfl⟩ (fun _ h => h.1.1) (Nat.le_of_ble_eq_true rfl) (Nat.le_of_ble_eq_true rfl) rfl rfl ⟨Nat.le_of_ble_eq_true rfl, Nat.le_of_ble_eq_true rfl⟩ (Nat.le_of_ble_eq_true rfl) (Nat.le_of_ble_eq_true rfl) (Nat.le_of_ble_eq_true rfl) dX1_init_14 ?_
  refine n_putF (th := 32) (ci := 1) rfl hG (Nat.le_of_ble_eq_true rfl) (Nat.le_of_ble_eq_true rfl) (Nat.le_of_ble_eq_true rfl) rfl inX1z tyX1 tyX1_ok nmX1 rfl (k := 1) (by decide) pf_1_16 rfl rfl (tyX1_ok 1 (by decide)) rfl rfl (Nat.le_of_ble_eq_true rfl) dX1_init_17 ?_
  refine n_aload (i := 0) dX1_init_20 rfl ?_
  refine n_new (ci := 4) (fs := zd4) hG cl_1_20 is_4 iz_4 inX4z tyX4 tyX4_ok rfl zdf4 (Nat.le_of_ble_eq_true rfl) (Nat.le_of_ble_eq_true rfl) (Nat.le_of_ble_eq_true rfl) dX1_init_21 ?_
  refine n_dup dX1_init_24 ?_
  refine n_callN (b := 40) hG (k_X4_40 hG) YiX4 ⟨rfl, rfl⟩ (fun _ h => h.1.2.1) (Nat.le_of_ble_eq_true rfl) (Nat.le_of_ble_eq_true rfl) rfl rfl ⟨Nat.le_of_ble_eq_true rfl, Nat.le_of_ble_eq_true rfl⟩ (Nat.le_of_ble_eq_true rfl) (Nat.le_of_ble_eq_true rfl) (Nat.le_of_ble_eq_true rfl) dX1_init_25 ?_
  refine n_putF (th := 32) (ci := 1) rfl hG (Nat.le_of_ble_eq_true rfl) (Nat.le_of_ble_eq_true rfl) (Nat.le_of_ble_eq_true rfl) rfl inX1z tyX1 tyX1_ok nmX1 rfl (k := 2) (by decide) pf_1_23 rfl rfl (tyX1_ok 2 (by decide)) rfl rfl (Nat.le_of_ble_eq_true rfl) dX1_init_28 ?_
  refine n_ret (n := 12) dX1_init_31 rfl ?_ (Nat.le_of_ble_eq_true rfl) (Nat.le_of_ble_eq_true rfl)
  intro o h1 h2 H h
  rcases (show o = 32 ∨ o = 33 ∨ o = 34 ∨ o = 35 ∨ o = 36 ∨ o = 37 ∨ o = 38 ∨ o = 39 ∨ o = 40 ∨ o = 41 ∨ o = 42 ∨ o = 43 by omega) with rfl | rfl | rfl | rfl | rfl | rfl | rfl | rfl | rfl | rfl | rfl | rfl
  · exact h
  · exact h
  · exact h
  · exact h
  · exact h
  · exact h
  · exact h
  · exact h
  · exact h
  · exact h
  · exact h
  · exact h
set_option maxRecDepth 100000 in
theorem k_X2_53 (hG : zGb G base) : zBK l G base yX2_init cX2_init zrmX2 53 10 2 zd2 9 249 := by
  refine zBK.of (own := RX2) (by decide +kernel) rfl rfl ?_
  refine n_aload (i := 0) dX2_init_0 rfl ?_
  refine n_obj oi_2 oi_i oi_c dX2_init_1 (Nat.le_of_ble_eq_true rfl) (Nat.le_of_ble_eq_true rfl) ?_
  refine n_aload (i := 0) dX2_init_4 rfl ?_
  refine n_sipush dX2_init_5 rfl ?_
  refine n_newa (t := 1) (n := 160) (ty := .byte) hG ac_byte rfl rfl (fun _ _ h => h) rfl (by decide) (by decide) (by decide) (Nat.le_of_ble_eq_true rfl) (Nat.le_of_ble_eq_true rfl) (Nat.le_of_ble_eq_true rfl) dX2_init_8 ?_
  refine n_putF (th := 53) (ci := 2) rfl hG (Nat.le_of_ble_eq_true rfl) (Nat.le_of_ble_eq_true rfl) (Nat.le_of_ble_eq_true rfl) rfl inX2z tyX2 tyX2_ok nmX2 rfl (k := 0) (by decide) pf_2_9 rfl rfl (tyX2_ok 0 (by decide)) rfl rfl (Nat.le_of_ble_eq_true rfl) dX2_init_10 ?_
  refine n_aload (i := 0) dX2_init_13 rfl ?_
  refine n_iconst dX2_init_14 rfl ?_
  refine n_put (th := 53) (ci := 2) hG (Nat.le_of_ble_eq_true rfl) (Nat.le_of_ble_eq_true rfl) (Nat.le_of_ble_eq_true rfl) rfl inX2z tyX2 tyX2_ok nmX2 rfl (k := 1) (by decide) pf_2_15 rfl (tyX2_ok 1 (by decide)) rfl rfl (Nat.le_of_ble_eq_true rfl) dX2_init_15 ?_
  refine n_aload (i := 0) dX2_init_18 rfl ?_
  refine n_new (ci := 0) (fs := zd0) hG cl_2_19 is_0 iz_0 inX0z tyX0 tyX0_ok rfl zdf0 (Nat.le_of_ble_eq_true rfl) (Nat.le_of_ble_eq_true rfl) (Nat.le_of_ble_eq_true rfl) dX2_init_19 ?_
  refine n_dup dX2_init_22 ?_
  refine n_callN (b := 55) hG (k_X0_55 hG) YiX0 ⟨rfl, rfl⟩ (fun _ h => h.1.2.2.1) (Nat.le_of_ble_eq_true rfl) (Nat.le_of_ble_eq_true rfl) rfl rfl ⟨Nat.le_of_ble_eq_true rfl, Nat.le_of_ble_eq_true rfl⟩ (Nat.le_of_ble_eq_true rfl) (Nat.le_of_ble_eq_true rfl) (Nat.le_of_ble_eq_true rfl) dX2_init_23 ?_
  refine n_putF (th := 53) (ci := 2) rfl hG (Nat.le_of_ble_eq_true rfl) (Nat.le_of_ble_eq_true rfl) (Nat.le_of_ble_eq_true rfl) rfl inX2z tyX2 tyX2_ok nmX2 rfl (k := 2) (by decide) pf_2_22 rfl rfl (tyX2_ok 2 (by decide)) rfl rfl (Nat.le_of_ble_eq_true rfl) dX2_init_26 ?_
  refine n_aload (i := 0) dX2_init_29 rfl ?_
  refine n_iconst dX2_init_30 rfl ?_
  refine n_put (th := 53) (ci := 2) hG (Nat.le_of_ble_eq_true rfl) (Nat.le_of_ble_eq_true rfl) (Nat.le_of_ble_eq_true rfl) rfl inX2z tyX2 tyX2_ok nmX2 rfl (k := 3) (by decide) pf_2_26 rfl (tyX2_ok 3 (by decide)) rfl rfl (Nat.le_of_ble_eq_true rfl) dX2_init_31 ?_
  refine n_aload (i := 0) dX2_init_34 rfl ?_
  refine n_iconst dX2_init_35 rfl ?_
  refine n_put (th := 53) (ci := 2) hG (Nat.le_of_ble_eq_true rfl) (Nat.le_of_ble_eq_true rfl) (Nat.le_of_ble_eq_true rfl) rfl inX2z tyX2 tyX2_ok nmX2 rfl (k := 4) (by decide) pf_2_29 rfl (tyX2_ok 4 (by decide)) rfl rfl (Nat.le_of_ble_eq_true rfl) dX2_init_36 ?_
  refine n_aload (i := 0) dX2_init_39 rfl ?_
  refine n_iconst dX2_init_40 rfl ?_
  refine n_put (th := 53) (ci := 2) hG (Nat.le_of_ble_eq_true rfl) (Nat.le_of_ble_eq_true rfl) (Nat.le_of_ble_eq_true rfl) rfl inX2z tyX2 tyX2_ok nmX2 rfl (k := 5) (by decide) pf_2_32 rfl (tyX2_ok 5 (by decide)) rfl rfl (Nat.le_of_ble_eq_true rfl) dX2_init_41 ?_
  refine n_aload (i := 0) dX2_init_44 rfl ?_
  refine n_bipush dX2_init_45 rfl ?_
  refine n_newa (t := 2) (n := 25) (ty := .boolean) hG ac_boolean rfl rfl (fun _ _ h => h) rfl (by decide) (by decide) (by decide) (Nat.le_of_ble_eq_true rfl) (Nat.le_of_ble_eq_true rfl) (Nat.le_of_ble_eq_true rfl) dX2_init_47 ?_
  refine n_putF (th := 53) (ci := 2) rfl hG (Nat.le_of_ble_eq_true rfl) (Nat.le_of_ble_eq_true rfl) (Nat.le_of_ble_eq_true rfl) rfl inX2z tyX2 tyX2_ok nmX2 rfl (k := 6) (by decide) pf_2_35 rfl rfl (tyX2_ok 6 (by decide)) rfl rfl (Nat.le_of_ble_eq_true rfl) dX2_init_49 ?_
  refine n_aload (i := 0) dX2_init_52 rfl ?_
  refine n_iconst dX2_init_53 rfl ?_
  refine n_put (th := 53) (ci := 2) hG (Nat.le_of_ble_eq_true rfl) (Nat.le_of_ble_eq_true rfl) (Nat.le_of_ble_eq_true rfl) rfl inX2z tyX2 tyX2_ok nmX2 rfl (k := 7) (by decide) pf_2_39 rfl (tyX2_ok 7 (by decide)) rfl rfl (Nat.le_of_ble_eq_true rfl) dX2_init_54 ?_
  refine n_aload (i := 0) dX2_init_57 rfl ?_
  refine n_iconst dX2_init_58 rfl ?_
  refine n_put (th := 53) (ci := 2) hG (Nat.le_of_ble_eq_true rfl) (Nat.le_of_ble_eq_true rfl) (Nat.le_of_ble_eq_true rfl) rfl inX2z tyX2 tyX2_ok nmX2 rfl (k := 8) (by decide) pf_2_43 rfl (tyX2_ok 8 (by decide)) rfl rfl (Nat.le_of_ble_eq_true rfl) dX2_init_59 ?_
  refine n_aload (i := 0) dX2_init_62 rfl ?_
  refine n_iconst dX2_init_63 rfl ?_
  refine n_put (th := 53) (ci := 2) hG (Nat.le_of_ble_eq_true rfl) (Nat.le_of_ble_eq_true rfl) (Nat.le_of_ble_eq_true rfl) rfl inX2z tyX2 tyX2_ok nmX2 rfl (k := 9) (by decide) pf_2_46 rfl (tyX2_ok 9 (by decide)) rfl rfl (Nat.le_of_ble_eq_true rfl) dX2_init_64 ?_
  refine n_aload (i := 0) dX2_init_67 rfl ?_
  refine n_iconst dX2_init_68 rfl ?_
  refine n_put (th := 53) (ci := 2) hG (Nat.le_of_ble_eq_true rfl) (Nat.le_of_ble_eq_true rfl) (Nat.le_of_ble_eq_true rfl) rfl inX2z tyX2 tyX2_ok nmX2 rfl (k := 10) (by decide) pf_2_49 rfl (tyX2_ok 10 (by decide)) rfl rfl (Nat.le_of_ble_eq_true rfl) dX2_init_69 ?_
  refine n_aload (i := 0) dX2_init_72 rfl ?_
  refine n_iconst dX2_init_73 rfl ?_
  refine n_put (th := 53) (ci := 2) hG (Nat.le_of_ble_eq_true rfl) (Nat.le_of_ble_eq_true rfl) (Nat.le_of_ble_eq_true rfl) rfl inX2z tyX2 tyX2_ok nmX2 rfl (k := 11) (by decide) pf_2_52 rfl (tyX2_ok 11 (by decide)) rfl rfl (Nat.le_of_ble_eq_true rfl) dX2_init_74 ?_
  refine n_aload (i := 0) dX2_init_77 rfl ?_
  refine n_iconst dX2_init_78 rfl ?_
  refine n_put (th := 53) (ci := 2) hG (Nat.le_of_ble_eq_true rfl) (Nat.le_of_ble_eq_true rfl) (Nat.le_of_ble_eq_true rfl) rfl inX2z tyX2 tyX2_ok nmX2 rfl (k := 12) (by decide) pf_2_55 rfl (tyX2_ok 12 (by decide)) rfl rfl (Nat.le_of_ble_eq_true rfl) dX2_init_79 ?_
  refine n_aload (i := 0) dX2_init_82 rfl ?_
  refine n_iconst dX2_init_83 rfl ?_
  refine n_put (th := 53) (ci := 2) hG (Nat.le_of_ble_eq_true rfl) (Nat.le_of_ble_eq_true rfl) (Nat.le_of_ble_eq_true rfl) rfl inX2z tyX2 tyX2_ok nmX2 rfl (k := 13) (by decide) pf_2_58 rfl (tyX2_ok 13 (by decide)) rfl rfl (Nat.le_of_ble_eq_true rfl) dX2_init_84 ?_
  refine n_aload (i := 0) dX2_init_87 rfl ?_
  refine n_iconst dX2_init_88 rfl ?_
  refine n_put (th := 53) (ci := 2) hG (Nat.le_of_ble_eq_true rfl) (Nat.le_of_ble_eq_true rfl) (Nat.le_of_ble_eq_true rfl) rfl inX2z tyX2 tyX2_ok nmX2 rfl (k := 14) (by decide) pf_2_61 rfl (tyX2_ok 14 (by decide)) rfl rfl (Nat.le_of_ble_eq_true rfl) dX2_init_89 ?_
  refine n_ret (n := 10) dX2_init_92 rfl ?_ (Nat.le_of_ble_eq_true rfl) (Nat.le_of_ble_eq_true rfl)
  intro o h1 h2 H h
  rcases (show o = 53 ∨ o = 54 ∨ o = 55 ∨ o = 56 ∨ o = 57 ∨ o = 58 ∨ o = 59 ∨ o = 60 ∨ o = 61 ∨ o = 62 by omega) with rfl | rfl | rfl | rfl | rfl | rfl | rfl | rfl | rfl | rfl
  · exact h
  · exact h
  · exact h
  · exact h
  · exact h
  · exact h
  · exact h
  · exact h
  · exact h
  · exact h
set_option maxRecDepth 100000 in
theorem k_X5_0 (hG : zGb G base) : zBK l G base yX5_init cX5_init zrmX5 0 65 5 zd5 64 1230 := by
  refine zBK.of (own := RX5) (by decide +kernel) rfl rfl ?_
  refine n_aload (i := 0) dX5_init_0 rfl ?_
  refine n_obj oi_5 oi_i oi_c dX5_init_1 (Nat.le_of_ble_eq_true rfl) (Nat.le_of_ble_eq_true rfl) ?_
  refine n_aload (i := 0) dX5_init_4 rfl ?_
  refine n_new (ci := 0) (fs := zd0) hG cl_5_7 is_0 iz_0 inX0z tyX0 tyX0_ok rfl zdf0 (Nat.le_of_ble_eq_true rfl) (Nat.le_of_ble_eq_true rfl) (Nat.le_of_ble_eq_true rfl) dX5_init_5 ?_
  refine n_dup dX5_init_8 ?_
  refine n_callN (b := 1) hG (k_X0_1 hG) YiX0 ⟨rfl, rfl⟩ (fun _ h => h.1.2.2.2.1) (Nat.le_of_ble_eq_true rfl) (Nat.le_of_ble_eq_true rfl) rfl rfl ⟨Nat.le_of_ble_eq_true rfl, Nat.le_of_ble_eq_true rfl⟩ (Nat.le_of_ble_eq_true rfl) (Nat.le_of_ble_eq_true rfl) (Nat.le_of_ble_eq_true rfl) dX5_init_9 ?_
  refine n_putF (th := 0) (ci := 5) rfl hG (Nat.le_of_ble_eq_true rfl) (Nat.le_of_ble_eq_true rfl) (Nat.le_of_ble_eq_true rfl) rfl inX5z tyX5 tyX5_ok nmX5 rfl (k := 0) (by decide) pf_5_10 rfl rfl (tyX5_ok 0 (by decide)) rfl rfl (Nat.le_of_ble_eq_true rfl) dX5_init_12 ?_
  refine n_aload (i := 0) dX5_init_15 rfl ?_
  refine n_new (ci := 0) (fs := zd0) hG cl_5_7 is_0 iz_0 inX0z tyX0 tyX0_ok rfl zdf0 (Nat.le_of_ble_eq_true rfl) (Nat.le_of_ble_eq_true rfl) (Nat.le_of_ble_eq_true rfl) dX5_init_16 ?_
  refine n_dup dX5_init_19 ?_
  refine n_callN (b := 8) hG (k_X0_8 hG) YiX0 ⟨rfl, rfl⟩ (fun _ h => h.1.2.2.2.1) (Nat.le_of_ble_eq_true rfl) (Nat.le_of_ble_eq_true rfl) rfl rfl ⟨Nat.le_of_ble_eq_true rfl, Nat.le_of_ble_eq_true rfl⟩ (Nat.le_of_ble_eq_true rfl) (Nat.le_of_ble_eq_true rfl) (Nat.le_of_ble_eq_true rfl) dX5_init_20 ?_
  refine n_putF (th := 0) (ci := 5) rfl hG (Nat.le_of_ble_eq_true rfl) (Nat.le_of_ble_eq_true rfl) (Nat.le_of_ble_eq_true rfl) rfl inX5z tyX5 tyX5_ok nmX5 rfl (k := 1) (by decide) pf_5_16 rfl rfl (tyX5_ok 1 (by decide)) rfl rfl (Nat.le_of_ble_eq_true rfl) dX5_init_23 ?_
  refine n_aload (i := 0) dX5_init_26 rfl ?_
  refine n_new (ci := 4) (fs := zd4) hG cl_5_19 is_4 iz_4 inX4z tyX4 tyX4_ok rfl zdf4 (Nat.le_of_ble_eq_true rfl) (Nat.le_of_ble_eq_true rfl) (Nat.le_of_ble_eq_true rfl) dX5_init_27 ?_
  refine n_dup dX5_init_30 ?_
  refine n_callN (b := 15) hG (k_X4_15 hG) YiX4 ⟨rfl, rfl⟩ (fun _ h => h.1.2.2.2.2.1) (Nat.le_of_ble_eq_true rfl) (Nat.le_of_ble_eq_true rfl) rfl rfl ⟨Nat.le_of_ble_eq_true rfl, Nat.le_of_ble_eq_true rfl⟩ (Nat.le_of_ble_eq_true rfl) (Nat.le_of_ble_eq_true rfl) (Nat.le_of_ble_eq_true rfl) dX5_init_31 ?_
  refine n_putF (th := 0) (ci := 5) rfl hG (Nat.le_of_ble_eq_true rfl) (Nat.le_of_ble_eq_true rfl) (Nat.le_of_ble_eq_true rfl) rfl inX5z tyX5 tyX5_ok nmX5 rfl (k := 2) (by decide) pf_5_22 rfl rfl (tyX5_ok 2 (by decide)) rfl rfl (Nat.le_of_ble_eq_true rfl) dX5_init_34 ?_
  refine n_aload (i := 0) dX5_init_37 rfl ?_
  refine n_iconst dX5_init_38 rfl ?_
  refine n_newq (t := 3) (n := 2) hG cl_5_26 (fun _ h => h.2.1) rfl (by decide) (by decide) (by decide) (Nat.le_of_ble_eq_true rfl) (Nat.le_of_ble_eq_true rfl) (Nat.le_of_ble_eq_true rfl) dX5_init_39 ?_
  refine n_dup dX5_init_42 ?_
  refine n_iconst dX5_init_43 rfl ?_
  refine n_new (ci := 1) (fs := zd1) hG cl_5_26 is_1 iz_1 inX1z tyX1 tyX1_ok rfl zdf1 (Nat.le_of_ble_eq_true rfl) (Nat.le_of_ble_eq_true rfl) (Nat.le_of_ble_eq_true rfl) dX5_init_44 ?_
  refine n_dup dX5_init_47 ?_
  refine n_callN (b := 20) hG (k_X1_20 hG) YiX1 ⟨rfl, rfl⟩ (fun _ h => h.1.2.2.2.2.2.1) (Nat.le_of_ble_eq_true rfl) (Nat.le_of_ble_eq_true rfl) rfl rfl ⟨Nat.le_of_ble_eq_true rfl, Nat.le_of_ble_eq_true rfl⟩ (Nat.le_of_ble_eq_true rfl) (Nat.le_of_ble_eq_true rfl) (Nat.le_of_ble_eq_true rfl) dX5_init_48 ?_
  refine n_astq (a := 19) (q := 20) (t := 3) (ci := 1) hG (Nat.le_of_ble_eq_true rfl) (Nat.le_of_ble_eq_true rfl) (Nat.le_of_ble_eq_true rfl) (Nat.le_of_ble_eq_true rfl) (Nat.le_of_ble_eq_true rfl) rfl rfl rfl rfl (by unfold vp_in; decide) dX5_init_51 ?_
  refine n_dup dX5_init_52 ?_
  refine n_iconst dX5_init_53 rfl ?_
  refine n_new (ci := 1) (fs := zd1) hG cl_5_26 is_1 iz_1 inX1z tyX1 tyX1_ok rfl zdf1 (Nat.le_of_ble_eq_true rfl) (Nat.le_of_ble_eq_true rfl) (Nat.le_of_ble_eq_true rfl) dX5_init_54 ?_
  refine n_dup dX5_init_57 ?_
  refine n_callN (b := 32) hG (k_X1_32 hG) YiX1 ⟨rfl, rfl⟩ (fun _ h => h.1.2.2.2.2.2.1) (Nat.le_of_ble_eq_true rfl) (Nat.le_of_ble_eq_true rfl) rfl rfl ⟨Nat.le_of_ble_eq_true rfl, Nat.le_of_ble_eq_true rfl⟩ (Nat.le_of_ble_eq_true rfl) (Nat.le_of_ble_eq_true rfl) (Nat.le_of_ble_eq_true rfl) dX5_init_58 ?_
  refine n_astq (a := 19) (q := 32) (t := 3) (ci := 1) hG (Nat.le_of_ble_eq_true rfl) (Nat.le_of_ble_eq_true rfl) (Nat.le_of_ble_eq_true rfl) (Nat.le_of_ble_eq_true rfl) (Nat.le_of_ble_eq_true rfl) rfl rfl rfl rfl (by unfold vp_in; decide) dX5_init_61 ?_
  refine n_putF (th := 0) (ci := 5) rfl hG (Nat.le_of_ble_eq_true rfl) (Nat.le_of_ble_eq_true rfl) (Nat.le_of_ble_eq_true rfl) rfl inX5z tyX5 tyX5_ok nmX5 rfl (k := 3) (by decide) pf_5_29 rfl rfl (tyX5_ok 3 (by decide)) rfl rfl (Nat.le_of_ble_eq_true rfl) dX5_init_62 ?_
  refine n_aload (i := 0) dX5_init_65 rfl ?_
  refine n_iconst dX5_init_66 rfl ?_
  refine n_newq (t := 4) (n := 4) hG cl_5_33 (fun _ h => h.2.2) rfl (by decide) (by decide) (by decide) (Nat.le_of_ble_eq_true rfl) (Nat.le_of_ble_eq_true rfl) (Nat.le_of_ble_eq_true rfl) dX5_init_67 ?_
  refine n_dup dX5_init_70 ?_
  refine n_iconst dX5_init_71 rfl ?_
  refine n_new (ci := 3) (fs := zd3) hG cl_5_33 is_3 iz_3 inX3z tyX3 tyX3_ok rfl zdf3 (Nat.le_of_ble_eq_true rfl) (Nat.le_of_ble_eq_true rfl) (Nat.le_of_ble_eq_true rfl) dX5_init_72 ?_
  refine n_dup dX5_init_75 ?_
  refine n_callN (b := 45) hG (k_X3_45 hG) YiX3 ⟨rfl, rfl⟩ (fun _ h => h.1.2.2.2.2.2.2.1) (Nat.le_of_ble_eq_true rfl) (Nat.le_of_ble_eq_true rfl) rfl rfl ⟨Nat.le_of_ble_eq_true rfl, Nat.le_of_ble_eq_true rfl⟩ (Nat.le_of_ble_eq_true rfl) (Nat.le_of_ble_eq_true rfl) (Nat.le_of_ble_eq_true rfl) dX5_init_76 ?_
  refine n_astq (a := 44) (q := 45) (t := 4) (ci := 3) hG (Nat.le_of_ble_eq_true rfl) (Nat.le_of_ble_eq_true rfl) (Nat.le_of_ble_eq_true rfl) (Nat.le_of_ble_eq_true rfl) (Nat.le_of_ble_eq_true rfl) rfl rfl rfl rfl (by unfold vp_in; decide) dX5_init_79 ?_
  refine n_dup dX5_init_80 ?_
  refine n_iconst dX5_init_81 rfl ?_
  refine n_new (ci := 3) (fs := zd3) hG cl_5_33 is_3 iz_3 inX3z tyX3 tyX3_ok rfl zdf3 (Nat.le_of_ble_eq_true rfl) (Nat.le_of_ble_eq_true rfl) (Nat.le_of_ble_eq_true rfl) dX5_init_82 ?_
  refine n_dup dX5_init_85 ?_
  refine n_callN (b := 47) hG (k_X3_47 hG) YiX3 ⟨rfl, rfl⟩ (fun _ h => h.1.2.2.2.2.2.2.1) (Nat.le_of_ble_eq_true rfl) (Nat.le_of_ble_eq_true rfl) rfl rfl ⟨Nat.le_of_ble_eq_true rfl, Nat.le_of_ble_eq_true rfl⟩ (Nat.le_of_ble_eq_true rfl) (Nat.le_of_ble_eq_true rfl) (Nat.le_of_ble_eq_true rfl) dX5_init_86 ?_
  refine n_astq (a := 44) (q := 47) (t := 4) (ci := 3) hG (Nat.le_of_ble_eq_true rfl) (Nat.le_of_ble_eq_true rfl) (Nat.le_of_ble_eq_true rfl) (Nat.le_of_ble_eq_true rfl) (Nat.le_of_ble_eq_true rfl) rfl rfl rfl rfl (by unfold vp_in; decide) dX5_init_89 ?_
  refine n_dup dX5_init_90 ?_
  refine n_iconst dX5_init_91 rfl ?_
  refine n_new (ci := 3) (fs := zd3) hG cl_5_33 is_3 iz_3 inX3z tyX3 tyX3_ok rfl zdf3 (Nat.le_of_ble_eq_true rfl) (Nat.le_of_ble_eq_true rfl) (Nat.le_of_ble_eq_true rfl) dX5_init_92 ?_
  refine n_dup dX5_init_95 ?_
  refine n_callN (b := 49) hG (k_X3_49 hG) YiX3 ⟨rfl, rfl⟩ (fun _ h => h.1.2.2.2.2.2.2.1) (Nat.le_of_ble_eq_true rfl) (Nat.le_of_ble_eq_true rfl) rfl rfl ⟨Nat.le_of_ble_eq_true rfl, Nat.le_of_ble_eq_true rfl⟩ (Nat.le_of_ble_eq_true rfl) (Nat.le_of_ble_eq_true rfl) (Nat.le_of_ble_eq_true rfl) dX5_init_96 ?_
  refine n_astq (a := 44) (q := 49) (t := 4) (ci := 3) hG (Nat.le_of_ble_eq_true rfl) (Nat.le_of_ble_eq_true rfl) (Nat.le_of_ble_eq_true rfl) (Nat.le_of_ble_eq_true rfl) (Nat.le_of_ble_eq_true rfl) rfl rfl rfl rfl (by unfold vp_in; decide) dX5_init_99 ?_
  refine n_dup dX5_init_100 ?_
  refine n_iconst dX5_init_101 rfl ?_
  refine n_new (ci := 3) (fs := zd3) hG cl_5_33 is_3 iz_3 inX3z tyX3 tyX3_ok rfl zdf3 (Nat.le_of_ble_eq_true rfl) (Nat.le_of_ble_eq_true rfl) (Nat.le_of_ble_eq_true rfl) dX5_init_102 ?_
  refine n_dup dX5_init_105 ?_
  refine n_callN (b := 51) hG (k_X3_51 hG) YiX3 ⟨rfl, rfl⟩ (fun _ h => h.1.2.2.2.2.2.2.1) (Nat.le_of_ble_eq_true rfl) (Nat.le_of_ble_eq_true rfl) rfl rfl ⟨Nat.le_of_ble_eq_true rfl, Nat.le_of_ble_eq_true rfl⟩ (Nat.le_of_ble_eq_true rfl) (Nat.le_of_ble_eq_true rfl) (Nat.le_of_ble_eq_true rfl) dX5_init_106 ?_
  refine n_astq (a := 44) (q := 51) (t := 4) (ci := 3) hG (Nat.le_of_ble_eq_true rfl) (Nat.le_of_ble_eq_true rfl) (Nat.le_of_ble_eq_true rfl) (Nat.le_of_ble_eq_true rfl) (Nat.le_of_ble_eq_true rfl) rfl rfl rfl rfl (by unfold vp_in; decide) dX5_init_109 ?_
  refine n_putF (th := 0) (ci := 5) rfl hG (Nat.le_of_ble_eq_true rfl) (Nat.le_of_ble_eq_true rfl) (Nat.le_of_ble_eq_true rfl) rfl inX5z tyX5 tyX5_ok nmX5 rfl (k := 4) (by decide) pf_5_36 rfl rfl (tyX5_ok 4 (by decide)) rfl rfl (Nat.le_of_ble_eq_true rfl) dX5_init_110 ?_
  refine n_aload (i := 0) dX5_init_113 rfl ?_
  refine n_new (ci := 2) (fs := zd2) hG cl_5_40 is_2 iz_2 inX2z tyX2 tyX2_ok rfl zdf2 (Nat.le_of_ble_eq_true rfl) (Nat.le_of_ble_eq_true rfl) (Nat.le_of_ble_eq_true rfl) dX5_init_114 ?_
  refine n_dup dX5_init_117 ?_
  refine n_callN (b := 53) hG (k_X2_53 hG) YiX2 ⟨rfl, rfl⟩ (fun _ h => h.1.2.2.2.2.2.2.2) (Nat.le_of_ble_eq_true rfl) (Nat.le_of_ble_eq_true rfl) rfl rfl ⟨Nat.le_of_ble_eq_true rfl, Nat.le_of_ble_eq_true rfl⟩ (Nat.le_of_ble_eq_true rfl) (Nat.le_of_ble_eq_true rfl) (Nat.le_of_ble_eq_true rfl) dX5_init_118 ?_
  refine n_putF (th := 0) (ci := 5) rfl hG (Nat.le_of_ble_eq_true rfl) (Nat.le_of_ble_eq_true rfl) (Nat.le_of_ble_eq_true rfl) rfl inX5z tyX5 tyX5_ok nmX5 rfl (k := 5) (by decide) pf_5_43 rfl rfl (tyX5_ok 5 (by decide)) rfl rfl (Nat.le_of_ble_eq_true rfl) dX5_init_121 ?_
  refine n_aload (i := 0) dX5_init_124 rfl ?_
  refine n_sipush dX5_init_125 rfl ?_
  refine n_newa (t := 0) (n := 420) (ty := .int) hG ac_int rfl rfl (fun _ _ h => h) rfl (by decide) (by decide) (by decide) (Nat.le_of_ble_eq_true rfl) (Nat.le_of_ble_eq_true rfl) (Nat.le_of_ble_eq_true rfl) dX5_init_128 ?_
  refine n_putF (th := 0) (ci := 5) rfl hG (Nat.le_of_ble_eq_true rfl) (Nat.le_of_ble_eq_true rfl) (Nat.le_of_ble_eq_true rfl) rfl inX5z tyX5 tyX5_ok nmX5 rfl (k := 6) (by decide) pf_5_47 rfl rfl (tyX5_ok 6 (by decide)) rfl rfl (Nat.le_of_ble_eq_true rfl) dX5_init_130 ?_
  refine n_aload (i := 0) dX5_init_133 rfl ?_
  refine n_bipush dX5_init_134 rfl ?_
  refine n_newa (t := 0) (n := 40) (ty := .int) hG ac_int rfl rfl (fun _ _ h => h) rfl (by decide) (by decide) (by decide) (Nat.le_of_ble_eq_true rfl) (Nat.le_of_ble_eq_true rfl) (Nat.le_of_ble_eq_true rfl) dX5_init_136 ?_
  refine n_putF (th := 0) (ci := 5) rfl hG (Nat.le_of_ble_eq_true rfl) (Nat.le_of_ble_eq_true rfl) (Nat.le_of_ble_eq_true rfl) rfl inX5z tyX5 tyX5_ok nmX5 rfl (k := 7) (by decide) pf_5_51 rfl rfl (tyX5_ok 7 (by decide)) rfl rfl (Nat.le_of_ble_eq_true rfl) dX5_init_138 ?_
  refine n_aload (i := 0) dX5_init_141 rfl ?_
  refine n_iconst dX5_init_142 rfl ?_
  refine n_put (th := 0) (ci := 5) hG (Nat.le_of_ble_eq_true rfl) (Nat.le_of_ble_eq_true rfl) (Nat.le_of_ble_eq_true rfl) rfl inX5z tyX5 tyX5_ok nmX5 rfl (k := 8) (by decide) pf_5_54 rfl (tyX5_ok 8 (by decide)) rfl rfl (Nat.le_of_ble_eq_true rfl) dX5_init_143 ?_
  refine n_ret (n := 65) dX5_init_146 rfl ?_ (Nat.le_of_ble_eq_true rfl) (Nat.le_of_ble_eq_true rfl)
  intro o h1 h2 H h
  rcases (show o = 0 ∨ o = 1 ∨ o = 2 ∨ o = 3 ∨ o = 4 ∨ o = 5 ∨ o = 6 ∨ o = 7 ∨ o = 8 ∨ o = 9 ∨ o = 10 ∨ o = 11 ∨ o = 12 ∨ o = 13 ∨ o = 14 ∨ o = 15 ∨ o = 16 ∨ o = 17 ∨ o = 18 ∨ o = 19 ∨ o = 20 ∨ o = 21 ∨ o = 22 ∨ o = 23 ∨ o = 24 ∨ o = 25 ∨ o = 26 ∨ o = 27 ∨ o = 28 ∨ o = 29 ∨ o = 30 ∨ o = 31 ∨ o = 32 ∨ o = 33 ∨ o = 34 ∨ o = 35 ∨ o = 36 ∨ o = 37 ∨ o = 38 ∨ o = 39 ∨ o = 40 ∨ o = 41 ∨ o = 42 ∨ o = 43 ∨ o = 44 ∨ o = 45 ∨ o = 46 ∨ o = 47 ∨ o = 48 ∨ o = 49 ∨ o = 50 ∨ o = 51 ∨ o = 52 ∨ o = 53 ∨ o = 54 ∨ o = 55 ∨ o = 56 ∨ o = 57 ∨ o = 58 ∨ o = 59 ∨ o = 60 ∨ o = 61 ∨ o = 62 ∨ o = 63 ∨ o = 64 by omega) with rfl | rfl | rfl | rfl | rfl | rfl | rfl | rfl | rfl | rfl | rfl | rfl | rfl | rfl | rfl | rfl | rfl | rfl | rfl | rfl | rfl | rfl | rfl | rfl | rfl | rfl | rfl | rfl | rfl | rfl | rfl | rfl | rfl | rfl | rfl | rfl | rfl | rfl | rfl | rfl | rfl | rfl | rfl | rfl | rfl | rfl | rfl | rfl | rfl | rfl | rfl | rfl | rfl | rfl | rfl | rfl | rfl | rfl | rfl | rfl | rfl | rfl | rfl | rfl | rfl
  · exact h
  · exact h
  · exact h
  · exact h
  · exact h
  · exact h
  · exact h
  · exact h
  · exact h
  · exact h
  · exact h
  · exact h
  · exact h
  · exact h
  · exact h
  · exact h
  · exact h
  · exact h
  · exact h
  · exact va_at_q (n := 2) (fun j hj => by rcases (show j = 0 ∨ j = 1 by omega) with rfl | rfl <;> rfl) h
  · exact h
  · exact h
  · exact h
  · exact h
  · exact h
  · exact h
  · exact h
  · exact h
  · exact h
  · exact h
  · exact h
  · exact h
  · exact h
  · exact h
  · exact h
  · exact h
  · exact h
  · exact h
  · exact h
  · exact h
  · exact h
  · exact h
  · exact h
  · exact h
  · exact va_at_q (n := 4) (fun j hj => by rcases (show j = 0 ∨ j = 1 ∨ j = 2 ∨ j = 3 by omega) with rfl | rfl | rfl | rfl <;> rfl) h
  · exact h
  · exact h
  · exact h
  · exact h
  · exact h
  · exact h
  · exact h
  · exact h
  · exact h
  · exact h
  · exact h
  · exact h
  · exact h
  · exact h
  · exact h
  · exact h
  · exact h
  · exact h
  · exact h
  · exact h
end
