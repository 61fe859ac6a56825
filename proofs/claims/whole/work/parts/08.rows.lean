theorem zL : Cond.initialized RL ∈ ga_T := ga_in (List.mem_of_getElem? (i := 74) (by decide +kernel)) rfl
theorem zX10 : Cond.initialized RX10 ∈ ga_T := ga_in (List.mem_of_getElem? (i := 75) (by decide +kernel)) rfl
theorem zX9 : Cond.initialized RX9 ∈ ga_T := ga_in (List.mem_of_getElem? (i := 76) (by decide +kernel)) rfl
theorem zX5 : Cond.initialized RX5 ∈ ga_T := ga_in (List.mem_of_getElem? (i := 77) (by decide +kernel)) rfl
theorem zX2 : Cond.initialized RX2 ∈ ga_T := ga_in (List.mem_of_getElem? (i := 78) (by decide +kernel)) rfl
theorem zX3 : Cond.initialized RX3 ∈ ga_T := ga_in (List.mem_of_getElem? (i := 79) (by decide +kernel)) rfl
theorem zX4 : Cond.initialized RX4 ∈ ga_T := ga_in (List.mem_of_getElem? (i := 80) (by decide +kernel)) rfl
theorem zJ0 : Cond.initialized RJ0 ∈ ga_T := ga_in (List.mem_of_getElem? (i := 81) (by decide +kernel)) rfl
theorem zJ1 : Cond.initialized RJ1 ∈ ga_T := ga_in (List.mem_of_getElem? (i := 82) (by decide +kernel)) rfl
theorem zJ3 : Cond.initialized RJ3 ∈ ga_T := ga_in (List.mem_of_getElem? (i := 83) (by decide +kernel)) rfl
theorem zJ2 : Cond.initialized RJ2 ∈ ga_T := ga_in (List.mem_of_getElem? (i := 84) (by decide +kernel)) rfl
theorem zX6 : Cond.initialized RX6 ∈ ga_T := ga_in (List.mem_of_getElem? (i := 85) (by decide +kernel)) rfl
theorem zX1 : Cond.initialized RX1 ∈ ga_T := ga_in (List.mem_of_getElem? (i := 86) (by decide +kernel)) rfl
theorem zX8 : Cond.initialized RX8 ∈ ga_T := ga_in (List.mem_of_getElem? (i := 87) (by decide +kernel)) rfl
theorem zX7 : Cond.initialized RX7 ∈ ga_T := ga_in (List.mem_of_getElem? (i := 88) (by decide +kernel)) rfl
theorem zX11 : Cond.initialized RX11 ∈ ga_T := ga_in (List.mem_of_getElem? (i := 89) (by decide +kernel)) rfl
theorem zX0 : Cond.initialized RX0 ∈ ga_T := ga_in (List.mem_of_getElem? (i := 90) (by decide +kernel)) rfl
theorem zJ9 : Cond.initialized RJ9 ∈ ga_T := ga_in (List.mem_of_getElem? (i := 91) (by decide +kernel)) rfl
theorem lL_7 : Cond.classLink RL 7 RX10 ∈ ga_T := ga_in (List.mem_of_getElem? (i := 92) (by decide +kernel)) rfl
theorem qX10 : Cond.instantiable RX10 9 ∈ ga_T := ga_in (List.mem_of_getElem? (i := 93) (by decide +kernel)) rfl
theorem mL_9 : Cond.methodLink RL 9 yX10_init ∈ ga_T := ga_in (List.mem_of_getElem? (i := 94) (by decide +kernel)) rfl
theorem yX10_init_ok : ga_Yi yX10_init cX10_init 1 0 := ⟨⟨ga_in (List.mem_of_getElem? (i := 75) (by decide +kernel)) rfl, ga_in (List.mem_of_getElem? (i := 96) (by decide +kernel)) rfl, by decide +kernel, by decide⟩, rfl, ga_in (List.mem_of_getElem? (i := 95) (by decide +kernel)) rfl⟩
theorem mX10_1 : Cond.methodLink RX10 1 Lib.objectInit ∈ ga_T := ga_in (List.mem_of_getElem? (i := 97) (by decide +kernel)) rfl
theorem ob_c : Cond.code Lib.objectInit ⟨#[0xb1]⟩ 1 none ∈ ga_T := ga_in (List.mem_of_getElem? (i := 99) (by decide +kernel)) rfl
theorem ob_i : Cond.instanceMethod Lib.objectInit ∈ ga_T := ga_in (List.mem_of_getElem? (i := 98) (by decide +kernel)) rfl
theorem lX10_7 : Cond.classLink RX10 7 RX9 ∈ ga_T := ga_in (List.mem_of_getElem? (i := 100) (by decide +kernel)) rfl
theorem qX9 : Cond.instantiable RX9 2 ∈ ga_T := ga_in (List.mem_of_getElem? (i := 101) (by decide +kernel)) rfl
theorem nX10_9 : (RX10, 9, yX9_init, "ThreeDays") ∈ ga_nest := by decide +kernel
theorem yX9_init_ok : ga_Yi yX9_init cX9_init 1 0 := ⟨⟨ga_in (List.mem_of_getElem? (i := 76) (by decide +kernel)) rfl, ga_in (List.mem_of_getElem? (i := 104) (by decide +kernel)) rfl, by decide +kernel, by decide⟩, rfl, ga_in (List.mem_of_getElem? (i := 103) (by decide +kernel)) rfl⟩
theorem mX9_1 : Cond.methodLink RX9 1 Lib.objectInit ∈ ga_T := ga_in (List.mem_of_getElem? (i := 105) (by decide +kernel)) rfl
theorem fX9_9 : ga_F RX9 9 9 0 := ⟨_, rfl, by decide, ga_in (List.mem_of_getElem? (i := 106) (by decide +kernel)) rfl⟩
theorem pX9_9 : ga_FP RX9 9 9 0 (.array .int) true := ⟨_, rfl, by decide, ga_in (List.mem_of_getElem? (i := 106) (by decide +kernel)) rfl, rfl, by decide +kernel, fun h => by first | rfl | cases h⟩
theorem fX4_170 : ga_F RX4 170 9 0 := ⟨_, rfl, by decide, ga_in (List.mem_of_getElem? (i := 107) (by decide +kernel)) rfl⟩
theorem fX9_13 : ga_F RX9 13 9 1 := ⟨_, rfl, by decide, ga_in (List.mem_of_getElem? (i := 108) (by decide +kernel)) rfl⟩
theorem pX9_13 : ga_FP RX9 13 9 1 .int false := ⟨_, rfl, by decide, ga_in (List.mem_of_getElem? (i := 108) (by decide +kernel)) rfl, rfl, by decide +kernel, fun h => by first | rfl | cases h⟩
theorem fX10_77 : ga_F RX10 77 9 1 := ⟨_, rfl, by decide, ga_in (List.mem_of_getElem? (i := 109) (by decide +kernel)) rfl⟩
theorem pX10_77 : ga_FP RX10 77 9 1 .int false := ⟨_, rfl, by decide, ga_in (List.mem_of_getElem? (i := 109) (by decide +kernel)) rfl, rfl, by decide +kernel, fun h => by first | rfl | cases h⟩
theorem fX4_124 : ga_F RX4 124 9 1 := ⟨_, rfl, by decide, ga_in (List.mem_of_getElem? (i := 110) (by decide +kernel)) rfl⟩
theorem pX4_124 : ga_FP RX4 124 9 1 .int false := ⟨_, rfl, by decide, ga_in (List.mem_of_getElem? (i := 110) (by decide +kernel)) rfl, rfl, by decide +kernel, fun h => by first | rfl | cases h⟩
theorem ar_int : Cond.arrayClass .int ∈ ga_T := ga_in (List.mem_of_getElem? (i := 116) (by decide +kernel)) rfl
theorem lX10_16 : Cond.classLink RX10 16 RX5 ∈ ga_T := ga_in (List.mem_of_getElem? (i := 117) (by decide +kernel)) rfl
theorem qX5 : Cond.instantiable RX5 3 ∈ ga_T := ga_in (List.mem_of_getElem? (i := 118) (by decide +kernel)) rfl
theorem nX10_18 : (RX10, 18, yX5_init, "ThreeDays") ∈ ga_nest := by decide +kernel
theorem yX5_init_ok : ga_Yi yX5_init cX5_init 1 0 := ⟨⟨ga_in (List.mem_of_getElem? (i := 77) (by decide +kernel)) rfl, ga_in (List.mem_of_getElem? (i := 121) (by decide +kernel)) rfl, by decide +kernel, by decide⟩, rfl, ga_in (List.mem_of_getElem? (i := 120) (by decide +kernel)) rfl⟩
theorem mX5_3 : Cond.methodLink RX5 3 Lib.objectInit ∈ ga_T := ga_in (List.mem_of_getElem? (i := 122) (by decide +kernel)) rfl
theorem fX5_11 : ga_F RX5 11 5 0 := ⟨_, rfl, by decide, ga_in (List.mem_of_getElem? (i := 123) (by decide +kernel)) rfl⟩
theorem pX5_11 : ga_FP RX5 11 5 0 (.array .int) true := ⟨_, rfl, by decide, ga_in (List.mem_of_getElem? (i := 123) (by decide +kernel)) rfl, rfl, by decide +kernel, fun h => by first | rfl | cases h⟩
theorem fX5_15 : ga_F RX5 15 5 1 := ⟨_, rfl, by decide, ga_in (List.mem_of_getElem? (i := 124) (by decide +kernel)) rfl⟩
theorem pX5_15 : ga_FP RX5 15 5 1 (.array .int) true := ⟨_, rfl, by decide, ga_in (List.mem_of_getElem? (i := 124) (by decide +kernel)) rfl, rfl, by decide +kernel, fun h => by first | rfl | cases h⟩
theorem fX5_18 : ga_F RX5 18 5 2 := ⟨_, rfl, by decide, ga_in (List.mem_of_getElem? (i := 125) (by decide +kernel)) rfl⟩
theorem pX5_18 : ga_FP RX5 18 5 2 .int false := ⟨_, rfl, by decide, ga_in (List.mem_of_getElem? (i := 125) (by decide +kernel)) rfl, rfl, by decide +kernel, fun h => by first | rfl | cases h⟩
theorem fX1_51 : ga_F RX1 51 5 2 := ⟨_, rfl, by decide, ga_in (List.mem_of_getElem? (i := 126) (by decide +kernel)) rfl⟩
theorem pX1_51 : ga_FP RX1 51 5 2 .int false := ⟨_, rfl, by decide, ga_in (List.mem_of_getElem? (i := 126) (by decide +kernel)) rfl, rfl, by decide +kernel, fun h => by first | rfl | cases h⟩
theorem fX10_195 : ga_F RX10 195 5 2 := ⟨_, rfl, by decide, ga_in (List.mem_of_getElem? (i := 127) (by decide +kernel)) rfl⟩
theorem pX10_195 : ga_FP RX10 195 5 2 .int false := ⟨_, rfl, by decide, ga_in (List.mem_of_getElem? (i := 127) (by decide +kernel)) rfl, rfl, by decide +kernel, fun h => by first | rfl | cases h⟩
theorem lX10_23 : Cond.classLink RX10 23 RX2 ∈ ga_T := ga_in (List.mem_of_getElem? (i := 135) (by decide +kernel)) rfl
theorem qX2 : Cond.instantiable RX2 7 ∈ ga_T := ga_in (List.mem_of_getElem? (i := 136) (by decide +kernel)) rfl
theorem nX10_25 : (RX10, 25, yX2_init, "ThreeDays") ∈ ga_nest := by decide +kernel
theorem yX2_init_ok : ga_Yi yX2_init cX2_init 1 0 := ⟨⟨ga_in (List.mem_of_getElem? (i := 78) (by decide +kernel)) rfl, ga_in (List.mem_of_getElem? (i := 139) (by decide +kernel)) rfl, by decide +kernel, by decide⟩, rfl, ga_in (List.mem_of_getElem? (i := 138) (by decide +kernel)) rfl⟩
theorem mX2_3 : Cond.methodLink RX2 3 Lib.objectInit ∈ ga_T := ga_in (List.mem_of_getElem? (i := 140) (by decide +kernel)) rfl
theorem fX2_11 : ga_F RX2 11 2 0 := ⟨_, rfl, by decide, ga_in (List.mem_of_getElem? (i := 141) (by decide +kernel)) rfl⟩
theorem pX2_11 : ga_FP RX2 11 2 0 (.array .int) true := ⟨_, rfl, by decide, ga_in (List.mem_of_getElem? (i := 141) (by decide +kernel)) rfl, rfl, by decide +kernel, fun h => by first | rfl | cases h⟩
theorem fX2_15 : ga_F RX2 15 2 1 := ⟨_, rfl, by decide, ga_in (List.mem_of_getElem? (i := 142) (by decide +kernel)) rfl⟩
theorem pX2_15 : ga_FP RX2 15 2 1 (.array .int) true := ⟨_, rfl, by decide, ga_in (List.mem_of_getElem? (i := 142) (by decide +kernel)) rfl, rfl, by decide +kernel, fun h => by first | rfl | cases h⟩
theorem fX2_29 : ga_F RX2 29 2 2 := ⟨_, rfl, by decide, ga_in (List.mem_of_getElem? (i := 143) (by decide +kernel)) rfl⟩
theorem pX2_29 : ga_FP RX2 29 2 2 .int false := ⟨_, rfl, by decide, ga_in (List.mem_of_getElem? (i := 143) (by decide +kernel)) rfl, rfl, by decide +kernel, fun h => by first | rfl | cases h⟩
theorem fX2_35 : ga_F RX2 35 2 3 := ⟨_, rfl, by decide, ga_in (List.mem_of_getElem? (i := 144) (by decide +kernel)) rfl⟩
theorem pX2_35 : ga_FP RX2 35 2 3 .int false := ⟨_, rfl, by decide, ga_in (List.mem_of_getElem? (i := 144) (by decide +kernel)) rfl, rfl, by decide +kernel, fun h => by first | rfl | cases h⟩
theorem fX2_18 : ga_F RX2 18 2 4 := ⟨_, rfl, by decide, ga_in (List.mem_of_getElem? (i := 145) (by decide +kernel)) rfl⟩
theorem pX2_18 : ga_FP RX2 18 2 4 .int false := ⟨_, rfl, by decide, ga_in (List.mem_of_getElem? (i := 145) (by decide +kernel)) rfl, rfl, by decide +kernel, fun h => by first | rfl | cases h⟩
theorem fX2_22 : ga_F RX2 22 2 5 := ⟨_, rfl, by decide, ga_in (List.mem_of_getElem? (i := 146) (by decide +kernel)) rfl⟩
theorem pX2_22 : ga_FP RX2 22 2 5 .int false := ⟨_, rfl, by decide, ga_in (List.mem_of_getElem? (i := 146) (by decide +kernel)) rfl, rfl, by decide +kernel, fun h => by first | rfl | cases h⟩
theorem fX8_58 : ga_F RX8 58 2 5 := ⟨_, rfl, by decide, ga_in (List.mem_of_getElem? (i := 147) (by decide +kernel)) rfl⟩
theorem pX8_58 : ga_FP RX8 58 2 5 .int false := ⟨_, rfl, by decide, ga_in (List.mem_of_getElem? (i := 147) (by decide +kernel)) rfl, rfl, by decide +kernel, fun h => by first | rfl | cases h⟩
theorem fX10_198 : ga_F RX10 198 2 5 := ⟨_, rfl, by decide, ga_in (List.mem_of_getElem? (i := 148) (by decide +kernel)) rfl⟩
theorem pX10_198 : ga_FP RX10 198 2 5 .int false := ⟨_, rfl, by decide, ga_in (List.mem_of_getElem? (i := 148) (by decide +kernel)) rfl, rfl, by decide +kernel, fun h => by first | rfl | cases h⟩
theorem fX2_38 : ga_F RX2 38 2 6 := ⟨_, rfl, by decide, ga_in (List.mem_of_getElem? (i := 149) (by decide +kernel)) rfl⟩
theorem pX2_38 : ga_FP RX2 38 2 6 .int false := ⟨_, rfl, by decide, ga_in (List.mem_of_getElem? (i := 149) (by decide +kernel)) rfl, rfl, by decide +kernel, fun h => by first | rfl | cases h⟩
theorem fX8_113 : ga_F RX8 113 2 6 := ⟨_, rfl, by decide, ga_in (List.mem_of_getElem? (i := 150) (by decide +kernel)) rfl⟩
theorem pX8_113 : ga_FP RX8 113 2 6 .int false := ⟨_, rfl, by decide, ga_in (List.mem_of_getElem? (i := 150) (by decide +kernel)) rfl, rfl, by decide +kernel, fun h => by first | rfl | cases h⟩
theorem fX10_201 : ga_F RX10 201 2 6 := ⟨_, rfl, by decide, ga_in (List.mem_of_getElem? (i := 151) (by decide +kernel)) rfl⟩
theorem pX10_201 : ga_FP RX10 201 2 6 .int false := ⟨_, rfl, by decide, ga_in (List.mem_of_getElem? (i := 151) (by decide +kernel)) rfl, rfl, by decide +kernel, fun h => by first | rfl | cases h⟩
theorem lX10_30 : Cond.classLink RX10 30 RX3 ∈ ga_T := ga_in (List.mem_of_getElem? (i := 167) (by decide +kernel)) rfl
theorem qX3 : Cond.instantiable RX3 4 ∈ ga_T := ga_in (List.mem_of_getElem? (i := 168) (by decide +kernel)) rfl
theorem nX10_32 : (RX10, 32, yX3_init, "ThreeDays") ∈ ga_nest := by decide +kernel
theorem yX3_init_ok : ga_Yi yX3_init cX3_init 1 0 := ⟨⟨ga_in (List.mem_of_getElem? (i := 79) (by decide +kernel)) rfl, ga_in (List.mem_of_getElem? (i := 171) (by decide +kernel)) rfl, by decide +kernel, by decide⟩, rfl, ga_in (List.mem_of_getElem? (i := 170) (by decide +kernel)) rfl⟩
theorem mX3_3 : Cond.methodLink RX3 3 Lib.objectInit ∈ ga_T := ga_in (List.mem_of_getElem? (i := 172) (by decide +kernel)) rfl
theorem lX3_11 : Cond.classLink RX3 11 RX0 ∈ ga_T := ga_in (List.mem_of_getElem? (i := 173) (by decide +kernel)) rfl
theorem fX3_13 : ga_F RX3 13 3 0 := ⟨_, rfl, by decide, ga_in (List.mem_of_getElem? (i := 175) (by decide +kernel)) rfl⟩
theorem pX3_13 : ga_FP RX3 13 3 0 (.array (.object "ThreeDays$Act")) true := ⟨_, rfl, by decide, ga_in (List.mem_of_getElem? (i := 175) (by decide +kernel)) rfl, rfl, by decide +kernel, fun h => by first | rfl | cases h⟩
theorem fX3_19 : ga_F RX3 19 3 1 := ⟨_, rfl, by decide, ga_in (List.mem_of_getElem? (i := 176) (by decide +kernel)) rfl⟩
theorem pX3_19 : ga_FP RX3 19 3 1 (.array (.object "ThreeDays$Act")) true := ⟨_, rfl, by decide, ga_in (List.mem_of_getElem? (i := 176) (by decide +kernel)) rfl, rfl, by decide +kernel, fun h => by first | rfl | cases h⟩
theorem fX3_22 : ga_F RX3 22 3 2 := ⟨_, rfl, by decide, ga_in (List.mem_of_getElem? (i := 177) (by decide +kernel)) rfl⟩
theorem pX3_22 : ga_FP RX3 22 3 2 (.array (.object "ThreeDays$Act")) true := ⟨_, rfl, by decide, ga_in (List.mem_of_getElem? (i := 177) (by decide +kernel)) rfl, rfl, by decide +kernel, fun h => by first | rfl | cases h⟩
theorem fX3_25 : ga_F RX3 25 3 3 := ⟨_, rfl, by decide, ga_in (List.mem_of_getElem? (i := 178) (by decide +kernel)) rfl⟩
theorem pX3_25 : ga_FP RX3 25 3 3 .int false := ⟨_, rfl, by decide, ga_in (List.mem_of_getElem? (i := 178) (by decide +kernel)) rfl, rfl, by decide +kernel, fun h => by first | rfl | cases h⟩
theorem fX10_119 : ga_F RX10 119 3 3 := ⟨_, rfl, by decide, ga_in (List.mem_of_getElem? (i := 179) (by decide +kernel)) rfl⟩
theorem pX10_119 : ga_FP RX10 119 3 3 .int false := ⟨_, rfl, by decide, ga_in (List.mem_of_getElem? (i := 179) (by decide +kernel)) rfl, rfl, by decide +kernel, fun h => by first | rfl | cases h⟩
theorem lX10_37 : Cond.classLink RX10 37 RX4 ∈ ga_T := ga_in (List.mem_of_getElem? (i := 189) (by decide +kernel)) rfl
theorem qX4 : Cond.instantiable RX4 15 ∈ ga_T := ga_in (List.mem_of_getElem? (i := 190) (by decide +kernel)) rfl
theorem mX10_39 : Cond.methodLink RX10 39 yX4_init ∈ ga_T := ga_in (List.mem_of_getElem? (i := 191) (by decide +kernel)) rfl
theorem yX4_init_ok : ga_Yi yX4_init cX4_init 5 1 := ⟨⟨ga_in (List.mem_of_getElem? (i := 80) (by decide +kernel)) rfl, ga_in (List.mem_of_getElem? (i := 193) (by decide +kernel)) rfl, by decide +kernel, by decide⟩, rfl, ga_in (List.mem_of_getElem? (i := 192) (by decide +kernel)) rfl⟩
theorem mX4_3 : Cond.methodLink RX4 3 Lib.objectInit ∈ ga_T := ga_in (List.mem_of_getElem? (i := 194) (by decide +kernel)) rfl
theorem mX4_11 : Cond.methodLink RX4 11 yX4_packed ∈ ga_T := ga_in (List.mem_of_getElem? (i := 196) (by decide +kernel)) rfl
theorem yX4_packed_ok : ga_Ys yX4_packed cX4_packed 4 (some .long) 1 := ⟨⟨ga_in (List.mem_of_getElem? (i := 80) (by decide +kernel)) rfl, ga_in (List.mem_of_getElem? (i := 198) (by decide +kernel)) rfl, by decide +kernel, by decide⟩, ga_in (List.mem_of_getElem? (i := 197) (by decide +kernel)) rfl⟩
theorem mX4_62 : Cond.methodLink RX4 62 yJ0_length_8abf5 ∈ ga_T := ga_in (List.mem_of_getElem? (i := 199) (by decide +kernel)) rfl
theorem yJ0_length_8abf5_ok : ga_Yv yJ0_length_8abf5 cJ0_length_8abf5 1 (some .int) 0 := ⟨⟨ga_in (List.mem_of_getElem? (i := 81) (by decide +kernel)) rfl, ga_in (List.mem_of_getElem? (i := 202) (by decide +kernel)) rfl, by decide +kernel, by decide⟩, ga_in (List.mem_of_getElem? (i := 200) (by decide +kernel)) rfl, ga_in (List.mem_of_getElem? (i := 201) (by decide +kernel)) rfl⟩
theorem mJ0_335 : Cond.methodLink RJ0 335 yJ0_coder_7d493 ∈ ga_T := ga_in (List.mem_of_getElem? (i := 203) (by decide +kernel)) rfl
theorem yJ0_coder_7d493_ok : ga_Yv yJ0_coder_7d493 cJ0_coder_7d493 1 (some .byte) 0 := ⟨⟨ga_in (List.mem_of_getElem? (i := 81) (by decide +kernel)) rfl, ga_in (List.mem_of_getElem? (i := 206) (by decide +kernel)) rfl, by decide +kernel, by decide⟩, ga_in (List.mem_of_getElem? (i := 204) (by decide +kernel)) rfl, ga_in (List.mem_of_getElem? (i := 205) (by decide +kernel)) rfl⟩
theorem mX4_68 : Cond.methodLink RX4 68 yJ0_charAt_5068e ∈ ga_T := ga_in (List.mem_of_getElem? (i := 209) (by decide +kernel)) rfl
theorem yJ0_charAt_5068e_ok : ga_Yv yJ0_charAt_5068e cJ0_charAt_5068e 2 (some .char) 1 := ⟨⟨ga_in (List.mem_of_getElem? (i := 81) (by decide +kernel)) rfl, ga_in (List.mem_of_getElem? (i := 212) (by decide +kernel)) rfl, by decide +kernel, by decide⟩, ga_in (List.mem_of_getElem? (i := 210) (by decide +kernel)) rfl, ga_in (List.mem_of_getElem? (i := 211) (by decide +kernel)) rfl⟩
theorem mJ0_492 : Cond.methodLink RJ0 492 yJ0_isLatin1_aae02 ∈ ga_T := ga_in (List.mem_of_getElem? (i := 213) (by decide +kernel)) rfl
theorem yJ0_isLatin1_aae02_ok : ga_Yv yJ0_isLatin1_aae02 cJ0_isLatin1_aae02 1 (some .boolean) 0 := ⟨⟨ga_in (List.mem_of_getElem? (i := 81) (by decide +kernel)) rfl, ga_in (List.mem_of_getElem? (i := 216) (by decide +kernel)) rfl, by decide +kernel, by decide⟩, ga_in (List.mem_of_getElem? (i := 214) (by decide +kernel)) rfl, ga_in (List.mem_of_getElem? (i := 215) (by decide +kernel)) rfl⟩
theorem mJ0_495 : Cond.methodLink RJ0 495 yJ1_charAt_3b067 ∈ ga_T := ga_in (List.mem_of_getElem? (i := 217) (by decide +kernel)) rfl
theorem yJ1_charAt_3b067_ok : ga_Ys yJ1_charAt_3b067 cJ1_charAt_3b067 2 (some .char) 2 := ⟨⟨ga_in (List.mem_of_getElem? (i := 82) (by decide +kernel)) rfl, ga_in (List.mem_of_getElem? (i := 219) (by decide +kernel)) rfl, by decide +kernel, by decide⟩, ga_in (List.mem_of_getElem? (i := 218) (by decide +kernel)) rfl⟩
theorem mJ1_9 : Cond.methodLink RJ1 9 yJ0_checkIndex_df160 ∈ ga_T := ga_in (List.mem_of_getElem? (i := 220) (by decide +kernel)) rfl
theorem yJ0_checkIndex_df160_ok : ga_Ys yJ0_checkIndex_df160 cJ0_checkIndex_df160 2 none 2 := ⟨⟨ga_in (List.mem_of_getElem? (i := 81) (by decide +kernel)) rfl, ga_in (List.mem_of_getElem? (i := 222) (by decide +kernel)) rfl, by decide +kernel, by decide⟩, ga_in (List.mem_of_getElem? (i := 221) (by decide +kernel)) rfl⟩
theorem mJ0_1059 : Cond.methodLink RJ0 1059 yJ3_checkIndex_8e157 ∈ ga_T := ga_in (List.mem_of_getElem? (i := 225) (by decide +kernel)) rfl
theorem yJ3_checkIndex_8e157_ok : ga_Ys yJ3_checkIndex_8e157 cJ3_checkIndex_8e157 3 (some .int) 3 := ⟨⟨ga_in (List.mem_of_getElem? (i := 83) (by decide +kernel)) rfl, ga_in (List.mem_of_getElem? (i := 227) (by decide +kernel)) rfl, by decide +kernel, by decide⟩, ga_in (List.mem_of_getElem? (i := 226) (by decide +kernel)) rfl⟩
theorem mJ0_498 : Cond.methodLink RJ0 498 yJ2_charAt_3b067 ∈ ga_T := ga_in (List.mem_of_getElem? (i := 228) (by decide +kernel)) rfl
theorem yJ2_charAt_3b067_ok : ga_Ys yJ2_charAt_3b067 cJ2_charAt_3b067 2 (some .char) 2 := ⟨⟨ga_in (List.mem_of_getElem? (i := 84) (by decide +kernel)) rfl, ga_in (List.mem_of_getElem? (i := 230) (by decide +kernel)) rfl, by decide +kernel, by decide⟩, ga_in (List.mem_of_getElem? (i := 229) (by decide +kernel)) rfl⟩
theorem mJ2_67 : Cond.methodLink RJ2 67 yJ2_checkIndex_2214a ∈ ga_T := ga_in (List.mem_of_getElem? (i := 231) (by decide +kernel)) rfl
theorem yJ2_checkIndex_2214a_ok : ga_Ys yJ2_checkIndex_2214a cJ2_checkIndex_2214a 2 none 2 := ⟨⟨ga_in (List.mem_of_getElem? (i := 84) (by decide +kernel)) rfl, ga_in (List.mem_of_getElem? (i := 233) (by decide +kernel)) rfl, by decide +kernel, by decide⟩, ga_in (List.mem_of_getElem? (i := 232) (by decide +kernel)) rfl⟩
theorem mJ2_48 : Cond.methodLink RJ2 48 yJ2_length_9d52b ∈ ga_T := ga_in (List.mem_of_getElem? (i := 234) (by decide +kernel)) rfl
theorem yJ2_length_9d52b_ok : ga_Ys yJ2_length_9d52b cJ2_length_9d52b 1 (some .int) 1 := ⟨⟨ga_in (List.mem_of_getElem? (i := 84) (by decide +kernel)) rfl, ga_in (List.mem_of_getElem? (i := 236) (by decide +kernel)) rfl, by decide +kernel, by decide⟩, ga_in (List.mem_of_getElem? (i := 235) (by decide +kernel)) rfl⟩
theorem mJ2_414 : Cond.methodLink RJ2 414 yJ0_checkIndex_df160 ∈ ga_T := ga_in (List.mem_of_getElem? (i := 237) (by decide +kernel)) rfl
theorem mJ2_71 : Cond.methodLink RJ2 71 yJ2_getChar_3b067 ∈ ga_T := ga_in (List.mem_of_getElem? (i := 238) (by decide +kernel)) rfl
theorem yJ2_getChar_3b067_ok : ga_Ys yJ2_getChar_3b067 cJ2_getChar_3b067 2 (some .char) 2 := ⟨⟨ga_in (List.mem_of_getElem? (i := 84) (by decide +kernel)) rfl, ga_in (List.mem_of_getElem? (i := 240) (by decide +kernel)) rfl, by decide +kernel, by decide⟩, ga_in (List.mem_of_getElem? (i := 239) (by decide +kernel)) rfl⟩
theorem mX4_72 : Cond.methodLink RX4 72 yX4_withLetter ∈ ga_T := ga_in (List.mem_of_getElem? (i := 247) (by decide +kernel)) rfl
theorem yX4_withLetter_ok : ga_Ys yX4_withLetter cX4_withLetter 3 (some .long) 2 := ⟨⟨ga_in (List.mem_of_getElem? (i := 80) (by decide +kernel)) rfl, ga_in (List.mem_of_getElem? (i := 249) (by decide +kernel)) rfl, by decide +kernel, by decide⟩, ga_in (List.mem_of_getElem? (i := 248) (by decide +kernel)) rfl⟩
theorem fX4_17 : ga_F RX4 17 4 0 := ⟨_, rfl, by decide, ga_in (List.mem_of_getElem? (i := 256) (by decide +kernel)) rfl⟩
theorem pX4_17 : ga_FP RX4 17 4 0 .long true := ⟨_, rfl, by decide, ga_in (List.mem_of_getElem? (i := 256) (by decide +kernel)) rfl, rfl, by decide +kernel, fun h => by first | rfl | cases h⟩
theorem fX4_23 : ga_F RX4 23 4 1 := ⟨_, rfl, by decide, ga_in (List.mem_of_getElem? (i := 257) (by decide +kernel)) rfl⟩
theorem pX4_23 : ga_FP RX4 23 4 1 .long true := ⟨_, rfl, by decide, ga_in (List.mem_of_getElem? (i := 257) (by decide +kernel)) rfl, rfl, by decide +kernel, fun h => by first | rfl | cases h⟩
theorem fX4_28 : ga_F RX4 28 4 2 := ⟨_, rfl, by decide, ga_in (List.mem_of_getElem? (i := 258) (by decide +kernel)) rfl⟩
theorem pX4_28 : ga_FP RX4 28 4 2 .long true := ⟨_, rfl, by decide, ga_in (List.mem_of_getElem? (i := 258) (by decide +kernel)) rfl, rfl, by decide +kernel, fun h => by first | rfl | cases h⟩
theorem fX4_33 : ga_F RX4 33 4 3 := ⟨_, rfl, by decide, ga_in (List.mem_of_getElem? (i := 259) (by decide +kernel)) rfl⟩
theorem pX4_33 : ga_FP RX4 33 4 3 .long true := ⟨_, rfl, by decide, ga_in (List.mem_of_getElem? (i := 259) (by decide +kernel)) rfl, rfl, by decide +kernel, fun h => by first | rfl | cases h⟩
theorem fX4_38 : ga_F RX4 38 4 4 := ⟨_, rfl, by decide, ga_in (List.mem_of_getElem? (i := 260) (by decide +kernel)) rfl⟩
theorem pX4_38 : ga_FP RX4 38 4 4 .long true := ⟨_, rfl, by decide, ga_in (List.mem_of_getElem? (i := 260) (by decide +kernel)) rfl, rfl, by decide +kernel, fun h => by first | rfl | cases h⟩
theorem fX4_43 : ga_F RX4 43 4 5 := ⟨_, rfl, by decide, ga_in (List.mem_of_getElem? (i := 261) (by decide +kernel)) rfl⟩
theorem pX4_43 : ga_FP RX4 43 4 5 .long true := ⟨_, rfl, by decide, ga_in (List.mem_of_getElem? (i := 261) (by decide +kernel)) rfl, rfl, by decide +kernel, fun h => by first | rfl | cases h⟩
theorem fX4_48 : ga_F RX4 48 4 6 := ⟨_, rfl, by decide, ga_in (List.mem_of_getElem? (i := 262) (by decide +kernel)) rfl⟩
theorem pX4_48 : ga_FP RX4 48 4 6 (.array .long) true := ⟨_, rfl, by decide, ga_in (List.mem_of_getElem? (i := 262) (by decide +kernel)) rfl, rfl, by decide +kernel, fun h => by first | rfl | cases h⟩
theorem fX4_56 : ga_F RX4 56 4 7 := ⟨_, rfl, by decide, ga_in (List.mem_of_getElem? (i := 263) (by decide +kernel)) rfl⟩
theorem pX4_56 : ga_FP RX4 56 4 7 (.object "ThreeDays$Tape") true := ⟨_, rfl, by decide, ga_in (List.mem_of_getElem? (i := 263) (by decide +kernel)) rfl, rfl, by decide +kernel, fun h => by first | rfl | cases h⟩
theorem fX4_76 : ga_F RX4 76 4 8 := ⟨_, rfl, by decide, ga_in (List.mem_of_getElem? (i := 264) (by decide +kernel)) rfl⟩
theorem pX4_76 : ga_FP RX4 76 4 8 (.object "ThreeDays$Rules") false := ⟨_, rfl, by decide, ga_in (List.mem_of_getElem? (i := 264) (by decide +kernel)) rfl, rfl, by decide +kernel, fun h => by first | rfl | cases h⟩
theorem fX4_88 : ga_F RX4 88 4 9 := ⟨_, rfl, by decide, ga_in (List.mem_of_getElem? (i := 265) (by decide +kernel)) rfl⟩
theorem pX4_88 : ga_FP RX4 88 4 9 .int false := ⟨_, rfl, by decide, ga_in (List.mem_of_getElem? (i := 265) (by decide +kernel)) rfl, rfl, by decide +kernel, fun h => by first | rfl | cases h⟩
theorem fX4_94 : ga_F RX4 94 4 10 := ⟨_, rfl, by decide, ga_in (List.mem_of_getElem? (i := 266) (by decide +kernel)) rfl⟩
theorem pX4_94 : ga_FP RX4 94 4 10 .int false := ⟨_, rfl, by decide, ga_in (List.mem_of_getElem? (i := 266) (by decide +kernel)) rfl, rfl, by decide +kernel, fun h => by first | rfl | cases h⟩
theorem fX4_97 : ga_F RX4 97 4 11 := ⟨_, rfl, by decide, ga_in (List.mem_of_getElem? (i := 267) (by decide +kernel)) rfl⟩
theorem pX4_97 : ga_FP RX4 97 4 11 .int false := ⟨_, rfl, by decide, ga_in (List.mem_of_getElem? (i := 267) (by decide +kernel)) rfl, rfl, by decide +kernel, fun h => by first | rfl | cases h⟩
theorem fX4_104 : ga_F RX4 104 4 12 := ⟨_, rfl, by decide, ga_in (List.mem_of_getElem? (i := 268) (by decide +kernel)) rfl⟩
theorem pX4_104 : ga_FP RX4 104 4 12 .long false := ⟨_, rfl, by decide, ga_in (List.mem_of_getElem? (i := 268) (by decide +kernel)) rfl, rfl, by decide +kernel, fun h => by first | rfl | cases h⟩
theorem fX4_85 : ga_F RX4 85 4 13 := ⟨_, rfl, by decide, ga_in (List.mem_of_getElem? (i := 269) (by decide +kernel)) rfl⟩
theorem pX4_85 : ga_FP RX4 85 4 13 .int false := ⟨_, rfl, by decide, ga_in (List.mem_of_getElem? (i := 269) (by decide +kernel)) rfl, rfl, by decide +kernel, fun h => by first | rfl | cases h⟩
theorem fX10_137 : ga_F RX10 137 4 13 := ⟨_, rfl, by decide, ga_in (List.mem_of_getElem? (i := 270) (by decide +kernel)) rfl⟩
theorem pX10_137 : ga_FP RX10 137 4 13 .int false := ⟨_, rfl, by decide, ga_in (List.mem_of_getElem? (i := 270) (by decide +kernel)) rfl, rfl, by decide +kernel, fun h => by first | rfl | cases h⟩
theorem fX4_52 : ga_F RX4 52 4 14 := ⟨_, rfl, by decide, ga_in (List.mem_of_getElem? (i := 271) (by decide +kernel)) rfl⟩
theorem pX4_52 : ga_FP RX4 52 4 14 .int false := ⟨_, rfl, by decide, ga_in (List.mem_of_getElem? (i := 271) (by decide +kernel)) rfl, rfl, by decide +kernel, fun h => by first | rfl | cases h⟩
theorem fX10_140 : ga_F RX10 140 4 14 := ⟨_, rfl, by decide, ga_in (List.mem_of_getElem? (i := 272) (by decide +kernel)) rfl⟩
theorem pX10_140 : ga_FP RX10 140 4 14 .int false := ⟨_, rfl, by decide, ga_in (List.mem_of_getElem? (i := 272) (by decide +kernel)) rfl, rfl, by decide +kernel, fun h => by first | rfl | cases h⟩
theorem ar_byte : Cond.arrayClass .byte ∈ ga_T := ga_in (List.mem_of_getElem? (i := 304) (by decide +kernel)) rfl
theorem ar_long : Cond.arrayClass .long ∈ ga_T := ga_in (List.mem_of_getElem? (i := 305) (by decide +kernel)) rfl
theorem lX10_46 : Cond.classLink RX10 46 RX6 ∈ ga_T := ga_in (List.mem_of_getElem? (i := 306) (by decide +kernel)) rfl
theorem qX6 : Cond.instantiable RX6 9 ∈ ga_T := ga_in (List.mem_of_getElem? (i := 307) (by decide +kernel)) rfl
theorem nX10_48 : (RX10, 48, yX6_init, "ThreeDays") ∈ ga_nest := by decide +kernel
theorem yX6_init_ok : ga_Yi yX6_init cX6_init 1 0 := ⟨⟨ga_in (List.mem_of_getElem? (i := 85) (by decide +kernel)) rfl, ga_in (List.mem_of_getElem? (i := 310) (by decide +kernel)) rfl, by decide +kernel, by decide⟩, rfl, ga_in (List.mem_of_getElem? (i := 309) (by decide +kernel)) rfl⟩
theorem mX6_3 : Cond.methodLink RX6 3 Lib.objectInit ∈ ga_T := ga_in (List.mem_of_getElem? (i := 311) (by decide +kernel)) rfl
theorem fX6_11 : ga_F RX6 11 6 0 := ⟨_, rfl, by decide, ga_in (List.mem_of_getElem? (i := 312) (by decide +kernel)) rfl⟩
theorem pX6_11 : ga_FP RX6 11 6 0 (.array .int) true := ⟨_, rfl, by decide, ga_in (List.mem_of_getElem? (i := 312) (by decide +kernel)) rfl, rfl, by decide +kernel, fun h => by first | rfl | cases h⟩
theorem fX6_17 : ga_F RX6 17 6 1 := ⟨_, rfl, by decide, ga_in (List.mem_of_getElem? (i := 313) (by decide +kernel)) rfl⟩
theorem pX6_17 : ga_FP RX6 17 6 1 (.array .int) true := ⟨_, rfl, by decide, ga_in (List.mem_of_getElem? (i := 313) (by decide +kernel)) rfl, rfl, by decide +kernel, fun h => by first | rfl | cases h⟩
theorem fX6_20 : ga_F RX6 20 6 2 := ⟨_, rfl, by decide, ga_in (List.mem_of_getElem? (i := 314) (by decide +kernel)) rfl⟩
theorem pX6_20 : ga_FP RX6 20 6 2 (.array .int) true := ⟨_, rfl, by decide, ga_in (List.mem_of_getElem? (i := 314) (by decide +kernel)) rfl, rfl, by decide +kernel, fun h => by first | rfl | cases h⟩
theorem fX6_23 : ga_F RX6 23 6 3 := ⟨_, rfl, by decide, ga_in (List.mem_of_getElem? (i := 315) (by decide +kernel)) rfl⟩
theorem pX6_23 : ga_FP RX6 23 6 3 (.array .int) true := ⟨_, rfl, by decide, ga_in (List.mem_of_getElem? (i := 315) (by decide +kernel)) rfl, rfl, by decide +kernel, fun h => by first | rfl | cases h⟩
theorem fX6_26 : ga_F RX6 26 6 4 := ⟨_, rfl, by decide, ga_in (List.mem_of_getElem? (i := 316) (by decide +kernel)) rfl⟩
theorem pX6_26 : ga_FP RX6 26 6 4 (.array .long) true := ⟨_, rfl, by decide, ga_in (List.mem_of_getElem? (i := 316) (by decide +kernel)) rfl, rfl, by decide +kernel, fun h => by first | rfl | cases h⟩
theorem fX6_65 : ga_F RX6 65 6 5 := ⟨_, rfl, by decide, ga_in (List.mem_of_getElem? (i := 317) (by decide +kernel)) rfl⟩
theorem pX6_65 : ga_FP RX6 65 6 5 .int false := ⟨_, rfl, by decide, ga_in (List.mem_of_getElem? (i := 317) (by decide +kernel)) rfl, rfl, by decide +kernel, fun h => by first | rfl | cases h⟩
theorem fX6_34 : ga_F RX6 34 6 6 := ⟨_, rfl, by decide, ga_in (List.mem_of_getElem? (i := 318) (by decide +kernel)) rfl⟩
theorem pX6_34 : ga_FP RX6 34 6 6 .int false := ⟨_, rfl, by decide, ga_in (List.mem_of_getElem? (i := 318) (by decide +kernel)) rfl, rfl, by decide +kernel, fun h => by first | rfl | cases h⟩
theorem fX6_30 : ga_F RX6 30 6 7 := ⟨_, rfl, by decide, ga_in (List.mem_of_getElem? (i := 319) (by decide +kernel)) rfl⟩
theorem pX6_30 : ga_FP RX6 30 6 7 .int false := ⟨_, rfl, by decide, ga_in (List.mem_of_getElem? (i := 319) (by decide +kernel)) rfl, rfl, by decide +kernel, fun h => by first | rfl | cases h⟩
theorem fX6_37 : ga_F RX6 37 6 8 := ⟨_, rfl, by decide, ga_in (List.mem_of_getElem? (i := 320) (by decide +kernel)) rfl⟩
theorem pX6_37 : ga_FP RX6 37 6 8 .int false := ⟨_, rfl, by decide, ga_in (List.mem_of_getElem? (i := 320) (by decide +kernel)) rfl, rfl, by decide +kernel, fun h => by first | rfl | cases h⟩
theorem fX10_134 : ga_F RX10 134 6 8 := ⟨_, rfl, by decide, ga_in (List.mem_of_getElem? (i := 321) (by decide +kernel)) rfl⟩
theorem pX10_134 : ga_FP RX10 134 6 8 .int false := ⟨_, rfl, by decide, ga_in (List.mem_of_getElem? (i := 321) (by decide +kernel)) rfl, rfl, by decide +kernel, fun h => by first | rfl | cases h⟩
theorem lX10_56 : Cond.classLink RX10 56 RX1 ∈ ga_T := ga_in (List.mem_of_getElem? (i := 341) (by decide +kernel)) rfl
theorem qX1 : Cond.instantiable RX1 6 ∈ ga_T := ga_in (List.mem_of_getElem? (i := 342) (by decide +kernel)) rfl
theorem mX10_58 : Cond.methodLink RX10 58 yX1_init ∈ ga_T := ga_in (List.mem_of_getElem? (i := 343) (by decide +kernel)) rfl
theorem yX1_init_ok : ga_Yi yX1_init cX1_init 6 4 := ⟨⟨ga_in (List.mem_of_getElem? (i := 86) (by decide +kernel)) rfl, ga_in (List.mem_of_getElem? (i := 345) (by decide +kernel)) rfl, by decide +kernel, by decide⟩, rfl, ga_in (List.mem_of_getElem? (i := 344) (by decide +kernel)) rfl⟩
theorem mX1_3 : Cond.methodLink RX1 3 Lib.objectInit ∈ ga_T := ga_in (List.mem_of_getElem? (i := 346) (by decide +kernel)) rfl
theorem lX1_11 : Cond.classLink RX1 11 RX7 ∈ ga_T := ga_in (List.mem_of_getElem? (i := 347) (by decide +kernel)) rfl
theorem lX1_31 : Cond.classLink RX1 31 RX8 ∈ ga_T := ga_in (List.mem_of_getElem? (i := 349) (by decide +kernel)) rfl
theorem qX8 : Cond.instantiable RX8 4 ∈ ga_T := ga_in (List.mem_of_getElem? (i := 350) (by decide +kernel)) rfl
theorem mX1_33 : Cond.methodLink RX1 33 yX8_init ∈ ga_T := ga_in (List.mem_of_getElem? (i := 351) (by decide +kernel)) rfl
theorem yX8_init_ok : ga_Yi yX8_init cX8_init 3 2 := ⟨⟨ga_in (List.mem_of_getElem? (i := 87) (by decide +kernel)) rfl, ga_in (List.mem_of_getElem? (i := 353) (by decide +kernel)) rfl, by decide +kernel, by decide⟩, rfl, ga_in (List.mem_of_getElem? (i := 352) (by decide +kernel)) rfl⟩
theorem mX8_3 : Cond.methodLink RX8 3 Lib.objectInit ∈ ga_T := ga_in (List.mem_of_getElem? (i := 354) (by decide +kernel)) rfl
theorem fX8_17 : ga_F RX8 17 8 0 := ⟨_, rfl, by decide, ga_in (List.mem_of_getElem? (i := 355) (by decide +kernel)) rfl⟩
theorem pX8_17 : ga_FP RX8 17 8 0 (.object "ThreeDays$Course") true := ⟨_, rfl, by decide, ga_in (List.mem_of_getElem? (i := 355) (by decide +kernel)) rfl, rfl, by decide +kernel, fun h => by first | rfl | cases h⟩
theorem fX8_21 : ga_F RX8 21 8 1 := ⟨_, rfl, by decide, ga_in (List.mem_of_getElem? (i := 356) (by decide +kernel)) rfl⟩
theorem pX8_21 : ga_FP RX8 21 8 1 (.object "ThreeDays$Log") true := ⟨_, rfl, by decide, ga_in (List.mem_of_getElem? (i := 356) (by decide +kernel)) rfl, rfl, by decide +kernel, fun h => by first | rfl | cases h⟩
theorem fX8_13 : ga_F RX8 13 8 2 := ⟨_, rfl, by decide, ga_in (List.mem_of_getElem? (i := 357) (by decide +kernel)) rfl⟩
theorem pX8_13 : ga_FP RX8 13 8 2 (.array .int) true := ⟨_, rfl, by decide, ga_in (List.mem_of_getElem? (i := 357) (by decide +kernel)) rfl, rfl, by decide +kernel, fun h => by first | rfl | cases h⟩
theorem fX8_30 : ga_F RX8 30 8 3 := ⟨_, rfl, by decide, ga_in (List.mem_of_getElem? (i := 358) (by decide +kernel)) rfl⟩
theorem pX8_30 : ga_FP RX8 30 8 3 .int false := ⟨_, rfl, by decide, ga_in (List.mem_of_getElem? (i := 358) (by decide +kernel)) rfl, rfl, by decide +kernel, fun h => by first | rfl | cases h⟩
theorem qX7 : Cond.instantiable RX7 9 ∈ ga_T := ga_in (List.mem_of_getElem? (i := 368) (by decide +kernel)) rfl
theorem nX1_40 : (RX1, 40, yX7_init, "ThreeDays") ∈ ga_nest := by decide +kernel
theorem yX7_init_ok : ga_Yi yX7_init cX7_init 1 0 := ⟨⟨ga_in (List.mem_of_getElem? (i := 88) (by decide +kernel)) rfl, ga_in (List.mem_of_getElem? (i := 371) (by decide +kernel)) rfl, by decide +kernel, by decide⟩, rfl, ga_in (List.mem_of_getElem? (i := 370) (by decide +kernel)) rfl⟩
theorem mX7_7 : Cond.methodLink RX7 7 Lib.objectInit ∈ ga_T := ga_in (List.mem_of_getElem? (i := 372) (by decide +kernel)) rfl
theorem fX7_13 : ga_F RX7 13 7 0 := ⟨_, rfl, by decide, ga_in (List.mem_of_getElem? (i := 373) (by decide +kernel)) rfl⟩
theorem pX7_13 : ga_FP RX7 13 7 0 (.array .long) true := ⟨_, rfl, by decide, ga_in (List.mem_of_getElem? (i := 373) (by decide +kernel)) rfl, rfl, by decide +kernel, fun h => by first | rfl | cases h⟩
theorem fX8_65 : ga_F RX8 65 7 0 := ⟨_, rfl, by decide, ga_in (List.mem_of_getElem? (i := 374) (by decide +kernel)) rfl⟩
theorem fX6_50 : ga_F RX6 50 7 0 := ⟨_, rfl, by decide, ga_in (List.mem_of_getElem? (i := 375) (by decide +kernel)) rfl⟩
theorem fX7_17 : ga_F RX7 17 7 1 := ⟨_, rfl, by decide, ga_in (List.mem_of_getElem? (i := 376) (by decide +kernel)) rfl⟩
theorem pX7_17 : ga_FP RX7 17 7 1 .boolean false := ⟨_, rfl, by decide, ga_in (List.mem_of_getElem? (i := 376) (by decide +kernel)) rfl, rfl, by decide +kernel, fun h => by first | rfl | cases h⟩
theorem fX1_55 : ga_F RX1 55 7 1 := ⟨_, rfl, by decide, ga_in (List.mem_of_getElem? (i := 377) (by decide +kernel)) rfl⟩
theorem pX1_55 : ga_FP RX1 55 7 1 .boolean false := ⟨_, rfl, by decide, ga_in (List.mem_of_getElem? (i := 377) (by decide +kernel)) rfl, rfl, by decide +kernel, fun h => by first | rfl | cases h⟩
theorem fX7_21 : ga_F RX7 21 7 2 := ⟨_, rfl, by decide, ga_in (List.mem_of_getElem? (i := 378) (by decide +kernel)) rfl⟩
theorem pX7_21 : ga_FP RX7 21 7 2 .boolean false := ⟨_, rfl, by decide, ga_in (List.mem_of_getElem? (i := 378) (by decide +kernel)) rfl, rfl, by decide +kernel, fun h => by first | rfl | cases h⟩
theorem fX8_79 : ga_F RX8 79 7 2 := ⟨_, rfl, by decide, ga_in (List.mem_of_getElem? (i := 379) (by decide +kernel)) rfl⟩
theorem pX8_79 : ga_FP RX8 79 7 2 .boolean false := ⟨_, rfl, by decide, ga_in (List.mem_of_getElem? (i := 379) (by decide +kernel)) rfl, rfl, by decide +kernel, fun h => by first | rfl | cases h⟩
theorem fX2_46 : ga_F RX2 46 7 2 := ⟨_, rfl, by decide, ga_in (List.mem_of_getElem? (i := 380) (by decide +kernel)) rfl⟩
theorem pX2_46 : ga_FP RX2 46 7 2 .boolean false := ⟨_, rfl, by decide, ga_in (List.mem_of_getElem? (i := 380) (by decide +kernel)) rfl, rfl, by decide +kernel, fun h => by first | rfl | cases h⟩
theorem fX7_24 : ga_F RX7 24 7 3 := ⟨_, rfl, by decide, ga_in (List.mem_of_getElem? (i := 381) (by decide +kernel)) rfl⟩
theorem pX7_24 : ga_FP RX7 24 7 3 .boolean false := ⟨_, rfl, by decide, ga_in (List.mem_of_getElem? (i := 381) (by decide +kernel)) rfl, rfl, by decide +kernel, fun h => by first | rfl | cases h⟩
theorem fX8_90 : ga_F RX8 90 7 3 := ⟨_, rfl, by decide, ga_in (List.mem_of_getElem? (i := 382) (by decide +kernel)) rfl⟩
theorem pX8_90 : ga_FP RX8 90 7 3 .boolean false := ⟨_, rfl, by decide, ga_in (List.mem_of_getElem? (i := 382) (by decide +kernel)) rfl, rfl, by decide +kernel, fun h => by first | rfl | cases h⟩
theorem fX7_28 : ga_F RX7 28 7 4 := ⟨_, rfl, by decide, ga_in (List.mem_of_getElem? (i := 383) (by decide +kernel)) rfl⟩
theorem pX7_28 : ga_FP RX7 28 7 4 .int false := ⟨_, rfl, by decide, ga_in (List.mem_of_getElem? (i := 383) (by decide +kernel)) rfl, rfl, by decide +kernel, fun h => by first | rfl | cases h⟩
theorem fX8_87 : ga_F RX8 87 7 4 := ⟨_, rfl, by decide, ga_in (List.mem_of_getElem? (i := 384) (by decide +kernel)) rfl⟩
theorem pX8_87 : ga_FP RX8 87 7 4 .int false := ⟨_, rfl, by decide, ga_in (List.mem_of_getElem? (i := 384) (by decide +kernel)) rfl, rfl, by decide +kernel, fun h => by first | rfl | cases h⟩
theorem fX2_52 : ga_F RX2 52 7 4 := ⟨_, rfl, by decide, ga_in (List.mem_of_getElem? (i := 385) (by decide +kernel)) rfl⟩
theorem pX2_52 : ga_FP RX2 52 7 4 .int false := ⟨_, rfl, by decide, ga_in (List.mem_of_getElem? (i := 385) (by decide +kernel)) rfl, rfl, by decide +kernel, fun h => by first | rfl | cases h⟩
theorem fX7_32 : ga_F RX7 32 7 5 := ⟨_, rfl, by decide, ga_in (List.mem_of_getElem? (i := 386) (by decide +kernel)) rfl⟩
theorem pX7_32 : ga_FP RX7 32 7 5 .int false := ⟨_, rfl, by decide, ga_in (List.mem_of_getElem? (i := 386) (by decide +kernel)) rfl, rfl, by decide +kernel, fun h => by first | rfl | cases h⟩
theorem fX8_93 : ga_F RX8 93 7 5 := ⟨_, rfl, by decide, ga_in (List.mem_of_getElem? (i := 387) (by decide +kernel)) rfl⟩
theorem pX8_93 : ga_FP RX8 93 7 5 .int false := ⟨_, rfl, by decide, ga_in (List.mem_of_getElem? (i := 387) (by decide +kernel)) rfl, rfl, by decide +kernel, fun h => by first | rfl | cases h⟩
theorem fX7_35 : ga_F RX7 35 7 6 := ⟨_, rfl, by decide, ga_in (List.mem_of_getElem? (i := 388) (by decide +kernel)) rfl⟩
theorem pX7_35 : ga_FP RX7 35 7 6 .int false := ⟨_, rfl, by decide, ga_in (List.mem_of_getElem? (i := 388) (by decide +kernel)) rfl, rfl, by decide +kernel, fun h => by first | rfl | cases h⟩
theorem fX8_121 : ga_F RX8 121 7 6 := ⟨_, rfl, by decide, ga_in (List.mem_of_getElem? (i := 389) (by decide +kernel)) rfl⟩
theorem pX8_121 : ga_FP RX8 121 7 6 .int false := ⟨_, rfl, by decide, ga_in (List.mem_of_getElem? (i := 389) (by decide +kernel)) rfl, rfl, by decide +kernel, fun h => by first | rfl | cases h⟩
theorem fX6_40 : ga_F RX6 40 7 7 := ⟨_, rfl, by decide, ga_in (List.mem_of_getElem? (i := 390) (by decide +kernel)) rfl⟩
theorem pX6_40 : ga_FP RX6 40 7 7 .boolean false := ⟨_, rfl, by decide, ga_in (List.mem_of_getElem? (i := 390) (by decide +kernel)) rfl, rfl, by decide +kernel, fun h => by first | rfl | cases h⟩
theorem fX1_99 : ga_F RX1 99 7 7 := ⟨_, rfl, by decide, ga_in (List.mem_of_getElem? (i := 391) (by decide +kernel)) rfl⟩
theorem pX1_99 : ga_FP RX1 99 7 7 .boolean false := ⟨_, rfl, by decide, ga_in (List.mem_of_getElem? (i := 391) (by decide +kernel)) rfl, rfl, by decide +kernel, fun h => by first | rfl | cases h⟩
theorem fX10_170 : ga_F RX10 170 7 7 := ⟨_, rfl, by decide, ga_in (List.mem_of_getElem? (i := 392) (by decide +kernel)) rfl⟩
theorem pX10_170 : ga_FP RX10 170 7 7 .boolean false := ⟨_, rfl, by decide, ga_in (List.mem_of_getElem? (i := 392) (by decide +kernel)) rfl, rfl, by decide +kernel, fun h => by first | rfl | cases h⟩
theorem fX6_57 : ga_F RX6 57 7 8 := ⟨_, rfl, by decide, ga_in (List.mem_of_getElem? (i := 393) (by decide +kernel)) rfl⟩
theorem pX6_57 : ga_FP RX6 57 7 8 .long false := ⟨_, rfl, by decide, ga_in (List.mem_of_getElem? (i := 393) (by decide +kernel)) rfl, rfl, by decide +kernel, fun h => by first | rfl | cases h⟩
theorem fX1_117 : ga_F RX1 117 7 8 := ⟨_, rfl, by decide, ga_in (List.mem_of_getElem? (i := 394) (by decide +kernel)) rfl⟩
theorem pX1_117 : ga_FP RX1 117 7 8 .long false := ⟨_, rfl, by decide, ga_in (List.mem_of_getElem? (i := 394) (by decide +kernel)) rfl, rfl, by decide +kernel, fun h => by first | rfl | cases h⟩
theorem fX10_166 : ga_F RX10 166 7 8 := ⟨_, rfl, by decide, ga_in (List.mem_of_getElem? (i := 395) (by decide +kernel)) rfl⟩
theorem pX10_166 : ga_FP RX10 166 7 8 .long false := ⟨_, rfl, by decide, ga_in (List.mem_of_getElem? (i := 395) (by decide +kernel)) rfl, rfl, by decide +kernel, fun h => by first | rfl | cases h⟩
theorem fX1_19 : ga_F RX1 19 1 0 := ⟨_, rfl, by decide, ga_in (List.mem_of_getElem? (i := 415) (by decide +kernel)) rfl⟩
theorem pX1_19 : ga_FP RX1 19 1 0 (.object "ThreeDays$Riders") true := ⟨_, rfl, by decide, ga_in (List.mem_of_getElem? (i := 415) (by decide +kernel)) rfl, rfl, by decide +kernel, fun h => by first | rfl | cases h⟩
theorem fX1_23 : ga_F RX1 23 1 1 := ⟨_, rfl, by decide, ga_in (List.mem_of_getElem? (i := 416) (by decide +kernel)) rfl⟩
theorem pX1_23 : ga_FP RX1 23 1 1 (.object "ThreeDays$Log") true := ⟨_, rfl, by decide, ga_in (List.mem_of_getElem? (i := 416) (by decide +kernel)) rfl, rfl, by decide +kernel, fun h => by first | rfl | cases h⟩
theorem fX1_36 : ga_F RX1 36 1 2 := ⟨_, rfl, by decide, ga_in (List.mem_of_getElem? (i := 417) (by decide +kernel)) rfl⟩
theorem pX1_36 : ga_FP RX1 36 1 2 (.object "ThreeDays$Tally") true := ⟨_, rfl, by decide, ga_in (List.mem_of_getElem? (i := 417) (by decide +kernel)) rfl, rfl, by decide +kernel, fun h => by first | rfl | cases h⟩
theorem fX1_13 : ga_F RX1 13 1 3 := ⟨_, rfl, by decide, ga_in (List.mem_of_getElem? (i := 418) (by decide +kernel)) rfl⟩
theorem pX1_13 : ga_FP RX1 13 1 3 (.array (.object "ThreeDays$Sheet")) true := ⟨_, rfl, by decide, ga_in (List.mem_of_getElem? (i := 418) (by decide +kernel)) rfl, rfl, by decide +kernel, fun h => by first | rfl | cases h⟩
theorem fX1_27 : ga_F RX1 27 1 4 := ⟨_, rfl, by decide, ga_in (List.mem_of_getElem? (i := 419) (by decide +kernel)) rfl⟩
theorem pX1_27 : ga_FP RX1 27 1 4 (.object "ThreeDays$Rules") false := ⟨_, rfl, by decide, ga_in (List.mem_of_getElem? (i := 419) (by decide +kernel)) rfl, rfl, by decide +kernel, fun h => by first | rfl | cases h⟩
theorem fX1_69 : ga_F RX1 69 1 5 := ⟨_, rfl, by decide, ga_in (List.mem_of_getElem? (i := 420) (by decide +kernel)) rfl⟩
theorem pX1_69 : ga_FP RX1 69 1 5 .int false := ⟨_, rfl, by decide, ga_in (List.mem_of_getElem? (i := 420) (by decide +kernel)) rfl, rfl, by decide +kernel, fun h => by first | rfl | cases h⟩
theorem fX10_10 : ga_F RX10 10 10 0 := ⟨_, rfl, by decide, ga_in (List.mem_of_getElem? (i := 434) (by decide +kernel)) rfl⟩
theorem pX10_10 : ga_FP RX10 10 10 0 (.object "ThreeDays$Tape") true := ⟨_, rfl, by decide, ga_in (List.mem_of_getElem? (i := 434) (by decide +kernel)) rfl, rfl, by decide +kernel, fun h => by first | rfl | cases h⟩
theorem fX10_19 : ga_F RX10 19 10 1 := ⟨_, rfl, by decide, ga_in (List.mem_of_getElem? (i := 435) (by decide +kernel)) rfl⟩
theorem pX10_19 : ga_FP RX10 19 10 1 (.object "ThreeDays$Riders") true := ⟨_, rfl, by decide, ga_in (List.mem_of_getElem? (i := 435) (by decide +kernel)) rfl, rfl, by decide +kernel, fun h => by first | rfl | cases h⟩
theorem fX10_26 : ga_F RX10 26 10 2 := ⟨_, rfl, by decide, ga_in (List.mem_of_getElem? (i := 436) (by decide +kernel)) rfl⟩
theorem pX10_26 : ga_FP RX10 26 10 2 (.object "ThreeDays$Course") true := ⟨_, rfl, by decide, ga_in (List.mem_of_getElem? (i := 436) (by decide +kernel)) rfl, rfl, by decide +kernel, fun h => by first | rfl | cases h⟩
theorem fX10_33 : ga_F RX10 33 10 3 := ⟨_, rfl, by decide, ga_in (List.mem_of_getElem? (i := 437) (by decide +kernel)) rfl⟩
theorem pX10_33 : ga_FP RX10 33 10 3 (.object "ThreeDays$Log") true := ⟨_, rfl, by decide, ga_in (List.mem_of_getElem? (i := 437) (by decide +kernel)) rfl, rfl, by decide +kernel, fun h => by first | rfl | cases h⟩
theorem fX10_42 : ga_F RX10 42 10 4 := ⟨_, rfl, by decide, ga_in (List.mem_of_getElem? (i := 438) (by decide +kernel)) rfl⟩
theorem pX10_42 : ga_FP RX10 42 10 4 (.object "ThreeDays$Reader") true := ⟨_, rfl, by decide, ga_in (List.mem_of_getElem? (i := 438) (by decide +kernel)) rfl, rfl, by decide +kernel, fun h => by first | rfl | cases h⟩
theorem fX10_61 : ga_F RX10 61 10 5 := ⟨_, rfl, by decide, ga_in (List.mem_of_getElem? (i := 439) (by decide +kernel)) rfl⟩
theorem pX10_61 : ga_FP RX10 61 10 5 (.object "ThreeDays$Board") true := ⟨_, rfl, by decide, ga_in (List.mem_of_getElem? (i := 439) (by decide +kernel)) rfl, rfl, by decide +kernel, fun h => by first | rfl | cases h⟩
theorem fX10_49 : ga_F RX10 49 10 6 := ⟨_, rfl, by decide, ga_in (List.mem_of_getElem? (i := 440) (by decide +kernel)) rfl⟩
theorem pX10_49 : ga_FP RX10 49 10 6 (.object "ThreeDays$Rules") false := ⟨_, rfl, by decide, ga_in (List.mem_of_getElem? (i := 440) (by decide +kernel)) rfl, rfl, by decide +kernel, fun h => by first | rfl | cases h⟩
theorem fX10_53 : ga_F RX10 53 10 7 := ⟨_, rfl, by decide, ga_in (List.mem_of_getElem? (i := 441) (by decide +kernel)) rfl⟩
theorem pX10_53 : ga_FP RX10 53 10 7 (.object "ThreeDays$Rules") false := ⟨_, rfl, by decide, ga_in (List.mem_of_getElem? (i := 441) (by decide +kernel)) rfl, rfl, by decide +kernel, fun h => by first | rfl | cases h⟩
theorem fX10_65 : ga_F RX10 65 10 8 := ⟨_, rfl, by decide, ga_in (List.mem_of_getElem? (i := 442) (by decide +kernel)) rfl⟩
theorem pX10_65 : ga_FP RX10 65 10 8 .int false := ⟨_, rfl, by decide, ga_in (List.mem_of_getElem? (i := 442) (by decide +kernel)) rfl, rfl, by decide +kernel, fun h => by first | rfl | cases h⟩
theorem mL_13 : Cond.methodLink RL 13 yX10_feed ∈ ga_T := ga_in (List.mem_of_getElem? (i := 462) (by decide +kernel)) rfl
theorem yX10_feed_ok : ga_Yv yX10_feed cX10_feed 6 (some .int) 5 := ⟨⟨ga_in (List.mem_of_getElem? (i := 75) (by decide +kernel)) rfl, ga_in (List.mem_of_getElem? (i := 465) (by decide +kernel)) rfl, by decide +kernel, by decide⟩, ga_in (List.mem_of_getElem? (i := 463) (by decide +kernel)) rfl, ga_in (List.mem_of_getElem? (i := 464) (by decide +kernel)) rfl⟩
theorem mX10_69 : Cond.methodLink RX10 69 yX9_hasRoom ∈ ga_T := ga_in (List.mem_of_getElem? (i := 466) (by decide +kernel)) rfl
theorem yX9_hasRoom_ok : ga_Yv yX9_hasRoom cX9_hasRoom 1 (some .boolean) 0 := ⟨⟨ga_in (List.mem_of_getElem? (i := 76) (by decide +kernel)) rfl, ga_in (List.mem_of_getElem? (i := 469) (by decide +kernel)) rfl, by decide +kernel, by decide⟩, ga_in (List.mem_of_getElem? (i := 467) (by decide +kernel)) rfl, ga_in (List.mem_of_getElem? (i := 468) (by decide +kernel)) rfl⟩
theorem mX10_73 : Cond.methodLink RX10 73 yX9_append ∈ ga_T := ga_in (List.mem_of_getElem? (i := 470) (by decide +kernel)) rfl
theorem yX9_append_ok : ga_Yv yX9_append cX9_append 3 none 1 := ⟨⟨ga_in (List.mem_of_getElem? (i := 76) (by decide +kernel)) rfl, ga_in (List.mem_of_getElem? (i := 473) (by decide +kernel)) rfl, by decide +kernel, by decide⟩, ga_in (List.mem_of_getElem? (i := 471) (by decide +kernel)) rfl, ga_in (List.mem_of_getElem? (i := 472) (by decide +kernel)) rfl⟩
theorem mL_18 : Cond.methodLink RL 18 yX10_end ∈ ga_T := ga_in (List.mem_of_getElem? (i := 474) (by decide +kernel)) rfl
theorem yX10_end_ok : ga_Yv yX10_end cX10_end 2 (some .boolean) 1 := ⟨⟨ga_in (List.mem_of_getElem? (i := 75) (by decide +kernel)) rfl, ga_in (List.mem_of_getElem? (i := 477) (by decide +kernel)) rfl, by decide +kernel, by decide⟩, ga_in (List.mem_of_getElem? (i := 475) (by decide +kernel)) rfl, ga_in (List.mem_of_getElem? (i := 476) (by decide +kernel)) rfl⟩
theorem mX10_80 : Cond.methodLink RX10 80 yX9_cut ∈ ga_T := ga_in (List.mem_of_getElem? (i := 478) (by decide +kernel)) rfl
theorem yX9_cut_ok : ga_Yv yX9_cut cX9_cut 2 (some .boolean) 1 := ⟨⟨ga_in (List.mem_of_getElem? (i := 76) (by decide +kernel)) rfl, ga_in (List.mem_of_getElem? (i := 481) (by decide +kernel)) rfl, by decide +kernel, by decide⟩, ga_in (List.mem_of_getElem? (i := 479) (by decide +kernel)) rfl, ga_in (List.mem_of_getElem? (i := 480) (by decide +kernel)) rfl⟩
theorem nX9_17 : (RX9, 17, yX10_isWithin, "ThreeDays") ∈ ga_nest := by decide +kernel
theorem yX10_isWithin_ok : ga_Ys yX10_isWithin cX10_isWithin 3 (some .boolean) 3 := ⟨⟨ga_in (List.mem_of_getElem? (i := 75) (by decide +kernel)) rfl, ga_in (List.mem_of_getElem? (i := 484) (by decide +kernel)) rfl, by decide +kernel, by decide⟩, ga_in (List.mem_of_getElem? (i := 483) (by decide +kernel)) rfl⟩
theorem mL_23 : Cond.methodLink RL 23 yX10_rider ∈ ga_T := ga_in (List.mem_of_getElem? (i := 485) (by decide +kernel)) rfl
theorem yX10_rider_ok : ga_Yv yX10_rider cX10_rider 2 (some .int) 1 := ⟨⟨ga_in (List.mem_of_getElem? (i := 75) (by decide +kernel)) rfl, ga_in (List.mem_of_getElem? (i := 488) (by decide +kernel)) rfl, by decide +kernel, by decide⟩, ga_in (List.mem_of_getElem? (i := 486) (by decide +kernel)) rfl, ga_in (List.mem_of_getElem? (i := 487) (by decide +kernel)) rfl⟩
theorem mX10_84 : Cond.methodLink RX10 84 yX5_add ∈ ga_T := ga_in (List.mem_of_getElem? (i := 489) (by decide +kernel)) rfl
theorem yX5_add_ok : ga_Yv yX5_add cX5_add 2 (some .int) 1 := ⟨⟨ga_in (List.mem_of_getElem? (i := 77) (by decide +kernel)) rfl, ga_in (List.mem_of_getElem? (i := 492) (by decide +kernel)) rfl, by decide +kernel, by decide⟩, ga_in (List.mem_of_getElem? (i := 490) (by decide +kernel)) rfl, ga_in (List.mem_of_getElem? (i := 491) (by decide +kernel)) rfl⟩
theorem nX5_22 : (RX5, 22, yX10_isWithin, "ThreeDays") ∈ ga_nest := by decide +kernel
theorem mX5_26 : Cond.methodLink RX5 26 yX5_sizeOfTeam ∈ ga_T := ga_in (List.mem_of_getElem? (i := 494) (by decide +kernel)) rfl
theorem yX5_sizeOfTeam_ok : ga_Yv yX5_sizeOfTeam cX5_sizeOfTeam 2 (some .int) 1 := ⟨⟨ga_in (List.mem_of_getElem? (i := 77) (by decide +kernel)) rfl, ga_in (List.mem_of_getElem? (i := 497) (by decide +kernel)) rfl, by decide +kernel, by decide⟩, ga_in (List.mem_of_getElem? (i := 495) (by decide +kernel)) rfl, ga_in (List.mem_of_getElem? (i := 496) (by decide +kernel)) rfl⟩
theorem mL_28 : Cond.methodLink RL 28 yX10_fence ∈ ga_T := ga_in (List.mem_of_getElem? (i := 498) (by decide +kernel)) rfl
theorem yX10_fence_ok : ga_Yv yX10_fence cX10_fence 3 (some .int) 1 := ⟨⟨ga_in (List.mem_of_getElem? (i := 75) (by decide +kernel)) rfl, ga_in (List.mem_of_getElem? (i := 501) (by decide +kernel)) rfl, by decide +kernel, by decide⟩, ga_in (List.mem_of_getElem? (i := 499) (by decide +kernel)) rfl, ga_in (List.mem_of_getElem? (i := 500) (by decide +kernel)) rfl⟩
theorem mX10_88 : Cond.methodLink RX10 88 yX2_addFence ∈ ga_T := ga_in (List.mem_of_getElem? (i := 502) (by decide +kernel)) rfl
theorem yX2_addFence_ok : ga_Yv yX2_addFence cX2_addFence 2 (some .int) 1 := ⟨⟨ga_in (List.mem_of_getElem? (i := 78) (by decide +kernel)) rfl, ga_in (List.mem_of_getElem? (i := 505) (by decide +kernel)) rfl, by decide +kernel, by decide⟩, ga_in (List.mem_of_getElem? (i := 503) (by decide +kernel)) rfl, ga_in (List.mem_of_getElem? (i := 504) (by decide +kernel)) rfl⟩
theorem nX2_25 : (RX2, 25, yX10_isWithin, "ThreeDays") ∈ ga_nest := by decide +kernel
theorem mX2_32 : Cond.methodLink RX2 32 yX2_setOptimum ∈ ga_T := ga_in (List.mem_of_getElem? (i := 507) (by decide +kernel)) rfl
theorem yX2_setOptimum_ok : ga_Yv yX2_setOptimum cX2_setOptimum 1 none 0 := ⟨⟨ga_in (List.mem_of_getElem? (i := 78) (by decide +kernel)) rfl, ga_in (List.mem_of_getElem? (i := 510) (by decide +kernel)) rfl, by decide +kernel, by decide⟩, ga_in (List.mem_of_getElem? (i := 509) (by decide +kernel)) rfl, ga_in (List.mem_of_getElem? (i := 0) (by decide +kernel)) rfl⟩
theorem mX10_91 : Cond.methodLink RX10 91 yX1_forget ∈ ga_T := ga_in (List.mem_of_getElem? (i := 511) (by decide +kernel)) rfl
theorem yX1_forget_ok : ga_Yv yX1_forget cX1_forget 2 none 0 := ⟨⟨ga_in (List.mem_of_getElem? (i := 86) (by decide +kernel)) rfl, ga_in (List.mem_of_getElem? (i := 514) (by decide +kernel)) rfl, by decide +kernel, by decide⟩, ga_in (List.mem_of_getElem? (i := 512) (by decide +kernel)) rfl, ga_in (List.mem_of_getElem? (i := 513) (by decide +kernel)) rfl⟩
theorem mX1_41 : Cond.methodLink RX1 41 yX1_markStale ∈ ga_T := ga_in (List.mem_of_getElem? (i := 515) (by decide +kernel)) rfl
theorem yX1_markStale_ok : ga_Yv yX1_markStale cX1_markStale 2 none 1 := ⟨⟨ga_in (List.mem_of_getElem? (i := 86) (by decide +kernel)) rfl, ga_in (List.mem_of_getElem? (i := 518) (by decide +kernel)) rfl, by decide +kernel, by decide⟩, ga_in (List.mem_of_getElem? (i := 517) (by decide +kernel)) rfl, ga_in (List.mem_of_getElem? (i := 1) (by decide +kernel)) rfl⟩
theorem nX1_87 : (RX1, 87, yX10_isWithin, "ThreeDays") ∈ ga_nest := by decide +kernel
theorem mL_32 : Cond.methodLink RL 32 yX10_course ∈ ga_T := ga_in (List.mem_of_getElem? (i := 520) (by decide +kernel)) rfl
theorem yX10_course_ok : ga_Yv yX10_course cX10_course 4 (some .int) 2 := ⟨⟨ga_in (List.mem_of_getElem? (i := 75) (by decide +kernel)) rfl, ga_in (List.mem_of_getElem? (i := 523) (by decide +kernel)) rfl, by decide +kernel, by decide⟩, ga_in (List.mem_of_getElem? (i := 521) (by decide +kernel)) rfl, ga_in (List.mem_of_getElem? (i := 522) (by decide +kernel)) rfl⟩
theorem mX10_94 : Cond.methodLink RX10 94 yX2_measure ∈ ga_T := ga_in (List.mem_of_getElem? (i := 524) (by decide +kernel)) rfl
theorem yX2_measure_ok : ga_Yv yX2_measure cX2_measure 3 (some .int) 2 := ⟨⟨ga_in (List.mem_of_getElem? (i := 78) (by decide +kernel)) rfl, ga_in (List.mem_of_getElem? (i := 527) (by decide +kernel)) rfl, by decide +kernel, by decide⟩, ga_in (List.mem_of_getElem? (i := 525) (by decide +kernel)) rfl, ga_in (List.mem_of_getElem? (i := 526) (by decide +kernel)) rfl⟩
theorem mL_37 : Cond.methodLink RL 37 yX10_clock ∈ ga_T := ga_in (List.mem_of_getElem? (i := 528) (by decide +kernel)) rfl
theorem yX10_clock_ok : ga_Yv yX10_clock cX10_clock 4 (some .boolean) 2 := ⟨⟨ga_in (List.mem_of_getElem? (i := 75) (by decide +kernel)) rfl, ga_in (List.mem_of_getElem? (i := 531) (by decide +kernel)) rfl, by decide +kernel, by decide⟩, ga_in (List.mem_of_getElem? (i := 529) (by decide +kernel)) rfl, ga_in (List.mem_of_getElem? (i := 530) (by decide +kernel)) rfl⟩
theorem mX10_98 : Cond.methodLink RX10 98 yX2_setClock ∈ ga_T := ga_in (List.mem_of_getElem? (i := 532) (by decide +kernel)) rfl
theorem yX2_setClock_ok : ga_Yv yX2_setClock cX2_setClock 3 (some .boolean) 2 := ⟨⟨ga_in (List.mem_of_getElem? (i := 78) (by decide +kernel)) rfl, ga_in (List.mem_of_getElem? (i := 535) (by decide +kernel)) rfl, by decide +kernel, by decide⟩, ga_in (List.mem_of_getElem? (i := 533) (by decide +kernel)) rfl, ga_in (List.mem_of_getElem? (i := 534) (by decide +kernel)) rfl⟩
theorem mL_42 : Cond.methodLink RL 42 yX10_out ∈ ga_T := ga_in (List.mem_of_getElem? (i := 536) (by decide +kernel)) rfl
theorem yX10_out_ok : ga_Yv yX10_out cX10_out 4 (some .boolean) 2 := ⟨⟨ga_in (List.mem_of_getElem? (i := 75) (by decide +kernel)) rfl, ga_in (List.mem_of_getElem? (i := 539) (by decide +kernel)) rfl, by decide +kernel, by decide⟩, ga_in (List.mem_of_getElem? (i := 537) (by decide +kernel)) rfl, ga_in (List.mem_of_getElem? (i := 538) (by decide +kernel)) rfl⟩
theorem mX10_102 : Cond.methodLink RX10 102 yX2_takeOut ∈ ga_T := ga_in (List.mem_of_getElem? (i := 540) (by decide +kernel)) rfl
theorem yX2_takeOut_ok : ga_Yv yX2_takeOut cX2_takeOut 3 (some .boolean) 2 := ⟨⟨ga_in (List.mem_of_getElem? (i := 78) (by decide +kernel)) rfl, ga_in (List.mem_of_getElem? (i := 543) (by decide +kernel)) rfl, by decide +kernel, by decide⟩, ga_in (List.mem_of_getElem? (i := 541) (by decide +kernel)) rfl, ga_in (List.mem_of_getElem? (i := 542) (by decide +kernel)) rfl⟩
theorem mX2_41 : Cond.methodLink RX2 41 yX2_hasFence ∈ ga_T := ga_in (List.mem_of_getElem? (i := 544) (by decide +kernel)) rfl
theorem yX2_hasFence_ok : ga_Yv yX2_hasFence cX2_hasFence 2 (some .boolean) 1 := ⟨⟨ga_in (List.mem_of_getElem? (i := 78) (by decide +kernel)) rfl, ga_in (List.mem_of_getElem? (i := 547) (by decide +kernel)) rfl, by decide +kernel, by decide⟩, ga_in (List.mem_of_getElem? (i := 545) (by decide +kernel)) rfl, ga_in (List.mem_of_getElem? (i := 546) (by decide +kernel)) rfl⟩
theorem kX2_45 : Cond.constant RX2 45 (86399) ∈ ga_T := ga_in (List.mem_of_getElem? (i := 548) (by decide +kernel)) rfl
theorem mL_46 : Cond.methodLink RL 46 yX10_report ∈ ga_T := ga_in (List.mem_of_getElem? (i := 549) (by decide +kernel)) rfl
theorem yX10_report_ok : ga_Yv yX10_report cX10_report 6 (some .int) 5 := ⟨⟨ga_in (List.mem_of_getElem? (i := 75) (by decide +kernel)) rfl, ga_in (List.mem_of_getElem? (i := 552) (by decide +kernel)) rfl, by decide +kernel, by decide⟩, ga_in (List.mem_of_getElem? (i := 550) (by decide +kernel)) rfl, ga_in (List.mem_of_getElem? (i := 551) (by decide +kernel)) rfl⟩
theorem mX10_105 : Cond.methodLink RX10 105 yX5_has ∈ ga_T := ga_in (List.mem_of_getElem? (i := 553) (by decide +kernel)) rfl
theorem yX5_has_ok : ga_Yv yX5_has cX5_has 2 (some .boolean) 1 := ⟨⟨ga_in (List.mem_of_getElem? (i := 77) (by decide +kernel)) rfl, ga_in (List.mem_of_getElem? (i := 556) (by decide +kernel)) rfl, by decide +kernel, by decide⟩, ga_in (List.mem_of_getElem? (i := 554) (by decide +kernel)) rfl, ga_in (List.mem_of_getElem? (i := 555) (by decide +kernel)) rfl⟩
theorem mX10_108 : Cond.methodLink RX10 108 yX10_canBe ∈ ga_T := ga_in (List.mem_of_getElem? (i := 557) (by decide +kernel)) rfl
theorem yX10_canBe_ok : ga_Yv yX10_canBe cX10_canBe 5 (some .boolean) 4 := ⟨⟨ga_in (List.mem_of_getElem? (i := 75) (by decide +kernel)) rfl, ga_in (List.mem_of_getElem? (i := 560) (by decide +kernel)) rfl, by decide +kernel, by decide⟩, ga_in (List.mem_of_getElem? (i := 559) (by decide +kernel)) rfl, ga_in (List.mem_of_getElem? (i := 2) (by decide +kernel)) rfl⟩
theorem mX10_122 : Cond.methodLink RX10 122 yX10_isWithin ∈ ga_T := ga_in (List.mem_of_getElem? (i := 561) (by decide +kernel)) rfl
theorem kX10_204 : Cond.constant RX10 204 (86399) ∈ ga_T := ga_in (List.mem_of_getElem? (i := 562) (by decide +kernel)) rfl
theorem mX10_205 : Cond.methodLink RX10 205 yX2_hasFence ∈ ga_T := ga_in (List.mem_of_getElem? (i := 563) (by decide +kernel)) rfl
theorem mX10_112 : Cond.methodLink RX10 112 yX3_addReport ∈ ga_T := ga_in (List.mem_of_getElem? (i := 564) (by decide +kernel)) rfl
theorem yX3_addReport_ok : ga_Yv yX3_addReport cX3_addReport 8 (some .int) 5 := ⟨⟨ga_in (List.mem_of_getElem? (i := 79) (by decide +kernel)) rfl, ga_in (List.mem_of_getElem? (i := 567) (by decide +kernel)) rfl, by decide +kernel, by decide⟩, ga_in (List.mem_of_getElem? (i := 565) (by decide +kernel)) rfl, ga_in (List.mem_of_getElem? (i := 566) (by decide +kernel)) rfl⟩
theorem nX3_29 : (RX3, 29, yX10_isWithin, "ThreeDays") ∈ ga_nest := by decide +kernel
theorem qX0 : Cond.instantiable RX0 8 ∈ ga_T := ga_in (List.mem_of_getElem? (i := 569) (by decide +kernel)) rfl
theorem mX3_33 : Cond.methodLink RX3 33 yX0_init ∈ ga_T := ga_in (List.mem_of_getElem? (i := 570) (by decide +kernel)) rfl
theorem yX0_init_ok : ga_Yi yX0_init cX0_init 6 5 := ⟨⟨ga_in (List.mem_of_getElem? (i := 90) (by decide +kernel)) rfl, ga_in (List.mem_of_getElem? (i := 572) (by decide +kernel)) rfl, by decide +kernel, by decide⟩, rfl, ga_in (List.mem_of_getElem? (i := 571) (by decide +kernel)) rfl⟩
theorem mX0_3 : Cond.methodLink RX0 3 Lib.objectInit ∈ ga_T := ga_in (List.mem_of_getElem? (i := 573) (by decide +kernel)) rfl
theorem fX0_15 : ga_F RX0 15 0 0 := ⟨_, rfl, by decide, ga_in (List.mem_of_getElem? (i := 574) (by decide +kernel)) rfl⟩
theorem pX0_15 : ga_FP RX0 15 0 0 .int true := ⟨_, rfl, by decide, ga_in (List.mem_of_getElem? (i := 574) (by decide +kernel)) rfl, rfl, by decide +kernel, fun h => by first | rfl | cases h⟩
theorem fX3_54 : ga_F RX3 54 0 0 := ⟨_, rfl, by decide, ga_in (List.mem_of_getElem? (i := 575) (by decide +kernel)) rfl⟩
theorem fX0_18 : ga_F RX0 18 0 1 := ⟨_, rfl, by decide, ga_in (List.mem_of_getElem? (i := 576) (by decide +kernel)) rfl⟩
theorem pX0_18 : ga_FP RX0 18 0 1 .int true := ⟨_, rfl, by decide, ga_in (List.mem_of_getElem? (i := 576) (by decide +kernel)) rfl, rfl, by decide +kernel, fun h => by first | rfl | cases h⟩
theorem fX8_73 : ga_F RX8 73 0 1 := ⟨_, rfl, by decide, ga_in (List.mem_of_getElem? (i := 577) (by decide +kernel)) rfl⟩
theorem fX3_48 : ga_F RX3 48 0 1 := ⟨_, rfl, by decide, ga_in (List.mem_of_getElem? (i := 578) (by decide +kernel)) rfl⟩
theorem fX0_21 : ga_F RX0 21 0 2 := ⟨_, rfl, by decide, ga_in (List.mem_of_getElem? (i := 579) (by decide +kernel)) rfl⟩
theorem pX0_21 : ga_FP RX0 21 0 2 .int true := ⟨_, rfl, by decide, ga_in (List.mem_of_getElem? (i := 579) (by decide +kernel)) rfl, rfl, by decide +kernel, fun h => by first | rfl | cases h⟩
theorem fX8_99 : ga_F RX8 99 0 2 := ⟨_, rfl, by decide, ga_in (List.mem_of_getElem? (i := 580) (by decide +kernel)) rfl⟩
theorem fX0_24 : ga_F RX0 24 0 3 := ⟨_, rfl, by decide, ga_in (List.mem_of_getElem? (i := 581) (by decide +kernel)) rfl⟩
theorem pX0_24 : ga_FP RX0 24 0 3 .int true := ⟨_, rfl, by decide, ga_in (List.mem_of_getElem? (i := 581) (by decide +kernel)) rfl, rfl, by decide +kernel, fun h => by first | rfl | cases h⟩
theorem fX8_76 : ga_F RX8 76 0 3 := ⟨_, rfl, by decide, ga_in (List.mem_of_getElem? (i := 582) (by decide +kernel)) rfl⟩
theorem fX0_27 : ga_F RX0 27 0 4 := ⟨_, rfl, by decide, ga_in (List.mem_of_getElem? (i := 583) (by decide +kernel)) rfl⟩
theorem pX0_27 : ga_FP RX0 27 0 4 .int true := ⟨_, rfl, by decide, ga_in (List.mem_of_getElem? (i := 583) (by decide +kernel)) rfl, rfl, by decide +kernel, fun h => by first | rfl | cases h⟩
theorem fX8_96 : ga_F RX8 96 0 4 := ⟨_, rfl, by decide, ga_in (List.mem_of_getElem? (i := 584) (by decide +kernel)) rfl⟩
theorem fX0_30 : ga_F RX0 30 0 5 := ⟨_, rfl, by decide, ga_in (List.mem_of_getElem? (i := 585) (by decide +kernel)) rfl⟩
theorem pX0_30 : ga_FP RX0 30 0 5 .int false := ⟨_, rfl, by decide, ga_in (List.mem_of_getElem? (i := 585) (by decide +kernel)) rfl, rfl, by decide +kernel, fun h => by first | rfl | cases h⟩
theorem fX3_57 : ga_F RX3 57 0 5 := ⟨_, rfl, by decide, ga_in (List.mem_of_getElem? (i := 586) (by decide +kernel)) rfl⟩
theorem pX3_57 : ga_FP RX3 57 0 5 .int false := ⟨_, rfl, by decide, ga_in (List.mem_of_getElem? (i := 586) (by decide +kernel)) rfl, rfl, by decide +kernel, fun h => by first | rfl | cases h⟩
theorem fX0_9 : ga_F RX0 9 0 6 := ⟨_, rfl, by decide, ga_in (List.mem_of_getElem? (i := 587) (by decide +kernel)) rfl⟩
theorem pX0_9 : ga_FP RX0 9 0 6 .int false := ⟨_, rfl, by decide, ga_in (List.mem_of_getElem? (i := 587) (by decide +kernel)) rfl, rfl, by decide +kernel, fun h => by first | rfl | cases h⟩
theorem fX3_51 : ga_F RX3 51 0 6 := ⟨_, rfl, by decide, ga_in (List.mem_of_getElem? (i := 588) (by decide +kernel)) rfl⟩
theorem pX3_51 : ga_FP RX3 51 0 6 .int false := ⟨_, rfl, by decide, ga_in (List.mem_of_getElem? (i := 588) (by decide +kernel)) rfl, rfl, by decide +kernel, fun h => by first | rfl | cases h⟩
theorem fX8_50 : ga_F RX8 50 0 7 := ⟨_, rfl, by decide, ga_in (List.mem_of_getElem? (i := 589) (by decide +kernel)) rfl⟩
theorem pX8_50 : ga_FP RX8 50 0 7 (.object "ThreeDays$Act") false := ⟨_, rfl, by decide, ga_in (List.mem_of_getElem? (i := 589) (by decide +kernel)) rfl, rfl, by decide +kernel, fun h => by first | rfl | cases h⟩
theorem fX3_40 : ga_F RX3 40 0 7 := ⟨_, rfl, by decide, ga_in (List.mem_of_getElem? (i := 590) (by decide +kernel)) rfl⟩
theorem pX3_40 : ga_FP RX3 40 0 7 (.object "ThreeDays$Act") false := ⟨_, rfl, by decide, ga_in (List.mem_of_getElem? (i := 590) (by decide +kernel)) rfl, rfl, by decide +kernel, fun h => by first | rfl | cases h⟩
theorem mX3_36 : Cond.methodLink RX3 36 yX3_write ∈ ga_T := ga_in (List.mem_of_getElem? (i := 608) (by decide +kernel)) rfl
theorem yX3_write_ok : ga_Yv yX3_write cX3_write 2 none 1 := ⟨⟨ga_in (List.mem_of_getElem? (i := 79) (by decide +kernel)) rfl, ga_in (List.mem_of_getElem? (i := 611) (by decide +kernel)) rfl, by decide +kernel, by decide⟩, ga_in (List.mem_of_getElem? (i := 610) (by decide +kernel)) rfl, ga_in (List.mem_of_getElem? (i := 3) (by decide +kernel)) rfl⟩
theorem mL_50 : Cond.methodLink RL 50 yX10_strike ∈ ga_T := ga_in (List.mem_of_getElem? (i := 612) (by decide +kernel)) rfl
theorem yX10_strike_ok : ga_Yv yX10_strike cX10_strike 2 (some .int) 1 := ⟨⟨ga_in (List.mem_of_getElem? (i := 75) (by decide +kernel)) rfl, ga_in (List.mem_of_getElem? (i := 615) (by decide +kernel)) rfl, by decide +kernel, by decide⟩, ga_in (List.mem_of_getElem? (i := 613) (by decide +kernel)) rfl, ga_in (List.mem_of_getElem? (i := 614) (by decide +kernel)) rfl⟩
theorem mX10_116 : Cond.methodLink RX10 116 yX3_addStrike ∈ ga_T := ga_in (List.mem_of_getElem? (i := 616) (by decide +kernel)) rfl
theorem yX3_addStrike_ok : ga_Yv yX3_addStrike cX3_addStrike 3 (some .int) 1 := ⟨⟨ga_in (List.mem_of_getElem? (i := 79) (by decide +kernel)) rfl, ga_in (List.mem_of_getElem? (i := 619) (by decide +kernel)) rfl, by decide +kernel, by decide⟩, ga_in (List.mem_of_getElem? (i := 617) (by decide +kernel)) rfl, ga_in (List.mem_of_getElem? (i := 618) (by decide +kernel)) rfl⟩
theorem mX3_44 : Cond.methodLink RX3 44 yX3_actAt ∈ ga_T := ga_in (List.mem_of_getElem? (i := 620) (by decide +kernel)) rfl
theorem yX3_actAt_ok : ga_Yv yX3_actAt cX3_actAt 2 (some (.object "ThreeDays$Act")) 1 := ⟨⟨ga_in (List.mem_of_getElem? (i := 79) (by decide +kernel)) rfl, ga_in (List.mem_of_getElem? (i := 623) (by decide +kernel)) rfl, by decide +kernel, by decide⟩, ga_in (List.mem_of_getElem? (i := 622) (by decide +kernel)) rfl, ga_in (List.mem_of_getElem? (i := 4) (by decide +kernel)) rfl⟩
theorem mL_54 : Cond.methodLink RL 54 yX10_as ∈ ga_T := ga_in (List.mem_of_getElem? (i := 624) (by decide +kernel)) rfl
theorem yX10_as_ok : ga_Yv yX10_as cX10_as 2 (some .boolean) 1 := ⟨⟨ga_in (List.mem_of_getElem? (i := 75) (by decide +kernel)) rfl, ga_in (List.mem_of_getElem? (i := 627) (by decide +kernel)) rfl, by decide +kernel, by decide⟩, ga_in (List.mem_of_getElem? (i := 625) (by decide +kernel)) rfl, ga_in (List.mem_of_getElem? (i := 626) (by decide +kernel)) rfl⟩
theorem mL_58 : Cond.methodLink RL 58 yX10_rules ∈ ga_T := ga_in (List.mem_of_getElem? (i := 628) (by decide +kernel)) rfl
theorem yX10_rules_ok : ga_Yv yX10_rules cX10_rules 3 (some .int) 0 := ⟨⟨ga_in (List.mem_of_getElem? (i := 75) (by decide +kernel)) rfl, ga_in (List.mem_of_getElem? (i := 631) (by decide +kernel)) rfl, by decide +kernel, by decide⟩, ga_in (List.mem_of_getElem? (i := 629) (by decide +kernel)) rfl, ga_in (List.mem_of_getElem? (i := 630) (by decide +kernel)) rfl⟩
theorem mX10_126 : Cond.methodLink RX10 126 yX4_read ∈ ga_T := ga_in (List.mem_of_getElem? (i := 632) (by decide +kernel)) rfl
theorem yX4_read_ok : ga_Yv yX4_read cX4_read 3 (some .boolean) 1 := ⟨⟨ga_in (List.mem_of_getElem? (i := 80) (by decide +kernel)) rfl, ga_in (List.mem_of_getElem? (i := 635) (by decide +kernel)) rfl, by decide +kernel, by decide⟩, ga_in (List.mem_of_getElem? (i := 633) (by decide +kernel)) rfl, ga_in (List.mem_of_getElem? (i := 634) (by decide +kernel)) rfl⟩
theorem mX4_80 : Cond.methodLink RX4 80 yX6_clear ∈ ga_T := ga_in (List.mem_of_getElem? (i := 636) (by decide +kernel)) rfl
theorem yX6_clear_ok : ga_Yv yX6_clear cX6_clear 1 none 0 := ⟨⟨ga_in (List.mem_of_getElem? (i := 85) (by decide +kernel)) rfl, ga_in (List.mem_of_getElem? (i := 639) (by decide +kernel)) rfl, by decide +kernel, by decide⟩, ga_in (List.mem_of_getElem? (i := 637) (by decide +kernel)) rfl, ga_in (List.mem_of_getElem? (i := 638) (by decide +kernel)) rfl⟩
theorem mX4_91 : Cond.methodLink RX4 91 yX4_advance ∈ ga_T := ga_in (List.mem_of_getElem? (i := 640) (by decide +kernel)) rfl
theorem yX4_advance_ok : ga_Yv yX4_advance cX4_advance 3 none 0 := ⟨⟨ga_in (List.mem_of_getElem? (i := 80) (by decide +kernel)) rfl, ga_in (List.mem_of_getElem? (i := 643) (by decide +kernel)) rfl, by decide +kernel, by decide⟩, ga_in (List.mem_of_getElem? (i := 642) (by decide +kernel)) rfl, ga_in (List.mem_of_getElem? (i := 5) (by decide +kernel)) rfl⟩
theorem kX4_174 : Cond.constantLong RX4 174 (10) ∈ ga_T := ga_in (List.mem_of_getElem? (i := 644) (by decide +kernel)) rfl
theorem mX4_100 : Cond.methodLink RX4 100 yX4_fail ∈ ga_T := ga_in (List.mem_of_getElem? (i := 645) (by decide +kernel)) rfl
theorem yX4_fail_ok : ga_Yv yX4_fail cX4_fail 3 none 2 := ⟨⟨ga_in (List.mem_of_getElem? (i := 80) (by decide +kernel)) rfl, ga_in (List.mem_of_getElem? (i := 648) (by decide +kernel)) rfl, by decide +kernel, by decide⟩, ga_in (List.mem_of_getElem? (i := 647) (by decide +kernel)) rfl, ga_in (List.mem_of_getElem? (i := 6) (by decide +kernel)) rfl⟩
theorem mX4_107 : Cond.methodLink RX4 107 yX4_readOutIf ∈ ga_T := ga_in (List.mem_of_getElem? (i := 649) (by decide +kernel)) rfl
theorem yX4_readOutIf_ok : ga_Yv yX4_readOutIf cX4_readOutIf 2 none 0 := ⟨⟨ga_in (List.mem_of_getElem? (i := 80) (by decide +kernel)) rfl, ga_in (List.mem_of_getElem? (i := 652) (by decide +kernel)) rfl, by decide +kernel, by decide⟩, ga_in (List.mem_of_getElem? (i := 651) (by decide +kernel)) rfl, ga_in (List.mem_of_getElem? (i := 7) (by decide +kernel)) rfl⟩
theorem mX4_128 : Cond.methodLink RX4 128 yX4_readSum ∈ ga_T := ga_in (List.mem_of_getElem? (i := 653) (by decide +kernel)) rfl
theorem yX4_readSum_ok : ga_Yv yX4_readSum cX4_readSum 4 none 1 := ⟨⟨ga_in (List.mem_of_getElem? (i := 80) (by decide +kernel)) rfl, ga_in (List.mem_of_getElem? (i := 656) (by decide +kernel)) rfl, by decide +kernel, by decide⟩, ga_in (List.mem_of_getElem? (i := 655) (by decide +kernel)) rfl, ga_in (List.mem_of_getElem? (i := 8) (by decide +kernel)) rfl⟩
theorem mX4_147 : Cond.methodLink RX4 147 yX4_readProduct ∈ ga_T := ga_in (List.mem_of_getElem? (i := 657) (by decide +kernel)) rfl
theorem yX4_readProduct_ok : ga_Yv yX4_readProduct cX4_readProduct 4 none 1 := ⟨⟨ga_in (List.mem_of_getElem? (i := 80) (by decide +kernel)) rfl, ga_in (List.mem_of_getElem? (i := 660) (by decide +kernel)) rfl, by decide +kernel, by decide⟩, ga_in (List.mem_of_getElem? (i := 659) (by decide +kernel)) rfl, ga_in (List.mem_of_getElem? (i := 9) (by decide +kernel)) rfl⟩
theorem mX4_150 : Cond.methodLink RX4 150 yX4_readFactor ∈ ga_T := ga_in (List.mem_of_getElem? (i := 661) (by decide +kernel)) rfl
theorem yX4_readFactor_ok : ga_Yv yX4_readFactor cX4_readFactor 3 none 1 := ⟨⟨ga_in (List.mem_of_getElem? (i := 80) (by decide +kernel)) rfl, ga_in (List.mem_of_getElem? (i := 664) (by decide +kernel)) rfl, by decide +kernel, by decide⟩, ga_in (List.mem_of_getElem? (i := 663) (by decide +kernel)) rfl, ga_in (List.mem_of_getElem? (i := 10) (by decide +kernel)) rfl⟩
theorem mX4_156 : Cond.methodLink RX4 156 yX4_pairStep ∈ ga_T := ga_in (List.mem_of_getElem? (i := 665) (by decide +kernel)) rfl
theorem yX4_pairStep_ok : ga_Yv yX4_pairStep cX4_pairStep 1 (some .int) 0 := ⟨⟨ga_in (List.mem_of_getElem? (i := 80) (by decide +kernel)) rfl, ga_in (List.mem_of_getElem? (i := 668) (by decide +kernel)) rfl, by decide +kernel, by decide⟩, ga_in (List.mem_of_getElem? (i := 667) (by decide +kernel)) rfl, ga_in (List.mem_of_getElem? (i := 11) (by decide +kernel)) rfl⟩
theorem mX4_159 : Cond.methodLink RX4 159 yX4_takeNumber ∈ ga_T := ga_in (List.mem_of_getElem? (i := 669) (by decide +kernel)) rfl
theorem yX4_takeNumber_ok : ga_Yv yX4_takeNumber cX4_takeNumber 2 (some .int) 0 := ⟨⟨ga_in (List.mem_of_getElem? (i := 80) (by decide +kernel)) rfl, ga_in (List.mem_of_getElem? (i := 672) (by decide +kernel)) rfl, by decide +kernel, by decide⟩, ga_in (List.mem_of_getElem? (i := 671) (by decide +kernel)) rfl, ga_in (List.mem_of_getElem? (i := 12) (by decide +kernel)) rfl⟩
theorem mX4_137 : Cond.methodLink RX4 137 yX6_addStep ∈ ga_T := ga_in (List.mem_of_getElem? (i := 673) (by decide +kernel)) rfl
theorem yX6_addStep_ok : ga_Yv yX6_addStep cX6_addStep 3 none 2 := ⟨⟨ga_in (List.mem_of_getElem? (i := 85) (by decide +kernel)) rfl, ga_in (List.mem_of_getElem? (i := 676) (by decide +kernel)) rfl, by decide +kernel, by decide⟩, ga_in (List.mem_of_getElem? (i := 674) (by decide +kernel)) rfl, ga_in (List.mem_of_getElem? (i := 675) (by decide +kernel)) rfl⟩
theorem mX4_140 : Cond.methodLink RX4 140 yX4_takeName ∈ ga_T := ga_in (List.mem_of_getElem? (i := 677) (by decide +kernel)) rfl
theorem yX4_takeName_ok : ga_Yv yX4_takeName cX4_takeName 3 (some .int) 1 := ⟨⟨ga_in (List.mem_of_getElem? (i := 80) (by decide +kernel)) rfl, ga_in (List.mem_of_getElem? (i := 680) (by decide +kernel)) rfl, by decide +kernel, by decide⟩, ga_in (List.mem_of_getElem? (i := 679) (by decide +kernel)) rfl, ga_in (List.mem_of_getElem? (i := 13) (by decide +kernel)) rfl⟩
theorem mX4_162 : Cond.methodLink RX4 162 yX4_slotOf ∈ ga_T := ga_in (List.mem_of_getElem? (i := 681) (by decide +kernel)) rfl
theorem yX4_slotOf_ok : ga_Yv yX4_slotOf cX4_slotOf 4 (some .int) 1 := ⟨⟨ga_in (List.mem_of_getElem? (i := 80) (by decide +kernel)) rfl, ga_in (List.mem_of_getElem? (i := 684) (by decide +kernel)) rfl, by decide +kernel, by decide⟩, ga_in (List.mem_of_getElem? (i := 683) (by decide +kernel)) rfl, ga_in (List.mem_of_getElem? (i := 14) (by decide +kernel)) rfl⟩
theorem mX4_166 : Cond.methodLink RX4 166 yX4_isKept ∈ ga_T := ga_in (List.mem_of_getElem? (i := 685) (by decide +kernel)) rfl
theorem yX4_isKept_ok : ga_Yv yX4_isKept cX4_isKept 3 (some .boolean) 1 := ⟨⟨ga_in (List.mem_of_getElem? (i := 80) (by decide +kernel)) rfl, ga_in (List.mem_of_getElem? (i := 688) (by decide +kernel)) rfl, by decide +kernel, by decide⟩, ga_in (List.mem_of_getElem? (i := 687) (by decide +kernel)) rfl, ga_in (List.mem_of_getElem? (i := 15) (by decide +kernel)) rfl⟩
theorem mX4_117 : Cond.methodLink RX4 117 yX4_expect ∈ ga_T := ga_in (List.mem_of_getElem? (i := 689) (by decide +kernel)) rfl
theorem yX4_expect_ok : ga_Yv yX4_expect cX4_expect 2 none 1 := ⟨⟨ga_in (List.mem_of_getElem? (i := 80) (by decide +kernel)) rfl, ga_in (List.mem_of_getElem? (i := 692) (by decide +kernel)) rfl, by decide +kernel, by decide⟩, ga_in (List.mem_of_getElem? (i := 691) (by decide +kernel)) rfl, ga_in (List.mem_of_getElem? (i := 16) (by decide +kernel)) rfl⟩
theorem mX4_153 : Cond.methodLink RX4 153 yX4_readDivisor ∈ ga_T := ga_in (List.mem_of_getElem? (i := 693) (by decide +kernel)) rfl
theorem yX4_readDivisor_ok : ga_Yv yX4_readDivisor cX4_readDivisor 3 none 0 := ⟨⟨ga_in (List.mem_of_getElem? (i := 80) (by decide +kernel)) rfl, ga_in (List.mem_of_getElem? (i := 696) (by decide +kernel)) rfl, by decide +kernel, by decide⟩, ga_in (List.mem_of_getElem? (i := 695) (by decide +kernel)) rfl, ga_in (List.mem_of_getElem? (i := 17) (by decide +kernel)) rfl⟩
theorem mX4_134 : Cond.methodLink RX4 134 yX4_comparison ∈ ga_T := ga_in (List.mem_of_getElem? (i := 697) (by decide +kernel)) rfl
theorem yX4_comparison_ok : ga_Yv yX4_comparison cX4_comparison 1 (some .int) 0 := ⟨⟨ga_in (List.mem_of_getElem? (i := 80) (by decide +kernel)) rfl, ga_in (List.mem_of_getElem? (i := 700) (by decide +kernel)) rfl, by decide +kernel, by decide⟩, ga_in (List.mem_of_getElem? (i := 699) (by decide +kernel)) rfl, ga_in (List.mem_of_getElem? (i := 18) (by decide +kernel)) rfl⟩
theorem mX4_131 : Cond.methodLink RX4 131 yX6_closeStatement ∈ ga_T := ga_in (List.mem_of_getElem? (i := 701) (by decide +kernel)) rfl
theorem yX6_closeStatement_ok : ga_Yv yX6_closeStatement cX6_closeStatement 2 none 1 := ⟨⟨ga_in (List.mem_of_getElem? (i := 85) (by decide +kernel)) rfl, ga_in (List.mem_of_getElem? (i := 704) (by decide +kernel)) rfl, by decide +kernel, by decide⟩, ga_in (List.mem_of_getElem? (i := 702) (by decide +kernel)) rfl, ga_in (List.mem_of_getElem? (i := 703) (by decide +kernel)) rfl⟩
theorem mX4_110 : Cond.methodLink RX4 110 yX4_readTie ∈ ga_T := ga_in (List.mem_of_getElem? (i := 705) (by decide +kernel)) rfl
theorem yX4_readTie_ok : ga_Yv yX4_readTie cX4_readTie 1 none 0 := ⟨⟨ga_in (List.mem_of_getElem? (i := 80) (by decide +kernel)) rfl, ga_in (List.mem_of_getElem? (i := 708) (by decide +kernel)) rfl, by decide +kernel, by decide⟩, ga_in (List.mem_of_getElem? (i := 707) (by decide +kernel)) rfl, ga_in (List.mem_of_getElem? (i := 19) (by decide +kernel)) rfl⟩
theorem mX4_113 : Cond.methodLink RX4 113 yX4_readGiving ∈ ga_T := ga_in (List.mem_of_getElem? (i := 709) (by decide +kernel)) rfl
theorem yX4_readGiving_ok : ga_Yv yX4_readGiving cX4_readGiving 4 none 1 := ⟨⟨ga_in (List.mem_of_getElem? (i := 80) (by decide +kernel)) rfl, ga_in (List.mem_of_getElem? (i := 712) (by decide +kernel)) rfl, by decide +kernel, by decide⟩, ga_in (List.mem_of_getElem? (i := 711) (by decide +kernel)) rfl, ga_in (List.mem_of_getElem? (i := 20) (by decide +kernel)) rfl⟩
theorem mX4_144 : Cond.methodLink RX4 144 yX6_setTotal ∈ ga_T := ga_in (List.mem_of_getElem? (i := 713) (by decide +kernel)) rfl
theorem yX6_setTotal_ok : ga_Yv yX6_setTotal cX6_setTotal 2 none 1 := ⟨⟨ga_in (List.mem_of_getElem? (i := 85) (by decide +kernel)) rfl, ga_in (List.mem_of_getElem? (i := 716) (by decide +kernel)) rfl, by decide +kernel, by decide⟩, ga_in (List.mem_of_getElem? (i := 714) (by decide +kernel)) rfl, ga_in (List.mem_of_getElem? (i := 715) (by decide +kernel)) rfl⟩
theorem mX4_120 : Cond.methodLink RX4 120 yX6_hasTotal ∈ ga_T := ga_in (List.mem_of_getElem? (i := 717) (by decide +kernel)) rfl
theorem yX6_hasTotal_ok : ga_Yv yX6_hasTotal cX6_hasTotal 1 (some .boolean) 0 := ⟨⟨ga_in (List.mem_of_getElem? (i := 85) (by decide +kernel)) rfl, ga_in (List.mem_of_getElem? (i := 720) (by decide +kernel)) rfl, by decide +kernel, by decide⟩, ga_in (List.mem_of_getElem? (i := 718) (by decide +kernel)) rfl, ga_in (List.mem_of_getElem? (i := 719) (by decide +kernel)) rfl⟩
theorem mX10_130 : Cond.methodLink RX10 130 yX1_follow ∈ ga_T := ga_in (List.mem_of_getElem? (i := 721) (by decide +kernel)) rfl
theorem yX1_follow_ok : ga_Yv yX1_follow cX1_follow 2 none 1 := ⟨⟨ga_in (List.mem_of_getElem? (i := 86) (by decide +kernel)) rfl, ga_in (List.mem_of_getElem? (i := 724) (by decide +kernel)) rfl, by decide +kernel, by decide⟩, ga_in (List.mem_of_getElem? (i := 722) (by decide +kernel)) rfl, ga_in (List.mem_of_getElem? (i := 723) (by decide +kernel)) rfl⟩
theorem mX1_45 : Cond.methodLink RX1 45 yX1_forget ∈ ga_T := ga_in (List.mem_of_getElem? (i := 725) (by decide +kernel)) rfl
theorem mL_63 : Cond.methodLink RL 63 yX10_fault ∈ ga_T := ga_in (List.mem_of_getElem? (i := 726) (by decide +kernel)) rfl
theorem yX10_fault_ok : ga_Yv yX10_fault cX10_fault 2 (some .int) 1 := ⟨⟨ga_in (List.mem_of_getElem? (i := 75) (by decide +kernel)) rfl, ga_in (List.mem_of_getElem? (i := 729) (by decide +kernel)) rfl, by decide +kernel, by decide⟩, ga_in (List.mem_of_getElem? (i := 727) (by decide +kernel)) rfl, ga_in (List.mem_of_getElem? (i := 728) (by decide +kernel)) rfl⟩
theorem mL_67 : Cond.methodLink RL 67 yX10_count ∈ ga_T := ga_in (List.mem_of_getElem? (i := 730) (by decide +kernel)) rfl
theorem yX10_count_ok : ga_Yv yX10_count cX10_count 4 (some .int) 2 := ⟨⟨ga_in (List.mem_of_getElem? (i := 75) (by decide +kernel)) rfl, ga_in (List.mem_of_getElem? (i := 733) (by decide +kernel)) rfl, by decide +kernel, by decide⟩, ga_in (List.mem_of_getElem? (i := 731) (by decide +kernel)) rfl, ga_in (List.mem_of_getElem? (i := 732) (by decide +kernel)) rfl⟩
theorem mX10_143 : Cond.methodLink RX10 143 yX10_toldAct ∈ ga_T := ga_in (List.mem_of_getElem? (i := 734) (by decide +kernel)) rfl
theorem yX10_toldAct_ok : ga_Yv yX10_toldAct cX10_toldAct 1 (some .int) 0 := ⟨⟨ga_in (List.mem_of_getElem? (i := 75) (by decide +kernel)) rfl, ga_in (List.mem_of_getElem? (i := 737) (by decide +kernel)) rfl, by decide +kernel, by decide⟩, ga_in (List.mem_of_getElem? (i := 736) (by decide +kernel)) rfl, ga_in (List.mem_of_getElem? (i := 21) (by decide +kernel)) rfl⟩
theorem mX10_147 : Cond.methodLink RX10 147 yX1_knowAt ∈ ga_T := ga_in (List.mem_of_getElem? (i := 738) (by decide +kernel)) rfl
theorem yX1_knowAt_ok : ga_Yv yX1_knowAt cX1_knowAt 4 none 1 := ⟨⟨ga_in (List.mem_of_getElem? (i := 86) (by decide +kernel)) rfl, ga_in (List.mem_of_getElem? (i := 741) (by decide +kernel)) rfl, by decide +kernel, by decide⟩, ga_in (List.mem_of_getElem? (i := 739) (by decide +kernel)) rfl, ga_in (List.mem_of_getElem? (i := 740) (by decide +kernel)) rfl⟩
theorem mX1_48 : Cond.methodLink RX1 48 yX1_moveTo ∈ ga_T := ga_in (List.mem_of_getElem? (i := 742) (by decide +kernel)) rfl
theorem yX1_moveTo_ok : ga_Yv yX1_moveTo cX1_moveTo 4 none 1 := ⟨⟨ga_in (List.mem_of_getElem? (i := 86) (by decide +kernel)) rfl, ga_in (List.mem_of_getElem? (i := 745) (by decide +kernel)) rfl, by decide +kernel, by decide⟩, ga_in (List.mem_of_getElem? (i := 744) (by decide +kernel)) rfl, ga_in (List.mem_of_getElem? (i := 22) (by decide +kernel)) rfl⟩
theorem mX1_72 : Cond.methodLink RX1 72 yJ9_max_7cf53 ∈ ga_T := ga_in (List.mem_of_getElem? (i := 746) (by decide +kernel)) rfl
theorem yJ9_max_7cf53_ok : ga_Ys yJ9_max_7cf53 cJ9_max_7cf53 2 (some .int) 2 := ⟨⟨ga_in (List.mem_of_getElem? (i := 91) (by decide +kernel)) rfl, ga_in (List.mem_of_getElem? (i := 748) (by decide +kernel)) rfl, by decide +kernel, by decide⟩, ga_in (List.mem_of_getElem? (i := 747) (by decide +kernel)) rfl⟩
theorem mX1_78 : Cond.methodLink RX1 78 yJ9_min_7cf53 ∈ ga_T := ga_in (List.mem_of_getElem? (i := 749) (by decide +kernel)) rfl
theorem yJ9_min_7cf53_ok : ga_Ys yJ9_min_7cf53 cJ9_min_7cf53 2 (some .int) 2 := ⟨⟨ga_in (List.mem_of_getElem? (i := 91) (by decide +kernel)) rfl, ga_in (List.mem_of_getElem? (i := 751) (by decide +kernel)) rfl, by decide +kernel, by decide⟩, ga_in (List.mem_of_getElem? (i := 750) (by decide +kernel)) rfl⟩
theorem mX1_81 : Cond.methodLink RX1 81 yX3_riderOf ∈ ga_T := ga_in (List.mem_of_getElem? (i := 752) (by decide +kernel)) rfl
theorem yX3_riderOf_ok : ga_Yv yX3_riderOf cX3_riderOf 3 (some .int) 1 := ⟨⟨ga_in (List.mem_of_getElem? (i := 79) (by decide +kernel)) rfl, ga_in (List.mem_of_getElem? (i := 755) (by decide +kernel)) rfl, by decide +kernel, by decide⟩, ga_in (List.mem_of_getElem? (i := 753) (by decide +kernel)) rfl, ga_in (List.mem_of_getElem? (i := 754) (by decide +kernel)) rfl⟩
theorem mX1_59 : Cond.methodLink RX1 59 yX8_fill ∈ ga_T := ga_in (List.mem_of_getElem? (i := 756) (by decide +kernel)) rfl
theorem yX8_fill_ok : ga_Yv yX8_fill cX8_fill 5 none 3 := ⟨⟨ga_in (List.mem_of_getElem? (i := 87) (by decide +kernel)) rfl, ga_in (List.mem_of_getElem? (i := 759) (by decide +kernel)) rfl, by decide +kernel, by decide⟩, ga_in (List.mem_of_getElem? (i := 757) (by decide +kernel)) rfl, ga_in (List.mem_of_getElem? (i := 758) (by decide +kernel)) rfl⟩
theorem mX8_25 : Cond.methodLink RX8 25 yX7_clear ∈ ga_T := ga_in (List.mem_of_getElem? (i := 760) (by decide +kernel)) rfl
theorem yX7_clear_ok : ga_Yv yX7_clear cX7_clear 2 none 0 := ⟨⟨ga_in (List.mem_of_getElem? (i := 88) (by decide +kernel)) rfl, ga_in (List.mem_of_getElem? (i := 763) (by decide +kernel)) rfl, by decide +kernel, by decide⟩, ga_in (List.mem_of_getElem? (i := 761) (by decide +kernel)) rfl, ga_in (List.mem_of_getElem? (i := 762) (by decide +kernel)) rfl⟩
theorem kX7_27 : Cond.constant RX7 27 (-1000000) ∈ ga_T := ga_in (List.mem_of_getElem? (i := 764) (by decide +kernel)) rfl
theorem mX8_34 : Cond.methodLink RX8 34 yX3_oldestOf ∈ ga_T := ga_in (List.mem_of_getElem? (i := 765) (by decide +kernel)) rfl
theorem yX3_oldestOf_ok : ga_Yv yX3_oldestOf cX3_oldestOf 2 (some (.object "ThreeDays$Act")) 1 := ⟨⟨ga_in (List.mem_of_getElem? (i := 79) (by decide +kernel)) rfl, ga_in (List.mem_of_getElem? (i := 768) (by decide +kernel)) rfl, by decide +kernel, by decide⟩, ga_in (List.mem_of_getElem? (i := 766) (by decide +kernel)) rfl, ga_in (List.mem_of_getElem? (i := 767) (by decide +kernel)) rfl⟩
theorem mX8_40 : Cond.methodLink RX8 40 yX0_isKnownAt ∈ ga_T := ga_in (List.mem_of_getElem? (i := 769) (by decide +kernel)) rfl
theorem yX0_isKnownAt_ok : ga_Yv yX0_isKnownAt cX0_isKnownAt 2 (some .boolean) 1 := ⟨⟨ga_in (List.mem_of_getElem? (i := 90) (by decide +kernel)) rfl, ga_in (List.mem_of_getElem? (i := 772) (by decide +kernel)) rfl, by decide +kernel, by decide⟩, ga_in (List.mem_of_getElem? (i := 770) (by decide +kernel)) rfl, ga_in (List.mem_of_getElem? (i := 771) (by decide +kernel)) rfl⟩
theorem mX8_46 : Cond.methodLink RX8 46 yX8_take ∈ ga_T := ga_in (List.mem_of_getElem? (i := 773) (by decide +kernel)) rfl
theorem yX8_take_ok : ga_Yv yX8_take cX8_take 3 none 2 := ⟨⟨ga_in (List.mem_of_getElem? (i := 87) (by decide +kernel)) rfl, ga_in (List.mem_of_getElem? (i := 776) (by decide +kernel)) rfl, by decide +kernel, by decide⟩, ga_in (List.mem_of_getElem? (i := 775) (by decide +kernel)) rfl, ga_in (List.mem_of_getElem? (i := 23) (by decide +kernel)) rfl⟩
theorem mX8_83 : Cond.methodLink RX8 83 yX2_putRight ∈ ga_T := ga_in (List.mem_of_getElem? (i := 777) (by decide +kernel)) rfl
theorem yX2_putRight_ok : ga_Yv yX2_putRight cX2_putRight 3 (some .int) 2 := ⟨⟨ga_in (List.mem_of_getElem? (i := 78) (by decide +kernel)) rfl, ga_in (List.mem_of_getElem? (i := 780) (by decide +kernel)) rfl, by decide +kernel, by decide⟩, ga_in (List.mem_of_getElem? (i := 778) (by decide +kernel)) rfl, ga_in (List.mem_of_getElem? (i := 779) (by decide +kernel)) rfl⟩
theorem mX8_102 : Cond.methodLink RX8 102 yX8_see ∈ ga_T := ga_in (List.mem_of_getElem? (i := 781) (by decide +kernel)) rfl
theorem yX8_see_ok : ga_Yv yX8_see cX8_see 4 none 2 := ⟨⟨ga_in (List.mem_of_getElem? (i := 87) (by decide +kernel)) rfl, ga_in (List.mem_of_getElem? (i := 784) (by decide +kernel)) rfl, by decide +kernel, by decide⟩, ga_in (List.mem_of_getElem? (i := 783) (by decide +kernel)) rfl, ga_in (List.mem_of_getElem? (i := 24) (by decide +kernel)) rfl⟩
theorem mX8_106 : Cond.methodLink RX8 106 yX8_seenAt ∈ ga_T := ga_in (List.mem_of_getElem? (i := 785) (by decide +kernel)) rfl
theorem yX8_seenAt_ok : ga_Ys yX8_seenAt cX8_seenAt 2 (some .int) 2 := ⟨⟨ga_in (List.mem_of_getElem? (i := 87) (by decide +kernel)) rfl, ga_in (List.mem_of_getElem? (i := 787) (by decide +kernel)) rfl, by decide +kernel, by decide⟩, ga_in (List.mem_of_getElem? (i := 786) (by decide +kernel)) rfl⟩
theorem nX8_109 : (RX8, 109, yX10_isWithin, "ThreeDays") ∈ ga_nest := by decide +kernel
theorem mX8_54 : Cond.methodLink RX8 54 yX8_takeTime ∈ ga_T := ga_in (List.mem_of_getElem? (i := 789) (by decide +kernel)) rfl
theorem yX8_takeTime_ok : ga_Yv yX8_takeTime cX8_takeTime 3 none 1 := ⟨⟨ga_in (List.mem_of_getElem? (i := 87) (by decide +kernel)) rfl, ga_in (List.mem_of_getElem? (i := 792) (by decide +kernel)) rfl, by decide +kernel, by decide⟩, ga_in (List.mem_of_getElem? (i := 791) (by decide +kernel)) rfl, ga_in (List.mem_of_getElem? (i := 25) (by decide +kernel)) rfl⟩
theorem mX8_116 : Cond.methodLink RX8 116 yJ9_max_7cf53 ∈ ga_T := ga_in (List.mem_of_getElem? (i := 793) (by decide +kernel)) rfl
theorem mX8_61 : Cond.methodLink RX8 61 yX2_isFenceFor ∈ ga_T := ga_in (List.mem_of_getElem? (i := 794) (by decide +kernel)) rfl
theorem yX2_isFenceFor_ok : ga_Yv yX2_isFenceFor cX2_isFenceFor 3 (some .boolean) 2 := ⟨⟨ga_in (List.mem_of_getElem? (i := 78) (by decide +kernel)) rfl, ga_in (List.mem_of_getElem? (i := 797) (by decide +kernel)) rfl, by decide +kernel, by decide⟩, ga_in (List.mem_of_getElem? (i := 795) (by decide +kernel)) rfl, ga_in (List.mem_of_getElem? (i := 796) (by decide +kernel)) rfl⟩
theorem mX8_69 : Cond.methodLink RX8 69 yX8_takeFence ∈ ga_T := ga_in (List.mem_of_getElem? (i := 798) (by decide +kernel)) rfl
theorem yX8_takeFence_ok : ga_Yv yX8_takeFence cX8_takeFence 7 none 2 := ⟨⟨ga_in (List.mem_of_getElem? (i := 87) (by decide +kernel)) rfl, ga_in (List.mem_of_getElem? (i := 801) (by decide +kernel)) rfl, by decide +kernel, by decide⟩, ga_in (List.mem_of_getElem? (i := 800) (by decide +kernel)) rfl, ga_in (List.mem_of_getElem? (i := 26) (by decide +kernel)) rfl⟩
theorem mX8_124 : Cond.methodLink RX8 124 yX8_timesSeen ∈ ga_T := ga_in (List.mem_of_getElem? (i := 802) (by decide +kernel)) rfl
theorem yX8_timesSeen_ok : ga_Yv yX8_timesSeen cX8_timesSeen 4 (some .int) 2 := ⟨⟨ga_in (List.mem_of_getElem? (i := 87) (by decide +kernel)) rfl, ga_in (List.mem_of_getElem? (i := 805) (by decide +kernel)) rfl, by decide +kernel, by decide⟩, ga_in (List.mem_of_getElem? (i := 804) (by decide +kernel)) rfl, ga_in (List.mem_of_getElem? (i := 27) (by decide +kernel)) rfl⟩
theorem mX1_63 : Cond.methodLink RX1 63 yX6_apply ∈ ga_T := ga_in (List.mem_of_getElem? (i := 806) (by decide +kernel)) rfl
theorem yX6_apply_ok : ga_Yv yX6_apply cX6_apply 6 none 1 := ⟨⟨ga_in (List.mem_of_getElem? (i := 85) (by decide +kernel)) rfl, ga_in (List.mem_of_getElem? (i := 809) (by decide +kernel)) rfl, by decide +kernel, by decide⟩, ga_in (List.mem_of_getElem? (i := 807) (by decide +kernel)) rfl, ga_in (List.mem_of_getElem? (i := 808) (by decide +kernel)) rfl⟩
theorem mX6_46 : Cond.methodLink RX6 46 yX6_run ∈ ga_T := ga_in (List.mem_of_getElem? (i := 810) (by decide +kernel)) rfl
theorem yX6_run_ok : ga_Yv yX6_run cX6_run 5 (some .long) 3 := ⟨⟨ga_in (List.mem_of_getElem? (i := 85) (by decide +kernel)) rfl, ga_in (List.mem_of_getElem? (i := 813) (by decide +kernel)) rfl, by decide +kernel, by decide⟩, ga_in (List.mem_of_getElem? (i := 812) (by decide +kernel)) rfl, ga_in (List.mem_of_getElem? (i := 28) (by decide +kernel)) rfl⟩
theorem mX6_68 : Cond.methodLink RX6 68 yX6_doStep ∈ ga_T := ga_in (List.mem_of_getElem? (i := 814) (by decide +kernel)) rfl
theorem yX6_doStep_ok : ga_Yv yX6_doStep cX6_doStep 8 none 3 := ⟨⟨ga_in (List.mem_of_getElem? (i := 85) (by decide +kernel)) rfl, ga_in (List.mem_of_getElem? (i := 817) (by decide +kernel)) rfl, by decide +kernel, by decide⟩, ga_in (List.mem_of_getElem? (i := 816) (by decide +kernel)) rfl, ga_in (List.mem_of_getElem? (i := 29) (by decide +kernel)) rfl⟩
theorem mX6_76 : Cond.methodLink RX6 76 yX6_push ∈ ga_T := ga_in (List.mem_of_getElem? (i := 818) (by decide +kernel)) rfl
theorem yX6_push_ok : ga_Yv yX6_push cX6_push 3 none 1 := ⟨⟨ga_in (List.mem_of_getElem? (i := 85) (by decide +kernel)) rfl, ga_in (List.mem_of_getElem? (i := 821) (by decide +kernel)) rfl, by decide +kernel, by decide⟩, ga_in (List.mem_of_getElem? (i := 820) (by decide +kernel)) rfl, ga_in (List.mem_of_getElem? (i := 30) (by decide +kernel)) rfl⟩
theorem mX6_53 : Cond.methodLink RX6 53 yX7_valueAt ∈ ga_T := ga_in (List.mem_of_getElem? (i := 822) (by decide +kernel)) rfl
theorem yX7_valueAt_ok : ga_Yv yX7_valueAt cX7_valueAt 2 (some .long) 1 := ⟨⟨ga_in (List.mem_of_getElem? (i := 88) (by decide +kernel)) rfl, ga_in (List.mem_of_getElem? (i := 825) (by decide +kernel)) rfl, by decide +kernel, by decide⟩, ga_in (List.mem_of_getElem? (i := 823) (by decide +kernel)) rfl, ga_in (List.mem_of_getElem? (i := 824) (by decide +kernel)) rfl⟩
theorem nX7_38 : (RX7, 38, yX10_isWithin, "ThreeDays") ∈ ga_nest := by decide +kernel
theorem mX6_72 : Cond.methodLink RX6 72 yX6_pop ∈ ga_T := ga_in (List.mem_of_getElem? (i := 827) (by decide +kernel)) rfl
theorem yX6_pop_ok : ga_Yv yX6_pop cX6_pop 1 (some .long) 0 := ⟨⟨ga_in (List.mem_of_getElem? (i := 85) (by decide +kernel)) rfl, ga_in (List.mem_of_getElem? (i := 830) (by decide +kernel)) rfl, by decide +kernel, by decide⟩, ga_in (List.mem_of_getElem? (i := 829) (by decide +kernel)) rfl, ga_in (List.mem_of_getElem? (i := 31) (by decide +kernel)) rfl⟩
theorem mX6_80 : Cond.methodLink RX6 80 yJ9_floorDiv_f86c9 ∈ ga_T := ga_in (List.mem_of_getElem? (i := 831) (by decide +kernel)) rfl
theorem yJ9_floorDiv_f86c9_ok : ga_Ys yJ9_floorDiv_f86c9 cJ9_floorDiv_f86c9 6 (some .long) 2 := ⟨⟨ga_in (List.mem_of_getElem? (i := 91) (by decide +kernel)) rfl, ga_in (List.mem_of_getElem? (i := 833) (by decide +kernel)) rfl, by decide +kernel, by decide⟩, ga_in (List.mem_of_getElem? (i := 832) (by decide +kernel)) rfl⟩
theorem mX6_86 : Cond.methodLink RX6 86 yX6_join ∈ ga_T := ga_in (List.mem_of_getElem? (i := 834) (by decide +kernel)) rfl
theorem yX6_join_ok : ga_Ys yX6_join cX6_join 5 (some .long) 3 := ⟨⟨ga_in (List.mem_of_getElem? (i := 85) (by decide +kernel)) rfl, ga_in (List.mem_of_getElem? (i := 836) (by decide +kernel)) rfl, by decide +kernel, by decide⟩, ga_in (List.mem_of_getElem? (i := 835) (by decide +kernel)) rfl⟩
theorem mX6_90 : Cond.methodLink RX6 90 yX6_limited ∈ ga_T := ga_in (List.mem_of_getElem? (i := 837) (by decide +kernel)) rfl
theorem yX6_limited_ok : ga_Ys yX6_limited cX6_limited 2 (some .long) 1 := ⟨⟨ga_in (List.mem_of_getElem? (i := 85) (by decide +kernel)) rfl, ga_in (List.mem_of_getElem? (i := 839) (by decide +kernel)) rfl, by decide +kernel, by decide⟩, ga_in (List.mem_of_getElem? (i := 838) (by decide +kernel)) rfl⟩
theorem kX6_103 : Cond.constantLong RX6 103 (-1000000000000) ∈ ga_T := ga_in (List.mem_of_getElem? (i := 840) (by decide +kernel)) rfl
theorem kX6_105 : Cond.constantLong RX6 105 (1000000000000) ∈ ga_T := ga_in (List.mem_of_getElem? (i := 841) (by decide +kernel)) rfl
theorem mX6_100 : Cond.methodLink RX6 100 yJ9_min_f86c9 ∈ ga_T := ga_in (List.mem_of_getElem? (i := 842) (by decide +kernel)) rfl
theorem yJ9_min_f86c9_ok : ga_Ys yJ9_min_f86c9 cJ9_min_f86c9 4 (some .long) 2 := ⟨⟨ga_in (List.mem_of_getElem? (i := 91) (by decide +kernel)) rfl, ga_in (List.mem_of_getElem? (i := 844) (by decide +kernel)) rfl, by decide +kernel, by decide⟩, ga_in (List.mem_of_getElem? (i := 843) (by decide +kernel)) rfl⟩
theorem mX6_97 : Cond.methodLink RX6 97 yJ9_max_f86c9 ∈ ga_T := ga_in (List.mem_of_getElem? (i := 845) (by decide +kernel)) rfl
theorem yJ9_max_f86c9_ok : ga_Ys yJ9_max_f86c9 cJ9_max_f86c9 4 (some .long) 2 := ⟨⟨ga_in (List.mem_of_getElem? (i := 91) (by decide +kernel)) rfl, ga_in (List.mem_of_getElem? (i := 847) (by decide +kernel)) rfl, by decide +kernel, by decide⟩, ga_in (List.mem_of_getElem? (i := 846) (by decide +kernel)) rfl⟩
theorem mX6_94 : Cond.methodLink RX6 94 yX6_product ∈ ga_T := ga_in (List.mem_of_getElem? (i := 848) (by decide +kernel)) rfl
theorem yX6_product_ok : ga_Ys yX6_product cX6_product 4 (some .long) 2 := ⟨⟨ga_in (List.mem_of_getElem? (i := 85) (by decide +kernel)) rfl, ga_in (List.mem_of_getElem? (i := 850) (by decide +kernel)) rfl, by decide +kernel, by decide⟩, ga_in (List.mem_of_getElem? (i := 849) (by decide +kernel)) rfl⟩
theorem mX6_107 : Cond.methodLink RX6 107 yJ9_abs_067f4 ∈ ga_T := ga_in (List.mem_of_getElem? (i := 851) (by decide +kernel)) rfl
theorem yJ9_abs_067f4_ok : ga_Ys yJ9_abs_067f4 cJ9_abs_067f4 2 (some .long) 1 := ⟨⟨ga_in (List.mem_of_getElem? (i := 91) (by decide +kernel)) rfl, ga_in (List.mem_of_getElem? (i := 853) (by decide +kernel)) rfl, by decide +kernel, by decide⟩, ga_in (List.mem_of_getElem? (i := 852) (by decide +kernel)) rfl⟩
theorem mX10_150 : Cond.methodLink RX10 150 yX1_sheetAt ∈ ga_T := ga_in (List.mem_of_getElem? (i := 854) (by decide +kernel)) rfl
theorem yX1_sheetAt_ok : ga_Yv yX1_sheetAt cX1_sheetAt 2 (some (.object "ThreeDays$Sheet")) 1 := ⟨⟨ga_in (List.mem_of_getElem? (i := 86) (by decide +kernel)) rfl, ga_in (List.mem_of_getElem? (i := 857) (by decide +kernel)) rfl, by decide +kernel, by decide⟩, ga_in (List.mem_of_getElem? (i := 855) (by decide +kernel)) rfl, ga_in (List.mem_of_getElem? (i := 856) (by decide +kernel)) rfl⟩
theorem mX1_91 : Cond.methodLink RX1 91 yX5_has ∈ ga_T := ga_in (List.mem_of_getElem? (i := 858) (by decide +kernel)) rfl
theorem kX10_154 : Cond.constant RX10 154 (-2000000) ∈ ga_T := ga_in (List.mem_of_getElem? (i := 859) (by decide +kernel)) rfl
theorem mX10_155 : Cond.methodLink RX10 155 yX7_countOf ∈ ga_T := ga_in (List.mem_of_getElem? (i := 860) (by decide +kernel)) rfl
theorem yX7_countOf_ok : ga_Yv yX7_countOf cX7_countOf 2 (some .int) 1 := ⟨⟨ga_in (List.mem_of_getElem? (i := 88) (by decide +kernel)) rfl, ga_in (List.mem_of_getElem? (i := 863) (by decide +kernel)) rfl, by decide +kernel, by decide⟩, ga_in (List.mem_of_getElem? (i := 861) (by decide +kernel)) rfl, ga_in (List.mem_of_getElem? (i := 862) (by decide +kernel)) rfl⟩
theorem kX7_42 : Cond.constant RX7 42 (-2000000) ∈ ga_T := ga_in (List.mem_of_getElem? (i := 864) (by decide +kernel)) rfl
theorem mL_71 : Cond.methodLink RL 71 yX10_given ∈ ga_T := ga_in (List.mem_of_getElem? (i := 865) (by decide +kernel)) rfl
theorem yX10_given_ok : ga_Yv yX10_given cX10_given 4 (some .long) 2 := ⟨⟨ga_in (List.mem_of_getElem? (i := 75) (by decide +kernel)) rfl, ga_in (List.mem_of_getElem? (i := 868) (by decide +kernel)) rfl, by decide +kernel, by decide⟩, ga_in (List.mem_of_getElem? (i := 866) (by decide +kernel)) rfl, ga_in (List.mem_of_getElem? (i := 867) (by decide +kernel)) rfl⟩
theorem kX10_160 : Cond.constantLong RX10 160 (-2000000000000) ∈ ga_T := ga_in (List.mem_of_getElem? (i := 869) (by decide +kernel)) rfl
theorem mX10_162 : Cond.methodLink RX10 162 yX7_valueAt ∈ ga_T := ga_in (List.mem_of_getElem? (i := 870) (by decide +kernel)) rfl
theorem mL_76 : Cond.methodLink RL 76 yX10_total ∈ ga_T := ga_in (List.mem_of_getElem? (i := 871) (by decide +kernel)) rfl
theorem yX10_total_ok : ga_Yv yX10_total cX10_total 3 (some .long) 1 := ⟨⟨ga_in (List.mem_of_getElem? (i := 75) (by decide +kernel)) rfl, ga_in (List.mem_of_getElem? (i := 874) (by decide +kernel)) rfl, by decide +kernel, by decide⟩, ga_in (List.mem_of_getElem? (i := 872) (by decide +kernel)) rfl, ga_in (List.mem_of_getElem? (i := 873) (by decide +kernel)) rfl⟩
theorem mL_81 : Cond.methodLink RL 81 yX10_isOut ∈ ga_T := ga_in (List.mem_of_getElem? (i := 875) (by decide +kernel)) rfl
theorem yX10_isOut_ok : ga_Yv yX10_isOut cX10_isOut 3 (some .int) 1 := ⟨⟨ga_in (List.mem_of_getElem? (i := 75) (by decide +kernel)) rfl, ga_in (List.mem_of_getElem? (i := 878) (by decide +kernel)) rfl, by decide +kernel, by decide⟩, ga_in (List.mem_of_getElem? (i := 876) (by decide +kernel)) rfl, ga_in (List.mem_of_getElem? (i := 877) (by decide +kernel)) rfl⟩
theorem mL_85 : Cond.methodLink RL 85 yX10_against ∈ ga_T := ga_in (List.mem_of_getElem? (i := 879) (by decide +kernel)) rfl
theorem yX10_against_ok : ga_Yv yX10_against cX10_against 5 (some .int) 2 := ⟨⟨ga_in (List.mem_of_getElem? (i := 75) (by decide +kernel)) rfl, ga_in (List.mem_of_getElem? (i := 882) (by decide +kernel)) rfl, by decide +kernel, by decide⟩, ga_in (List.mem_of_getElem? (i := 880) (by decide +kernel)) rfl, ga_in (List.mem_of_getElem? (i := 881) (by decide +kernel)) rfl⟩
theorem mX10_174 : Cond.methodLink RX10 174 yX6_compare ∈ ga_T := ga_in (List.mem_of_getElem? (i := 883) (by decide +kernel)) rfl
theorem yX6_compare_ok : ga_Yv yX6_compare cX6_compare 5 (some .int) 2 := ⟨⟨ga_in (List.mem_of_getElem? (i := 85) (by decide +kernel)) rfl, ga_in (List.mem_of_getElem? (i := 886) (by decide +kernel)) rfl, by decide +kernel, by decide⟩, ga_in (List.mem_of_getElem? (i := 884) (by decide +kernel)) rfl, ga_in (List.mem_of_getElem? (i := 885) (by decide +kernel)) rfl⟩
theorem mX6_61 : Cond.methodLink RX6 61 yX6_orderOf ∈ ga_T := ga_in (List.mem_of_getElem? (i := 887) (by decide +kernel)) rfl
theorem yX6_orderOf_ok : ga_Ys yX6_orderOf cX6_orderOf 4 (some .int) 2 := ⟨⟨ga_in (List.mem_of_getElem? (i := 85) (by decide +kernel)) rfl, ga_in (List.mem_of_getElem? (i := 889) (by decide +kernel)) rfl, by decide +kernel, by decide⟩, ga_in (List.mem_of_getElem? (i := 888) (by decide +kernel)) rfl⟩
theorem mL_89 : Cond.methodLink RL 89 yX10_place ∈ ga_T := ga_in (List.mem_of_getElem? (i := 890) (by decide +kernel)) rfl
theorem yX10_place_ok : ga_Yv yX10_place cX10_place 2 (some .int) 1 := ⟨⟨ga_in (List.mem_of_getElem? (i := 75) (by decide +kernel)) rfl, ga_in (List.mem_of_getElem? (i := 893) (by decide +kernel)) rfl, by decide +kernel, by decide⟩, ga_in (List.mem_of_getElem? (i := 891) (by decide +kernel)) rfl, ga_in (List.mem_of_getElem? (i := 892) (by decide +kernel)) rfl⟩
theorem mX10_178 : Cond.methodLink RX10 178 yX1_placeOf ∈ ga_T := ga_in (List.mem_of_getElem? (i := 894) (by decide +kernel)) rfl
theorem yX1_placeOf_ok : ga_Yv yX1_placeOf cX1_placeOf 3 (some .int) 1 := ⟨⟨ga_in (List.mem_of_getElem? (i := 86) (by decide +kernel)) rfl, ga_in (List.mem_of_getElem? (i := 897) (by decide +kernel)) rfl, by decide +kernel, by decide⟩, ga_in (List.mem_of_getElem? (i := 895) (by decide +kernel)) rfl, ga_in (List.mem_of_getElem? (i := 896) (by decide +kernel)) rfl⟩
theorem mX1_95 : Cond.methodLink RX1 95 yX1_sheetAt ∈ ga_T := ga_in (List.mem_of_getElem? (i := 898) (by decide +kernel)) rfl
theorem mX1_102 : Cond.methodLink RX1 102 yX1_numberAhead ∈ ga_T := ga_in (List.mem_of_getElem? (i := 899) (by decide +kernel)) rfl
theorem yX1_numberAhead_ok : ga_Yv yX1_numberAhead cX1_numberAhead 4 (some .int) 1 := ⟨⟨ga_in (List.mem_of_getElem? (i := 86) (by decide +kernel)) rfl, ga_in (List.mem_of_getElem? (i := 902) (by decide +kernel)) rfl, by decide +kernel, by decide⟩, ga_in (List.mem_of_getElem? (i := 901) (by decide +kernel)) rfl, ga_in (List.mem_of_getElem? (i := 32) (by decide +kernel)) rfl⟩
theorem mX1_106 : Cond.methodLink RX1 106 yX6_compare ∈ ga_T := ga_in (List.mem_of_getElem? (i := 903) (by decide +kernel)) rfl
theorem mL_93 : Cond.methodLink RL 93 yX10_team ∈ ga_T := ga_in (List.mem_of_getElem? (i := 904) (by decide +kernel)) rfl
theorem yX10_team_ok : ga_Yv yX10_team cX10_team 2 (some .long) 1 := ⟨⟨ga_in (List.mem_of_getElem? (i := 75) (by decide +kernel)) rfl, ga_in (List.mem_of_getElem? (i := 907) (by decide +kernel)) rfl, by decide +kernel, by decide⟩, ga_in (List.mem_of_getElem? (i := 905) (by decide +kernel)) rfl, ga_in (List.mem_of_getElem? (i := 906) (by decide +kernel)) rfl⟩
theorem mX10_181 : Cond.methodLink RX10 181 yX5_sizeOfTeam ∈ ga_T := ga_in (List.mem_of_getElem? (i := 908) (by decide +kernel)) rfl
theorem kX10_184 : Cond.constantLong RX10 184 (-1) ∈ ga_T := ga_in (List.mem_of_getElem? (i := 909) (by decide +kernel)) rfl
theorem mX10_186 : Cond.methodLink RX10 186 yX1_teamSum ∈ ga_T := ga_in (List.mem_of_getElem? (i := 910) (by decide +kernel)) rfl
theorem yX1_teamSum_ok : ga_Yv yX1_teamSum cX1_teamSum 10 (some .long) 1 := ⟨⟨ga_in (List.mem_of_getElem? (i := 86) (by decide +kernel)) rfl, ga_in (List.mem_of_getElem? (i := 913) (by decide +kernel)) rfl, by decide +kernel, by decide⟩, ga_in (List.mem_of_getElem? (i := 911) (by decide +kernel)) rfl, ga_in (List.mem_of_getElem? (i := 912) (by decide +kernel)) rfl⟩
theorem mX1_113 : Cond.methodLink RX1 113 yX1_isPlacedFor ∈ ga_T := ga_in (List.mem_of_getElem? (i := 914) (by decide +kernel)) rfl
theorem yX1_isPlacedFor_ok : ga_Yv yX1_isPlacedFor cX1_isPlacedFor 3 (some .boolean) 2 := ⟨⟨ga_in (List.mem_of_getElem? (i := 86) (by decide +kernel)) rfl, ga_in (List.mem_of_getElem? (i := 917) (by decide +kernel)) rfl, by decide +kernel, by decide⟩, ga_in (List.mem_of_getElem? (i := 916) (by decide +kernel)) rfl, ga_in (List.mem_of_getElem? (i := 33) (by decide +kernel)) rfl⟩
theorem mX1_128 : Cond.methodLink RX1 128 yX5_teamOf ∈ ga_T := ga_in (List.mem_of_getElem? (i := 918) (by decide +kernel)) rfl
theorem yX5_teamOf_ok : ga_Yv yX5_teamOf cX5_teamOf 2 (some .int) 1 := ⟨⟨ga_in (List.mem_of_getElem? (i := 77) (by decide +kernel)) rfl, ga_in (List.mem_of_getElem? (i := 921) (by decide +kernel)) rfl, by decide +kernel, by decide⟩, ga_in (List.mem_of_getElem? (i := 919) (by decide +kernel)) rfl, ga_in (List.mem_of_getElem? (i := 920) (by decide +kernel)) rfl⟩
theorem mX5_30 : Cond.methodLink RX5 30 yX5_has ∈ ga_T := ga_in (List.mem_of_getElem? (i := 922) (by decide +kernel)) rfl
theorem mX1_121 : Cond.methodLink RX1 121 yJ9_max_f86c9 ∈ ga_T := ga_in (List.mem_of_getElem? (i := 923) (by decide +kernel)) rfl
theorem kX1_124 : Cond.constantLong RX1 124 (10000) ∈ ga_T := ga_in (List.mem_of_getElem? (i := 924) (by decide +kernel)) rfl
theorem mL_97 : Cond.methodLink RL 97 yX10_teamPlace ∈ ga_T := ga_in (List.mem_of_getElem? (i := 925) (by decide +kernel)) rfl
theorem yX10_teamPlace_ok : ga_Yv yX10_teamPlace cX10_teamPlace 2 (some .int) 1 := ⟨⟨ga_in (List.mem_of_getElem? (i := 75) (by decide +kernel)) rfl, ga_in (List.mem_of_getElem? (i := 928) (by decide +kernel)) rfl, by decide +kernel, by decide⟩, ga_in (List.mem_of_getElem? (i := 926) (by decide +kernel)) rfl, ga_in (List.mem_of_getElem? (i := 927) (by decide +kernel)) rfl⟩
theorem mX10_189 : Cond.methodLink RX10 189 yX1_placeOfTeam ∈ ga_T := ga_in (List.mem_of_getElem? (i := 929) (by decide +kernel)) rfl
theorem yX1_placeOfTeam_ok : ga_Yv yX1_placeOfTeam cX1_placeOfTeam 11 (some .int) 1 := ⟨⟨ga_in (List.mem_of_getElem? (i := 86) (by decide +kernel)) rfl, ga_in (List.mem_of_getElem? (i := 932) (by decide +kernel)) rfl, by decide +kernel, by decide⟩, ga_in (List.mem_of_getElem? (i := 930) (by decide +kernel)) rfl, ga_in (List.mem_of_getElem? (i := 931) (by decide +kernel)) rfl⟩
theorem mX1_131 : Cond.methodLink RX1 131 yX1_teamSum ∈ ga_T := ga_in (List.mem_of_getElem? (i := 933) (by decide +kernel)) rfl
theorem mX1_135 : Cond.methodLink RX1 135 yX1_leastOfTeam ∈ ga_T := ga_in (List.mem_of_getElem? (i := 934) (by decide +kernel)) rfl
theorem yX1_leastOfTeam_ok : ga_Yv yX1_leastOfTeam cX1_leastOfTeam 8 (some .long) 1 := ⟨⟨ga_in (List.mem_of_getElem? (i := 86) (by decide +kernel)) rfl, ga_in (List.mem_of_getElem? (i := 937) (by decide +kernel)) rfl, by decide +kernel, by decide⟩, ga_in (List.mem_of_getElem? (i := 936) (by decide +kernel)) rfl, ga_in (List.mem_of_getElem? (i := 34) (by decide +kernel)) rfl⟩
theorem mX1_126 : Cond.methodLink RX1 126 yJ9_min_f86c9 ∈ ga_T := ga_in (List.mem_of_getElem? (i := 938) (by decide +kernel)) rfl
theorem mX1_138 : Cond.methodLink RX1 138 yX5_sizeOfTeam ∈ ga_T := ga_in (List.mem_of_getElem? (i := 939) (by decide +kernel)) rfl
theorem mL_101 : Cond.methodLink RL 101 yX10_ring ∈ ga_T := ga_in (List.mem_of_getElem? (i := 940) (by decide +kernel)) rfl
theorem yX10_ring_ok : ga_Yv yX10_ring cX10_ring 2 (some .int) 1 := ⟨⟨ga_in (List.mem_of_getElem? (i := 75) (by decide +kernel)) rfl, ga_in (List.mem_of_getElem? (i := 943) (by decide +kernel)) rfl, by decide +kernel, by decide⟩, ga_in (List.mem_of_getElem? (i := 941) (by decide +kernel)) rfl, ga_in (List.mem_of_getElem? (i := 942) (by decide +kernel)) rfl⟩
theorem mX10_192 : Cond.methodLink RX10 192 yX1_inRing ∈ ga_T := ga_in (List.mem_of_getElem? (i := 944) (by decide +kernel)) rfl
theorem yX1_inRing_ok : ga_Yv yX1_inRing cX1_inRing 3 (some .int) 1 := ⟨⟨ga_in (List.mem_of_getElem? (i := 86) (by decide +kernel)) rfl, ga_in (List.mem_of_getElem? (i := 947) (by decide +kernel)) rfl, by decide +kernel, by decide⟩, ga_in (List.mem_of_getElem? (i := 945) (by decide +kernel)) rfl, ga_in (List.mem_of_getElem? (i := 946) (by decide +kernel)) rfl⟩
theorem mX1_110 : Cond.methodLink RX1 110 yX1_numberEarlier ∈ ga_T := ga_in (List.mem_of_getElem? (i := 948) (by decide +kernel)) rfl
theorem yX1_numberEarlier_ok : ga_Yv yX1_numberEarlier cX1_numberEarlier 5 (some .int) 1 := ⟨⟨ga_in (List.mem_of_getElem? (i := 86) (by decide +kernel)) rfl, ga_in (List.mem_of_getElem? (i := 951) (by decide +kernel)) rfl, by decide +kernel, by decide⟩, ga_in (List.mem_of_getElem? (i := 950) (by decide +kernel)) rfl, ga_in (List.mem_of_getElem? (i := 35) (by decide +kernel)) rfl⟩
theorem mL_105 : Cond.methodLink RL 105 yX10_since ∈ ga_T := ga_in (List.mem_of_getElem? (i := 952) (by decide +kernel)) rfl
theorem yX10_since_ok : ga_Yv yX10_since cX10_since 5 (some .int) 1 := ⟨⟨ga_in (List.mem_of_getElem? (i := 75) (by decide +kernel)) rfl, ga_in (List.mem_of_getElem? (i := 955) (by decide +kernel)) rfl, by decide +kernel, by decide⟩, ga_in (List.mem_of_getElem? (i := 953) (by decide +kernel)) rfl, ga_in (List.mem_of_getElem? (i := 954) (by decide +kernel)) rfl⟩
theorem mL_109 : Cond.methodLink RL 109 yX10_all ∈ ga_T := ga_in (List.mem_of_getElem? (i := 956) (by decide +kernel)) rfl
theorem yX10_all_ok : ga_Yv yX10_all cX10_all 2 (some .int) 1 := ⟨⟨ga_in (List.mem_of_getElem? (i := 75) (by decide +kernel)) rfl, ga_in (List.mem_of_getElem? (i := 959) (by decide +kernel)) rfl, by decide +kernel, by decide⟩, ga_in (List.mem_of_getElem? (i := 957) (by decide +kernel)) rfl, ga_in (List.mem_of_getElem? (i := 958) (by decide +kernel)) rfl⟩
theorem lL_10 : Cond.classLink RL 10 RX11 ∈ ga_T := ga_in (List.mem_of_getElem? (i := 960) (by decide +kernel)) rfl
theorem qX11 : Cond.instantiable RX11 44 ∈ ga_T := ga_in (List.mem_of_getElem? (i := 961) (by decide +kernel)) rfl
theorem mL_12 : Cond.methodLink RL 12 yX11_init ∈ ga_T := ga_in (List.mem_of_getElem? (i := 962) (by decide +kernel)) rfl
theorem yX11_init_ok : ga_Yi yX11_init cX11_init 1 0 := ⟨⟨ga_in (List.mem_of_getElem? (i := 89) (by decide +kernel)) rfl, ga_in (List.mem_of_getElem? (i := 964) (by decide +kernel)) rfl, by decide +kernel, by decide⟩, rfl, ga_in (List.mem_of_getElem? (i := 963) (by decide +kernel)) rfl⟩
theorem mX11_1 : Cond.methodLink RX11 1 Lib.objectInit ∈ ga_T := ga_in (List.mem_of_getElem? (i := 965) (by decide +kernel)) rfl
theorem fX11_7 : ga_F RX11 7 11 0 := ⟨_, rfl, by decide, ga_in (List.mem_of_getElem? (i := 966) (by decide +kernel)) rfl⟩
theorem pX11_7 : ga_FP RX11 7 11 0 (.array .int) true := ⟨_, rfl, by decide, ga_in (List.mem_of_getElem? (i := 966) (by decide +kernel)) rfl, rfl, by decide +kernel, fun h => by first | rfl | cases h⟩
theorem fX11_13 : ga_F RX11 13 11 1 := ⟨_, rfl, by decide, ga_in (List.mem_of_getElem? (i := 967) (by decide +kernel)) rfl⟩
theorem pX11_13 : ga_FP RX11 13 11 1 .int false := ⟨_, rfl, by decide, ga_in (List.mem_of_getElem? (i := 967) (by decide +kernel)) rfl, rfl, by decide +kernel, fun h => by first | rfl | cases h⟩
theorem fX11_17 : ga_F RX11 17 11 2 := ⟨_, rfl, by decide, ga_in (List.mem_of_getElem? (i := 968) (by decide +kernel)) rfl⟩
theorem pX11_17 : ga_FP RX11 17 11 2 .int false := ⟨_, rfl, by decide, ga_in (List.mem_of_getElem? (i := 968) (by decide +kernel)) rfl, rfl, by decide +kernel, fun h => by first | rfl | cases h⟩
theorem fX11_20 : ga_F RX11 20 11 3 := ⟨_, rfl, by decide, ga_in (List.mem_of_getElem? (i := 969) (by decide +kernel)) rfl⟩
theorem pX11_20 : ga_FP RX11 20 11 3 (.array .int) true := ⟨_, rfl, by decide, ga_in (List.mem_of_getElem? (i := 969) (by decide +kernel)) rfl, rfl, by decide +kernel, fun h => by first | rfl | cases h⟩
theorem fX11_23 : ga_F RX11 23 11 4 := ⟨_, rfl, by decide, ga_in (List.mem_of_getElem? (i := 970) (by decide +kernel)) rfl⟩
theorem pX11_23 : ga_FP RX11 23 11 4 .int false := ⟨_, rfl, by decide, ga_in (List.mem_of_getElem? (i := 970) (by decide +kernel)) rfl, rfl, by decide +kernel, fun h => by first | rfl | cases h⟩
theorem fX11_26 : ga_F RX11 26 11 5 := ⟨_, rfl, by decide, ga_in (List.mem_of_getElem? (i := 971) (by decide +kernel)) rfl⟩
theorem pX11_26 : ga_FP RX11 26 11 5 (.array .int) true := ⟨_, rfl, by decide, ga_in (List.mem_of_getElem? (i := 971) (by decide +kernel)) rfl, rfl, by decide +kernel, fun h => by first | rfl | cases h⟩
theorem fX11_29 : ga_F RX11 29 11 6 := ⟨_, rfl, by decide, ga_in (List.mem_of_getElem? (i := 972) (by decide +kernel)) rfl⟩
theorem pX11_29 : ga_FP RX11 29 11 6 (.array .int) true := ⟨_, rfl, by decide, ga_in (List.mem_of_getElem? (i := 972) (by decide +kernel)) rfl, rfl, by decide +kernel, fun h => by first | rfl | cases h⟩
theorem fX11_32 : ga_F RX11 32 11 7 := ⟨_, rfl, by decide, ga_in (List.mem_of_getElem? (i := 973) (by decide +kernel)) rfl⟩
theorem pX11_32 : ga_FP RX11 32 11 7 (.array .int) true := ⟨_, rfl, by decide, ga_in (List.mem_of_getElem? (i := 973) (by decide +kernel)) rfl, rfl, by decide +kernel, fun h => by first | rfl | cases h⟩
theorem fX11_35 : ga_F RX11 35 11 8 := ⟨_, rfl, by decide, ga_in (List.mem_of_getElem? (i := 974) (by decide +kernel)) rfl⟩
theorem pX11_35 : ga_FP RX11 35 11 8 .int false := ⟨_, rfl, by decide, ga_in (List.mem_of_getElem? (i := 974) (by decide +kernel)) rfl, rfl, by decide +kernel, fun h => by first | rfl | cases h⟩
theorem fX11_38 : ga_F RX11 38 11 9 := ⟨_, rfl, by decide, ga_in (List.mem_of_getElem? (i := 975) (by decide +kernel)) rfl⟩
theorem pX11_38 : ga_FP RX11 38 11 9 .int false := ⟨_, rfl, by decide, ga_in (List.mem_of_getElem? (i := 975) (by decide +kernel)) rfl, rfl, by decide +kernel, fun h => by first | rfl | cases h⟩
theorem fX11_41 : ga_F RX11 41 11 10 := ⟨_, rfl, by decide, ga_in (List.mem_of_getElem? (i := 976) (by decide +kernel)) rfl⟩
theorem pX11_41 : ga_FP RX11 41 11 10 .int false := ⟨_, rfl, by decide, ga_in (List.mem_of_getElem? (i := 976) (by decide +kernel)) rfl, rfl, by decide +kernel, fun h => by first | rfl | cases h⟩
theorem fX11_44 : ga_F RX11 44 11 11 := ⟨_, rfl, by decide, ga_in (List.mem_of_getElem? (i := 977) (by decide +kernel)) rfl⟩
theorem pX11_44 : ga_FP RX11 44 11 11 (.array .int) true := ⟨_, rfl, by decide, ga_in (List.mem_of_getElem? (i := 977) (by decide +kernel)) rfl, rfl, by decide +kernel, fun h => by first | rfl | cases h⟩
theorem fX11_47 : ga_F RX11 47 11 12 := ⟨_, rfl, by decide, ga_in (List.mem_of_getElem? (i := 978) (by decide +kernel)) rfl⟩
theorem pX11_47 : ga_FP RX11 47 11 12 (.array .int) true := ⟨_, rfl, by decide, ga_in (List.mem_of_getElem? (i := 978) (by decide +kernel)) rfl, rfl, by decide +kernel, fun h => by first | rfl | cases h⟩
theorem fX11_50 : ga_F RX11 50 11 13 := ⟨_, rfl, by decide, ga_in (List.mem_of_getElem? (i := 979) (by decide +kernel)) rfl⟩
theorem pX11_50 : ga_FP RX11 50 11 13 (.array .int) true := ⟨_, rfl, by decide, ga_in (List.mem_of_getElem? (i := 979) (by decide +kernel)) rfl, rfl, by decide +kernel, fun h => by first | rfl | cases h⟩
theorem fX11_53 : ga_F RX11 53 11 14 := ⟨_, rfl, by decide, ga_in (List.mem_of_getElem? (i := 980) (by decide +kernel)) rfl⟩
theorem pX11_53 : ga_FP RX11 53 11 14 (.array .int) true := ⟨_, rfl, by decide, ga_in (List.mem_of_getElem? (i := 980) (by decide +kernel)) rfl, rfl, by decide +kernel, fun h => by first | rfl | cases h⟩
theorem fX11_56 : ga_F RX11 56 11 15 := ⟨_, rfl, by decide, ga_in (List.mem_of_getElem? (i := 981) (by decide +kernel)) rfl⟩
theorem pX11_56 : ga_FP RX11 56 11 15 (.array .int) true := ⟨_, rfl, by decide, ga_in (List.mem_of_getElem? (i := 981) (by decide +kernel)) rfl, rfl, by decide +kernel, fun h => by first | rfl | cases h⟩
theorem fX11_59 : ga_F RX11 59 11 16 := ⟨_, rfl, by decide, ga_in (List.mem_of_getElem? (i := 982) (by decide +kernel)) rfl⟩
theorem pX11_59 : ga_FP RX11 59 11 16 (.array .int) true := ⟨_, rfl, by decide, ga_in (List.mem_of_getElem? (i := 982) (by decide +kernel)) rfl, rfl, by decide +kernel, fun h => by first | rfl | cases h⟩
theorem fX11_62 : ga_F RX11 62 11 17 := ⟨_, rfl, by decide, ga_in (List.mem_of_getElem? (i := 983) (by decide +kernel)) rfl⟩
theorem pX11_62 : ga_FP RX11 62 11 17 .int false := ⟨_, rfl, by decide, ga_in (List.mem_of_getElem? (i := 983) (by decide +kernel)) rfl, rfl, by decide +kernel, fun h => by first | rfl | cases h⟩
theorem fX11_65 : ga_F RX11 65 11 18 := ⟨_, rfl, by decide, ga_in (List.mem_of_getElem? (i := 984) (by decide +kernel)) rfl⟩
theorem pX11_65 : ga_FP RX11 65 11 18 (.array .int) true := ⟨_, rfl, by decide, ga_in (List.mem_of_getElem? (i := 984) (by decide +kernel)) rfl, rfl, by decide +kernel, fun h => by first | rfl | cases h⟩
theorem fX11_68 : ga_F RX11 68 11 19 := ⟨_, rfl, by decide, ga_in (List.mem_of_getElem? (i := 985) (by decide +kernel)) rfl⟩
theorem pX11_68 : ga_FP RX11 68 11 19 (.array .int) true := ⟨_, rfl, by decide, ga_in (List.mem_of_getElem? (i := 985) (by decide +kernel)) rfl, rfl, by decide +kernel, fun h => by first | rfl | cases h⟩
theorem fX11_71 : ga_F RX11 71 11 20 := ⟨_, rfl, by decide, ga_in (List.mem_of_getElem? (i := 986) (by decide +kernel)) rfl⟩
theorem pX11_71 : ga_FP RX11 71 11 20 .int false := ⟨_, rfl, by decide, ga_in (List.mem_of_getElem? (i := 986) (by decide +kernel)) rfl, rfl, by decide +kernel, fun h => by first | rfl | cases h⟩
theorem fX11_74 : ga_F RX11 74 11 21 := ⟨_, rfl, by decide, ga_in (List.mem_of_getElem? (i := 987) (by decide +kernel)) rfl⟩
theorem pX11_74 : ga_FP RX11 74 11 21 (.array .int) true := ⟨_, rfl, by decide, ga_in (List.mem_of_getElem? (i := 987) (by decide +kernel)) rfl, rfl, by decide +kernel, fun h => by first | rfl | cases h⟩
theorem fX11_77 : ga_F RX11 77 11 22 := ⟨_, rfl, by decide, ga_in (List.mem_of_getElem? (i := 988) (by decide +kernel)) rfl⟩
theorem pX11_77 : ga_FP RX11 77 11 22 (.array .int) true := ⟨_, rfl, by decide, ga_in (List.mem_of_getElem? (i := 988) (by decide +kernel)) rfl, rfl, by decide +kernel, fun h => by first | rfl | cases h⟩
theorem fX11_80 : ga_F RX11 80 11 23 := ⟨_, rfl, by decide, ga_in (List.mem_of_getElem? (i := 989) (by decide +kernel)) rfl⟩
theorem pX11_80 : ga_FP RX11 80 11 23 (.array .int) true := ⟨_, rfl, by decide, ga_in (List.mem_of_getElem? (i := 989) (by decide +kernel)) rfl, rfl, by decide +kernel, fun h => by first | rfl | cases h⟩
theorem fX11_83 : ga_F RX11 83 11 24 := ⟨_, rfl, by decide, ga_in (List.mem_of_getElem? (i := 990) (by decide +kernel)) rfl⟩
theorem pX11_83 : ga_FP RX11 83 11 24 .int false := ⟨_, rfl, by decide, ga_in (List.mem_of_getElem? (i := 990) (by decide +kernel)) rfl, rfl, by decide +kernel, fun h => by first | rfl | cases h⟩
theorem fX11_86 : ga_F RX11 86 11 25 := ⟨_, rfl, by decide, ga_in (List.mem_of_getElem? (i := 991) (by decide +kernel)) rfl⟩
theorem pX11_86 : ga_FP RX11 86 11 25 .int false := ⟨_, rfl, by decide, ga_in (List.mem_of_getElem? (i := 991) (by decide +kernel)) rfl, rfl, by decide +kernel, fun h => by first | rfl | cases h⟩
theorem fX11_89 : ga_F RX11 89 11 26 := ⟨_, rfl, by decide, ga_in (List.mem_of_getElem? (i := 992) (by decide +kernel)) rfl⟩
theorem pX11_89 : ga_FP RX11 89 11 26 .int false := ⟨_, rfl, by decide, ga_in (List.mem_of_getElem? (i := 992) (by decide +kernel)) rfl, rfl, by decide +kernel, fun h => by first | rfl | cases h⟩
theorem fX11_92 : ga_F RX11 92 11 27 := ⟨_, rfl, by decide, ga_in (List.mem_of_getElem? (i := 993) (by decide +kernel)) rfl⟩
theorem pX11_92 : ga_FP RX11 92 11 27 .int false := ⟨_, rfl, by decide, ga_in (List.mem_of_getElem? (i := 993) (by decide +kernel)) rfl, rfl, by decide +kernel, fun h => by first | rfl | cases h⟩
theorem fX11_95 : ga_F RX11 95 11 28 := ⟨_, rfl, by decide, ga_in (List.mem_of_getElem? (i := 994) (by decide +kernel)) rfl⟩
theorem pX11_95 : ga_FP RX11 95 11 28 .int false := ⟨_, rfl, by decide, ga_in (List.mem_of_getElem? (i := 994) (by decide +kernel)) rfl, rfl, by decide +kernel, fun h => by first | rfl | cases h⟩
theorem fX11_98 : ga_F RX11 98 11 29 := ⟨_, rfl, by decide, ga_in (List.mem_of_getElem? (i := 995) (by decide +kernel)) rfl⟩
theorem pX11_98 : ga_FP RX11 98 11 29 .int false := ⟨_, rfl, by decide, ga_in (List.mem_of_getElem? (i := 995) (by decide +kernel)) rfl, rfl, by decide +kernel, fun h => by first | rfl | cases h⟩
theorem fX11_101 : ga_F RX11 101 11 30 := ⟨_, rfl, by decide, ga_in (List.mem_of_getElem? (i := 996) (by decide +kernel)) rfl⟩
theorem pX11_101 : ga_FP RX11 101 11 30 .int false := ⟨_, rfl, by decide, ga_in (List.mem_of_getElem? (i := 996) (by decide +kernel)) rfl, rfl, by decide +kernel, fun h => by first | rfl | cases h⟩
theorem fX11_104 : ga_F RX11 104 11 31 := ⟨_, rfl, by decide, ga_in (List.mem_of_getElem? (i := 997) (by decide +kernel)) rfl⟩
theorem pX11_104 : ga_FP RX11 104 11 31 .int false := ⟨_, rfl, by decide, ga_in (List.mem_of_getElem? (i := 997) (by decide +kernel)) rfl, rfl, by decide +kernel, fun h => by first | rfl | cases h⟩
theorem fX11_107 : ga_F RX11 107 11 32 := ⟨_, rfl, by decide, ga_in (List.mem_of_getElem? (i := 998) (by decide +kernel)) rfl⟩
theorem pX11_107 : ga_FP RX11 107 11 32 (.array .int) true := ⟨_, rfl, by decide, ga_in (List.mem_of_getElem? (i := 998) (by decide +kernel)) rfl, rfl, by decide +kernel, fun h => by first | rfl | cases h⟩
theorem fX11_110 : ga_F RX11 110 11 33 := ⟨_, rfl, by decide, ga_in (List.mem_of_getElem? (i := 999) (by decide +kernel)) rfl⟩
theorem pX11_110 : ga_FP RX11 110 11 33 (.array .int) true := ⟨_, rfl, by decide, ga_in (List.mem_of_getElem? (i := 999) (by decide +kernel)) rfl, rfl, by decide +kernel, fun h => by first | rfl | cases h⟩
theorem fX11_113 : ga_F RX11 113 11 34 := ⟨_, rfl, by decide, ga_in (List.mem_of_getElem? (i := 1000) (by decide +kernel)) rfl⟩
theorem pX11_113 : ga_FP RX11 113 11 34 (.array .int) true := ⟨_, rfl, by decide, ga_in (List.mem_of_getElem? (i := 1000) (by decide +kernel)) rfl, rfl, by decide +kernel, fun h => by first | rfl | cases h⟩
theorem fX11_116 : ga_F RX11 116 11 35 := ⟨_, rfl, by decide, ga_in (List.mem_of_getElem? (i := 1001) (by decide +kernel)) rfl⟩
theorem pX11_116 : ga_FP RX11 116 11 35 (.array .int) true := ⟨_, rfl, by decide, ga_in (List.mem_of_getElem? (i := 1001) (by decide +kernel)) rfl, rfl, by decide +kernel, fun h => by first | rfl | cases h⟩
theorem fX11_119 : ga_F RX11 119 11 36 := ⟨_, rfl, by decide, ga_in (List.mem_of_getElem? (i := 1002) (by decide +kernel)) rfl⟩
theorem pX11_119 : ga_FP RX11 119 11 36 (.array .int) true := ⟨_, rfl, by decide, ga_in (List.mem_of_getElem? (i := 1002) (by decide +kernel)) rfl, rfl, by decide +kernel, fun h => by first | rfl | cases h⟩
theorem fX11_122 : ga_F RX11 122 11 37 := ⟨_, rfl, by decide, ga_in (List.mem_of_getElem? (i := 1003) (by decide +kernel)) rfl⟩
theorem pX11_122 : ga_FP RX11 122 11 37 (.array .int) true := ⟨_, rfl, by decide, ga_in (List.mem_of_getElem? (i := 1003) (by decide +kernel)) rfl, rfl, by decide +kernel, fun h => by first | rfl | cases h⟩
theorem fX11_125 : ga_F RX11 125 11 38 := ⟨_, rfl, by decide, ga_in (List.mem_of_getElem? (i := 1004) (by decide +kernel)) rfl⟩
theorem pX11_125 : ga_FP RX11 125 11 38 (.array .boolean) true := ⟨_, rfl, by decide, ga_in (List.mem_of_getElem? (i := 1004) (by decide +kernel)) rfl, rfl, by decide +kernel, fun h => by first | rfl | cases h⟩
theorem fX11_129 : ga_F RX11 129 11 39 := ⟨_, rfl, by decide, ga_in (List.mem_of_getElem? (i := 1005) (by decide +kernel)) rfl⟩
theorem pX11_129 : ga_FP RX11 129 11 39 .int false := ⟨_, rfl, by decide, ga_in (List.mem_of_getElem? (i := 1005) (by decide +kernel)) rfl, rfl, by decide +kernel, fun h => by first | rfl | cases h⟩
theorem fX11_132 : ga_F RX11 132 11 40 := ⟨_, rfl, by decide, ga_in (List.mem_of_getElem? (i := 1006) (by decide +kernel)) rfl⟩
theorem pX11_132 : ga_FP RX11 132 11 40 .int false := ⟨_, rfl, by decide, ga_in (List.mem_of_getElem? (i := 1006) (by decide +kernel)) rfl, rfl, by decide +kernel, fun h => by first | rfl | cases h⟩
theorem fX11_135 : ga_F RX11 135 11 41 := ⟨_, rfl, by decide, ga_in (List.mem_of_getElem? (i := 1007) (by decide +kernel)) rfl⟩
theorem pX11_135 : ga_FP RX11 135 11 41 (.array .long) true := ⟨_, rfl, by decide, ga_in (List.mem_of_getElem? (i := 1007) (by decide +kernel)) rfl, rfl, by decide +kernel, fun h => by first | rfl | cases h⟩
theorem fX11_139 : ga_F RX11 139 11 42 := ⟨_, rfl, by decide, ga_in (List.mem_of_getElem? (i := 1008) (by decide +kernel)) rfl⟩
theorem pX11_139 : ga_FP RX11 139 11 42 (.array .long) true := ⟨_, rfl, by decide, ga_in (List.mem_of_getElem? (i := 1008) (by decide +kernel)) rfl, rfl, by decide +kernel, fun h => by first | rfl | cases h⟩
theorem fX11_142 : ga_F RX11 142 11 43 := ⟨_, rfl, by decide, ga_in (List.mem_of_getElem? (i := 1009) (by decide +kernel)) rfl⟩
theorem pX11_142 : ga_FP RX11 142 11 43 (.array .boolean) true := ⟨_, rfl, by decide, ga_in (List.mem_of_getElem? (i := 1009) (by decide +kernel)) rfl, rfl, by decide +kernel, fun h => by first | rfl | cases h⟩
theorem ar_boolean : Cond.arrayClass .boolean ∈ ga_T := ga_in (List.mem_of_getElem? (i := 1099) (by decide +kernel)) rfl
theorem mL_17 : Cond.methodLink RL 17 yX11_feed ∈ ga_T := ga_in (List.mem_of_getElem? (i := 1100) (by decide +kernel)) rfl
theorem yX11_feed_ok : ga_Yv yX11_feed cX11_feed 6 (some .int) 5 := ⟨⟨ga_in (List.mem_of_getElem? (i := 89) (by decide +kernel)) rfl, ga_in (List.mem_of_getElem? (i := 1103) (by decide +kernel)) rfl, by decide +kernel, by decide⟩, ga_in (List.mem_of_getElem? (i := 1101) (by decide +kernel)) rfl, ga_in (List.mem_of_getElem? (i := 1102) (by decide +kernel)) rfl⟩
theorem mX11_145 : Cond.methodLink RX11 145 yX11_put ∈ ga_T := ga_in (List.mem_of_getElem? (i := 1104) (by decide +kernel)) rfl
theorem yX11_put_ok : ga_Yv yX11_put cX11_put 3 none 1 := ⟨⟨ga_in (List.mem_of_getElem? (i := 89) (by decide +kernel)) rfl, ga_in (List.mem_of_getElem? (i := 1107) (by decide +kernel)) rfl, by decide +kernel, by decide⟩, ga_in (List.mem_of_getElem? (i := 1106) (by decide +kernel)) rfl, ga_in (List.mem_of_getElem? (i := 36) (by decide +kernel)) rfl⟩
theorem mL_22 : Cond.methodLink RL 22 yX11_end ∈ ga_T := ga_in (List.mem_of_getElem? (i := 1108) (by decide +kernel)) rfl
theorem yX11_end_ok : ga_Yv yX11_end cX11_end 2 (some .boolean) 1 := ⟨⟨ga_in (List.mem_of_getElem? (i := 89) (by decide +kernel)) rfl, ga_in (List.mem_of_getElem? (i := 1111) (by decide +kernel)) rfl, by decide +kernel, by decide⟩, ga_in (List.mem_of_getElem? (i := 1109) (by decide +kernel)) rfl, ga_in (List.mem_of_getElem? (i := 1110) (by decide +kernel)) rfl⟩
theorem mL_27 : Cond.methodLink RL 27 yX11_rider ∈ ga_T := ga_in (List.mem_of_getElem? (i := 1112) (by decide +kernel)) rfl
theorem yX11_rider_ok : ga_Yv yX11_rider cX11_rider 4 (some .int) 1 := ⟨⟨ga_in (List.mem_of_getElem? (i := 89) (by decide +kernel)) rfl, ga_in (List.mem_of_getElem? (i := 1115) (by decide +kernel)) rfl, by decide +kernel, by decide⟩, ga_in (List.mem_of_getElem? (i := 1113) (by decide +kernel)) rfl, ga_in (List.mem_of_getElem? (i := 1114) (by decide +kernel)) rfl⟩
theorem mX11_149 : Cond.methodLink RX11 149 yX11_is ∈ ga_T := ga_in (List.mem_of_getElem? (i := 1116) (by decide +kernel)) rfl
theorem yX11_is_ok : ga_Ys yX11_is cX11_is 3 (some .boolean) 3 := ⟨⟨ga_in (List.mem_of_getElem? (i := 89) (by decide +kernel)) rfl, ga_in (List.mem_of_getElem? (i := 1118) (by decide +kernel)) rfl, by decide +kernel, by decide⟩, ga_in (List.mem_of_getElem? (i := 1117) (by decide +kernel)) rfl⟩
theorem mL_31 : Cond.methodLink RL 31 yX11_fence ∈ ga_T := ga_in (List.mem_of_getElem? (i := 1119) (by decide +kernel)) rfl
theorem yX11_fence_ok : ga_Yv yX11_fence cX11_fence 2 (some .int) 1 := ⟨⟨ga_in (List.mem_of_getElem? (i := 89) (by decide +kernel)) rfl, ga_in (List.mem_of_getElem? (i := 1122) (by decide +kernel)) rfl, by decide +kernel, by decide⟩, ga_in (List.mem_of_getElem? (i := 1120) (by decide +kernel)) rfl, ga_in (List.mem_of_getElem? (i := 1121) (by decide +kernel)) rfl⟩
theorem mL_36 : Cond.methodLink RL 36 yX11_course ∈ ga_T := ga_in (List.mem_of_getElem? (i := 1123) (by decide +kernel)) rfl
theorem yX11_course_ok : ga_Yv yX11_course cX11_course 3 (some .int) 2 := ⟨⟨ga_in (List.mem_of_getElem? (i := 89) (by decide +kernel)) rfl, ga_in (List.mem_of_getElem? (i := 1126) (by decide +kernel)) rfl, by decide +kernel, by decide⟩, ga_in (List.mem_of_getElem? (i := 1124) (by decide +kernel)) rfl, ga_in (List.mem_of_getElem? (i := 1125) (by decide +kernel)) rfl⟩
theorem mX11_153 : Cond.methodLink RX11 153 yX11_optimum ∈ ga_T := ga_in (List.mem_of_getElem? (i := 1127) (by decide +kernel)) rfl
theorem yX11_optimum_ok : ga_Yv yX11_optimum cX11_optimum 3 (some .int) 0 := ⟨⟨ga_in (List.mem_of_getElem? (i := 89) (by decide +kernel)) rfl, ga_in (List.mem_of_getElem? (i := 1130) (by decide +kernel)) rfl, by decide +kernel, by decide⟩, ga_in (List.mem_of_getElem? (i := 1129) (by decide +kernel)) rfl, ga_in (List.mem_of_getElem? (i := 37) (by decide +kernel)) rfl⟩
theorem mL_41 : Cond.methodLink RL 41 yX11_clock ∈ ga_T := ga_in (List.mem_of_getElem? (i := 1131) (by decide +kernel)) rfl
theorem yX11_clock_ok : ga_Yv yX11_clock cX11_clock 3 (some .boolean) 2 := ⟨⟨ga_in (List.mem_of_getElem? (i := 89) (by decide +kernel)) rfl, ga_in (List.mem_of_getElem? (i := 1134) (by decide +kernel)) rfl, by decide +kernel, by decide⟩, ga_in (List.mem_of_getElem? (i := 1132) (by decide +kernel)) rfl, ga_in (List.mem_of_getElem? (i := 1133) (by decide +kernel)) rfl⟩
theorem mL_45 : Cond.methodLink RL 45 yX11_out ∈ ga_T := ga_in (List.mem_of_getElem? (i := 1135) (by decide +kernel)) rfl
theorem yX11_out_ok : ga_Yv yX11_out cX11_out 3 (some .boolean) 2 := ⟨⟨ga_in (List.mem_of_getElem? (i := 89) (by decide +kernel)) rfl, ga_in (List.mem_of_getElem? (i := 1138) (by decide +kernel)) rfl, by decide +kernel, by decide⟩, ga_in (List.mem_of_getElem? (i := 1136) (by decide +kernel)) rfl, ga_in (List.mem_of_getElem? (i := 1137) (by decide +kernel)) rfl⟩
theorem kX11_157 : Cond.constant RX11 157 (86399) ∈ ga_T := ga_in (List.mem_of_getElem? (i := 1139) (by decide +kernel)) rfl
theorem mL_49 : Cond.methodLink RL 49 yX11_report ∈ ga_T := ga_in (List.mem_of_getElem? (i := 1140) (by decide +kernel)) rfl
theorem yX11_report_ok : ga_Yv yX11_report cX11_report 6 (some .int) 5 := ⟨⟨ga_in (List.mem_of_getElem? (i := 89) (by decide +kernel)) rfl, ga_in (List.mem_of_getElem? (i := 1143) (by decide +kernel)) rfl, by decide +kernel, by decide⟩, ga_in (List.mem_of_getElem? (i := 1141) (by decide +kernel)) rfl, ga_in (List.mem_of_getElem? (i := 1142) (by decide +kernel)) rfl⟩
theorem mX11_163 : Cond.methodLink RX11 163 yX11_may ∈ ga_T := ga_in (List.mem_of_getElem? (i := 1144) (by decide +kernel)) rfl
theorem yX11_may_ok : ga_Yv yX11_may cX11_may 6 (some .boolean) 4 := ⟨⟨ga_in (List.mem_of_getElem? (i := 89) (by decide +kernel)) rfl, ga_in (List.mem_of_getElem? (i := 1147) (by decide +kernel)) rfl, by decide +kernel, by decide⟩, ga_in (List.mem_of_getElem? (i := 1146) (by decide +kernel)) rfl, ga_in (List.mem_of_getElem? (i := 38) (by decide +kernel)) rfl⟩
theorem mX11_159 : Cond.methodLink RX11 159 yX11_isSecond ∈ ga_T := ga_in (List.mem_of_getElem? (i := 1148) (by decide +kernel)) rfl
theorem yX11_isSecond_ok : ga_Ys yX11_isSecond cX11_isSecond 1 (some .boolean) 1 := ⟨⟨ga_in (List.mem_of_getElem? (i := 89) (by decide +kernel)) rfl, ga_in (List.mem_of_getElem? (i := 1150) (by decide +kernel)) rfl, by decide +kernel, by decide⟩, ga_in (List.mem_of_getElem? (i := 1149) (by decide +kernel)) rfl⟩
theorem kX11_158 : Cond.constant RX11 158 (86400) ∈ ga_T := ga_in (List.mem_of_getElem? (i := 1151) (by decide +kernel)) rfl
theorem mL_53 : Cond.methodLink RL 53 yX11_strike ∈ ga_T := ga_in (List.mem_of_getElem? (i := 1152) (by decide +kernel)) rfl
theorem yX11_strike_ok : ga_Yv yX11_strike cX11_strike 2 (some .int) 1 := ⟨⟨ga_in (List.mem_of_getElem? (i := 89) (by decide +kernel)) rfl, ga_in (List.mem_of_getElem? (i := 1155) (by decide +kernel)) rfl, by decide +kernel, by decide⟩, ga_in (List.mem_of_getElem? (i := 1153) (by decide +kernel)) rfl, ga_in (List.mem_of_getElem? (i := 1154) (by decide +kernel)) rfl⟩
theorem mL_57 : Cond.methodLink RL 57 yX11_as ∈ ga_T := ga_in (List.mem_of_getElem? (i := 1156) (by decide +kernel)) rfl
theorem yX11_as_ok : ga_Yv yX11_as cX11_as 2 (some .boolean) 1 := ⟨⟨ga_in (List.mem_of_getElem? (i := 89) (by decide +kernel)) rfl, ga_in (List.mem_of_getElem? (i := 1159) (by decide +kernel)) rfl, by decide +kernel, by decide⟩, ga_in (List.mem_of_getElem? (i := 1157) (by decide +kernel)) rfl, ga_in (List.mem_of_getElem? (i := 1158) (by decide +kernel)) rfl⟩
theorem mL_70 : Cond.methodLink RL 70 yX11_count ∈ ga_T := ga_in (List.mem_of_getElem? (i := 1160) (by decide +kernel)) rfl
theorem yX11_count_ok : ga_Yv yX11_count cX11_count 3 (some .int) 2 := ⟨⟨ga_in (List.mem_of_getElem? (i := 89) (by decide +kernel)) rfl, ga_in (List.mem_of_getElem? (i := 1163) (by decide +kernel)) rfl, by decide +kernel, by decide⟩, ga_in (List.mem_of_getElem? (i := 1161) (by decide +kernel)) rfl, ga_in (List.mem_of_getElem? (i := 1162) (by decide +kernel)) rfl⟩
theorem mX11_175 : Cond.methodLink RX11 175 yX11_isRider ∈ ga_T := ga_in (List.mem_of_getElem? (i := 1164) (by decide +kernel)) rfl
theorem yX11_isRider_ok : ga_Yv yX11_isRider cX11_isRider 2 (some .boolean) 1 := ⟨⟨ga_in (List.mem_of_getElem? (i := 89) (by decide +kernel)) rfl, ga_in (List.mem_of_getElem? (i := 1167) (by decide +kernel)) rfl, by decide +kernel, by decide⟩, ga_in (List.mem_of_getElem? (i := 1166) (by decide +kernel)) rfl, ga_in (List.mem_of_getElem? (i := 39) (by decide +kernel)) rfl⟩
theorem kX11_178 : Cond.constant RX11 178 (-2000000) ∈ ga_T := ga_in (List.mem_of_getElem? (i := 1168) (by decide +kernel)) rfl
theorem mX11_179 : Cond.methodLink RX11 179 yX11_known ∈ ga_T := ga_in (List.mem_of_getElem? (i := 1169) (by decide +kernel)) rfl
theorem yX11_known_ok : ga_Yv yX11_known cX11_known 1 (some .int) 0 := ⟨⟨ga_in (List.mem_of_getElem? (i := 89) (by decide +kernel)) rfl, ga_in (List.mem_of_getElem? (i := 1172) (by decide +kernel)) rfl, by decide +kernel, by decide⟩, ga_in (List.mem_of_getElem? (i := 1171) (by decide +kernel)) rfl, ga_in (List.mem_of_getElem? (i := 40) (by decide +kernel)) rfl⟩
theorem mX11_182 : Cond.methodLink RX11 182 yX11_tallies ∈ ga_T := ga_in (List.mem_of_getElem? (i := 1173) (by decide +kernel)) rfl
theorem yX11_tallies_ok : ga_Yv yX11_tallies cX11_tallies 6 none 2 := ⟨⟨ga_in (List.mem_of_getElem? (i := 89) (by decide +kernel)) rfl, ga_in (List.mem_of_getElem? (i := 1176) (by decide +kernel)) rfl, by decide +kernel, by decide⟩, ga_in (List.mem_of_getElem? (i := 1175) (by decide +kernel)) rfl, ga_in (List.mem_of_getElem? (i := 41) (by decide +kernel)) rfl⟩
theorem kX11_167 : Cond.constant RX11 167 (-1000000) ∈ ga_T := ga_in (List.mem_of_getElem? (i := 1177) (by decide +kernel)) rfl
theorem mX11_168 : Cond.methodLink RX11 168 yX11_stands ∈ ga_T := ga_in (List.mem_of_getElem? (i := 1178) (by decide +kernel)) rfl
theorem yX11_stands_ok : ga_Yv yX11_stands cX11_stands 4 (some .boolean) 3 := ⟨⟨ga_in (List.mem_of_getElem? (i := 89) (by decide +kernel)) rfl, ga_in (List.mem_of_getElem? (i := 1181) (by decide +kernel)) rfl, by decide +kernel, by decide⟩, ga_in (List.mem_of_getElem? (i := 1180) (by decide +kernel)) rfl, ga_in (List.mem_of_getElem? (i := 42) (by decide +kernel)) rfl⟩
theorem mX11_171 : Cond.methodLink RX11 171 yX11_fence_ ∈ ga_T := ga_in (List.mem_of_getElem? (i := 1182) (by decide +kernel)) rfl
theorem yX11_fence__ok : ga_Yv yX11_fence_ cX11_fence_ 6 none 5 := ⟨⟨ga_in (List.mem_of_getElem? (i := 89) (by decide +kernel)) rfl, ga_in (List.mem_of_getElem? (i := 1185) (by decide +kernel)) rfl, by decide +kernel, by decide⟩, ga_in (List.mem_of_getElem? (i := 1184) (by decide +kernel)) rfl, ga_in (List.mem_of_getElem? (i := 43) (by decide +kernel)) rfl⟩
theorem mL_62 : Cond.methodLink RL 62 yX11_rules ∈ ga_T := ga_in (List.mem_of_getElem? (i := 1186) (by decide +kernel)) rfl
theorem yX11_rules_ok : ga_Yv yX11_rules cX11_rules 2 (some .int) 0 := ⟨⟨ga_in (List.mem_of_getElem? (i := 89) (by decide +kernel)) rfl, ga_in (List.mem_of_getElem? (i := 1189) (by decide +kernel)) rfl, by decide +kernel, by decide⟩, ga_in (List.mem_of_getElem? (i := 1187) (by decide +kernel)) rfl, ga_in (List.mem_of_getElem? (i := 1188) (by decide +kernel)) rfl⟩
theorem mX11_186 : Cond.methodLink RX11 186 yX11_here ∈ ga_T := ga_in (List.mem_of_getElem? (i := 1190) (by decide +kernel)) rfl
theorem yX11_here_ok : ga_Yv yX11_here cX11_here 1 (some .int) 0 := ⟨⟨ga_in (List.mem_of_getElem? (i := 89) (by decide +kernel)) rfl, ga_in (List.mem_of_getElem? (i := 1193) (by decide +kernel)) rfl, by decide +kernel, by decide⟩, ga_in (List.mem_of_getElem? (i := 1192) (by decide +kernel)) rfl, ga_in (List.mem_of_getElem? (i := 44) (by decide +kernel)) rfl⟩
theorem mX11_300 : Cond.methodLink RX11 300 yX11_statement ∈ ga_T := ga_in (List.mem_of_getElem? (i := 1194) (by decide +kernel)) rfl
theorem yX11_statement_ok : ga_Yv yX11_statement cX11_statement 5 none 0 := ⟨⟨ga_in (List.mem_of_getElem? (i := 89) (by decide +kernel)) rfl, ga_in (List.mem_of_getElem? (i := 1197) (by decide +kernel)) rfl, by decide +kernel, by decide⟩, ga_in (List.mem_of_getElem? (i := 1196) (by decide +kernel)) rfl, ga_in (List.mem_of_getElem? (i := 45) (by decide +kernel)) rfl⟩
theorem mX11_253 : Cond.methodLink RX11 253 yX11_wordSize ∈ ga_T := ga_in (List.mem_of_getElem? (i := 1198) (by decide +kernel)) rfl
theorem yX11_wordSize_ok : ga_Yv yX11_wordSize cX11_wordSize 2 (some .int) 0 := ⟨⟨ga_in (List.mem_of_getElem? (i := 89) (by decide +kernel)) rfl, ga_in (List.mem_of_getElem? (i := 1201) (by decide +kernel)) rfl, by decide +kernel, by decide⟩, ga_in (List.mem_of_getElem? (i := 1200) (by decide +kernel)) rfl, ga_in (List.mem_of_getElem? (i := 46) (by decide +kernel)) rfl⟩
theorem mX11_192 : Cond.methodLink RX11 192 yX11_isLetter ∈ ga_T := ga_in (List.mem_of_getElem? (i := 1202) (by decide +kernel)) rfl
theorem yX11_isLetter_ok : ga_Ys yX11_isLetter cX11_isLetter 1 (some .boolean) 1 := ⟨⟨ga_in (List.mem_of_getElem? (i := 89) (by decide +kernel)) rfl, ga_in (List.mem_of_getElem? (i := 1204) (by decide +kernel)) rfl, by decide +kernel, by decide⟩, ga_in (List.mem_of_getElem? (i := 1203) (by decide +kernel)) rfl⟩
theorem mX11_189 : Cond.methodLink RX11 189 yX11_blame ∈ ga_T := ga_in (List.mem_of_getElem? (i := 1205) (by decide +kernel)) rfl
theorem yX11_blame_ok : ga_Yv yX11_blame cX11_blame 3 none 2 := ⟨⟨ga_in (List.mem_of_getElem? (i := 89) (by decide +kernel)) rfl, ga_in (List.mem_of_getElem? (i := 1208) (by decide +kernel)) rfl, by decide +kernel, by decide⟩, ga_in (List.mem_of_getElem? (i := 1207) (by decide +kernel)) rfl, ga_in (List.mem_of_getElem? (i := 47) (by decide +kernel)) rfl⟩
theorem mX11_259 : Cond.methodLink RX11 259 yX11_isIf ∈ ga_T := ga_in (List.mem_of_getElem? (i := 1209) (by decide +kernel)) rfl
theorem yX11_isIf_ok : ga_Yv yX11_isIf cX11_isIf 3 (some .boolean) 2 := ⟨⟨ga_in (List.mem_of_getElem? (i := 89) (by decide +kernel)) rfl, ga_in (List.mem_of_getElem? (i := 1212) (by decide +kernel)) rfl, by decide +kernel, by decide⟩, ga_in (List.mem_of_getElem? (i := 1211) (by decide +kernel)) rfl, ga_in (List.mem_of_getElem? (i := 48) (by decide +kernel)) rfl⟩
theorem kX11_203 : Cond.constantLong RX11 203 (26982) ∈ ga_T := ga_in (List.mem_of_getElem? (i := 1213) (by decide +kernel)) rfl
theorem mX11_199 : Cond.methodLink RX11 199 yX11_spells ∈ ga_T := ga_in (List.mem_of_getElem? (i := 1214) (by decide +kernel)) rfl
theorem yX11_spells_ok : ga_Yv yX11_spells cX11_spells 8 (some .boolean) 4 := ⟨⟨ga_in (List.mem_of_getElem? (i := 89) (by decide +kernel)) rfl, ga_in (List.mem_of_getElem? (i := 1217) (by decide +kernel)) rfl, by decide +kernel, by decide⟩, ga_in (List.mem_of_getElem? (i := 1216) (by decide +kernel)) rfl, ga_in (List.mem_of_getElem? (i := 49) (by decide +kernel)) rfl⟩
theorem kX11_195 : Cond.constantLong RX11 195 (255) ∈ ga_T := ga_in (List.mem_of_getElem? (i := 1218) (by decide +kernel)) rfl
theorem mX11_265 : Cond.methodLink RX11 265 yX11_isMax ∈ ga_T := ga_in (List.mem_of_getElem? (i := 1219) (by decide +kernel)) rfl
theorem yX11_isMax_ok : ga_Yv yX11_isMax cX11_isMax 3 (some .boolean) 2 := ⟨⟨ga_in (List.mem_of_getElem? (i := 89) (by decide +kernel)) rfl, ga_in (List.mem_of_getElem? (i := 1222) (by decide +kernel)) rfl, by decide +kernel, by decide⟩, ga_in (List.mem_of_getElem? (i := 1221) (by decide +kernel)) rfl, ga_in (List.mem_of_getElem? (i := 50) (by decide +kernel)) rfl⟩
theorem kX11_207 : Cond.constantLong RX11 207 (7168376) ∈ ga_T := ga_in (List.mem_of_getElem? (i := 1223) (by decide +kernel)) rfl
theorem mX11_268 : Cond.methodLink RX11 268 yX11_isMin ∈ ga_T := ga_in (List.mem_of_getElem? (i := 1224) (by decide +kernel)) rfl
theorem yX11_isMin_ok : ga_Yv yX11_isMin cX11_isMin 3 (some .boolean) 2 := ⟨⟨ga_in (List.mem_of_getElem? (i := 89) (by decide +kernel)) rfl, ga_in (List.mem_of_getElem? (i := 1227) (by decide +kernel)) rfl, by decide +kernel, by decide⟩, ga_in (List.mem_of_getElem? (i := 1226) (by decide +kernel)) rfl, ga_in (List.mem_of_getElem? (i := 51) (by decide +kernel)) rfl⟩
theorem kX11_209 : Cond.constantLong RX11 209 (7170414) ∈ ga_T := ga_in (List.mem_of_getElem? (i := 1228) (by decide +kernel)) rfl
theorem mX11_256 : Cond.methodLink RX11 256 yX11_isOut ∈ ga_T := ga_in (List.mem_of_getElem? (i := 1229) (by decide +kernel)) rfl
theorem yX11_isOut_ok : ga_Yv yX11_isOut cX11_isOut 3 (some .boolean) 2 := ⟨⟨ga_in (List.mem_of_getElem? (i := 89) (by decide +kernel)) rfl, ga_in (List.mem_of_getElem? (i := 1232) (by decide +kernel)) rfl, by decide +kernel, by decide⟩, ga_in (List.mem_of_getElem? (i := 1231) (by decide +kernel)) rfl, ga_in (List.mem_of_getElem? (i := 52) (by decide +kernel)) rfl⟩
theorem kX11_197 : Cond.constantLong RX11 197 (7304564) ∈ ga_T := ga_in (List.mem_of_getElem? (i := 1233) (by decide +kernel)) rfl
theorem mX11_292 : Cond.methodLink RX11 292 yX11_sum ∈ ga_T := ga_in (List.mem_of_getElem? (i := 1234) (by decide +kernel)) rfl
theorem yX11_sum_ok : ga_Yv yX11_sum cX11_sum 6 none 0 := ⟨⟨ga_in (List.mem_of_getElem? (i := 89) (by decide +kernel)) rfl, ga_in (List.mem_of_getElem? (i := 1237) (by decide +kernel)) rfl, by decide +kernel, by decide⟩, ga_in (List.mem_of_getElem? (i := 1236) (by decide +kernel)) rfl, ga_in (List.mem_of_getElem? (i := 53) (by decide +kernel)) rfl⟩
theorem mX11_282 : Cond.methodLink RX11 282 yX11_operand ∈ ga_T := ga_in (List.mem_of_getElem? (i := 1238) (by decide +kernel)) rfl
theorem yX11_operand_ok : ga_Yv yX11_operand cX11_operand 6 (some .boolean) 0 := ⟨⟨ga_in (List.mem_of_getElem? (i := 89) (by decide +kernel)) rfl, ga_in (List.mem_of_getElem? (i := 1241) (by decide +kernel)) rfl, by decide +kernel, by decide⟩, ga_in (List.mem_of_getElem? (i := 1240) (by decide +kernel)) rfl, ga_in (List.mem_of_getElem? (i := 54) (by decide +kernel)) rfl⟩
theorem mX11_241 : Cond.methodLink RX11 241 yX11_isDigit ∈ ga_T := ga_in (List.mem_of_getElem? (i := 1242) (by decide +kernel)) rfl
theorem yX11_isDigit_ok : ga_Ys yX11_isDigit cX11_isDigit 1 (some .boolean) 1 := ⟨⟨ga_in (List.mem_of_getElem? (i := 89) (by decide +kernel)) rfl, ga_in (List.mem_of_getElem? (i := 1244) (by decide +kernel)) rfl, by decide +kernel, by decide⟩, ga_in (List.mem_of_getElem? (i := 1243) (by decide +kernel)) rfl⟩
theorem mX11_247 : Cond.methodLink RX11 247 yX11_digits ∈ ga_T := ga_in (List.mem_of_getElem? (i := 1245) (by decide +kernel)) rfl
theorem yX11_digits_ok : ga_Yv yX11_digits cX11_digits 3 (some .int) 0 := ⟨⟨ga_in (List.mem_of_getElem? (i := 89) (by decide +kernel)) rfl, ga_in (List.mem_of_getElem? (i := 1248) (by decide +kernel)) rfl, by decide +kernel, by decide⟩, ga_in (List.mem_of_getElem? (i := 1247) (by decide +kernel)) rfl, ga_in (List.mem_of_getElem? (i := 55) (by decide +kernel)) rfl⟩
theorem mX11_244 : Cond.methodLink RX11 244 yX11_add ∈ ga_T := ga_in (List.mem_of_getElem? (i := 1249) (by decide +kernel)) rfl
theorem yX11_add_ok : ga_Yv yX11_add cX11_add 3 none 2 := ⟨⟨ga_in (List.mem_of_getElem? (i := 89) (by decide +kernel)) rfl, ga_in (List.mem_of_getElem? (i := 1252) (by decide +kernel)) rfl, by decide +kernel, by decide⟩, ga_in (List.mem_of_getElem? (i := 1251) (by decide +kernel)) rfl, ga_in (List.mem_of_getElem? (i := 56) (by decide +kernel)) rfl⟩
theorem mX11_250 : Cond.methodLink RX11 250 yX11_opens ∈ ga_T := ga_in (List.mem_of_getElem? (i := 1253) (by decide +kernel)) rfl
theorem yX11_opens_ok : ga_Yv yX11_opens cX11_opens 2 none 1 := ⟨⟨ga_in (List.mem_of_getElem? (i := 89) (by decide +kernel)) rfl, ga_in (List.mem_of_getElem? (i := 1256) (by decide +kernel)) rfl, by decide +kernel, by decide⟩, ga_in (List.mem_of_getElem? (i := 1255) (by decide +kernel)) rfl, ga_in (List.mem_of_getElem? (i := 57) (by decide +kernel)) rfl⟩
theorem mX11_262 : Cond.methodLink RX11 262 yX11_isTie ∈ ga_T := ga_in (List.mem_of_getElem? (i := 1257) (by decide +kernel)) rfl
theorem yX11_isTie_ok : ga_Yv yX11_isTie cX11_isTie 3 (some .boolean) 2 := ⟨⟨ga_in (List.mem_of_getElem? (i := 89) (by decide +kernel)) rfl, ga_in (List.mem_of_getElem? (i := 1260) (by decide +kernel)) rfl, by decide +kernel, by decide⟩, ga_in (List.mem_of_getElem? (i := 1259) (by decide +kernel)) rfl, ga_in (List.mem_of_getElem? (i := 58) (by decide +kernel)) rfl⟩
theorem kX11_205 : Cond.constantLong RX11 205 (7629157) ∈ ga_T := ga_in (List.mem_of_getElem? (i := 1261) (by decide +kernel)) rfl
theorem mX11_271 : Cond.methodLink RX11 271 yX11_whichCount ∈ ga_T := ga_in (List.mem_of_getElem? (i := 1262) (by decide +kernel)) rfl
theorem yX11_whichCount_ok : ga_Yv yX11_whichCount cX11_whichCount 3 (some .int) 2 := ⟨⟨ga_in (List.mem_of_getElem? (i := 89) (by decide +kernel)) rfl, ga_in (List.mem_of_getElem? (i := 1265) (by decide +kernel)) rfl, by decide +kernel, by decide⟩, ga_in (List.mem_of_getElem? (i := 1264) (by decide +kernel)) rfl, ga_in (List.mem_of_getElem? (i := 59) (by decide +kernel)) rfl⟩
theorem kX11_211 : Cond.constantLong RX11 211 (469786323827) ∈ ga_T := ga_in (List.mem_of_getElem? (i := 1266) (by decide +kernel)) rfl
theorem kX11_213 : Cond.constantLong RX11 213 (1919512167) ∈ ga_T := ga_in (List.mem_of_getElem? (i := 1267) (by decide +kernel)) rfl
theorem kX11_215 : Cond.constantLong RX11 215 (8243107347604532339) ∈ ga_T := ga_in (List.mem_of_getElem? (i := 1268) (by decide +kernel)) rfl
theorem kX11_217 : Cond.constantLong RX11 217 (439721159795) ∈ ga_T := ga_in (List.mem_of_getElem? (i := 1269) (by decide +kernel)) rfl
theorem kX11_219 : Cond.constantLong RX11 219 (120299675936100) ∈ ga_T := ga_in (List.mem_of_getElem? (i := 1270) (by decide +kernel)) rfl
theorem kX11_221 : Cond.constantLong RX11 221 (439855772532) ∈ ga_T := ga_in (List.mem_of_getElem? (i := 1271) (by decide +kernel)) rfl
theorem kX11_223 : Cond.constantLong RX11 223 (126879297138276) ∈ ga_T := ga_in (List.mem_of_getElem? (i := 1272) (by decide +kernel)) rfl
theorem kX11_225 : Cond.constantLong RX11 225 (499967947364) ∈ ga_T := ga_in (List.mem_of_getElem? (i := 1273) (by decide +kernel)) rfl
theorem kX11_227 : Cond.constantLong RX11 227 (118122059361139) ∈ ga_T := ga_in (List.mem_of_getElem? (i := 1274) (by decide +kernel)) rfl
theorem kX11_229 : Cond.constantLong RX11 229 (465726040947) ∈ ga_T := ga_in (List.mem_of_getElem? (i := 1275) (by decide +kernel)) rfl
theorem kX11_231 : Cond.constantLong RX11 231 (32199698004731236) ∈ ga_T := ga_in (List.mem_of_getElem? (i := 1276) (by decide +kernel)) rfl
theorem kX11_233 : Cond.constantLong RX11 233 (129117242877294) ∈ ga_T := ga_in (List.mem_of_getElem? (i := 1277) (by decide +kernel)) rfl
theorem kX11_235 : Cond.constantLong RX11 235 (1870030194) ∈ ga_T := ga_in (List.mem_of_getElem? (i := 1278) (by decide +kernel)) rfl
theorem kX11_237 : Cond.constantLong RX11 237 (504363246962) ∈ ga_T := ga_in (List.mem_of_getElem? (i := 1279) (by decide +kernel)) rfl
theorem kX11_239 : Cond.constantLong RX11 239 (31367367702181229) ∈ ga_T := ga_in (List.mem_of_getElem? (i := 1280) (by decide +kernel)) rfl
theorem mX11_275 : Cond.methodLink RX11 275 yX11_whichGiven ∈ ga_T := ga_in (List.mem_of_getElem? (i := 1281) (by decide +kernel)) rfl
theorem yX11_whichGiven_ok : ga_Yv yX11_whichGiven cX11_whichGiven 6 (some .int) 2 := ⟨⟨ga_in (List.mem_of_getElem? (i := 89) (by decide +kernel)) rfl, ga_in (List.mem_of_getElem? (i := 1284) (by decide +kernel)) rfl, by decide +kernel, by decide⟩, ga_in (List.mem_of_getElem? (i := 1283) (by decide +kernel)) rfl, ga_in (List.mem_of_getElem? (i := 60) (by decide +kernel)) rfl⟩
theorem mX11_278 : Cond.methodLink RX11 278 yX11_joins ∈ ga_T := ga_in (List.mem_of_getElem? (i := 1285) (by decide +kernel)) rfl
theorem yX11_joins_ok : ga_Yv yX11_joins cX11_joins 2 none 1 := ⟨⟨ga_in (List.mem_of_getElem? (i := 89) (by decide +kernel)) rfl, ga_in (List.mem_of_getElem? (i := 1288) (by decide +kernel)) rfl, by decide +kernel, by decide⟩, ga_in (List.mem_of_getElem? (i := 1287) (by decide +kernel)) rfl, ga_in (List.mem_of_getElem? (i := 61) (by decide +kernel)) rfl⟩
theorem mX11_286 : Cond.methodLink RX11 286 yX11_closes ∈ ga_T := ga_in (List.mem_of_getElem? (i := 1289) (by decide +kernel)) rfl
theorem yX11_closes_ok : ga_Yv yX11_closes cX11_closes 2 none 0 := ⟨⟨ga_in (List.mem_of_getElem? (i := 89) (by decide +kernel)) rfl, ga_in (List.mem_of_getElem? (i := 1292) (by decide +kernel)) rfl, by decide +kernel, by decide⟩, ga_in (List.mem_of_getElem? (i := 1291) (by decide +kernel)) rfl, ga_in (List.mem_of_getElem? (i := 62) (by decide +kernel)) rfl⟩
theorem mX11_289 : Cond.methodLink RX11 289 yX11_commas ∈ ga_T := ga_in (List.mem_of_getElem? (i := 1293) (by decide +kernel)) rfl
theorem yX11_commas_ok : ga_Yv yX11_commas cX11_commas 1 none 0 := ⟨⟨ga_in (List.mem_of_getElem? (i := 89) (by decide +kernel)) rfl, ga_in (List.mem_of_getElem? (i := 1296) (by decide +kernel)) rfl, by decide +kernel, by decide⟩, ga_in (List.mem_of_getElem? (i := 1295) (by decide +kernel)) rfl, ga_in (List.mem_of_getElem? (i := 63) (by decide +kernel)) rfl⟩
theorem mX11_295 : Cond.methodLink RX11 295 yX11_must ∈ ga_T := ga_in (List.mem_of_getElem? (i := 1297) (by decide +kernel)) rfl
theorem yX11_must_ok : ga_Yv yX11_must cX11_must 2 none 1 := ⟨⟨ga_in (List.mem_of_getElem? (i := 89) (by decide +kernel)) rfl, ga_in (List.mem_of_getElem? (i := 1300) (by decide +kernel)) rfl, by decide +kernel, by decide⟩, ga_in (List.mem_of_getElem? (i := 1299) (by decide +kernel)) rfl, ga_in (List.mem_of_getElem? (i := 64) (by decide +kernel)) rfl⟩
theorem kX11_298 : Cond.constantLong RX11 298 (500086104428) ∈ ga_T := ga_in (List.mem_of_getElem? (i := 1301) (by decide +kernel)) rfl
theorem mL_66 : Cond.methodLink RL 66 yX11_fault ∈ ga_T := ga_in (List.mem_of_getElem? (i := 1302) (by decide +kernel)) rfl
theorem yX11_fault_ok : ga_Yv yX11_fault cX11_fault 2 (some .int) 1 := ⟨⟨ga_in (List.mem_of_getElem? (i := 89) (by decide +kernel)) rfl, ga_in (List.mem_of_getElem? (i := 1305) (by decide +kernel)) rfl, by decide +kernel, by decide⟩, ga_in (List.mem_of_getElem? (i := 1303) (by decide +kernel)) rfl, ga_in (List.mem_of_getElem? (i := 1304) (by decide +kernel)) rfl⟩
theorem mL_75 : Cond.methodLink RL 75 yX11_given ∈ ga_T := ga_in (List.mem_of_getElem? (i := 1306) (by decide +kernel)) rfl
theorem yX11_given_ok : ga_Yv yX11_given cX11_given 3 (some .long) 2 := ⟨⟨ga_in (List.mem_of_getElem? (i := 89) (by decide +kernel)) rfl, ga_in (List.mem_of_getElem? (i := 1309) (by decide +kernel)) rfl, by decide +kernel, by decide⟩, ga_in (List.mem_of_getElem? (i := 1307) (by decide +kernel)) rfl, ga_in (List.mem_of_getElem? (i := 1308) (by decide +kernel)) rfl⟩
theorem kX11_329 : Cond.constantLong RX11 329 (-2000000000000) ∈ ga_T := ga_in (List.mem_of_getElem? (i := 1310) (by decide +kernel)) rfl
theorem mX11_326 : Cond.methodLink RX11 326 yX11_worksAll ∈ ga_T := ga_in (List.mem_of_getElem? (i := 1311) (by decide +kernel)) rfl
theorem yX11_worksAll_ok : ga_Yv yX11_worksAll cX11_worksAll 4 none 2 := ⟨⟨ga_in (List.mem_of_getElem? (i := 89) (by decide +kernel)) rfl, ga_in (List.mem_of_getElem? (i := 1314) (by decide +kernel)) rfl, by decide +kernel, by decide⟩, ga_in (List.mem_of_getElem? (i := 1313) (by decide +kernel)) rfl, ga_in (List.mem_of_getElem? (i := 65) (by decide +kernel)) rfl⟩
theorem mX11_322 : Cond.methodLink RX11 322 yX11_works ∈ ga_T := ga_in (List.mem_of_getElem? (i := 1315) (by decide +kernel)) rfl
theorem yX11_works_ok : ga_Yv yX11_works cX11_works 7 (some .long) 2 := ⟨⟨ga_in (List.mem_of_getElem? (i := 89) (by decide +kernel)) rfl, ga_in (List.mem_of_getElem? (i := 1318) (by decide +kernel)) rfl, by decide +kernel, by decide⟩, ga_in (List.mem_of_getElem? (i := 1317) (by decide +kernel)) rfl, ga_in (List.mem_of_getElem? (i := 66) (by decide +kernel)) rfl⟩
theorem mX11_307 : Cond.methodLink RX11 307 yX11_over ∈ ga_T := ga_in (List.mem_of_getElem? (i := 1319) (by decide +kernel)) rfl
theorem yX11_over_ok : ga_Ys yX11_over cX11_over 6 (some .long) 2 := ⟨⟨ga_in (List.mem_of_getElem? (i := 89) (by decide +kernel)) rfl, ga_in (List.mem_of_getElem? (i := 1321) (by decide +kernel)) rfl, by decide +kernel, by decide⟩, ga_in (List.mem_of_getElem? (i := 1320) (by decide +kernel)) rfl⟩
theorem mX11_311 : Cond.methodLink RX11 311 yX11_two ∈ ga_T := ga_in (List.mem_of_getElem? (i := 1322) (by decide +kernel)) rfl
theorem yX11_two_ok : ga_Ys yX11_two cX11_two 5 (some .long) 3 := ⟨⟨ga_in (List.mem_of_getElem? (i := 89) (by decide +kernel)) rfl, ga_in (List.mem_of_getElem? (i := 1324) (by decide +kernel)) rfl, by decide +kernel, by decide⟩, ga_in (List.mem_of_getElem? (i := 1323) (by decide +kernel)) rfl⟩
theorem mX11_315 : Cond.methodLink RX11 315 yX11_held ∈ ga_T := ga_in (List.mem_of_getElem? (i := 1325) (by decide +kernel)) rfl
theorem yX11_held_ok : ga_Ys yX11_held cX11_held 2 (some .long) 1 := ⟨⟨ga_in (List.mem_of_getElem? (i := 89) (by decide +kernel)) rfl, ga_in (List.mem_of_getElem? (i := 1327) (by decide +kernel)) rfl, by decide +kernel, by decide⟩, ga_in (List.mem_of_getElem? (i := 1326) (by decide +kernel)) rfl⟩
theorem kX11_303 : Cond.constantLong RX11 303 (1000000000000) ∈ ga_T := ga_in (List.mem_of_getElem? (i := 1328) (by decide +kernel)) rfl
theorem kX11_305 : Cond.constantLong RX11 305 (-1000000000000) ∈ ga_T := ga_in (List.mem_of_getElem? (i := 1329) (by decide +kernel)) rfl
theorem mX11_319 : Cond.methodLink RX11 319 yX11_times ∈ ga_T := ga_in (List.mem_of_getElem? (i := 1330) (by decide +kernel)) rfl
theorem yX11_times_ok : ga_Ys yX11_times cX11_times 8 (some .long) 2 := ⟨⟨ga_in (List.mem_of_getElem? (i := 89) (by decide +kernel)) rfl, ga_in (List.mem_of_getElem? (i := 1332) (by decide +kernel)) rfl, by decide +kernel, by decide⟩, ga_in (List.mem_of_getElem? (i := 1331) (by decide +kernel)) rfl⟩
theorem mL_80 : Cond.methodLink RL 80 yX11_total ∈ ga_T := ga_in (List.mem_of_getElem? (i := 1333) (by decide +kernel)) rfl
theorem yX11_total_ok : ga_Yv yX11_total cX11_total 2 (some .long) 1 := ⟨⟨ga_in (List.mem_of_getElem? (i := 89) (by decide +kernel)) rfl, ga_in (List.mem_of_getElem? (i := 1336) (by decide +kernel)) rfl, by decide +kernel, by decide⟩, ga_in (List.mem_of_getElem? (i := 1334) (by decide +kernel)) rfl, ga_in (List.mem_of_getElem? (i := 1335) (by decide +kernel)) rfl⟩
theorem mX11_331 : Cond.methodLink RX11 331 yX11_totalOf ∈ ga_T := ga_in (List.mem_of_getElem? (i := 1337) (by decide +kernel)) rfl
theorem yX11_totalOf_ok : ga_Yv yX11_totalOf cX11_totalOf 2 (some .long) 1 := ⟨⟨ga_in (List.mem_of_getElem? (i := 89) (by decide +kernel)) rfl, ga_in (List.mem_of_getElem? (i := 1340) (by decide +kernel)) rfl, by decide +kernel, by decide⟩, ga_in (List.mem_of_getElem? (i := 1339) (by decide +kernel)) rfl, ga_in (List.mem_of_getElem? (i := 67) (by decide +kernel)) rfl⟩
theorem mL_84 : Cond.methodLink RL 84 yX11_isOut_ ∈ ga_T := ga_in (List.mem_of_getElem? (i := 1341) (by decide +kernel)) rfl
theorem yX11_isOut__ok : ga_Yv yX11_isOut_ cX11_isOut_ 2 (some .int) 1 := ⟨⟨ga_in (List.mem_of_getElem? (i := 89) (by decide +kernel)) rfl, ga_in (List.mem_of_getElem? (i := 1344) (by decide +kernel)) rfl, by decide +kernel, by decide⟩, ga_in (List.mem_of_getElem? (i := 1342) (by decide +kernel)) rfl, ga_in (List.mem_of_getElem? (i := 1343) (by decide +kernel)) rfl⟩
theorem mL_88 : Cond.methodLink RL 88 yX11_against ∈ ga_T := ga_in (List.mem_of_getElem? (i := 1345) (by decide +kernel)) rfl
theorem yX11_against_ok : ga_Yv yX11_against cX11_against 3 (some .int) 2 := ⟨⟨ga_in (List.mem_of_getElem? (i := 89) (by decide +kernel)) rfl, ga_in (List.mem_of_getElem? (i := 1348) (by decide +kernel)) rfl, by decide +kernel, by decide⟩, ga_in (List.mem_of_getElem? (i := 1346) (by decide +kernel)) rfl, ga_in (List.mem_of_getElem? (i := 1347) (by decide +kernel)) rfl⟩
theorem mX11_335 : Cond.methodLink RX11 335 yX11_reckons ∈ ga_T := ga_in (List.mem_of_getElem? (i := 1349) (by decide +kernel)) rfl
theorem yX11_reckons_ok : ga_Yv yX11_reckons cX11_reckons 3 none 1 := ⟨⟨ga_in (List.mem_of_getElem? (i := 89) (by decide +kernel)) rfl, ga_in (List.mem_of_getElem? (i := 1352) (by decide +kernel)) rfl, by decide +kernel, by decide⟩, ga_in (List.mem_of_getElem? (i := 1351) (by decide +kernel)) rfl, ga_in (List.mem_of_getElem? (i := 68) (by decide +kernel)) rfl⟩
theorem mX11_338 : Cond.methodLink RX11 338 yX11_stand ∈ ga_T := ga_in (List.mem_of_getElem? (i := 1353) (by decide +kernel)) rfl
theorem yX11_stand_ok : ga_Yv yX11_stand cX11_stand 4 (some .int) 2 := ⟨⟨ga_in (List.mem_of_getElem? (i := 89) (by decide +kernel)) rfl, ga_in (List.mem_of_getElem? (i := 1356) (by decide +kernel)) rfl, by decide +kernel, by decide⟩, ga_in (List.mem_of_getElem? (i := 1355) (by decide +kernel)) rfl, ga_in (List.mem_of_getElem? (i := 69) (by decide +kernel)) rfl⟩
theorem mL_92 : Cond.methodLink RL 92 yX11_place ∈ ga_T := ga_in (List.mem_of_getElem? (i := 1357) (by decide +kernel)) rfl
theorem yX11_place_ok : ga_Yv yX11_place cX11_place 2 (some .int) 1 := ⟨⟨ga_in (List.mem_of_getElem? (i := 89) (by decide +kernel)) rfl, ga_in (List.mem_of_getElem? (i := 1360) (by decide +kernel)) rfl, by decide +kernel, by decide⟩, ga_in (List.mem_of_getElem? (i := 1358) (by decide +kernel)) rfl, ga_in (List.mem_of_getElem? (i := 1359) (by decide +kernel)) rfl⟩
theorem mX11_341 : Cond.methodLink RX11 341 yX11_placeOf ∈ ga_T := ga_in (List.mem_of_getElem? (i := 1361) (by decide +kernel)) rfl
theorem yX11_placeOf_ok : ga_Yv yX11_placeOf cX11_placeOf 4 (some .int) 1 := ⟨⟨ga_in (List.mem_of_getElem? (i := 89) (by decide +kernel)) rfl, ga_in (List.mem_of_getElem? (i := 1364) (by decide +kernel)) rfl, by decide +kernel, by decide⟩, ga_in (List.mem_of_getElem? (i := 1363) (by decide +kernel)) rfl, ga_in (List.mem_of_getElem? (i := 70) (by decide +kernel)) rfl⟩
theorem mL_96 : Cond.methodLink RL 96 yX11_team ∈ ga_T := ga_in (List.mem_of_getElem? (i := 1365) (by decide +kernel)) rfl
theorem yX11_team_ok : ga_Yv yX11_team cX11_team 2 (some .long) 1 := ⟨⟨ga_in (List.mem_of_getElem? (i := 89) (by decide +kernel)) rfl, ga_in (List.mem_of_getElem? (i := 1368) (by decide +kernel)) rfl, by decide +kernel, by decide⟩, ga_in (List.mem_of_getElem? (i := 1366) (by decide +kernel)) rfl, ga_in (List.mem_of_getElem? (i := 1367) (by decide +kernel)) rfl⟩
theorem mX11_350 : Cond.methodLink RX11 350 yX11_hasRiders ∈ ga_T := ga_in (List.mem_of_getElem? (i := 1369) (by decide +kernel)) rfl
theorem yX11_hasRiders_ok : ga_Yv yX11_hasRiders cX11_hasRiders 4 (some .boolean) 1 := ⟨⟨ga_in (List.mem_of_getElem? (i := 89) (by decide +kernel)) rfl, ga_in (List.mem_of_getElem? (i := 1372) (by decide +kernel)) rfl, by decide +kernel, by decide⟩, ga_in (List.mem_of_getElem? (i := 1371) (by decide +kernel)) rfl, ga_in (List.mem_of_getElem? (i := 71) (by decide +kernel)) rfl⟩
theorem kX11_353 : Cond.constantLong RX11 353 (-1) ∈ ga_T := ga_in (List.mem_of_getElem? (i := 1373) (by decide +kernel)) rfl
theorem mX11_355 : Cond.methodLink RX11 355 yX11_teamOf ∈ ga_T := ga_in (List.mem_of_getElem? (i := 1374) (by decide +kernel)) rfl
theorem yX11_teamOf_ok : ga_Yv yX11_teamOf cX11_teamOf 2 (some .long) 1 := ⟨⟨ga_in (List.mem_of_getElem? (i := 89) (by decide +kernel)) rfl, ga_in (List.mem_of_getElem? (i := 1377) (by decide +kernel)) rfl, by decide +kernel, by decide⟩, ga_in (List.mem_of_getElem? (i := 1376) (by decide +kernel)) rfl, ga_in (List.mem_of_getElem? (i := 72) (by decide +kernel)) rfl⟩
theorem mX11_347 : Cond.methodLink RX11 347 yX11_least ∈ ga_T := ga_in (List.mem_of_getElem? (i := 1378) (by decide +kernel)) rfl
theorem yX11_least_ok : ga_Yv yX11_least cX11_least 6 (some .long) 2 := ⟨⟨ga_in (List.mem_of_getElem? (i := 89) (by decide +kernel)) rfl, ga_in (List.mem_of_getElem? (i := 1381) (by decide +kernel)) rfl, by decide +kernel, by decide⟩, ga_in (List.mem_of_getElem? (i := 1380) (by decide +kernel)) rfl, ga_in (List.mem_of_getElem? (i := 73) (by decide +kernel)) rfl⟩
theorem kX11_345 : Cond.constantLong RX11 345 (10000) ∈ ga_T := ga_in (List.mem_of_getElem? (i := 1382) (by decide +kernel)) rfl
theorem mL_100 : Cond.methodLink RL 100 yX11_teamPlace ∈ ga_T := ga_in (List.mem_of_getElem? (i := 1383) (by decide +kernel)) rfl
theorem yX11_teamPlace_ok : ga_Yv yX11_teamPlace cX11_teamPlace 5 (some .int) 1 := ⟨⟨ga_in (List.mem_of_getElem? (i := 89) (by decide +kernel)) rfl, ga_in (List.mem_of_getElem? (i := 1386) (by decide +kernel)) rfl, by decide +kernel, by decide⟩, ga_in (List.mem_of_getElem? (i := 1384) (by decide +kernel)) rfl, ga_in (List.mem_of_getElem? (i := 1385) (by decide +kernel)) rfl⟩
theorem mL_104 : Cond.methodLink RL 104 yX11_ring ∈ ga_T := ga_in (List.mem_of_getElem? (i := 1387) (by decide +kernel)) rfl
theorem yX11_ring_ok : ga_Yv yX11_ring cX11_ring 5 (some .int) 1 := ⟨⟨ga_in (List.mem_of_getElem? (i := 89) (by decide +kernel)) rfl, ga_in (List.mem_of_getElem? (i := 1390) (by decide +kernel)) rfl, by decide +kernel, by decide⟩, ga_in (List.mem_of_getElem? (i := 1388) (by decide +kernel)) rfl, ga_in (List.mem_of_getElem? (i := 1389) (by decide +kernel)) rfl⟩
theorem mL_108 : Cond.methodLink RL 108 yX11_since ∈ ga_T := ga_in (List.mem_of_getElem? (i := 1391) (by decide +kernel)) rfl
theorem yX11_since_ok : ga_Yv yX11_since cX11_since 4 (some .int) 1 := ⟨⟨ga_in (List.mem_of_getElem? (i := 89) (by decide +kernel)) rfl, ga_in (List.mem_of_getElem? (i := 1394) (by decide +kernel)) rfl, by decide +kernel, by decide⟩, ga_in (List.mem_of_getElem? (i := 1392) (by decide +kernel)) rfl, ga_in (List.mem_of_getElem? (i := 1393) (by decide +kernel)) rfl⟩
theorem mL_112 : Cond.methodLink RL 112 yX11_all ∈ ga_T := ga_in (List.mem_of_getElem? (i := 1395) (by decide +kernel)) rfl
theorem yX11_all_ok : ga_Yv yX11_all cX11_all 2 (some .int) 1 := ⟨⟨ga_in (List.mem_of_getElem? (i := 89) (by decide +kernel)) rfl, ga_in (List.mem_of_getElem? (i := 1398) (by decide +kernel)) rfl, by decide +kernel, by decide⟩, ga_in (List.mem_of_getElem? (i := 1396) (by decide +kernel)) rfl, ga_in (List.mem_of_getElem? (i := 1397) (by decide +kernel)) rfl⟩
