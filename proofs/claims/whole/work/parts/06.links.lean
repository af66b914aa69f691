theorem q_uX0 : ∀ w ∈ u_ws RX0 TX0 2, w ∈ q_tbl := q_fields (fun k hk => match k, hk with
  | 0, _ => q_in1 (i := 137) rfl rfl
  | 1, _ => q_in1 (i := 139) rfl rfl
  | k + 2, hk => absurd hk (by omega))
theorem q_uX1 : ∀ w ∈ u_ws RX1 TX1 8, w ∈ q_tbl := q_fields (fun k hk => match k, hk with
  | 0, _ => q_in1 (i := 163) rfl rfl
  | 1, _ => q_in1 (i := 165) rfl rfl
  | 2, _ => q_in1 (i := 167) rfl rfl
  | 3, _ => q_in1 (i := 169) rfl rfl
  | 4, _ => q_in1 (i := 171) rfl rfl
  | 5, _ => q_in1 (i := 173) rfl rfl
  | 6, _ => q_in1 (i := 175) rfl rfl
  | 7, _ => q_in1 (i := 177) rfl rfl
  | k + 8, hk => absurd hk (by omega))
theorem fp_1_5 : q_FP 1 5 := by
  intro C T N h
  cases h
  exact ⟨tyX1, tyX1_ok, nmX1, rfl, by decide +kernel⟩
theorem fp_1_6 : q_FP 1 6 := by
  intro C T N h
  cases h
  exact ⟨tyX1, tyX1_ok, nmX1, rfl, by decide +kernel⟩
theorem fp_1_7 : q_FP 1 7 := by
  intro C T N h
  cases h
  exact ⟨tyX1, tyX1_ok, nmX1, rfl, by decide +kernel⟩
theorem q_uX3 : ∀ w ∈ u_ws RX3 TX3 4, w ∈ q_tbl := q_fields (fun k hk => match k, hk with
  | 0, _ => q_in1 (i := 65) rfl rfl
  | 1, _ => q_in1 (i := 67) rfl rfl
  | 2, _ => q_in1 (i := 69) rfl rfl
  | 3, _ => q_in1 (i := 71) rfl rfl
  | k + 4, hk => absurd hk (by omega))
theorem q_uX4 : ∀ w ∈ u_ws RX4 TX4 5, w ∈ q_tbl := q_fields (fun k hk => match k, hk with
  | 0, _ => q_in1 (i := 122) rfl rfl
  | 1, _ => q_in1 (i := 124) rfl rfl
  | 2, _ => q_in1 (i := 126) rfl rfl
  | 3, _ => q_in1 (i := 128) rfl rfl
  | 4, _ => q_in1 (i := 130) rfl rfl
  | k + 5, hk => absurd hk (by omega))
theorem q_uX5 : ∀ w ∈ u_ws RX5 TX5 4, w ∈ q_tbl := q_fields (fun k hk => match k, hk with
  | 0, _ => q_in1 (i := 49) rfl rfl
  | 1, _ => q_in1 (i := 51) rfl rfl
  | 2, _ => q_in1 (i := 53) rfl rfl
  | 3, _ => q_in1 (i := 55) rfl rfl
  | k + 4, hk => absurd hk (by omega))
theorem fp_4_3 : q_FP 4 3 := by
  intro C T N h
  cases h
  exact ⟨tyX5, tyX5_ok, nmX5, rfl, by decide +kernel⟩
theorem q_uX6 : ∀ w ∈ u_ws RX6 TX6 6, w ∈ q_tbl := q_fields (fun k hk => match k, hk with
  | 0, _ => q_in1 (i := 197) rfl rfl
  | 1, _ => q_in1 (i := 199) rfl rfl
  | 2, _ => q_in1 (i := 201) rfl rfl
  | 3, _ => q_in1 (i := 203) rfl rfl
  | 4, _ => q_in1 (i := 205) rfl rfl
  | 5, _ => q_in1 (i := 207) rfl rfl
  | k + 6, hk => absurd hk (by omega))
theorem fp_5_1 : q_FP 5 1 := by
  intro C T N h
  cases h
  exact ⟨tyX6, tyX6_ok, nmX6, rfl, by decide +kernel⟩
theorem fp_5_5 : q_FP 5 5 := by
  intro C T N h
  cases h
  exact ⟨tyX6, tyX6_ok, nmX6, rfl, by decide +kernel⟩
theorem q_uX7 : ∀ w ∈ u_ws RX7 TX7 3, w ∈ q_tbl := q_fields (fun k hk => match k, hk with
  | 0, _ => q_in1 (i := 96) rfl rfl
  | 1, _ => q_in1 (i := 98) rfl rfl
  | 2, _ => q_in1 (i := 100) rfl rfl
  | k + 3, hk => absurd hk (by omega))
theorem q_uX8 : ∀ w ∈ u_ws RX8 TX8 7, w ∈ q_tbl := q_fields (fun k hk => match k, hk with
  | 0, _ => q_in1 (i := 217) rfl rfl
  | 1, _ => q_in1 (i := 219) rfl rfl
  | 2, _ => q_in1 (i := 221) rfl rfl
  | 3, _ => q_in1 (i := 223) rfl rfl
  | 4, _ => q_in1 (i := 225) rfl rfl
  | 5, _ => q_in1 (i := 227) rfl rfl
  | 6, _ => q_in1 (i := 229) rfl rfl
  | k + 7, hk => absurd hk (by omega))
theorem fp_7_6 : q_FP 7 6 := by
  intro C T N h
  cases h
  exact ⟨tyX8, tyX8_ok, nmX8, rfl, by decide +kernel⟩
theorem q_uX9 : ∀ w ∈ u_ws RX9 TX9 17, w ∈ q_tbl := q_fields (fun k hk => match k, hk with
  | 0, _ => q_in3 (i := 139) rfl rfl
  | 1, _ => q_in3 (i := 141) rfl rfl
  | 2, _ => q_in3 (i := 143) rfl rfl
  | 3, _ => q_in3 (i := 145) rfl rfl
  | 4, _ => q_in3 (i := 147) rfl rfl
  | 5, _ => q_in3 (i := 149) rfl rfl
  | 6, _ => q_in3 (i := 151) rfl rfl
  | 7, _ => q_in3 (i := 153) rfl rfl
  | 8, _ => q_in3 (i := 155) rfl rfl
  | 9, _ => q_in3 (i := 157) rfl rfl
  | 10, _ => q_in3 (i := 159) rfl rfl
  | 11, _ => q_in3 (i := 161) rfl rfl
  | 12, _ => q_in3 (i := 163) rfl rfl
  | 13, _ => q_in3 (i := 165) rfl rfl
  | 14, _ => q_in3 (i := 167) rfl rfl
  | 15, _ => q_in3 (i := 169) rfl rfl
  | 16, _ => q_in3 (i := 171) rfl rfl
  | k + 17, hk => absurd hk (by omega))
theorem fp_8_0 : q_FP 8 0 := by
  intro C T N h
  cases h
  exact ⟨tyX9, tyX9_ok, nmX9, rfl, by decide +kernel⟩
theorem fp_8_2 : q_FP 8 2 := by
  intro C T N h
  cases h
  exact ⟨tyX9, tyX9_ok, nmX9, rfl, by decide +kernel⟩
theorem fp_8_4 : q_FP 8 4 := by
  intro C T N h
  cases h
  exact ⟨tyX9, tyX9_ok, nmX9, rfl, by decide +kernel⟩
theorem fp_8_6 : q_FP 8 6 := by
  intro C T N h
  cases h
  exact ⟨tyX9, tyX9_ok, nmX9, rfl, by decide +kernel⟩
theorem fp_8_8 : q_FP 8 8 := by
  intro C T N h
  cases h
  exact ⟨tyX9, tyX9_ok, nmX9, rfl, by decide +kernel⟩
theorem fp_8_9 : q_FP 8 9 := by
  intro C T N h
  cases h
  exact ⟨tyX9, tyX9_ok, nmX9, rfl, by decide +kernel⟩
theorem fp_8_10 : q_FP 8 10 := by
  intro C T N h
  cases h
  exact ⟨tyX9, tyX9_ok, nmX9, rfl, by decide +kernel⟩
theorem fp_8_12 : q_FP 8 12 := by
  intro C T N h
  cases h
  exact ⟨tyX9, tyX9_ok, nmX9, rfl, by decide +kernel⟩
theorem fp_8_13 : q_FP 8 13 := by
  intro C T N h
  cases h
  exact ⟨tyX9, tyX9_ok, nmX9, rfl, by decide +kernel⟩
theorem fp_8_14 : q_FP 8 14 := by
  intro C T N h
  cases h
  exact ⟨tyX9, tyX9_ok, nmX9, rfl, by decide +kernel⟩
theorem fp_8_16 : q_FP 8 16 := by
  intro C T N h
  cases h
  exact ⟨tyX9, tyX9_ok, nmX9, rfl, by decide +kernel⟩
theorem fl_X0_12 : q_FL RX0 12 0 0 := ⟨RX0, TX0, 2, rfl, by decide, q_in1 (i := 133) rfl rfl, q_uX0⟩
theorem fl_X0_21 : q_FL RX0 21 0 1 := ⟨RX0, TX0, 2, rfl, by decide, q_in1 (i := 135) rfl rfl, q_uX0⟩
theorem fl_X0_29 : q_FL RX0 29 3 4 := ⟨RX4, TX4, 5, rfl, by decide, q_in1 (i := 120) rfl rfl, q_uX4⟩
theorem fl_X0_57 : q_FL RX0 57 6 2 := ⟨RX7, TX7, 3, rfl, by decide, q_in1 (i := 94) rfl rfl, q_uX7⟩
theorem fl_X0_64 : q_FL RX0 64 6 0 := ⟨RX7, TX7, 3, rfl, by decide, q_in1 (i := 89) rfl rfl, q_uX7⟩
theorem fl_X0_68 : q_FL RX0 68 4 3 := ⟨RX5, TX5, 4, rfl, by decide, q_in1 (i := 47) rfl rfl, q_uX5⟩
theorem fl_X0_81 : q_FL RX0 81 4 0 := ⟨RX5, TX5, 4, rfl, by decide, q_in1 (i := 36) rfl rfl, q_uX5⟩
theorem fl_X0_87 : q_FL RX0 87 4 1 := ⟨RX5, TX5, 4, rfl, by decide, q_in1 (i := 40) rfl rfl, q_uX5⟩
theorem fl_X0_90 : q_FL RX0 90 3 0 := ⟨RX4, TX4, 5, rfl, by decide, q_in1 (i := 112) rfl rfl, q_uX4⟩
theorem fl_X1_11 : q_FL RX1 11 1 0 := ⟨RX1, TX1, 8, rfl, by decide, q_in1 (i := 148) rfl rfl, q_uX1⟩
theorem fl_X1_15 : q_FL RX1 15 1 1 := ⟨RX1, TX1, 8, rfl, by decide, q_in1 (i := 150) rfl rfl, q_uX1⟩
theorem fl_X1_18 : q_FL RX1 18 1 2 := ⟨RX1, TX1, 8, rfl, by decide, q_in1 (i := 152) rfl rfl, q_uX1⟩
theorem fl_X1_21 : q_FL RX1 21 1 3 := ⟨RX1, TX1, 8, rfl, by decide, q_in1 (i := 154) rfl rfl, q_uX1⟩
theorem fl_X1_24 : q_FL RX1 24 1 4 := ⟨RX1, TX1, 8, rfl, by decide, q_in1 (i := 156) rfl rfl, q_uX1⟩
theorem fl_X1_27 : q_FL RX1 27 1 5 := ⟨RX1, TX1, 8, rfl, by decide, q_in1 (i := 157) rfl rfl, q_uX1⟩
theorem fl_X1_31 : q_FL RX1 31 1 6 := ⟨RX1, TX1, 8, rfl, by decide, q_in1 (i := 159) rfl rfl, q_uX1⟩
theorem fl_X1_34 : q_FL RX1 34 1 7 := ⟨RX1, TX1, 8, rfl, by decide, q_in1 (i := 161) rfl rfl, q_uX1⟩
theorem fl_X3_16 : q_FL RX3 16 2 0 := ⟨RX3, TX3, 4, rfl, by decide, q_in1 (i := 59) rfl rfl, q_uX3⟩
theorem fl_X3_20 : q_FL RX3 20 2 1 := ⟨RX3, TX3, 4, rfl, by decide, q_in1 (i := 61) rfl rfl, q_uX3⟩
theorem fl_X3_24 : q_FL RX3 24 2 2 := ⟨RX3, TX3, 4, rfl, by decide, q_in1 (i := 63) rfl rfl, q_uX3⟩
theorem fl_X3_27 : q_FL RX3 27 2 3 := ⟨RX3, TX3, 4, rfl, by decide, q_in1 (i := 64) rfl rfl, q_uX3⟩
theorem fl_X3_34 : q_FL RX3 34 4 3 := ⟨RX5, TX5, 4, rfl, by decide, q_in1 (i := 46) rfl rfl, q_uX5⟩
theorem fl_X4_16 : q_FL RX4 16 3 0 := ⟨RX4, TX4, 5, rfl, by decide, q_in1 (i := 111) rfl rfl, q_uX4⟩
theorem fl_X4_20 : q_FL RX4 20 3 1 := ⟨RX4, TX4, 5, rfl, by decide, q_in1 (i := 114) rfl rfl, q_uX4⟩
theorem fl_X4_24 : q_FL RX4 24 3 2 := ⟨RX4, TX4, 5, rfl, by decide, q_in1 (i := 115) rfl rfl, q_uX4⟩
theorem fl_X4_27 : q_FL RX4 27 3 3 := ⟨RX4, TX4, 5, rfl, by decide, q_in1 (i := 117) rfl rfl, q_uX4⟩
theorem fl_X4_30 : q_FL RX4 30 3 4 := ⟨RX4, TX4, 5, rfl, by decide, q_in1 (i := 119) rfl rfl, q_uX4⟩
theorem fl_X4_33 : q_FL RX4 33 4 3 := ⟨RX5, TX5, 4, rfl, by decide, q_in1 (i := 44) rfl rfl, q_uX5⟩
theorem fl_X4_66 : q_FL RX4 66 4 0 := ⟨RX5, TX5, 4, rfl, by decide, q_in1 (i := 37) rfl rfl, q_uX5⟩
theorem fl_X5_15 : q_FL RX5 15 4 2 := ⟨RX5, TX5, 4, rfl, by decide, q_in1 (i := 42) rfl rfl, q_uX5⟩
theorem fl_X5_21 : q_FL RX5 21 4 0 := ⟨RX5, TX5, 4, rfl, by decide, q_in1 (i := 35) rfl rfl, q_uX5⟩
theorem fl_X5_25 : q_FL RX5 25 4 1 := ⟨RX5, TX5, 4, rfl, by decide, q_in1 (i := 39) rfl rfl, q_uX5⟩
theorem fl_X5_28 : q_FL RX5 28 4 3 := ⟨RX5, TX5, 4, rfl, by decide, q_in1 (i := 43) rfl rfl, q_uX5⟩
theorem fl_X6_11 : q_FL RX6 11 5 0 := ⟨RX6, TX6, 6, rfl, by decide, q_in1 (i := 186) rfl rfl, q_uX6⟩
theorem fl_X6_15 : q_FL RX6 15 5 1 := ⟨RX6, TX6, 6, rfl, by decide, q_in1 (i := 187) rfl rfl, q_uX6⟩
theorem fl_X6_19 : q_FL RX6 19 5 2 := ⟨RX6, TX6, 6, rfl, by decide, q_in1 (i := 189) rfl rfl, q_uX6⟩
theorem fl_X6_22 : q_FL RX6 22 5 3 := ⟨RX6, TX6, 6, rfl, by decide, q_in1 (i := 191) rfl rfl, q_uX6⟩
theorem fl_X6_25 : q_FL RX6 25 5 4 := ⟨RX6, TX6, 6, rfl, by decide, q_in1 (i := 193) rfl rfl, q_uX6⟩
theorem fl_X6_28 : q_FL RX6 28 5 5 := ⟨RX6, TX6, 6, rfl, by decide, q_in1 (i := 195) rfl rfl, q_uX6⟩
theorem fl_X7_16 : q_FL RX7 16 6 0 := ⟨RX7, TX7, 3, rfl, by decide, q_in1 (i := 88) rfl rfl, q_uX7⟩
theorem fl_X7_20 : q_FL RX7 20 6 1 := ⟨RX7, TX7, 3, rfl, by decide, q_in1 (i := 91) rfl rfl, q_uX7⟩
theorem fl_X7_24 : q_FL RX7 24 6 2 := ⟨RX7, TX7, 3, rfl, by decide, q_in1 (i := 93) rfl rfl, q_uX7⟩
theorem fl_X7_31 : q_FL RX7 31 4 3 := ⟨RX5, TX5, 4, rfl, by decide, q_in1 (i := 45) rfl rfl, q_uX5⟩
theorem fl_X8_10 : q_FL RX8 10 7 0 := ⟨RX8, TX8, 7, rfl, by decide, q_in1 (i := 210) rfl rfl, q_uX8⟩
theorem fl_X8_19 : q_FL RX8 19 7 1 := ⟨RX8, TX8, 7, rfl, by decide, q_in1 (i := 211) rfl rfl, q_uX8⟩
theorem fl_X8_23 : q_FL RX8 23 0 0 := ⟨RX0, TX0, 2, rfl, by decide, q_in1 (i := 134) rfl rfl, q_uX0⟩
theorem fl_X8_27 : q_FL RX8 27 7 2 := ⟨RX8, TX8, 7, rfl, by decide, q_in1 (i := 212) rfl rfl, q_uX8⟩
theorem fl_X8_28 : q_FL RX8 28 0 1 := ⟨RX0, TX0, 2, rfl, by decide, q_in1 (i := 136) rfl rfl, q_uX0⟩
theorem fl_X8_32 : q_FL RX8 32 7 3 := ⟨RX8, TX8, 7, rfl, by decide, q_in1 (i := 213) rfl rfl, q_uX8⟩
theorem fl_X8_36 : q_FL RX8 36 7 4 := ⟨RX8, TX8, 7, rfl, by decide, q_in1 (i := 214) rfl rfl, q_uX8⟩
theorem fl_X8_43 : q_FL RX8 43 7 5 := ⟨RX8, TX8, 7, rfl, by decide, q_in1 (i := 215) rfl rfl, q_uX8⟩
theorem fl_X8_47 : q_FL RX8 47 7 6 := ⟨RX8, TX8, 7, rfl, by decide, q_in1 (i := 216) rfl rfl, q_uX8⟩
theorem fl_X8_61 : q_FL RX8 61 2 0 := ⟨RX3, TX3, 4, rfl, by decide, q_in1 (i := 60) rfl rfl, q_uX3⟩
theorem fl_X8_86 : q_FL RX8 86 2 1 := ⟨RX3, TX3, 4, rfl, by decide, q_in1 (i := 62) rfl rfl, q_uX3⟩
theorem fl_X8_111 : q_FL RX8 111 6 0 := ⟨RX7, TX7, 3, rfl, by decide, q_in1 (i := 90) rfl rfl, q_uX7⟩
theorem fl_X8_119 : q_FL RX8 119 6 1 := ⟨RX7, TX7, 3, rfl, by decide, q_in1 (i := 92) rfl rfl, q_uX7⟩
theorem fl_X8_120 : q_FL RX8 120 6 2 := ⟨RX7, TX7, 3, rfl, by decide, q_in1 (i := 95) rfl rfl, q_uX7⟩
theorem fl_X8_123 : q_FL RX8 123 4 0 := ⟨RX5, TX5, 4, rfl, by decide, q_in1 (i := 38) rfl rfl, q_uX5⟩
theorem fl_X8_126 : q_FL RX8 126 4 1 := ⟨RX5, TX5, 4, rfl, by decide, q_in1 (i := 41) rfl rfl, q_uX5⟩
theorem fl_X8_136 : q_FL RX8 136 3 0 := ⟨RX4, TX4, 5, rfl, by decide, q_in1 (i := 113) rfl rfl, q_uX4⟩
theorem fl_X8_137 : q_FL RX8 137 4 3 := ⟨RX5, TX5, 4, rfl, by decide, q_in1 (i := 48) rfl rfl, q_uX5⟩
theorem fl_X8_140 : q_FL RX8 140 1 5 := ⟨RX1, TX1, 8, rfl, by decide, q_in1 (i := 158) rfl rfl, q_uX1⟩
theorem fl_X8_143 : q_FL RX8 143 1 6 := ⟨RX1, TX1, 8, rfl, by decide, q_in1 (i := 160) rfl rfl, q_uX1⟩
theorem fl_X8_164 : q_FL RX8 164 3 4 := ⟨RX4, TX4, 5, rfl, by decide, q_in1 (i := 121) rfl rfl, q_uX4⟩
theorem fl_X8_173 : q_FL RX8 173 3 2 := ⟨RX4, TX4, 5, rfl, by decide, q_in1 (i := 116) rfl rfl, q_uX4⟩
theorem fl_X8_176 : q_FL RX8 176 3 3 := ⟨RX4, TX4, 5, rfl, by decide, q_in1 (i := 118) rfl rfl, q_uX4⟩
theorem fl_X8_186 : q_FL RX8 186 5 5 := ⟨RX6, TX6, 6, rfl, by decide, q_in1 (i := 196) rfl rfl, q_uX6⟩
theorem fl_X8_196 : q_FL RX8 196 5 4 := ⟨RX6, TX6, 6, rfl, by decide, q_in1 (i := 194) rfl rfl, q_uX6⟩
theorem fl_X8_197 : q_FL RX8 197 5 2 := ⟨RX6, TX6, 6, rfl, by decide, q_in1 (i := 190) rfl rfl, q_uX6⟩
theorem fl_X8_198 : q_FL RX8 198 5 3 := ⟨RX6, TX6, 6, rfl, by decide, q_in1 (i := 192) rfl rfl, q_uX6⟩
theorem fl_X8_224 : q_FL RX8 224 1 7 := ⟨RX1, TX1, 8, rfl, by decide, q_in1 (i := 162) rfl rfl, q_uX1⟩
theorem fl_X8_231 : q_FL RX8 231 1 3 := ⟨RX1, TX1, 8, rfl, by decide, q_in1 (i := 155) rfl rfl, q_uX1⟩
theorem fl_X8_237 : q_FL RX8 237 1 0 := ⟨RX1, TX1, 8, rfl, by decide, q_in1 (i := 149) rfl rfl, q_uX1⟩
theorem fl_X8_240 : q_FL RX8 240 1 1 := ⟨RX1, TX1, 8, rfl, by decide, q_in1 (i := 151) rfl rfl, q_uX1⟩
theorem fl_X8_241 : q_FL RX8 241 1 2 := ⟨RX1, TX1, 8, rfl, by decide, q_in1 (i := 153) rfl rfl, q_uX1⟩
theorem fl_X8_242 : q_FL RX8 242 5 1 := ⟨RX6, TX6, 6, rfl, by decide, q_in1 (i := 188) rfl rfl, q_uX6⟩
theorem fl_X9_7 : q_FL RX9 7 8 1 := ⟨RX9, TX9, 17, rfl, by decide, q_in3 (i := 123) rfl rfl, q_uX9⟩
theorem fl_X9_13 : q_FL RX9 13 8 3 := ⟨RX9, TX9, 17, rfl, by decide, q_in3 (i := 125) rfl rfl, q_uX9⟩
theorem fl_X9_16 : q_FL RX9 16 8 5 := ⟨RX9, TX9, 17, rfl, by decide, q_in3 (i := 127) rfl rfl, q_uX9⟩
theorem fl_X9_19 : q_FL RX9 19 8 7 := ⟨RX9, TX9, 17, rfl, by decide, q_in3 (i := 129) rfl rfl, q_uX9⟩
theorem fl_X9_22 : q_FL RX9 22 8 9 := ⟨RX9, TX9, 17, rfl, by decide, q_in3 (i := 131) rfl rfl, q_uX9⟩
theorem fl_X9_26 : q_FL RX9 26 8 11 := ⟨RX9, TX9, 17, rfl, by decide, q_in3 (i := 133) rfl rfl, q_uX9⟩
theorem fl_X9_29 : q_FL RX9 29 8 15 := ⟨RX9, TX9, 17, rfl, by decide, q_in3 (i := 137) rfl rfl, q_uX9⟩
theorem fl_X9_32 : q_FL RX9 32 8 0 := ⟨RX9, TX9, 17, rfl, by decide, q_in3 (i := 122) rfl rfl, q_uX9⟩
theorem fl_X9_58 : q_FL RX9 58 8 2 := ⟨RX9, TX9, 17, rfl, by decide, q_in3 (i := 124) rfl rfl, q_uX9⟩
theorem fl_X9_70 : q_FL RX9 70 8 4 := ⟨RX9, TX9, 17, rfl, by decide, q_in3 (i := 126) rfl rfl, q_uX9⟩
theorem fl_X9_91 : q_FL RX9 91 8 6 := ⟨RX9, TX9, 17, rfl, by decide, q_in3 (i := 128) rfl rfl, q_uX9⟩
theorem fl_X9_94 : q_FL RX9 94 8 8 := ⟨RX9, TX9, 17, rfl, by decide, q_in3 (i := 130) rfl rfl, q_uX9⟩
theorem fl_X9_97 : q_FL RX9 97 8 10 := ⟨RX9, TX9, 17, rfl, by decide, q_in3 (i := 132) rfl rfl, q_uX9⟩
theorem fl_X9_130 : q_FL RX9 130 8 13 := ⟨RX9, TX9, 17, rfl, by decide, q_in3 (i := 135) rfl rfl, q_uX9⟩
theorem fl_X9_159 : q_FL RX9 159 8 12 := ⟨RX9, TX9, 17, rfl, by decide, q_in3 (i := 134) rfl rfl, q_uX9⟩
theorem fl_X9_162 : q_FL RX9 162 8 14 := ⟨RX9, TX9, 17, rfl, by decide, q_in3 (i := 136) rfl rfl, q_uX9⟩
theorem fl_X9_165 : q_FL RX9 165 8 16 := ⟨RX9, TX9, 17, rfl, by decide, q_in3 (i := 138) rfl rfl, q_uX9⟩
theorem wc_X8_pass : Cond.code yX8_pass cX8_pass 2 (some .int) ∈ q_tbl := q_in1 (i := 235) rfl rfl
theorem wi_X8 : Cond.initialized RX8 ∈ q_tbl := q_in1 (i := 1) rfl rfl
theorem wm_X8_pass : Cond.instanceMethod yX8_pass ∈ q_tbl := q_in1 (i := 233) rfl rfl
theorem we_X8_pass : Cond.selects RX8 yX8_pass yX8_pass ∈ q_tbl := q_in1 (i := 234) rfl rfl
theorem wc_X9_pass : Cond.code yX9_pass cX9_pass 2 (some .int) ∈ q_tbl := q_in3 (i := 177) rfl rfl
theorem wi_X9 : Cond.initialized RX9 ∈ q_tbl := q_in1 (i := 10) rfl rfl
theorem wm_X9_pass : Cond.instanceMethod yX9_pass ∈ q_tbl := q_in3 (i := 175) rfl rfl
theorem we_X9_pass : Cond.selects RX9 yX9_pass yX9_pass ∈ q_tbl := q_in3 (i := 176) rfl rfl
theorem wc_X8_time : Cond.code yX8_time cX8_time 1 (some .int) ∈ q_tbl := q_in1 (i := 239) rfl rfl
theorem wm_X8_time : Cond.instanceMethod yX8_time ∈ q_tbl := q_in1 (i := 237) rfl rfl
theorem we_X8_time : Cond.selects RX8 yX8_time yX8_time ∈ q_tbl := q_in1 (i := 238) rfl rfl
theorem wc_X9_time : Cond.code yX9_time cX9_time 1 (some .int) ∈ q_tbl := q_in3 (i := 184) rfl rfl
theorem wm_X9_time : Cond.instanceMethod yX9_time ∈ q_tbl := q_in3 (i := 182) rfl rfl
theorem we_X9_time : Cond.selects RX9 yX9_time yX9_time ∈ q_tbl := q_in3 (i := 183) rfl rfl
theorem wc_X8_addNet : Cond.code yX8_addNet cX8_addNet 4 (some .int) ∈ q_tbl := q_in2 (i := 3) rfl rfl
theorem wm_X8_addNet : Cond.instanceMethod yX8_addNet ∈ q_tbl := q_in2 (i := 1) rfl rfl
theorem we_X8_addNet : Cond.selects RX8 yX8_addNet yX8_addNet ∈ q_tbl := q_in2 (i := 2) rfl rfl
theorem wc_X9_addNet : Cond.code yX9_addNet cX9_addNet 5 (some .int) ∈ q_tbl := q_in3 (i := 188) rfl rfl
theorem wm_X9_addNet : Cond.instanceMethod yX9_addNet ∈ q_tbl := q_in3 (i := 186) rfl rfl
theorem we_X9_addNet : Cond.selects RX9 yX9_addNet yX9_addNet ∈ q_tbl := q_in3 (i := 187) rfl rfl
theorem wc_X8_removeNet : Cond.code yX8_removeNet cX8_removeNet 2 (some .int) ∈ q_tbl := q_in2 (i := 29) rfl rfl
theorem wm_X8_removeNet : Cond.instanceMethod yX8_removeNet ∈ q_tbl := q_in2 (i := 27) rfl rfl
theorem we_X8_removeNet : Cond.selects RX8 yX8_removeNet yX8_removeNet ∈ q_tbl := q_in2 (i := 28) rfl rfl
theorem wc_X9_removeNet : Cond.code yX9_removeNet cX9_removeNet 2 (some .int) ∈ q_tbl := q_in3 (i := 195) rfl rfl
theorem wm_X9_removeNet : Cond.instanceMethod yX9_removeNet ∈ q_tbl := q_in3 (i := 193) rfl rfl
theorem we_X9_removeNet : Cond.selects RX9 yX9_removeNet yX9_removeNet ∈ q_tbl := q_in3 (i := 194) rfl rfl
theorem wc_X8_viewOf : Cond.code yX8_viewOf cX8_viewOf 3 (some .int) ∈ q_tbl := q_in2 (i := 46) rfl rfl
theorem wm_X8_viewOf : Cond.instanceMethod yX8_viewOf ∈ q_tbl := q_in2 (i := 44) rfl rfl
theorem we_X8_viewOf : Cond.selects RX8 yX8_viewOf yX8_viewOf ∈ q_tbl := q_in2 (i := 45) rfl rfl
theorem wc_X9_viewOf : Cond.code yX9_viewOf cX9_viewOf 3 (some .int) ∈ q_tbl := q_in3 (i := 199) rfl rfl
theorem wm_X9_viewOf : Cond.instanceMethod yX9_viewOf ∈ q_tbl := q_in3 (i := 197) rfl rfl
theorem we_X9_viewOf : Cond.selects RX9 yX9_viewOf yX9_viewOf ∈ q_tbl := q_in3 (i := 198) rfl rfl
theorem wc_X8_addZone : Cond.code yX8_addZone cX8_addZone 3 (some .int) ∈ q_tbl := q_in2 (i := 63) rfl rfl
theorem wm_X8_addZone : Cond.instanceMethod yX8_addZone ∈ q_tbl := q_in2 (i := 61) rfl rfl
theorem we_X8_addZone : Cond.selects RX8 yX8_addZone yX8_addZone ∈ q_tbl := q_in2 (i := 62) rfl rfl
theorem wc_X9_addZone : Cond.code yX9_addZone cX9_addZone 4 (some .int) ∈ q_tbl := q_in3 (i := 215) rfl rfl
theorem wm_X9_addZone : Cond.instanceMethod yX9_addZone ∈ q_tbl := q_in3 (i := 213) rfl rfl
theorem we_X9_addZone : Cond.selects RX9 yX9_addZone yX9_addZone ∈ q_tbl := q_in3 (i := 214) rfl rfl
theorem wc_X8_removeZone : Cond.code yX8_removeZone cX8_removeZone 2 (some .int) ∈ q_tbl := q_in2 (i := 86) rfl rfl
theorem wm_X8_removeZone : Cond.instanceMethod yX8_removeZone ∈ q_tbl := q_in2 (i := 84) rfl rfl
theorem we_X8_removeZone : Cond.selects RX8 yX8_removeZone yX8_removeZone ∈ q_tbl := q_in2 (i := 85) rfl rfl
theorem wc_X9_removeZone : Cond.code yX9_removeZone cX9_removeZone 3 (some .int) ∈ q_tbl := q_in3 (i := 235) rfl rfl
theorem wm_X9_removeZone : Cond.instanceMethod yX9_removeZone ∈ q_tbl := q_in3 (i := 233) rfl rfl
theorem we_X9_removeZone : Cond.selects RX9 yX9_removeZone yX9_removeZone ∈ q_tbl := q_in3 (i := 234) rfl rfl
theorem wc_X8_zoneInfo : Cond.code yX8_zoneInfo cX8_zoneInfo 3 (some .int) ∈ q_tbl := q_in2 (i := 95) rfl rfl
theorem wm_X8_zoneInfo : Cond.instanceMethod yX8_zoneInfo ∈ q_tbl := q_in2 (i := 93) rfl rfl
theorem we_X8_zoneInfo : Cond.selects RX8 yX8_zoneInfo yX8_zoneInfo ∈ q_tbl := q_in2 (i := 94) rfl rfl
theorem wc_X9_zoneInfo : Cond.code yX9_zoneInfo cX9_zoneInfo 3 (some .int) ∈ q_tbl := q_in4 (i := 15) rfl rfl
theorem wm_X9_zoneInfo : Cond.instanceMethod yX9_zoneInfo ∈ q_tbl := q_in4 (i := 13) rfl rfl
theorem we_X9_zoneInfo : Cond.selects RX9 yX9_zoneInfo yX9_zoneInfo ∈ q_tbl := q_in4 (i := 14) rfl rfl
theorem wc_X8_count : Cond.code yX8_count cX8_count 2 (some .int) ∈ q_tbl := q_in2 (i := 99) rfl rfl
theorem wm_X8_count : Cond.instanceMethod yX8_count ∈ q_tbl := q_in2 (i := 97) rfl rfl
theorem we_X8_count : Cond.selects RX8 yX8_count yX8_count ∈ q_tbl := q_in2 (i := 98) rfl rfl
theorem wc_X9_count : Cond.code yX9_count cX9_count 4 (some .int) ∈ q_tbl := q_in4 (i := 19) rfl rfl
theorem wm_X9_count : Cond.instanceMethod yX9_count ∈ q_tbl := q_in4 (i := 17) rfl rfl
theorem we_X9_count : Cond.selects RX9 yX9_count yX9_count ∈ q_tbl := q_in4 (i := 18) rfl rfl
theorem wc_X8_set : Cond.code yX8_set cX8_set 5 (some .int) ∈ q_tbl := q_in2 (i := 114) rfl rfl
theorem wm_X8_set : Cond.instanceMethod yX8_set ∈ q_tbl := q_in2 (i := 112) rfl rfl
theorem we_X8_set : Cond.selects RX8 yX8_set yX8_set ∈ q_tbl := q_in2 (i := 113) rfl rfl
theorem wc_X9_set : Cond.code yX9_set cX9_set 5 (some .int) ∈ q_tbl := q_in4 (i := 23) rfl rfl
theorem wm_X9_set : Cond.instanceMethod yX9_set ∈ q_tbl := q_in4 (i := 21) rfl rfl
theorem we_X9_set : Cond.selects RX9 yX9_set yX9_set ∈ q_tbl := q_in4 (i := 22) rfl rfl
theorem wc_X8_clear : Cond.code yX8_clear cX8_clear 5 (some .int) ∈ q_tbl := q_in2 (i := 141) rfl rfl
theorem wm_X8_clear : Cond.instanceMethod yX8_clear ∈ q_tbl := q_in2 (i := 139) rfl rfl
theorem we_X8_clear : Cond.selects RX8 yX8_clear yX8_clear ∈ q_tbl := q_in2 (i := 140) rfl rfl
theorem wc_X9_clear : Cond.code yX9_clear cX9_clear 5 (some .int) ∈ q_tbl := q_in4 (i := 46) rfl rfl
theorem wm_X9_clear : Cond.instanceMethod yX9_clear ∈ q_tbl := q_in4 (i := 44) rfl rfl
theorem we_X9_clear : Cond.selects RX9 yX9_clear yX9_clear ∈ q_tbl := q_in4 (i := 45) rfl rfl
theorem wc_X8_record : Cond.code yX8_record cX8_record 6 (some .int) ∈ q_tbl := q_in2 (i := 151) rfl rfl
theorem wm_X8_record : Cond.instanceMethod yX8_record ∈ q_tbl := q_in2 (i := 149) rfl rfl
theorem we_X8_record : Cond.selects RX8 yX8_record yX8_record ∈ q_tbl := q_in2 (i := 150) rfl rfl
theorem wc_X9_record : Cond.code yX9_record cX9_record 6 (some .int) ∈ q_tbl := q_in4 (i := 50) rfl rfl
theorem wm_X9_record : Cond.instanceMethod yX9_record ∈ q_tbl := q_in4 (i := 48) rfl rfl
theorem we_X9_record : Cond.selects RX9 yX9_record yX9_record ∈ q_tbl := q_in4 (i := 49) rfl rfl
theorem wc_X8_serial : Cond.code yX8_serial cX8_serial 3 (some .int) ∈ q_tbl := q_in2 (i := 155) rfl rfl
theorem wm_X8_serial : Cond.instanceMethod yX8_serial ∈ q_tbl := q_in2 (i := 153) rfl rfl
theorem we_X8_serial : Cond.selects RX8 yX8_serial yX8_serial ∈ q_tbl := q_in2 (i := 154) rfl rfl
theorem wc_X9_serial : Cond.code yX9_serial cX9_serial 5 (some .int) ∈ q_tbl := q_in4 (i := 58) rfl rfl
theorem wm_X9_serial : Cond.instanceMethod yX9_serial ∈ q_tbl := q_in4 (i := 56) rfl rfl
theorem we_X9_serial : Cond.selects RX9 yX9_serial yX9_serial ∈ q_tbl := q_in4 (i := 57) rfl rfl
theorem wc_X8_change : Cond.code yX8_change cX8_change 5 (some .int) ∈ q_tbl := q_in2 (i := 163) rfl rfl
theorem wm_X8_change : Cond.instanceMethod yX8_change ∈ q_tbl := q_in2 (i := 161) rfl rfl
theorem we_X8_change : Cond.selects RX8 yX8_change yX8_change ∈ q_tbl := q_in2 (i := 162) rfl rfl
theorem wc_X9_change : Cond.code yX9_change cX9_change 6 (some .int) ∈ q_tbl := q_in4 (i := 62) rfl rfl
theorem wm_X9_change : Cond.instanceMethod yX9_change ∈ q_tbl := q_in4 (i := 60) rfl rfl
theorem we_X9_change : Cond.selects RX9 yX9_change yX9_change ∈ q_tbl := q_in4 (i := 61) rfl rfl
theorem wc_X8_lay : Cond.code yX8_lay cX8_lay 2 (some .int) ∈ q_tbl := q_in2 (i := 171) rfl rfl
theorem wm_X8_lay : Cond.instanceMethod yX8_lay ∈ q_tbl := q_in2 (i := 169) rfl rfl
theorem we_X8_lay : Cond.selects RX8 yX8_lay yX8_lay ∈ q_tbl := q_in2 (i := 170) rfl rfl
theorem wc_X9_lay : Cond.code yX9_lay cX9_lay 5 (some .int) ∈ q_tbl := q_in4 (i := 192) rfl rfl
theorem wm_X9_lay : Cond.instanceMethod yX9_lay ∈ q_tbl := q_in4 (i := 190) rfl rfl
theorem we_X9_lay : Cond.selects RX9 yX9_lay yX9_lay ∈ q_tbl := q_in4 (i := 191) rfl rfl
theorem wc_X8_answer : Cond.code yX8_answer cX8_answer 5 (some .int) ∈ q_tbl := q_in2 (i := 214) rfl rfl
theorem wm_X8_answer : Cond.instanceMethod yX8_answer ∈ q_tbl := q_in2 (i := 212) rfl rfl
theorem we_X8_answer : Cond.selects RX8 yX8_answer yX8_answer ∈ q_tbl := q_in2 (i := 213) rfl rfl
theorem wc_X9_answer : Cond.code yX9_answer cX9_answer 5 (some .int) ∈ q_tbl := q_in4 (i := 66) rfl rfl
theorem wm_X9_answer : Cond.instanceMethod yX9_answer ∈ q_tbl := q_in4 (i := 64) rfl rfl
theorem we_X9_answer : Cond.selects RX9 yX9_answer yX9_answer ∈ q_tbl := q_in4 (i := 65) rfl rfl
theorem wc_X8_viewAnswer : Cond.code yX8_viewAnswer cX8_viewAnswer 5 (some .int) ∈ q_tbl := q_in3 (i := 23) rfl rfl
theorem wm_X8_viewAnswer : Cond.instanceMethod yX8_viewAnswer ∈ q_tbl := q_in3 (i := 21) rfl rfl
theorem we_X8_viewAnswer : Cond.selects RX8 yX8_viewAnswer yX8_viewAnswer ∈ q_tbl := q_in3 (i := 22) rfl rfl
theorem wc_X9_viewAnswer : Cond.code yX9_viewAnswer cX9_viewAnswer 5 (some .int) ∈ q_tbl := q_in4 (i := 96) rfl rfl
theorem wm_X9_viewAnswer : Cond.instanceMethod yX9_viewAnswer ∈ q_tbl := q_in4 (i := 94) rfl rfl
theorem we_X9_viewAnswer : Cond.selects RX9 yX9_viewAnswer yX9_viewAnswer ∈ q_tbl := q_in4 (i := 95) rfl rfl
theorem wc_X8_zoneFor : Cond.code yX8_zoneFor cX8_zoneFor 5 (some .int) ∈ q_tbl := q_in3 (i := 27) rfl rfl
theorem wm_X8_zoneFor : Cond.instanceMethod yX8_zoneFor ∈ q_tbl := q_in3 (i := 25) rfl rfl
theorem we_X8_zoneFor : Cond.selects RX8 yX8_zoneFor yX8_zoneFor ∈ q_tbl := q_in3 (i := 26) rfl rfl
theorem wc_X9_zoneFor : Cond.code yX9_zoneFor cX9_zoneFor 4 (some .int) ∈ q_tbl := q_in4 (i := 100) rfl rfl
theorem wm_X9_zoneFor : Cond.instanceMethod yX9_zoneFor ∈ q_tbl := q_in4 (i := 98) rfl rfl
theorem we_X9_zoneFor : Cond.selects RX9 yX9_zoneFor yX9_zoneFor ∈ q_tbl := q_in4 (i := 99) rfl rfl
theorem wc_X8_source : Cond.code yX8_source cX8_source 6 (some .int) ∈ q_tbl := q_in3 (i := 32) rfl rfl
theorem wm_X8_source : Cond.instanceMethod yX8_source ∈ q_tbl := q_in3 (i := 30) rfl rfl
theorem we_X8_source : Cond.selects RX8 yX8_source yX8_source ∈ q_tbl := q_in3 (i := 31) rfl rfl
theorem wc_X9_source : Cond.code yX9_source cX9_source 5 (some .int) ∈ q_tbl := q_in4 (i := 104) rfl rfl
theorem wm_X9_source : Cond.instanceMethod yX9_source ∈ q_tbl := q_in4 (i := 102) rfl rfl
theorem we_X9_source : Cond.selects RX9 yX9_source yX9_source ∈ q_tbl := q_in4 (i := 103) rfl rfl
theorem wc_X8_differences : Cond.code yX8_differences cX8_differences 5 (some .int) ∈ q_tbl := q_in3 (i := 37) rfl rfl
theorem wm_X8_differences : Cond.instanceMethod yX8_differences ∈ q_tbl := q_in3 (i := 35) rfl rfl
theorem we_X8_differences : Cond.selects RX8 yX8_differences yX8_differences ∈ q_tbl := q_in3 (i := 36) rfl rfl
theorem wc_X9_differences : Cond.code yX9_differences cX9_differences 5 (some .int) ∈ q_tbl := q_in4 (i := 108) rfl rfl
theorem wm_X9_differences : Cond.instanceMethod yX9_differences ∈ q_tbl := q_in4 (i := 106) rfl rfl
theorem we_X9_differences : Cond.selects RX9 yX9_differences yX9_differences ∈ q_tbl := q_in4 (i := 107) rfl rfl
theorem wc_X8_difference : Cond.code yX8_difference cX8_difference 8 (some .int) ∈ q_tbl := q_in3 (i := 45) rfl rfl
theorem wm_X8_difference : Cond.instanceMethod yX8_difference ∈ q_tbl := q_in3 (i := 43) rfl rfl
theorem we_X8_difference : Cond.selects RX8 yX8_difference yX8_difference ∈ q_tbl := q_in3 (i := 44) rfl rfl
theorem wc_X9_difference : Cond.code yX9_difference cX9_difference 6 (some .int) ∈ q_tbl := q_in4 (i := 116) rfl rfl
theorem wm_X9_difference : Cond.instanceMethod yX9_difference ∈ q_tbl := q_in4 (i := 114) rfl rfl
theorem we_X9_difference : Cond.selects RX9 yX9_difference yX9_difference ∈ q_tbl := q_in4 (i := 115) rfl rfl
theorem wc_X8_split : Cond.code yX8_split cX8_split 5 (some .int) ∈ q_tbl := q_in3 (i := 49) rfl rfl
theorem wm_X8_split : Cond.instanceMethod yX8_split ∈ q_tbl := q_in3 (i := 47) rfl rfl
theorem we_X8_split : Cond.selects RX8 yX8_split yX8_split ∈ q_tbl := q_in3 (i := 48) rfl rfl
theorem wc_X9_split : Cond.code yX9_split cX9_split 5 (some .int) ∈ q_tbl := q_in4 (i := 120) rfl rfl
theorem wm_X9_split : Cond.instanceMethod yX9_split ∈ q_tbl := q_in4 (i := 118) rfl rfl
theorem we_X9_split : Cond.selects RX9 yX9_split yX9_split ∈ q_tbl := q_in4 (i := 119) rfl rfl
theorem wc_X8_since : Cond.code yX8_since cX8_since 7 (some .int) ∈ q_tbl := q_in3 (i := 53) rfl rfl
theorem wm_X8_since : Cond.instanceMethod yX8_since ∈ q_tbl := q_in3 (i := 51) rfl rfl
theorem we_X8_since : Cond.selects RX8 yX8_since yX8_since ∈ q_tbl := q_in3 (i := 52) rfl rfl
theorem wc_X9_since : Cond.code yX9_since cX9_since 6 (some .int) ∈ q_tbl := q_in4 (i := 124) rfl rfl
theorem wm_X9_since : Cond.instanceMethod yX9_since ∈ q_tbl := q_in4 (i := 122) rfl rfl
theorem we_X9_since : Cond.selects RX9 yX9_since yX9_since ∈ q_tbl := q_in4 (i := 123) rfl rfl
theorem wc_X8_seenBy : Cond.code yX8_seenBy cX8_seenBy 7 (some .int) ∈ q_tbl := q_in3 (i := 65) rfl rfl
theorem wm_X8_seenBy : Cond.instanceMethod yX8_seenBy ∈ q_tbl := q_in3 (i := 63) rfl rfl
theorem we_X8_seenBy : Cond.selects RX8 yX8_seenBy yX8_seenBy ∈ q_tbl := q_in3 (i := 64) rfl rfl
theorem wc_X9_seenBy : Cond.code yX9_seenBy cX9_seenBy 8 (some .int) ∈ q_tbl := q_in4 (i := 132) rfl rfl
theorem wm_X9_seenBy : Cond.instanceMethod yX9_seenBy ∈ q_tbl := q_in4 (i := 130) rfl rfl
theorem we_X9_seenBy : Cond.selects RX9 yX9_seenBy yX9_seenBy ∈ q_tbl := q_in4 (i := 131) rfl rfl
theorem wc_X8_setKeeping : Cond.code yX8_setKeeping cX8_setKeeping 3 (some .int) ∈ q_tbl := q_in3 (i := 74) rfl rfl
theorem wm_X8_setKeeping : Cond.instanceMethod yX8_setKeeping ∈ q_tbl := q_in3 (i := 72) rfl rfl
theorem we_X8_setKeeping : Cond.selects RX8 yX8_setKeeping yX8_setKeeping ∈ q_tbl := q_in3 (i := 73) rfl rfl
theorem wc_X9_setKeeping : Cond.code yX9_setKeeping cX9_setKeeping 3 (some .int) ∈ q_tbl := q_in4 (i := 136) rfl rfl
theorem wm_X9_setKeeping : Cond.instanceMethod yX9_setKeeping ∈ q_tbl := q_in4 (i := 134) rfl rfl
theorem we_X9_setKeeping : Cond.selects RX9 yX9_setKeeping yX9_setKeeping ∈ q_tbl := q_in4 (i := 135) rfl rfl
theorem wc_X8_ask : Cond.code yX8_ask cX8_ask 6 (some .int) ∈ q_tbl := q_in3 (i := 78) rfl rfl
theorem wm_X8_ask : Cond.instanceMethod yX8_ask ∈ q_tbl := q_in3 (i := 76) rfl rfl
theorem we_X8_ask : Cond.selects RX8 yX8_ask yX8_ask ∈ q_tbl := q_in3 (i := 77) rfl rfl
theorem wc_X9_ask : Cond.code yX9_ask cX9_ask 6 (some .int) ∈ q_tbl := q_in4 (i := 140) rfl rfl
theorem wm_X9_ask : Cond.instanceMethod yX9_ask ∈ q_tbl := q_in4 (i := 138) rfl rfl
theorem we_X9_ask : Cond.selects RX9 yX9_ask yX9_ask ∈ q_tbl := q_in4 (i := 139) rfl rfl
theorem wc_X8_stale : Cond.code yX8_stale cX8_stale 3 (some .int) ∈ q_tbl := q_in3 (i := 99) rfl rfl
theorem wm_X8_stale : Cond.instanceMethod yX8_stale ∈ q_tbl := q_in3 (i := 97) rfl rfl
theorem we_X8_stale : Cond.selects RX8 yX8_stale yX8_stale ∈ q_tbl := q_in3 (i := 98) rfl rfl
theorem wc_X9_stale : Cond.code yX9_stale cX9_stale 4 (some .int) ∈ q_tbl := q_in4 (i := 152) rfl rfl
theorem wm_X9_stale : Cond.instanceMethod yX9_stale ∈ q_tbl := q_in4 (i := 150) rfl rfl
theorem we_X9_stale : Cond.selects RX9 yX9_stale yX9_stale ∈ q_tbl := q_in4 (i := 151) rfl rfl
theorem wc_X8_type : Cond.code yX8_type cX8_type 2 (some .int) ∈ q_tbl := q_in3 (i := 103) rfl rfl
theorem wm_X8_type : Cond.instanceMethod yX8_type ∈ q_tbl := q_in3 (i := 101) rfl rfl
theorem we_X8_type : Cond.selects RX8 yX8_type yX8_type ∈ q_tbl := q_in3 (i := 102) rfl rfl
theorem wc_X9_type : Cond.code yX9_type cX9_type 2 (some .int) ∈ q_tbl := q_in4 (i := 156) rfl rfl
theorem wm_X9_type : Cond.instanceMethod yX9_type ∈ q_tbl := q_in4 (i := 154) rfl rfl
theorem we_X9_type : Cond.selects RX9 yX9_type yX9_type ∈ q_tbl := q_in4 (i := 155) rfl rfl
theorem wc_X8_clearText : Cond.code yX8_clearText cX8_clearText 2 (some .int) ∈ q_tbl := q_in3 (i := 111) rfl rfl
theorem wm_X8_clearText : Cond.instanceMethod yX8_clearText ∈ q_tbl := q_in3 (i := 109) rfl rfl
theorem we_X8_clearText : Cond.selects RX8 yX8_clearText yX8_clearText ∈ q_tbl := q_in3 (i := 110) rfl rfl
theorem wc_X9_clearText : Cond.code yX9_clearText cX9_clearText 2 (some .int) ∈ q_tbl := q_in4 (i := 160) rfl rfl
theorem wm_X9_clearText : Cond.instanceMethod yX9_clearText ∈ q_tbl := q_in4 (i := 158) rfl rfl
theorem we_X9_clearText : Cond.selects RX9 yX9_clearText yX9_clearText ∈ q_tbl := q_in4 (i := 159) rfl rfl
theorem wc_X8_fault : Cond.code yX8_fault cX8_fault 1 (some .int) ∈ q_tbl := q_in3 (i := 115) rfl rfl
theorem wm_X8_fault : Cond.instanceMethod yX8_fault ∈ q_tbl := q_in3 (i := 113) rfl rfl
theorem we_X8_fault : Cond.selects RX8 yX8_fault yX8_fault ∈ q_tbl := q_in3 (i := 114) rfl rfl
theorem wc_X9_fault : Cond.code yX9_fault cX9_fault 1 (some .int) ∈ q_tbl := q_in4 (i := 164) rfl rfl
theorem wm_X9_fault : Cond.instanceMethod yX9_fault ∈ q_tbl := q_in4 (i := 162) rfl rfl
theorem we_X9_fault : Cond.selects RX9 yX9_fault yX9_fault ∈ q_tbl := q_in4 (i := 163) rfl rfl
theorem wc_X0_recordBehind : Cond.code yX0_recordBehind cX0_recordBehind 11 (some .int) ∈ q_tbl := q_in2 (i := 229) rfl rfl
theorem wi_X0 : Cond.initialized RX0 ∈ q_tbl := q_in1 (i := 5) rfl rfl
theorem wm_X0_recordBehind : Cond.instanceMethod yX0_recordBehind ∈ q_tbl := q_in2 (i := 227) rfl rfl
theorem we_X0_recordBehind : Cond.selects RX0 yX0_recordBehind yX0_recordBehind ∈ q_tbl := q_in2 (i := 228) rfl rfl
theorem cl_X0_25 : q_CV RX0 25 0 yX0_recordBehind cX0_recordBehind 11 (some .int) 4 := ⟨RX0, TX0, 2, rfl, rfl, q_in2 (i := 226) rfl rfl, wm_X0_recordBehind, we_X0_recordBehind, wi_X0, wc_X0_recordBehind, ⟨by decide +kernel, by decide +kernel, by decide +kernel⟩, by decide⟩
theorem wc_X7_responsible : Cond.code yX7_responsible cX7_responsible 7 (some .int) ∈ q_tbl := q_in2 (i := 233) rfl rfl
theorem wi_X7 : Cond.initialized RX7 ∈ q_tbl := q_in1 (i := 6) rfl rfl
theorem wm_X7_responsible : Cond.instanceMethod yX7_responsible ∈ q_tbl := q_in2 (i := 231) rfl rfl
theorem we_X7_responsible : Cond.selects RX7 yX7_responsible yX7_responsible ∈ q_tbl := q_in2 (i := 232) rfl rfl
theorem cl_X0_33 : q_CV RX0 33 6 yX7_responsible cX7_responsible 7 (some .int) 3 := ⟨RX7, TX7, 3, rfl, rfl, q_in2 (i := 230) rfl rfl, wm_X7_responsible, we_X7_responsible, wi_X7, wc_X7_responsible, ⟨by decide +kernel, by decide +kernel, by decide +kernel⟩, by decide⟩
theorem wc_X0_standingFor : Cond.code yX0_standingFor cX0_standingFor 6 (some .int) ∈ q_tbl := q_in3 (i := 5) rfl rfl
theorem wm_X0_standingFor : Cond.instanceMethod yX0_standingFor ∈ q_tbl := q_in3 (i := 3) rfl rfl
theorem we_X0_standingFor : Cond.selects RX0 yX0_standingFor yX0_standingFor ∈ q_tbl := q_in3 (i := 4) rfl rfl
theorem cl_X0_37 : q_CV RX0 37 0 yX0_standingFor cX0_standingFor 6 (some .int) 3 := ⟨RX0, TX0, 2, rfl, rfl, q_in3 (i := 2) rfl rfl, wm_X0_standingFor, we_X0_standingFor, wi_X0, wc_X0_standingFor, ⟨by decide +kernel, by decide +kernel, by decide +kernel⟩, by decide⟩
theorem wc_X4_find : Cond.code yX4_find cX4_find 6 (some .int) ∈ q_tbl := q_in2 (i := 131) rfl rfl
theorem wi_X4 : Cond.initialized RX4 ∈ q_tbl := q_in1 (i := 7) rfl rfl
theorem wm_X4_find : Cond.instanceMethod yX4_find ∈ q_tbl := q_in2 (i := 129) rfl rfl
theorem we_X4_find : Cond.selects RX4 yX4_find yX4_find ∈ q_tbl := q_in2 (i := 130) rfl rfl
theorem cl_X0_40 : q_CV RX0 40 3 yX4_find cX4_find 6 (some .int) 4 := ⟨RX4, TX4, 5, rfl, rfl, q_in3 (i := 19) rfl rfl, wm_X4_find, we_X4_find, wi_X4, wc_X4_find, ⟨by decide +kernel, by decide +kernel, by decide +kernel⟩, by decide⟩
theorem wc_X4_exists : Cond.code yX4_exists cX4_exists 5 (some .boolean) ∈ q_tbl := q_in3 (i := 9) rfl rfl
theorem wm_X4_exists : Cond.instanceMethod yX4_exists ∈ q_tbl := q_in3 (i := 7) rfl rfl
theorem we_X4_exists : Cond.selects RX4 yX4_exists yX4_exists ∈ q_tbl := q_in3 (i := 8) rfl rfl
theorem cl_X0_43 : q_CV RX0 43 3 yX4_exists cX4_exists 5 (some .boolean) 3 := ⟨RX4, TX4, 5, rfl, rfl, q_in3 (i := 6) rfl rfl, wm_X4_exists, we_X4_exists, wi_X4, wc_X4_exists, ⟨by decide +kernel, by decide +kernel, by decide +kernel⟩, by decide⟩
theorem wc_X2_isPattern : Cond.code yX2_isPattern cX2_isPattern 1 (some .boolean) ∈ q_tbl := q_in2 (i := 69) rfl rfl
theorem wi_X2 : Cond.initialized RX2 ∈ q_tbl := q_in1 (i := 11) rfl rfl
theorem wt_X2_isPattern : Cond.static yX2_isPattern ∈ q_tbl := q_in2 (i := 68) rfl rfl
theorem cl_X0_47 : q_CS RX0 47 yX2_isPattern cX2_isPattern 1 (some .boolean) 1 := ⟨q_in3 (i := 11) rfl rfl, wt_X2_isPattern, wi_X2, wc_X2_isPattern, ⟨by decide +kernel, by decide +kernel, by decide +kernel⟩, by decide⟩
theorem wc_X2_patternFor : Cond.code yX2_patternFor cX2_patternFor 2 (some .int) ∈ q_tbl := q_in3 (i := 14) rfl rfl
theorem wt_X2_patternFor : Cond.static yX2_patternFor ∈ q_tbl := q_in3 (i := 13) rfl rfl
theorem cl_X0_53 : q_CS RX0 53 yX2_patternFor cX2_patternFor 2 (some .int) 1 := ⟨q_in3 (i := 12) rfl rfl, wt_X2_patternFor, wi_X2, wc_X2_patternFor, ⟨by decide +kernel, by decide +kernel, by decide +kernel⟩, by decide⟩
theorem wc_X2_isBelow : Cond.code yX2_isBelow cX2_isBelow 2 (some .boolean) ∈ q_tbl := q_in3 (i := 17) rfl rfl
theorem wt_X2_isBelow : Cond.static yX2_isBelow ∈ q_tbl := q_in3 (i := 16) rfl rfl
theorem cl_X0_60 : q_CS RX0 60 yX2_isBelow cX2_isBelow 2 (some .boolean) 2 := ⟨q_in3 (i := 15) rfl rfl, wt_X2_isBelow, wi_X2, wc_X2_isBelow, ⟨by decide +kernel, by decide +kernel, by decide +kernel⟩, by decide⟩
theorem wc_X5_isThere : Cond.code yX5_isThere cX5_isThere 3 (some .boolean) ∈ q_tbl := q_in2 (i := 37) rfl rfl
theorem wi_X5 : Cond.initialized RX5 ∈ q_tbl := q_in1 (i := 3) rfl rfl
theorem wm_X5_isThere : Cond.instanceMethod yX5_isThere ∈ q_tbl := q_in2 (i := 35) rfl rfl
theorem we_X5_isThere : Cond.selects RX5 yX5_isThere yX5_isThere ∈ q_tbl := q_in2 (i := 36) rfl rfl
theorem cl_X0_74 : q_CV RX0 74 4 yX5_isThere cX5_isThere 3 (some .boolean) 2 := ⟨RX5, TX5, 4, rfl, rfl, q_in2 (i := 109) rfl rfl, wm_X5_isThere, we_X5_isThere, wi_X5, wc_X5_isThere, ⟨by decide +kernel, by decide +kernel, by decide +kernel⟩, by decide⟩
theorem wc_X4_countIn : Cond.code yX4_countIn cX4_countIn 5 (some .int) ∈ q_tbl := q_in2 (i := 90) rfl rfl
theorem wm_X4_countIn : Cond.instanceMethod yX4_countIn ∈ q_tbl := q_in2 (i := 88) rfl rfl
theorem we_X4_countIn : Cond.selects RX4 yX4_countIn yX4_countIn ∈ q_tbl := q_in2 (i := 89) rfl rfl
theorem cl_X0_77 : q_CV RX0 77 3 yX4_countIn cX4_countIn 5 (some .int) 2 := ⟨RX4, TX4, 5, rfl, rfl, q_in2 (i := 110) rfl rfl, wm_X4_countIn, we_X4_countIn, wi_X4, wc_X4_countIn, ⟨by decide +kernel, by decide +kernel, by decide +kernel⟩, by decide⟩
theorem wc_X0_laterUpTo : Cond.code yX0_laterUpTo cX0_laterUpTo 3 (some .int) ∈ q_tbl := q_in3 (i := 60) rfl rfl
theorem wt_X0_laterUpTo : Cond.static yX0_laterUpTo ∈ q_tbl := q_in3 (i := 59) rfl rfl
theorem cl_X0_84 : q_CS RX0 84 yX0_laterUpTo cX0_laterUpTo 3 (some .int) 3 := ⟨q_in3 (i := 58) rfl rfl, wt_X0_laterUpTo, wi_X0, wc_X0_laterUpTo, ⟨by decide +kernel, by decide +kernel, by decide +kernel⟩, by decide⟩
theorem ml_X0_91 : Cond.methodLink RX0 91 Lib.Math.max.name ∈ q_tbl := q_in3 (i := 61) rfl rfl
theorem wc_X1_find : Cond.code yX1_find cX1_find 5 (some .int) ∈ q_tbl := q_in3 (i := 82) rfl rfl
theorem wi_X1 : Cond.initialized RX1 ∈ q_tbl := q_in1 (i := 8) rfl rfl
theorem wm_X1_find : Cond.instanceMethod yX1_find ∈ q_tbl := q_in3 (i := 80) rfl rfl
theorem we_X1_find : Cond.selects RX1 yX1_find yX1_find ∈ q_tbl := q_in3 (i := 81) rfl rfl
theorem cl_X1_37 : q_CV RX1 37 1 yX1_find cX1_find 5 (some .int) 3 := ⟨RX1, TX1, 8, rfl, rfl, q_in3 (i := 91) rfl rfl, wm_X1_find, we_X1_find, wi_X1, wc_X1_find, ⟨by decide +kernel, by decide +kernel, by decide +kernel⟩, by decide⟩
theorem wc_X1_forget : Cond.code yX1_forget cX1_forget 3 none ∈ q_tbl := q_in3 (i := 95) rfl rfl
theorem wm_X1_forget : Cond.instanceMethod yX1_forget ∈ q_tbl := q_in3 (i := 94) rfl rfl
theorem we_X1_forget : Cond.selects RX1 yX1_forget yX1_forget ∈ q_tbl := q_in0 (i := 10) rfl rfl
theorem cl_X1_41 : q_CV RX1 41 1 yX1_forget cX1_forget 3 none 1 := ⟨RX1, TX1, 8, rfl, rfl, q_in3 (i := 92) rfl rfl, wm_X1_forget, we_X1_forget, wi_X1, wc_X1_forget, ⟨by decide +kernel, by decide +kernel, by decide +kernel⟩, by decide⟩
theorem wc_X2_lastWeight : Cond.code yX2_lastWeight cX2_lastWeight 1 (some .int) ∈ q_tbl := q_in2 (i := 72) rfl rfl
theorem wt_X2_lastWeight : Cond.static yX2_lastWeight ∈ q_tbl := q_in2 (i := 71) rfl rfl
theorem cl_X2_9 : q_CS RX2 9 yX2_lastWeight cX2_lastWeight 1 (some .int) 1 := ⟨q_in2 (i := 70) rfl rfl, wt_X2_lastWeight, wi_X2, wc_X2_lastWeight, ⟨by decide +kernel, by decide +kernel, by decide +kernel⟩, by decide⟩
theorem wc_X2_isAt : Cond.code yX2_isAt cX2_isAt 2 (some .boolean) ∈ q_tbl := q_in2 (i := 123) rfl rfl
theorem wt_X2_isAt : Cond.static yX2_isAt ∈ q_tbl := q_in2 (i := 122) rfl rfl
theorem cl_X2_13 : q_CS RX2 13 yX2_isAt cX2_isAt 2 (some .boolean) 2 := ⟨q_in3 (i := 18) rfl rfl, wt_X2_isAt, wi_X2, wc_X2_isAt, ⟨by decide +kernel, by decide +kernel, by decide +kernel⟩, by decide⟩
theorem wc_X5_begin : Cond.code yX5_begin cX5_begin 3 (some .int) ∈ q_tbl := q_in2 (i := 24) rfl rfl
theorem wm_X5_begin : Cond.instanceMethod yX5_begin ∈ q_tbl := q_in2 (i := 22) rfl rfl
theorem we_X5_begin : Cond.selects RX5 yX5_begin yX5_begin ∈ q_tbl := q_in2 (i := 23) rfl rfl
theorem cl_X3_30 : q_CV RX3 30 4 yX5_begin cX5_begin 3 (some .int) 1 := ⟨RX5, TX5, 4, rfl, rfl, q_in2 (i := 21) rfl rfl, wm_X5_begin, we_X5_begin, wi_X5, wc_X5_begin, ⟨by decide +kernel, by decide +kernel, by decide +kernel⟩, by decide⟩
theorem wc_X3_contains : Cond.code yX3_contains cX3_contains 4 (some .boolean) ∈ q_tbl := q_in2 (i := 58) rfl rfl
theorem wi_X3 : Cond.initialized RX3 ∈ q_tbl := q_in1 (i := 2) rfl rfl
theorem wm_X3_contains : Cond.instanceMethod yX3_contains ∈ q_tbl := q_in2 (i := 56) rfl rfl
theorem we_X3_contains : Cond.selects RX3 yX3_contains yX3_contains ∈ q_tbl := q_in2 (i := 57) rfl rfl
theorem cl_X3_38 : q_CV RX3 38 2 yX3_contains cX3_contains 4 (some .boolean) 2 := ⟨RX3, TX3, 4, rfl, rfl, q_in2 (i := 55) rfl rfl, wm_X3_contains, we_X3_contains, wi_X3, wc_X3_contains, ⟨by decide +kernel, by decide +kernel, by decide +kernel⟩, by decide⟩
theorem cl_X3_42 : q_CV RX3 42 4 yX5_isThere cX5_isThere 3 (some .boolean) 2 := ⟨RX5, TX5, 4, rfl, rfl, q_in2 (i := 59) rfl rfl, wm_X5_isThere, we_X5_isThere, wi_X5, wc_X5_isThere, ⟨by decide +kernel, by decide +kernel, by decide +kernel⟩, by decide⟩
theorem wc_X3_viewAt : Cond.code yX3_viewAt cX3_viewAt 6 (some .int) ∈ q_tbl := q_in2 (i := 54) rfl rfl
theorem wm_X3_viewAt : Cond.instanceMethod yX3_viewAt ∈ q_tbl := q_in2 (i := 52) rfl rfl
theorem we_X3_viewAt : Cond.selects RX3 yX3_viewAt yX3_viewAt ∈ q_tbl := q_in2 (i := 53) rfl rfl
theorem cl_X3_45 : q_CV RX3 45 2 yX3_viewAt cX3_viewAt 6 (some .int) 2 := ⟨RX3, TX3, 4, rfl, rfl, q_in3 (i := 70) rfl rfl, wm_X3_viewAt, we_X3_viewAt, wi_X3, wc_X3_viewAt, ⟨by decide +kernel, by decide +kernel, by decide +kernel⟩, by decide⟩
theorem cl_X4_37 : q_CV RX4 37 4 yX5_isThere cX5_isThere 3 (some .boolean) 2 := ⟨RX5, TX5, 4, rfl, rfl, q_in2 (i := 91) rfl rfl, wm_X5_isThere, we_X5_isThere, wi_X5, wc_X5_isThere, ⟨by decide +kernel, by decide +kernel, by decide +kernel⟩, by decide⟩
theorem cl_X4_41 : q_CS RX4 41 yX2_isAt cX2_isAt 2 (some .boolean) 2 := ⟨q_in3 (i := 10) rfl rfl, wt_X2_isAt, wi_X2, wc_X2_isAt, ⟨by decide +kernel, by decide +kernel, by decide +kernel⟩, by decide⟩
theorem cl_X4_46 : q_CV RX4 46 3 yX4_find cX4_find 6 (some .int) 4 := ⟨RX4, TX4, 5, rfl, rfl, q_in2 (i := 128) rfl rfl, wm_X4_find, we_X4_find, wi_X4, wc_X4_find, ⟨by decide +kernel, by decide +kernel, by decide +kernel⟩, by decide⟩
theorem wc_X5_end : Cond.code yX5_end cX5_end 3 none ∈ q_tbl := q_in2 (i := 41) rfl rfl
theorem wm_X5_end : Cond.instanceMethod yX5_end ∈ q_tbl := q_in2 (i := 39) rfl rfl
theorem we_X5_end : Cond.selects RX5 yX5_end yX5_end ∈ q_tbl := q_in2 (i := 40) rfl rfl
theorem cl_X4_50 : q_CV RX4 50 4 yX5_end cX5_end 3 none 2 := ⟨RX5, TX5, 4, rfl, rfl, q_in2 (i := 132) rfl rfl, wm_X5_end, we_X5_end, wi_X5, wc_X5_end, ⟨by decide +kernel, by decide +kernel, by decide +kernel⟩, by decide⟩
theorem wc_X4_note : Cond.code yX4_note cX4_note 7 (some .int) ∈ q_tbl := q_in2 (i := 136) rfl rfl
theorem wm_X4_note : Cond.instanceMethod yX4_note ∈ q_tbl := q_in2 (i := 135) rfl rfl
theorem we_X4_note : Cond.selects RX4 yX4_note yX4_note ∈ q_tbl := q_in0 (i := 1) rfl rfl
theorem cl_X4_54 : q_CV RX4 54 3 yX4_note cX4_note 7 (some .int) 5 := ⟨RX4, TX4, 5, rfl, rfl, q_in2 (i := 133) rfl rfl, wm_X4_note, we_X4_note, wi_X4, wc_X4_note, ⟨by decide +kernel, by decide +kernel, by decide +kernel⟩, by decide⟩
theorem wc_X5_isMade : Cond.code yX5_isMade cX5_isMade 2 (some .boolean) ∈ q_tbl := q_in2 (i := 33) rfl rfl
theorem wm_X5_isMade : Cond.instanceMethod yX5_isMade ∈ q_tbl := q_in2 (i := 31) rfl rfl
theorem we_X5_isMade : Cond.selects RX5 yX5_isMade yX5_isMade ∈ q_tbl := q_in2 (i := 32) rfl rfl
theorem cl_X4_58 : q_CV RX4 58 4 yX5_isMade cX5_isMade 2 (some .boolean) 1 := ⟨RX5, TX5, 4, rfl, rfl, q_in2 (i := 147) rfl rfl, wm_X5_isMade, we_X5_isMade, wi_X5, wc_X5_isMade, ⟨by decide +kernel, by decide +kernel, by decide +kernel⟩, by decide⟩
theorem cl_X4_62 : q_CV RX4 62 4 yX5_begin cX5_begin 3 (some .int) 1 := ⟨RX5, TX5, 4, rfl, rfl, q_in2 (i := 137) rfl rfl, wm_X5_begin, we_X5_begin, wi_X5, wc_X5_begin, ⟨by decide +kernel, by decide +kernel, by decide +kernel⟩, by decide⟩
theorem ml_X5_9 : Cond.methodLink RX5 9 Lib.Math.max.name ∈ q_tbl := q_in1 (i := 32) rfl rfl
theorem cl_X5_31 : q_CV RX5 31 4 yX5_isThere cX5_isThere 3 (some .boolean) 2 := ⟨RX5, TX5, 4, rfl, rfl, q_in2 (i := 104) rfl rfl, wm_X5_isThere, we_X5_isThere, wi_X5, wc_X5_isThere, ⟨by decide +kernel, by decide +kernel, by decide +kernel⟩, by decide⟩
theorem wc_X5_isFull : Cond.code yX5_isFull cX5_isFull 1 (some .boolean) ∈ q_tbl := q_in2 (i := 16) rfl rfl
theorem wm_X5_isFull : Cond.instanceMethod yX5_isFull ∈ q_tbl := q_in2 (i := 14) rfl rfl
theorem we_X5_isFull : Cond.selects RX5 yX5_isFull yX5_isFull ∈ q_tbl := q_in2 (i := 15) rfl rfl
theorem cl_X5_35 : q_CV RX5 35 4 yX5_isFull cX5_isFull 1 (some .boolean) 0 := ⟨RX5, TX5, 4, rfl, rfl, q_in2 (i := 25) rfl rfl, wm_X5_isFull, we_X5_isFull, wi_X5, wc_X5_isFull, ⟨by decide +kernel, by decide +kernel, by decide +kernel⟩, by decide⟩
theorem cl_X5_39 : q_CV RX5 39 4 yX5_isMade cX5_isMade 2 (some .boolean) 1 := ⟨RX5, TX5, 4, rfl, rfl, q_in2 (i := 42) rfl rfl, wm_X5_isMade, we_X5_isMade, wi_X5, wc_X5_isMade, ⟨by decide +kernel, by decide +kernel, by decide +kernel⟩, by decide⟩
theorem wc_X6_readChange : Cond.code yX6_readChange cX6_readChange 7 (some .int) ∈ q_tbl := q_in2 (i := 179) rfl rfl
theorem wi_X6 : Cond.initialized RX6 ∈ q_tbl := q_in1 (i := 9) rfl rfl
theorem wm_X6_readChange : Cond.instanceMethod yX6_readChange ∈ q_tbl := q_in2 (i := 178) rfl rfl
theorem we_X6_readChange : Cond.selects RX6 yX6_readChange yX6_readChange ∈ q_tbl := q_in0 (i := 2) rfl rfl
theorem cl_X6_31 : q_CV RX6 31 5 yX6_readChange cX6_readChange 7 (some .int) 1 := ⟨RX6, TX6, 6, rfl, rfl, q_in2 (i := 176) rfl rfl, wm_X6_readChange, we_X6_readChange, wi_X6, wc_X6_readChange, ⟨by decide +kernel, by decide +kernel, by decide +kernel⟩, by decide⟩
theorem cl_X6_35 : q_CS RX6 35 yX2_isAt cX2_isAt 2 (some .boolean) 2 := ⟨q_in2 (i := 202) rfl rfl, wt_X2_isAt, wi_X2, wc_X2_isAt, ⟨by decide +kernel, by decide +kernel, by decide +kernel⟩, by decide⟩
theorem wc_X6_digits : Cond.code yX6_digits cX6_digits 5 (some .int) ∈ q_tbl := q_in2 (i := 183) rfl rfl
theorem wm_X6_digits : Cond.instanceMethod yX6_digits ∈ q_tbl := q_in2 (i := 182) rfl rfl
theorem we_X6_digits : Cond.selects RX6 yX6_digits yX6_digits ∈ q_tbl := q_in0 (i := 3) rfl rfl
theorem cl_X6_41 : q_CV RX6 41 5 yX6_digits cX6_digits 5 (some .int) 3 := ⟨RX6, TX6, 6, rfl, rfl, q_in2 (i := 180) rfl rfl, wm_X6_digits, we_X6_digits, wi_X6, wc_X6_digits, ⟨by decide +kernel, by decide +kernel, by decide +kernel⟩, by decide⟩
theorem wc_X6_characterAt : Cond.code yX6_characterAt cX6_characterAt 2 (some .int) ∈ q_tbl := q_in2 (i := 187) rfl rfl
theorem wm_X6_characterAt : Cond.instanceMethod yX6_characterAt ∈ q_tbl := q_in2 (i := 186) rfl rfl
theorem we_X6_characterAt : Cond.selects RX6 yX6_characterAt yX6_characterAt ∈ q_tbl := q_in0 (i := 4) rfl rfl
theorem cl_X6_45 : q_CV RX6 45 5 yX6_characterAt cX6_characterAt 2 (some .int) 1 := ⟨RX6, TX6, 6, rfl, rfl, q_in2 (i := 184) rfl rfl, wm_X6_characterAt, we_X6_characterAt, wi_X6, wc_X6_characterAt, ⟨by decide +kernel, by decide +kernel, by decide +kernel⟩, by decide⟩
theorem wc_X8_isType : Cond.code yX8_isType cX8_isType 1 (some .boolean) ∈ q_tbl := q_in2 (i := 120) rfl rfl
theorem wt_X8_isType : Cond.static yX8_isType ∈ q_tbl := q_in2 (i := 119) rfl rfl
theorem cl_X6_48 : (Cond.methodLinkNest RX6 48 yX8_isType RX8 = Cond.methodLinkNest RX6 48 yX8_isType RX8 ∨ Cond.methodLinkNest RX6 48 yX8_isType RX8 = Cond.methodLinkNest RX6 61 yX8_isValue RX8) ∧ Cond.static yX8_isType ∈ q_tbl ∧ Cond.initialized (yX8_isType).cls ∈ q_tbl ∧ Cond.code yX8_isType cX8_isType 1 (some .boolean) ∈ q_tbl ∧ ((yX8_isType).cls ≠ "java/lang/invoke/MethodHandle" ∧ (yX8_isType).cls ≠ "java/lang/invoke/VarHandle" ∧ (parseMethodDescriptor (yX8_isType).desc).map (fun d => d.parameters.length) = some 1) ∧ 1 ≤ 11 := ⟨Or.inl rfl, wt_X8_isType, wi_X8, wc_X8_isType, ⟨by decide +kernel, by decide +kernel, by decide +kernel⟩, by decide⟩
theorem wc_X6_nameIn : Cond.code yX6_nameIn cX6_nameIn 5 (some .int) ∈ q_tbl := q_in2 (i := 192) rfl rfl
theorem wm_X6_nameIn : Cond.instanceMethod yX6_nameIn ∈ q_tbl := q_in2 (i := 191) rfl rfl
theorem we_X6_nameIn : Cond.selects RX6 yX6_nameIn yX6_nameIn ∈ q_tbl := q_in0 (i := 5) rfl rfl
theorem cl_X6_54 : q_CV RX6 54 5 yX6_nameIn cX6_nameIn 5 (some .int) 2 := ⟨RX6, TX6, 6, rfl, rfl, q_in2 (i := 189) rfl rfl, wm_X6_nameIn, we_X6_nameIn, wi_X6, wc_X6_nameIn, ⟨by decide +kernel, by decide +kernel, by decide +kernel⟩, by decide⟩
theorem wc_X6_numberIn : Cond.code yX6_numberIn cX6_numberIn 5 (some .int) ∈ q_tbl := q_in2 (i := 196) rfl rfl
theorem wm_X6_numberIn : Cond.instanceMethod yX6_numberIn ∈ q_tbl := q_in2 (i := 195) rfl rfl
theorem we_X6_numberIn : Cond.selects RX6 yX6_numberIn yX6_numberIn ∈ q_tbl := q_in0 (i := 6) rfl rfl
theorem cl_X6_58 : q_CV RX6 58 5 yX6_numberIn cX6_numberIn 5 (some .int) 2 := ⟨RX6, TX6, 6, rfl, rfl, q_in2 (i := 193) rfl rfl, wm_X6_numberIn, we_X6_numberIn, wi_X6, wc_X6_numberIn, ⟨by decide +kernel, by decide +kernel, by decide +kernel⟩, by decide⟩
theorem wc_X8_isValue : Cond.code yX8_isValue cX8_isValue 2 (some .boolean) ∈ q_tbl := q_in2 (i := 117) rfl rfl
theorem wt_X8_isValue : Cond.static yX8_isValue ∈ q_tbl := q_in2 (i := 116) rfl rfl
theorem cl_X6_61 : (Cond.methodLinkNest RX6 61 yX8_isValue RX8 = Cond.methodLinkNest RX6 48 yX8_isType RX8 ∨ Cond.methodLinkNest RX6 61 yX8_isValue RX8 = Cond.methodLinkNest RX6 61 yX8_isValue RX8) ∧ Cond.static yX8_isValue ∈ q_tbl ∧ Cond.initialized (yX8_isValue).cls ∈ q_tbl ∧ Cond.code yX8_isValue cX8_isValue 2 (some .boolean) ∈ q_tbl ∧ ((yX8_isValue).cls ≠ "java/lang/invoke/MethodHandle" ∧ (yX8_isValue).cls ≠ "java/lang/invoke/VarHandle" ∧ (parseMethodDescriptor (yX8_isValue).desc).map (fun d => d.parameters.length) = some 2) ∧ 2 ≤ 11 := ⟨Or.inr rfl, wt_X8_isValue, wi_X8, wc_X8_isValue, ⟨by decide +kernel, by decide +kernel, by decide +kernel⟩, by decide⟩
theorem cl_X7_27 : q_CV RX7 27 4 yX5_begin cX5_begin 3 (some .int) 1 := ⟨RX5, TX5, 4, rfl, rfl, q_in2 (i := 82) rfl rfl, wm_X5_begin, we_X5_begin, wi_X5, wc_X5_begin, ⟨by decide +kernel, by decide +kernel, by decide +kernel⟩, by decide⟩
theorem cl_X7_35 : q_CV RX7 35 4 yX5_isThere cX5_isThere 3 (some .boolean) 2 := ⟨RX5, TX5, 4, rfl, rfl, q_in2 (i := 77) rfl rfl, wm_X5_isThere, we_X5_isThere, wi_X5, wc_X5_isThere, ⟨by decide +kernel, by decide +kernel, by decide +kernel⟩, by decide⟩
theorem cl_X7_39 : q_CS RX7 39 yX2_isAt cX2_isAt 2 (some .boolean) 2 := ⟨q_in2 (i := 234) rfl rfl, wt_X2_isAt, wi_X2, wc_X2_isAt, ⟨by decide +kernel, by decide +kernel, by decide +kernel⟩, by decide⟩
theorem wc_X7_hides : Cond.code yX7_hides cX7_hides 3 (some .boolean) ∈ q_tbl := q_in2 (i := 238) rfl rfl
theorem wm_X7_hides : Cond.instanceMethod yX7_hides ∈ q_tbl := q_in2 (i := 236) rfl rfl
theorem we_X7_hides : Cond.selects RX7 yX7_hides yX7_hides ∈ q_tbl := q_in2 (i := 237) rfl rfl
theorem cl_X7_44 : q_CV RX7 44 6 yX7_hides cX7_hides 3 (some .boolean) 2 := ⟨RX7, TX7, 3, rfl, rfl, q_in2 (i := 235) rfl rfl, wm_X7_hides, we_X7_hides, wi_X7, wc_X7_hides, ⟨by decide +kernel, by decide +kernel, by decide +kernel⟩, by decide⟩
theorem wc_X2_isLonger : Cond.code yX2_isLonger cX2_isLonger 2 (some .boolean) ∈ q_tbl := q_in3 (i := 1) rfl rfl
theorem wt_X2_isLonger : Cond.static yX2_isLonger ∈ q_tbl := q_in3 (i := 0) rfl rfl
theorem cl_X7_47 : q_CS RX7 47 yX2_isLonger cX2_isLonger 2 (some .boolean) 2 := ⟨q_in2 (i := 239) rfl rfl, wt_X2_isLonger, wi_X2, wc_X2_isLonger, ⟨by decide +kernel, by decide +kernel, by decide +kernel⟩, by decide⟩
theorem wc_X8_isView : Cond.code yX8_isView cX8_isView 1 (some .boolean) ∈ q_tbl := q_in2 (i := 6) rfl rfl
theorem wt_X8_isView : Cond.static yX8_isView ∈ q_tbl := q_in2 (i := 5) rfl rfl
theorem cl_X8_51 : q_CS RX8 51 yX8_isView cX8_isView 1 (some .boolean) 1 := ⟨q_in2 (i := 4) rfl rfl, wt_X8_isView, wi_X8, wc_X8_isView, ⟨by decide +kernel, by decide +kernel, by decide +kernel⟩, by decide⟩
theorem wc_X8_isAddress : Cond.code yX8_isAddress cX8_isAddress 1 (some .boolean) ∈ q_tbl := q_in2 (i := 9) rfl rfl
theorem wt_X8_isAddress : Cond.static yX8_isAddress ∈ q_tbl := q_in2 (i := 8) rfl rfl
theorem cl_X8_55 : q_CS RX8 55 yX8_isAddress cX8_isAddress 1 (some .boolean) 1 := ⟨q_in2 (i := 7) rfl rfl, wt_X8_isAddress, wi_X8, wc_X8_isAddress, ⟨by decide +kernel, by decide +kernel, by decide +kernel⟩, by decide⟩
theorem wc_X3_isLength : Cond.code yX3_isLength cX3_isLength 1 (some .boolean) ∈ q_tbl := q_in2 (i := 12) rfl rfl
theorem wt_X3_isLength : Cond.static yX3_isLength ∈ q_tbl := q_in2 (i := 11) rfl rfl
theorem cl_X8_58 : q_CS RX8 58 yX3_isLength cX3_isLength 1 (some .boolean) 1 := ⟨q_in2 (i := 10) rfl rfl, wt_X3_isLength, wi_X3, wc_X3_isLength, ⟨by decide +kernel, by decide +kernel, by decide +kernel⟩, by decide⟩
theorem cl_X8_65 : q_CV RX8 65 4 yX5_isFull cX5_isFull 1 (some .boolean) 0 := ⟨RX5, TX5, 4, rfl, rfl, q_in2 (i := 13) rfl rfl, wm_X5_isFull, we_X5_isFull, wi_X5, wc_X5_isFull, ⟨by decide +kernel, by decide +kernel, by decide +kernel⟩, by decide⟩
theorem wc_X3_make : Cond.code yX3_make cX3_make 6 (some .int) ∈ q_tbl := q_in2 (i := 20) rfl rfl
theorem wm_X3_make : Cond.instanceMethod yX3_make ∈ q_tbl := q_in2 (i := 18) rfl rfl
theorem we_X3_make : Cond.selects RX3 yX3_make yX3_make ∈ q_tbl := q_in2 (i := 19) rfl rfl
theorem cl_X8_71 : q_CV RX8 71 2 yX3_make cX3_make 6 (some .int) 4 := ⟨RX3, TX3, 4, rfl, rfl, q_in2 (i := 17) rfl rfl, wm_X3_make, we_X3_make, wi_X3, wc_X3_make, ⟨by decide +kernel, by decide +kernel, by decide +kernel⟩, by decide⟩
theorem cl_X8_75 : q_CV RX8 75 4 yX5_isMade cX5_isMade 2 (some .boolean) 1 := ⟨RX5, TX5, 4, rfl, rfl, q_in2 (i := 30) rfl rfl, wm_X5_isMade, we_X5_isMade, wi_X5, wc_X5_isMade, ⟨by decide +kernel, by decide +kernel, by decide +kernel⟩, by decide⟩
theorem cl_X8_78 : q_CV RX8 78 4 yX5_isThere cX5_isThere 3 (some .boolean) 2 := ⟨RX5, TX5, 4, rfl, rfl, q_in2 (i := 34) rfl rfl, wm_X5_isThere, we_X5_isThere, wi_X5, wc_X5_isThere, ⟨by decide +kernel, by decide +kernel, by decide +kernel⟩, by decide⟩
theorem cl_X8_82 : q_CV RX8 82 4 yX5_end cX5_end 3 none 2 := ⟨RX5, TX5, 4, rfl, rfl, q_in2 (i := 38) rfl rfl, wm_X5_end, we_X5_end, wi_X5, wc_X5_end, ⟨by decide +kernel, by decide +kernel, by decide +kernel⟩, by decide⟩
theorem wc_X8_isTick : Cond.code yX8_isTick cX8_isTick 2 (some .boolean) ∈ q_tbl := q_in2 (i := 50) rfl rfl
theorem wm_X8_isTick : Cond.instanceMethod yX8_isTick ∈ q_tbl := q_in2 (i := 49) rfl rfl
theorem we_X8_isTick : Cond.selects RX8 yX8_isTick yX8_isTick ∈ q_tbl := q_in0 (i := 0) rfl rfl
theorem cl_X8_90 : q_CV RX8 90 7 yX8_isTick cX8_isTick 2 (some .boolean) 1 := ⟨RX8, TX8, 7, rfl, rfl, q_in2 (i := 47) rfl rfl, wm_X8_isTick, we_X8_isTick, wi_X8, wc_X8_isTick, ⟨by decide +kernel, by decide +kernel, by decide +kernel⟩, by decide⟩
theorem cl_X8_93 : q_CV RX8 93 2 yX3_viewAt cX3_viewAt 6 (some .int) 2 := ⟨RX3, TX3, 4, rfl, rfl, q_in2 (i := 51) rfl rfl, wm_X3_viewAt, we_X3_viewAt, wi_X3, wc_X3_viewAt, ⟨by decide +kernel, by decide +kernel, by decide +kernel⟩, by decide⟩
theorem wc_X2_isName : Cond.code yX2_isName cX2_isName 3 (some .boolean) ∈ q_tbl := q_in2 (i := 66) rfl rfl
theorem wt_X2_isName : Cond.static yX2_isName ∈ q_tbl := q_in2 (i := 65) rfl rfl
theorem cl_X8_97 : q_CS RX8 97 yX2_isName cX2_isName 3 (some .boolean) 1 := ⟨q_in2 (i := 64) rfl rfl, wt_X2_isName, wi_X2, wc_X2_isName, ⟨by decide +kernel, by decide +kernel, by decide +kernel⟩, by decide⟩
theorem cl_X8_102 : q_CS RX8 102 yX2_isPattern cX2_isPattern 1 (some .boolean) 1 := ⟨q_in2 (i := 67) rfl rfl, wt_X2_isPattern, wi_X2, wc_X2_isPattern, ⟨by decide +kernel, by decide +kernel, by decide +kernel⟩, by decide⟩
theorem wc_X7_find : Cond.code yX7_find cX7_find 5 (some .int) ∈ q_tbl := q_in2 (i := 76) rfl rfl
theorem wm_X7_find : Cond.instanceMethod yX7_find ∈ q_tbl := q_in2 (i := 74) rfl rfl
theorem we_X7_find : Cond.selects RX7 yX7_find yX7_find ∈ q_tbl := q_in2 (i := 75) rfl rfl
theorem cl_X8_105 : q_CV RX8 105 6 yX7_find cX7_find 5 (some .int) 3 := ⟨RX7, TX7, 3, rfl, rfl, q_in2 (i := 73) rfl rfl, wm_X7_find, we_X7_find, wi_X7, wc_X7_find, ⟨by decide +kernel, by decide +kernel, by decide +kernel⟩, by decide⟩
theorem wc_X7_make : Cond.code yX7_make cX7_make 5 (some .int) ∈ q_tbl := q_in2 (i := 81) rfl rfl
theorem wm_X7_make : Cond.instanceMethod yX7_make ∈ q_tbl := q_in2 (i := 79) rfl rfl
theorem we_X7_make : Cond.selects RX7 yX7_make yX7_make ∈ q_tbl := q_in2 (i := 80) rfl rfl
theorem cl_X8_112 : q_CV RX8 112 6 yX7_make cX7_make 5 (some .int) 3 := ⟨RX7, TX7, 3, rfl, rfl, q_in2 (i := 78) rfl rfl, wm_X7_make, we_X7_make, wi_X7, wc_X7_make, ⟨by decide +kernel, by decide +kernel, by decide +kernel⟩, by decide⟩
theorem cl_X8_114 : q_CV RX8 114 3 yX4_countIn cX4_countIn 5 (some .int) 2 := ⟨RX4, TX4, 5, rfl, rfl, q_in2 (i := 87) rfl rfl, wm_X4_countIn, we_X4_countIn, wi_X4, wc_X4_countIn, ⟨by decide +kernel, by decide +kernel, by decide +kernel⟩, by decide⟩
theorem wc_X5_countThere : Cond.code yX5_countThere cX5_countThere 4 (some .int) ∈ q_tbl := q_in2 (i := 103) rfl rfl
theorem wm_X5_countThere : Cond.instanceMethod yX5_countThere ∈ q_tbl := q_in2 (i := 101) rfl rfl
theorem we_X5_countThere : Cond.selects RX5 yX5_countThere yX5_countThere ∈ q_tbl := q_in2 (i := 102) rfl rfl
theorem cl_X8_129 : q_CV RX8 129 4 yX5_countThere cX5_countThere 4 (some .int) 1 := ⟨RX5, TX5, 4, rfl, rfl, q_in2 (i := 100) rfl rfl, wm_X5_countThere, we_X5_countThere, wi_X5, wc_X5_countThere, ⟨by decide +kernel, by decide +kernel, by decide +kernel⟩, by decide⟩
theorem wc_X0_countRecords : Cond.code yX0_countRecords cX0_countRecords 4 (some .int) ∈ q_tbl := q_in2 (i := 108) rfl rfl
theorem wm_X0_countRecords : Cond.instanceMethod yX0_countRecords ∈ q_tbl := q_in2 (i := 106) rfl rfl
theorem we_X0_countRecords : Cond.selects RX0 yX0_countRecords yX0_countRecords ∈ q_tbl := q_in2 (i := 107) rfl rfl
theorem cl_X8_133 : q_CV RX8 133 0 yX0_countRecords cX0_countRecords 4 (some .int) 1 := ⟨RX0, TX0, 2, rfl, rfl, q_in2 (i := 105) rfl rfl, wm_X0_countRecords, we_X0_countRecords, wi_X0, wc_X0_countRecords, ⟨by decide +kernel, by decide +kernel, by decide +kernel⟩, by decide⟩
theorem cl_X8_146 : q_CS RX8 146 yX8_isValue cX8_isValue 2 (some .boolean) 2 := ⟨q_in2 (i := 115) rfl rfl, wt_X8_isValue, wi_X8, wc_X8_isValue, ⟨by decide +kernel, by decide +kernel, by decide +kernel⟩, by decide⟩
theorem cl_X8_149 : q_CS RX8 149 yX2_isAt cX2_isAt 2 (some .boolean) 2 := ⟨q_in2 (i := 121) rfl rfl, wt_X2_isAt, wi_X2, wc_X2_isAt, ⟨by decide +kernel, by decide +kernel, by decide +kernel⟩, by decide⟩
theorem wc_X4_put : Cond.code yX4_put cX4_put 6 none ∈ q_tbl := q_in2 (i := 127) rfl rfl
theorem wm_X4_put : Cond.instanceMethod yX4_put ∈ q_tbl := q_in2 (i := 125) rfl rfl
theorem we_X4_put : Cond.selects RX4 yX4_put yX4_put ∈ q_tbl := q_in2 (i := 126) rfl rfl
theorem cl_X8_152 : q_CV RX8 152 3 yX4_put cX4_put 6 none 5 := ⟨RX4, TX4, 5, rfl, rfl, q_in2 (i := 124) rfl rfl, wm_X4_put, we_X4_put, wi_X4, wc_X4_put, ⟨by decide +kernel, by decide +kernel, by decide +kernel⟩, by decide⟩
theorem cl_X8_156 : q_CS RX8 156 yX8_isType cX8_isType 1 (some .boolean) 1 := ⟨q_in2 (i := 118) rfl rfl, wt_X8_isType, wi_X8, wc_X8_isType, ⟨by decide +kernel, by decide +kernel, by decide +kernel⟩, by decide⟩
theorem cl_X8_159 : q_CV RX8 159 3 yX4_find cX4_find 6 (some .int) 4 := ⟨RX4, TX4, 5, rfl, rfl, q_in2 (i := 142) rfl rfl, wm_X4_find, we_X4_find, wi_X4, wc_X4_find, ⟨by decide +kernel, by decide +kernel, by decide +kernel⟩, by decide⟩
theorem wc_X4_drop : Cond.code yX4_drop cX4_drop 3 none ∈ q_tbl := q_in2 (i := 146) rfl rfl
theorem wm_X4_drop : Cond.instanceMethod yX4_drop ∈ q_tbl := q_in2 (i := 144) rfl rfl
theorem we_X4_drop : Cond.selects RX4 yX4_drop yX4_drop ∈ q_tbl := q_in2 (i := 145) rfl rfl
theorem cl_X8_161 : q_CV RX8 161 3 yX4_drop cX4_drop 3 none 2 := ⟨RX4, TX4, 5, rfl, rfl, q_in2 (i := 143) rfl rfl, wm_X4_drop, we_X4_drop, wi_X4, wc_X4_drop, ⟨by decide +kernel, by decide +kernel, by decide +kernel⟩, by decide⟩
theorem wc_X4_countChanges : Cond.code yX4_countChanges cX4_countChanges 5 (some .int) ∈ q_tbl := q_in2 (i := 159) rfl rfl
theorem wm_X4_countChanges : Cond.instanceMethod yX4_countChanges ∈ q_tbl := q_in2 (i := 157) rfl rfl
theorem we_X4_countChanges : Cond.selects RX4 yX4_countChanges yX4_countChanges ∈ q_tbl := q_in2 (i := 158) rfl rfl
theorem cl_X8_167 : q_CV RX8 167 3 yX4_countChanges cX4_countChanges 5 (some .int) 2 := ⟨RX4, TX4, 5, rfl, rfl, q_in2 (i := 156) rfl rfl, wm_X4_countChanges, we_X4_countChanges, wi_X4, wc_X4_countChanges, ⟨by decide +kernel, by decide +kernel, by decide +kernel⟩, by decide⟩
theorem wc_X4_findChange : Cond.code yX4_findChange cX4_findChange 5 (some .int) ∈ q_tbl := q_in2 (i := 167) rfl rfl
theorem wm_X4_findChange : Cond.instanceMethod yX4_findChange ∈ q_tbl := q_in2 (i := 165) rfl rfl
theorem we_X4_findChange : Cond.selects RX4 yX4_findChange yX4_findChange ∈ q_tbl := q_in2 (i := 166) rfl rfl
theorem cl_X8_170 : q_CV RX8 170 3 yX4_findChange cX4_findChange 5 (some .int) 2 := ⟨RX4, TX4, 5, rfl, rfl, q_in2 (i := 164) rfl rfl, wm_X4_findChange, we_X4_findChange, wi_X4, wc_X4_findChange, ⟨by decide +kernel, by decide +kernel, by decide +kernel⟩, by decide⟩
theorem wc_X6_read : Cond.code yX6_read cX6_read 4 (some .int) ∈ q_tbl := q_in2 (i := 175) rfl rfl
theorem wm_X6_read : Cond.instanceMethod yX6_read ∈ q_tbl := q_in2 (i := 173) rfl rfl
theorem we_X6_read : Cond.selects RX6 yX6_read yX6_read ∈ q_tbl := q_in2 (i := 174) rfl rfl
theorem cl_X8_179 : q_CV RX8 179 5 yX6_read cX6_read 4 (some .int) 0 := ⟨RX6, TX6, 6, rfl, rfl, q_in2 (i := 172) rfl rfl, wm_X6_read, we_X6_read, wi_X6, wc_X6_read, ⟨by decide +kernel, by decide +kernel, by decide +kernel⟩, by decide⟩
theorem wc_X6_isAllAt : Cond.code yX6_isAllAt cX6_isAllAt 3 (some .boolean) ∈ q_tbl := q_in2 (i := 201) rfl rfl
theorem wm_X6_isAllAt : Cond.instanceMethod yX6_isAllAt ∈ q_tbl := q_in2 (i := 199) rfl rfl
theorem we_X6_isAllAt : Cond.selects RX6 yX6_isAllAt yX6_isAllAt ∈ q_tbl := q_in2 (i := 200) rfl rfl
theorem cl_X8_183 : q_CV RX8 183 5 yX6_isAllAt cX6_isAllAt 3 (some .boolean) 1 := ⟨RX6, TX6, 6, rfl, rfl, q_in2 (i := 198) rfl rfl, wm_X6_isAllAt, we_X6_isAllAt, wi_X6, wc_X6_isAllAt, ⟨by decide +kernel, by decide +kernel, by decide +kernel⟩, by decide⟩
theorem wc_X5_hasRoomFor : Cond.code yX5_hasRoomFor cX5_hasRoomFor 2 (some .boolean) ∈ q_tbl := q_in2 (i := 206) rfl rfl
theorem wm_X5_hasRoomFor : Cond.instanceMethod yX5_hasRoomFor ∈ q_tbl := q_in2 (i := 204) rfl rfl
theorem we_X5_hasRoomFor : Cond.selects RX5 yX5_hasRoomFor yX5_hasRoomFor ∈ q_tbl := q_in2 (i := 205) rfl rfl
theorem cl_X8_189 : q_CV RX8 189 4 yX5_hasRoomFor cX5_hasRoomFor 2 (some .boolean) 1 := ⟨RX5, TX5, 4, rfl, rfl, q_in2 (i := 203) rfl rfl, wm_X5_hasRoomFor, we_X5_hasRoomFor, wi_X5, wc_X5_hasRoomFor, ⟨by decide +kernel, by decide +kernel, by decide +kernel⟩, by decide⟩
theorem wc_X8_layChanges : Cond.code yX8_layChanges cX8_layChanges 4 none ∈ q_tbl := q_in2 (i := 210) rfl rfl
theorem wm_X8_layChanges : Cond.instanceMethod yX8_layChanges ∈ q_tbl := q_in2 (i := 209) rfl rfl
theorem we_X8_layChanges : Cond.selects RX8 yX8_layChanges yX8_layChanges ∈ q_tbl := q_in0 (i := 7) rfl rfl
theorem cl_X8_192 : q_CV RX8 192 7 yX8_layChanges cX8_layChanges 4 none 1 := ⟨RX8, TX8, 7, rfl, rfl, q_in2 (i := 207) rfl rfl, wm_X8_layChanges, we_X8_layChanges, wi_X8, wc_X8_layChanges, ⟨by decide +kernel, by decide +kernel, by decide +kernel⟩, by decide⟩
theorem wc_X8_isQuestion : Cond.code yX8_isQuestion cX8_isQuestion 2 (some .boolean) ∈ q_tbl := q_in2 (i := 217) rfl rfl
theorem wt_X8_isQuestion : Cond.static yX8_isQuestion ∈ q_tbl := q_in2 (i := 216) rfl rfl
theorem cl_X8_199 : q_CS RX8 199 yX8_isQuestion cX8_isQuestion 2 (some .boolean) 2 := ⟨q_in2 (i := 215) rfl rfl, wt_X8_isQuestion, wi_X8, wc_X8_isQuestion, ⟨by decide +kernel, by decide +kernel, by decide +kernel⟩, by decide⟩
theorem wc_X8_answerFor : Cond.code yX8_answerFor cX8_answerFor 5 (some .int) ∈ q_tbl := q_in2 (i := 221) rfl rfl
theorem wm_X8_answerFor : Cond.instanceMethod yX8_answerFor ∈ q_tbl := q_in2 (i := 220) rfl rfl
theorem we_X8_answerFor : Cond.selects RX8 yX8_answerFor yX8_answerFor ∈ q_tbl := q_in0 (i := 8) rfl rfl
theorem cl_X8_202 : q_CV RX8 202 7 yX8_answerFor cX8_answerFor 5 (some .int) 4 := ⟨RX8, TX8, 7, rfl, rfl, q_in2 (i := 218) rfl rfl, wm_X8_answerFor, we_X8_answerFor, wi_X8, wc_X8_answerFor, ⟨by decide +kernel, by decide +kernel, by decide +kernel⟩, by decide⟩
theorem wc_X0_lookUp : Cond.code yX0_lookUp cX0_lookUp 6 (some .int) ∈ q_tbl := q_in2 (i := 225) rfl rfl
theorem wm_X0_lookUp : Cond.instanceMethod yX0_lookUp ∈ q_tbl := q_in2 (i := 223) rfl rfl
theorem we_X0_lookUp : Cond.selects RX0 yX0_lookUp yX0_lookUp ∈ q_tbl := q_in2 (i := 224) rfl rfl
theorem cl_X8_205 : q_CV RX8 205 0 yX0_lookUp cX0_lookUp 6 (some .int) 4 := ⟨RX0, TX0, 2, rfl, rfl, q_in2 (i := 222) rfl rfl, wm_X0_lookUp, we_X0_lookUp, wi_X0, wc_X0_lookUp, ⟨by decide +kernel, by decide +kernel, by decide +kernel⟩, by decide⟩
theorem cl_X8_208 : q_CV RX8 208 6 yX7_responsible cX7_responsible 7 (some .int) 3 := ⟨RX7, TX7, 3, rfl, rfl, q_in3 (i := 28) rfl rfl, wm_X7_responsible, we_X7_responsible, wi_X7, wc_X7_responsible, ⟨by decide +kernel, by decide +kernel, by decide +kernel⟩, by decide⟩
theorem cl_X8_211 : q_CV RX8 211 0 yX0_recordBehind cX0_recordBehind 11 (some .int) 4 := ⟨RX0, TX0, 2, rfl, rfl, q_in3 (i := 33) rfl rfl, wm_X0_recordBehind, we_X0_recordBehind, wi_X0, wc_X0_recordBehind, ⟨by decide +kernel, by decide +kernel, by decide +kernel⟩, by decide⟩
theorem wc_X8_countDiffering : Cond.code yX8_countDiffering cX8_countDiffering 8 (some .int) ∈ q_tbl := q_in3 (i := 41) rfl rfl
theorem wm_X8_countDiffering : Cond.instanceMethod yX8_countDiffering ∈ q_tbl := q_in3 (i := 40) rfl rfl
theorem we_X8_countDiffering : Cond.selects RX8 yX8_countDiffering yX8_countDiffering ∈ q_tbl := q_in0 (i := 9) rfl rfl
theorem cl_X8_214 : q_CV RX8 214 7 yX8_countDiffering cX8_countDiffering 8 (some .int) 5 := ⟨RX8, TX8, 7, rfl, rfl, q_in3 (i := 38) rfl rfl, wm_X8_countDiffering, we_X8_countDiffering, wi_X8, wc_X8_countDiffering, ⟨by decide +kernel, by decide +kernel, by decide +kernel⟩, by decide⟩
theorem wc_X0_lastEvent : Cond.code yX0_lastEvent cX0_lastEvent 4 (some .int) ∈ q_tbl := q_in3 (i := 57) rfl rfl
theorem wm_X0_lastEvent : Cond.instanceMethod yX0_lastEvent ∈ q_tbl := q_in3 (i := 55) rfl rfl
theorem we_X0_lastEvent : Cond.selects RX0 yX0_lastEvent yX0_lastEvent ∈ q_tbl := q_in3 (i := 56) rfl rfl
theorem cl_X8_218 : q_CV RX8 218 0 yX0_lastEvent cX0_lastEvent 4 (some .int) 1 := ⟨RX0, TX0, 2, rfl, rfl, q_in3 (i := 54) rfl rfl, wm_X0_lastEvent, we_X0_lastEvent, wi_X0, wc_X0_lastEvent, ⟨by decide +kernel, by decide +kernel, by decide +kernel⟩, by decide⟩
theorem wc_X3_countAddresses : Cond.code yX3_countAddresses cX3_countAddresses 5 (some .int) ∈ q_tbl := q_in3 (i := 69) rfl rfl
theorem wm_X3_countAddresses : Cond.instanceMethod yX3_countAddresses ∈ q_tbl := q_in3 (i := 67) rfl rfl
theorem we_X3_countAddresses : Cond.selects RX3 yX3_countAddresses yX3_countAddresses ∈ q_tbl := q_in3 (i := 68) rfl rfl
theorem cl_X8_221 : q_CV RX8 221 2 yX3_countAddresses cX3_countAddresses 5 (some .int) 2 := ⟨RX3, TX3, 4, rfl, rfl, q_in3 (i := 66) rfl rfl, wm_X3_countAddresses, we_X3_countAddresses, wi_X3, wc_X3_countAddresses, ⟨by decide +kernel, by decide +kernel, by decide +kernel⟩, by decide⟩
theorem cl_X8_227 : q_CV RX8 227 1 yX1_find cX1_find 5 (some .int) 3 := ⟨RX1, TX1, 8, rfl, rfl, q_in3 (i := 79) rfl rfl, wm_X1_find, we_X1_find, wi_X1, wc_X1_find, ⟨by decide +kernel, by decide +kernel, by decide +kernel⟩, by decide⟩
theorem wc_X1_isFresh : Cond.code yX1_isFresh cX1_isFresh 3 (some .boolean) ∈ q_tbl := q_in3 (i := 86) rfl rfl
theorem wm_X1_isFresh : Cond.instanceMethod yX1_isFresh ∈ q_tbl := q_in3 (i := 84) rfl rfl
theorem we_X1_isFresh : Cond.selects RX1 yX1_isFresh yX1_isFresh ∈ q_tbl := q_in3 (i := 85) rfl rfl
theorem cl_X8_228 : q_CV RX8 228 1 yX1_isFresh cX1_isFresh 3 (some .boolean) 2 := ⟨RX1, TX1, 8, rfl, rfl, q_in3 (i := 83) rfl rfl, wm_X1_isFresh, we_X1_isFresh, wi_X1, wc_X1_isFresh, ⟨by decide +kernel, by decide +kernel, by decide +kernel⟩, by decide⟩
theorem wc_X1_keep : Cond.code yX1_keep cX1_keep 7 none ∈ q_tbl := q_in3 (i := 90) rfl rfl
theorem wm_X1_keep : Cond.instanceMethod yX1_keep ∈ q_tbl := q_in3 (i := 88) rfl rfl
theorem we_X1_keep : Cond.selects RX1 yX1_keep yX1_keep ∈ q_tbl := q_in3 (i := 89) rfl rfl
theorem cl_X8_234 : q_CV RX8 234 1 yX1_keep cX1_keep 7 none 5 := ⟨RX1, TX1, 8, rfl, rfl, q_in3 (i := 87) rfl rfl, wm_X1_keep, we_X1_keep, wi_X1, wc_X1_keep, ⟨by decide +kernel, by decide +kernel, by decide +kernel⟩, by decide⟩
theorem wc_X6_append : Cond.code yX6_append cX6_append 2 none ∈ q_tbl := q_in3 (i := 107) rfl rfl
theorem wm_X6_append : Cond.instanceMethod yX6_append ∈ q_tbl := q_in3 (i := 105) rfl rfl
theorem we_X6_append : Cond.selects RX6 yX6_append yX6_append ∈ q_tbl := q_in3 (i := 106) rfl rfl
theorem cl_X8_245 : q_CV RX8 245 5 yX6_append cX6_append 2 none 1 := ⟨RX6, TX6, 6, rfl, rfl, q_in3 (i := 104) rfl rfl, wm_X6_append, we_X6_append, wi_X6, wc_X6_append, ⟨by decide +kernel, by decide +kernel, by decide +kernel⟩, by decide⟩
theorem wc_X9_in : Cond.code yX9_in cX9_in 3 (some .boolean) ∈ q_tbl := q_in3 (i := 180) rfl rfl
theorem wt_X9_in : Cond.static yX9_in ∈ q_tbl := q_in3 (i := 179) rfl rfl
theorem cl_X9_35 : q_CS RX9 35 yX9_in cX9_in 3 (some .boolean) 3 := ⟨q_in3 (i := 178) rfl rfl, wt_X9_in, wi_X9, wc_X9_in, ⟨by decide +kernel, by decide +kernel, by decide +kernel⟩, by decide⟩
theorem wc_X9_lastLabel : Cond.code yX9_lastLabel cX9_lastLabel 1 (some .int) ∈ q_tbl := q_in3 (i := 227) rfl rfl
theorem wt_X9_lastLabel : Cond.static yX9_lastLabel ∈ q_tbl := q_in3 (i := 226) rfl rfl
theorem cl_X9_39 : q_CS RX9 39 yX9_lastLabel cX9_lastLabel 1 (some .int) 1 := ⟨q_in3 (i := 225) rfl rfl, wt_X9_lastLabel, wi_X9, wc_X9_lastLabel, ⟨by decide +kernel, by decide +kernel, by decide +kernel⟩, by decide⟩
theorem wc_X9_labels : Cond.code yX9_labels cX9_labels 1 (some .int) ∈ q_tbl := q_in4 (i := 29) rfl rfl
theorem wt_X9_labels : Cond.static yX9_labels ∈ q_tbl := q_in4 (i := 28) rfl rfl
theorem cl_X9_43 : q_CS RX9 43 yX9_labels cX9_labels 1 (some .int) 1 := ⟨q_in4 (i := 27) rfl rfl, wt_X9_labels, wi_X9, wc_X9_labels, ⟨by decide +kernel, by decide +kernel, by decide +kernel⟩, by decide⟩
theorem wc_X9_first : Cond.code yX9_first cX9_first 2 (some .int) ∈ q_tbl := q_in4 (i := 32) rfl rfl
theorem wt_X9_first : Cond.static yX9_first ∈ q_tbl := q_in4 (i := 31) rfl rfl
theorem cl_X9_46 : q_CS RX9 46 yX9_first cX9_first 2 (some .int) 2 := ⟨q_in4 (i := 30) rfl rfl, wt_X9_first, wi_X9, wc_X9_first, ⟨by decide +kernel, by decide +kernel, by decide +kernel⟩, by decide⟩
theorem wc_X9_isAt : Cond.code yX9_isAt cX9_isAt 2 (some .boolean) ∈ q_tbl := q_in4 (i := 26) rfl rfl
theorem wt_X9_isAt : Cond.static yX9_isAt ∈ q_tbl := q_in4 (i := 25) rfl rfl
theorem cl_X9_50 : q_CS RX9 50 yX9_isAt cX9_isAt 2 (some .boolean) 2 := ⟨q_in4 (i := 24) rfl rfl, wt_X9_isAt, wi_X9, wc_X9_isAt, ⟨by decide +kernel, by decide +kernel, by decide +kernel⟩, by decide⟩
theorem wc_X9_isAddress : Cond.code yX9_isAddress cX9_isAddress 1 (some .boolean) ∈ q_tbl := q_in3 (i := 191) rfl rfl
theorem wt_X9_isAddress : Cond.static yX9_isAddress ∈ q_tbl := q_in3 (i := 190) rfl rfl
theorem cl_X9_54 : q_CS RX9 54 yX9_isAddress cX9_isAddress 1 (some .boolean) 1 := ⟨q_in3 (i := 189) rfl rfl, wt_X9_isAddress, wi_X9, wc_X9_isAddress, ⟨by decide +kernel, by decide +kernel, by decide +kernel⟩, by decide⟩
theorem wc_X9_isNetThere : Cond.code yX9_isNetThere cX9_isNetThere 4 (some .boolean) ∈ q_tbl := q_in3 (i := 211) rfl rfl
theorem wm_X9_isNetThere : Cond.instanceMethod yX9_isNetThere ∈ q_tbl := q_in3 (i := 210) rfl rfl
theorem we_X9_isNetThere : Cond.selects RX9 yX9_isNetThere yX9_isNetThere ∈ q_tbl := q_in0 (i := 13) rfl rfl
theorem cl_X9_61 : q_CV RX9 61 8 yX9_isNetThere cX9_isNetThere 4 (some .boolean) 2 := ⟨RX9, TX9, 17, rfl, rfl, q_in3 (i := 208) rfl rfl, wm_X9_isNetThere, we_X9_isNetThere, wi_X9, wc_X9_isNetThere, ⟨by decide +kernel, by decide +kernel, by decide +kernel⟩, by decide⟩
theorem wc_X9_isTick : Cond.code yX9_isTick cX9_isTick 2 (some .boolean) ∈ q_tbl := q_in3 (i := 203) rfl rfl
theorem wm_X9_isTick : Cond.instanceMethod yX9_isTick ∈ q_tbl := q_in3 (i := 202) rfl rfl
theorem we_X9_isTick : Cond.selects RX9 yX9_isTick yX9_isTick ∈ q_tbl := q_in0 (i := 11) rfl rfl
theorem cl_X9_64 : q_CV RX9 64 8 yX9_isTick cX9_isTick 2 (some .boolean) 1 := ⟨RX9, TX9, 17, rfl, rfl, q_in3 (i := 200) rfl rfl, wm_X9_isTick, we_X9_isTick, wi_X9, wc_X9_isTick, ⟨by decide +kernel, by decide +kernel, by decide +kernel⟩, by decide⟩
theorem wc_X9_viewAt : Cond.code yX9_viewAt cX9_viewAt 8 (some .int) ∈ q_tbl := q_in3 (i := 207) rfl rfl
theorem wm_X9_viewAt : Cond.instanceMethod yX9_viewAt ∈ q_tbl := q_in3 (i := 206) rfl rfl
theorem we_X9_viewAt : Cond.selects RX9 yX9_viewAt yX9_viewAt ∈ q_tbl := q_in0 (i := 12) rfl rfl
theorem cl_X9_67 : q_CV RX9 67 8 yX9_viewAt cX9_viewAt 8 (some .int) 2 := ⟨RX9, TX9, 17, rfl, rfl, q_in3 (i := 204) rfl rfl, wm_X9_viewAt, we_X9_viewAt, wi_X9, wc_X9_viewAt, ⟨by decide +kernel, by decide +kernel, by decide +kernel⟩, by decide⟩
theorem wc_X9_isView : Cond.code yX9_isView cX9_isView 1 (some .boolean) ∈ q_tbl := q_in3 (i := 218) rfl rfl
theorem wt_X9_isView : Cond.static yX9_isView ∈ q_tbl := q_in3 (i := 217) rfl rfl
theorem cl_X9_73 : q_CS RX9 73 yX9_isView cX9_isView 1 (some .boolean) 1 := ⟨q_in3 (i := 216) rfl rfl, wt_X9_isView, wi_X9, wc_X9_isView, ⟨by decide +kernel, by decide +kernel, by decide +kernel⟩, by decide⟩
theorem wc_X9_isName : Cond.code yX9_isName cX9_isName 4 (some .boolean) ∈ q_tbl := q_in3 (i := 221) rfl rfl
theorem wt_X9_isName : Cond.static yX9_isName ∈ q_tbl := q_in3 (i := 220) rfl rfl
theorem cl_X9_76 : q_CS RX9 76 yX9_isName cX9_isName 4 (some .boolean) 1 := ⟨q_in3 (i := 219) rfl rfl, wt_X9_isName, wi_X9, wc_X9_isName, ⟨by decide +kernel, by decide +kernel, by decide +kernel⟩, by decide⟩
theorem wc_X9_isPattern : Cond.code yX9_isPattern cX9_isPattern 1 (some .boolean) ∈ q_tbl := q_in3 (i := 224) rfl rfl
theorem wt_X9_isPattern : Cond.static yX9_isPattern ∈ q_tbl := q_in3 (i := 223) rfl rfl
theorem cl_X9_79 : q_CS RX9 79 yX9_isPattern cX9_isPattern 1 (some .boolean) 1 := ⟨q_in3 (i := 222) rfl rfl, wt_X9_isPattern, wi_X9, wc_X9_isPattern, ⟨by decide +kernel, by decide +kernel, by decide +kernel⟩, by decide⟩
theorem wc_X9_isGone : Cond.code yX9_isGone cX9_isGone 2 (some .boolean) ∈ q_tbl := q_in3 (i := 231) rfl rfl
theorem wm_X9_isGone : Cond.instanceMethod yX9_isGone ∈ q_tbl := q_in3 (i := 230) rfl rfl
theorem we_X9_isGone : Cond.selects RX9 yX9_isGone yX9_isGone ∈ q_tbl := q_in0 (i := 14) rfl rfl
theorem cl_X9_82 : q_CV RX9 82 8 yX9_isGone cX9_isGone 2 (some .boolean) 1 := ⟨RX9, TX9, 17, rfl, rfl, q_in3 (i := 228) rfl rfl, wm_X9_isGone, we_X9_isGone, wi_X9, wc_X9_isGone, ⟨by decide +kernel, by decide +kernel, by decide +kernel⟩, by decide⟩
theorem wc_X9_isZone : Cond.code yX9_isZone cX9_isZone 2 (some .boolean) ∈ q_tbl := q_in3 (i := 239) rfl rfl
theorem wm_X9_isZone : Cond.instanceMethod yX9_isZone ∈ q_tbl := q_in3 (i := 238) rfl rfl
theorem we_X9_isZone : Cond.selects RX9 yX9_isZone yX9_isZone ∈ q_tbl := q_in0 (i := 15) rfl rfl
theorem cl_X9_85 : q_CV RX9 85 8 yX9_isZone cX9_isZone 2 (some .boolean) 1 := ⟨RX9, TX9, 17, rfl, rfl, q_in3 (i := 236) rfl rfl, wm_X9_isZone, we_X9_isZone, wi_X9, wc_X9_isZone, ⟨by decide +kernel, by decide +kernel, by decide +kernel⟩, by decide⟩
theorem wc_X9_records : Cond.code yX9_records cX9_records 5 (some .int) ∈ q_tbl := q_in4 (i := 3) rfl rfl
theorem wm_X9_records : Cond.instanceMethod yX9_records ∈ q_tbl := q_in4 (i := 2) rfl rfl
theorem we_X9_records : Cond.selects RX9 yX9_records yX9_records ∈ q_tbl := q_in0 (i := 16) rfl rfl
theorem cl_X9_88 : q_CV RX9 88 8 yX9_records cX9_records 5 (some .int) 1 := ⟨RX9, TX9, 17, rfl, rfl, q_in4 (i := 0) rfl rfl, wm_X9_records, we_X9_records, wi_X9, wc_X9_records, ⟨by decide +kernel, by decide +kernel, by decide +kernel⟩, by decide⟩
theorem wc_X9_part : Cond.code yX9_part cX9_part 3 (some .int) ∈ q_tbl := q_in4 (i := 11) rfl rfl
theorem wm_X9_part : Cond.instanceMethod yX9_part ∈ q_tbl := q_in4 (i := 10) rfl rfl
theorem we_X9_part : Cond.selects RX9 yX9_part yX9_part ∈ q_tbl := q_in0 (i := 18) rfl rfl
theorem cl_X9_100 : q_CV RX9 100 8 yX9_part cX9_part 3 (some .int) 2 := ⟨RX9, TX9, 17, rfl, rfl, q_in4 (i := 8) rfl rfl, wm_X9_part, we_X9_part, wi_X9, wc_X9_part, ⟨by decide +kernel, by decide +kernel, by decide +kernel⟩, by decide⟩
theorem wc_X9_valueAt : Cond.code yX9_valueAt cX9_valueAt 8 (some .int) ∈ q_tbl := q_in4 (i := 7) rfl rfl
theorem wm_X9_valueAt : Cond.instanceMethod yX9_valueAt ∈ q_tbl := q_in4 (i := 6) rfl rfl
theorem we_X9_valueAt : Cond.selects RX9 yX9_valueAt yX9_valueAt ∈ q_tbl := q_in0 (i := 17) rfl rfl
theorem cl_X9_103 : q_CV RX9 103 8 yX9_valueAt cX9_valueAt 8 (some .int) 4 := ⟨RX9, TX9, 17, rfl, rfl, q_in4 (i := 4) rfl rfl, wm_X9_valueAt, we_X9_valueAt, wi_X9, wc_X9_valueAt, ⟨by decide +kernel, by decide +kernel, by decide +kernel⟩, by decide⟩
theorem wc_X9_hasType : Cond.code yX9_hasType cX9_hasType 4 (some .boolean) ∈ q_tbl := q_in4 (i := 86) rfl rfl
theorem wm_X9_hasType : Cond.instanceMethod yX9_hasType ∈ q_tbl := q_in4 (i := 85) rfl rfl
theorem we_X9_hasType : Cond.selects RX9 yX9_hasType yX9_hasType ∈ q_tbl := q_in0 (i := 25) rfl rfl
theorem cl_X9_107 : q_CV RX9 107 8 yX9_hasType cX9_hasType 4 (some .boolean) 3 := ⟨RX9, TX9, 17, rfl, rfl, q_in4 (i := 83) rfl rfl, wm_X9_hasType, we_X9_hasType, wi_X9, wc_X9_hasType, ⟨by decide +kernel, by decide +kernel, by decide +kernel⟩, by decide⟩
theorem wc_X9_isBelow : Cond.code yX9_isBelow cX9_isBelow 2 (some .boolean) ∈ q_tbl := q_in4 (i := 89) rfl rfl
theorem wt_X9_isBelow : Cond.static yX9_isBelow ∈ q_tbl := q_in4 (i := 88) rfl rfl
theorem cl_X9_110 : q_CS RX9 110 yX9_isBelow cX9_isBelow 2 (some .boolean) 2 := ⟨q_in4 (i := 87) rfl rfl, wt_X9_isBelow, wi_X9, wc_X9_isBelow, ⟨by decide +kernel, by decide +kernel, by decide +kernel⟩, by decide⟩
theorem wc_X9_isType : Cond.code yX9_isType cX9_isType 1 (some .boolean) ∈ q_tbl := q_in4 (i := 35) rfl rfl
theorem wt_X9_isType : Cond.static yX9_isType ∈ q_tbl := q_in4 (i := 34) rfl rfl
theorem cl_X9_113 : q_CS RX9 113 yX9_isType cX9_isType 1 (some .boolean) 1 := ⟨q_in4 (i := 33) rfl rfl, wt_X9_isType, wi_X9, wc_X9_isType, ⟨by decide +kernel, by decide +kernel, by decide +kernel⟩, by decide⟩
theorem wc_X9_isValue : Cond.code yX9_isValue cX9_isValue 2 (some .boolean) ∈ q_tbl := q_in4 (i := 38) rfl rfl
theorem wt_X9_isValue : Cond.static yX9_isValue ∈ q_tbl := q_in4 (i := 37) rfl rfl
theorem cl_X9_116 : q_CS RX9 116 yX9_isValue cX9_isValue 2 (some .boolean) 2 := ⟨q_in4 (i := 36) rfl rfl, wt_X9_isValue, wi_X9, wc_X9_isValue, ⟨by decide +kernel, by decide +kernel, by decide +kernel⟩, by decide⟩
theorem wc_X9_makes : Cond.code yX9_makes cX9_makes 5 none ∈ q_tbl := q_in4 (i := 42) rfl rfl
theorem wm_X9_makes : Cond.instanceMethod yX9_makes ∈ q_tbl := q_in4 (i := 41) rfl rfl
theorem we_X9_makes : Cond.selects RX9 yX9_makes yX9_makes ∈ q_tbl := q_in0 (i := 19) rfl rfl
theorem cl_X9_119 : q_CV RX9 119 8 yX9_makes cX9_makes 5 none 4 := ⟨RX9, TX9, 17, rfl, rfl, q_in4 (i := 39) rfl rfl, wm_X9_makes, we_X9_makes, wi_X9, wc_X9_makes, ⟨by decide +kernel, by decide +kernel, by decide +kernel⟩, by decide⟩
theorem wc_X9_isThere : Cond.code yX9_isThere cX9_isThere 4 (some .boolean) ∈ q_tbl := q_in4 (i := 54) rfl rfl
theorem wm_X9_isThere : Cond.instanceMethod yX9_isThere ∈ q_tbl := q_in4 (i := 53) rfl rfl
theorem we_X9_isThere : Cond.selects RX9 yX9_isThere yX9_isThere ∈ q_tbl := q_in0 (i := 20) rfl rfl
theorem cl_X9_123 : q_CV RX9 123 8 yX9_isThere cX9_isThere 4 (some .boolean) 2 := ⟨RX9, TX9, 17, rfl, rfl, q_in4 (i := 51) rfl rfl, wm_X9_isThere, we_X9_isThere, wi_X9, wc_X9_isThere, ⟨by decide +kernel, by decide +kernel, by decide +kernel⟩, by decide⟩
theorem wc_X9_responsible : Cond.code yX9_responsible cX9_responsible 10 (some .int) ∈ q_tbl := q_in4 (i := 78) rfl rfl
theorem wm_X9_responsible : Cond.instanceMethod yX9_responsible ∈ q_tbl := q_in4 (i := 77) rfl rfl
theorem we_X9_responsible : Cond.selects RX9 yX9_responsible yX9_responsible ∈ q_tbl := q_in0 (i := 23) rfl rfl
theorem cl_X9_126 : q_CV RX9 126 8 yX9_responsible cX9_responsible 10 (some .int) 3 := ⟨RX9, TX9, 17, rfl, rfl, q_in4 (i := 75) rfl rfl, wm_X9_responsible, we_X9_responsible, wi_X9, wc_X9_responsible, ⟨by decide +kernel, by decide +kernel, by decide +kernel⟩, by decide⟩
theorem wc_X9_exists : Cond.code yX9_exists cX9_exists 6 (some .boolean) ∈ q_tbl := q_in4 (i := 82) rfl rfl
theorem wm_X9_exists : Cond.instanceMethod yX9_exists ∈ q_tbl := q_in4 (i := 81) rfl rfl
theorem we_X9_exists : Cond.selects RX9 yX9_exists yX9_exists ∈ q_tbl := q_in0 (i := 24) rfl rfl
theorem cl_X9_133 : q_CV RX9 133 8 yX9_exists cX9_exists 6 (some .boolean) 3 := ⟨RX9, TX9, 17, rfl, rfl, q_in4 (i := 79) rfl rfl, wm_X9_exists, we_X9_exists, wi_X9, wc_X9_exists, ⟨by decide +kernel, by decide +kernel, by decide +kernel⟩, by decide⟩
theorem wc_X9_patternFor : Cond.code yX9_patternFor cX9_patternFor 1 (some .int) ∈ q_tbl := q_in4 (i := 92) rfl rfl
theorem wt_X9_patternFor : Cond.static yX9_patternFor ∈ q_tbl := q_in4 (i := 91) rfl rfl
theorem cl_X9_136 : q_CS RX9 136 yX9_patternFor cX9_patternFor 1 (some .int) 1 := ⟨q_in4 (i := 90) rfl rfl, wt_X9_patternFor, wi_X9, wc_X9_patternFor, ⟨by decide +kernel, by decide +kernel, by decide +kernel⟩, by decide⟩
theorem wc_X9_isQuestion : Cond.code yX9_isQuestion cX9_isQuestion 4 (some .boolean) ∈ q_tbl := q_in4 (i := 70) rfl rfl
theorem wm_X9_isQuestion : Cond.instanceMethod yX9_isQuestion ∈ q_tbl := q_in4 (i := 69) rfl rfl
theorem we_X9_isQuestion : Cond.selects RX9 yX9_isQuestion yX9_isQuestion ∈ q_tbl := q_in0 (i := 21) rfl rfl
theorem cl_X9_139 : q_CV RX9 139 8 yX9_isQuestion cX9_isQuestion 4 (some .boolean) 3 := ⟨RX9, TX9, 17, rfl, rfl, q_in4 (i := 67) rfl rfl, wm_X9_isQuestion, we_X9_isQuestion, wi_X9, wc_X9_isQuestion, ⟨by decide +kernel, by decide +kernel, by decide +kernel⟩, by decide⟩
theorem wc_X9_finds : Cond.code yX9_finds cX9_finds 9 (some .int) ∈ q_tbl := q_in4 (i := 74) rfl rfl
theorem wm_X9_finds : Cond.instanceMethod yX9_finds ∈ q_tbl := q_in4 (i := 73) rfl rfl
theorem we_X9_finds : Cond.selects RX9 yX9_finds yX9_finds ∈ q_tbl := q_in0 (i := 22) rfl rfl
theorem cl_X9_142 : q_CV RX9 142 8 yX9_finds cX9_finds 9 (some .int) 4 := ⟨RX9, TX9, 17, rfl, rfl, q_in4 (i := 71) rfl rfl, wm_X9_finds, we_X9_finds, wi_X9, wc_X9_finds, ⟨by decide +kernel, by decide +kernel, by decide +kernel⟩, by decide⟩
theorem wc_X9_parts : Cond.code yX9_parts cX9_parts 9 (some .int) ∈ q_tbl := q_in4 (i := 112) rfl rfl
theorem wm_X9_parts : Cond.instanceMethod yX9_parts ∈ q_tbl := q_in4 (i := 111) rfl rfl
theorem we_X9_parts : Cond.selects RX9 yX9_parts yX9_parts ∈ q_tbl := q_in0 (i := 26) rfl rfl
theorem cl_X9_145 : q_CV RX9 145 8 yX9_parts cX9_parts 9 (some .int) 6 := ⟨RX9, TX9, 17, rfl, rfl, q_in4 (i := 109) rfl rfl, wm_X9_parts, we_X9_parts, wi_X9, wc_X9_parts, ⟨by decide +kernel, by decide +kernel, by decide +kernel⟩, by decide⟩
theorem wc_X9_latestEvent : Cond.code yX9_latestEvent cX9_latestEvent 6 (some .int) ∈ q_tbl := q_in4 (i := 128) rfl rfl
theorem wm_X9_latestEvent : Cond.instanceMethod yX9_latestEvent ∈ q_tbl := q_in4 (i := 127) rfl rfl
theorem we_X9_latestEvent : Cond.selects RX9 yX9_latestEvent yX9_latestEvent ∈ q_tbl := q_in0 (i := 27) rfl rfl
theorem cl_X9_149 : q_CV RX9 149 8 yX9_latestEvent cX9_latestEvent 6 (some .int) 1 := ⟨RX9, TX9, 17, rfl, rfl, q_in4 (i := 125) rfl rfl, wm_X9_latestEvent, we_X9_latestEvent, wi_X9, wc_X9_latestEvent, ⟨by decide +kernel, by decide +kernel, by decide +kernel⟩, by decide⟩
theorem wc_X9_isYoung : Cond.code yX9_isYoung cX9_isYoung 2 (some .boolean) ∈ q_tbl := q_in4 (i := 144) rfl rfl
theorem wm_X9_isYoung : Cond.instanceMethod yX9_isYoung ∈ q_tbl := q_in4 (i := 143) rfl rfl
theorem we_X9_isYoung : Cond.selects RX9 yX9_isYoung yX9_isYoung ∈ q_tbl := q_in0 (i := 28) rfl rfl
theorem cl_X9_152 : q_CV RX9 152 8 yX9_isYoung cX9_isYoung 2 (some .boolean) 1 := ⟨RX9, TX9, 17, rfl, rfl, q_in4 (i := 141) rfl rfl, wm_X9_isYoung, we_X9_isYoung, wi_X9, wc_X9_isYoung, ⟨by decide +kernel, by decide +kernel, by decide +kernel⟩, by decide⟩
theorem wc_X9_drops : Cond.code yX9_drops cX9_drops 3 none ∈ q_tbl := q_in4 (i := 148) rfl rfl
theorem wm_X9_drops : Cond.instanceMethod yX9_drops ∈ q_tbl := q_in4 (i := 147) rfl rfl
theorem we_X9_drops : Cond.selects RX9 yX9_drops yX9_drops ∈ q_tbl := q_in0 (i := 29) rfl rfl
theorem cl_X9_155 : q_CV RX9 155 8 yX9_drops cX9_drops 3 none 1 := ⟨RX9, TX9, 17, rfl, rfl, q_in4 (i := 145) rfl rfl, wm_X9_drops, we_X9_drops, wi_X9, wc_X9_drops, ⟨by decide +kernel, by decide +kernel, by decide +kernel⟩, by decide⟩
theorem wc_X9_isHere : Cond.code yX9_isHere cX9_isHere 3 (some .boolean) ∈ q_tbl := q_in4 (i := 180) rfl rfl
theorem wm_X9_isHere : Cond.instanceMethod yX9_isHere ∈ q_tbl := q_in4 (i := 179) rfl rfl
theorem we_X9_isHere : Cond.selects RX9 yX9_isHere yX9_isHere ∈ q_tbl := q_in0 (i := 33) rfl rfl
theorem cl_X9_168 : q_CV RX9 168 8 yX9_isHere cX9_isHere 3 (some .boolean) 2 := ⟨RX9, TX9, 17, rfl, rfl, q_in4 (i := 177) rfl rfl, wm_X9_isHere, we_X9_isHere, wi_X9, wc_X9_isHere, ⟨by decide +kernel, by decide +kernel, by decide +kernel⟩, by decide⟩
theorem wc_X9_isLabels : Cond.code yX9_isLabels cX9_isLabels 3 (some .boolean) ∈ q_tbl := q_in4 (i := 176) rfl rfl
theorem wm_X9_isLabels : Cond.instanceMethod yX9_isLabels ∈ q_tbl := q_in4 (i := 175) rfl rfl
theorem we_X9_isLabels : Cond.selects RX9 yX9_isLabels yX9_isLabels ∈ q_tbl := q_in0 (i := 32) rfl rfl
theorem cl_X9_171 : q_CV RX9 171 8 yX9_isLabels cX9_isLabels 3 (some .boolean) 0 := ⟨RX9, TX9, 17, rfl, rfl, q_in4 (i := 173) rfl rfl, wm_X9_isLabels, we_X9_isLabels, wi_X9, wc_X9_isLabels, ⟨by decide +kernel, by decide +kernel, by decide +kernel⟩, by decide⟩
theorem wc_X9_takes : Cond.code yX9_takes cX9_takes 3 (some .boolean) ∈ q_tbl := q_in4 (i := 184) rfl rfl
theorem wm_X9_takes : Cond.instanceMethod yX9_takes ∈ q_tbl := q_in4 (i := 183) rfl rfl
theorem we_X9_takes : Cond.selects RX9 yX9_takes yX9_takes ∈ q_tbl := q_in0 (i := 34) rfl rfl
theorem cl_X9_175 : q_CV RX9 175 8 yX9_takes cX9_takes 3 (some .boolean) 1 := ⟨RX9, TX9, 17, rfl, rfl, q_in4 (i := 181) rfl rfl, wm_X9_takes, we_X9_takes, wi_X9, wc_X9_takes, ⟨by decide +kernel, by decide +kernel, by decide +kernel⟩, by decide⟩
theorem wc_X9_isDigits : Cond.code yX9_isDigits cX9_isDigits 2 (some .boolean) ∈ q_tbl := q_in4 (i := 188) rfl rfl
theorem wm_X9_isDigits : Cond.instanceMethod yX9_isDigits ∈ q_tbl := q_in4 (i := 187) rfl rfl
theorem we_X9_isDigits : Cond.selects RX9 yX9_isDigits yX9_isDigits ∈ q_tbl := q_in0 (i := 35) rfl rfl
theorem cl_X9_178 : q_CV RX9 178 8 yX9_isDigits cX9_isDigits 2 (some .boolean) 0 := ⟨RX9, TX9, 17, rfl, rfl, q_in4 (i := 185) rfl rfl, wm_X9_isDigits, we_X9_isDigits, wi_X9, wc_X9_isDigits, ⟨by decide +kernel, by decide +kernel, by decide +kernel⟩, by decide⟩
theorem wc_X9_isChange : Cond.code yX9_isChange cX9_isChange 1 (some .boolean) ∈ q_tbl := q_in4 (i := 172) rfl rfl
theorem wm_X9_isChange : Cond.instanceMethod yX9_isChange ∈ q_tbl := q_in4 (i := 171) rfl rfl
theorem we_X9_isChange : Cond.selects RX9 yX9_isChange yX9_isChange ∈ q_tbl := q_in0 (i := 31) rfl rfl
theorem cl_X9_181 : q_CV RX9 181 8 yX9_isChange cX9_isChange 1 (some .boolean) 0 := ⟨RX9, TX9, 17, rfl, rfl, q_in4 (i := 169) rfl rfl, wm_X9_isChange, we_X9_isChange, wi_X9, wc_X9_isChange, ⟨by decide +kernel, by decide +kernel, by decide +kernel⟩, by decide⟩
theorem wc_X9_faultAt : Cond.code yX9_faultAt cX9_faultAt 2 (some .int) ∈ q_tbl := q_in4 (i := 168) rfl rfl
theorem wm_X9_faultAt : Cond.instanceMethod yX9_faultAt ∈ q_tbl := q_in4 (i := 167) rfl rfl
theorem we_X9_faultAt : Cond.selects RX9 yX9_faultAt yX9_faultAt ∈ q_tbl := q_in0 (i := 30) rfl rfl
theorem cl_X9_184 : q_CV RX9 184 8 yX9_faultAt cX9_faultAt 2 (some .int) 0 := ⟨RX9, TX9, 17, rfl, rfl, q_in4 (i := 165) rfl rfl, wm_X9_faultAt, we_X9_faultAt, wi_X9, wc_X9_faultAt, ⟨by decide +kernel, by decide +kernel, by decide +kernel⟩, by decide⟩
