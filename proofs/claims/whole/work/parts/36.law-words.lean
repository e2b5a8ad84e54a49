abbrev cL_law : ByteArray := code
theorem m1_13 : Cond.classLink RL 7 RX6 ∈ h_tb := List.mem_filter.mpr ⟨List.mem_append_right _ (List.mem_append_left _ (List.mem_of_getElem? (i := 13) rfl)), rfl⟩
theorem m1_14 : Cond.instantiable RX6 9 ∈ h_tb := List.mem_filter.mpr ⟨List.mem_append_right _ (List.mem_append_left _ (List.mem_of_getElem? (i := 14) rfl)), rfl⟩
theorem m1_15 : Cond.methodLink RL 15 yX6_init ∈ h_tb := List.mem_filter.mpr ⟨List.mem_append_right _ (List.mem_append_left _ (List.mem_of_getElem? (i := 15) rfl)), rfl⟩
theorem m1_17 : Cond.code yX6_init cX6_init 4 none ∈ h_tb := List.mem_filter.mpr ⟨List.mem_append_right _ (List.mem_append_left _ (List.mem_of_getElem? (i := 17) rfl)), rfl⟩
theorem m1_16 : Cond.instanceMethod yX6_init ∈ h_tb := List.mem_filter.mpr ⟨List.mem_append_right _ (List.mem_append_left _ (List.mem_of_getElem? (i := 16) rfl)), rfl⟩
theorem m3_90 : Cond.classLink RL 18 RX7 ∈ h_tb := List.mem_filter.mpr ⟨List.mem_append_right _ (List.mem_append_right _ (List.mem_append_right _ (List.mem_append_left _ (List.mem_of_getElem? (i := 90) rfl)))), rfl⟩
theorem m3_91 : Cond.instantiable RX7 23 ∈ h_tb := List.mem_filter.mpr ⟨List.mem_append_right _ (List.mem_append_right _ (List.mem_append_right _ (List.mem_append_left _ (List.mem_of_getElem? (i := 91) rfl)))), rfl⟩
theorem m3_92 : Cond.methodLink RL 20 yX7_init ∈ h_tb := List.mem_filter.mpr ⟨List.mem_append_right _ (List.mem_append_right _ (List.mem_append_right _ (List.mem_append_left _ (List.mem_of_getElem? (i := 92) rfl)))), rfl⟩
theorem m3_94 : Cond.code yX7_init cX7_init 2 none ∈ h_tb := List.mem_filter.mpr ⟨List.mem_append_right _ (List.mem_append_right _ (List.mem_append_right _ (List.mem_append_left _ (List.mem_of_getElem? (i := 94) rfl)))), rfl⟩
theorem m3_93 : Cond.instanceMethod yX7_init ∈ h_tb := List.mem_filter.mpr ⟨List.mem_append_right _ (List.mem_append_right _ (List.mem_append_right _ (List.mem_append_left _ (List.mem_of_getElem? (i := 93) rfl)))), rfl⟩
theorem m1_224 : Cond.methodLink RL 21 yX6_clear ∈ h_tb := List.mem_filter.mpr ⟨List.mem_append_right _ (List.mem_append_left _ (List.mem_of_getElem? (i := 224) rfl)), rfl⟩
theorem m1_227 : Cond.code yX6_clear cX6_clear 3 (some .int) ∈ h_tb := List.mem_filter.mpr ⟨List.mem_append_right _ (List.mem_append_left _ (List.mem_of_getElem? (i := 227) rfl)), rfl⟩
theorem m1_225 : Cond.instanceMethod yX6_clear ∈ h_tb := List.mem_filter.mpr ⟨List.mem_append_right _ (List.mem_append_left _ (List.mem_of_getElem? (i := 225) rfl)), rfl⟩
theorem m1_226 : Cond.selects RX6 yX6_clear yX6_clear ∈ h_tb := List.mem_filter.mpr ⟨List.mem_append_right _ (List.mem_append_left _ (List.mem_of_getElem? (i := 226) rfl)), rfl⟩
theorem m3_170 : Cond.methodLink RL 25 yX7_clear ∈ h_tb := List.mem_filter.mpr ⟨List.mem_append_right _ (List.mem_append_right _ (List.mem_append_right _ (List.mem_append_left _ (List.mem_of_getElem? (i := 170) rfl)))), rfl⟩
theorem m3_173 : Cond.code yX7_clear cX7_clear 3 (some .int) ∈ h_tb := List.mem_filter.mpr ⟨List.mem_append_right _ (List.mem_append_right _ (List.mem_append_right _ (List.mem_append_left _ (List.mem_of_getElem? (i := 173) rfl)))), rfl⟩
theorem m3_171 : Cond.instanceMethod yX7_clear ∈ h_tb := List.mem_filter.mpr ⟨List.mem_append_right _ (List.mem_append_right _ (List.mem_append_right _ (List.mem_append_left _ (List.mem_of_getElem? (i := 171) rfl)))), rfl⟩
theorem m3_172 : Cond.selects RX7 yX7_clear yX7_clear ∈ h_tb := List.mem_filter.mpr ⟨List.mem_append_right _ (List.mem_append_right _ (List.mem_append_right _ (List.mem_append_left _ (List.mem_of_getElem? (i := 172) rfl)))), rfl⟩
theorem m2_26 : Cond.methodLink RL 26 yX6_note ∈ h_tb := List.mem_filter.mpr ⟨List.mem_append_right _ (List.mem_append_right _ (List.mem_append_left _ (List.mem_of_getElem? (i := 26) rfl))), rfl⟩
theorem m2_29 : Cond.code yX6_note cX6_note 5 (some .int) ∈ h_tb := List.mem_filter.mpr ⟨List.mem_append_right _ (List.mem_append_right _ (List.mem_append_left _ (List.mem_of_getElem? (i := 29) rfl))), rfl⟩
theorem m2_27 : Cond.instanceMethod yX6_note ∈ h_tb := List.mem_filter.mpr ⟨List.mem_append_right _ (List.mem_append_right _ (List.mem_append_left _ (List.mem_of_getElem? (i := 27) rfl))), rfl⟩
theorem m2_28 : Cond.selects RX6 yX6_note yX6_note ∈ h_tb := List.mem_filter.mpr ⟨List.mem_append_right _ (List.mem_append_right _ (List.mem_append_left _ (List.mem_of_getElem? (i := 28) rfl))), rfl⟩
theorem m3_174 : Cond.methodLink RL 30 yX7_note ∈ h_tb := List.mem_filter.mpr ⟨List.mem_append_right _ (List.mem_append_right _ (List.mem_append_right _ (List.mem_append_left _ (List.mem_of_getElem? (i := 174) rfl)))), rfl⟩
theorem m3_177 : Cond.code yX7_note cX7_note 6 (some .int) ∈ h_tb := List.mem_filter.mpr ⟨List.mem_append_right _ (List.mem_append_right _ (List.mem_append_right _ (List.mem_append_left _ (List.mem_of_getElem? (i := 177) rfl)))), rfl⟩
theorem m3_175 : Cond.instanceMethod yX7_note ∈ h_tb := List.mem_filter.mpr ⟨List.mem_append_right _ (List.mem_append_right _ (List.mem_append_right _ (List.mem_append_left _ (List.mem_of_getElem? (i := 175) rfl)))), rfl⟩
theorem m3_176 : Cond.selects RX7 yX7_note yX7_note ∈ h_tb := List.mem_filter.mpr ⟨List.mem_append_right _ (List.mem_append_right _ (List.mem_append_right _ (List.mem_append_left _ (List.mem_of_getElem? (i := 176) rfl)))), rfl⟩
theorem m2_49 : Cond.methodLink RL 31 yX6_rest ∈ h_tb := List.mem_filter.mpr ⟨List.mem_append_right _ (List.mem_append_right _ (List.mem_append_left _ (List.mem_of_getElem? (i := 49) rfl))), rfl⟩
theorem m2_52 : Cond.code yX6_rest cX6_rest 3 (some .int) ∈ h_tb := List.mem_filter.mpr ⟨List.mem_append_right _ (List.mem_append_right _ (List.mem_append_left _ (List.mem_of_getElem? (i := 52) rfl))), rfl⟩
theorem m2_50 : Cond.instanceMethod yX6_rest ∈ h_tb := List.mem_filter.mpr ⟨List.mem_append_right _ (List.mem_append_right _ (List.mem_append_left _ (List.mem_of_getElem? (i := 50) rfl))), rfl⟩
theorem m2_51 : Cond.selects RX6 yX6_rest yX6_rest ∈ h_tb := List.mem_filter.mpr ⟨List.mem_append_right _ (List.mem_append_right _ (List.mem_append_left _ (List.mem_of_getElem? (i := 51) rfl))), rfl⟩
theorem m3_189 : Cond.methodLink RL 35 yX7_rest ∈ h_tb := List.mem_filter.mpr ⟨List.mem_append_right _ (List.mem_append_right _ (List.mem_append_right _ (List.mem_append_left _ (List.mem_of_getElem? (i := 189) rfl)))), rfl⟩
theorem m3_192 : Cond.code yX7_rest cX7_rest 3 (some .int) ∈ h_tb := List.mem_filter.mpr ⟨List.mem_append_right _ (List.mem_append_right _ (List.mem_append_right _ (List.mem_append_left _ (List.mem_of_getElem? (i := 192) rfl)))), rfl⟩
theorem m3_190 : Cond.instanceMethod yX7_rest ∈ h_tb := List.mem_filter.mpr ⟨List.mem_append_right _ (List.mem_append_right _ (List.mem_append_right _ (List.mem_append_left _ (List.mem_of_getElem? (i := 190) rfl)))), rfl⟩
theorem m3_191 : Cond.selects RX7 yX7_rest yX7_rest ∈ h_tb := List.mem_filter.mpr ⟨List.mem_append_right _ (List.mem_append_right _ (List.mem_append_right _ (List.mem_append_left _ (List.mem_of_getElem? (i := 191) rfl)))), rfl⟩
theorem m2_53 : Cond.methodLink RL 36 yX6_take ∈ h_tb := List.mem_filter.mpr ⟨List.mem_append_right _ (List.mem_append_right _ (List.mem_append_left _ (List.mem_of_getElem? (i := 53) rfl))), rfl⟩
theorem m2_56 : Cond.code yX6_take cX6_take 3 (some .int) ∈ h_tb := List.mem_filter.mpr ⟨List.mem_append_right _ (List.mem_append_right _ (List.mem_append_left _ (List.mem_of_getElem? (i := 56) rfl))), rfl⟩
theorem m2_54 : Cond.instanceMethod yX6_take ∈ h_tb := List.mem_filter.mpr ⟨List.mem_append_right _ (List.mem_append_right _ (List.mem_append_left _ (List.mem_of_getElem? (i := 54) rfl))), rfl⟩
theorem m2_55 : Cond.selects RX6 yX6_take yX6_take ∈ h_tb := List.mem_filter.mpr ⟨List.mem_append_right _ (List.mem_append_right _ (List.mem_append_left _ (List.mem_of_getElem? (i := 55) rfl))), rfl⟩
theorem m3_193 : Cond.methodLink RL 40 yX7_take ∈ h_tb := List.mem_filter.mpr ⟨List.mem_append_right _ (List.mem_append_right _ (List.mem_append_right _ (List.mem_append_left _ (List.mem_of_getElem? (i := 193) rfl)))), rfl⟩
theorem m3_196 : Cond.code yX7_take cX7_take 2 (some .int) ∈ h_tb := List.mem_filter.mpr ⟨List.mem_append_right _ (List.mem_append_right _ (List.mem_append_right _ (List.mem_append_left _ (List.mem_of_getElem? (i := 196) rfl)))), rfl⟩
theorem m3_194 : Cond.instanceMethod yX7_take ∈ h_tb := List.mem_filter.mpr ⟨List.mem_append_right _ (List.mem_append_right _ (List.mem_append_right _ (List.mem_append_left _ (List.mem_of_getElem? (i := 194) rfl)))), rfl⟩
theorem m3_195 : Cond.selects RX7 yX7_take yX7_take ∈ h_tb := List.mem_filter.mpr ⟨List.mem_append_right _ (List.mem_append_right _ (List.mem_append_right _ (List.mem_append_left _ (List.mem_of_getElem? (i := 195) rfl)))), rfl⟩
theorem m2_61 : Cond.methodLink RL 41 yX6_rule ∈ h_tb := List.mem_filter.mpr ⟨List.mem_append_right _ (List.mem_append_right _ (List.mem_append_left _ (List.mem_of_getElem? (i := 61) rfl))), rfl⟩
theorem m2_64 : Cond.code yX6_rule cX6_rule 4 (some .int) ∈ h_tb := List.mem_filter.mpr ⟨List.mem_append_right _ (List.mem_append_right _ (List.mem_append_left _ (List.mem_of_getElem? (i := 64) rfl))), rfl⟩
theorem m2_62 : Cond.instanceMethod yX6_rule ∈ h_tb := List.mem_filter.mpr ⟨List.mem_append_right _ (List.mem_append_right _ (List.mem_append_left _ (List.mem_of_getElem? (i := 62) rfl))), rfl⟩
theorem m2_63 : Cond.selects RX6 yX6_rule yX6_rule ∈ h_tb := List.mem_filter.mpr ⟨List.mem_append_right _ (List.mem_append_right _ (List.mem_append_left _ (List.mem_of_getElem? (i := 63) rfl))), rfl⟩
theorem m3_197 : Cond.methodLink RL 44 yX7_rule ∈ h_tb := List.mem_filter.mpr ⟨List.mem_append_right _ (List.mem_append_right _ (List.mem_append_right _ (List.mem_append_left _ (List.mem_of_getElem? (i := 197) rfl)))), rfl⟩
theorem m3_200 : Cond.code yX7_rule cX7_rule 4 (some .int) ∈ h_tb := List.mem_filter.mpr ⟨List.mem_append_right _ (List.mem_append_right _ (List.mem_append_right _ (List.mem_append_left _ (List.mem_of_getElem? (i := 200) rfl)))), rfl⟩
theorem m3_198 : Cond.instanceMethod yX7_rule ∈ h_tb := List.mem_filter.mpr ⟨List.mem_append_right _ (List.mem_append_right _ (List.mem_append_right _ (List.mem_append_left _ (List.mem_of_getElem? (i := 198) rfl)))), rfl⟩
theorem m3_199 : Cond.selects RX7 yX7_rule yX7_rule ∈ h_tb := List.mem_filter.mpr ⟨List.mem_append_right _ (List.mem_append_right _ (List.mem_append_right _ (List.mem_append_left _ (List.mem_of_getElem? (i := 199) rfl)))), rfl⟩
theorem m2_68 : Cond.methodLink RL 45 yX6_style ∈ h_tb := List.mem_filter.mpr ⟨List.mem_append_right _ (List.mem_append_right _ (List.mem_append_left _ (List.mem_of_getElem? (i := 68) rfl))), rfl⟩
theorem m2_71 : Cond.code yX6_style cX6_style 2 (some .int) ∈ h_tb := List.mem_filter.mpr ⟨List.mem_append_right _ (List.mem_append_right _ (List.mem_append_left _ (List.mem_of_getElem? (i := 71) rfl))), rfl⟩
theorem m2_69 : Cond.instanceMethod yX6_style ∈ h_tb := List.mem_filter.mpr ⟨List.mem_append_right _ (List.mem_append_right _ (List.mem_append_left _ (List.mem_of_getElem? (i := 69) rfl))), rfl⟩
theorem m2_70 : Cond.selects RX6 yX6_style yX6_style ∈ h_tb := List.mem_filter.mpr ⟨List.mem_append_right _ (List.mem_append_right _ (List.mem_append_left _ (List.mem_of_getElem? (i := 70) rfl))), rfl⟩
theorem m3_201 : Cond.methodLink RL 48 yX7_style ∈ h_tb := List.mem_filter.mpr ⟨List.mem_append_right _ (List.mem_append_right _ (List.mem_append_right _ (List.mem_append_left _ (List.mem_of_getElem? (i := 201) rfl)))), rfl⟩
theorem m3_204 : Cond.code yX7_style cX7_style 6 (some .int) ∈ h_tb := List.mem_filter.mpr ⟨List.mem_append_right _ (List.mem_append_right _ (List.mem_append_right _ (List.mem_append_left _ (List.mem_of_getElem? (i := 204) rfl)))), rfl⟩
theorem m3_202 : Cond.instanceMethod yX7_style ∈ h_tb := List.mem_filter.mpr ⟨List.mem_append_right _ (List.mem_append_right _ (List.mem_append_right _ (List.mem_append_left _ (List.mem_of_getElem? (i := 202) rfl)))), rfl⟩
theorem m3_203 : Cond.selects RX7 yX7_style yX7_style ∈ h_tb := List.mem_filter.mpr ⟨List.mem_append_right _ (List.mem_append_right _ (List.mem_append_right _ (List.mem_append_left _ (List.mem_of_getElem? (i := 203) rfl)))), rfl⟩
theorem m2_78 : Cond.methodLink RL 49 yX6_key ∈ h_tb := List.mem_filter.mpr ⟨List.mem_append_right _ (List.mem_append_right _ (List.mem_append_left _ (List.mem_of_getElem? (i := 78) rfl))), rfl⟩
theorem m2_81 : Cond.code yX6_key cX6_key 3 (some .int) ∈ h_tb := List.mem_filter.mpr ⟨List.mem_append_right _ (List.mem_append_right _ (List.mem_append_left _ (List.mem_of_getElem? (i := 81) rfl))), rfl⟩
theorem m2_79 : Cond.instanceMethod yX6_key ∈ h_tb := List.mem_filter.mpr ⟨List.mem_append_right _ (List.mem_append_right _ (List.mem_append_left _ (List.mem_of_getElem? (i := 79) rfl))), rfl⟩
theorem m2_80 : Cond.selects RX6 yX6_key yX6_key ∈ h_tb := List.mem_filter.mpr ⟨List.mem_append_right _ (List.mem_append_right _ (List.mem_append_left _ (List.mem_of_getElem? (i := 80) rfl))), rfl⟩
theorem m3_205 : Cond.methodLink RL 52 yX7_key ∈ h_tb := List.mem_filter.mpr ⟨List.mem_append_right _ (List.mem_append_right _ (List.mem_append_right _ (List.mem_append_left _ (List.mem_of_getElem? (i := 205) rfl)))), rfl⟩
theorem m3_208 : Cond.code yX7_key cX7_key 3 (some .int) ∈ h_tb := List.mem_filter.mpr ⟨List.mem_append_right _ (List.mem_append_right _ (List.mem_append_right _ (List.mem_append_left _ (List.mem_of_getElem? (i := 208) rfl)))), rfl⟩
theorem m3_206 : Cond.instanceMethod yX7_key ∈ h_tb := List.mem_filter.mpr ⟨List.mem_append_right _ (List.mem_append_right _ (List.mem_append_right _ (List.mem_append_left _ (List.mem_of_getElem? (i := 206) rfl)))), rfl⟩
theorem m3_207 : Cond.selects RX7 yX7_key yX7_key ∈ h_tb := List.mem_filter.mpr ⟨List.mem_append_right _ (List.mem_append_right _ (List.mem_append_right _ (List.mem_append_left _ (List.mem_of_getElem? (i := 207) rfl)))), rfl⟩
theorem m2_82 : Cond.methodLink RL 53 yX6_range ∈ h_tb := List.mem_filter.mpr ⟨List.mem_append_right _ (List.mem_append_right _ (List.mem_append_left _ (List.mem_of_getElem? (i := 82) rfl))), rfl⟩
theorem m2_85 : Cond.code yX6_range cX6_range 5 (some .int) ∈ h_tb := List.mem_filter.mpr ⟨List.mem_append_right _ (List.mem_append_right _ (List.mem_append_left _ (List.mem_of_getElem? (i := 85) rfl))), rfl⟩
theorem m2_83 : Cond.instanceMethod yX6_range ∈ h_tb := List.mem_filter.mpr ⟨List.mem_append_right _ (List.mem_append_right _ (List.mem_append_left _ (List.mem_of_getElem? (i := 83) rfl))), rfl⟩
theorem m2_84 : Cond.selects RX6 yX6_range yX6_range ∈ h_tb := List.mem_filter.mpr ⟨List.mem_append_right _ (List.mem_append_right _ (List.mem_append_left _ (List.mem_of_getElem? (i := 84) rfl))), rfl⟩
theorem m3_209 : Cond.methodLink RL 57 yX7_range ∈ h_tb := List.mem_filter.mpr ⟨List.mem_append_right _ (List.mem_append_right _ (List.mem_append_right _ (List.mem_append_left _ (List.mem_of_getElem? (i := 209) rfl)))), rfl⟩
theorem m3_212 : Cond.code yX7_range cX7_range 7 (some .int) ∈ h_tb := List.mem_filter.mpr ⟨List.mem_append_right _ (List.mem_append_right _ (List.mem_append_right _ (List.mem_append_left _ (List.mem_of_getElem? (i := 212) rfl)))), rfl⟩
theorem m3_210 : Cond.instanceMethod yX7_range ∈ h_tb := List.mem_filter.mpr ⟨List.mem_append_right _ (List.mem_append_right _ (List.mem_append_right _ (List.mem_append_left _ (List.mem_of_getElem? (i := 210) rfl)))), rfl⟩
theorem m3_211 : Cond.selects RX7 yX7_range yX7_range ∈ h_tb := List.mem_filter.mpr ⟨List.mem_append_right _ (List.mem_append_right _ (List.mem_append_right _ (List.mem_append_left _ (List.mem_of_getElem? (i := 211) rfl)))), rfl⟩
theorem m2_104 : Cond.methodLink RL 58 yX6_grid ∈ h_tb := List.mem_filter.mpr ⟨List.mem_append_right _ (List.mem_append_right _ (List.mem_append_left _ (List.mem_of_getElem? (i := 104) rfl))), rfl⟩
theorem m2_107 : Cond.code yX6_grid cX6_grid 2 (some .int) ∈ h_tb := List.mem_filter.mpr ⟨List.mem_append_right _ (List.mem_append_right _ (List.mem_append_left _ (List.mem_of_getElem? (i := 107) rfl))), rfl⟩
theorem m2_105 : Cond.instanceMethod yX6_grid ∈ h_tb := List.mem_filter.mpr ⟨List.mem_append_right _ (List.mem_append_right _ (List.mem_append_left _ (List.mem_of_getElem? (i := 105) rfl))), rfl⟩
theorem m2_106 : Cond.selects RX6 yX6_grid yX6_grid ∈ h_tb := List.mem_filter.mpr ⟨List.mem_append_right _ (List.mem_append_right _ (List.mem_append_left _ (List.mem_of_getElem? (i := 106) rfl))), rfl⟩
theorem m3_220 : Cond.methodLink RL 61 yX7_grid ∈ h_tb := List.mem_filter.mpr ⟨List.mem_append_right _ (List.mem_append_right _ (List.mem_append_right _ (List.mem_append_left _ (List.mem_of_getElem? (i := 220) rfl)))), rfl⟩
theorem m3_223 : Cond.code yX7_grid cX7_grid 2 (some .int) ∈ h_tb := List.mem_filter.mpr ⟨List.mem_append_right _ (List.mem_append_right _ (List.mem_append_right _ (List.mem_append_left _ (List.mem_of_getElem? (i := 223) rfl)))), rfl⟩
theorem m3_221 : Cond.instanceMethod yX7_grid ∈ h_tb := List.mem_filter.mpr ⟨List.mem_append_right _ (List.mem_append_right _ (List.mem_append_right _ (List.mem_append_left _ (List.mem_of_getElem? (i := 221) rfl)))), rfl⟩
theorem m3_222 : Cond.selects RX7 yX7_grid yX7_grid ∈ h_tb := List.mem_filter.mpr ⟨List.mem_append_right _ (List.mem_append_right _ (List.mem_append_right _ (List.mem_append_left _ (List.mem_of_getElem? (i := 222) rfl)))), rfl⟩
theorem m2_108 : Cond.methodLink RL 62 yX6_repeat ∈ h_tb := List.mem_filter.mpr ⟨List.mem_append_right _ (List.mem_append_right _ (List.mem_append_left _ (List.mem_of_getElem? (i := 108) rfl))), rfl⟩
theorem m2_111 : Cond.code yX6_repeat cX6_repeat 3 (some .int) ∈ h_tb := List.mem_filter.mpr ⟨List.mem_append_right _ (List.mem_append_right _ (List.mem_append_left _ (List.mem_of_getElem? (i := 111) rfl))), rfl⟩
theorem m2_109 : Cond.instanceMethod yX6_repeat ∈ h_tb := List.mem_filter.mpr ⟨List.mem_append_right _ (List.mem_append_right _ (List.mem_append_left _ (List.mem_of_getElem? (i := 109) rfl))), rfl⟩
theorem m2_110 : Cond.selects RX6 yX6_repeat yX6_repeat ∈ h_tb := List.mem_filter.mpr ⟨List.mem_append_right _ (List.mem_append_right _ (List.mem_append_left _ (List.mem_of_getElem? (i := 110) rfl))), rfl⟩
theorem m3_228 : Cond.methodLink RL 65 yX7_repeat ∈ h_tb := List.mem_filter.mpr ⟨List.mem_append_right _ (List.mem_append_right _ (List.mem_append_right _ (List.mem_append_left _ (List.mem_of_getElem? (i := 228) rfl)))), rfl⟩
theorem m3_231 : Cond.code yX7_repeat cX7_repeat 3 (some .int) ∈ h_tb := List.mem_filter.mpr ⟨List.mem_append_right _ (List.mem_append_right _ (List.mem_append_right _ (List.mem_append_left _ (List.mem_of_getElem? (i := 231) rfl)))), rfl⟩
theorem m3_229 : Cond.instanceMethod yX7_repeat ∈ h_tb := List.mem_filter.mpr ⟨List.mem_append_right _ (List.mem_append_right _ (List.mem_append_right _ (List.mem_append_left _ (List.mem_of_getElem? (i := 229) rfl)))), rfl⟩
theorem m3_230 : Cond.selects RX7 yX7_repeat yX7_repeat ∈ h_tb := List.mem_filter.mpr ⟨List.mem_append_right _ (List.mem_append_right _ (List.mem_append_right _ (List.mem_append_left _ (List.mem_of_getElem? (i := 230) rfl)))), rfl⟩
theorem m2_116 : Cond.methodLink RL 66 yX6_except ∈ h_tb := List.mem_filter.mpr ⟨List.mem_append_right _ (List.mem_append_right _ (List.mem_append_left _ (List.mem_of_getElem? (i := 116) rfl))), rfl⟩
theorem m2_119 : Cond.code yX6_except cX6_except 3 (some .int) ∈ h_tb := List.mem_filter.mpr ⟨List.mem_append_right _ (List.mem_append_right _ (List.mem_append_left _ (List.mem_of_getElem? (i := 119) rfl))), rfl⟩
theorem m2_117 : Cond.instanceMethod yX6_except ∈ h_tb := List.mem_filter.mpr ⟨List.mem_append_right _ (List.mem_append_right _ (List.mem_append_left _ (List.mem_of_getElem? (i := 117) rfl))), rfl⟩
theorem m2_118 : Cond.selects RX6 yX6_except yX6_except ∈ h_tb := List.mem_filter.mpr ⟨List.mem_append_right _ (List.mem_append_right _ (List.mem_append_left _ (List.mem_of_getElem? (i := 118) rfl))), rfl⟩
theorem m3_232 : Cond.methodLink RL 69 yX7_except ∈ h_tb := List.mem_filter.mpr ⟨List.mem_append_right _ (List.mem_append_right _ (List.mem_append_right _ (List.mem_append_left _ (List.mem_of_getElem? (i := 232) rfl)))), rfl⟩
theorem m3_235 : Cond.code yX7_except cX7_except 3 (some .int) ∈ h_tb := List.mem_filter.mpr ⟨List.mem_append_right _ (List.mem_append_right _ (List.mem_append_right _ (List.mem_append_left _ (List.mem_of_getElem? (i := 235) rfl)))), rfl⟩
theorem m3_233 : Cond.instanceMethod yX7_except ∈ h_tb := List.mem_filter.mpr ⟨List.mem_append_right _ (List.mem_append_right _ (List.mem_append_right _ (List.mem_append_left _ (List.mem_of_getElem? (i := 233) rfl)))), rfl⟩
theorem m3_234 : Cond.selects RX7 yX7_except yX7_except ∈ h_tb := List.mem_filter.mpr ⟨List.mem_append_right _ (List.mem_append_right _ (List.mem_append_right _ (List.mem_append_left _ (List.mem_of_getElem? (i := 234) rfl)))), rfl⟩
theorem m2_124 : Cond.methodLink RL 70 yX6_judge ∈ h_tb := List.mem_filter.mpr ⟨List.mem_append_right _ (List.mem_append_right _ (List.mem_append_left _ (List.mem_of_getElem? (i := 124) rfl))), rfl⟩
theorem m2_127 : Cond.code yX6_judge cX6_judge 3 (some .int) ∈ h_tb := List.mem_filter.mpr ⟨List.mem_append_right _ (List.mem_append_right _ (List.mem_append_left _ (List.mem_of_getElem? (i := 127) rfl))), rfl⟩
theorem m2_125 : Cond.instanceMethod yX6_judge ∈ h_tb := List.mem_filter.mpr ⟨List.mem_append_right _ (List.mem_append_right _ (List.mem_append_left _ (List.mem_of_getElem? (i := 125) rfl))), rfl⟩
theorem m2_126 : Cond.selects RX6 yX6_judge yX6_judge ∈ h_tb := List.mem_filter.mpr ⟨List.mem_append_right _ (List.mem_append_right _ (List.mem_append_left _ (List.mem_of_getElem? (i := 126) rfl))), rfl⟩
theorem m4_0 : Cond.methodLink RL 73 yX7_judge ∈ h_tb := List.mem_filter.mpr ⟨List.mem_append_right _ (List.mem_append_right _ (List.mem_append_right _ (List.mem_append_right _ (List.mem_of_getElem? (i := 0) rfl)))), rfl⟩
theorem m4_3 : Cond.code yX7_judge cX7_judge 6 (some .int) ∈ h_tb := List.mem_filter.mpr ⟨List.mem_append_right _ (List.mem_append_right _ (List.mem_append_right _ (List.mem_append_right _ (List.mem_of_getElem? (i := 3) rfl)))), rfl⟩
theorem m4_1 : Cond.instanceMethod yX7_judge ∈ h_tb := List.mem_filter.mpr ⟨List.mem_append_right _ (List.mem_append_right _ (List.mem_append_right _ (List.mem_append_right _ (List.mem_of_getElem? (i := 1) rfl)))), rfl⟩
theorem m4_2 : Cond.selects RX7 yX7_judge yX7_judge ∈ h_tb := List.mem_filter.mpr ⟨List.mem_append_right _ (List.mem_append_right _ (List.mem_append_right _ (List.mem_append_right _ (List.mem_of_getElem? (i := 2) rfl)))), rfl⟩
theorem m3_41 : Cond.methodLink RL 74 yX6_fault ∈ h_tb := List.mem_filter.mpr ⟨List.mem_append_right _ (List.mem_append_right _ (List.mem_append_right _ (List.mem_append_left _ (List.mem_of_getElem? (i := 41) rfl)))), rfl⟩
theorem m3_44 : Cond.code yX6_fault cX6_fault 4 (some .int) ∈ h_tb := List.mem_filter.mpr ⟨List.mem_append_right _ (List.mem_append_right _ (List.mem_append_right _ (List.mem_append_left _ (List.mem_of_getElem? (i := 44) rfl)))), rfl⟩
theorem m3_42 : Cond.instanceMethod yX6_fault ∈ h_tb := List.mem_filter.mpr ⟨List.mem_append_right _ (List.mem_append_right _ (List.mem_append_right _ (List.mem_append_left _ (List.mem_of_getElem? (i := 42) rfl)))), rfl⟩
theorem m3_43 : Cond.selects RX6 yX6_fault yX6_fault ∈ h_tb := List.mem_filter.mpr ⟨List.mem_append_right _ (List.mem_append_right _ (List.mem_append_right _ (List.mem_append_left _ (List.mem_of_getElem? (i := 43) rfl)))), rfl⟩
theorem m4_70 : Cond.methodLink RL 77 yX7_fault ∈ h_tb := List.mem_filter.mpr ⟨List.mem_append_right _ (List.mem_append_right _ (List.mem_append_right _ (List.mem_append_right _ (List.mem_of_getElem? (i := 70) rfl)))), rfl⟩
theorem m4_73 : Cond.code yX7_fault cX7_fault 6 (some .int) ∈ h_tb := List.mem_filter.mpr ⟨List.mem_append_right _ (List.mem_append_right _ (List.mem_append_right _ (List.mem_append_right _ (List.mem_of_getElem? (i := 73) rfl)))), rfl⟩
theorem m4_71 : Cond.instanceMethod yX7_fault ∈ h_tb := List.mem_filter.mpr ⟨List.mem_append_right _ (List.mem_append_right _ (List.mem_append_right _ (List.mem_append_right _ (List.mem_of_getElem? (i := 71) rfl)))), rfl⟩
theorem m4_72 : Cond.selects RX7 yX7_fault yX7_fault ∈ h_tb := List.mem_filter.mpr ⟨List.mem_append_right _ (List.mem_append_right _ (List.mem_append_right _ (List.mem_append_right _ (List.mem_of_getElem? (i := 72) rfl)))), rfl⟩
theorem m3_56 : Cond.methodLink RL 78 yX6_count ∈ h_tb := List.mem_filter.mpr ⟨List.mem_append_right _ (List.mem_append_right _ (List.mem_append_right _ (List.mem_append_left _ (List.mem_of_getElem? (i := 56) rfl)))), rfl⟩
theorem m3_59 : Cond.code yX6_count cX6_count 3 (some .int) ∈ h_tb := List.mem_filter.mpr ⟨List.mem_append_right _ (List.mem_append_right _ (List.mem_append_right _ (List.mem_append_left _ (List.mem_of_getElem? (i := 59) rfl)))), rfl⟩
theorem m3_57 : Cond.instanceMethod yX6_count ∈ h_tb := List.mem_filter.mpr ⟨List.mem_append_right _ (List.mem_append_right _ (List.mem_append_right _ (List.mem_append_left _ (List.mem_of_getElem? (i := 57) rfl)))), rfl⟩
theorem m3_58 : Cond.selects RX6 yX6_count yX6_count ∈ h_tb := List.mem_filter.mpr ⟨List.mem_append_right _ (List.mem_append_right _ (List.mem_append_right _ (List.mem_append_left _ (List.mem_of_getElem? (i := 58) rfl)))), rfl⟩
theorem m4_74 : Cond.methodLink RL 81 yX7_count ∈ h_tb := List.mem_filter.mpr ⟨List.mem_append_right _ (List.mem_append_right _ (List.mem_append_right _ (List.mem_append_right _ (List.mem_of_getElem? (i := 74) rfl)))), rfl⟩
theorem m4_77 : Cond.code yX7_count cX7_count 4 (some .int) ∈ h_tb := List.mem_filter.mpr ⟨List.mem_append_right _ (List.mem_append_right _ (List.mem_append_right _ (List.mem_append_right _ (List.mem_of_getElem? (i := 77) rfl)))), rfl⟩
theorem m4_75 : Cond.instanceMethod yX7_count ∈ h_tb := List.mem_filter.mpr ⟨List.mem_append_right _ (List.mem_append_right _ (List.mem_append_right _ (List.mem_append_right _ (List.mem_of_getElem? (i := 75) rfl)))), rfl⟩
theorem m4_76 : Cond.selects RX7 yX7_count yX7_count ∈ h_tb := List.mem_filter.mpr ⟨List.mem_append_right _ (List.mem_append_right _ (List.mem_append_right _ (List.mem_append_right _ (List.mem_of_getElem? (i := 76) rfl)))), rfl⟩
theorem m3_60 : Cond.methodLink RL 82 yX6_moments ∈ h_tb := List.mem_filter.mpr ⟨List.mem_append_right _ (List.mem_append_right _ (List.mem_append_right _ (List.mem_append_left _ (List.mem_of_getElem? (i := 60) rfl)))), rfl⟩
theorem m3_63 : Cond.code yX6_moments cX6_moments 1 (some .int) ∈ h_tb := List.mem_filter.mpr ⟨List.mem_append_right _ (List.mem_append_right _ (List.mem_append_right _ (List.mem_append_left _ (List.mem_of_getElem? (i := 63) rfl)))), rfl⟩
theorem m3_61 : Cond.instanceMethod yX6_moments ∈ h_tb := List.mem_filter.mpr ⟨List.mem_append_right _ (List.mem_append_right _ (List.mem_append_right _ (List.mem_append_left _ (List.mem_of_getElem? (i := 61) rfl)))), rfl⟩
theorem m3_62 : Cond.selects RX6 yX6_moments yX6_moments ∈ h_tb := List.mem_filter.mpr ⟨List.mem_append_right _ (List.mem_append_right _ (List.mem_append_right _ (List.mem_append_left _ (List.mem_of_getElem? (i := 62) rfl)))), rfl⟩
theorem m4_78 : Cond.methodLink RL 85 yX7_moments ∈ h_tb := List.mem_filter.mpr ⟨List.mem_append_right _ (List.mem_append_right _ (List.mem_append_right _ (List.mem_append_right _ (List.mem_of_getElem? (i := 78) rfl)))), rfl⟩
theorem m4_81 : Cond.code yX7_moments cX7_moments 1 (some .int) ∈ h_tb := List.mem_filter.mpr ⟨List.mem_append_right _ (List.mem_append_right _ (List.mem_append_right _ (List.mem_append_right _ (List.mem_of_getElem? (i := 81) rfl)))), rfl⟩
theorem m4_79 : Cond.instanceMethod yX7_moments ∈ h_tb := List.mem_filter.mpr ⟨List.mem_append_right _ (List.mem_append_right _ (List.mem_append_right _ (List.mem_append_right _ (List.mem_of_getElem? (i := 79) rfl)))), rfl⟩
theorem m4_80 : Cond.selects RX7 yX7_moments yX7_moments ∈ h_tb := List.mem_filter.mpr ⟨List.mem_append_right _ (List.mem_append_right _ (List.mem_append_right _ (List.mem_append_right _ (List.mem_of_getElem? (i := 80) rfl)))), rfl⟩
theorem m3_64 : Cond.methodLink RL 86 yX6_time ∈ h_tb := List.mem_filter.mpr ⟨List.mem_append_right _ (List.mem_append_right _ (List.mem_append_right _ (List.mem_append_left _ (List.mem_of_getElem? (i := 64) rfl)))), rfl⟩
theorem m3_67 : Cond.code yX6_time cX6_time 2 (some .int) ∈ h_tb := List.mem_filter.mpr ⟨List.mem_append_right _ (List.mem_append_right _ (List.mem_append_right _ (List.mem_append_left _ (List.mem_of_getElem? (i := 67) rfl)))), rfl⟩
theorem m3_65 : Cond.instanceMethod yX6_time ∈ h_tb := List.mem_filter.mpr ⟨List.mem_append_right _ (List.mem_append_right _ (List.mem_append_right _ (List.mem_append_left _ (List.mem_of_getElem? (i := 65) rfl)))), rfl⟩
theorem m3_66 : Cond.selects RX6 yX6_time yX6_time ∈ h_tb := List.mem_filter.mpr ⟨List.mem_append_right _ (List.mem_append_right _ (List.mem_append_right _ (List.mem_append_left _ (List.mem_of_getElem? (i := 66) rfl)))), rfl⟩
theorem m4_82 : Cond.methodLink RL 89 yX7_time ∈ h_tb := List.mem_filter.mpr ⟨List.mem_append_right _ (List.mem_append_right _ (List.mem_append_right _ (List.mem_append_right _ (List.mem_of_getElem? (i := 82) rfl)))), rfl⟩
theorem m4_85 : Cond.code yX7_time cX7_time 2 (some .int) ∈ h_tb := List.mem_filter.mpr ⟨List.mem_append_right _ (List.mem_append_right _ (List.mem_append_right _ (List.mem_append_right _ (List.mem_of_getElem? (i := 85) rfl)))), rfl⟩
theorem m4_83 : Cond.instanceMethod yX7_time ∈ h_tb := List.mem_filter.mpr ⟨List.mem_append_right _ (List.mem_append_right _ (List.mem_append_right _ (List.mem_append_right _ (List.mem_of_getElem? (i := 83) rfl)))), rfl⟩
theorem m4_84 : Cond.selects RX7 yX7_time yX7_time ∈ h_tb := List.mem_filter.mpr ⟨List.mem_append_right _ (List.mem_append_right _ (List.mem_append_right _ (List.mem_append_right _ (List.mem_of_getElem? (i := 84) rfl)))), rfl⟩
theorem m3_72 : Cond.methodLink RL 90 yX6_height ∈ h_tb := List.mem_filter.mpr ⟨List.mem_append_right _ (List.mem_append_right _ (List.mem_append_right _ (List.mem_append_left _ (List.mem_of_getElem? (i := 72) rfl)))), rfl⟩
theorem m3_75 : Cond.code yX6_height cX6_height 3 (some .int) ∈ h_tb := List.mem_filter.mpr ⟨List.mem_append_right _ (List.mem_append_right _ (List.mem_append_right _ (List.mem_append_left _ (List.mem_of_getElem? (i := 75) rfl)))), rfl⟩
theorem m3_73 : Cond.instanceMethod yX6_height ∈ h_tb := List.mem_filter.mpr ⟨List.mem_append_right _ (List.mem_append_right _ (List.mem_append_right _ (List.mem_append_left _ (List.mem_of_getElem? (i := 73) rfl)))), rfl⟩
theorem m3_74 : Cond.selects RX6 yX6_height yX6_height ∈ h_tb := List.mem_filter.mpr ⟨List.mem_append_right _ (List.mem_append_right _ (List.mem_append_right _ (List.mem_append_left _ (List.mem_of_getElem? (i := 74) rfl)))), rfl⟩
theorem m4_86 : Cond.methodLink RL 93 yX7_height ∈ h_tb := List.mem_filter.mpr ⟨List.mem_append_right _ (List.mem_append_right _ (List.mem_append_right _ (List.mem_append_right _ (List.mem_of_getElem? (i := 86) rfl)))), rfl⟩
theorem m4_89 : Cond.code yX7_height cX7_height 3 (some .int) ∈ h_tb := List.mem_filter.mpr ⟨List.mem_append_right _ (List.mem_append_right _ (List.mem_append_right _ (List.mem_append_right _ (List.mem_of_getElem? (i := 89) rfl)))), rfl⟩
theorem m4_87 : Cond.instanceMethod yX7_height ∈ h_tb := List.mem_filter.mpr ⟨List.mem_append_right _ (List.mem_append_right _ (List.mem_append_right _ (List.mem_append_right _ (List.mem_of_getElem? (i := 87) rfl)))), rfl⟩
theorem m4_88 : Cond.selects RX7 yX7_height yX7_height ∈ h_tb := List.mem_filter.mpr ⟨List.mem_append_right _ (List.mem_append_right _ (List.mem_append_right _ (List.mem_append_right _ (List.mem_of_getElem? (i := 88) rfl)))), rfl⟩
theorem m3_77 : Cond.methodLink RL 94 yX6_interval ∈ h_tb := List.mem_filter.mpr ⟨List.mem_append_right _ (List.mem_append_right _ (List.mem_append_right _ (List.mem_append_left _ (List.mem_of_getElem? (i := 77) rfl)))), rfl⟩
theorem m3_80 : Cond.code yX6_interval cX6_interval 4 (some .int) ∈ h_tb := List.mem_filter.mpr ⟨List.mem_append_right _ (List.mem_append_right _ (List.mem_append_right _ (List.mem_append_left _ (List.mem_of_getElem? (i := 80) rfl)))), rfl⟩
theorem m3_78 : Cond.instanceMethod yX6_interval ∈ h_tb := List.mem_filter.mpr ⟨List.mem_append_right _ (List.mem_append_right _ (List.mem_append_right _ (List.mem_append_left _ (List.mem_of_getElem? (i := 78) rfl)))), rfl⟩
theorem m3_79 : Cond.selects RX6 yX6_interval yX6_interval ∈ h_tb := List.mem_filter.mpr ⟨List.mem_append_right _ (List.mem_append_right _ (List.mem_append_right _ (List.mem_append_left _ (List.mem_of_getElem? (i := 79) rfl)))), rfl⟩
theorem m4_90 : Cond.methodLink RL 97 yX7_interval ∈ h_tb := List.mem_filter.mpr ⟨List.mem_append_right _ (List.mem_append_right _ (List.mem_append_right _ (List.mem_append_right _ (List.mem_of_getElem? (i := 90) rfl)))), rfl⟩
theorem m4_93 : Cond.code yX7_interval cX7_interval 4 (some .int) ∈ h_tb := List.mem_filter.mpr ⟨List.mem_append_right _ (List.mem_append_right _ (List.mem_append_right _ (List.mem_append_right _ (List.mem_of_getElem? (i := 93) rfl)))), rfl⟩
theorem m4_91 : Cond.instanceMethod yX7_interval ∈ h_tb := List.mem_filter.mpr ⟨List.mem_append_right _ (List.mem_append_right _ (List.mem_append_right _ (List.mem_append_right _ (List.mem_of_getElem? (i := 91) rfl)))), rfl⟩
theorem m4_92 : Cond.selects RX7 yX7_interval yX7_interval ∈ h_tb := List.mem_filter.mpr ⟨List.mem_append_right _ (List.mem_append_right _ (List.mem_append_right _ (List.mem_append_right _ (List.mem_of_getElem? (i := 92) rfl)))), rfl⟩
theorem m3_82 : Cond.methodLink RL 98 yX6_event ∈ h_tb := List.mem_filter.mpr ⟨List.mem_append_right _ (List.mem_append_right _ (List.mem_append_right _ (List.mem_append_left _ (List.mem_of_getElem? (i := 82) rfl)))), rfl⟩
theorem m3_85 : Cond.code yX6_event cX6_event 5 (some .int) ∈ h_tb := List.mem_filter.mpr ⟨List.mem_append_right _ (List.mem_append_right _ (List.mem_append_right _ (List.mem_append_left _ (List.mem_of_getElem? (i := 85) rfl)))), rfl⟩
theorem m3_83 : Cond.instanceMethod yX6_event ∈ h_tb := List.mem_filter.mpr ⟨List.mem_append_right _ (List.mem_append_right _ (List.mem_append_right _ (List.mem_append_left _ (List.mem_of_getElem? (i := 83) rfl)))), rfl⟩
theorem m3_84 : Cond.selects RX6 yX6_event yX6_event ∈ h_tb := List.mem_filter.mpr ⟨List.mem_append_right _ (List.mem_append_right _ (List.mem_append_right _ (List.mem_append_left _ (List.mem_of_getElem? (i := 84) rfl)))), rfl⟩
theorem m4_94 : Cond.methodLink RL 101 yX7_event ∈ h_tb := List.mem_filter.mpr ⟨List.mem_append_right _ (List.mem_append_right _ (List.mem_append_right _ (List.mem_append_right _ (List.mem_of_getElem? (i := 94) rfl)))), rfl⟩
theorem m4_97 : Cond.code yX7_event cX7_event 5 (some .int) ∈ h_tb := List.mem_filter.mpr ⟨List.mem_append_right _ (List.mem_append_right _ (List.mem_append_right _ (List.mem_append_right _ (List.mem_of_getElem? (i := 97) rfl)))), rfl⟩
theorem m4_95 : Cond.instanceMethod yX7_event ∈ h_tb := List.mem_filter.mpr ⟨List.mem_append_right _ (List.mem_append_right _ (List.mem_append_right _ (List.mem_append_right _ (List.mem_of_getElem? (i := 95) rfl)))), rfl⟩
theorem m4_96 : Cond.selects RX7 yX7_event yX7_event ∈ h_tb := List.mem_filter.mpr ⟨List.mem_append_right _ (List.mem_append_right _ (List.mem_append_right _ (List.mem_append_right _ (List.mem_of_getElem? (i := 96) rfl)))), rfl⟩
theorem m3_87 : Cond.methodLink RL 9 yL_cell ∈ h_tb := List.mem_filter.mpr ⟨List.mem_append_right _ (List.mem_append_right _ (List.mem_append_right _ (List.mem_append_left _ (List.mem_of_getElem? (i := 87) rfl)))), rfl⟩
theorem m3_89 : Cond.code yL_cell cL_cell 2 (some .int) ∈ h_tb := List.mem_filter.mpr ⟨List.mem_append_right _ (List.mem_append_right _ (List.mem_append_right _ (List.mem_append_left _ (List.mem_of_getElem? (i := 89) rfl)))), rfl⟩
theorem m1_0 : Cond.initialized RL ∈ h_tb := List.mem_filter.mpr ⟨List.mem_append_right _ (List.mem_append_left _ (List.mem_of_getElem? (i := 0) rfl)), rfl⟩
theorem m3_88 : Cond.static yL_cell ∈ h_tb := List.mem_filter.mpr ⟨List.mem_append_right _ (List.mem_append_right _ (List.mem_append_right _ (List.mem_append_left _ (List.mem_of_getElem? (i := 88) rfl)))), rfl⟩
theorem kL_15 : hp_kB RL 15 yX6_init cX6_init 4 none 1 := ⟨⟨m1_17, m1_1, Or.inl m1_15⟩, by decide +kernel, by decide +kernel, by decide +kernel⟩
theorem kL_20 : hp_kB RL 20 yX7_init cX7_init 2 none 1 := ⟨⟨m3_94, m1_9, Or.inl m3_92⟩, by decide +kernel, by decide +kernel, by decide +kernel⟩
theorem kL_21 : hp_kB RL 21 yX6_clear cX6_clear 3 (some .int) 0 := ⟨⟨m1_227, m1_1, Or.inl m1_224⟩, by decide +kernel, by decide +kernel, by decide +kernel⟩
theorem kL_25 : hp_kB RL 25 yX7_clear cX7_clear 3 (some .int) 0 := ⟨⟨m3_173, m1_9, Or.inl m3_170⟩, by decide +kernel, by decide +kernel, by decide +kernel⟩
theorem kL_26 : hp_kB RL 26 yX6_note cX6_note 5 (some .int) 4 := ⟨⟨m2_29, m1_1, Or.inl m2_26⟩, by decide +kernel, by decide +kernel, by decide +kernel⟩
theorem kL_30 : hp_kB RL 30 yX7_note cX7_note 6 (some .int) 4 := ⟨⟨m3_177, m1_9, Or.inl m3_174⟩, by decide +kernel, by decide +kernel, by decide +kernel⟩
theorem kL_31 : hp_kB RL 31 yX6_rest cX6_rest 3 (some .int) 2 := ⟨⟨m2_52, m1_1, Or.inl m2_49⟩, by decide +kernel, by decide +kernel, by decide +kernel⟩
theorem kL_35 : hp_kB RL 35 yX7_rest cX7_rest 3 (some .int) 2 := ⟨⟨m3_192, m1_9, Or.inl m3_189⟩, by decide +kernel, by decide +kernel, by decide +kernel⟩
theorem kL_36 : hp_kB RL 36 yX6_take cX6_take 3 (some .int) 1 := ⟨⟨m2_56, m1_1, Or.inl m2_53⟩, by decide +kernel, by decide +kernel, by decide +kernel⟩
theorem kL_40 : hp_kB RL 40 yX7_take cX7_take 2 (some .int) 1 := ⟨⟨m3_196, m1_9, Or.inl m3_193⟩, by decide +kernel, by decide +kernel, by decide +kernel⟩
theorem kL_41 : hp_kB RL 41 yX6_rule cX6_rule 4 (some .int) 2 := ⟨⟨m2_64, m1_1, Or.inl m2_61⟩, by decide +kernel, by decide +kernel, by decide +kernel⟩
theorem kL_44 : hp_kB RL 44 yX7_rule cX7_rule 4 (some .int) 2 := ⟨⟨m3_200, m1_9, Or.inl m3_197⟩, by decide +kernel, by decide +kernel, by decide +kernel⟩
theorem kL_45 : hp_kB RL 45 yX6_style cX6_style 2 (some .int) 1 := ⟨⟨m2_71, m1_1, Or.inl m2_68⟩, by decide +kernel, by decide +kernel, by decide +kernel⟩
theorem kL_48 : hp_kB RL 48 yX7_style cX7_style 6 (some .int) 1 := ⟨⟨m3_204, m1_9, Or.inl m3_201⟩, by decide +kernel, by decide +kernel, by decide +kernel⟩
theorem kL_49 : hp_kB RL 49 yX6_key cX6_key 3 (some .int) 1 := ⟨⟨m2_81, m1_1, Or.inl m2_78⟩, by decide +kernel, by decide +kernel, by decide +kernel⟩
theorem kL_52 : hp_kB RL 52 yX7_key cX7_key 3 (some .int) 1 := ⟨⟨m3_208, m1_9, Or.inl m3_205⟩, by decide +kernel, by decide +kernel, by decide +kernel⟩
theorem kL_53 : hp_kB RL 53 yX6_range cX6_range 5 (some .int) 3 := ⟨⟨m2_85, m1_1, Or.inl m2_82⟩, by decide +kernel, by decide +kernel, by decide +kernel⟩
theorem kL_57 : hp_kB RL 57 yX7_range cX7_range 7 (some .int) 3 := ⟨⟨m3_212, m1_9, Or.inl m3_209⟩, by decide +kernel, by decide +kernel, by decide +kernel⟩
theorem kL_58 : hp_kB RL 58 yX6_grid cX6_grid 2 (some .int) 1 := ⟨⟨m2_107, m1_1, Or.inl m2_104⟩, by decide +kernel, by decide +kernel, by decide +kernel⟩
theorem kL_61 : hp_kB RL 61 yX7_grid cX7_grid 2 (some .int) 1 := ⟨⟨m3_223, m1_9, Or.inl m3_220⟩, by decide +kernel, by decide +kernel, by decide +kernel⟩
theorem kL_62 : hp_kB RL 62 yX6_repeat cX6_repeat 3 (some .int) 2 := ⟨⟨m2_111, m1_1, Or.inl m2_108⟩, by decide +kernel, by decide +kernel, by decide +kernel⟩
theorem kL_65 : hp_kB RL 65 yX7_repeat cX7_repeat 3 (some .int) 2 := ⟨⟨m3_231, m1_9, Or.inl m3_228⟩, by decide +kernel, by decide +kernel, by decide +kernel⟩
theorem kL_66 : hp_kB RL 66 yX6_except cX6_except 3 (some .int) 2 := ⟨⟨m2_119, m1_1, Or.inl m2_116⟩, by decide +kernel, by decide +kernel, by decide +kernel⟩
theorem kL_69 : hp_kB RL 69 yX7_except cX7_except 3 (some .int) 2 := ⟨⟨m3_235, m1_9, Or.inl m3_232⟩, by decide +kernel, by decide +kernel, by decide +kernel⟩
theorem kL_70 : hp_kB RL 70 yX6_judge cX6_judge 3 (some .int) 0 := ⟨⟨m2_127, m1_1, Or.inl m2_124⟩, by decide +kernel, by decide +kernel, by decide +kernel⟩
theorem kL_73 : hp_kB RL 73 yX7_judge cX7_judge 6 (some .int) 0 := ⟨⟨m4_3, m1_9, Or.inl m4_0⟩, by decide +kernel, by decide +kernel, by decide +kernel⟩
theorem kL_74 : hp_kB RL 74 yX6_fault cX6_fault 4 (some .int) 2 := ⟨⟨m3_44, m1_1, Or.inl m3_41⟩, by decide +kernel, by decide +kernel, by decide +kernel⟩
theorem kL_77 : hp_kB RL 77 yX7_fault cX7_fault 6 (some .int) 2 := ⟨⟨m4_73, m1_9, Or.inl m4_70⟩, by decide +kernel, by decide +kernel, by decide +kernel⟩
theorem kL_78 : hp_kB RL 78 yX6_count cX6_count 3 (some .int) 1 := ⟨⟨m3_59, m1_1, Or.inl m3_56⟩, by decide +kernel, by decide +kernel, by decide +kernel⟩
theorem kL_81 : hp_kB RL 81 yX7_count cX7_count 4 (some .int) 1 := ⟨⟨m4_77, m1_9, Or.inl m4_74⟩, by decide +kernel, by decide +kernel, by decide +kernel⟩
theorem kL_82 : hp_kB RL 82 yX6_moments cX6_moments 1 (some .int) 0 := ⟨⟨m3_63, m1_1, Or.inl m3_60⟩, by decide +kernel, by decide +kernel, by decide +kernel⟩
theorem kL_85 : hp_kB RL 85 yX7_moments cX7_moments 1 (some .int) 0 := ⟨⟨m4_81, m1_9, Or.inl m4_78⟩, by decide +kernel, by decide +kernel, by decide +kernel⟩
theorem kL_86 : hp_kB RL 86 yX6_time cX6_time 2 (some .int) 1 := ⟨⟨m3_67, m1_1, Or.inl m3_64⟩, by decide +kernel, by decide +kernel, by decide +kernel⟩
theorem kL_89 : hp_kB RL 89 yX7_time cX7_time 2 (some .int) 1 := ⟨⟨m4_85, m1_9, Or.inl m4_82⟩, by decide +kernel, by decide +kernel, by decide +kernel⟩
theorem kL_90 : hp_kB RL 90 yX6_height cX6_height 3 (some .int) 2 := ⟨⟨m3_75, m1_1, Or.inl m3_72⟩, by decide +kernel, by decide +kernel, by decide +kernel⟩
theorem kL_93 : hp_kB RL 93 yX7_height cX7_height 3 (some .int) 2 := ⟨⟨m4_89, m1_9, Or.inl m4_86⟩, by decide +kernel, by decide +kernel, by decide +kernel⟩
theorem kL_94 : hp_kB RL 94 yX6_interval cX6_interval 4 (some .int) 3 := ⟨⟨m3_80, m1_1, Or.inl m3_77⟩, by decide +kernel, by decide +kernel, by decide +kernel⟩
theorem kL_97 : hp_kB RL 97 yX7_interval cX7_interval 4 (some .int) 3 := ⟨⟨m4_93, m1_9, Or.inl m4_90⟩, by decide +kernel, by decide +kernel, by decide +kernel⟩
theorem kL_98 : hp_kB RL 98 yX6_event cX6_event 5 (some .int) 3 := ⟨⟨m3_85, m1_1, Or.inl m3_82⟩, by decide +kernel, by decide +kernel, by decide +kernel⟩
theorem kL_101 : hp_kB RL 101 yX7_event cX7_event 5 (some .int) 3 := ⟨⟨m4_97, m1_9, Or.inl m4_94⟩, by decide +kernel, by decide +kernel, by decide +kernel⟩
theorem kL_9 : hp_kB RL 9 yL_cell cL_cell 2 (some .int) 2 := ⟨⟨m3_89, m1_0, Or.inl m3_87⟩, by decide +kernel, by decide +kernel, by decide +kernel⟩
theorem dL_cell_0 : decode cL_cell 0 = .ok (.iload_n 1, 1) := by decide +kernel
theorem dL_cell_1 : decode cL_cell 1 = .ok (.aload_n 0, 1) := by decide +kernel
theorem dL_cell_2 : decode cL_cell 2 = .ok (.arraylength, 1) := by decide +kernel
theorem dL_cell_3 : decode cL_cell 3 = .ok (.if_icmp .ge 9, 3) := by decide +kernel
theorem dL_cell_6 : decode cL_cell 6 = .ok (.aload_n 0, 1) := by decide +kernel
theorem dL_cell_7 : decode cL_cell 7 = .ok (.iload_n 1, 1) := by decide +kernel
theorem dL_cell_8 : decode cL_cell 8 = .ok (.iaload, 1) := by decide +kernel
theorem dL_cell_9 : decode cL_cell 9 = .ok (.goto 4, 3) := by decide +kernel
theorem dL_cell_12 : decode cL_cell 12 = .ok (.iconst 0, 1) := by decide +kernel
theorem dL_cell_13 : decode cL_cell 13 = .ok (.ireturn, 1) := by decide +kernel
