theorem m1_33 : Cond.methodLink RX4 3 Lib.objectInit ∈ h_tb := List.mem_filter.mpr ⟨List.mem_append_right _ (List.mem_append_left _ (List.mem_of_getElem? (i := 33) rfl)), rfl⟩
theorem m1_19 : Cond.instanceMethod Lib.objectInit ∈ h_tb := List.mem_filter.mpr ⟨List.mem_append_right _ (List.mem_append_left _ (List.mem_of_getElem? (i := 19) rfl)), rfl⟩
theorem m1_20 : Cond.code Lib.objectInit ⟨#[0xb1]⟩ 1 none ∈ h_tb := List.mem_filter.mpr ⟨List.mem_append_right _ (List.mem_append_left _ (List.mem_of_getElem? (i := 20) rfl)), rfl⟩
theorem m1_63 : Cond.arrayClass .int ∈ h_tb := List.mem_filter.mpr ⟨List.mem_append_right _ (List.mem_append_left _ (List.mem_of_getElem? (i := 63) rfl)), rfl⟩
theorem m1_34 : Cond.fieldLink RX4 9 "LeadFaults$Part" "times" "[I" ∈ h_tb := List.mem_filter.mpr ⟨List.mem_append_right _ (List.mem_append_left _ (List.mem_of_getElem? (i := 34) rfl)), rfl⟩
theorem m1_37 : Cond.fieldLink RX4 15 "LeadFaults$Part" "steps" "[I" ∈ h_tb := List.mem_filter.mpr ⟨List.mem_append_right _ (List.mem_append_left _ (List.mem_of_getElem? (i := 37) rfl)), rfl⟩
theorem m1_40 : Cond.fieldLink RX4 18 "LeadFaults$Part" "sharps" "[I" ∈ h_tb := List.mem_filter.mpr ⟨List.mem_append_right _ (List.mem_append_left _ (List.mem_of_getElem? (i := 40) rfl)), rfl⟩
theorem m1_46 : Cond.fieldLink RX4 21 "LeadFaults$Part" "low" "I" ∈ h_tb := List.mem_filter.mpr ⟨List.mem_append_right _ (List.mem_append_left _ (List.mem_of_getElem? (i := 46) rfl)), rfl⟩
theorem m1_48 : Cond.fieldLink RX4 25 "LeadFaults$Part" "high" "I" ∈ h_tb := List.mem_filter.mpr ⟨List.mem_append_right _ (List.mem_append_left _ (List.mem_of_getElem? (i := 48) rfl)), rfl⟩
theorem m1_69 : Cond.methodLink RX5 3 Lib.objectInit ∈ h_tb := List.mem_filter.mpr ⟨List.mem_append_right _ (List.mem_append_left _ (List.mem_of_getElem? (i := 69) rfl)), rfl⟩
theorem m1_70 : Cond.fieldLink RX5 9 "LeadFaults$Timeline" "times" "[I" ∈ h_tb := List.mem_filter.mpr ⟨List.mem_append_right _ (List.mem_append_left _ (List.mem_of_getElem? (i := 70) rfl)), rfl⟩
theorem m1_78 : Cond.fieldLink RX5 15 "LeadFaults$Timeline" "heads" "[I" ∈ h_tb := List.mem_filter.mpr ⟨List.mem_append_right _ (List.mem_append_left _ (List.mem_of_getElem? (i := 78) rfl)), rfl⟩
theorem m1_91 : Cond.methodLink RX1 3 Lib.objectInit ∈ h_tb := List.mem_filter.mpr ⟨List.mem_append_right _ (List.mem_append_left _ (List.mem_of_getElem? (i := 91) rfl)), rfl⟩
theorem m1_92 : Cond.methodLink RX1 9 Lib.Math.max.name ∈ h_tb := List.mem_filter.mpr ⟨List.mem_append_right _ (List.mem_append_left _ (List.mem_of_getElem? (i := 92) rfl)), rfl⟩
theorem m1_25 : Cond.static Lib.Math.max.name ∈ h_tb := List.mem_filter.mpr ⟨List.mem_append_right _ (List.mem_append_left _ (List.mem_of_getElem? (i := 25) rfl)), rfl⟩
theorem m1_2 : Cond.initialized RJ9 ∈ h_tb := List.mem_filter.mpr ⟨List.mem_append_right _ (List.mem_append_left _ (List.mem_of_getElem? (i := 2) rfl)), rfl⟩
theorem m1_26 : Cond.code Lib.Math.max.name Lib.Math.max.code 2 (some .int) ∈ h_tb := List.mem_filter.mpr ⟨List.mem_append_right _ (List.mem_append_left _ (List.mem_of_getElem? (i := 26) rfl)), rfl⟩
theorem m1_93 : Cond.fieldLink RX1 15 "LeadFaults$Entries" "firsts" "[I" ∈ h_tb := List.mem_filter.mpr ⟨List.mem_append_right _ (List.mem_append_left _ (List.mem_of_getElem? (i := 93) rfl)), rfl⟩
theorem m1_95 : Cond.fieldLink RX1 21 "LeadFaults$Entries" "seconds" "[I" ∈ h_tb := List.mem_filter.mpr ⟨List.mem_append_right _ (List.mem_append_left _ (List.mem_of_getElem? (i := 95) rfl)), rfl⟩
theorem m1_117 : Cond.methodLink RX2 3 Lib.objectInit ∈ h_tb := List.mem_filter.mpr ⟨List.mem_append_right _ (List.mem_append_left _ (List.mem_of_getElem? (i := 117) rfl)), rfl⟩
theorem m1_118 : Cond.fieldLink RX2 9 "LeadFaults$Findings" "marks" "[I" ∈ h_tb := List.mem_filter.mpr ⟨List.mem_append_right _ (List.mem_append_left _ (List.mem_of_getElem? (i := 118) rfl)), rfl⟩
theorem m1_119 : Cond.fieldLink RX2 15 "LeadFaults$Findings" "times" "[I" ∈ h_tb := List.mem_filter.mpr ⟨List.mem_append_right _ (List.mem_append_left _ (List.mem_of_getElem? (i := 119) rfl)), rfl⟩
theorem m1_121 : Cond.fieldLink RX2 18 "LeadFaults$Findings" "toldOfKind" "[I" ∈ h_tb := List.mem_filter.mpr ⟨List.mem_append_right _ (List.mem_append_left _ (List.mem_of_getElem? (i := 121) rfl)), rfl⟩
theorem m1_145 : Cond.methodLink RX0 3 Lib.objectInit ∈ h_tb := List.mem_filter.mpr ⟨List.mem_append_right _ (List.mem_append_left _ (List.mem_of_getElem? (i := 145) rfl)), rfl⟩
theorem m1_165 : Cond.arrayClass .boolean ∈ h_tb := List.mem_filter.mpr ⟨List.mem_append_right _ (List.mem_append_left _ (List.mem_of_getElem? (i := 165) rfl)), rfl⟩
theorem m1_146 : Cond.fieldLink RX0 9 "LeadFaults$Chord" "sounds" "[Z" ∈ h_tb := List.mem_filter.mpr ⟨List.mem_append_right _ (List.mem_append_left _ (List.mem_of_getElem? (i := 146) rfl)), rfl⟩
theorem m1_149 : Cond.fieldLink RX0 15 "LeadFaults$Chord" "steps" "[I" ∈ h_tb := List.mem_filter.mpr ⟨List.mem_append_right _ (List.mem_append_left _ (List.mem_of_getElem? (i := 149) rfl)), rfl⟩
theorem m1_151 : Cond.fieldLink RX0 19 "LeadFaults$Chord" "sharps" "[I" ∈ h_tb := List.mem_filter.mpr ⟨List.mem_append_right _ (List.mem_append_left _ (List.mem_of_getElem? (i := 151) rfl)), rfl⟩
theorem m1_153 : Cond.fieldLink RX0 22 "LeadFaults$Chord" "heights" "[I" ∈ h_tb := List.mem_filter.mpr ⟨List.mem_append_right _ (List.mem_append_left _ (List.mem_of_getElem? (i := 153) rfl)), rfl⟩
theorem m1_111 : Cond.methodLink RX3 3 Lib.objectInit ∈ h_tb := List.mem_filter.mpr ⟨List.mem_append_right _ (List.mem_append_left _ (List.mem_of_getElem? (i := 111) rfl)), rfl⟩
theorem m1_112 : Cond.classLink RX3 9 RX2 ∈ h_tb := List.mem_filter.mpr ⟨List.mem_append_right _ (List.mem_append_left _ (List.mem_of_getElem? (i := 112) rfl)), rfl⟩
theorem m1_113 : Cond.instantiable RX2 6 ∈ h_tb := List.mem_filter.mpr ⟨List.mem_append_right _ (List.mem_append_left _ (List.mem_of_getElem? (i := 113) rfl)), rfl⟩
theorem m1_7 : Cond.initialized RX2 ∈ h_tb := List.mem_filter.mpr ⟨List.mem_append_right _ (List.mem_append_left _ (List.mem_of_getElem? (i := 7) rfl)), rfl⟩
theorem m1_114 : Cond.methodLink RX3 11 yX2_init ∈ h_tb := List.mem_filter.mpr ⟨List.mem_append_right _ (List.mem_append_left _ (List.mem_of_getElem? (i := 114) rfl)), rfl⟩
theorem m1_116 : Cond.code yX2_init cX2_init 1 none ∈ h_tb := List.mem_filter.mpr ⟨List.mem_append_right _ (List.mem_append_left _ (List.mem_of_getElem? (i := 116) rfl)), rfl⟩
theorem m1_115 : Cond.instanceMethod yX2_init ∈ h_tb := List.mem_filter.mpr ⟨List.mem_append_right _ (List.mem_append_left _ (List.mem_of_getElem? (i := 115) rfl)), rfl⟩
theorem m1_166 : Cond.fieldLink RX3 12 "LeadFaults$Judging" "findings" "LLeadFaults$Findings;" ∈ h_tb := List.mem_filter.mpr ⟨List.mem_append_right _ (List.mem_append_left _ (List.mem_of_getElem? (i := 166) rfl)), rfl⟩
theorem m1_140 : Cond.classLink RX3 18 RX0 ∈ h_tb := List.mem_filter.mpr ⟨List.mem_append_right _ (List.mem_append_left _ (List.mem_of_getElem? (i := 140) rfl)), rfl⟩
theorem m1_141 : Cond.instantiable RX0 4 ∈ h_tb := List.mem_filter.mpr ⟨List.mem_append_right _ (List.mem_append_left _ (List.mem_of_getElem? (i := 141) rfl)), rfl⟩
theorem m1_8 : Cond.initialized RX0 ∈ h_tb := List.mem_filter.mpr ⟨List.mem_append_right _ (List.mem_append_left _ (List.mem_of_getElem? (i := 8) rfl)), rfl⟩
theorem m1_142 : Cond.methodLink RX3 20 yX0_init ∈ h_tb := List.mem_filter.mpr ⟨List.mem_append_right _ (List.mem_append_left _ (List.mem_of_getElem? (i := 142) rfl)), rfl⟩
theorem m1_144 : Cond.code yX0_init cX0_init 1 none ∈ h_tb := List.mem_filter.mpr ⟨List.mem_append_right _ (List.mem_append_left _ (List.mem_of_getElem? (i := 144) rfl)), rfl⟩
theorem m1_143 : Cond.instanceMethod yX0_init ∈ h_tb := List.mem_filter.mpr ⟨List.mem_append_right _ (List.mem_append_left _ (List.mem_of_getElem? (i := 143) rfl)), rfl⟩
theorem m1_168 : Cond.fieldLink RX3 21 "LeadFaults$Judging" "first" "LLeadFaults$Chord;" ∈ h_tb := List.mem_filter.mpr ⟨List.mem_append_right _ (List.mem_append_left _ (List.mem_of_getElem? (i := 168) rfl)), rfl⟩
theorem m1_169 : Cond.fieldLink RX3 25 "LeadFaults$Judging" "second" "LLeadFaults$Chord;" ∈ h_tb := List.mem_filter.mpr ⟨List.mem_append_right _ (List.mem_append_left _ (List.mem_of_getElem? (i := 169) rfl)), rfl⟩
theorem m1_18 : Cond.methodLink RX6 3 Lib.objectInit ∈ h_tb := List.mem_filter.mpr ⟨List.mem_append_right _ (List.mem_append_left _ (List.mem_of_getElem? (i := 18) rfl)), rfl⟩
theorem m1_21 : Cond.methodLink RX6 9 Lib.Math.min.name ∈ h_tb := List.mem_filter.mpr ⟨List.mem_append_right _ (List.mem_append_left _ (List.mem_of_getElem? (i := 21) rfl)), rfl⟩
theorem m1_22 : Cond.static Lib.Math.min.name ∈ h_tb := List.mem_filter.mpr ⟨List.mem_append_right _ (List.mem_append_left _ (List.mem_of_getElem? (i := 22) rfl)), rfl⟩
theorem m1_23 : Cond.code Lib.Math.min.name Lib.Math.min.code 2 (some .int) ∈ h_tb := List.mem_filter.mpr ⟨List.mem_append_right _ (List.mem_append_left _ (List.mem_of_getElem? (i := 23) rfl)), rfl⟩
theorem m1_24 : Cond.methodLink RX6 15 Lib.Math.max.name ∈ h_tb := List.mem_filter.mpr ⟨List.mem_append_right _ (List.mem_append_left _ (List.mem_of_getElem? (i := 24) rfl)), rfl⟩
theorem m1_27 : Cond.classLink RX6 18 RX4 ∈ h_tb := List.mem_filter.mpr ⟨List.mem_append_right _ (List.mem_append_left _ (List.mem_of_getElem? (i := 27) rfl)), rfl⟩
theorem m1_28 : Cond.arrayOver (.object RX4) ∈ h_tb := List.mem_filter.mpr ⟨List.mem_append_right _ (List.mem_append_left _ (List.mem_of_getElem? (i := 28) rfl)), rfl⟩
theorem m1_196 : Cond.fieldLink RX6 20 "LeadFaults" "parts" "[LLeadFaults$Part;" ∈ h_tb := List.mem_filter.mpr ⟨List.mem_append_right _ (List.mem_append_left _ (List.mem_of_getElem? (i := 196) rfl)), rfl⟩
theorem m1_64 : Cond.classLink RX6 25 RX5 ∈ h_tb := List.mem_filter.mpr ⟨List.mem_append_right _ (List.mem_append_left _ (List.mem_of_getElem? (i := 64) rfl)), rfl⟩
theorem m1_65 : Cond.instantiable RX5 3 ∈ h_tb := List.mem_filter.mpr ⟨List.mem_append_right _ (List.mem_append_left _ (List.mem_of_getElem? (i := 65) rfl)), rfl⟩
theorem m1_4 : Cond.initialized RX5 ∈ h_tb := List.mem_filter.mpr ⟨List.mem_append_right _ (List.mem_append_left _ (List.mem_of_getElem? (i := 4) rfl)), rfl⟩
theorem m1_66 : Cond.methodLink RX6 27 yX5_init ∈ h_tb := List.mem_filter.mpr ⟨List.mem_append_right _ (List.mem_append_left _ (List.mem_of_getElem? (i := 66) rfl)), rfl⟩
theorem m1_68 : Cond.code yX5_init cX5_init 1 none ∈ h_tb := List.mem_filter.mpr ⟨List.mem_append_right _ (List.mem_append_left _ (List.mem_of_getElem? (i := 68) rfl)), rfl⟩
theorem m1_67 : Cond.instanceMethod yX5_init ∈ h_tb := List.mem_filter.mpr ⟨List.mem_append_right _ (List.mem_append_left _ (List.mem_of_getElem? (i := 67) rfl)), rfl⟩
theorem m1_197 : Cond.fieldLink RX6 28 "LeadFaults" "timeline" "LLeadFaults$Timeline;" ∈ h_tb := List.mem_filter.mpr ⟨List.mem_append_right _ (List.mem_append_left _ (List.mem_of_getElem? (i := 197) rfl)), rfl⟩
theorem m1_86 : Cond.classLink RX6 32 RX1 ∈ h_tb := List.mem_filter.mpr ⟨List.mem_append_right _ (List.mem_append_left _ (List.mem_of_getElem? (i := 86) rfl)), rfl⟩
theorem m1_87 : Cond.instantiable RX1 3 ∈ h_tb := List.mem_filter.mpr ⟨List.mem_append_right _ (List.mem_append_left _ (List.mem_of_getElem? (i := 87) rfl)), rfl⟩
theorem m1_5 : Cond.initialized RX1 ∈ h_tb := List.mem_filter.mpr ⟨List.mem_append_right _ (List.mem_append_left _ (List.mem_of_getElem? (i := 5) rfl)), rfl⟩
theorem m1_88 : Cond.methodLink RX6 34 yX1_init ∈ h_tb := List.mem_filter.mpr ⟨List.mem_append_right _ (List.mem_append_left _ (List.mem_of_getElem? (i := 88) rfl)), rfl⟩
theorem m1_90 : Cond.code yX1_init cX1_init 3 none ∈ h_tb := List.mem_filter.mpr ⟨List.mem_append_right _ (List.mem_append_left _ (List.mem_of_getElem? (i := 90) rfl)), rfl⟩
theorem m1_89 : Cond.instanceMethod yX1_init ∈ h_tb := List.mem_filter.mpr ⟨List.mem_append_right _ (List.mem_append_left _ (List.mem_of_getElem? (i := 89) rfl)), rfl⟩
theorem m1_198 : Cond.fieldLink RX6 37 "LeadFaults" "repeats" "LLeadFaults$Entries;" ∈ h_tb := List.mem_filter.mpr ⟨List.mem_append_right _ (List.mem_append_left _ (List.mem_of_getElem? (i := 198) rfl)), rfl⟩
theorem m1_199 : Cond.fieldLink RX6 41 "LeadFaults" "exceptions" "LLeadFaults$Entries;" ∈ h_tb := List.mem_filter.mpr ⟨List.mem_append_right _ (List.mem_append_left _ (List.mem_of_getElem? (i := 199) rfl)), rfl⟩
theorem m1_106 : Cond.classLink RX6 44 RX3 ∈ h_tb := List.mem_filter.mpr ⟨List.mem_append_right _ (List.mem_append_left _ (List.mem_of_getElem? (i := 106) rfl)), rfl⟩
theorem m1_107 : Cond.instantiable RX3 8 ∈ h_tb := List.mem_filter.mpr ⟨List.mem_append_right _ (List.mem_append_left _ (List.mem_of_getElem? (i := 107) rfl)), rfl⟩
theorem m1_6 : Cond.initialized RX3 ∈ h_tb := List.mem_filter.mpr ⟨List.mem_append_right _ (List.mem_append_left _ (List.mem_of_getElem? (i := 6) rfl)), rfl⟩
theorem m1_108 : Cond.methodLink RX6 46 yX3_init ∈ h_tb := List.mem_filter.mpr ⟨List.mem_append_right _ (List.mem_append_left _ (List.mem_of_getElem? (i := 108) rfl)), rfl⟩
theorem m1_110 : Cond.code yX3_init cX3_init 1 none ∈ h_tb := List.mem_filter.mpr ⟨List.mem_append_right _ (List.mem_append_left _ (List.mem_of_getElem? (i := 110) rfl)), rfl⟩
theorem m1_109 : Cond.instanceMethod yX3_init ∈ h_tb := List.mem_filter.mpr ⟨List.mem_append_right _ (List.mem_append_left _ (List.mem_of_getElem? (i := 109) rfl)), rfl⟩
theorem m1_200 : Cond.fieldLink RX6 47 "LeadFaults" "judging" "LLeadFaults$Judging;" ∈ h_tb := List.mem_filter.mpr ⟨List.mem_append_right _ (List.mem_append_left _ (List.mem_of_getElem? (i := 200) rfl)), rfl⟩
theorem m1_192 : Cond.classLink RX6 51 RX0 ∈ h_tb := List.mem_filter.mpr ⟨List.mem_append_right _ (List.mem_append_left _ (List.mem_of_getElem? (i := 192) rfl)), rfl⟩
theorem m1_193 : Cond.methodLink RX6 53 yX0_init ∈ h_tb := List.mem_filter.mpr ⟨List.mem_append_right _ (List.mem_append_left _ (List.mem_of_getElem? (i := 193) rfl)), rfl⟩
theorem m1_201 : Cond.fieldLink RX6 54 "LeadFaults" "chord" "LLeadFaults$Chord;" ∈ h_tb := List.mem_filter.mpr ⟨List.mem_append_right _ (List.mem_append_left _ (List.mem_of_getElem? (i := 201) rfl)), rfl⟩
theorem m1_194 : Cond.fieldLink RX6 58 "LeadFaults" "STYLE_RULES" "[I" ∈ h_tb := List.mem_filter.mpr ⟨List.mem_append_right _ (List.mem_append_left _ (List.mem_of_getElem? (i := 194) rfl)), rfl⟩
theorem m1_202 : Cond.fieldLink RX6 62 "LeadFaults" "ruleBits" "I" ∈ h_tb := List.mem_filter.mpr ⟨List.mem_append_right _ (List.mem_append_left _ (List.mem_of_getElem? (i := 202) rfl)), rfl⟩
theorem m1_29 : Cond.instantiable RX4 6 ∈ h_tb := List.mem_filter.mpr ⟨List.mem_append_right _ (List.mem_append_left _ (List.mem_of_getElem? (i := 29) rfl)), rfl⟩
theorem m1_3 : Cond.initialized RX4 ∈ h_tb := List.mem_filter.mpr ⟨List.mem_append_right _ (List.mem_append_left _ (List.mem_of_getElem? (i := 3) rfl)), rfl⟩
theorem m1_30 : Cond.methodLink RX6 24 yX4_init ∈ h_tb := List.mem_filter.mpr ⟨List.mem_append_right _ (List.mem_append_left _ (List.mem_of_getElem? (i := 30) rfl)), rfl⟩
theorem m1_32 : Cond.code yX4_init cX4_init 1 none ∈ h_tb := List.mem_filter.mpr ⟨List.mem_append_right _ (List.mem_append_left _ (List.mem_of_getElem? (i := 32) rfl)), rfl⟩
theorem m1_31 : Cond.instanceMethod yX4_init ∈ h_tb := List.mem_filter.mpr ⟨List.mem_append_right _ (List.mem_append_left _ (List.mem_of_getElem? (i := 31) rfl)), rfl⟩
theorem m1_43 : Cond.fieldLink RX4 28 "LeadFaults$Part" "size" "I" ∈ h_tb := List.mem_filter.mpr ⟨List.mem_append_right _ (List.mem_append_left _ (List.mem_of_getElem? (i := 43) rfl)), rfl⟩
theorem m1_236 : Cond.methodLink RX2 21 yJ7_fill ∈ h_tb := List.mem_filter.mpr ⟨List.mem_append_right _ (List.mem_append_left _ (List.mem_of_getElem? (i := 236) rfl)), rfl⟩
theorem m1_238 : Cond.code yJ7_fill cJ7_fill 4 none ∈ h_tb := List.mem_filter.mpr ⟨List.mem_append_right _ (List.mem_append_left _ (List.mem_of_getElem? (i := 238) rfl)), rfl⟩
theorem m1_10 : Cond.initialized RJ7 ∈ h_tb := List.mem_filter.mpr ⟨List.mem_append_right _ (List.mem_append_left _ (List.mem_of_getElem? (i := 10) rfl)), rfl⟩
theorem m1_237 : Cond.static yJ7_fill ∈ h_tb := List.mem_filter.mpr ⟨List.mem_append_right _ (List.mem_append_left _ (List.mem_of_getElem? (i := 237) rfl)), rfl⟩
theorem m1_120 : Cond.fieldLink RX2 27 "LeadFaults$Findings" "moments" "I" ∈ h_tb := List.mem_filter.mpr ⟨List.mem_append_right _ (List.mem_append_left _ (List.mem_of_getElem? (i := 120) rfl)), rfl⟩
theorem m1_123 : Cond.fieldLink RX2 31 "LeadFaults$Findings" "told" "I" ∈ h_tb := List.mem_filter.mpr ⟨List.mem_append_right _ (List.mem_append_left _ (List.mem_of_getElem? (i := 123) rfl)), rfl⟩
theorem m1_125 : Cond.fieldLink RX2 34 "LeadFaults$Findings" "excepted" "I" ∈ h_tb := List.mem_filter.mpr ⟨List.mem_append_right _ (List.mem_append_left _ (List.mem_of_getElem? (i := 125) rfl)), rfl⟩
theorem m1_74 : Cond.fieldLink RX5 18 "LeadFaults$Timeline" "size" "I" ∈ h_tb := List.mem_filter.mpr ⟨List.mem_append_right _ (List.mem_append_left _ (List.mem_of_getElem? (i := 74) rfl)), rfl⟩
theorem m2_7 : Cond.methodLink RX5 30 yX4_lastTime ∈ h_tb := List.mem_filter.mpr ⟨List.mem_append_right _ (List.mem_append_right _ (List.mem_append_left _ (List.mem_of_getElem? (i := 7) rfl))), rfl⟩
theorem m2_10 : Cond.code yX4_lastTime cX4_lastTime 1 (some .int) ∈ h_tb := List.mem_filter.mpr ⟨List.mem_append_right _ (List.mem_append_right _ (List.mem_append_left _ (List.mem_of_getElem? (i := 10) rfl))), rfl⟩
theorem m2_8 : Cond.instanceMethod yX4_lastTime ∈ h_tb := List.mem_filter.mpr ⟨List.mem_append_right _ (List.mem_append_right _ (List.mem_append_left _ (List.mem_of_getElem? (i := 8) rfl))), rfl⟩
theorem m2_9 : Cond.selects RX4 yX4_lastTime yX4_lastTime ∈ h_tb := List.mem_filter.mpr ⟨List.mem_append_right _ (List.mem_append_right _ (List.mem_append_left _ (List.mem_of_getElem? (i := 9) rfl))), rfl⟩
theorem m2_11 : Cond.methodLink RX5 36 Lib.Math.max.name ∈ h_tb := List.mem_filter.mpr ⟨List.mem_append_right _ (List.mem_append_right _ (List.mem_append_left _ (List.mem_of_getElem? (i := 11) rfl))), rfl⟩
theorem m1_45 : Cond.fieldLink RX5 55 "LeadFaults$Part" "size" "I" ∈ h_tb := List.mem_filter.mpr ⟨List.mem_append_right _ (List.mem_append_left _ (List.mem_of_getElem? (i := 45) rfl)), rfl⟩
theorem m1_35 : Cond.fieldLink RX5 56 "LeadFaults$Part" "times" "[I" ∈ h_tb := List.mem_filter.mpr ⟨List.mem_append_right _ (List.mem_append_left _ (List.mem_of_getElem? (i := 35) rfl)), rfl⟩
theorem m2_21 : Cond.methodLink RX5 57 Lib.Math.min.name ∈ h_tb := List.mem_filter.mpr ⟨List.mem_append_right _ (List.mem_append_right _ (List.mem_append_left _ (List.mem_of_getElem? (i := 21) rfl))), rfl⟩
theorem m2_16 : Cond.methodLink RX5 42 yJ7_fill ∈ h_tb := List.mem_filter.mpr ⟨List.mem_append_right _ (List.mem_append_right _ (List.mem_append_left _ (List.mem_of_getElem? (i := 16) rfl))), rfl⟩
theorem m2_17 : Cond.methodLink RX5 48 yX5_earliestHead ∈ h_tb := List.mem_filter.mpr ⟨List.mem_append_right _ (List.mem_append_right _ (List.mem_append_left _ (List.mem_of_getElem? (i := 17) rfl))), rfl⟩
theorem m2_20 : Cond.code yX5_earliestHead cX5_earliestHead 4 (some .int) ∈ h_tb := List.mem_filter.mpr ⟨List.mem_append_right _ (List.mem_append_right _ (List.mem_append_left _ (List.mem_of_getElem? (i := 20) rfl))), rfl⟩
theorem m2_19 : Cond.instanceMethod yX5_earliestHead ∈ h_tb := List.mem_filter.mpr ⟨List.mem_append_right _ (List.mem_append_right _ (List.mem_append_left _ (List.mem_of_getElem? (i := 19) rfl))), rfl⟩
theorem mp_2 : Cond.selects RX5 yX5_earliestHead yX5_earliestHead ∈ h_tb := List.mem_filter.mpr ⟨List.mem_append_left _ (List.mem_of_getElem? (i := 2) rfl), rfl⟩
theorem m2_22 : Cond.methodLink RX5 52 yX5_passHeads ∈ h_tb := List.mem_filter.mpr ⟨List.mem_append_right _ (List.mem_append_right _ (List.mem_append_left _ (List.mem_of_getElem? (i := 22) rfl))), rfl⟩
theorem m2_25 : Cond.code yX5_passHeads cX5_passHeads 5 none ∈ h_tb := List.mem_filter.mpr ⟨List.mem_append_right _ (List.mem_append_right _ (List.mem_append_left _ (List.mem_of_getElem? (i := 25) rfl))), rfl⟩
theorem m2_24 : Cond.instanceMethod yX5_passHeads ∈ h_tb := List.mem_filter.mpr ⟨List.mem_append_right _ (List.mem_append_right _ (List.mem_append_left _ (List.mem_of_getElem? (i := 24) rfl))), rfl⟩
theorem mp_3 : Cond.selects RX5 yX5_passHeads yX5_passHeads ∈ h_tb := List.mem_filter.mpr ⟨List.mem_append_left _ (List.mem_of_getElem? (i := 3) rfl), rfl⟩
theorem m2_12 : Cond.methodLink RX5 26 yX5_gatherEvents ∈ h_tb := List.mem_filter.mpr ⟨List.mem_append_right _ (List.mem_append_right _ (List.mem_append_left _ (List.mem_of_getElem? (i := 12) rfl))), rfl⟩
theorem m2_15 : Cond.code yX5_gatherEvents cX5_gatherEvents 3 none ∈ h_tb := List.mem_filter.mpr ⟨List.mem_append_right _ (List.mem_append_right _ (List.mem_append_left _ (List.mem_of_getElem? (i := 15) rfl))), rfl⟩
theorem m2_14 : Cond.instanceMethod yX5_gatherEvents ∈ h_tb := List.mem_filter.mpr ⟨List.mem_append_right _ (List.mem_append_right _ (List.mem_append_left _ (List.mem_of_getElem? (i := 14) rfl))), rfl⟩
theorem mp_1 : Cond.selects RX5 yX5_gatherEvents yX5_gatherEvents ∈ h_tb := List.mem_filter.mpr ⟨List.mem_append_left _ (List.mem_of_getElem? (i := 1) rfl), rfl⟩
theorem m2_3 : Cond.methodLink RX5 22 yX5_gatherGrid ∈ h_tb := List.mem_filter.mpr ⟨List.mem_append_right _ (List.mem_append_right _ (List.mem_append_left _ (List.mem_of_getElem? (i := 3) rfl))), rfl⟩
theorem m2_6 : Cond.code yX5_gatherGrid cX5_gatherGrid 5 none ∈ h_tb := List.mem_filter.mpr ⟨List.mem_append_right _ (List.mem_append_right _ (List.mem_append_left _ (List.mem_of_getElem? (i := 6) rfl))), rfl⟩
theorem m2_5 : Cond.instanceMethod yX5_gatherGrid ∈ h_tb := List.mem_filter.mpr ⟨List.mem_append_right _ (List.mem_append_right _ (List.mem_append_left _ (List.mem_of_getElem? (i := 5) rfl))), rfl⟩
theorem mp_0 : Cond.selects RX5 yX5_gatherGrid yX5_gatherGrid ∈ h_tb := List.mem_filter.mpr ⟨List.mem_append_left _ (List.mem_of_getElem? (i := 0) rfl), rfl⟩
theorem m1_98 : Cond.fieldLink RX6 72 "LeadFaults$Entries" "size" "I" ∈ h_tb := List.mem_filter.mpr ⟨List.mem_append_right _ (List.mem_append_left _ (List.mem_of_getElem? (i := 98) rfl)), rfl⟩
theorem m1_167 : Cond.fieldLink RX6 73 "LeadFaults$Judging" "findings" "LLeadFaults$Findings;" ∈ h_tb := List.mem_filter.mpr ⟨List.mem_append_right _ (List.mem_append_left _ (List.mem_of_getElem? (i := 167) rfl)), rfl⟩
theorem m1_232 : Cond.methodLink RX6 77 yX2_reset ∈ h_tb := List.mem_filter.mpr ⟨List.mem_append_right _ (List.mem_append_left _ (List.mem_of_getElem? (i := 232) rfl)), rfl⟩
theorem m1_235 : Cond.code yX2_reset cX2_reset 1 none ∈ h_tb := List.mem_filter.mpr ⟨List.mem_append_right _ (List.mem_append_left _ (List.mem_of_getElem? (i := 235) rfl)), rfl⟩
theorem m1_233 : Cond.instanceMethod yX2_reset ∈ h_tb := List.mem_filter.mpr ⟨List.mem_append_right _ (List.mem_append_left _ (List.mem_of_getElem? (i := 233) rfl)), rfl⟩
theorem m1_234 : Cond.selects RX2 yX2_reset yX2_reset ∈ h_tb := List.mem_filter.mpr ⟨List.mem_append_right _ (List.mem_append_left _ (List.mem_of_getElem? (i := 234) rfl)), rfl⟩
theorem m1_203 : Cond.fieldLink RX6 80 "LeadFaults" "fifths" "I" ∈ h_tb := List.mem_filter.mpr ⟨List.mem_append_right _ (List.mem_append_left _ (List.mem_of_getElem? (i := 203) rfl)), rfl⟩
theorem m1_204 : Cond.fieldLink RX6 83 "LeadFaults" "ticks" "I" ∈ h_tb := List.mem_filter.mpr ⟨List.mem_append_right _ (List.mem_append_left _ (List.mem_of_getElem? (i := 204) rfl)), rfl⟩
theorem m1_239 : Cond.methodLink RX6 86 yX5_gather ∈ h_tb := List.mem_filter.mpr ⟨List.mem_append_right _ (List.mem_append_left _ (List.mem_of_getElem? (i := 239) rfl)), rfl⟩
theorem m2_2 : Cond.code yX5_gather cX5_gather 3 none ∈ h_tb := List.mem_filter.mpr ⟨List.mem_append_right _ (List.mem_append_right _ (List.mem_append_left _ (List.mem_of_getElem? (i := 2) rfl))), rfl⟩
theorem m2_0 : Cond.instanceMethod yX5_gather ∈ h_tb := List.mem_filter.mpr ⟨List.mem_append_right _ (List.mem_append_right _ (List.mem_append_left _ (List.mem_of_getElem? (i := 0) rfl))), rfl⟩
theorem m2_1 : Cond.selects RX5 yX5_gather yX5_gather ∈ h_tb := List.mem_filter.mpr ⟨List.mem_append_right _ (List.mem_append_right _ (List.mem_append_left _ (List.mem_of_getElem? (i := 1) rfl))), rfl⟩
theorem m1_44 : Cond.fieldLink RX6 66 "LeadFaults$Part" "size" "I" ∈ h_tb := List.mem_filter.mpr ⟨List.mem_append_right _ (List.mem_append_left _ (List.mem_of_getElem? (i := 44) rfl)), rfl⟩
theorem m1_228 : Cond.methodLink RX6 69 yX4_reset ∈ h_tb := List.mem_filter.mpr ⟨List.mem_append_right _ (List.mem_append_left _ (List.mem_of_getElem? (i := 228) rfl)), rfl⟩
theorem m1_231 : Cond.code yX4_reset cX4_reset 1 none ∈ h_tb := List.mem_filter.mpr ⟨List.mem_append_right _ (List.mem_append_left _ (List.mem_of_getElem? (i := 231) rfl)), rfl⟩
theorem m1_229 : Cond.instanceMethod yX4_reset ∈ h_tb := List.mem_filter.mpr ⟨List.mem_append_right _ (List.mem_append_left _ (List.mem_of_getElem? (i := 229) rfl)), rfl⟩
theorem m1_230 : Cond.selects RX4 yX4_reset yX4_reset ∈ h_tb := List.mem_filter.mpr ⟨List.mem_append_right _ (List.mem_append_left _ (List.mem_of_getElem? (i := 230) rfl)), rfl⟩
theorem m2_34 : Cond.methodLink RX6 97 yX6_within ∈ h_tb := List.mem_filter.mpr ⟨List.mem_append_right _ (List.mem_append_right _ (List.mem_append_left _ (List.mem_of_getElem? (i := 34) rfl))), rfl⟩
theorem m2_36 : Cond.code yX6_within cX6_within 3 (some .boolean) ∈ h_tb := List.mem_filter.mpr ⟨List.mem_append_right _ (List.mem_append_right _ (List.mem_append_left _ (List.mem_of_getElem? (i := 36) rfl))), rfl⟩
theorem m1_1 : Cond.initialized RX6 ∈ h_tb := List.mem_filter.mpr ⟨List.mem_append_right _ (List.mem_append_left _ (List.mem_of_getElem? (i := 1) rfl)), rfl⟩
theorem m2_35 : Cond.static yX6_within ∈ h_tb := List.mem_filter.mpr ⟨List.mem_append_right _ (List.mem_append_right _ (List.mem_append_left _ (List.mem_of_getElem? (i := 35) rfl))), rfl⟩
theorem m2_48 : Cond.methodLink RX4 31 yX4_lastTime ∈ h_tb := List.mem_filter.mpr ⟨List.mem_append_right _ (List.mem_append_right _ (List.mem_append_left _ (List.mem_of_getElem? (i := 48) rfl))), rfl⟩
theorem m2_44 : Cond.methodLink RX6 199 yX4_append ∈ h_tb := List.mem_filter.mpr ⟨List.mem_append_right _ (List.mem_append_right _ (List.mem_append_left _ (List.mem_of_getElem? (i := 44) rfl))), rfl⟩
theorem m2_47 : Cond.code yX4_append cX4_append 4 (some .int) ∈ h_tb := List.mem_filter.mpr ⟨List.mem_append_right _ (List.mem_append_right _ (List.mem_append_left _ (List.mem_of_getElem? (i := 47) rfl))), rfl⟩
theorem m2_45 : Cond.instanceMethod yX4_append ∈ h_tb := List.mem_filter.mpr ⟨List.mem_append_right _ (List.mem_append_right _ (List.mem_append_left _ (List.mem_of_getElem? (i := 45) rfl))), rfl⟩
theorem m2_46 : Cond.selects RX4 yX4_append yX4_append ∈ h_tb := List.mem_filter.mpr ⟨List.mem_append_right _ (List.mem_append_right _ (List.mem_append_left _ (List.mem_of_getElem? (i := 46) rfl))), rfl⟩
theorem m2_30 : Cond.methodLink RX6 90 yX6_isVoice ∈ h_tb := List.mem_filter.mpr ⟨List.mem_append_right _ (List.mem_append_right _ (List.mem_append_left _ (List.mem_of_getElem? (i := 30) rfl))), rfl⟩
theorem m2_33 : Cond.code yX6_isVoice cX6_isVoice 2 (some .boolean) ∈ h_tb := List.mem_filter.mpr ⟨List.mem_append_right _ (List.mem_append_right _ (List.mem_append_left _ (List.mem_of_getElem? (i := 33) rfl))), rfl⟩
theorem m2_32 : Cond.instanceMethod yX6_isVoice ∈ h_tb := List.mem_filter.mpr ⟨List.mem_append_right _ (List.mem_append_right _ (List.mem_append_left _ (List.mem_of_getElem? (i := 32) rfl))), rfl⟩
theorem mp_4 : Cond.selects RX6 yX6_isVoice yX6_isVoice ∈ h_tb := List.mem_filter.mpr ⟨List.mem_append_left _ (List.mem_of_getElem? (i := 4) rfl), rfl⟩
theorem m2_37 : Cond.methodLink RX6 94 yX6_isTime ∈ h_tb := List.mem_filter.mpr ⟨List.mem_append_right _ (List.mem_append_right _ (List.mem_append_left _ (List.mem_of_getElem? (i := 37) rfl))), rfl⟩
theorem m2_39 : Cond.code yX6_isTime cX6_isTime 1 (some .boolean) ∈ h_tb := List.mem_filter.mpr ⟨List.mem_append_right _ (List.mem_append_right _ (List.mem_append_left _ (List.mem_of_getElem? (i := 39) rfl))), rfl⟩
theorem m2_38 : Cond.static yX6_isTime ∈ h_tb := List.mem_filter.mpr ⟨List.mem_append_right _ (List.mem_append_right _ (List.mem_append_left _ (List.mem_of_getElem? (i := 38) rfl))), rfl⟩
theorem m2_40 : Cond.methodLink RX6 101 yX6_append ∈ h_tb := List.mem_filter.mpr ⟨List.mem_append_right _ (List.mem_append_right _ (List.mem_append_left _ (List.mem_of_getElem? (i := 40) rfl))), rfl⟩
theorem m2_43 : Cond.code yX6_append cX6_append 6 (some .int) ∈ h_tb := List.mem_filter.mpr ⟨List.mem_append_right _ (List.mem_append_right _ (List.mem_append_left _ (List.mem_of_getElem? (i := 43) rfl))), rfl⟩
theorem m2_42 : Cond.instanceMethod yX6_append ∈ h_tb := List.mem_filter.mpr ⟨List.mem_append_right _ (List.mem_append_right _ (List.mem_append_left _ (List.mem_of_getElem? (i := 42) rfl))), rfl⟩
theorem mp_5 : Cond.selects RX6 yX6_append yX6_append ∈ h_tb := List.mem_filter.mpr ⟨List.mem_append_left _ (List.mem_of_getElem? (i := 5) rfl), rfl⟩
theorem m2_57 : Cond.methodLink RX6 105 yX4_dropLast ∈ h_tb := List.mem_filter.mpr ⟨List.mem_append_right _ (List.mem_append_right _ (List.mem_append_left _ (List.mem_of_getElem? (i := 57) rfl))), rfl⟩
theorem m2_60 : Cond.code yX4_dropLast cX4_dropLast 1 (some .int) ∈ h_tb := List.mem_filter.mpr ⟨List.mem_append_right _ (List.mem_append_right _ (List.mem_append_left _ (List.mem_of_getElem? (i := 60) rfl))), rfl⟩
theorem m2_58 : Cond.instanceMethod yX4_dropLast ∈ h_tb := List.mem_filter.mpr ⟨List.mem_append_right _ (List.mem_append_right _ (List.mem_append_left _ (List.mem_of_getElem? (i := 58) rfl))), rfl⟩
theorem m2_59 : Cond.selects RX4 yX4_dropLast yX4_dropLast ∈ h_tb := List.mem_filter.mpr ⟨List.mem_append_right _ (List.mem_append_right _ (List.mem_append_left _ (List.mem_of_getElem? (i := 59) rfl))), rfl⟩
theorem m2_65 : Cond.methodLink RX6 109 yX6_isKind ∈ h_tb := List.mem_filter.mpr ⟨List.mem_append_right _ (List.mem_append_right _ (List.mem_append_left _ (List.mem_of_getElem? (i := 65) rfl))), rfl⟩
theorem m2_67 : Cond.code yX6_isKind cX6_isKind 1 (some .boolean) ∈ h_tb := List.mem_filter.mpr ⟨List.mem_append_right _ (List.mem_append_right _ (List.mem_append_left _ (List.mem_of_getElem? (i := 67) rfl))), rfl⟩
theorem m2_66 : Cond.static yX6_isKind ∈ h_tb := List.mem_filter.mpr ⟨List.mem_append_right _ (List.mem_append_right _ (List.mem_append_left _ (List.mem_of_getElem? (i := 66) rfl))), rfl⟩
theorem m2_75 : Cond.constant RJ6 265 1431655765 ∈ h_tb := List.mem_filter.mpr ⟨List.mem_append_right _ (List.mem_append_right _ (List.mem_append_left _ (List.mem_of_getElem? (i := 75) rfl))), rfl⟩
theorem m2_76 : Cond.constant RJ6 266 858993459 ∈ h_tb := List.mem_filter.mpr ⟨List.mem_append_right _ (List.mem_append_right _ (List.mem_append_left _ (List.mem_of_getElem? (i := 76) rfl))), rfl⟩
theorem m2_77 : Cond.constant RJ6 267 252645135 ∈ h_tb := List.mem_filter.mpr ⟨List.mem_append_right _ (List.mem_append_right _ (List.mem_append_left _ (List.mem_of_getElem? (i := 77) rfl))), rfl⟩
theorem m2_72 : Cond.methodLink RX6 112 yJ6_bitCount ∈ h_tb := List.mem_filter.mpr ⟨List.mem_append_right _ (List.mem_append_right _ (List.mem_append_left _ (List.mem_of_getElem? (i := 72) rfl))), rfl⟩
theorem m2_74 : Cond.code yJ6_bitCount cJ6_bitCount 1 (some .int) ∈ h_tb := List.mem_filter.mpr ⟨List.mem_append_right _ (List.mem_append_right _ (List.mem_append_left _ (List.mem_of_getElem? (i := 74) rfl))), rfl⟩
theorem m1_11 : Cond.initialized RJ6 ∈ h_tb := List.mem_filter.mpr ⟨List.mem_append_right _ (List.mem_append_left _ (List.mem_of_getElem? (i := 11) rfl)), rfl⟩
theorem m2_73 : Cond.static yJ6_bitCount ∈ h_tb := List.mem_filter.mpr ⟨List.mem_append_right _ (List.mem_append_right _ (List.mem_append_left _ (List.mem_of_getElem? (i := 73) rfl))), rfl⟩
theorem m2_98 : Cond.fieldLinkNest RX4 35 "LeadFaults" "LETTER_HEIGHTS" "[I" "LeadFaults" ∈ h_tb := List.mem_filter.mpr ⟨List.mem_append_right _ (List.mem_append_right _ (List.mem_append_left _ (List.mem_of_getElem? (i := 98) rfl))), rfl⟩
theorem m2_90 : Cond.methodLink RX4 38 yX4_isNote ∈ h_tb := List.mem_filter.mpr ⟨List.mem_append_right _ (List.mem_append_right _ (List.mem_append_left _ (List.mem_of_getElem? (i := 90) rfl))), rfl⟩
theorem m2_93 : Cond.code yX4_isNote cX4_isNote 2 (some .boolean) ∈ h_tb := List.mem_filter.mpr ⟨List.mem_append_right _ (List.mem_append_right _ (List.mem_append_left _ (List.mem_of_getElem? (i := 93) rfl))), rfl⟩
theorem m2_91 : Cond.instanceMethod yX4_isNote ∈ h_tb := List.mem_filter.mpr ⟨List.mem_append_right _ (List.mem_append_right _ (List.mem_append_left _ (List.mem_of_getElem? (i := 91) rfl))), rfl⟩
theorem m2_92 : Cond.selects RX4 yX4_isNote yX4_isNote ∈ h_tb := List.mem_filter.mpr ⟨List.mem_append_right _ (List.mem_append_right _ (List.mem_append_left _ (List.mem_of_getElem? (i := 92) rfl))), rfl⟩
theorem m2_94 : Cond.methodLink RX4 42 yX4_heightOf ∈ h_tb := List.mem_filter.mpr ⟨List.mem_append_right _ (List.mem_append_right _ (List.mem_append_left _ (List.mem_of_getElem? (i := 94) rfl))), rfl⟩
theorem m2_97 : Cond.code yX4_heightOf cX4_heightOf 3 (some .int) ∈ h_tb := List.mem_filter.mpr ⟨List.mem_append_right _ (List.mem_append_right _ (List.mem_append_left _ (List.mem_of_getElem? (i := 97) rfl))), rfl⟩
theorem m2_95 : Cond.instanceMethod yX4_heightOf ∈ h_tb := List.mem_filter.mpr ⟨List.mem_append_right _ (List.mem_append_right _ (List.mem_append_left _ (List.mem_of_getElem? (i := 95) rfl))), rfl⟩
theorem m2_96 : Cond.selects RX4 yX4_heightOf yX4_heightOf ∈ h_tb := List.mem_filter.mpr ⟨List.mem_append_right _ (List.mem_append_right _ (List.mem_append_left _ (List.mem_of_getElem? (i := 96) rfl))), rfl⟩
theorem m2_100 : Cond.methodLink RX4 46 yX4_isOutside ∈ h_tb := List.mem_filter.mpr ⟨List.mem_append_right _ (List.mem_append_right _ (List.mem_append_left _ (List.mem_of_getElem? (i := 100) rfl))), rfl⟩
theorem m2_103 : Cond.code yX4_isOutside cX4_isOutside 2 (some .boolean) ∈ h_tb := List.mem_filter.mpr ⟨List.mem_append_right _ (List.mem_append_right _ (List.mem_append_left _ (List.mem_of_getElem? (i := 103) rfl))), rfl⟩
theorem m2_101 : Cond.instanceMethod yX4_isOutside ∈ h_tb := List.mem_filter.mpr ⟨List.mem_append_right _ (List.mem_append_right _ (List.mem_append_left _ (List.mem_of_getElem? (i := 101) rfl))), rfl⟩
theorem m2_102 : Cond.selects RX4 yX4_isOutside yX4_isOutside ∈ h_tb := List.mem_filter.mpr ⟨List.mem_append_right _ (List.mem_append_right _ (List.mem_append_left _ (List.mem_of_getElem? (i := 102) rfl))), rfl⟩
theorem m1_47 : Cond.fieldLink RX6 118 "LeadFaults$Part" "low" "I" ∈ h_tb := List.mem_filter.mpr ⟨List.mem_append_right _ (List.mem_append_left _ (List.mem_of_getElem? (i := 47) rfl)), rfl⟩
theorem m1_49 : Cond.fieldLink RX6 121 "LeadFaults$Part" "high" "I" ∈ h_tb := List.mem_filter.mpr ⟨List.mem_append_right _ (List.mem_append_left _ (List.mem_of_getElem? (i := 49) rfl)), rfl⟩
theorem m2_86 : Cond.methodLink RX6 124 yX4_notesOutside ∈ h_tb := List.mem_filter.mpr ⟨List.mem_append_right _ (List.mem_append_right _ (List.mem_append_left _ (List.mem_of_getElem? (i := 86) rfl))), rfl⟩
theorem m2_89 : Cond.code yX4_notesOutside cX4_notesOutside 3 (some .int) ∈ h_tb := List.mem_filter.mpr ⟨List.mem_append_right _ (List.mem_append_right _ (List.mem_append_left _ (List.mem_of_getElem? (i := 89) rfl))), rfl⟩
theorem m2_87 : Cond.instanceMethod yX4_notesOutside ∈ h_tb := List.mem_filter.mpr ⟨List.mem_append_right _ (List.mem_append_right _ (List.mem_append_left _ (List.mem_of_getElem? (i := 87) rfl))), rfl⟩
theorem m2_88 : Cond.selects RX4 yX4_notesOutside yX4_notesOutside ∈ h_tb := List.mem_filter.mpr ⟨List.mem_append_right _ (List.mem_append_right _ (List.mem_append_left _ (List.mem_of_getElem? (i := 88) rfl))), rfl⟩
theorem m1_77 : Cond.fieldLink RX6 127 "LeadFaults$Timeline" "size" "I" ∈ h_tb := List.mem_filter.mpr ⟨List.mem_append_right _ (List.mem_append_left _ (List.mem_of_getElem? (i := 77) rfl)), rfl⟩
theorem m1_97 : Cond.fieldLink RX1 24 "LeadFaults$Entries" "size" "I" ∈ h_tb := List.mem_filter.mpr ⟨List.mem_append_right _ (List.mem_append_left _ (List.mem_of_getElem? (i := 97) rfl)), rfl⟩
theorem m2_112 : Cond.methodLink RX6 128 yX1_append ∈ h_tb := List.mem_filter.mpr ⟨List.mem_append_right _ (List.mem_append_right _ (List.mem_append_left _ (List.mem_of_getElem? (i := 112) rfl))), rfl⟩
theorem m2_115 : Cond.code yX1_append cX1_append 3 (some .int) ∈ h_tb := List.mem_filter.mpr ⟨List.mem_append_right _ (List.mem_append_right _ (List.mem_append_left _ (List.mem_of_getElem? (i := 115) rfl))), rfl⟩
theorem m2_113 : Cond.instanceMethod yX1_append ∈ h_tb := List.mem_filter.mpr ⟨List.mem_append_right _ (List.mem_append_right _ (List.mem_append_left _ (List.mem_of_getElem? (i := 113) rfl))), rfl⟩
theorem m2_114 : Cond.selects RX1 yX1_append yX1_append ∈ h_tb := List.mem_filter.mpr ⟨List.mem_append_right _ (List.mem_append_right _ (List.mem_append_left _ (List.mem_of_getElem? (i := 114) rfl))), rfl⟩
theorem m2_120 : Cond.methodLink RX6 130 yX1_holds ∈ h_tb := List.mem_filter.mpr ⟨List.mem_append_right _ (List.mem_append_right _ (List.mem_append_left _ (List.mem_of_getElem? (i := 120) rfl))), rfl⟩
theorem m2_123 : Cond.code yX1_holds cX1_holds 4 (some .boolean) ∈ h_tb := List.mem_filter.mpr ⟨List.mem_append_right _ (List.mem_append_right _ (List.mem_append_left _ (List.mem_of_getElem? (i := 123) rfl))), rfl⟩
theorem m2_121 : Cond.instanceMethod yX1_holds ∈ h_tb := List.mem_filter.mpr ⟨List.mem_append_right _ (List.mem_append_right _ (List.mem_append_left _ (List.mem_of_getElem? (i := 121) rfl))), rfl⟩
theorem m2_122 : Cond.selects RX1 yX1_holds yX1_holds ∈ h_tb := List.mem_filter.mpr ⟨List.mem_append_right _ (List.mem_append_right _ (List.mem_append_left _ (List.mem_of_getElem? (i := 122) rfl))), rfl⟩
theorem m2_140 : Cond.fieldLinkNest RX3 51 "LeadFaults" "FLATTENED_LETTERS" "[I" "LeadFaults" ∈ h_tb := List.mem_filter.mpr ⟨List.mem_append_right _ (List.mem_append_right _ (List.mem_append_left _ (List.mem_of_getElem? (i := 140) rfl))), rfl⟩
theorem m2_138 : Cond.fieldLinkNest RX3 47 "LeadFaults" "SHARPENED_LETTERS" "[I" "LeadFaults" ∈ h_tb := List.mem_filter.mpr ⟨List.mem_append_right _ (List.mem_append_right _ (List.mem_append_left _ (List.mem_of_getElem? (i := 138) rfl))), rfl⟩
theorem m1_172 : Cond.fieldLink RX3 28 "LeadFaults$Judging" "ruleBits" "I" ∈ h_tb := List.mem_filter.mpr ⟨List.mem_append_right _ (List.mem_append_left _ (List.mem_of_getElem? (i := 172) rfl)), rfl⟩
theorem m2_132 : Cond.methodLink RX3 32 yJ9_floorMod ∈ h_tb := List.mem_filter.mpr ⟨List.mem_append_right _ (List.mem_append_right _ (List.mem_append_left _ (List.mem_of_getElem? (i := 132) rfl))), rfl⟩
theorem m2_134 : Cond.code yJ9_floorMod cJ9_floorMod 3 (some .int) ∈ h_tb := List.mem_filter.mpr ⟨List.mem_append_right _ (List.mem_append_right _ (List.mem_append_left _ (List.mem_of_getElem? (i := 134) rfl))), rfl⟩
theorem m2_133 : Cond.static yJ9_floorMod ∈ h_tb := List.mem_filter.mpr ⟨List.mem_append_right _ (List.mem_append_right _ (List.mem_append_left _ (List.mem_of_getElem? (i := 133) rfl))), rfl⟩
theorem m1_173 : Cond.fieldLink RX3 38 "LeadFaults$Judging" "leadingLetter" "I" ∈ h_tb := List.mem_filter.mpr ⟨List.mem_append_right _ (List.mem_append_left _ (List.mem_of_getElem? (i := 173) rfl)), rfl⟩
theorem m2_135 : Cond.methodLink RX3 41 yX3_sharpnessInKey ∈ h_tb := List.mem_filter.mpr ⟨List.mem_append_right _ (List.mem_append_right _ (List.mem_append_left _ (List.mem_of_getElem? (i := 135) rfl))), rfl⟩
theorem m2_137 : Cond.code yX3_sharpnessInKey cX3_sharpnessInKey 3 (some .int) ∈ h_tb := List.mem_filter.mpr ⟨List.mem_append_right _ (List.mem_append_right _ (List.mem_append_left _ (List.mem_of_getElem? (i := 137) rfl))), rfl⟩
theorem m2_136 : Cond.static yX3_sharpnessInKey ∈ h_tb := List.mem_filter.mpr ⟨List.mem_append_right _ (List.mem_append_right _ (List.mem_append_left _ (List.mem_of_getElem? (i := 136) rfl))), rfl⟩
theorem m1_174 : Cond.fieldLink RX3 44 "LeadFaults$Judging" "leadingSharpness" "I" ∈ h_tb := List.mem_filter.mpr ⟨List.mem_append_right _ (List.mem_append_left _ (List.mem_of_getElem? (i := 174) rfl)), rfl⟩
theorem m2_150 : Cond.methodLink RX2 37 yX2_reset ∈ h_tb := List.mem_filter.mpr ⟨List.mem_append_right _ (List.mem_append_right _ (List.mem_append_left _ (List.mem_of_getElem? (i := 150) rfl))), rfl⟩
theorem m1_75 : Cond.fieldLink RX2 40 "LeadFaults$Timeline" "size" "I" ∈ h_tb := List.mem_filter.mpr ⟨List.mem_append_right _ (List.mem_append_left _ (List.mem_of_getElem? (i := 75) rfl)), rfl⟩
theorem m1_71 : Cond.fieldLink RX2 45 "LeadFaults$Timeline" "times" "[I" ∈ h_tb := List.mem_filter.mpr ⟨List.mem_append_right _ (List.mem_append_left _ (List.mem_of_getElem? (i := 71) rfl)), rfl⟩
theorem m2_151 : Cond.methodLink RX2 46 arraycopyName ∈ h_tb := List.mem_filter.mpr ⟨List.mem_append_right _ (List.mem_append_right _ (List.mem_append_left _ (List.mem_of_getElem? (i := 151) rfl))), rfl⟩
theorem m2_153 : Cond.native arraycopyName ∈ h_tb := List.mem_filter.mpr ⟨List.mem_append_right _ (List.mem_append_right _ (List.mem_append_left _ (List.mem_of_getElem? (i := 153) rfl))), rfl⟩
theorem m2_152 : Cond.static arraycopyName ∈ h_tb := List.mem_filter.mpr ⟨List.mem_append_right _ (List.mem_append_right _ (List.mem_append_left _ (List.mem_of_getElem? (i := 152) rfl))), rfl⟩
theorem m1_12 : Cond.initialized RJ10 ∈ h_tb := List.mem_filter.mpr ⟨List.mem_append_right _ (List.mem_append_left _ (List.mem_of_getElem? (i := 12) rfl)), rfl⟩
theorem m2_162 : Cond.methodLink RX0 25 yX4_lastNotLater ∈ h_tb := List.mem_filter.mpr ⟨List.mem_append_right _ (List.mem_append_right _ (List.mem_append_left _ (List.mem_of_getElem? (i := 162) rfl))), rfl⟩
theorem m2_165 : Cond.code yX4_lastNotLater cX4_lastNotLater 5 (some .int) ∈ h_tb := List.mem_filter.mpr ⟨List.mem_append_right _ (List.mem_append_right _ (List.mem_append_left _ (List.mem_of_getElem? (i := 165) rfl))), rfl⟩
theorem m2_163 : Cond.instanceMethod yX4_lastNotLater ∈ h_tb := List.mem_filter.mpr ⟨List.mem_append_right _ (List.mem_append_right _ (List.mem_append_left _ (List.mem_of_getElem? (i := 163) rfl))), rfl⟩
theorem m2_164 : Cond.selects RX4 yX4_lastNotLater yX4_lastNotLater ∈ h_tb := List.mem_filter.mpr ⟨List.mem_append_right _ (List.mem_append_right _ (List.mem_append_left _ (List.mem_of_getElem? (i := 164) rfl))), rfl⟩
theorem m1_38 : Cond.fieldLink RX0 35 "LeadFaults$Part" "steps" "[I" ∈ h_tb := List.mem_filter.mpr ⟨List.mem_append_right _ (List.mem_append_left _ (List.mem_of_getElem? (i := 38) rfl)), rfl⟩
theorem m1_41 : Cond.fieldLink RX0 36 "LeadFaults$Part" "sharps" "[I" ∈ h_tb := List.mem_filter.mpr ⟨List.mem_append_right _ (List.mem_append_left _ (List.mem_of_getElem? (i := 41) rfl)), rfl⟩
theorem m2_167 : Cond.methodLink RX0 37 yX4_heightOf ∈ h_tb := List.mem_filter.mpr ⟨List.mem_append_right _ (List.mem_append_right _ (List.mem_append_left _ (List.mem_of_getElem? (i := 167) rfl))), rfl⟩
theorem m2_166 : Cond.methodLink RX0 31 yX4_isNote ∈ h_tb := List.mem_filter.mpr ⟨List.mem_append_right _ (List.mem_append_right _ (List.mem_append_left _ (List.mem_of_getElem? (i := 166) rfl))), rfl⟩
theorem m1_147 : Cond.fieldLink RX3 93 "LeadFaults$Chord" "sounds" "[Z" ∈ h_tb := List.mem_filter.mpr ⟨List.mem_append_right _ (List.mem_append_left _ (List.mem_of_getElem? (i := 147) rfl)), rfl⟩
theorem m2_172 : Cond.methodLink RX3 97 yX3_goes ∈ h_tb := List.mem_filter.mpr ⟨List.mem_append_right _ (List.mem_append_right _ (List.mem_append_left _ (List.mem_of_getElem? (i := 172) rfl))), rfl⟩
theorem m2_175 : Cond.code yX3_goes cX3_goes 2 (some .boolean) ∈ h_tb := List.mem_filter.mpr ⟨List.mem_append_right _ (List.mem_append_right _ (List.mem_append_left _ (List.mem_of_getElem? (i := 175) rfl))), rfl⟩
theorem m2_174 : Cond.instanceMethod yX3_goes ∈ h_tb := List.mem_filter.mpr ⟨List.mem_append_right _ (List.mem_append_right _ (List.mem_append_left _ (List.mem_of_getElem? (i := 174) rfl))), rfl⟩
theorem mp_7 : Cond.selects RX3 yX3_goes yX3_goes ∈ h_tb := List.mem_filter.mpr ⟨List.mem_append_left _ (List.mem_of_getElem? (i := 7) rfl), rfl⟩
theorem m1_150 : Cond.fieldLink RX3 142 "LeadFaults$Chord" "steps" "[I" ∈ h_tb := List.mem_filter.mpr ⟨List.mem_append_right _ (List.mem_append_left _ (List.mem_of_getElem? (i := 150) rfl)), rfl⟩
theorem m1_152 : Cond.fieldLink RX3 169 "LeadFaults$Chord" "sharps" "[I" ∈ h_tb := List.mem_filter.mpr ⟨List.mem_append_right _ (List.mem_append_left _ (List.mem_of_getElem? (i := 152) rfl)), rfl⟩
theorem m1_170 : Cond.fieldLink RX3 76 "LeadFaults$Judging" "moment" "I" ∈ h_tb := List.mem_filter.mpr ⟨List.mem_append_right _ (List.mem_append_left _ (List.mem_of_getElem? (i := 170) rfl)), rfl⟩
theorem m2_189 : Cond.methodLink RX3 181 yX2_mark ∈ h_tb := List.mem_filter.mpr ⟨List.mem_append_right _ (List.mem_append_right _ (List.mem_append_left _ (List.mem_of_getElem? (i := 189) rfl))), rfl⟩
theorem m2_192 : Cond.code yX2_mark cX2_mark 6 none ∈ h_tb := List.mem_filter.mpr ⟨List.mem_append_right _ (List.mem_append_right _ (List.mem_append_left _ (List.mem_of_getElem? (i := 192) rfl))), rfl⟩
theorem m2_190 : Cond.instanceMethod yX2_mark ∈ h_tb := List.mem_filter.mpr ⟨List.mem_append_right _ (List.mem_append_right _ (List.mem_append_left _ (List.mem_of_getElem? (i := 190) rfl))), rfl⟩
theorem m2_191 : Cond.selects RX2 yX2_mark yX2_mark ∈ h_tb := List.mem_filter.mpr ⟨List.mem_append_right _ (List.mem_append_right _ (List.mem_append_left _ (List.mem_of_getElem? (i := 191) rfl))), rfl⟩
theorem m2_185 : Cond.methodLink RX3 123 yX3_between ∈ h_tb := List.mem_filter.mpr ⟨List.mem_append_right _ (List.mem_append_right _ (List.mem_append_left _ (List.mem_of_getElem? (i := 185) rfl))), rfl⟩
theorem m2_188 : Cond.code yX3_between cX3_between 5 none ∈ h_tb := List.mem_filter.mpr ⟨List.mem_append_right _ (List.mem_append_right _ (List.mem_append_left _ (List.mem_of_getElem? (i := 188) rfl))), rfl⟩
theorem m2_187 : Cond.instanceMethod yX3_between ∈ h_tb := List.mem_filter.mpr ⟨List.mem_append_right _ (List.mem_append_right _ (List.mem_append_left _ (List.mem_of_getElem? (i := 187) rfl))), rfl⟩
theorem mp_10 : Cond.selects RX3 yX3_between yX3_between ∈ h_tb := List.mem_filter.mpr ⟨List.mem_append_left _ (List.mem_of_getElem? (i := 10) rfl), rfl⟩
theorem m2_209 : Cond.methodLink RX0 40 yX0_letter ∈ h_tb := List.mem_filter.mpr ⟨List.mem_append_right _ (List.mem_append_right _ (List.mem_append_left _ (List.mem_of_getElem? (i := 209) rfl))), rfl⟩
theorem m2_212 : Cond.code yX0_letter cX0_letter 2 (some .int) ∈ h_tb := List.mem_filter.mpr ⟨List.mem_append_right _ (List.mem_append_right _ (List.mem_append_left _ (List.mem_of_getElem? (i := 212) rfl))), rfl⟩
theorem m2_210 : Cond.instanceMethod yX0_letter ∈ h_tb := List.mem_filter.mpr ⟨List.mem_append_right _ (List.mem_append_right _ (List.mem_append_left _ (List.mem_of_getElem? (i := 210) rfl))), rfl⟩
theorem m2_211 : Cond.selects RX0 yX0_letter yX0_letter ∈ h_tb := List.mem_filter.mpr ⟨List.mem_append_right _ (List.mem_append_right _ (List.mem_append_left _ (List.mem_of_getElem? (i := 211) rfl))), rfl⟩
theorem m2_205 : Cond.methodLink RX3 172 yX0_isNoteOf ∈ h_tb := List.mem_filter.mpr ⟨List.mem_append_right _ (List.mem_append_right _ (List.mem_append_left _ (List.mem_of_getElem? (i := 205) rfl))), rfl⟩
theorem m2_208 : Cond.code yX0_isNoteOf cX0_isNoteOf 4 (some .boolean) ∈ h_tb := List.mem_filter.mpr ⟨List.mem_append_right _ (List.mem_append_right _ (List.mem_append_left _ (List.mem_of_getElem? (i := 208) rfl))), rfl⟩
theorem m2_206 : Cond.instanceMethod yX0_isNoteOf ∈ h_tb := List.mem_filter.mpr ⟨List.mem_append_right _ (List.mem_append_right _ (List.mem_append_left _ (List.mem_of_getElem? (i := 206) rfl))), rfl⟩
theorem m2_207 : Cond.selects RX0 yX0_isNoteOf yX0_isNoteOf ∈ h_tb := List.mem_filter.mpr ⟨List.mem_append_right _ (List.mem_append_right _ (List.mem_append_left _ (List.mem_of_getElem? (i := 207) rfl))), rfl⟩
theorem m2_197 : Cond.methodLink RX3 120 yX0_heightUp ∈ h_tb := List.mem_filter.mpr ⟨List.mem_append_right _ (List.mem_append_right _ (List.mem_append_left _ (List.mem_of_getElem? (i := 197) rfl))), rfl⟩
theorem m2_200 : Cond.code yX0_heightUp cX0_heightUp 3 (some .int) ∈ h_tb := List.mem_filter.mpr ⟨List.mem_append_right _ (List.mem_append_right _ (List.mem_append_left _ (List.mem_of_getElem? (i := 200) rfl))), rfl⟩
theorem m2_198 : Cond.instanceMethod yX0_heightUp ∈ h_tb := List.mem_filter.mpr ⟨List.mem_append_right _ (List.mem_append_right _ (List.mem_append_left _ (List.mem_of_getElem? (i := 198) rfl))), rfl⟩
theorem m2_199 : Cond.selects RX0 yX0_heightUp yX0_heightUp ∈ h_tb := List.mem_filter.mpr ⟨List.mem_append_right _ (List.mem_append_right _ (List.mem_append_left _ (List.mem_of_getElem? (i := 199) rfl))), rfl⟩
theorem m2_201 : Cond.methodLink RX3 127 yX3_leads ∈ h_tb := List.mem_filter.mpr ⟨List.mem_append_right _ (List.mem_append_right _ (List.mem_append_left _ (List.mem_of_getElem? (i := 201) rfl))), rfl⟩
theorem m2_204 : Cond.code yX3_leads cX3_leads 3 (some .boolean) ∈ h_tb := List.mem_filter.mpr ⟨List.mem_append_right _ (List.mem_append_right _ (List.mem_append_left _ (List.mem_of_getElem? (i := 204) rfl))), rfl⟩
theorem m2_203 : Cond.instanceMethod yX3_leads ∈ h_tb := List.mem_filter.mpr ⟨List.mem_append_right _ (List.mem_append_right _ (List.mem_append_left _ (List.mem_of_getElem? (i := 203) rfl))), rfl⟩
theorem mp_12 : Cond.selects RX3 yX3_leads yX3_leads ∈ h_tb := List.mem_filter.mpr ⟨List.mem_append_left _ (List.mem_of_getElem? (i := 12) rfl), rfl⟩
theorem m1_171 : Cond.fieldLink RX3 58 "LeadFaults$Judging" "voices" "I" ∈ h_tb := List.mem_filter.mpr ⟨List.mem_append_right _ (List.mem_append_left _ (List.mem_of_getElem? (i := 171) rfl)), rfl⟩
theorem m2_181 : Cond.methodLink RX3 112 yX3_alone ∈ h_tb := List.mem_filter.mpr ⟨List.mem_append_right _ (List.mem_append_right _ (List.mem_append_left _ (List.mem_of_getElem? (i := 181) rfl))), rfl⟩
theorem m2_184 : Cond.code yX3_alone cX3_alone 4 none ∈ h_tb := List.mem_filter.mpr ⟨List.mem_append_right _ (List.mem_append_right _ (List.mem_append_left _ (List.mem_of_getElem? (i := 184) rfl))), rfl⟩
theorem m2_183 : Cond.instanceMethod yX3_alone ∈ h_tb := List.mem_filter.mpr ⟨List.mem_append_right _ (List.mem_append_right _ (List.mem_append_left _ (List.mem_of_getElem? (i := 183) rfl))), rfl⟩
theorem mp_9 : Cond.selects RX3 yX3_alone yX3_alone ∈ h_tb := List.mem_filter.mpr ⟨List.mem_append_left _ (List.mem_of_getElem? (i := 9) rfl), rfl⟩
theorem m2_193 : Cond.methodLink RX3 116 yX3_lookAtInterval ∈ h_tb := List.mem_filter.mpr ⟨List.mem_append_right _ (List.mem_append_right _ (List.mem_append_left _ (List.mem_of_getElem? (i := 193) rfl))), rfl⟩
theorem m2_196 : Cond.code yX3_lookAtInterval cX3_lookAtInterval 4 none ∈ h_tb := List.mem_filter.mpr ⟨List.mem_append_right _ (List.mem_append_right _ (List.mem_append_left _ (List.mem_of_getElem? (i := 196) rfl))), rfl⟩
theorem m2_195 : Cond.instanceMethod yX3_lookAtInterval ∈ h_tb := List.mem_filter.mpr ⟨List.mem_append_right _ (List.mem_append_right _ (List.mem_append_left _ (List.mem_of_getElem? (i := 195) rfl))), rfl⟩
theorem mp_11 : Cond.selects RX3 yX3_lookAtInterval yX3_lookAtInterval ∈ h_tb := List.mem_filter.mpr ⟨List.mem_append_left _ (List.mem_of_getElem? (i := 11) rfl), rfl⟩
theorem m1_154 : Cond.fieldLink RX3 104 "LeadFaults$Chord" "heights" "[I" ∈ h_tb := List.mem_filter.mpr ⟨List.mem_append_right _ (List.mem_append_left _ (List.mem_of_getElem? (i := 154) rfl)), rfl⟩
theorem m2_180 : Cond.methodLink RX3 107 yX4_isOutside ∈ h_tb := List.mem_filter.mpr ⟨List.mem_append_right _ (List.mem_append_right _ (List.mem_append_left _ (List.mem_of_getElem? (i := 180) rfl))), rfl⟩
theorem m2_176 : Cond.methodLink RX3 101 yX3_moves ∈ h_tb := List.mem_filter.mpr ⟨List.mem_append_right _ (List.mem_append_right _ (List.mem_append_left _ (List.mem_of_getElem? (i := 176) rfl))), rfl⟩
theorem m2_179 : Cond.code yX3_moves cX3_moves 2 (some .boolean) ∈ h_tb := List.mem_filter.mpr ⟨List.mem_append_right _ (List.mem_append_right _ (List.mem_append_left _ (List.mem_of_getElem? (i := 179) rfl))), rfl⟩
theorem m2_178 : Cond.instanceMethod yX3_moves ∈ h_tb := List.mem_filter.mpr ⟨List.mem_append_right _ (List.mem_append_right _ (List.mem_append_left _ (List.mem_of_getElem? (i := 178) rfl))), rfl⟩
theorem mp_8 : Cond.selects RX3 yX3_moves yX3_moves ∈ h_tb := List.mem_filter.mpr ⟨List.mem_append_left _ (List.mem_of_getElem? (i := 8) rfl), rfl⟩
theorem m2_224 : Cond.fieldLinkNest RX3 151 "LeadFaults" "LEAST_HEIGHT_OF_STEPS" "[I" "LeadFaults" ∈ h_tb := List.mem_filter.mpr ⟨List.mem_append_right _ (List.mem_append_right _ (List.mem_append_left _ (List.mem_of_getElem? (i := 224) rfl))), rfl⟩
theorem m2_226 : Cond.fieldLinkNest RX3 154 "LeadFaults" "MOST_HEIGHT_OF_STEPS" "[I" "LeadFaults" ∈ h_tb := List.mem_filter.mpr ⟨List.mem_append_right _ (List.mem_append_right _ (List.mem_append_left _ (List.mem_of_getElem? (i := 226) rfl))), rfl⟩
theorem m2_221 : Cond.methodLink RX3 145 yX3_isLeap ∈ h_tb := List.mem_filter.mpr ⟨List.mem_append_right _ (List.mem_append_right _ (List.mem_append_left _ (List.mem_of_getElem? (i := 221) rfl))), rfl⟩
theorem m2_223 : Cond.code yX3_isLeap cX3_isLeap 4 (some .boolean) ∈ h_tb := List.mem_filter.mpr ⟨List.mem_append_right _ (List.mem_append_right _ (List.mem_append_left _ (List.mem_of_getElem? (i := 223) rfl))), rfl⟩
theorem m2_222 : Cond.static yX3_isLeap ∈ h_tb := List.mem_filter.mpr ⟨List.mem_append_right _ (List.mem_append_right _ (List.mem_append_left _ (List.mem_of_getElem? (i := 222) rfl))), rfl⟩
theorem m2_228 : Cond.methodLink RX3 148 yX0_stepsUp ∈ h_tb := List.mem_filter.mpr ⟨List.mem_append_right _ (List.mem_append_right _ (List.mem_append_left _ (List.mem_of_getElem? (i := 228) rfl))), rfl⟩
theorem m2_231 : Cond.code yX0_stepsUp cX0_stepsUp 3 (some .int) ∈ h_tb := List.mem_filter.mpr ⟨List.mem_append_right _ (List.mem_append_right _ (List.mem_append_left _ (List.mem_of_getElem? (i := 231) rfl))), rfl⟩
theorem m2_229 : Cond.instanceMethod yX0_stepsUp ∈ h_tb := List.mem_filter.mpr ⟨List.mem_append_right _ (List.mem_append_right _ (List.mem_append_left _ (List.mem_of_getElem? (i := 229) rfl))), rfl⟩
theorem m2_230 : Cond.selects RX0 yX0_stepsUp yX0_stepsUp ∈ h_tb := List.mem_filter.mpr ⟨List.mem_append_right _ (List.mem_append_right _ (List.mem_append_left _ (List.mem_of_getElem? (i := 230) rfl))), rfl⟩
theorem m3_0 : Cond.methodLink RX3 176 yJ6_compare ∈ h_tb := List.mem_filter.mpr ⟨List.mem_append_right _ (List.mem_append_right _ (List.mem_append_right _ (List.mem_append_left _ (List.mem_of_getElem? (i := 0) rfl)))), rfl⟩
theorem m3_2 : Cond.code yJ6_compare cJ6_compare 2 (some .int) ∈ h_tb := List.mem_filter.mpr ⟨List.mem_append_right _ (List.mem_append_right _ (List.mem_append_right _ (List.mem_append_left _ (List.mem_of_getElem? (i := 2) rfl)))), rfl⟩
theorem m3_1 : Cond.static yJ6_compare ∈ h_tb := List.mem_filter.mpr ⟨List.mem_append_right _ (List.mem_append_right _ (List.mem_append_right _ (List.mem_append_left _ (List.mem_of_getElem? (i := 1) rfl)))), rfl⟩
theorem m3_7 : Cond.methodLink RX0 43 yX0_stepsUp ∈ h_tb := List.mem_filter.mpr ⟨List.mem_append_right _ (List.mem_append_right _ (List.mem_append_right _ (List.mem_append_left _ (List.mem_of_getElem? (i := 7) rfl)))), rfl⟩
theorem m3_8 : Cond.methodLink RX0 47 yJ9_floorMod ∈ h_tb := List.mem_filter.mpr ⟨List.mem_append_right _ (List.mem_append_right _ (List.mem_append_right _ (List.mem_append_left _ (List.mem_of_getElem? (i := 8) rfl)))), rfl⟩
theorem m3_9 : Cond.methodLink RX0 52 yX0_heightUp ∈ h_tb := List.mem_filter.mpr ⟨List.mem_append_right _ (List.mem_append_right _ (List.mem_append_right _ (List.mem_append_left _ (List.mem_of_getElem? (i := 9) rfl)))), rfl⟩
theorem m3_10 : Cond.fieldLinkNest RX0 55 "LeadFaults" "QUALITY_BY_HEIGHT" "[I" "LeadFaults" ∈ h_tb := List.mem_filter.mpr ⟨List.mem_append_right _ (List.mem_append_right _ (List.mem_append_right _ (List.mem_append_left _ (List.mem_of_getElem? (i := 10) rfl)))), rfl⟩
theorem m2_236 : Cond.methodLink RX3 157 yX3_way ∈ h_tb := List.mem_filter.mpr ⟨List.mem_append_right _ (List.mem_append_right _ (List.mem_append_left _ (List.mem_of_getElem? (i := 236) rfl))), rfl⟩
theorem m2_239 : Cond.code yX3_way cX3_way 2 (some .int) ∈ h_tb := List.mem_filter.mpr ⟨List.mem_append_right _ (List.mem_append_right _ (List.mem_append_left _ (List.mem_of_getElem? (i := 239) rfl))), rfl⟩
theorem m2_238 : Cond.instanceMethod yX3_way ∈ h_tb := List.mem_filter.mpr ⟨List.mem_append_right _ (List.mem_append_right _ (List.mem_append_left _ (List.mem_of_getElem? (i := 238) rfl))), rfl⟩
theorem mp_16 : Cond.selects RX3 yX3_way yX3_way ∈ h_tb := List.mem_filter.mpr ⟨List.mem_append_left _ (List.mem_of_getElem? (i := 16) rfl), rfl⟩
theorem m3_3 : Cond.methodLink RX3 160 yX0_quality ∈ h_tb := List.mem_filter.mpr ⟨List.mem_append_right _ (List.mem_append_right _ (List.mem_append_right _ (List.mem_append_left _ (List.mem_of_getElem? (i := 3) rfl)))), rfl⟩
theorem m3_6 : Cond.code yX0_quality cX0_quality 5 (some .int) ∈ h_tb := List.mem_filter.mpr ⟨List.mem_append_right _ (List.mem_append_right _ (List.mem_append_right _ (List.mem_append_left _ (List.mem_of_getElem? (i := 6) rfl)))), rfl⟩
theorem m3_4 : Cond.instanceMethod yX0_quality ∈ h_tb := List.mem_filter.mpr ⟨List.mem_append_right _ (List.mem_append_right _ (List.mem_append_right _ (List.mem_append_left _ (List.mem_of_getElem? (i := 4) rfl)))), rfl⟩
theorem m3_5 : Cond.selects RX0 yX0_quality yX0_quality ∈ h_tb := List.mem_filter.mpr ⟨List.mem_append_right _ (List.mem_append_right _ (List.mem_append_right _ (List.mem_append_left _ (List.mem_of_getElem? (i := 5) rfl)))), rfl⟩
theorem m3_12 : Cond.methodLink RX3 163 Lib.Math.abs.name ∈ h_tb := List.mem_filter.mpr ⟨List.mem_append_right _ (List.mem_append_right _ (List.mem_append_right _ (List.mem_append_left _ (List.mem_of_getElem? (i := 12) rfl)))), rfl⟩
theorem m3_13 : Cond.static Lib.Math.abs.name ∈ h_tb := List.mem_filter.mpr ⟨List.mem_append_right _ (List.mem_append_right _ (List.mem_append_right _ (List.mem_append_left _ (List.mem_of_getElem? (i := 13) rfl)))), rfl⟩
theorem m3_14 : Cond.code Lib.Math.abs.name Lib.Math.abs.code 1 (some .int) ∈ h_tb := List.mem_filter.mpr ⟨List.mem_append_right _ (List.mem_append_right _ (List.mem_append_right _ (List.mem_append_left _ (List.mem_of_getElem? (i := 14) rfl)))), rfl⟩
theorem m3_19 : Cond.methodLink RX3 166 yX0_letter ∈ h_tb := List.mem_filter.mpr ⟨List.mem_append_right _ (List.mem_append_right _ (List.mem_append_right _ (List.mem_append_left _ (List.mem_of_getElem? (i := 19) rfl)))), rfl⟩
theorem m3_15 : Cond.methodLink RX3 138 yX3_isCrossRelation ∈ h_tb := List.mem_filter.mpr ⟨List.mem_append_right _ (List.mem_append_right _ (List.mem_append_right _ (List.mem_append_left _ (List.mem_of_getElem? (i := 15) rfl)))), rfl⟩
theorem m3_18 : Cond.code yX3_isCrossRelation cX3_isCrossRelation 3 (some .boolean) ∈ h_tb := List.mem_filter.mpr ⟨List.mem_append_right _ (List.mem_append_right _ (List.mem_append_right _ (List.mem_append_left _ (List.mem_of_getElem? (i := 18) rfl)))), rfl⟩
theorem m3_17 : Cond.instanceMethod yX3_isCrossRelation ∈ h_tb := List.mem_filter.mpr ⟨List.mem_append_right _ (List.mem_append_right _ (List.mem_append_right _ (List.mem_append_left _ (List.mem_of_getElem? (i := 17) rfl)))), rfl⟩
theorem mp_17 : Cond.selects RX3 yX3_isCrossRelation yX3_isCrossRelation ∈ h_tb := List.mem_filter.mpr ⟨List.mem_append_left _ (List.mem_of_getElem? (i := 17) rfl), rfl⟩
theorem m2_232 : Cond.methodLink RX3 135 yX3_lookAtTwo ∈ h_tb := List.mem_filter.mpr ⟨List.mem_append_right _ (List.mem_append_right _ (List.mem_append_left _ (List.mem_of_getElem? (i := 232) rfl))), rfl⟩
theorem m2_235 : Cond.code yX3_lookAtTwo cX3_lookAtTwo 9 none ∈ h_tb := List.mem_filter.mpr ⟨List.mem_append_right _ (List.mem_append_right _ (List.mem_append_left _ (List.mem_of_getElem? (i := 235) rfl))), rfl⟩
theorem m2_234 : Cond.instanceMethod yX3_lookAtTwo ∈ h_tb := List.mem_filter.mpr ⟨List.mem_append_right _ (List.mem_append_right _ (List.mem_append_left _ (List.mem_of_getElem? (i := 234) rfl))), rfl⟩
theorem mp_15 : Cond.selects RX3 yX3_lookAtTwo yX3_lookAtTwo ∈ h_tb := List.mem_filter.mpr ⟨List.mem_append_left _ (List.mem_of_getElem? (i := 15) rfl), rfl⟩
theorem m2_217 : Cond.methodLink RX3 131 yX3_lookAtMove ∈ h_tb := List.mem_filter.mpr ⟨List.mem_append_right _ (List.mem_append_right _ (List.mem_append_left _ (List.mem_of_getElem? (i := 217) rfl))), rfl⟩
theorem m2_220 : Cond.code yX3_lookAtMove cX3_lookAtMove 5 none ∈ h_tb := List.mem_filter.mpr ⟨List.mem_append_right _ (List.mem_append_right _ (List.mem_append_left _ (List.mem_of_getElem? (i := 220) rfl))), rfl⟩
theorem m2_219 : Cond.instanceMethod yX3_lookAtMove ∈ h_tb := List.mem_filter.mpr ⟨List.mem_append_right _ (List.mem_append_right _ (List.mem_append_left _ (List.mem_of_getElem? (i := 219) rfl))), rfl⟩
theorem mp_14 : Cond.selects RX3 yX3_lookAtMove yX3_lookAtMove ∈ h_tb := List.mem_filter.mpr ⟨List.mem_append_left _ (List.mem_of_getElem? (i := 14) rfl), rfl⟩
theorem m2_146 : Cond.methodLink RX3 54 yX2_begin ∈ h_tb := List.mem_filter.mpr ⟨List.mem_append_right _ (List.mem_append_right _ (List.mem_append_left _ (List.mem_of_getElem? (i := 146) rfl))), rfl⟩
theorem m2_149 : Cond.code yX2_begin cX2_begin 2 none ∈ h_tb := List.mem_filter.mpr ⟨List.mem_append_right _ (List.mem_append_right _ (List.mem_append_left _ (List.mem_of_getElem? (i := 149) rfl))), rfl⟩
theorem m2_147 : Cond.instanceMethod yX2_begin ∈ h_tb := List.mem_filter.mpr ⟨List.mem_append_right _ (List.mem_append_right _ (List.mem_append_left _ (List.mem_of_getElem? (i := 147) rfl))), rfl⟩
theorem m2_148 : Cond.selects RX2 yX2_begin yX2_begin ∈ h_tb := List.mem_filter.mpr ⟨List.mem_append_right _ (List.mem_append_right _ (List.mem_append_left _ (List.mem_of_getElem? (i := 148) rfl))), rfl⟩
theorem m2_154 : Cond.methodLink RX3 61 yX0_hush ∈ h_tb := List.mem_filter.mpr ⟨List.mem_append_right _ (List.mem_append_right _ (List.mem_append_left _ (List.mem_of_getElem? (i := 154) rfl))), rfl⟩
theorem m2_157 : Cond.code yX0_hush cX0_hush 2 none ∈ h_tb := List.mem_filter.mpr ⟨List.mem_append_right _ (List.mem_append_right _ (List.mem_append_left _ (List.mem_of_getElem? (i := 157) rfl))), rfl⟩
theorem m2_155 : Cond.instanceMethod yX0_hush ∈ h_tb := List.mem_filter.mpr ⟨List.mem_append_right _ (List.mem_append_right _ (List.mem_append_left _ (List.mem_of_getElem? (i := 155) rfl))), rfl⟩
theorem m2_156 : Cond.selects RX0 yX0_hush yX0_hush ∈ h_tb := List.mem_filter.mpr ⟨List.mem_append_right _ (List.mem_append_right _ (List.mem_append_left _ (List.mem_of_getElem? (i := 156) rfl))), rfl⟩
theorem m1_76 : Cond.fieldLink RX3 64 "LeadFaults$Timeline" "size" "I" ∈ h_tb := List.mem_filter.mpr ⟨List.mem_append_right _ (List.mem_append_left _ (List.mem_of_getElem? (i := 76) rfl)), rfl⟩
theorem m1_72 : Cond.fieldLink RX3 69 "LeadFaults$Timeline" "times" "[I" ∈ h_tb := List.mem_filter.mpr ⟨List.mem_append_right _ (List.mem_append_left _ (List.mem_of_getElem? (i := 72) rfl)), rfl⟩
theorem m2_158 : Cond.methodLink RX3 72 yX0_load ∈ h_tb := List.mem_filter.mpr ⟨List.mem_append_right _ (List.mem_append_right _ (List.mem_append_left _ (List.mem_of_getElem? (i := 158) rfl))), rfl⟩
theorem m2_161 : Cond.code yX0_load cX0_load 6 none ∈ h_tb := List.mem_filter.mpr ⟨List.mem_append_right _ (List.mem_append_right _ (List.mem_append_left _ (List.mem_of_getElem? (i := 161) rfl))), rfl⟩
theorem m2_159 : Cond.instanceMethod yX0_load ∈ h_tb := List.mem_filter.mpr ⟨List.mem_append_right _ (List.mem_append_right _ (List.mem_append_left _ (List.mem_of_getElem? (i := 159) rfl))), rfl⟩
theorem m2_160 : Cond.selects RX0 yX0_load yX0_load ∈ h_tb := List.mem_filter.mpr ⟨List.mem_append_right _ (List.mem_append_right _ (List.mem_append_left _ (List.mem_of_getElem? (i := 160) rfl))), rfl⟩
theorem m2_168 : Cond.methodLink RX3 79 yX3_lookAtMoment ∈ h_tb := List.mem_filter.mpr ⟨List.mem_append_right _ (List.mem_append_right _ (List.mem_append_left _ (List.mem_of_getElem? (i := 168) rfl))), rfl⟩
theorem m2_171 : Cond.code yX3_lookAtMoment cX3_lookAtMoment 5 none ∈ h_tb := List.mem_filter.mpr ⟨List.mem_append_right _ (List.mem_append_right _ (List.mem_append_left _ (List.mem_of_getElem? (i := 171) rfl))), rfl⟩
theorem m2_170 : Cond.instanceMethod yX3_lookAtMoment ∈ h_tb := List.mem_filter.mpr ⟨List.mem_append_right _ (List.mem_append_right _ (List.mem_append_left _ (List.mem_of_getElem? (i := 170) rfl))), rfl⟩
theorem mp_6 : Cond.selects RX3 yX3_lookAtMoment yX3_lookAtMoment ∈ h_tb := List.mem_filter.mpr ⟨List.mem_append_left _ (List.mem_of_getElem? (i := 6) rfl), rfl⟩
theorem m2_213 : Cond.methodLink RX3 83 yX3_lookAtPair ∈ h_tb := List.mem_filter.mpr ⟨List.mem_append_right _ (List.mem_append_right _ (List.mem_append_left _ (List.mem_of_getElem? (i := 213) rfl))), rfl⟩
theorem m2_216 : Cond.code yX3_lookAtPair cX3_lookAtPair 3 none ∈ h_tb := List.mem_filter.mpr ⟨List.mem_append_right _ (List.mem_append_right _ (List.mem_append_left _ (List.mem_of_getElem? (i := 216) rfl))), rfl⟩
theorem m2_215 : Cond.instanceMethod yX3_lookAtPair ∈ h_tb := List.mem_filter.mpr ⟨List.mem_append_right _ (List.mem_append_right _ (List.mem_append_left _ (List.mem_of_getElem? (i := 215) rfl))), rfl⟩
theorem mp_13 : Cond.selects RX3 yX3_lookAtPair yX3_lookAtPair ∈ h_tb := List.mem_filter.mpr ⟨List.mem_append_left _ (List.mem_of_getElem? (i := 13) rfl), rfl⟩
theorem m3_24 : Cond.methodLink RX3 86 yX5_firstFrom ∈ h_tb := List.mem_filter.mpr ⟨List.mem_append_right _ (List.mem_append_right _ (List.mem_append_right _ (List.mem_append_left _ (List.mem_of_getElem? (i := 24) rfl)))), rfl⟩
theorem m3_27 : Cond.code yX5_firstFrom cX5_firstFrom 3 (some .int) ∈ h_tb := List.mem_filter.mpr ⟨List.mem_append_right _ (List.mem_append_right _ (List.mem_append_right _ (List.mem_append_left _ (List.mem_of_getElem? (i := 27) rfl)))), rfl⟩
theorem m3_25 : Cond.instanceMethod yX5_firstFrom ∈ h_tb := List.mem_filter.mpr ⟨List.mem_append_right _ (List.mem_append_right _ (List.mem_append_right _ (List.mem_append_left _ (List.mem_of_getElem? (i := 25) rfl)))), rfl⟩
theorem m3_26 : Cond.selects RX5 yX5_firstFrom yX5_firstFrom ∈ h_tb := List.mem_filter.mpr ⟨List.mem_append_right _ (List.mem_append_right _ (List.mem_append_right _ (List.mem_append_left _ (List.mem_of_getElem? (i := 26) rfl)))), rfl⟩
theorem m3_28 : Cond.methodLink RX3 90 yX5_lastBefore ∈ h_tb := List.mem_filter.mpr ⟨List.mem_append_right _ (List.mem_append_right _ (List.mem_append_right _ (List.mem_append_left _ (List.mem_of_getElem? (i := 28) rfl)))), rfl⟩
theorem m3_31 : Cond.code yX5_lastBefore cX5_lastBefore 3 (some .int) ∈ h_tb := List.mem_filter.mpr ⟨List.mem_append_right _ (List.mem_append_right _ (List.mem_append_right _ (List.mem_append_left _ (List.mem_of_getElem? (i := 31) rfl)))), rfl⟩
theorem m3_29 : Cond.instanceMethod yX5_lastBefore ∈ h_tb := List.mem_filter.mpr ⟨List.mem_append_right _ (List.mem_append_right _ (List.mem_append_right _ (List.mem_append_left _ (List.mem_of_getElem? (i := 29) rfl)))), rfl⟩
theorem m3_30 : Cond.selects RX5 yX5_lastBefore yX5_lastBefore ∈ h_tb := List.mem_filter.mpr ⟨List.mem_append_right _ (List.mem_append_right _ (List.mem_append_right _ (List.mem_append_left _ (List.mem_of_getElem? (i := 30) rfl)))), rfl⟩
theorem m3_36 : Cond.methodLink RX2 52 yJ6_bitCount ∈ h_tb := List.mem_filter.mpr ⟨List.mem_append_right _ (List.mem_append_right _ (List.mem_append_right _ (List.mem_append_left _ (List.mem_of_getElem? (i := 36) rfl)))), rfl⟩
theorem m2_128 : Cond.methodLink RX6 134 yX3_begin ∈ h_tb := List.mem_filter.mpr ⟨List.mem_append_right _ (List.mem_append_right _ (List.mem_append_left _ (List.mem_of_getElem? (i := 128) rfl))), rfl⟩
theorem m2_131 : Cond.code yX3_begin cX3_begin 3 none ∈ h_tb := List.mem_filter.mpr ⟨List.mem_append_right _ (List.mem_append_right _ (List.mem_append_left _ (List.mem_of_getElem? (i := 131) rfl))), rfl⟩
theorem m2_129 : Cond.instanceMethod yX3_begin ∈ h_tb := List.mem_filter.mpr ⟨List.mem_append_right _ (List.mem_append_right _ (List.mem_append_left _ (List.mem_of_getElem? (i := 129) rfl))), rfl⟩
theorem m2_130 : Cond.selects RX3 yX3_begin yX3_begin ∈ h_tb := List.mem_filter.mpr ⟨List.mem_append_right _ (List.mem_append_right _ (List.mem_append_left _ (List.mem_of_getElem? (i := 130) rfl))), rfl⟩
theorem m2_142 : Cond.methodLink RX6 138 yX3_walk ∈ h_tb := List.mem_filter.mpr ⟨List.mem_append_right _ (List.mem_append_right _ (List.mem_append_left _ (List.mem_of_getElem? (i := 142) rfl))), rfl⟩
theorem m2_145 : Cond.code yX3_walk cX3_walk 5 none ∈ h_tb := List.mem_filter.mpr ⟨List.mem_append_right _ (List.mem_append_right _ (List.mem_append_left _ (List.mem_of_getElem? (i := 145) rfl))), rfl⟩
theorem m2_143 : Cond.instanceMethod yX3_walk ∈ h_tb := List.mem_filter.mpr ⟨List.mem_append_right _ (List.mem_append_right _ (List.mem_append_left _ (List.mem_of_getElem? (i := 143) rfl))), rfl⟩
theorem m2_144 : Cond.selects RX3 yX3_walk yX3_walk ∈ h_tb := List.mem_filter.mpr ⟨List.mem_append_right _ (List.mem_append_right _ (List.mem_append_left _ (List.mem_of_getElem? (i := 144) rfl))), rfl⟩
theorem m3_37 : Cond.methodLink RX6 155 yX2_sum ∈ h_tb := List.mem_filter.mpr ⟨List.mem_append_right _ (List.mem_append_right _ (List.mem_append_right _ (List.mem_append_left _ (List.mem_of_getElem? (i := 37) rfl)))), rfl⟩
theorem m3_40 : Cond.code yX2_sum cX2_sum 3 (some .int) ∈ h_tb := List.mem_filter.mpr ⟨List.mem_append_right _ (List.mem_append_right _ (List.mem_append_right _ (List.mem_append_left _ (List.mem_of_getElem? (i := 40) rfl)))), rfl⟩
theorem m3_38 : Cond.instanceMethod yX2_sum ∈ h_tb := List.mem_filter.mpr ⟨List.mem_append_right _ (List.mem_append_right _ (List.mem_append_right _ (List.mem_append_left _ (List.mem_of_getElem? (i := 38) rfl)))), rfl⟩
theorem m3_39 : Cond.selects RX2 yX2_sum yX2_sum ∈ h_tb := List.mem_filter.mpr ⟨List.mem_append_right _ (List.mem_append_right _ (List.mem_append_right _ (List.mem_append_left _ (List.mem_of_getElem? (i := 39) rfl)))), rfl⟩
theorem m1_94 : Cond.fieldLink RX6 142 "LeadFaults$Entries" "firsts" "[I" ∈ h_tb := List.mem_filter.mpr ⟨List.mem_append_right _ (List.mem_append_left _ (List.mem_of_getElem? (i := 94) rfl)), rfl⟩
theorem m1_96 : Cond.fieldLink RX6 145 "LeadFaults$Entries" "seconds" "[I" ∈ h_tb := List.mem_filter.mpr ⟨List.mem_append_right _ (List.mem_append_left _ (List.mem_of_getElem? (i := 96) rfl)), rfl⟩
theorem m3_32 : Cond.methodLink RX6 152 yX2_leaveOut ∈ h_tb := List.mem_filter.mpr ⟨List.mem_append_right _ (List.mem_append_right _ (List.mem_append_right _ (List.mem_append_left _ (List.mem_of_getElem? (i := 32) rfl)))), rfl⟩
theorem m3_35 : Cond.code yX2_leaveOut cX2_leaveOut 5 none ∈ h_tb := List.mem_filter.mpr ⟨List.mem_append_right _ (List.mem_append_right _ (List.mem_append_right _ (List.mem_append_left _ (List.mem_of_getElem? (i := 35) rfl)))), rfl⟩
theorem m3_33 : Cond.instanceMethod yX2_leaveOut ∈ h_tb := List.mem_filter.mpr ⟨List.mem_append_right _ (List.mem_append_right _ (List.mem_append_right _ (List.mem_append_left _ (List.mem_of_getElem? (i := 33) rfl)))), rfl⟩
theorem m3_34 : Cond.selects RX2 yX2_leaveOut yX2_leaveOut ∈ h_tb := List.mem_filter.mpr ⟨List.mem_append_right _ (List.mem_append_right _ (List.mem_append_right _ (List.mem_append_left _ (List.mem_of_getElem? (i := 34) rfl)))), rfl⟩
theorem m3_20 : Cond.methodLink RX6 148 yX3_goBack ∈ h_tb := List.mem_filter.mpr ⟨List.mem_append_right _ (List.mem_append_right _ (List.mem_append_right _ (List.mem_append_left _ (List.mem_of_getElem? (i := 20) rfl)))), rfl⟩
theorem m3_23 : Cond.code yX3_goBack cX3_goBack 7 none ∈ h_tb := List.mem_filter.mpr ⟨List.mem_append_right _ (List.mem_append_right _ (List.mem_append_right _ (List.mem_append_left _ (List.mem_of_getElem? (i := 23) rfl)))), rfl⟩
theorem m3_21 : Cond.instanceMethod yX3_goBack ∈ h_tb := List.mem_filter.mpr ⟨List.mem_append_right _ (List.mem_append_right _ (List.mem_append_right _ (List.mem_append_left _ (List.mem_of_getElem? (i := 21) rfl)))), rfl⟩
theorem m3_22 : Cond.selects RX3 yX3_goBack yX3_goBack ∈ h_tb := List.mem_filter.mpr ⟨List.mem_append_right _ (List.mem_append_right _ (List.mem_append_right _ (List.mem_append_left _ (List.mem_of_getElem? (i := 22) rfl)))), rfl⟩
theorem m3_53 : Cond.methodLink RX2 62 yX2_bitAfter ∈ h_tb := List.mem_filter.mpr ⟨List.mem_append_right _ (List.mem_append_right _ (List.mem_append_right _ (List.mem_append_left _ (List.mem_of_getElem? (i := 53) rfl)))), rfl⟩
theorem m3_55 : Cond.code yX2_bitAfter cX2_bitAfter 4 (some .int) ∈ h_tb := List.mem_filter.mpr ⟨List.mem_append_right _ (List.mem_append_right _ (List.mem_append_right _ (List.mem_append_left _ (List.mem_of_getElem? (i := 55) rfl)))), rfl⟩
theorem m3_54 : Cond.static yX2_bitAfter ∈ h_tb := List.mem_filter.mpr ⟨List.mem_append_right _ (List.mem_append_right _ (List.mem_append_right _ (List.mem_append_left _ (List.mem_of_getElem? (i := 54) rfl)))), rfl⟩
theorem m3_49 : Cond.methodLink RX2 58 yX2_tellOfCell ∈ h_tb := List.mem_filter.mpr ⟨List.mem_append_right _ (List.mem_append_right _ (List.mem_append_right _ (List.mem_append_left _ (List.mem_of_getElem? (i := 49) rfl)))), rfl⟩
theorem m3_52 : Cond.code yX2_tellOfCell cX2_tellOfCell 7 (some .int) ∈ h_tb := List.mem_filter.mpr ⟨List.mem_append_right _ (List.mem_append_right _ (List.mem_append_right _ (List.mem_append_left _ (List.mem_of_getElem? (i := 52) rfl)))), rfl⟩
theorem m3_51 : Cond.instanceMethod yX2_tellOfCell ∈ h_tb := List.mem_filter.mpr ⟨List.mem_append_right _ (List.mem_append_right _ (List.mem_append_right _ (List.mem_append_left _ (List.mem_of_getElem? (i := 51) rfl)))), rfl⟩
theorem mp_18 : Cond.selects RX2 yX2_tellOfCell yX2_tellOfCell ∈ h_tb := List.mem_filter.mpr ⟨List.mem_append_left _ (List.mem_of_getElem? (i := 18) rfl), rfl⟩
theorem m1_124 : Cond.fieldLink RX6 158 "LeadFaults$Findings" "told" "I" ∈ h_tb := List.mem_filter.mpr ⟨List.mem_append_right _ (List.mem_append_left _ (List.mem_of_getElem? (i := 124) rfl)), rfl⟩
theorem m3_45 : Cond.methodLink RX6 161 yX2_tell ∈ h_tb := List.mem_filter.mpr ⟨List.mem_append_right _ (List.mem_append_right _ (List.mem_append_right _ (List.mem_append_left _ (List.mem_of_getElem? (i := 45) rfl)))), rfl⟩
theorem m3_48 : Cond.code yX2_tell cX2_tell 6 (some .int) ∈ h_tb := List.mem_filter.mpr ⟨List.mem_append_right _ (List.mem_append_right _ (List.mem_append_right _ (List.mem_append_left _ (List.mem_of_getElem? (i := 48) rfl)))), rfl⟩
theorem m3_46 : Cond.instanceMethod yX2_tell ∈ h_tb := List.mem_filter.mpr ⟨List.mem_append_right _ (List.mem_append_right _ (List.mem_append_right _ (List.mem_append_left _ (List.mem_of_getElem? (i := 46) rfl)))), rfl⟩
theorem m3_47 : Cond.selects RX2 yX2_tell yX2_tell ∈ h_tb := List.mem_filter.mpr ⟨List.mem_append_right _ (List.mem_append_right _ (List.mem_append_right _ (List.mem_append_left _ (List.mem_of_getElem? (i := 47) rfl)))), rfl⟩
theorem m1_126 : Cond.fieldLink RX6 167 "LeadFaults$Findings" "excepted" "I" ∈ h_tb := List.mem_filter.mpr ⟨List.mem_append_right _ (List.mem_append_left _ (List.mem_of_getElem? (i := 126) rfl)), rfl⟩
theorem m1_122 : Cond.fieldLink RX6 164 "LeadFaults$Findings" "toldOfKind" "[I" ∈ h_tb := List.mem_filter.mpr ⟨List.mem_append_right _ (List.mem_append_left _ (List.mem_of_getElem? (i := 122) rfl)), rfl⟩
theorem m3_68 : Cond.methodLink RX6 170 yX6_isMoment ∈ h_tb := List.mem_filter.mpr ⟨List.mem_append_right _ (List.mem_append_right _ (List.mem_append_right _ (List.mem_append_left _ (List.mem_of_getElem? (i := 68) rfl)))), rfl⟩
theorem m3_71 : Cond.code yX6_isMoment cX6_isMoment 2 (some .boolean) ∈ h_tb := List.mem_filter.mpr ⟨List.mem_append_right _ (List.mem_append_right _ (List.mem_append_right _ (List.mem_append_left _ (List.mem_of_getElem? (i := 71) rfl)))), rfl⟩
theorem m3_70 : Cond.instanceMethod yX6_isMoment ∈ h_tb := List.mem_filter.mpr ⟨List.mem_append_right _ (List.mem_append_right _ (List.mem_append_right _ (List.mem_append_left _ (List.mem_of_getElem? (i := 70) rfl)))), rfl⟩
theorem mp_19 : Cond.selects RX6 yX6_isMoment yX6_isMoment ∈ h_tb := List.mem_filter.mpr ⟨List.mem_append_left _ (List.mem_of_getElem? (i := 19) rfl), rfl⟩
theorem m1_73 : Cond.fieldLink RX6 173 "LeadFaults$Timeline" "times" "[I" ∈ h_tb := List.mem_filter.mpr ⟨List.mem_append_right _ (List.mem_append_left _ (List.mem_of_getElem? (i := 73) rfl)), rfl⟩
theorem m3_76 : Cond.methodLink RX6 176 yX0_load ∈ h_tb := List.mem_filter.mpr ⟨List.mem_append_right _ (List.mem_append_right _ (List.mem_append_right _ (List.mem_append_left _ (List.mem_of_getElem? (i := 76) rfl)))), rfl⟩
theorem m1_148 : Cond.fieldLink RX6 179 "LeadFaults$Chord" "sounds" "[Z" ∈ h_tb := List.mem_filter.mpr ⟨List.mem_append_right _ (List.mem_append_left _ (List.mem_of_getElem? (i := 148) rfl)), rfl⟩
theorem m1_155 : Cond.fieldLink RX6 183 "LeadFaults$Chord" "heights" "[I" ∈ h_tb := List.mem_filter.mpr ⟨List.mem_append_right _ (List.mem_append_left _ (List.mem_of_getElem? (i := 155) rfl)), rfl⟩
theorem m3_81 : Cond.methodLink RX6 186 yX0_quality ∈ h_tb := List.mem_filter.mpr ⟨List.mem_append_right _ (List.mem_append_right _ (List.mem_append_right _ (List.mem_append_left _ (List.mem_of_getElem? (i := 81) rfl)))), rfl⟩
theorem m3_86 : Cond.methodLink RX6 193 yX4_isNote ∈ h_tb := List.mem_filter.mpr ⟨List.mem_append_right _ (List.mem_append_right _ (List.mem_append_right _ (List.mem_append_left _ (List.mem_of_getElem? (i := 86) rfl)))), rfl⟩
theorem m1_42 : Cond.fieldLink RX6 196 "LeadFaults$Part" "sharps" "[I" ∈ h_tb := List.mem_filter.mpr ⟨List.mem_append_right _ (List.mem_append_left _ (List.mem_of_getElem? (i := 42) rfl)), rfl⟩
theorem m1_39 : Cond.fieldLink RX6 190 "LeadFaults$Part" "steps" "[I" ∈ h_tb := List.mem_filter.mpr ⟨List.mem_append_right _ (List.mem_append_left _ (List.mem_of_getElem? (i := 39) rfl)), rfl⟩
theorem m1_36 : Cond.fieldLink RX6 189 "LeadFaults$Part" "times" "[I" ∈ h_tb := List.mem_filter.mpr ⟨List.mem_append_right _ (List.mem_append_left _ (List.mem_of_getElem? (i := 36) rfl)), rfl⟩
theorem m3_108 : Cond.fieldLink RX7 63 "LeadFaultsModel" "key" "I" ∈ h_tb := List.mem_filter.mpr ⟨List.mem_append_right _ (List.mem_append_right _ (List.mem_append_right _ (List.mem_append_left _ (List.mem_of_getElem? (i := 108) rfl)))), rfl⟩
theorem m3_109 : Cond.fieldLink RX7 66 "LeadFaultsModel" "grid" "I" ∈ h_tb := List.mem_filter.mpr ⟨List.mem_append_right _ (List.mem_append_right _ (List.mem_append_right _ (List.mem_append_left _ (List.mem_of_getElem? (i := 109) rfl)))), rfl⟩
theorem m3_110 : Cond.fieldLink RX7 69 "LeadFaultsModel" "repeats" "I" ∈ h_tb := List.mem_filter.mpr ⟨List.mem_append_right _ (List.mem_append_right _ (List.mem_append_right _ (List.mem_append_left _ (List.mem_of_getElem? (i := 110) rfl)))), rfl⟩
theorem m3_113 : Cond.fieldLink RX7 72 "LeadFaultsModel" "exceptions" "I" ∈ h_tb := List.mem_filter.mpr ⟨List.mem_append_right _ (List.mem_append_right _ (List.mem_append_right _ (List.mem_append_left _ (List.mem_of_getElem? (i := 113) rfl)))), rfl⟩
theorem m3_119 : Cond.fieldLink RX7 75 "LeadFaultsModel" "faults" "I" ∈ h_tb := List.mem_filter.mpr ⟨List.mem_append_right _ (List.mem_append_right _ (List.mem_append_right _ (List.mem_append_left _ (List.mem_of_getElem? (i := 119) rfl)))), rfl⟩
theorem m3_120 : Cond.fieldLink RX7 78 "LeadFaultsModel" "excepted" "I" ∈ h_tb := List.mem_filter.mpr ⟨List.mem_append_right _ (List.mem_append_right _ (List.mem_append_right _ (List.mem_append_left _ (List.mem_of_getElem? (i := 120) rfl)))), rfl⟩
theorem m3_107 : Cond.fieldLink RX7 28 "LeadFaultsModel" "isOn" "[Z" ∈ h_tb := List.mem_filter.mpr ⟨List.mem_append_right _ (List.mem_append_right _ (List.mem_append_right _ (List.mem_append_left _ (List.mem_of_getElem? (i := 107) rfl)))), rfl⟩
theorem m3_101 : Cond.fieldLink RX7 7 "LeadFaultsModel" "many" "[I" ∈ h_tb := List.mem_filter.mpr ⟨List.mem_append_right _ (List.mem_append_right _ (List.mem_append_right _ (List.mem_append_left _ (List.mem_of_getElem? (i := 101) rfl)))), rfl⟩
theorem m3_105 : Cond.fieldLink RX7 22 "LeadFaultsModel" "low" "[I" ∈ h_tb := List.mem_filter.mpr ⟨List.mem_append_right _ (List.mem_append_right _ (List.mem_append_right _ (List.mem_append_left _ (List.mem_of_getElem? (i := 105) rfl)))), rfl⟩
theorem m3_106 : Cond.fieldLink RX7 25 "LeadFaultsModel" "high" "[I" ∈ h_tb := List.mem_filter.mpr ⟨List.mem_append_right _ (List.mem_append_right _ (List.mem_append_right _ (List.mem_append_left _ (List.mem_of_getElem? (i := 106) rfl)))), rfl⟩
theorem m3_95 : Cond.methodLink RX7 1 Lib.objectInit ∈ h_tb := List.mem_filter.mpr ⟨List.mem_append_right _ (List.mem_append_right _ (List.mem_append_right _ (List.mem_append_left _ (List.mem_of_getElem? (i := 95) rfl)))), rfl⟩
theorem m3_102 : Cond.fieldLink RX7 13 "LeadFaultsModel" "times" "[I" ∈ h_tb := List.mem_filter.mpr ⟨List.mem_append_right _ (List.mem_append_right _ (List.mem_append_right _ (List.mem_append_left _ (List.mem_of_getElem? (i := 102) rfl)))), rfl⟩
theorem m3_103 : Cond.fieldLink RX7 16 "LeadFaultsModel" "steps" "[I" ∈ h_tb := List.mem_filter.mpr ⟨List.mem_append_right _ (List.mem_append_right _ (List.mem_append_right _ (List.mem_append_left _ (List.mem_of_getElem? (i := 103) rfl)))), rfl⟩
theorem m3_104 : Cond.fieldLink RX7 19 "LeadFaultsModel" "sharps" "[I" ∈ h_tb := List.mem_filter.mpr ⟨List.mem_append_right _ (List.mem_append_right _ (List.mem_append_right _ (List.mem_append_left _ (List.mem_of_getElem? (i := 104) rfl)))), rfl⟩
theorem m3_111 : Cond.fieldLink RX7 32 "LeadFaultsModel" "repeatFrom" "[I" ∈ h_tb := List.mem_filter.mpr ⟨List.mem_append_right _ (List.mem_append_right _ (List.mem_append_right _ (List.mem_append_left _ (List.mem_of_getElem? (i := 111) rfl)))), rfl⟩
theorem m3_112 : Cond.fieldLink RX7 35 "LeadFaultsModel" "repeatTo" "[I" ∈ h_tb := List.mem_filter.mpr ⟨List.mem_append_right _ (List.mem_append_right _ (List.mem_append_right _ (List.mem_append_left _ (List.mem_of_getElem? (i := 112) rfl)))), rfl⟩
theorem m3_114 : Cond.fieldLink RX7 38 "LeadFaultsModel" "exceptKind" "[I" ∈ h_tb := List.mem_filter.mpr ⟨List.mem_append_right _ (List.mem_append_right _ (List.mem_append_right _ (List.mem_append_left _ (List.mem_of_getElem? (i := 114) rfl)))), rfl⟩
theorem m3_115 : Cond.fieldLink RX7 41 "LeadFaultsModel" "exceptTime" "[I" ∈ h_tb := List.mem_filter.mpr ⟨List.mem_append_right _ (List.mem_append_right _ (List.mem_append_right _ (List.mem_append_left _ (List.mem_of_getElem? (i := 115) rfl)))), rfl⟩
theorem m3_117 : Cond.fieldLink RX7 44 "LeadFaultsModel" "moment" "[I" ∈ h_tb := List.mem_filter.mpr ⟨List.mem_append_right _ (List.mem_append_right _ (List.mem_append_right _ (List.mem_append_left _ (List.mem_of_getElem? (i := 117) rfl)))), rfl⟩
theorem m3_118 : Cond.fieldLink RX7 47 "LeadFaultsModel" "event" "[I" ∈ h_tb := List.mem_filter.mpr ⟨List.mem_append_right _ (List.mem_append_right _ (List.mem_append_right _ (List.mem_append_left _ (List.mem_of_getElem? (i := 118) rfl)))), rfl⟩
theorem m3_121 : Cond.fieldLink RX7 50 "LeadFaultsModel" "fault" "[I" ∈ h_tb := List.mem_filter.mpr ⟨List.mem_append_right _ (List.mem_append_right _ (List.mem_append_right _ (List.mem_append_left _ (List.mem_of_getElem? (i := 121) rfl)))), rfl⟩
theorem m3_122 : Cond.fieldLink RX7 53 "LeadFaultsModel" "faultTime" "[I" ∈ h_tb := List.mem_filter.mpr ⟨List.mem_append_right _ (List.mem_append_right _ (List.mem_append_right _ (List.mem_append_left _ (List.mem_of_getElem? (i := 122) rfl)))), rfl⟩
theorem m3_100 : Cond.fieldLink RX7 56 "LeadFaultsModel" "voices" "I" ∈ h_tb := List.mem_filter.mpr ⟨List.mem_append_right _ (List.mem_append_right _ (List.mem_append_right _ (List.mem_append_left _ (List.mem_of_getElem? (i := 100) rfl)))), rfl⟩
theorem m3_96 : Cond.methodLink RX7 60 yX7_begin ∈ h_tb := List.mem_filter.mpr ⟨List.mem_append_right _ (List.mem_append_right _ (List.mem_append_right _ (List.mem_append_left _ (List.mem_of_getElem? (i := 96) rfl)))), rfl⟩
theorem m3_99 : Cond.code yX7_begin cX7_begin 2 none ∈ h_tb := List.mem_filter.mpr ⟨List.mem_append_right _ (List.mem_append_right _ (List.mem_append_right _ (List.mem_append_left _ (List.mem_of_getElem? (i := 99) rfl)))), rfl⟩
theorem m1_9 : Cond.initialized RX7 ∈ h_tb := List.mem_filter.mpr ⟨List.mem_append_right _ (List.mem_append_left _ (List.mem_of_getElem? (i := 9) rfl)), rfl⟩
theorem m3_98 : Cond.instanceMethod yX7_begin ∈ h_tb := List.mem_filter.mpr ⟨List.mem_append_right _ (List.mem_append_right _ (List.mem_append_right _ (List.mem_append_left _ (List.mem_of_getElem? (i := 98) rfl)))), rfl⟩
theorem mp_20 : Cond.selects RX7 yX7_begin yX7_begin ∈ h_tb := List.mem_filter.mpr ⟨List.mem_append_left _ (List.mem_of_getElem? (i := 20) rfl), rfl⟩
theorem m3_182 : Cond.methodLink RX7 81 yX7_isIn ∈ h_tb := List.mem_filter.mpr ⟨List.mem_append_right _ (List.mem_append_right _ (List.mem_append_right _ (List.mem_append_left _ (List.mem_of_getElem? (i := 182) rfl)))), rfl⟩
theorem m3_184 : Cond.code yX7_isIn cX7_isIn 3 (some .boolean) ∈ h_tb := List.mem_filter.mpr ⟨List.mem_append_right _ (List.mem_append_right _ (List.mem_append_right _ (List.mem_append_left _ (List.mem_of_getElem? (i := 184) rfl)))), rfl⟩
theorem m3_183 : Cond.static yX7_isIn ∈ h_tb := List.mem_filter.mpr ⟨List.mem_append_right _ (List.mem_append_right _ (List.mem_append_right _ (List.mem_append_left _ (List.mem_of_getElem? (i := 183) rfl)))), rfl⟩
theorem m3_178 : Cond.methodLink RX7 85 yX7_isVoice ∈ h_tb := List.mem_filter.mpr ⟨List.mem_append_right _ (List.mem_append_right _ (List.mem_append_right _ (List.mem_append_left _ (List.mem_of_getElem? (i := 178) rfl)))), rfl⟩
theorem m3_181 : Cond.code yX7_isVoice cX7_isVoice 2 (some .boolean) ∈ h_tb := List.mem_filter.mpr ⟨List.mem_append_right _ (List.mem_append_right _ (List.mem_append_right _ (List.mem_append_left _ (List.mem_of_getElem? (i := 181) rfl)))), rfl⟩
theorem m3_180 : Cond.instanceMethod yX7_isVoice ∈ h_tb := List.mem_filter.mpr ⟨List.mem_append_right _ (List.mem_append_right _ (List.mem_append_right _ (List.mem_append_left _ (List.mem_of_getElem? (i := 180) rfl)))), rfl⟩
theorem mp_21 : Cond.selects RX7 yX7_isVoice yX7_isVoice ∈ h_tb := List.mem_filter.mpr ⟨List.mem_append_left _ (List.mem_of_getElem? (i := 21) rfl), rfl⟩
theorem m3_185 : Cond.methodLink RX7 89 yX7_add ∈ h_tb := List.mem_filter.mpr ⟨List.mem_append_right _ (List.mem_append_right _ (List.mem_append_right _ (List.mem_append_left _ (List.mem_of_getElem? (i := 185) rfl)))), rfl⟩
theorem m3_188 : Cond.code yX7_add cX7_add 6 (some .int) ∈ h_tb := List.mem_filter.mpr ⟨List.mem_append_right _ (List.mem_append_right _ (List.mem_append_right _ (List.mem_append_left _ (List.mem_of_getElem? (i := 188) rfl)))), rfl⟩
theorem m3_187 : Cond.instanceMethod yX7_add ∈ h_tb := List.mem_filter.mpr ⟨List.mem_append_right _ (List.mem_append_right _ (List.mem_append_right _ (List.mem_append_left _ (List.mem_of_getElem? (i := 187) rfl)))), rfl⟩
theorem mp_22 : Cond.selects RX7 yX7_add yX7_add ∈ h_tb := List.mem_filter.mpr ⟨List.mem_append_left _ (List.mem_of_getElem? (i := 22) rfl), rfl⟩
theorem m3_217 : Cond.methodLink RX7 93 yX7_scale ∈ h_tb := List.mem_filter.mpr ⟨List.mem_append_right _ (List.mem_append_right _ (List.mem_append_right _ (List.mem_append_left _ (List.mem_of_getElem? (i := 217) rfl)))), rfl⟩
theorem m3_219 : Cond.code yX7_scale cX7_scale 1 (some .int) ∈ h_tb := List.mem_filter.mpr ⟨List.mem_append_right _ (List.mem_append_right _ (List.mem_append_right _ (List.mem_append_left _ (List.mem_of_getElem? (i := 219) rfl)))), rfl⟩
theorem m3_218 : Cond.static yX7_scale ∈ h_tb := List.mem_filter.mpr ⟨List.mem_append_right _ (List.mem_append_right _ (List.mem_append_right _ (List.mem_append_left _ (List.mem_of_getElem? (i := 218) rfl)))), rfl⟩
theorem m3_213 : Cond.methodLink RX7 97 yX7_heightOf ∈ h_tb := List.mem_filter.mpr ⟨List.mem_append_right _ (List.mem_append_right _ (List.mem_append_right _ (List.mem_append_left _ (List.mem_of_getElem? (i := 213) rfl)))), rfl⟩
theorem m3_216 : Cond.code yX7_heightOf cX7_heightOf 2 (some .int) ∈ h_tb := List.mem_filter.mpr ⟨List.mem_append_right _ (List.mem_append_right _ (List.mem_append_right _ (List.mem_append_left _ (List.mem_of_getElem? (i := 216) rfl)))), rfl⟩
theorem m3_215 : Cond.instanceMethod yX7_heightOf ∈ h_tb := List.mem_filter.mpr ⟨List.mem_append_right _ (List.mem_append_right _ (List.mem_append_right _ (List.mem_append_left _ (List.mem_of_getElem? (i := 215) rfl)))), rfl⟩
theorem mp_23 : Cond.selects RX7 yX7_heightOf yX7_heightOf ∈ h_tb := List.mem_filter.mpr ⟨List.mem_append_left _ (List.mem_of_getElem? (i := 23) rfl), rfl⟩
theorem m3_116 : Cond.fieldLink RX7 100 "LeadFaultsModel" "moments" "I" ∈ h_tb := List.mem_filter.mpr ⟨List.mem_append_right _ (List.mem_append_right _ (List.mem_append_right _ (List.mem_append_left _ (List.mem_of_getElem? (i := 116) rfl)))), rfl⟩
theorem m3_224 : Cond.methodLink RX7 103 yX7_learn ∈ h_tb := List.mem_filter.mpr ⟨List.mem_append_right _ (List.mem_append_right _ (List.mem_append_right _ (List.mem_append_left _ (List.mem_of_getElem? (i := 224) rfl)))), rfl⟩
theorem m3_227 : Cond.code yX7_learn cX7_learn 6 none ∈ h_tb := List.mem_filter.mpr ⟨List.mem_append_right _ (List.mem_append_right _ (List.mem_append_right _ (List.mem_append_left _ (List.mem_of_getElem? (i := 227) rfl)))), rfl⟩
theorem m3_226 : Cond.instanceMethod yX7_learn ∈ h_tb := List.mem_filter.mpr ⟨List.mem_append_right _ (List.mem_append_right _ (List.mem_append_right _ (List.mem_append_left _ (List.mem_of_getElem? (i := 226) rfl)))), rfl⟩
theorem mp_24 : Cond.selects RX7 yX7_learn yX7_learn ∈ h_tb := List.mem_filter.mpr ⟨List.mem_append_left _ (List.mem_of_getElem? (i := 24) rfl), rfl⟩
theorem m3_236 : Cond.methodLink RX7 106 yX7_isExcepted ∈ h_tb := List.mem_filter.mpr ⟨List.mem_append_right _ (List.mem_append_right _ (List.mem_append_right _ (List.mem_append_left _ (List.mem_of_getElem? (i := 236) rfl)))), rfl⟩
theorem m3_239 : Cond.code yX7_isExcepted cX7_isExcepted 5 (some .boolean) ∈ h_tb := List.mem_filter.mpr ⟨List.mem_append_right _ (List.mem_append_right _ (List.mem_append_right _ (List.mem_append_left _ (List.mem_of_getElem? (i := 239) rfl)))), rfl⟩
theorem m3_238 : Cond.instanceMethod yX7_isExcepted ∈ h_tb := List.mem_filter.mpr ⟨List.mem_append_right _ (List.mem_append_right _ (List.mem_append_right _ (List.mem_append_left _ (List.mem_of_getElem? (i := 238) rfl)))), rfl⟩
theorem mp_25 : Cond.selects RX7 yX7_isExcepted yX7_isExcepted ∈ h_tb := List.mem_filter.mpr ⟨List.mem_append_left _ (List.mem_of_getElem? (i := 25) rfl), rfl⟩
theorem m4_19 : Cond.methodLink RX7 110 yX7_at ∈ h_tb := List.mem_filter.mpr ⟨List.mem_append_right _ (List.mem_append_right _ (List.mem_append_right _ (List.mem_append_right _ (List.mem_of_getElem? (i := 19) rfl)))), rfl⟩
theorem m4_22 : Cond.code yX7_at cX7_at 3 (some .int) ∈ h_tb := List.mem_filter.mpr ⟨List.mem_append_right _ (List.mem_append_right _ (List.mem_append_right _ (List.mem_append_right _ (List.mem_of_getElem? (i := 22) rfl)))), rfl⟩
theorem m4_21 : Cond.instanceMethod yX7_at ∈ h_tb := List.mem_filter.mpr ⟨List.mem_append_right _ (List.mem_append_right _ (List.mem_append_right _ (List.mem_append_right _ (List.mem_of_getElem? (i := 21) rfl)))), rfl⟩
theorem mp_29 : Cond.selects RX7 yX7_at yX7_at ∈ h_tb := List.mem_filter.mpr ⟨List.mem_append_left _ (List.mem_of_getElem? (i := 29) rfl), rfl⟩
theorem m4_31 : Cond.methodLink RX7 114 yX7_modulo ∈ h_tb := List.mem_filter.mpr ⟨List.mem_append_right _ (List.mem_append_right _ (List.mem_append_right _ (List.mem_append_right _ (List.mem_of_getElem? (i := 31) rfl)))), rfl⟩
theorem m4_33 : Cond.code yX7_modulo cX7_modulo 4 (some .int) ∈ h_tb := List.mem_filter.mpr ⟨List.mem_append_right _ (List.mem_append_right _ (List.mem_append_right _ (List.mem_append_right _ (List.mem_of_getElem? (i := 33) rfl)))), rfl⟩
theorem m4_32 : Cond.static yX7_modulo ∈ h_tb := List.mem_filter.mpr ⟨List.mem_append_right _ (List.mem_append_right _ (List.mem_append_right _ (List.mem_append_right _ (List.mem_of_getElem? (i := 32) rfl)))), rfl⟩
theorem m4_23 : Cond.methodLink RX7 118 yX7_betweenHeights ∈ h_tb := List.mem_filter.mpr ⟨List.mem_append_right _ (List.mem_append_right _ (List.mem_append_right _ (List.mem_append_right _ (List.mem_of_getElem? (i := 23) rfl)))), rfl⟩
theorem m4_26 : Cond.code yX7_betweenHeights cX7_betweenHeights 4 (some .int) ∈ h_tb := List.mem_filter.mpr ⟨List.mem_append_right _ (List.mem_append_right _ (List.mem_append_right _ (List.mem_append_right _ (List.mem_of_getElem? (i := 26) rfl)))), rfl⟩
theorem m4_25 : Cond.instanceMethod yX7_betweenHeights ∈ h_tb := List.mem_filter.mpr ⟨List.mem_append_right _ (List.mem_append_right _ (List.mem_append_right _ (List.mem_append_right _ (List.mem_of_getElem? (i := 25) rfl)))), rfl⟩
theorem mp_30 : Cond.selects RX7 yX7_betweenHeights yX7_betweenHeights ∈ h_tb := List.mem_filter.mpr ⟨List.mem_append_left _ (List.mem_of_getElem? (i := 30) rfl), rfl⟩
theorem m4_27 : Cond.methodLink RX7 143 yX7_isLeading ∈ h_tb := List.mem_filter.mpr ⟨List.mem_append_right _ (List.mem_append_right _ (List.mem_append_right _ (List.mem_append_right _ (List.mem_of_getElem? (i := 27) rfl)))), rfl⟩
theorem m4_30 : Cond.code yX7_isLeading cX7_isLeading 4 (some .boolean) ∈ h_tb := List.mem_filter.mpr ⟨List.mem_append_right _ (List.mem_append_right _ (List.mem_append_right _ (List.mem_append_right _ (List.mem_of_getElem? (i := 30) rfl)))), rfl⟩
theorem m4_29 : Cond.instanceMethod yX7_isLeading ∈ h_tb := List.mem_filter.mpr ⟨List.mem_append_right _ (List.mem_append_right _ (List.mem_append_right _ (List.mem_append_right _ (List.mem_of_getElem? (i := 29) rfl)))), rfl⟩
theorem mp_31 : Cond.selects RX7 yX7_isLeading yX7_isLeading ∈ h_tb := List.mem_filter.mpr ⟨List.mem_append_left _ (List.mem_of_getElem? (i := 31) rfl), rfl⟩
theorem m4_50 : Cond.methodLink RX7 121 yX7_goes ∈ h_tb := List.mem_filter.mpr ⟨List.mem_append_right _ (List.mem_append_right _ (List.mem_append_right _ (List.mem_append_right _ (List.mem_of_getElem? (i := 50) rfl)))), rfl⟩
theorem m4_53 : Cond.code yX7_goes cX7_goes 4 (some .boolean) ∈ h_tb := List.mem_filter.mpr ⟨List.mem_append_right _ (List.mem_append_right _ (List.mem_append_right _ (List.mem_append_right _ (List.mem_of_getElem? (i := 53) rfl)))), rfl⟩
theorem m4_52 : Cond.instanceMethod yX7_goes ∈ h_tb := List.mem_filter.mpr ⟨List.mem_append_right _ (List.mem_append_right _ (List.mem_append_right _ (List.mem_append_right _ (List.mem_of_getElem? (i := 52) rfl)))), rfl⟩
theorem mp_36 : Cond.selects RX7 yX7_goes yX7_goes ∈ h_tb := List.mem_filter.mpr ⟨List.mem_append_left _ (List.mem_of_getElem? (i := 36) rfl), rfl⟩
theorem m4_46 : Cond.methodLink RX7 124 yX7_moves ∈ h_tb := List.mem_filter.mpr ⟨List.mem_append_right _ (List.mem_append_right _ (List.mem_append_right _ (List.mem_append_right _ (List.mem_of_getElem? (i := 46) rfl)))), rfl⟩
theorem m4_49 : Cond.code yX7_moves cX7_moves 4 (some .boolean) ∈ h_tb := List.mem_filter.mpr ⟨List.mem_append_right _ (List.mem_append_right _ (List.mem_append_right _ (List.mem_append_right _ (List.mem_of_getElem? (i := 49) rfl)))), rfl⟩
theorem m4_48 : Cond.instanceMethod yX7_moves ∈ h_tb := List.mem_filter.mpr ⟨List.mem_append_right _ (List.mem_append_right _ (List.mem_append_right _ (List.mem_append_right _ (List.mem_of_getElem? (i := 48) rfl)))), rfl⟩
theorem mp_35 : Cond.selects RX7 yX7_moves yX7_moves ∈ h_tb := List.mem_filter.mpr ⟨List.mem_append_left _ (List.mem_of_getElem? (i := 35) rfl), rfl⟩
theorem m4_42 : Cond.methodLink RX7 127 yX7_way ∈ h_tb := List.mem_filter.mpr ⟨List.mem_append_right _ (List.mem_append_right _ (List.mem_append_right _ (List.mem_append_right _ (List.mem_of_getElem? (i := 42) rfl)))), rfl⟩
theorem m4_45 : Cond.code yX7_way cX7_way 5 (some .int) ∈ h_tb := List.mem_filter.mpr ⟨List.mem_append_right _ (List.mem_append_right _ (List.mem_append_right _ (List.mem_append_right _ (List.mem_of_getElem? (i := 45) rfl)))), rfl⟩
theorem m4_44 : Cond.instanceMethod yX7_way ∈ h_tb := List.mem_filter.mpr ⟨List.mem_append_right _ (List.mem_append_right _ (List.mem_append_right _ (List.mem_append_right _ (List.mem_of_getElem? (i := 44) rfl)))), rfl⟩
theorem mp_34 : Cond.selects RX7 yX7_way yX7_way ∈ h_tb := List.mem_filter.mpr ⟨List.mem_append_left _ (List.mem_of_getElem? (i := 34) rfl), rfl⟩
theorem m4_38 : Cond.methodLink RX7 130 yX7_goAlike ∈ h_tb := List.mem_filter.mpr ⟨List.mem_append_right _ (List.mem_append_right _ (List.mem_append_right _ (List.mem_append_right _ (List.mem_of_getElem? (i := 38) rfl)))), rfl⟩
theorem m4_41 : Cond.code yX7_goAlike cX7_goAlike 5 (some .boolean) ∈ h_tb := List.mem_filter.mpr ⟨List.mem_append_right _ (List.mem_append_right _ (List.mem_append_right _ (List.mem_append_right _ (List.mem_of_getElem? (i := 41) rfl)))), rfl⟩
theorem m4_40 : Cond.instanceMethod yX7_goAlike ∈ h_tb := List.mem_filter.mpr ⟨List.mem_append_right _ (List.mem_append_right _ (List.mem_append_right _ (List.mem_append_right _ (List.mem_of_getElem? (i := 40) rfl)))), rfl⟩
theorem mp_33 : Cond.selects RX7 yX7_goAlike yX7_goAlike ∈ h_tb := List.mem_filter.mpr ⟨List.mem_append_left _ (List.mem_of_getElem? (i := 33) rfl), rfl⟩
theorem m4_54 : Cond.methodLink RX7 134 yX7_which ∈ h_tb := List.mem_filter.mpr ⟨List.mem_append_right _ (List.mem_append_right _ (List.mem_append_right _ (List.mem_append_right _ (List.mem_of_getElem? (i := 54) rfl)))), rfl⟩
theorem m4_57 : Cond.code yX7_which cX7_which 6 (some .int) ∈ h_tb := List.mem_filter.mpr ⟨List.mem_append_right _ (List.mem_append_right _ (List.mem_append_right _ (List.mem_append_right _ (List.mem_of_getElem? (i := 57) rfl)))), rfl⟩
theorem m4_56 : Cond.instanceMethod yX7_which ∈ h_tb := List.mem_filter.mpr ⟨List.mem_append_right _ (List.mem_append_right _ (List.mem_append_right _ (List.mem_append_right _ (List.mem_of_getElem? (i := 56) rfl)))), rfl⟩
theorem mp_37 : Cond.selects RX7 yX7_which yX7_which ∈ h_tb := List.mem_filter.mpr ⟨List.mem_append_left _ (List.mem_of_getElem? (i := 37) rfl), rfl⟩
theorem m4_58 : Cond.methodLink RX7 137 yX7_isPure ∈ h_tb := List.mem_filter.mpr ⟨List.mem_append_right _ (List.mem_append_right _ (List.mem_append_right _ (List.mem_append_right _ (List.mem_of_getElem? (i := 58) rfl)))), rfl⟩
theorem m4_61 : Cond.code yX7_isPure cX7_isPure 2 (some .boolean) ∈ h_tb := List.mem_filter.mpr ⟨List.mem_append_right _ (List.mem_append_right _ (List.mem_append_right _ (List.mem_append_right _ (List.mem_of_getElem? (i := 61) rfl)))), rfl⟩
theorem m4_60 : Cond.instanceMethod yX7_isPure ∈ h_tb := List.mem_filter.mpr ⟨List.mem_append_right _ (List.mem_append_right _ (List.mem_append_right _ (List.mem_append_right _ (List.mem_of_getElem? (i := 60) rfl)))), rfl⟩
theorem mp_38 : Cond.selects RX7 yX7_isPure yX7_isPure ∈ h_tb := List.mem_filter.mpr ⟨List.mem_append_left _ (List.mem_of_getElem? (i := 38) rfl), rfl⟩
theorem m4_62 : Cond.methodLink RX7 140 yX7_leaps ∈ h_tb := List.mem_filter.mpr ⟨List.mem_append_right _ (List.mem_append_right _ (List.mem_append_right _ (List.mem_append_right _ (List.mem_of_getElem? (i := 62) rfl)))), rfl⟩
theorem m4_65 : Cond.code yX7_leaps cX7_leaps 9 (some .boolean) ∈ h_tb := List.mem_filter.mpr ⟨List.mem_append_right _ (List.mem_append_right _ (List.mem_append_right _ (List.mem_append_right _ (List.mem_of_getElem? (i := 65) rfl)))), rfl⟩
theorem m4_64 : Cond.instanceMethod yX7_leaps ∈ h_tb := List.mem_filter.mpr ⟨List.mem_append_right _ (List.mem_append_right _ (List.mem_append_right _ (List.mem_append_right _ (List.mem_of_getElem? (i := 64) rfl)))), rfl⟩
theorem mp_39 : Cond.selects RX7 yX7_leaps yX7_leaps ∈ h_tb := List.mem_filter.mpr ⟨List.mem_append_left _ (List.mem_of_getElem? (i := 39) rfl), rfl⟩
theorem m4_66 : Cond.methodLink RX7 146 yX7_crosses ∈ h_tb := List.mem_filter.mpr ⟨List.mem_append_right _ (List.mem_append_right _ (List.mem_append_right _ (List.mem_append_right _ (List.mem_of_getElem? (i := 66) rfl)))), rfl⟩
theorem m4_69 : Cond.code yX7_crosses cX7_crosses 8 (some .boolean) ∈ h_tb := List.mem_filter.mpr ⟨List.mem_append_right _ (List.mem_append_right _ (List.mem_append_right _ (List.mem_append_right _ (List.mem_of_getElem? (i := 69) rfl)))), rfl⟩
theorem m4_68 : Cond.instanceMethod yX7_crosses ∈ h_tb := List.mem_filter.mpr ⟨List.mem_append_right _ (List.mem_append_right _ (List.mem_append_right _ (List.mem_append_right _ (List.mem_of_getElem? (i := 68) rfl)))), rfl⟩
theorem mp_40 : Cond.selects RX7 yX7_crosses yX7_crosses ∈ h_tb := List.mem_filter.mpr ⟨List.mem_append_left _ (List.mem_of_getElem? (i := 40) rfl), rfl⟩
theorem m4_12 : Cond.methodLink RX7 149 yX7_isOfMoments ∈ h_tb := List.mem_filter.mpr ⟨List.mem_append_right _ (List.mem_append_right _ (List.mem_append_right _ (List.mem_append_right _ (List.mem_of_getElem? (i := 12) rfl)))), rfl⟩
theorem m4_14 : Cond.code yX7_isOfMoments cX7_isOfMoments 1 (some .boolean) ∈ h_tb := List.mem_filter.mpr ⟨List.mem_append_right _ (List.mem_append_right _ (List.mem_append_right _ (List.mem_append_right _ (List.mem_of_getElem? (i := 14) rfl)))), rfl⟩
theorem m4_13 : Cond.static yX7_isOfMoments ∈ h_tb := List.mem_filter.mpr ⟨List.mem_append_right _ (List.mem_append_right _ (List.mem_append_right _ (List.mem_append_right _ (List.mem_of_getElem? (i := 13) rfl)))), rfl⟩
theorem m4_34 : Cond.methodLink RX7 155 yX7_isPairBroken ∈ h_tb := List.mem_filter.mpr ⟨List.mem_append_right _ (List.mem_append_right _ (List.mem_append_right _ (List.mem_append_right _ (List.mem_of_getElem? (i := 34) rfl)))), rfl⟩
theorem m4_37 : Cond.code yX7_isPairBroken cX7_isPairBroken 7 (some .boolean) ∈ h_tb := List.mem_filter.mpr ⟨List.mem_append_right _ (List.mem_append_right _ (List.mem_append_right _ (List.mem_append_right _ (List.mem_of_getElem? (i := 37) rfl)))), rfl⟩
theorem m4_36 : Cond.instanceMethod yX7_isPairBroken ∈ h_tb := List.mem_filter.mpr ⟨List.mem_append_right _ (List.mem_append_right _ (List.mem_append_right _ (List.mem_append_right _ (List.mem_of_getElem? (i := 36) rfl)))), rfl⟩
theorem mp_32 : Cond.selects RX7 yX7_isPairBroken yX7_isPairBroken ∈ h_tb := List.mem_filter.mpr ⟨List.mem_append_left _ (List.mem_of_getElem? (i := 32) rfl), rfl⟩
theorem m4_15 : Cond.methodLink RX7 152 yX7_isBrokenAt ∈ h_tb := List.mem_filter.mpr ⟨List.mem_append_right _ (List.mem_append_right _ (List.mem_append_right _ (List.mem_append_right _ (List.mem_of_getElem? (i := 15) rfl)))), rfl⟩
theorem m4_18 : Cond.code yX7_isBrokenAt cX7_isBrokenAt 8 (some .boolean) ∈ h_tb := List.mem_filter.mpr ⟨List.mem_append_right _ (List.mem_append_right _ (List.mem_append_right _ (List.mem_append_right _ (List.mem_of_getElem? (i := 18) rfl)))), rfl⟩
theorem m4_17 : Cond.instanceMethod yX7_isBrokenAt ∈ h_tb := List.mem_filter.mpr ⟨List.mem_append_right _ (List.mem_append_right _ (List.mem_append_right _ (List.mem_append_right _ (List.mem_of_getElem? (i := 17) rfl)))), rfl⟩
theorem mp_28 : Cond.selects RX7 yX7_isBrokenAt yX7_isBrokenAt ∈ h_tb := List.mem_filter.mpr ⟨List.mem_append_left _ (List.mem_of_getElem? (i := 28) rfl), rfl⟩
theorem m4_4 : Cond.methodLink RX7 159 yX7_isAbout ∈ h_tb := List.mem_filter.mpr ⟨List.mem_append_right _ (List.mem_append_right _ (List.mem_append_right _ (List.mem_append_right _ (List.mem_of_getElem? (i := 4) rfl)))), rfl⟩
theorem m4_7 : Cond.code yX7_isAbout cX7_isAbout 4 (some .boolean) ∈ h_tb := List.mem_filter.mpr ⟨List.mem_append_right _ (List.mem_append_right _ (List.mem_append_right _ (List.mem_append_right _ (List.mem_of_getElem? (i := 7) rfl)))), rfl⟩
theorem m4_6 : Cond.instanceMethod yX7_isAbout ∈ h_tb := List.mem_filter.mpr ⟨List.mem_append_right _ (List.mem_append_right _ (List.mem_append_right _ (List.mem_append_right _ (List.mem_of_getElem? (i := 6) rfl)))), rfl⟩
theorem mp_26 : Cond.selects RX7 yX7_isAbout yX7_isAbout ∈ h_tb := List.mem_filter.mpr ⟨List.mem_append_left _ (List.mem_of_getElem? (i := 26) rfl), rfl⟩
theorem m4_8 : Cond.methodLink RX7 162 yX7_isBroken ∈ h_tb := List.mem_filter.mpr ⟨List.mem_append_right _ (List.mem_append_right _ (List.mem_append_right _ (List.mem_append_right _ (List.mem_of_getElem? (i := 8) rfl)))), rfl⟩
theorem m4_11 : Cond.code yX7_isBroken cX7_isBroken 9 (some .boolean) ∈ h_tb := List.mem_filter.mpr ⟨List.mem_append_right _ (List.mem_append_right _ (List.mem_append_right _ (List.mem_append_right _ (List.mem_of_getElem? (i := 11) rfl)))), rfl⟩
theorem m4_10 : Cond.instanceMethod yX7_isBroken ∈ h_tb := List.mem_filter.mpr ⟨List.mem_append_right _ (List.mem_append_right _ (List.mem_append_right _ (List.mem_append_right _ (List.mem_of_getElem? (i := 10) rfl)))), rfl⟩
theorem mp_27 : Cond.selects RX7 yX7_isBroken yX7_isBroken ∈ h_tb := List.mem_filter.mpr ⟨List.mem_append_left _ (List.mem_of_getElem? (i := 27) rfl), rfl⟩
theorem LX0 : hp_L 0 RX0 TX0 4 tyX0 := ⟨rfl, by decide, inX0, tyX0_ok, nmX0⟩
theorem LX1 : hp_L 1 RX1 TX1 3 tyX1 := ⟨rfl, by decide, inX1, tyX1_ok, nmX1⟩
theorem LX2 : hp_L 2 RX2 TX2 6 tyX2 := ⟨rfl, by decide, inX2, tyX2_ok, nmX2⟩
theorem LX3 : hp_L 3 RX3 TX3 8 tyX3 := ⟨rfl, by decide, inX3, tyX3_ok, nmX3⟩
theorem LX4 : hp_L 4 RX4 TX4 6 tyX4 := ⟨rfl, by decide, inX4, tyX4_ok, nmX4⟩
theorem LX5 : hp_L 5 RX5 TX5 3 tyX5 := ⟨rfl, by decide, inX5, tyX5_ok, nmX5⟩
theorem LX6 : hp_L 6 RX6 TX6 9 tyX6 := ⟨rfl, by decide, inX6, tyX6_ok, nmX6⟩
theorem LX7 : hp_L 7 RX7 TX7 23 tyX7 := ⟨rfl, by decide, inX7, tyX7_ok, nmX7⟩
theorem fX4_9 : hp_F RX4 9 0 TX4 6 := ⟨by decide, m1_34⟩
theorem fX4_15 : hp_F RX4 15 1 TX4 6 := ⟨by decide, m1_37⟩
theorem fX4_18 : hp_F RX4 18 2 TX4 6 := ⟨by decide, m1_40⟩
theorem fX4_21 : hp_F RX4 21 4 TX4 6 := ⟨by decide, m1_46⟩
theorem fX4_25 : hp_F RX4 25 5 TX4 6 := ⟨by decide, m1_48⟩
theorem fX5_9 : hp_F RX5 9 0 TX5 3 := ⟨by decide, m1_70⟩
theorem fX5_15 : hp_F RX5 15 2 TX5 3 := ⟨by decide, m1_78⟩
theorem fX1_15 : hp_F RX1 15 0 TX1 3 := ⟨by decide, m1_93⟩
theorem fX1_21 : hp_F RX1 21 1 TX1 3 := ⟨by decide, m1_95⟩
theorem fX2_9 : hp_F RX2 9 0 TX2 6 := ⟨by decide, m1_118⟩
theorem fX2_15 : hp_F RX2 15 1 TX2 6 := ⟨by decide, m1_119⟩
theorem fX2_18 : hp_F RX2 18 3 TX2 6 := ⟨by decide, m1_121⟩
theorem fX0_9 : hp_F RX0 9 0 TX0 4 := ⟨by decide, m1_146⟩
theorem fX0_15 : hp_F RX0 15 1 TX0 4 := ⟨by decide, m1_149⟩
theorem fX0_19 : hp_F RX0 19 2 TX0 4 := ⟨by decide, m1_151⟩
theorem fX0_22 : hp_F RX0 22 3 TX0 4 := ⟨by decide, m1_153⟩
theorem kX3_11 : hp_kB RX3 11 yX2_init cX2_init 1 none 0 := ⟨⟨m1_116, m1_7, Or.inl m1_114⟩, by decide +kernel, by decide +kernel, by decide +kernel⟩
theorem fX3_12 : hp_F RX3 12 0 TX3 8 := ⟨by decide, m1_166⟩
theorem kX3_20 : hp_kB RX3 20 yX0_init cX0_init 1 none 0 := ⟨⟨m1_144, m1_8, Or.inl m1_142⟩, by decide +kernel, by decide +kernel, by decide +kernel⟩
theorem fX3_21 : hp_F RX3 21 1 TX3 8 := ⟨by decide, m1_168⟩
theorem fX3_25 : hp_F RX3 25 2 TX3 8 := ⟨by decide, m1_169⟩
theorem fX6_20 : hp_F RX6 20 0 TX6 9 := ⟨by decide, m1_196⟩
theorem kX6_27 : hp_kB RX6 27 yX5_init cX5_init 1 none 0 := ⟨⟨m1_68, m1_4, Or.inl m1_66⟩, by decide +kernel, by decide +kernel, by decide +kernel⟩
theorem fX6_28 : hp_F RX6 28 1 TX6 9 := ⟨by decide, m1_197⟩
theorem kX6_34 : hp_kB RX6 34 yX1_init cX1_init 3 none 1 := ⟨⟨m1_90, m1_5, Or.inl m1_88⟩, by decide +kernel, by decide +kernel, by decide +kernel⟩
theorem fX6_37 : hp_F RX6 37 2 TX6 9 := ⟨by decide, m1_198⟩
theorem fX6_41 : hp_F RX6 41 3 TX6 9 := ⟨by decide, m1_199⟩
theorem kX6_46 : hp_kB RX6 46 yX3_init cX3_init 1 none 0 := ⟨⟨m1_110, m1_6, Or.inl m1_108⟩, by decide +kernel, by decide +kernel, by decide +kernel⟩
theorem fX6_47 : hp_F RX6 47 4 TX6 9 := ⟨by decide, m1_200⟩
theorem kX6_53 : hp_kB RX6 53 yX0_init cX0_init 1 none 0 := ⟨⟨m1_144, m1_8, Or.inl m1_193⟩, by decide +kernel, by decide +kernel, by decide +kernel⟩
theorem fX6_54 : hp_F RX6 54 5 TX6 9 := ⟨by decide, m1_201⟩
theorem fX6_62 : hp_F RX6 62 6 TX6 9 := ⟨by decide, m1_202⟩
theorem kX6_24 : hp_kB RX6 24 yX4_init cX4_init 1 none 0 := ⟨⟨m1_32, m1_3, Or.inl m1_30⟩, by decide +kernel, by decide +kernel, by decide +kernel⟩
theorem fX4_28 : hp_F RX4 28 3 TX4 6 := ⟨by decide, m1_43⟩
theorem kX2_21 : hp_kB RX2 21 yJ7_fill cJ7_fill 4 none 2 := ⟨⟨m1_238, m1_10, Or.inl m1_236⟩, by decide +kernel, by decide +kernel, by decide +kernel⟩
theorem fX2_27 : hp_F RX2 27 2 TX2 6 := ⟨by decide, m1_120⟩
theorem fX2_31 : hp_F RX2 31 4 TX2 6 := ⟨by decide, m1_123⟩
theorem fX2_34 : hp_F RX2 34 5 TX2 6 := ⟨by decide, m1_125⟩
theorem fX5_18 : hp_F RX5 18 1 TX5 3 := ⟨by decide, m1_74⟩
theorem kX5_30 : hp_kB RX5 30 yX4_lastTime cX4_lastTime 1 (some .int) 0 := ⟨⟨m2_10, m1_3, Or.inl m2_7⟩, by decide +kernel, by decide +kernel, by decide +kernel⟩
theorem fX5_55 : hp_F RX5 55 3 TX4 6 := ⟨by decide, m1_45⟩
theorem fX5_56 : hp_F RX5 56 0 TX4 6 := ⟨by decide, m1_35⟩
theorem kX5_42 : hp_kB RX5 42 yJ7_fill cJ7_fill 4 none 2 := ⟨⟨m1_238, m1_10, Or.inl m2_16⟩, by decide +kernel, by decide +kernel, by decide +kernel⟩
theorem kX5_48 : hp_kB RX5 48 yX5_earliestHead cX5_earliestHead 4 (some .int) 1 := ⟨⟨m2_20, m1_4, Or.inl m2_17⟩, by decide +kernel, by decide +kernel, by decide +kernel⟩
theorem kX5_52 : hp_kB RX5 52 yX5_passHeads cX5_passHeads 5 none 2 := ⟨⟨m2_25, m1_4, Or.inl m2_22⟩, by decide +kernel, by decide +kernel, by decide +kernel⟩
theorem kX5_26 : hp_kB RX5 26 yX5_gatherEvents cX5_gatherEvents 3 none 1 := ⟨⟨m2_15, m1_4, Or.inl m2_12⟩, by decide +kernel, by decide +kernel, by decide +kernel⟩
theorem kX5_22 : hp_kB RX5 22 yX5_gatherGrid cX5_gatherGrid 5 none 2 := ⟨⟨m2_6, m1_4, Or.inl m2_3⟩, by decide +kernel, by decide +kernel, by decide +kernel⟩
theorem fX6_72 : hp_F RX6 72 2 TX1 3 := ⟨by decide, m1_98⟩
theorem fX6_73 : hp_F RX6 73 0 TX3 8 := ⟨by decide, m1_167⟩
theorem kX6_77 : hp_kB RX6 77 yX2_reset cX2_reset 1 none 0 := ⟨⟨m1_235, m1_7, Or.inl m1_232⟩, by decide +kernel, by decide +kernel, by decide +kernel⟩
theorem fX6_80 : hp_F RX6 80 7 TX6 9 := ⟨by decide, m1_203⟩
theorem fX6_83 : hp_F RX6 83 8 TX6 9 := ⟨by decide, m1_204⟩
theorem kX6_86 : hp_kB RX6 86 yX5_gather cX5_gather 3 none 2 := ⟨⟨m2_2, m1_4, Or.inl m1_239⟩, by decide +kernel, by decide +kernel, by decide +kernel⟩
theorem fX6_66 : hp_F RX6 66 3 TX4 6 := ⟨by decide, m1_44⟩
theorem kX6_69 : hp_kB RX6 69 yX4_reset cX4_reset 1 none 0 := ⟨⟨m1_231, m1_3, Or.inl m1_228⟩, by decide +kernel, by decide +kernel, by decide +kernel⟩
theorem kX6_97 : hp_kB RX6 97 yX6_within cX6_within 3 (some .boolean) 3 := ⟨⟨m2_36, m1_1, Or.inl m2_34⟩, by decide +kernel, by decide +kernel, by decide +kernel⟩
theorem kX4_31 : hp_kB RX4 31 yX4_lastTime cX4_lastTime 1 (some .int) 0 := ⟨⟨m2_10, m1_3, Or.inl m2_48⟩, by decide +kernel, by decide +kernel, by decide +kernel⟩
theorem kX6_199 : hp_kB RX6 199 yX4_append cX4_append 4 (some .int) 3 := ⟨⟨m2_47, m1_3, Or.inl m2_44⟩, by decide +kernel, by decide +kernel, by decide +kernel⟩
theorem kX6_90 : hp_kB RX6 90 yX6_isVoice cX6_isVoice 2 (some .boolean) 1 := ⟨⟨m2_33, m1_1, Or.inl m2_30⟩, by decide +kernel, by decide +kernel, by decide +kernel⟩
theorem kX6_94 : hp_kB RX6 94 yX6_isTime cX6_isTime 1 (some .boolean) 1 := ⟨⟨m2_39, m1_1, Or.inl m2_37⟩, by decide +kernel, by decide +kernel, by decide +kernel⟩
theorem kX6_101 : hp_kB RX6 101 yX6_append cX6_append 6 (some .int) 4 := ⟨⟨m2_43, m1_1, Or.inl m2_40⟩, by decide +kernel, by decide +kernel, by decide +kernel⟩
theorem kX6_105 : hp_kB RX6 105 yX4_dropLast cX4_dropLast 1 (some .int) 0 := ⟨⟨m2_60, m1_3, Or.inl m2_57⟩, by decide +kernel, by decide +kernel, by decide +kernel⟩
theorem kX6_109 : hp_kB RX6 109 yX6_isKind cX6_isKind 1 (some .boolean) 1 := ⟨⟨m2_67, m1_1, Or.inl m2_65⟩, by decide +kernel, by decide +kernel, by decide +kernel⟩
theorem kX6_112 : hp_kB RX6 112 yJ6_bitCount cJ6_bitCount 1 (some .int) 1 := ⟨⟨m2_74, m1_11, Or.inl m2_72⟩, by decide +kernel, by decide +kernel, by decide +kernel⟩
theorem kX4_38 : hp_kB RX4 38 yX4_isNote cX4_isNote 2 (some .boolean) 1 := ⟨⟨m2_93, m1_3, Or.inl m2_90⟩, by decide +kernel, by decide +kernel, by decide +kernel⟩
theorem kX4_42 : hp_kB RX4 42 yX4_heightOf cX4_heightOf 3 (some .int) 1 := ⟨⟨m2_97, m1_3, Or.inl m2_94⟩, by decide +kernel, by decide +kernel, by decide +kernel⟩
theorem kX4_46 : hp_kB RX4 46 yX4_isOutside cX4_isOutside 2 (some .boolean) 1 := ⟨⟨m2_103, m1_3, Or.inl m2_100⟩, by decide +kernel, by decide +kernel, by decide +kernel⟩
theorem fX6_118 : hp_F RX6 118 4 TX4 6 := ⟨by decide, m1_47⟩
theorem fX6_121 : hp_F RX6 121 5 TX4 6 := ⟨by decide, m1_49⟩
theorem kX6_124 : hp_kB RX6 124 yX4_notesOutside cX4_notesOutside 3 (some .int) 0 := ⟨⟨m2_89, m1_3, Or.inl m2_86⟩, by decide +kernel, by decide +kernel, by decide +kernel⟩
theorem fX6_127 : hp_F RX6 127 1 TX5 3 := ⟨by decide, m1_77⟩
theorem fX1_24 : hp_F RX1 24 2 TX1 3 := ⟨by decide, m1_97⟩
theorem kX6_128 : hp_kB RX6 128 yX1_append cX1_append 3 (some .int) 2 := ⟨⟨m2_115, m1_5, Or.inl m2_112⟩, by decide +kernel, by decide +kernel, by decide +kernel⟩
theorem kX6_130 : hp_kB RX6 130 yX1_holds cX1_holds 4 (some .boolean) 2 := ⟨⟨m2_123, m1_5, Or.inl m2_120⟩, by decide +kernel, by decide +kernel, by decide +kernel⟩
theorem fX3_28 : hp_F RX3 28 5 TX3 8 := ⟨by decide, m1_172⟩
theorem kX3_32 : hp_kB RX3 32 yJ9_floorMod cJ9_floorMod 3 (some .int) 2 := ⟨⟨m2_134, m1_2, Or.inl m2_132⟩, by decide +kernel, by decide +kernel, by decide +kernel⟩
theorem fX3_38 : hp_F RX3 38 6 TX3 8 := ⟨by decide, m1_173⟩
theorem kX3_41 : hp_kB RX3 41 yX3_sharpnessInKey cX3_sharpnessInKey 3 (some .int) 2 := ⟨⟨m2_137, m1_6, Or.inl m2_135⟩, by decide +kernel, by decide +kernel, by decide +kernel⟩
theorem fX3_44 : hp_F RX3 44 7 TX3 8 := ⟨by decide, m1_174⟩
theorem kX2_37 : hp_kB RX2 37 yX2_reset cX2_reset 1 none 0 := ⟨⟨m1_235, m1_7, Or.inl m2_150⟩, by decide +kernel, by decide +kernel, by decide +kernel⟩
theorem fX2_40 : hp_F RX2 40 1 TX5 3 := ⟨by decide, m1_75⟩
theorem fX2_45 : hp_F RX2 45 0 TX5 3 := ⟨by decide, m1_71⟩
theorem kX0_25 : hp_kB RX0 25 yX4_lastNotLater cX4_lastNotLater 5 (some .int) 1 := ⟨⟨m2_165, m1_3, Or.inl m2_162⟩, by decide +kernel, by decide +kernel, by decide +kernel⟩
theorem fX0_35 : hp_F RX0 35 1 TX4 6 := ⟨by decide, m1_38⟩
theorem fX0_36 : hp_F RX0 36 2 TX4 6 := ⟨by decide, m1_41⟩
theorem kX0_37 : hp_kB RX0 37 yX4_heightOf cX4_heightOf 3 (some .int) 1 := ⟨⟨m2_97, m1_3, Or.inl m2_167⟩, by decide +kernel, by decide +kernel, by decide +kernel⟩
theorem kX0_31 : hp_kB RX0 31 yX4_isNote cX4_isNote 2 (some .boolean) 1 := ⟨⟨m2_93, m1_3, Or.inl m2_166⟩, by decide +kernel, by decide +kernel, by decide +kernel⟩
theorem fX3_93 : hp_F RX3 93 0 TX0 4 := ⟨by decide, m1_147⟩
theorem kX3_97 : hp_kB RX3 97 yX3_goes cX3_goes 2 (some .boolean) 1 := ⟨⟨m2_175, m1_6, Or.inl m2_172⟩, by decide +kernel, by decide +kernel, by decide +kernel⟩
theorem fX3_142 : hp_F RX3 142 1 TX0 4 := ⟨by decide, m1_150⟩
theorem fX3_169 : hp_F RX3 169 2 TX0 4 := ⟨by decide, m1_152⟩
theorem fX3_76 : hp_F RX3 76 3 TX3 8 := ⟨by decide, m1_170⟩
theorem kX3_181 : hp_kB RX3 181 yX2_mark cX2_mark 6 none 4 := ⟨⟨m2_192, m1_7, Or.inl m2_189⟩, by decide +kernel, by decide +kernel, by decide +kernel⟩
theorem kX3_123 : hp_kB RX3 123 yX3_between cX3_between 5 none 4 := ⟨⟨m2_188, m1_6, Or.inl m2_185⟩, by decide +kernel, by decide +kernel, by decide +kernel⟩
theorem kX0_40 : hp_kB RX0 40 yX0_letter cX0_letter 2 (some .int) 1 := ⟨⟨m2_212, m1_8, Or.inl m2_209⟩, by decide +kernel, by decide +kernel, by decide +kernel⟩
theorem kX3_172 : hp_kB RX3 172 yX0_isNoteOf cX0_isNoteOf 4 (some .boolean) 3 := ⟨⟨m2_208, m1_8, Or.inl m2_205⟩, by decide +kernel, by decide +kernel, by decide +kernel⟩
theorem kX3_120 : hp_kB RX3 120 yX0_heightUp cX0_heightUp 3 (some .int) 2 := ⟨⟨m2_200, m1_8, Or.inl m2_197⟩, by decide +kernel, by decide +kernel, by decide +kernel⟩
theorem kX3_127 : hp_kB RX3 127 yX3_leads cX3_leads 3 (some .boolean) 2 := ⟨⟨m2_204, m1_6, Or.inl m2_201⟩, by decide +kernel, by decide +kernel, by decide +kernel⟩
theorem fX3_58 : hp_F RX3 58 4 TX3 8 := ⟨by decide, m1_171⟩
theorem kX3_112 : hp_kB RX3 112 yX3_alone cX3_alone 4 none 3 := ⟨⟨m2_184, m1_6, Or.inl m2_181⟩, by decide +kernel, by decide +kernel, by decide +kernel⟩
theorem kX3_116 : hp_kB RX3 116 yX3_lookAtInterval cX3_lookAtInterval 4 none 2 := ⟨⟨m2_196, m1_6, Or.inl m2_193⟩, by decide +kernel, by decide +kernel, by decide +kernel⟩
theorem fX3_104 : hp_F RX3 104 3 TX0 4 := ⟨by decide, m1_154⟩
theorem kX3_107 : hp_kB RX3 107 yX4_isOutside cX4_isOutside 2 (some .boolean) 1 := ⟨⟨m2_103, m1_3, Or.inl m2_180⟩, by decide +kernel, by decide +kernel, by decide +kernel⟩
theorem kX3_101 : hp_kB RX3 101 yX3_moves cX3_moves 2 (some .boolean) 1 := ⟨⟨m2_179, m1_6, Or.inl m2_176⟩, by decide +kernel, by decide +kernel, by decide +kernel⟩
theorem kX3_145 : hp_kB RX3 145 yX3_isLeap cX3_isLeap 4 (some .boolean) 2 := ⟨⟨m2_223, m1_6, Or.inl m2_221⟩, by decide +kernel, by decide +kernel, by decide +kernel⟩
theorem kX3_148 : hp_kB RX3 148 yX0_stepsUp cX0_stepsUp 3 (some .int) 2 := ⟨⟨m2_231, m1_8, Or.inl m2_228⟩, by decide +kernel, by decide +kernel, by decide +kernel⟩
theorem kX3_176 : hp_kB RX3 176 yJ6_compare cJ6_compare 2 (some .int) 2 := ⟨⟨m3_2, m1_11, Or.inl m3_0⟩, by decide +kernel, by decide +kernel, by decide +kernel⟩
theorem kX0_43 : hp_kB RX0 43 yX0_stepsUp cX0_stepsUp 3 (some .int) 2 := ⟨⟨m2_231, m1_8, Or.inl m3_7⟩, by decide +kernel, by decide +kernel, by decide +kernel⟩
theorem kX0_47 : hp_kB RX0 47 yJ9_floorMod cJ9_floorMod 3 (some .int) 2 := ⟨⟨m2_134, m1_2, Or.inl m3_8⟩, by decide +kernel, by decide +kernel, by decide +kernel⟩
theorem kX0_52 : hp_kB RX0 52 yX0_heightUp cX0_heightUp 3 (some .int) 2 := ⟨⟨m2_200, m1_8, Or.inl m3_9⟩, by decide +kernel, by decide +kernel, by decide +kernel⟩
theorem kX3_157 : hp_kB RX3 157 yX3_way cX3_way 2 (some .int) 1 := ⟨⟨m2_239, m1_6, Or.inl m2_236⟩, by decide +kernel, by decide +kernel, by decide +kernel⟩
theorem kX3_160 : hp_kB RX3 160 yX0_quality cX0_quality 5 (some .int) 2 := ⟨⟨m3_6, m1_8, Or.inl m3_3⟩, by decide +kernel, by decide +kernel, by decide +kernel⟩
theorem kX3_166 : hp_kB RX3 166 yX0_letter cX0_letter 2 (some .int) 1 := ⟨⟨m2_212, m1_8, Or.inl m3_19⟩, by decide +kernel, by decide +kernel, by decide +kernel⟩
theorem kX3_138 : hp_kB RX3 138 yX3_isCrossRelation cX3_isCrossRelation 3 (some .boolean) 2 := ⟨⟨m3_18, m1_6, Or.inl m3_15⟩, by decide +kernel, by decide +kernel, by decide +kernel⟩
theorem kX3_135 : hp_kB RX3 135 yX3_lookAtTwo cX3_lookAtTwo 9 none 2 := ⟨⟨m2_235, m1_6, Or.inl m2_232⟩, by decide +kernel, by decide +kernel, by decide +kernel⟩
theorem kX3_131 : hp_kB RX3 131 yX3_lookAtMove cX3_lookAtMove 5 none 1 := ⟨⟨m2_220, m1_6, Or.inl m2_217⟩, by decide +kernel, by decide +kernel, by decide +kernel⟩
theorem kX3_54 : hp_kB RX3 54 yX2_begin cX2_begin 2 none 1 := ⟨⟨m2_149, m1_7, Or.inl m2_146⟩, by decide +kernel, by decide +kernel, by decide +kernel⟩
theorem kX3_61 : hp_kB RX3 61 yX0_hush cX0_hush 2 none 0 := ⟨⟨m2_157, m1_8, Or.inl m2_154⟩, by decide +kernel, by decide +kernel, by decide +kernel⟩
theorem fX3_64 : hp_F RX3 64 1 TX5 3 := ⟨by decide, m1_76⟩
theorem fX3_69 : hp_F RX3 69 0 TX5 3 := ⟨by decide, m1_72⟩
theorem kX3_72 : hp_kB RX3 72 yX0_load cX0_load 6 none 2 := ⟨⟨m2_161, m1_8, Or.inl m2_158⟩, by decide +kernel, by decide +kernel, by decide +kernel⟩
theorem kX3_79 : hp_kB RX3 79 yX3_lookAtMoment cX3_lookAtMoment 5 none 1 := ⟨⟨m2_171, m1_6, Or.inl m2_168⟩, by decide +kernel, by decide +kernel, by decide +kernel⟩
theorem kX3_83 : hp_kB RX3 83 yX3_lookAtPair cX3_lookAtPair 3 none 0 := ⟨⟨m2_216, m1_6, Or.inl m2_213⟩, by decide +kernel, by decide +kernel, by decide +kernel⟩
theorem kX3_86 : hp_kB RX3 86 yX5_firstFrom cX5_firstFrom 3 (some .int) 1 := ⟨⟨m3_27, m1_4, Or.inl m3_24⟩, by decide +kernel, by decide +kernel, by decide +kernel⟩
theorem kX3_90 : hp_kB RX3 90 yX5_lastBefore cX5_lastBefore 3 (some .int) 1 := ⟨⟨m3_31, m1_4, Or.inl m3_28⟩, by decide +kernel, by decide +kernel, by decide +kernel⟩
theorem kX2_52 : hp_kB RX2 52 yJ6_bitCount cJ6_bitCount 1 (some .int) 1 := ⟨⟨m2_74, m1_11, Or.inl m3_36⟩, by decide +kernel, by decide +kernel, by decide +kernel⟩
theorem kX6_134 : hp_kB RX6 134 yX3_begin cX3_begin 3 none 2 := ⟨⟨m2_131, m1_6, Or.inl m2_128⟩, by decide +kernel, by decide +kernel, by decide +kernel⟩
theorem kX6_138 : hp_kB RX6 138 yX3_walk cX3_walk 5 none 2 := ⟨⟨m2_145, m1_6, Or.inl m2_142⟩, by decide +kernel, by decide +kernel, by decide +kernel⟩
theorem kX6_155 : hp_kB RX6 155 yX2_sum cX2_sum 3 (some .int) 0 := ⟨⟨m3_40, m1_7, Or.inl m3_37⟩, by decide +kernel, by decide +kernel, by decide +kernel⟩
theorem fX6_142 : hp_F RX6 142 0 TX1 3 := ⟨by decide, m1_94⟩
theorem fX6_145 : hp_F RX6 145 1 TX1 3 := ⟨by decide, m1_96⟩
theorem kX6_152 : hp_kB RX6 152 yX2_leaveOut cX2_leaveOut 5 none 2 := ⟨⟨m3_35, m1_7, Or.inl m3_32⟩, by decide +kernel, by decide +kernel, by decide +kernel⟩
theorem kX6_148 : hp_kB RX6 148 yX3_goBack cX3_goBack 7 none 4 := ⟨⟨m3_23, m1_6, Or.inl m3_20⟩, by decide +kernel, by decide +kernel, by decide +kernel⟩
theorem kX2_62 : hp_kB RX2 62 yX2_bitAfter cX2_bitAfter 4 (some .int) 2 := ⟨⟨m3_55, m1_7, Or.inl m3_53⟩, by decide +kernel, by decide +kernel, by decide +kernel⟩
theorem kX2_58 : hp_kB RX2 58 yX2_tellOfCell cX2_tellOfCell 7 (some .int) 3 := ⟨⟨m3_52, m1_7, Or.inl m3_49⟩, by decide +kernel, by decide +kernel, by decide +kernel⟩
theorem fX6_158 : hp_F RX6 158 4 TX2 6 := ⟨by decide, m1_124⟩
theorem kX6_161 : hp_kB RX6 161 yX2_tell cX2_tell 6 (some .int) 2 := ⟨⟨m3_48, m1_7, Or.inl m3_45⟩, by decide +kernel, by decide +kernel, by decide +kernel⟩
theorem fX6_167 : hp_F RX6 167 5 TX2 6 := ⟨by decide, m1_126⟩
theorem fX6_164 : hp_F RX6 164 3 TX2 6 := ⟨by decide, m1_122⟩
theorem kX6_170 : hp_kB RX6 170 yX6_isMoment cX6_isMoment 2 (some .boolean) 1 := ⟨⟨m3_71, m1_1, Or.inl m3_68⟩, by decide +kernel, by decide +kernel, by decide +kernel⟩
theorem fX6_173 : hp_F RX6 173 0 TX5 3 := ⟨by decide, m1_73⟩
theorem kX6_176 : hp_kB RX6 176 yX0_load cX0_load 6 none 2 := ⟨⟨m2_161, m1_8, Or.inl m3_76⟩, by decide +kernel, by decide +kernel, by decide +kernel⟩
theorem fX6_179 : hp_F RX6 179 0 TX0 4 := ⟨by decide, m1_148⟩
theorem fX6_183 : hp_F RX6 183 3 TX0 4 := ⟨by decide, m1_155⟩
theorem kX6_186 : hp_kB RX6 186 yX0_quality cX0_quality 5 (some .int) 2 := ⟨⟨m3_6, m1_8, Or.inl m3_81⟩, by decide +kernel, by decide +kernel, by decide +kernel⟩
theorem kX6_193 : hp_kB RX6 193 yX4_isNote cX4_isNote 2 (some .boolean) 1 := ⟨⟨m2_93, m1_3, Or.inl m3_86⟩, by decide +kernel, by decide +kernel, by decide +kernel⟩
theorem fX6_196 : hp_F RX6 196 2 TX4 6 := ⟨by decide, m1_42⟩
theorem fX6_190 : hp_F RX6 190 1 TX4 6 := ⟨by decide, m1_39⟩
theorem fX6_189 : hp_F RX6 189 0 TX4 6 := ⟨by decide, m1_36⟩
theorem fX7_63 : hp_F RX7 63 8 TX7 23 := ⟨by decide, m3_108⟩
theorem fX7_66 : hp_F RX7 66 9 TX7 23 := ⟨by decide, m3_109⟩
theorem fX7_69 : hp_F RX7 69 10 TX7 23 := ⟨by decide, m3_110⟩
theorem fX7_72 : hp_F RX7 72 13 TX7 23 := ⟨by decide, m3_113⟩
theorem fX7_75 : hp_F RX7 75 19 TX7 23 := ⟨by decide, m3_119⟩
theorem fX7_78 : hp_F RX7 78 20 TX7 23 := ⟨by decide, m3_120⟩
theorem fX7_28 : hp_F RX7 28 7 TX7 23 := ⟨by decide, m3_107⟩
theorem fX7_7 : hp_F RX7 7 1 TX7 23 := ⟨by decide, m3_101⟩
theorem fX7_22 : hp_F RX7 22 5 TX7 23 := ⟨by decide, m3_105⟩
theorem fX7_25 : hp_F RX7 25 6 TX7 23 := ⟨by decide, m3_106⟩
theorem fX7_13 : hp_F RX7 13 2 TX7 23 := ⟨by decide, m3_102⟩
theorem fX7_16 : hp_F RX7 16 3 TX7 23 := ⟨by decide, m3_103⟩
theorem fX7_19 : hp_F RX7 19 4 TX7 23 := ⟨by decide, m3_104⟩
theorem fX7_32 : hp_F RX7 32 11 TX7 23 := ⟨by decide, m3_111⟩
theorem fX7_35 : hp_F RX7 35 12 TX7 23 := ⟨by decide, m3_112⟩
theorem fX7_38 : hp_F RX7 38 14 TX7 23 := ⟨by decide, m3_114⟩
theorem fX7_41 : hp_F RX7 41 15 TX7 23 := ⟨by decide, m3_115⟩
theorem fX7_44 : hp_F RX7 44 17 TX7 23 := ⟨by decide, m3_117⟩
theorem fX7_47 : hp_F RX7 47 18 TX7 23 := ⟨by decide, m3_118⟩
theorem fX7_50 : hp_F RX7 50 21 TX7 23 := ⟨by decide, m3_121⟩
theorem fX7_53 : hp_F RX7 53 22 TX7 23 := ⟨by decide, m3_122⟩
theorem fX7_56 : hp_F RX7 56 0 TX7 23 := ⟨by decide, m3_100⟩
theorem kX7_60 : hp_kB RX7 60 yX7_begin cX7_begin 2 none 0 := ⟨⟨m3_99, m1_9, Or.inl m3_96⟩, by decide +kernel, by decide +kernel, by decide +kernel⟩
theorem kX7_81 : hp_kB RX7 81 yX7_isIn cX7_isIn 3 (some .boolean) 3 := ⟨⟨m3_184, m1_9, Or.inl m3_182⟩, by decide +kernel, by decide +kernel, by decide +kernel⟩
theorem kX7_85 : hp_kB RX7 85 yX7_isVoice cX7_isVoice 2 (some .boolean) 1 := ⟨⟨m3_181, m1_9, Or.inl m3_178⟩, by decide +kernel, by decide +kernel, by decide +kernel⟩
theorem kX7_89 : hp_kB RX7 89 yX7_add cX7_add 6 (some .int) 4 := ⟨⟨m3_188, m1_9, Or.inl m3_185⟩, by decide +kernel, by decide +kernel, by decide +kernel⟩
theorem kX7_93 : hp_kB RX7 93 yX7_scale cX7_scale 1 (some .int) 1 := ⟨⟨m3_219, m1_9, Or.inl m3_217⟩, by decide +kernel, by decide +kernel, by decide +kernel⟩
theorem kX7_97 : hp_kB RX7 97 yX7_heightOf cX7_heightOf 2 (some .int) 1 := ⟨⟨m3_216, m1_9, Or.inl m3_213⟩, by decide +kernel, by decide +kernel, by decide +kernel⟩
theorem fX7_100 : hp_F RX7 100 16 TX7 23 := ⟨by decide, m3_116⟩
theorem kX7_103 : hp_kB RX7 103 yX7_learn cX7_learn 6 none 0 := ⟨⟨m3_227, m1_9, Or.inl m3_224⟩, by decide +kernel, by decide +kernel, by decide +kernel⟩
theorem kX7_106 : hp_kB RX7 106 yX7_isExcepted cX7_isExcepted 5 (some .boolean) 2 := ⟨⟨m3_239, m1_9, Or.inl m3_236⟩, by decide +kernel, by decide +kernel, by decide +kernel⟩
theorem kX7_110 : hp_kB RX7 110 yX7_at cX7_at 3 (some .int) 2 := ⟨⟨m4_22, m1_9, Or.inl m4_19⟩, by decide +kernel, by decide +kernel, by decide +kernel⟩
theorem kX7_114 : hp_kB RX7 114 yX7_modulo cX7_modulo 4 (some .int) 3 := ⟨⟨m4_33, m1_9, Or.inl m4_31⟩, by decide +kernel, by decide +kernel, by decide +kernel⟩
theorem kX7_118 : hp_kB RX7 118 yX7_betweenHeights cX7_betweenHeights 4 (some .int) 3 := ⟨⟨m4_26, m1_9, Or.inl m4_23⟩, by decide +kernel, by decide +kernel, by decide +kernel⟩
theorem kX7_143 : hp_kB RX7 143 yX7_isLeading cX7_isLeading 4 (some .boolean) 1 := ⟨⟨m4_30, m1_9, Or.inl m4_27⟩, by decide +kernel, by decide +kernel, by decide +kernel⟩
theorem kX7_121 : hp_kB RX7 121 yX7_goes cX7_goes 4 (some .boolean) 3 := ⟨⟨m4_53, m1_9, Or.inl m4_50⟩, by decide +kernel, by decide +kernel, by decide +kernel⟩
theorem kX7_124 : hp_kB RX7 124 yX7_moves cX7_moves 4 (some .boolean) 3 := ⟨⟨m4_49, m1_9, Or.inl m4_46⟩, by decide +kernel, by decide +kernel, by decide +kernel⟩
theorem kX7_127 : hp_kB RX7 127 yX7_way cX7_way 5 (some .int) 3 := ⟨⟨m4_45, m1_9, Or.inl m4_42⟩, by decide +kernel, by decide +kernel, by decide +kernel⟩
theorem kX7_130 : hp_kB RX7 130 yX7_goAlike cX7_goAlike 5 (some .boolean) 4 := ⟨⟨m4_41, m1_9, Or.inl m4_38⟩, by decide +kernel, by decide +kernel, by decide +kernel⟩
theorem kX7_134 : hp_kB RX7 134 yX7_which cX7_which 6 (some .int) 3 := ⟨⟨m4_57, m1_9, Or.inl m4_54⟩, by decide +kernel, by decide +kernel, by decide +kernel⟩
theorem kX7_137 : hp_kB RX7 137 yX7_isPure cX7_isPure 2 (some .boolean) 1 := ⟨⟨m4_61, m1_9, Or.inl m4_58⟩, by decide +kernel, by decide +kernel, by decide +kernel⟩
theorem kX7_140 : hp_kB RX7 140 yX7_leaps cX7_leaps 9 (some .boolean) 3 := ⟨⟨m4_65, m1_9, Or.inl m4_62⟩, by decide +kernel, by decide +kernel, by decide +kernel⟩
theorem kX7_146 : hp_kB RX7 146 yX7_crosses cX7_crosses 8 (some .boolean) 4 := ⟨⟨m4_69, m1_9, Or.inl m4_66⟩, by decide +kernel, by decide +kernel, by decide +kernel⟩
theorem kX7_149 : hp_kB RX7 149 yX7_isOfMoments cX7_isOfMoments 1 (some .boolean) 1 := ⟨⟨m4_14, m1_9, Or.inl m4_12⟩, by decide +kernel, by decide +kernel, by decide +kernel⟩
theorem kX7_155 : hp_kB RX7 155 yX7_isPairBroken cX7_isPairBroken 7 (some .boolean) 5 := ⟨⟨m4_37, m1_9, Or.inl m4_34⟩, by decide +kernel, by decide +kernel, by decide +kernel⟩
theorem kX7_152 : hp_kB RX7 152 yX7_isBrokenAt cX7_isBrokenAt 8 (some .boolean) 4 := ⟨⟨m4_18, m1_9, Or.inl m4_15⟩, by decide +kernel, by decide +kernel, by decide +kernel⟩
theorem kX7_159 : hp_kB RX7 159 yX7_isAbout cX7_isAbout 4 (some .boolean) 3 := ⟨⟨m4_7, m1_9, Or.inl m4_4⟩, by decide +kernel, by decide +kernel, by decide +kernel⟩
theorem kX7_162 : hp_kB RX7 162 yX7_isBroken cX7_isBroken 9 (some .boolean) 4 := ⟨⟨m4_11, m1_9, Or.inl m4_8⟩, by decide +kernel, by decide +kernel, by decide +kernel⟩
