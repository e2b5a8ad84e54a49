theorem m1_43 : Cond.fieldLink RX4 28 "LeadFaults$Part" "size" "I" ∈ h_tb := List.mem_filter.mpr ⟨List.mem_append_right _ (List.mem_append_left _ (List.mem_of_getElem? (i := 43) rfl)), rfl⟩
theorem m1_46 : Cond.fieldLink RX4 21 "LeadFaults$Part" "low" "I" ∈ h_tb := List.mem_filter.mpr ⟨List.mem_append_right _ (List.mem_append_left _ (List.mem_of_getElem? (i := 46) rfl)), rfl⟩
theorem m1_48 : Cond.fieldLink RX4 25 "LeadFaults$Part" "high" "I" ∈ h_tb := List.mem_filter.mpr ⟨List.mem_append_right _ (List.mem_append_left _ (List.mem_of_getElem? (i := 48) rfl)), rfl⟩
theorem m1_34 : Cond.fieldLink RX4 9 "LeadFaults$Part" "times" "[I" ∈ h_tb := List.mem_filter.mpr ⟨List.mem_append_right _ (List.mem_append_left _ (List.mem_of_getElem? (i := 34) rfl)), rfl⟩
theorem m1_196 : Cond.fieldLink RX6 20 "LeadFaults" "parts" "[LLeadFaults$Part;" ∈ h_tb := List.mem_filter.mpr ⟨List.mem_append_right _ (List.mem_append_left _ (List.mem_of_getElem? (i := 196) rfl)), rfl⟩
theorem m2_34 : Cond.methodLink RX6 97 yX6_within ∈ h_tb := List.mem_filter.mpr ⟨List.mem_append_right _ (List.mem_append_right _ (List.mem_append_left _ (List.mem_of_getElem? (i := 34) rfl))), rfl⟩
theorem m2_36 : Cond.code yX6_within cX6_within 3 (some .boolean) ∈ h_tb := List.mem_filter.mpr ⟨List.mem_append_right _ (List.mem_append_right _ (List.mem_append_left _ (List.mem_of_getElem? (i := 36) rfl))), rfl⟩
theorem m1_1 : Cond.initialized RX6 ∈ h_tb := List.mem_filter.mpr ⟨List.mem_append_right _ (List.mem_append_left _ (List.mem_of_getElem? (i := 1) rfl)), rfl⟩
theorem m2_35 : Cond.static yX6_within ∈ h_tb := List.mem_filter.mpr ⟨List.mem_append_right _ (List.mem_append_right _ (List.mem_append_left _ (List.mem_of_getElem? (i := 35) rfl))), rfl⟩
theorem m2_48 : Cond.methodLink RX4 31 yX4_lastTime ∈ h_tb := List.mem_filter.mpr ⟨List.mem_append_right _ (List.mem_append_right _ (List.mem_append_left _ (List.mem_of_getElem? (i := 48) rfl))), rfl⟩
theorem m2_10 : Cond.code yX4_lastTime cX4_lastTime 1 (some .int) ∈ h_tb := List.mem_filter.mpr ⟨List.mem_append_right _ (List.mem_append_right _ (List.mem_append_left _ (List.mem_of_getElem? (i := 10) rfl))), rfl⟩
theorem m1_3 : Cond.initialized RX4 ∈ h_tb := List.mem_filter.mpr ⟨List.mem_append_right _ (List.mem_append_left _ (List.mem_of_getElem? (i := 3) rfl)), rfl⟩
theorem m2_8 : Cond.instanceMethod yX4_lastTime ∈ h_tb := List.mem_filter.mpr ⟨List.mem_append_right _ (List.mem_append_right _ (List.mem_append_left _ (List.mem_of_getElem? (i := 8) rfl))), rfl⟩
theorem m2_9 : Cond.selects RX4 yX4_lastTime yX4_lastTime ∈ h_tb := List.mem_filter.mpr ⟨List.mem_append_right _ (List.mem_append_right _ (List.mem_append_left _ (List.mem_of_getElem? (i := 9) rfl))), rfl⟩
theorem m1_37 : Cond.fieldLink RX4 15 "LeadFaults$Part" "steps" "[I" ∈ h_tb := List.mem_filter.mpr ⟨List.mem_append_right _ (List.mem_append_left _ (List.mem_of_getElem? (i := 37) rfl)), rfl⟩
theorem m1_40 : Cond.fieldLink RX4 18 "LeadFaults$Part" "sharps" "[I" ∈ h_tb := List.mem_filter.mpr ⟨List.mem_append_right _ (List.mem_append_left _ (List.mem_of_getElem? (i := 40) rfl)), rfl⟩
theorem m1_97 : Cond.fieldLink RX1 24 "LeadFaults$Entries" "size" "I" ∈ h_tb := List.mem_filter.mpr ⟨List.mem_append_right _ (List.mem_append_left _ (List.mem_of_getElem? (i := 97) rfl)), rfl⟩
theorem m1_93 : Cond.fieldLink RX1 15 "LeadFaults$Entries" "firsts" "[I" ∈ h_tb := List.mem_filter.mpr ⟨List.mem_append_right _ (List.mem_append_left _ (List.mem_of_getElem? (i := 93) rfl)), rfl⟩
theorem m1_95 : Cond.fieldLink RX1 21 "LeadFaults$Entries" "seconds" "[I" ∈ h_tb := List.mem_filter.mpr ⟨List.mem_append_right _ (List.mem_append_left _ (List.mem_of_getElem? (i := 95) rfl)), rfl⟩
theorem LX0 : hp_L 0 RX0 TX0 4 tyX0 := ⟨rfl, by decide, inX0, tyX0_ok, nmX0⟩
theorem LX1 : hp_L 1 RX1 TX1 3 tyX1 := ⟨rfl, by decide, inX1, tyX1_ok, nmX1⟩
theorem LX2 : hp_L 2 RX2 TX2 6 tyX2 := ⟨rfl, by decide, inX2, tyX2_ok, nmX2⟩
theorem LX3 : hp_L 3 RX3 TX3 8 tyX3 := ⟨rfl, by decide, inX3, tyX3_ok, nmX3⟩
theorem LX4 : hp_L 4 RX4 TX4 6 tyX4 := ⟨rfl, by decide, inX4, tyX4_ok, nmX4⟩
theorem LX5 : hp_L 5 RX5 TX5 3 tyX5 := ⟨rfl, by decide, inX5, tyX5_ok, nmX5⟩
theorem LX6 : hp_L 6 RX6 TX6 9 tyX6 := ⟨rfl, by decide, inX6, tyX6_ok, nmX6⟩
theorem LX7 : hp_L 7 RX7 TX7 23 tyX7 := ⟨rfl, by decide, inX7, tyX7_ok, nmX7⟩
theorem fX4_28 : hp_F RX4 28 3 TX4 6 := ⟨by decide, m1_43⟩
theorem fX4_21 : hp_F RX4 21 4 TX4 6 := ⟨by decide, m1_46⟩
theorem fX4_25 : hp_F RX4 25 5 TX4 6 := ⟨by decide, m1_48⟩
theorem fX4_9 : hp_F RX4 9 0 TX4 6 := ⟨by decide, m1_34⟩
theorem fX6_20 : hp_F RX6 20 0 TX6 9 := ⟨by decide, m1_196⟩
theorem kX6_97 : hp_kB RX6 97 yX6_within cX6_within 3 (some .boolean) 3 := ⟨⟨m2_36, m1_1, Or.inl m2_34⟩, by decide +kernel, by decide +kernel, by decide +kernel⟩
theorem kX4_31 : hp_kB RX4 31 yX4_lastTime cX4_lastTime 1 (some .int) 0 := ⟨⟨m2_10, m1_3, Or.inl m2_48⟩, by decide +kernel, by decide +kernel, by decide +kernel⟩
theorem fX4_15 : hp_F RX4 15 1 TX4 6 := ⟨by decide, m1_37⟩
theorem fX4_18 : hp_F RX4 18 2 TX4 6 := ⟨by decide, m1_40⟩
theorem fX1_24 : hp_F RX1 24 2 TX1 3 := ⟨by decide, m1_97⟩
theorem fX1_15 : hp_F RX1 15 0 TX1 3 := ⟨by decide, m1_93⟩
theorem fX1_21 : hp_F RX1 21 1 TX1 3 := ⟨by decide, m1_95⟩
