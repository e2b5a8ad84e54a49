theorem dX6_within_0 : decode cX6_within 0 = .ok (.iload_n 0, 1) := by decide +kernel
theorem dX6_within_1 : decode cX6_within 1 = .ok (.iload_n 1, 1) := by decide +kernel
theorem dX6_within_2 : decode cX6_within 2 = .ok (.if_icmp .lt 12, 3) := by decide +kernel
theorem dX6_within_5 : decode cX6_within 5 = .ok (.iload_n 0, 1) := by decide +kernel
theorem dX6_within_6 : decode cX6_within 6 = .ok (.iload_n 2, 1) := by decide +kernel
theorem dX6_within_7 : decode cX6_within 7 = .ok (.if_icmp .gt 7, 3) := by decide +kernel
theorem dX6_within_10 : decode cX6_within 10 = .ok (.iconst 1, 1) := by decide +kernel
theorem dX6_within_11 : decode cX6_within 11 = .ok (.goto 4, 3) := by decide +kernel
theorem dX6_within_14 : decode cX6_within 14 = .ok (.iconst 0, 1) := by decide +kernel
theorem dX6_within_15 : decode cX6_within 15 = .ok (.ireturn, 1) := by decide +kernel
theorem dX6_isVoice_0 : decode cX6_isVoice 0 = .ok (.iload_n 1, 1) := by decide +kernel
theorem dX6_isVoice_1 : decode cX6_isVoice 1 = .ok (.iconst 0, 1) := by decide +kernel
theorem dX6_isVoice_2 : decode cX6_isVoice 2 = .ok (.aload_n 0, 1) := by decide +kernel
theorem dX6_isVoice_3 : decode cX6_isVoice 3 = .ok (.getfield 20, 3) := by decide +kernel
theorem dX6_isVoice_6 : decode cX6_isVoice 6 = .ok (.arraylength, 1) := by decide +kernel
theorem dX6_isVoice_7 : decode cX6_isVoice 7 = .ok (.iconst 1, 1) := by decide +kernel
theorem dX6_isVoice_8 : decode cX6_isVoice 8 = .ok (.isub, 1) := by decide +kernel
theorem dX6_isVoice_9 : decode cX6_isVoice 9 = .ok (.invokestatic 97, 3) := by decide +kernel
theorem dX6_isVoice_12 : decode cX6_isVoice 12 = .ok (.ireturn, 1) := by decide +kernel
theorem dX6_isTime_0 : decode cX6_isTime 0 = .ok (.iload_n 0, 1) := by decide +kernel
theorem dX6_isTime_1 : decode cX6_isTime 1 = .ok (.iconst 0, 1) := by decide +kernel
theorem dX6_isTime_2 : decode cX6_isTime 2 = .ok (.sipush 999, 3) := by decide +kernel
theorem dX6_isTime_5 : decode cX6_isTime 5 = .ok (.invokestatic 97, 3) := by decide +kernel
theorem dX6_isTime_8 : decode cX6_isTime 8 = .ok (.ireturn, 1) := by decide +kernel
theorem dX4_append_0 : decode cX4_append 0 = .ok (.iload_n 1, 1) := by decide +kernel
theorem dX4_append_1 : decode cX4_append 1 = .ok (.aload_n 0, 1) := by decide +kernel
theorem dX4_append_2 : decode cX4_append 2 = .ok (.invokevirtual 31, 3) := by decide +kernel
theorem dX4_append_5 : decode cX4_append 5 = .ok (.if_icmp .gt 6, 3) := by decide +kernel
theorem dX4_append_8 : decode cX4_append 8 = .ok (.bipush (-4), 2) := by decide +kernel
theorem dX4_append_10 : decode cX4_append 10 = .ok (.ireturn, 1) := by decide +kernel
theorem dX4_append_11 : decode cX4_append 11 = .ok (.aload_n 0, 1) := by decide +kernel
theorem dX4_append_12 : decode cX4_append 12 = .ok (.getfield 28, 3) := by decide +kernel
theorem dX4_append_15 : decode cX4_append 15 = .ok (.bipush 24, 2) := by decide +kernel
theorem dX4_append_17 : decode cX4_append 17 = .ok (.if_icmp .lt 6, 3) := by decide +kernel
theorem dX4_append_20 : decode cX4_append 20 = .ok (.bipush (-3), 2) := by decide +kernel
theorem dX4_append_22 : decode cX4_append 22 = .ok (.ireturn, 1) := by decide +kernel
theorem dX4_append_23 : decode cX4_append 23 = .ok (.aload_n 0, 1) := by decide +kernel
theorem dX4_append_24 : decode cX4_append 24 = .ok (.getfield 9, 3) := by decide +kernel
theorem dX4_append_27 : decode cX4_append 27 = .ok (.aload_n 0, 1) := by decide +kernel
theorem dX4_append_28 : decode cX4_append 28 = .ok (.getfield 28, 3) := by decide +kernel
theorem dX4_append_31 : decode cX4_append 31 = .ok (.iload_n 1, 1) := by decide +kernel
theorem dX4_append_32 : decode cX4_append 32 = .ok (.iastore, 1) := by decide +kernel
theorem dX4_append_33 : decode cX4_append 33 = .ok (.aload_n 0, 1) := by decide +kernel
theorem dX4_append_34 : decode cX4_append 34 = .ok (.getfield 15, 3) := by decide +kernel
theorem dX4_append_37 : decode cX4_append 37 = .ok (.aload_n 0, 1) := by decide +kernel
theorem dX4_append_38 : decode cX4_append 38 = .ok (.getfield 28, 3) := by decide +kernel
theorem dX4_append_41 : decode cX4_append 41 = .ok (.iload_n 2, 1) := by decide +kernel
theorem dX4_append_42 : decode cX4_append 42 = .ok (.iastore, 1) := by decide +kernel
theorem dX4_append_43 : decode cX4_append 43 = .ok (.aload_n 0, 1) := by decide +kernel
theorem dX4_append_44 : decode cX4_append 44 = .ok (.getfield 18, 3) := by decide +kernel
theorem dX4_append_47 : decode cX4_append 47 = .ok (.aload_n 0, 1) := by decide +kernel
theorem dX4_append_48 : decode cX4_append 48 = .ok (.getfield 28, 3) := by decide +kernel
theorem dX4_append_51 : decode cX4_append 51 = .ok (.iload_n 3, 1) := by decide +kernel
theorem dX4_append_52 : decode cX4_append 52 = .ok (.iastore, 1) := by decide +kernel
theorem dX4_append_53 : decode cX4_append 53 = .ok (.aload_n 0, 1) := by decide +kernel
theorem dX4_append_54 : decode cX4_append 54 = .ok (.dup, 1) := by decide +kernel
theorem dX4_append_55 : decode cX4_append 55 = .ok (.getfield 28, 3) := by decide +kernel
theorem dX4_append_58 : decode cX4_append 58 = .ok (.iconst 1, 1) := by decide +kernel
theorem dX4_append_59 : decode cX4_append 59 = .ok (.iadd, 1) := by decide +kernel
theorem dX4_append_60 : decode cX4_append 60 = .ok (.putfield 28, 3) := by decide +kernel
theorem dX4_append_63 : decode cX4_append 63 = .ok (.aload_n 0, 1) := by decide +kernel
theorem dX4_append_64 : decode cX4_append 64 = .ok (.getfield 28, 3) := by decide +kernel
theorem dX4_append_67 : decode cX4_append 67 = .ok (.ireturn, 1) := by decide +kernel
theorem dX6_append_0 : decode cX6_append 0 = .ok (.aload_n 0, 1) := by decide +kernel
theorem dX6_append_1 : decode cX6_append 1 = .ok (.getfield 20, 3) := by decide +kernel
theorem dX6_append_4 : decode cX6_append 4 = .ok (.iload_n 1, 1) := by decide +kernel
theorem dX6_append_5 : decode cX6_append 5 = .ok (.aaload, 1) := by decide +kernel
theorem dX6_append_6 : decode cX6_append 6 = .ok (.iload_n 2, 1) := by decide +kernel
theorem dX6_append_7 : decode cX6_append 7 = .ok (.iload_n 3, 1) := by decide +kernel
theorem dX6_append_8 : decode cX6_append 8 = .ok (.iload 4, 2) := by decide +kernel
theorem dX6_append_10 : decode cX6_append 10 = .ok (.invokevirtual 199, 3) := by decide +kernel
theorem dX6_append_13 : decode cX6_append 13 = .ok (.istore 5, 2) := by decide +kernel
theorem dX6_append_15 : decode cX6_append 15 = .ok (.aload_n 0, 1) := by decide +kernel
theorem dX6_append_16 : decode cX6_append 16 = .ok (.getfield 28, 3) := by decide +kernel
theorem dX6_append_19 : decode cX6_append 19 = .ok (.aload_n 0, 1) := by decide +kernel
theorem dX6_append_20 : decode cX6_append 20 = .ok (.getfield 20, 3) := by decide +kernel
theorem dX6_append_23 : decode cX6_append 23 = .ok (.aload_n 0, 1) := by decide +kernel
theorem dX6_append_24 : decode cX6_append 24 = .ok (.getfield 83, 3) := by decide +kernel
theorem dX6_append_27 : decode cX6_append 27 = .ok (.invokevirtual 86, 3) := by decide +kernel
theorem dX6_append_30 : decode cX6_append 30 = .ok (.iload 5, 2) := by decide +kernel
theorem dX6_append_32 : decode cX6_append 32 = .ok (.ireturn, 1) := by decide +kernel
theorem dX6_note_0 : decode cX6_note 0 = .ok (.aload_n 0, 1) := by decide +kernel
theorem dX6_note_1 : decode cX6_note 1 = .ok (.iload_n 1, 1) := by decide +kernel
theorem dX6_note_2 : decode cX6_note 2 = .ok (.invokevirtual 90, 3) := by decide +kernel
theorem dX6_note_5 : decode cX6_note 5 = .ok (.ifCond .eq 31, 3) := by decide +kernel
theorem dX6_note_8 : decode cX6_note 8 = .ok (.iload_n 2, 1) := by decide +kernel
theorem dX6_note_9 : decode cX6_note 9 = .ok (.invokestatic 94, 3) := by decide +kernel
theorem dX6_note_12 : decode cX6_note 12 = .ok (.ifCond .eq 24, 3) := by decide +kernel
theorem dX6_note_15 : decode cX6_note 15 = .ok (.iload_n 3, 1) := by decide +kernel
theorem dX6_note_16 : decode cX6_note 16 = .ok (.iconst 0, 1) := by decide +kernel
theorem dX6_note_17 : decode cX6_note 17 = .ok (.bipush 55, 2) := by decide +kernel
theorem dX6_note_19 : decode cX6_note 19 = .ok (.invokestatic 97, 3) := by decide +kernel
theorem dX6_note_22 : decode cX6_note 22 = .ok (.ifCond .eq 14, 3) := by decide +kernel
theorem dX6_note_25 : decode cX6_note 25 = .ok (.iload 4, 2) := by decide +kernel
theorem dX6_note_27 : decode cX6_note 27 = .ok (.bipush (-2), 2) := by decide +kernel
theorem dX6_note_29 : decode cX6_note 29 = .ok (.iconst 2, 1) := by decide +kernel
theorem dX6_note_30 : decode cX6_note 30 = .ok (.invokestatic 97, 3) := by decide +kernel
theorem dX6_note_33 : decode cX6_note 33 = .ok (.ifCond .ne 6, 3) := by decide +kernel
theorem dX6_note_36 : decode cX6_note 36 = .ok (.bipush (-2), 2) := by decide +kernel
theorem dX6_note_38 : decode cX6_note 38 = .ok (.ireturn, 1) := by decide +kernel
theorem dX6_note_39 : decode cX6_note 39 = .ok (.aload_n 0, 1) := by decide +kernel
theorem dX6_note_40 : decode cX6_note 40 = .ok (.iload_n 1, 1) := by decide +kernel
theorem dX6_note_41 : decode cX6_note 41 = .ok (.iload_n 2, 1) := by decide +kernel
theorem dX6_note_42 : decode cX6_note 42 = .ok (.iload_n 3, 1) := by decide +kernel
theorem dX6_note_43 : decode cX6_note 43 = .ok (.iload 4, 2) := by decide +kernel
theorem dX6_note_45 : decode cX6_note 45 = .ok (.invokevirtual 101, 3) := by decide +kernel
theorem dX6_note_48 : decode cX6_note 48 = .ok (.ireturn, 1) := by decide +kernel
theorem dX6_rest_0 : decode cX6_rest 0 = .ok (.aload_n 0, 1) := by decide +kernel
theorem dX6_rest_1 : decode cX6_rest 1 = .ok (.iload_n 1, 1) := by decide +kernel
theorem dX6_rest_2 : decode cX6_rest 2 = .ok (.invokevirtual 90, 3) := by decide +kernel
theorem dX6_rest_5 : decode cX6_rest 5 = .ok (.ifCond .eq 10, 3) := by decide +kernel
theorem dX6_rest_8 : decode cX6_rest 8 = .ok (.iload_n 2, 1) := by decide +kernel
theorem dX6_rest_9 : decode cX6_rest 9 = .ok (.invokestatic 94, 3) := by decide +kernel
theorem dX6_rest_12 : decode cX6_rest 12 = .ok (.ifCond .ne 6, 3) := by decide +kernel
theorem dX6_rest_15 : decode cX6_rest 15 = .ok (.bipush (-2), 2) := by decide +kernel
theorem dX6_rest_17 : decode cX6_rest 17 = .ok (.ireturn, 1) := by decide +kernel
theorem dX6_rest_18 : decode cX6_rest 18 = .ok (.aload_n 0, 1) := by decide +kernel
theorem dX6_rest_19 : decode cX6_rest 19 = .ok (.iload_n 1, 1) := by decide +kernel
theorem dX6_rest_20 : decode cX6_rest 20 = .ok (.iload_n 2, 1) := by decide +kernel
theorem dX6_rest_21 : decode cX6_rest 21 = .ok (.iconst (-1), 1) := by decide +kernel
theorem dX6_rest_22 : decode cX6_rest 22 = .ok (.iconst 0, 1) := by decide +kernel
theorem dX6_rest_23 : decode cX6_rest 23 = .ok (.invokevirtual 101, 3) := by decide +kernel
theorem dX6_rest_26 : decode cX6_rest 26 = .ok (.ireturn, 1) := by decide +kernel
theorem dX4_dropLast_0 : decode cX4_dropLast 0 = .ok (.aload_n 0, 1) := by decide +kernel
theorem dX4_dropLast_1 : decode cX4_dropLast 1 = .ok (.getfield 28, 3) := by decide +kernel
theorem dX4_dropLast_4 : decode cX4_dropLast 4 = .ok (.ifCond .ne 5, 3) := by decide +kernel
theorem dX4_dropLast_7 : decode cX4_dropLast 7 = .ok (.iconst (-1), 1) := by decide +kernel
theorem dX4_dropLast_8 : decode cX4_dropLast 8 = .ok (.ireturn, 1) := by decide +kernel
theorem dX4_dropLast_9 : decode cX4_dropLast 9 = .ok (.aload_n 0, 1) := by decide +kernel
theorem dX4_dropLast_10 : decode cX4_dropLast 10 = .ok (.dup, 1) := by decide +kernel
theorem dX4_dropLast_11 : decode cX4_dropLast 11 = .ok (.getfield 28, 3) := by decide +kernel
theorem dX4_dropLast_14 : decode cX4_dropLast 14 = .ok (.iconst 1, 1) := by decide +kernel
theorem dX4_dropLast_15 : decode cX4_dropLast 15 = .ok (.isub, 1) := by decide +kernel
theorem dX4_dropLast_16 : decode cX4_dropLast 16 = .ok (.putfield 28, 3) := by decide +kernel
theorem dX4_dropLast_19 : decode cX4_dropLast 19 = .ok (.aload_n 0, 1) := by decide +kernel
theorem dX4_dropLast_20 : decode cX4_dropLast 20 = .ok (.getfield 28, 3) := by decide +kernel
theorem dX4_dropLast_23 : decode cX4_dropLast 23 = .ok (.ireturn, 1) := by decide +kernel
theorem dX6_take_0 : decode cX6_take 0 = .ok (.aload_n 0, 1) := by decide +kernel
theorem dX6_take_1 : decode cX6_take 1 = .ok (.iload_n 1, 1) := by decide +kernel
theorem dX6_take_2 : decode cX6_take 2 = .ok (.invokevirtual 90, 3) := by decide +kernel
theorem dX6_take_5 : decode cX6_take 5 = .ok (.ifCond .ne 6, 3) := by decide +kernel
theorem dX6_take_8 : decode cX6_take 8 = .ok (.bipush (-2), 2) := by decide +kernel
theorem dX6_take_10 : decode cX6_take 10 = .ok (.ireturn, 1) := by decide +kernel
theorem dX6_take_11 : decode cX6_take 11 = .ok (.aload_n 0, 1) := by decide +kernel
theorem dX6_take_12 : decode cX6_take 12 = .ok (.getfield 20, 3) := by decide +kernel
theorem dX6_take_15 : decode cX6_take 15 = .ok (.iload_n 1, 1) := by decide +kernel
theorem dX6_take_16 : decode cX6_take 16 = .ok (.aaload, 1) := by decide +kernel
theorem dX6_take_17 : decode cX6_take 17 = .ok (.invokevirtual 105, 3) := by decide +kernel
theorem dX6_take_20 : decode cX6_take 20 = .ok (.istore_n 2, 1) := by decide +kernel
theorem dX6_take_21 : decode cX6_take 21 = .ok (.aload_n 0, 1) := by decide +kernel
theorem dX6_take_22 : decode cX6_take 22 = .ok (.getfield 28, 3) := by decide +kernel
theorem dX6_take_25 : decode cX6_take 25 = .ok (.aload_n 0, 1) := by decide +kernel
theorem dX6_take_26 : decode cX6_take 26 = .ok (.getfield 20, 3) := by decide +kernel
theorem dX6_take_29 : decode cX6_take 29 = .ok (.aload_n 0, 1) := by decide +kernel
theorem dX6_take_30 : decode cX6_take 30 = .ok (.getfield 83, 3) := by decide +kernel
theorem dX6_take_33 : decode cX6_take 33 = .ok (.invokevirtual 86, 3) := by decide +kernel
theorem dX6_take_36 : decode cX6_take 36 = .ok (.iload_n 2, 1) := by decide +kernel
theorem dX6_take_37 : decode cX6_take 37 = .ok (.ireturn, 1) := by decide +kernel
theorem dX6_isKind_0 : decode cX6_isKind 0 = .ok (.iload_n 0, 1) := by decide +kernel
theorem dX6_isKind_1 : decode cX6_isKind 1 = .ok (.iconst 0, 1) := by decide +kernel
theorem dX6_isKind_2 : decode cX6_isKind 2 = .ok (.bipush 13, 2) := by decide +kernel
theorem dX6_isKind_4 : decode cX6_isKind 4 = .ok (.invokestatic 97, 3) := by decide +kernel
theorem dX6_isKind_7 : decode cX6_isKind 7 = .ok (.ireturn, 1) := by decide +kernel
theorem dX6_rule_0 : decode cX6_rule 0 = .ok (.iload_n 1, 1) := by decide +kernel
theorem dX6_rule_1 : decode cX6_rule 1 = .ok (.invokestatic 109, 3) := by decide +kernel
theorem dX6_rule_4 : decode cX6_rule 4 = .ok (.ifCond .eq 12, 3) := by decide +kernel
theorem dX6_rule_7 : decode cX6_rule 7 = .ok (.iload_n 2, 1) := by decide +kernel
theorem dX6_rule_8 : decode cX6_rule 8 = .ok (.iconst 0, 1) := by decide +kernel
theorem dX6_rule_9 : decode cX6_rule 9 = .ok (.iconst 1, 1) := by decide +kernel
theorem dX6_rule_10 : decode cX6_rule 10 = .ok (.invokestatic 97, 3) := by decide +kernel
theorem dX6_rule_13 : decode cX6_rule 13 = .ok (.ifCond .ne 6, 3) := by decide +kernel
theorem dX6_rule_16 : decode cX6_rule 16 = .ok (.bipush (-2), 2) := by decide +kernel
theorem dX6_rule_18 : decode cX6_rule 18 = .ok (.ireturn, 1) := by decide +kernel
theorem dX6_rule_19 : decode cX6_rule 19 = .ok (.aload_n 0, 1) := by decide +kernel
theorem dX6_rule_20 : decode cX6_rule 20 = .ok (.getfield 62, 3) := by decide +kernel
theorem dX6_rule_23 : decode cX6_rule 23 = .ok (.iload_n 1, 1) := by decide +kernel
theorem dX6_rule_24 : decode cX6_rule 24 = .ok (.ishr, 1) := by decide +kernel
theorem dX6_rule_25 : decode cX6_rule 25 = .ok (.iconst 1, 1) := by decide +kernel
theorem dX6_rule_26 : decode cX6_rule 26 = .ok (.iand, 1) := by decide +kernel
theorem dX6_rule_27 : decode cX6_rule 27 = .ok (.istore_n 3, 1) := by decide +kernel
theorem dX6_rule_28 : decode cX6_rule 28 = .ok (.aload_n 0, 1) := by decide +kernel
theorem dX6_rule_29 : decode cX6_rule 29 = .ok (.aload_n 0, 1) := by decide +kernel
theorem dX6_rule_30 : decode cX6_rule 30 = .ok (.getfield 62, 3) := by decide +kernel
theorem dX6_rule_33 : decode cX6_rule 33 = .ok (.iconst 1, 1) := by decide +kernel
theorem dX6_rule_34 : decode cX6_rule 34 = .ok (.iload_n 1, 1) := by decide +kernel
theorem dX6_rule_35 : decode cX6_rule 35 = .ok (.ishl, 1) := by decide +kernel
theorem dX6_rule_36 : decode cX6_rule 36 = .ok (.iconst (-1), 1) := by decide +kernel
theorem dX6_rule_37 : decode cX6_rule 37 = .ok (.ixor, 1) := by decide +kernel
theorem dX6_rule_38 : decode cX6_rule 38 = .ok (.iand, 1) := by decide +kernel
theorem dX6_rule_39 : decode cX6_rule 39 = .ok (.iload_n 2, 1) := by decide +kernel
theorem dX6_rule_40 : decode cX6_rule 40 = .ok (.iload_n 1, 1) := by decide +kernel
theorem dX6_rule_41 : decode cX6_rule 41 = .ok (.ishl, 1) := by decide +kernel
theorem dX6_rule_42 : decode cX6_rule 42 = .ok (.ior, 1) := by decide +kernel
theorem dX6_rule_43 : decode cX6_rule 43 = .ok (.putfield 62, 3) := by decide +kernel
theorem dX6_rule_46 : decode cX6_rule 46 = .ok (.iload_n 3, 1) := by decide +kernel
theorem dX6_rule_47 : decode cX6_rule 47 = .ok (.ireturn, 1) := by decide +kernel
theorem dJ6_bitCount_0 : decode cJ6_bitCount 0 = .ok (.iload_n 0, 1) := by decide +kernel
theorem dJ6_bitCount_1 : decode cJ6_bitCount 1 = .ok (.iload_n 0, 1) := by decide +kernel
theorem dJ6_bitCount_2 : decode cJ6_bitCount 2 = .ok (.iconst 1, 1) := by decide +kernel
theorem dJ6_bitCount_3 : decode cJ6_bitCount 3 = .ok (.iushr, 1) := by decide +kernel
theorem dJ6_bitCount_4 : decode cJ6_bitCount 4 = .ok (.ldc_w 265, 3) := by decide +kernel
theorem dJ6_bitCount_7 : decode cJ6_bitCount 7 = .ok (.iand, 1) := by decide +kernel
theorem dJ6_bitCount_8 : decode cJ6_bitCount 8 = .ok (.isub, 1) := by decide +kernel
theorem dJ6_bitCount_9 : decode cJ6_bitCount 9 = .ok (.istore_n 0, 1) := by decide +kernel
theorem dJ6_bitCount_10 : decode cJ6_bitCount 10 = .ok (.iload_n 0, 1) := by decide +kernel
theorem dJ6_bitCount_11 : decode cJ6_bitCount 11 = .ok (.ldc_w 266, 3) := by decide +kernel
theorem dJ6_bitCount_14 : decode cJ6_bitCount 14 = .ok (.iand, 1) := by decide +kernel
theorem dJ6_bitCount_15 : decode cJ6_bitCount 15 = .ok (.iload_n 0, 1) := by decide +kernel
theorem dJ6_bitCount_16 : decode cJ6_bitCount 16 = .ok (.iconst 2, 1) := by decide +kernel
theorem dJ6_bitCount_17 : decode cJ6_bitCount 17 = .ok (.iushr, 1) := by decide +kernel
theorem dJ6_bitCount_18 : decode cJ6_bitCount 18 = .ok (.ldc_w 266, 3) := by decide +kernel
theorem dJ6_bitCount_21 : decode cJ6_bitCount 21 = .ok (.iand, 1) := by decide +kernel
theorem dJ6_bitCount_22 : decode cJ6_bitCount 22 = .ok (.iadd, 1) := by decide +kernel
theorem dJ6_bitCount_23 : decode cJ6_bitCount 23 = .ok (.istore_n 0, 1) := by decide +kernel
theorem dJ6_bitCount_24 : decode cJ6_bitCount 24 = .ok (.iload_n 0, 1) := by decide +kernel
theorem dJ6_bitCount_25 : decode cJ6_bitCount 25 = .ok (.iload_n 0, 1) := by decide +kernel
theorem dJ6_bitCount_26 : decode cJ6_bitCount 26 = .ok (.iconst 4, 1) := by decide +kernel
theorem dJ6_bitCount_27 : decode cJ6_bitCount 27 = .ok (.iushr, 1) := by decide +kernel
theorem dJ6_bitCount_28 : decode cJ6_bitCount 28 = .ok (.iadd, 1) := by decide +kernel
theorem dJ6_bitCount_29 : decode cJ6_bitCount 29 = .ok (.ldc_w 267, 3) := by decide +kernel
theorem dJ6_bitCount_32 : decode cJ6_bitCount 32 = .ok (.iand, 1) := by decide +kernel
theorem dJ6_bitCount_33 : decode cJ6_bitCount 33 = .ok (.istore_n 0, 1) := by decide +kernel
theorem dJ6_bitCount_34 : decode cJ6_bitCount 34 = .ok (.iload_n 0, 1) := by decide +kernel
theorem dJ6_bitCount_35 : decode cJ6_bitCount 35 = .ok (.iload_n 0, 1) := by decide +kernel
theorem dJ6_bitCount_36 : decode cJ6_bitCount 36 = .ok (.bipush 8, 2) := by decide +kernel
theorem dJ6_bitCount_38 : decode cJ6_bitCount 38 = .ok (.iushr, 1) := by decide +kernel
theorem dJ6_bitCount_39 : decode cJ6_bitCount 39 = .ok (.iadd, 1) := by decide +kernel
theorem dJ6_bitCount_40 : decode cJ6_bitCount 40 = .ok (.istore_n 0, 1) := by decide +kernel
theorem dJ6_bitCount_41 : decode cJ6_bitCount 41 = .ok (.iload_n 0, 1) := by decide +kernel
theorem dJ6_bitCount_42 : decode cJ6_bitCount 42 = .ok (.iload_n 0, 1) := by decide +kernel
theorem dJ6_bitCount_43 : decode cJ6_bitCount 43 = .ok (.bipush 16, 2) := by decide +kernel
theorem dJ6_bitCount_45 : decode cJ6_bitCount 45 = .ok (.iushr, 1) := by decide +kernel
theorem dJ6_bitCount_46 : decode cJ6_bitCount 46 = .ok (.iadd, 1) := by decide +kernel
theorem dJ6_bitCount_47 : decode cJ6_bitCount 47 = .ok (.istore_n 0, 1) := by decide +kernel
theorem dJ6_bitCount_48 : decode cJ6_bitCount 48 = .ok (.iload_n 0, 1) := by decide +kernel
theorem dJ6_bitCount_49 : decode cJ6_bitCount 49 = .ok (.bipush 63, 2) := by decide +kernel
theorem dJ6_bitCount_51 : decode cJ6_bitCount 51 = .ok (.iand, 1) := by decide +kernel
theorem dJ6_bitCount_52 : decode cJ6_bitCount 52 = .ok (.ireturn, 1) := by decide +kernel
theorem dX6_style_0 : decode cX6_style 0 = .ok (.iload_n 1, 1) := by decide +kernel
theorem dX6_style_1 : decode cX6_style 1 = .ok (.iconst 0, 1) := by decide +kernel
theorem dX6_style_2 : decode cX6_style 2 = .ok (.getstatic 58, 3) := by decide +kernel
theorem dX6_style_5 : decode cX6_style 5 = .ok (.arraylength, 1) := by decide +kernel
theorem dX6_style_6 : decode cX6_style 6 = .ok (.iconst 1, 1) := by decide +kernel
theorem dX6_style_7 : decode cX6_style 7 = .ok (.isub, 1) := by decide +kernel
theorem dX6_style_8 : decode cX6_style 8 = .ok (.invokestatic 97, 3) := by decide +kernel
theorem dX6_style_11 : decode cX6_style 11 = .ok (.ifCond .ne 6, 3) := by decide +kernel
theorem dX6_style_14 : decode cX6_style 14 = .ok (.bipush (-2), 2) := by decide +kernel
theorem dX6_style_16 : decode cX6_style 16 = .ok (.ireturn, 1) := by decide +kernel
theorem dX6_style_17 : decode cX6_style 17 = .ok (.aload_n 0, 1) := by decide +kernel
theorem dX6_style_18 : decode cX6_style 18 = .ok (.getstatic 58, 3) := by decide +kernel
theorem dX6_style_21 : decode cX6_style 21 = .ok (.iload_n 1, 1) := by decide +kernel
theorem dX6_style_22 : decode cX6_style 22 = .ok (.iaload, 1) := by decide +kernel
theorem dX6_style_23 : decode cX6_style 23 = .ok (.putfield 62, 3) := by decide +kernel
theorem dX6_style_26 : decode cX6_style 26 = .ok (.aload_n 0, 1) := by decide +kernel
theorem dX6_style_27 : decode cX6_style 27 = .ok (.getfield 62, 3) := by decide +kernel
theorem dX6_style_30 : decode cX6_style 30 = .ok (.invokestatic 112, 3) := by decide +kernel
theorem dX6_style_33 : decode cX6_style 33 = .ok (.ireturn, 1) := by decide +kernel
theorem dX6_key_0 : decode cX6_key 0 = .ok (.iload_n 1, 1) := by decide +kernel
theorem dX6_key_1 : decode cX6_key 1 = .ok (.bipush (-7), 2) := by decide +kernel
theorem dX6_key_3 : decode cX6_key 3 = .ok (.bipush 7, 2) := by decide +kernel
theorem dX6_key_5 : decode cX6_key 5 = .ok (.invokestatic 97, 3) := by decide +kernel
theorem dX6_key_8 : decode cX6_key 8 = .ok (.ifCond .ne 6, 3) := by decide +kernel
theorem dX6_key_11 : decode cX6_key 11 = .ok (.bipush (-100), 2) := by decide +kernel
theorem dX6_key_13 : decode cX6_key 13 = .ok (.ireturn, 1) := by decide +kernel
theorem dX6_key_14 : decode cX6_key 14 = .ok (.aload_n 0, 1) := by decide +kernel
theorem dX6_key_15 : decode cX6_key 15 = .ok (.getfield 80, 3) := by decide +kernel
theorem dX6_key_18 : decode cX6_key 18 = .ok (.istore_n 2, 1) := by decide +kernel
theorem dX6_key_19 : decode cX6_key 19 = .ok (.aload_n 0, 1) := by decide +kernel
theorem dX6_key_20 : decode cX6_key 20 = .ok (.iload_n 1, 1) := by decide +kernel
theorem dX6_key_21 : decode cX6_key 21 = .ok (.putfield 80, 3) := by decide +kernel
theorem dX6_key_24 : decode cX6_key 24 = .ok (.iload_n 2, 1) := by decide +kernel
theorem dX6_key_25 : decode cX6_key 25 = .ok (.ireturn, 1) := by decide +kernel
theorem dX4_isNote_0 : decode cX4_isNote 0 = .ok (.aload_n 0, 1) := by decide +kernel
theorem dX4_isNote_1 : decode cX4_isNote 1 = .ok (.getfield 15, 3) := by decide +kernel
theorem dX4_isNote_4 : decode cX4_isNote 4 = .ok (.iload_n 1, 1) := by decide +kernel
theorem dX4_isNote_5 : decode cX4_isNote 5 = .ok (.iaload, 1) := by decide +kernel
theorem dX4_isNote_6 : decode cX4_isNote 6 = .ok (.iconst (-1), 1) := by decide +kernel
theorem dX4_isNote_7 : decode cX4_isNote 7 = .ok (.if_icmp .eq 7, 3) := by decide +kernel
theorem dX4_isNote_10 : decode cX4_isNote 10 = .ok (.iconst 1, 1) := by decide +kernel
theorem dX4_isNote_11 : decode cX4_isNote 11 = .ok (.goto 4, 3) := by decide +kernel
theorem dX4_isNote_14 : decode cX4_isNote 14 = .ok (.iconst 0, 1) := by decide +kernel
theorem dX4_isNote_15 : decode cX4_isNote 15 = .ok (.ireturn, 1) := by decide +kernel
theorem dX4_heightOf_0 : decode cX4_heightOf 0 = .ok (.aload_n 0, 1) := by decide +kernel
theorem dX4_heightOf_1 : decode cX4_heightOf 1 = .ok (.getfield 15, 3) := by decide +kernel
theorem dX4_heightOf_4 : decode cX4_heightOf 4 = .ok (.iload_n 1, 1) := by decide +kernel
theorem dX4_heightOf_5 : decode cX4_heightOf 5 = .ok (.iaload, 1) := by decide +kernel
theorem dX4_heightOf_6 : decode cX4_heightOf 6 = .ok (.istore_n 2, 1) := by decide +kernel
theorem dX4_heightOf_7 : decode cX4_heightOf 7 = .ok (.iload_n 2, 1) := by decide +kernel
theorem dX4_heightOf_8 : decode cX4_heightOf 8 = .ok (.ifCond .ge 6, 3) := by decide +kernel
theorem dX4_heightOf_11 : decode cX4_heightOf 11 = .ok (.bipush (-100), 2) := by decide +kernel
theorem dX4_heightOf_13 : decode cX4_heightOf 13 = .ok (.ireturn, 1) := by decide +kernel
theorem dX4_heightOf_14 : decode cX4_heightOf 14 = .ok (.bipush 12, 2) := by decide +kernel
theorem dX4_heightOf_16 : decode cX4_heightOf 16 = .ok (.iload_n 2, 1) := by decide +kernel
theorem dX4_heightOf_17 : decode cX4_heightOf 17 = .ok (.bipush 7, 2) := by decide +kernel
theorem dX4_heightOf_19 : decode cX4_heightOf 19 = .ok (.idiv, 1) := by decide +kernel
theorem dX4_heightOf_20 : decode cX4_heightOf 20 = .ok (.imul, 1) := by decide +kernel
theorem dX4_heightOf_21 : decode cX4_heightOf 21 = .ok (.getstatic 35, 3) := by decide +kernel
theorem dX4_heightOf_24 : decode cX4_heightOf 24 = .ok (.iload_n 2, 1) := by decide +kernel
theorem dX4_heightOf_25 : decode cX4_heightOf 25 = .ok (.bipush 7, 2) := by decide +kernel
theorem dX4_heightOf_27 : decode cX4_heightOf 27 = .ok (.irem, 1) := by decide +kernel
theorem dX4_heightOf_28 : decode cX4_heightOf 28 = .ok (.iaload, 1) := by decide +kernel
theorem dX4_heightOf_29 : decode cX4_heightOf 29 = .ok (.iadd, 1) := by decide +kernel
theorem dX4_heightOf_30 : decode cX4_heightOf 30 = .ok (.aload_n 0, 1) := by decide +kernel
theorem dX4_heightOf_31 : decode cX4_heightOf 31 = .ok (.getfield 18, 3) := by decide +kernel
theorem dX4_heightOf_34 : decode cX4_heightOf 34 = .ok (.iload_n 1, 1) := by decide +kernel
theorem dX4_heightOf_35 : decode cX4_heightOf 35 = .ok (.iaload, 1) := by decide +kernel
theorem dX4_heightOf_36 : decode cX4_heightOf 36 = .ok (.iadd, 1) := by decide +kernel
theorem dX4_heightOf_37 : decode cX4_heightOf 37 = .ok (.ireturn, 1) := by decide +kernel
theorem dX4_isOutside_0 : decode cX4_isOutside 0 = .ok (.iload_n 1, 1) := by decide +kernel
theorem dX4_isOutside_1 : decode cX4_isOutside 1 = .ok (.aload_n 0, 1) := by decide +kernel
theorem dX4_isOutside_2 : decode cX4_isOutside 2 = .ok (.getfield 21, 3) := by decide +kernel
theorem dX4_isOutside_5 : decode cX4_isOutside 5 = .ok (.if_icmp .lt 11, 3) := by decide +kernel
theorem dX4_isOutside_8 : decode cX4_isOutside 8 = .ok (.iload_n 1, 1) := by decide +kernel
theorem dX4_isOutside_9 : decode cX4_isOutside 9 = .ok (.aload_n 0, 1) := by decide +kernel
theorem dX4_isOutside_10 : decode cX4_isOutside 10 = .ok (.getfield 25, 3) := by decide +kernel
theorem dX4_isOutside_13 : decode cX4_isOutside 13 = .ok (.if_icmp .le 7, 3) := by decide +kernel
theorem dX4_isOutside_16 : decode cX4_isOutside 16 = .ok (.iconst 1, 1) := by decide +kernel
theorem dX4_isOutside_17 : decode cX4_isOutside 17 = .ok (.goto 4, 3) := by decide +kernel
theorem dX4_isOutside_20 : decode cX4_isOutside 20 = .ok (.iconst 0, 1) := by decide +kernel
theorem dX4_isOutside_21 : decode cX4_isOutside 21 = .ok (.ireturn, 1) := by decide +kernel
theorem dX4_notesOutside_0 : decode cX4_notesOutside 0 = .ok (.iconst 0, 1) := by decide +kernel
theorem dX4_notesOutside_1 : decode cX4_notesOutside 1 = .ok (.istore_n 1, 1) := by decide +kernel
theorem dX4_notesOutside_2 : decode cX4_notesOutside 2 = .ok (.iconst 0, 1) := by decide +kernel
theorem dX4_notesOutside_3 : decode cX4_notesOutside 3 = .ok (.istore_n 2, 1) := by decide +kernel
theorem dX4_notesOutside_4 : decode cX4_notesOutside 4 = .ok (.iload_n 2, 1) := by decide +kernel
theorem dX4_notesOutside_5 : decode cX4_notesOutside 5 = .ok (.aload_n 0, 1) := by decide +kernel
theorem dX4_notesOutside_6 : decode cX4_notesOutside 6 = .ok (.getfield 28, 3) := by decide +kernel
theorem dX4_notesOutside_9 : decode cX4_notesOutside 9 = .ok (.if_icmp .ge 32, 3) := by decide +kernel
theorem dX4_notesOutside_12 : decode cX4_notesOutside 12 = .ok (.aload_n 0, 1) := by decide +kernel
theorem dX4_notesOutside_13 : decode cX4_notesOutside 13 = .ok (.iload_n 2, 1) := by decide +kernel
theorem dX4_notesOutside_14 : decode cX4_notesOutside 14 = .ok (.invokevirtual 38, 3) := by decide +kernel
theorem dX4_notesOutside_17 : decode cX4_notesOutside 17 = .ok (.ifCond .eq 18, 3) := by decide +kernel
theorem dX4_notesOutside_20 : decode cX4_notesOutside 20 = .ok (.aload_n 0, 1) := by decide +kernel
theorem dX4_notesOutside_21 : decode cX4_notesOutside 21 = .ok (.aload_n 0, 1) := by decide +kernel
theorem dX4_notesOutside_22 : decode cX4_notesOutside 22 = .ok (.iload_n 2, 1) := by decide +kernel
theorem dX4_notesOutside_23 : decode cX4_notesOutside 23 = .ok (.invokevirtual 42, 3) := by decide +kernel
theorem dX4_notesOutside_26 : decode cX4_notesOutside 26 = .ok (.invokevirtual 46, 3) := by decide +kernel
theorem dX4_notesOutside_29 : decode cX4_notesOutside 29 = .ok (.ifCond .eq 6, 3) := by decide +kernel
theorem dX4_notesOutside_32 : decode cX4_notesOutside 32 = .ok (.iinc 1 1, 3) := by decide +kernel
theorem dX4_notesOutside_35 : decode cX4_notesOutside 35 = .ok (.iinc 2 1, 3) := by decide +kernel
theorem dX4_notesOutside_38 : decode cX4_notesOutside 38 = .ok (.goto (-34), 3) := by decide +kernel
theorem dX4_notesOutside_41 : decode cX4_notesOutside 41 = .ok (.iload_n 1, 1) := by decide +kernel
theorem dX4_notesOutside_42 : decode cX4_notesOutside 42 = .ok (.ireturn, 1) := by decide +kernel
theorem dX6_range_0 : decode cX6_range 0 = .ok (.aload_n 0, 1) := by decide +kernel
theorem dX6_range_1 : decode cX6_range 1 = .ok (.iload_n 1, 1) := by decide +kernel
theorem dX6_range_2 : decode cX6_range 2 = .ok (.invokevirtual 90, 3) := by decide +kernel
theorem dX6_range_5 : decode cX6_range 5 = .ok (.ifCond .eq 30, 3) := by decide +kernel
theorem dX6_range_8 : decode cX6_range 8 = .ok (.iload_n 2, 1) := by decide +kernel
theorem dX6_range_9 : decode cX6_range 9 = .ok (.bipush (-2), 2) := by decide +kernel
theorem dX6_range_11 : decode cX6_range 11 = .ok (.bipush 99, 2) := by decide +kernel
theorem dX6_range_13 : decode cX6_range 13 = .ok (.invokestatic 97, 3) := by decide +kernel
theorem dX6_range_16 : decode cX6_range 16 = .ok (.ifCond .eq 19, 3) := by decide +kernel
theorem dX6_range_19 : decode cX6_range 19 = .ok (.iload_n 3, 1) := by decide +kernel
theorem dX6_range_20 : decode cX6_range 20 = .ok (.bipush (-2), 2) := by decide +kernel
theorem dX6_range_22 : decode cX6_range 22 = .ok (.bipush 99, 2) := by decide +kernel
theorem dX6_range_24 : decode cX6_range 24 = .ok (.invokestatic 97, 3) := by decide +kernel
theorem dX6_range_27 : decode cX6_range 27 = .ok (.ifCond .eq 8, 3) := by decide +kernel
theorem dX6_range_30 : decode cX6_range 30 = .ok (.iload_n 2, 1) := by decide +kernel
theorem dX6_range_31 : decode cX6_range 31 = .ok (.iload_n 3, 1) := by decide +kernel
theorem dX6_range_32 : decode cX6_range 32 = .ok (.if_icmp .le 6, 3) := by decide +kernel
theorem dX6_range_35 : decode cX6_range 35 = .ok (.bipush (-2), 2) := by decide +kernel
theorem dX6_range_37 : decode cX6_range 37 = .ok (.ireturn, 1) := by decide +kernel
theorem dX6_range_38 : decode cX6_range 38 = .ok (.aload_n 0, 1) := by decide +kernel
theorem dX6_range_39 : decode cX6_range 39 = .ok (.getfield 20, 3) := by decide +kernel
theorem dX6_range_42 : decode cX6_range 42 = .ok (.iload_n 1, 1) := by decide +kernel
theorem dX6_range_43 : decode cX6_range 43 = .ok (.aaload, 1) := by decide +kernel
theorem dX6_range_44 : decode cX6_range 44 = .ok (.astore 4, 2) := by decide +kernel
theorem dX6_range_46 : decode cX6_range 46 = .ok (.aload 4, 2) := by decide +kernel
theorem dX6_range_48 : decode cX6_range 48 = .ok (.iload_n 2, 1) := by decide +kernel
theorem dX6_range_49 : decode cX6_range 49 = .ok (.putfield 118, 3) := by decide +kernel
theorem dX6_range_52 : decode cX6_range 52 = .ok (.aload 4, 2) := by decide +kernel
theorem dX6_range_54 : decode cX6_range 54 = .ok (.iload_n 3, 1) := by decide +kernel
theorem dX6_range_55 : decode cX6_range 55 = .ok (.putfield 121, 3) := by decide +kernel
theorem dX6_range_58 : decode cX6_range 58 = .ok (.aload 4, 2) := by decide +kernel
theorem dX6_range_60 : decode cX6_range 60 = .ok (.invokevirtual 124, 3) := by decide +kernel
theorem dX6_range_63 : decode cX6_range 63 = .ok (.ireturn, 1) := by decide +kernel
theorem dX6_grid_0 : decode cX6_grid 0 = .ok (.iload_n 1, 1) := by decide +kernel
theorem dX6_grid_1 : decode cX6_grid 1 = .ok (.ifCond .eq 18, 3) := by decide +kernel
theorem dX6_grid_4 : decode cX6_grid 4 = .ok (.iload_n 1, 1) := by decide +kernel
theorem dX6_grid_5 : decode cX6_grid 5 = .ok (.bipush 10, 2) := by decide +kernel
theorem dX6_grid_7 : decode cX6_grid 7 = .ok (.sipush 500, 3) := by decide +kernel
theorem dX6_grid_10 : decode cX6_grid 10 = .ok (.invokestatic 97, 3) := by decide +kernel
theorem dX6_grid_13 : decode cX6_grid 13 = .ok (.ifCond .ne 6, 3) := by decide +kernel
theorem dX6_grid_16 : decode cX6_grid 16 = .ok (.bipush (-2), 2) := by decide +kernel
theorem dX6_grid_18 : decode cX6_grid 18 = .ok (.ireturn, 1) := by decide +kernel
theorem dX6_grid_19 : decode cX6_grid 19 = .ok (.aload_n 0, 1) := by decide +kernel
theorem dX6_grid_20 : decode cX6_grid 20 = .ok (.iload_n 1, 1) := by decide +kernel
theorem dX6_grid_21 : decode cX6_grid 21 = .ok (.putfield 83, 3) := by decide +kernel
theorem dX6_grid_24 : decode cX6_grid 24 = .ok (.aload_n 0, 1) := by decide +kernel
theorem dX6_grid_25 : decode cX6_grid 25 = .ok (.getfield 28, 3) := by decide +kernel
theorem dX6_grid_28 : decode cX6_grid 28 = .ok (.aload_n 0, 1) := by decide +kernel
theorem dX6_grid_29 : decode cX6_grid 29 = .ok (.getfield 20, 3) := by decide +kernel
theorem dX6_grid_32 : decode cX6_grid 32 = .ok (.iload_n 1, 1) := by decide +kernel
theorem dX6_grid_33 : decode cX6_grid 33 = .ok (.invokevirtual 86, 3) := by decide +kernel
theorem dX6_grid_36 : decode cX6_grid 36 = .ok (.aload_n 0, 1) := by decide +kernel
theorem dX6_grid_37 : decode cX6_grid 37 = .ok (.getfield 28, 3) := by decide +kernel
theorem dX6_grid_40 : decode cX6_grid 40 = .ok (.getfield 127, 3) := by decide +kernel
theorem dX6_grid_43 : decode cX6_grid 43 = .ok (.ireturn, 1) := by decide +kernel
theorem dX1_append_0 : decode cX1_append 0 = .ok (.aload_n 0, 1) := by decide +kernel
theorem dX1_append_1 : decode cX1_append 1 = .ok (.getfield 24, 3) := by decide +kernel
theorem dX1_append_4 : decode cX1_append 4 = .ok (.aload_n 0, 1) := by decide +kernel
theorem dX1_append_5 : decode cX1_append 5 = .ok (.getfield 15, 3) := by decide +kernel
theorem dX1_append_8 : decode cX1_append 8 = .ok (.arraylength, 1) := by decide +kernel
theorem dX1_append_9 : decode cX1_append 9 = .ok (.if_icmp .lt 6, 3) := by decide +kernel
theorem dX1_append_12 : decode cX1_append 12 = .ok (.bipush (-3), 2) := by decide +kernel
theorem dX1_append_14 : decode cX1_append 14 = .ok (.ireturn, 1) := by decide +kernel
theorem dX1_append_15 : decode cX1_append 15 = .ok (.aload_n 0, 1) := by decide +kernel
theorem dX1_append_16 : decode cX1_append 16 = .ok (.getfield 15, 3) := by decide +kernel
theorem dX1_append_19 : decode cX1_append 19 = .ok (.aload_n 0, 1) := by decide +kernel
theorem dX1_append_20 : decode cX1_append 20 = .ok (.getfield 24, 3) := by decide +kernel
theorem dX1_append_23 : decode cX1_append 23 = .ok (.iload_n 1, 1) := by decide +kernel
theorem dX1_append_24 : decode cX1_append 24 = .ok (.iastore, 1) := by decide +kernel
theorem dX1_append_25 : decode cX1_append 25 = .ok (.aload_n 0, 1) := by decide +kernel
theorem dX1_append_26 : decode cX1_append 26 = .ok (.getfield 21, 3) := by decide +kernel
theorem dX1_append_29 : decode cX1_append 29 = .ok (.aload_n 0, 1) := by decide +kernel
theorem dX1_append_30 : decode cX1_append 30 = .ok (.getfield 24, 3) := by decide +kernel
theorem dX1_append_33 : decode cX1_append 33 = .ok (.iload_n 2, 1) := by decide +kernel
theorem dX1_append_34 : decode cX1_append 34 = .ok (.iastore, 1) := by decide +kernel
theorem dX1_append_35 : decode cX1_append 35 = .ok (.aload_n 0, 1) := by decide +kernel
theorem dX1_append_36 : decode cX1_append 36 = .ok (.dup, 1) := by decide +kernel
theorem dX1_append_37 : decode cX1_append 37 = .ok (.getfield 24, 3) := by decide +kernel
theorem dX1_append_40 : decode cX1_append 40 = .ok (.iconst 1, 1) := by decide +kernel
theorem dX1_append_41 : decode cX1_append 41 = .ok (.iadd, 1) := by decide +kernel
theorem dX1_append_42 : decode cX1_append 42 = .ok (.putfield 24, 3) := by decide +kernel
theorem dX1_append_45 : decode cX1_append 45 = .ok (.aload_n 0, 1) := by decide +kernel
theorem dX1_append_46 : decode cX1_append 46 = .ok (.getfield 24, 3) := by decide +kernel
theorem dX1_append_49 : decode cX1_append 49 = .ok (.ireturn, 1) := by decide +kernel
theorem dX6_repeat_0 : decode cX6_repeat 0 = .ok (.iload_n 1, 1) := by decide +kernel
theorem dX6_repeat_1 : decode cX6_repeat 1 = .ok (.invokestatic 94, 3) := by decide +kernel
theorem dX6_repeat_4 : decode cX6_repeat 4 = .ok (.ifCond .eq 15, 3) := by decide +kernel
theorem dX6_repeat_7 : decode cX6_repeat 7 = .ok (.iload_n 2, 1) := by decide +kernel
theorem dX6_repeat_8 : decode cX6_repeat 8 = .ok (.invokestatic 94, 3) := by decide +kernel
theorem dX6_repeat_11 : decode cX6_repeat 11 = .ok (.ifCond .eq 8, 3) := by decide +kernel
theorem dX6_repeat_14 : decode cX6_repeat 14 = .ok (.iload_n 1, 1) := by decide +kernel
theorem dX6_repeat_15 : decode cX6_repeat 15 = .ok (.iload_n 2, 1) := by decide +kernel
theorem dX6_repeat_16 : decode cX6_repeat 16 = .ok (.if_icmp .lt 6, 3) := by decide +kernel
theorem dX6_repeat_19 : decode cX6_repeat 19 = .ok (.bipush (-2), 2) := by decide +kernel
theorem dX6_repeat_21 : decode cX6_repeat 21 = .ok (.ireturn, 1) := by decide +kernel
theorem dX6_repeat_22 : decode cX6_repeat 22 = .ok (.aload_n 0, 1) := by decide +kernel
theorem dX6_repeat_23 : decode cX6_repeat 23 = .ok (.getfield 37, 3) := by decide +kernel
theorem dX6_repeat_26 : decode cX6_repeat 26 = .ok (.iload_n 1, 1) := by decide +kernel
theorem dX6_repeat_27 : decode cX6_repeat 27 = .ok (.iload_n 2, 1) := by decide +kernel
theorem dX6_repeat_28 : decode cX6_repeat 28 = .ok (.invokevirtual 128, 3) := by decide +kernel
theorem dX6_repeat_31 : decode cX6_repeat 31 = .ok (.ireturn, 1) := by decide +kernel
theorem dX1_holds_0 : decode cX1_holds 0 = .ok (.iconst 0, 1) := by decide +kernel
theorem dX1_holds_1 : decode cX1_holds 1 = .ok (.istore_n 3, 1) := by decide +kernel
theorem dX1_holds_2 : decode cX1_holds 2 = .ok (.iload_n 3, 1) := by decide +kernel
theorem dX1_holds_3 : decode cX1_holds 3 = .ok (.aload_n 0, 1) := by decide +kernel
theorem dX1_holds_4 : decode cX1_holds 4 = .ok (.getfield 24, 3) := by decide +kernel
theorem dX1_holds_7 : decode cX1_holds 7 = .ok (.if_icmp .ge 31, 3) := by decide +kernel
theorem dX1_holds_10 : decode cX1_holds 10 = .ok (.aload_n 0, 1) := by decide +kernel
theorem dX1_holds_11 : decode cX1_holds 11 = .ok (.getfield 15, 3) := by decide +kernel
theorem dX1_holds_14 : decode cX1_holds 14 = .ok (.iload_n 3, 1) := by decide +kernel
theorem dX1_holds_15 : decode cX1_holds 15 = .ok (.iaload, 1) := by decide +kernel
theorem dX1_holds_16 : decode cX1_holds 16 = .ok (.iload_n 1, 1) := by decide +kernel
theorem dX1_holds_17 : decode cX1_holds 17 = .ok (.if_icmp .ne 15, 3) := by decide +kernel
theorem dX1_holds_20 : decode cX1_holds 20 = .ok (.aload_n 0, 1) := by decide +kernel
theorem dX1_holds_21 : decode cX1_holds 21 = .ok (.getfield 21, 3) := by decide +kernel
theorem dX1_holds_24 : decode cX1_holds 24 = .ok (.iload_n 3, 1) := by decide +kernel
theorem dX1_holds_25 : decode cX1_holds 25 = .ok (.iaload, 1) := by decide +kernel
theorem dX1_holds_26 : decode cX1_holds 26 = .ok (.iload_n 2, 1) := by decide +kernel
theorem dX1_holds_27 : decode cX1_holds 27 = .ok (.if_icmp .ne 5, 3) := by decide +kernel
theorem dX1_holds_30 : decode cX1_holds 30 = .ok (.iconst 1, 1) := by decide +kernel
theorem dX1_holds_31 : decode cX1_holds 31 = .ok (.ireturn, 1) := by decide +kernel
theorem dX1_holds_32 : decode cX1_holds 32 = .ok (.iinc 3 1, 3) := by decide +kernel
theorem dX1_holds_35 : decode cX1_holds 35 = .ok (.goto (-33), 3) := by decide +kernel
theorem dX1_holds_38 : decode cX1_holds 38 = .ok (.iconst 0, 1) := by decide +kernel
theorem dX1_holds_39 : decode cX1_holds 39 = .ok (.ireturn, 1) := by decide +kernel
theorem dX6_except_0 : decode cX6_except 0 = .ok (.iload_n 1, 1) := by decide +kernel
theorem dX6_except_1 : decode cX6_except 1 = .ok (.invokestatic 109, 3) := by decide +kernel
theorem dX6_except_4 : decode cX6_except 4 = .ok (.ifCond .eq 10, 3) := by decide +kernel
theorem dX6_except_7 : decode cX6_except 7 = .ok (.iload_n 2, 1) := by decide +kernel
theorem dX6_except_8 : decode cX6_except 8 = .ok (.invokestatic 94, 3) := by decide +kernel
theorem dX6_except_11 : decode cX6_except 11 = .ok (.ifCond .ne 6, 3) := by decide +kernel
theorem dX6_except_14 : decode cX6_except 14 = .ok (.bipush (-2), 2) := by decide +kernel
theorem dX6_except_16 : decode cX6_except 16 = .ok (.ireturn, 1) := by decide +kernel
theorem dX6_except_17 : decode cX6_except 17 = .ok (.aload_n 0, 1) := by decide +kernel
theorem dX6_except_18 : decode cX6_except 18 = .ok (.getfield 41, 3) := by decide +kernel
theorem dX6_except_21 : decode cX6_except 21 = .ok (.iload_n 1, 1) := by decide +kernel
theorem dX6_except_22 : decode cX6_except 22 = .ok (.iload_n 2, 1) := by decide +kernel
theorem dX6_except_23 : decode cX6_except 23 = .ok (.invokevirtual 130, 3) := by decide +kernel
theorem dX6_except_26 : decode cX6_except 26 = .ok (.ifCond .eq 5, 3) := by decide +kernel
theorem dX6_except_29 : decode cX6_except 29 = .ok (.iconst (-1), 1) := by decide +kernel
theorem dX6_except_30 : decode cX6_except 30 = .ok (.ireturn, 1) := by decide +kernel
theorem dX6_except_31 : decode cX6_except 31 = .ok (.aload_n 0, 1) := by decide +kernel
theorem dX6_except_32 : decode cX6_except 32 = .ok (.getfield 41, 3) := by decide +kernel
theorem dX6_except_35 : decode cX6_except 35 = .ok (.iload_n 1, 1) := by decide +kernel
theorem dX6_except_36 : decode cX6_except 36 = .ok (.iload_n 2, 1) := by decide +kernel
theorem dX6_except_37 : decode cX6_except 37 = .ok (.invokevirtual 128, 3) := by decide +kernel
theorem dX6_except_40 : decode cX6_except 40 = .ok (.ireturn, 1) := by decide +kernel
