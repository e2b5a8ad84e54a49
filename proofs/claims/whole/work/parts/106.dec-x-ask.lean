theorem dX2_bitAfter_0 : decode cX2_bitAfter 0 = .ok (.iload_n 1, 1) := by decide +kernel
theorem dX2_bitAfter_1 : decode cX2_bitAfter 1 = .ok (.istore_n 2, 1) := by decide +kernel
theorem dX2_bitAfter_2 : decode cX2_bitAfter 2 = .ok (.iconst 0, 1) := by decide +kernel
theorem dX2_bitAfter_3 : decode cX2_bitAfter 3 = .ok (.istore_n 3, 1) := by decide +kernel
theorem dX2_bitAfter_4 : decode cX2_bitAfter 4 = .ok (.iload_n 3, 1) := by decide +kernel
theorem dX2_bitAfter_5 : decode cX2_bitAfter 5 = .ok (.bipush 25, 2) := by decide +kernel
theorem dX2_bitAfter_7 : decode cX2_bitAfter 7 = .ok (.if_icmp .ge 27, 3) := by decide +kernel
theorem dX2_bitAfter_10 : decode cX2_bitAfter 10 = .ok (.iload_n 0, 1) := by decide +kernel
theorem dX2_bitAfter_11 : decode cX2_bitAfter 11 = .ok (.iload_n 3, 1) := by decide +kernel
theorem dX2_bitAfter_12 : decode cX2_bitAfter 12 = .ok (.ishr, 1) := by decide +kernel
theorem dX2_bitAfter_13 : decode cX2_bitAfter 13 = .ok (.iconst 1, 1) := by decide +kernel
theorem dX2_bitAfter_14 : decode cX2_bitAfter 14 = .ok (.iand, 1) := by decide +kernel
theorem dX2_bitAfter_15 : decode cX2_bitAfter 15 = .ok (.iconst 1, 1) := by decide +kernel
theorem dX2_bitAfter_16 : decode cX2_bitAfter 16 = .ok (.if_icmp .ne 12, 3) := by decide +kernel
theorem dX2_bitAfter_19 : decode cX2_bitAfter 19 = .ok (.iload_n 2, 1) := by decide +kernel
theorem dX2_bitAfter_20 : decode cX2_bitAfter 20 = .ok (.ifCond .ne 5, 3) := by decide +kernel
theorem dX2_bitAfter_23 : decode cX2_bitAfter 23 = .ok (.iload_n 3, 1) := by decide +kernel
theorem dX2_bitAfter_24 : decode cX2_bitAfter 24 = .ok (.ireturn, 1) := by decide +kernel
theorem dX2_bitAfter_25 : decode cX2_bitAfter 25 = .ok (.iinc 2 (-1), 3) := by decide +kernel
theorem dX2_bitAfter_28 : decode cX2_bitAfter 28 = .ok (.iinc 3 1, 3) := by decide +kernel
theorem dX2_bitAfter_31 : decode cX2_bitAfter 31 = .ok (.goto (-27), 3) := by decide +kernel
theorem dX2_bitAfter_34 : decode cX2_bitAfter 34 = .ok (.iconst 0, 1) := by decide +kernel
theorem dX2_bitAfter_35 : decode cX2_bitAfter 35 = .ok (.ireturn, 1) := by decide +kernel
theorem dX2_tellOfCell_0 : decode cX2_tellOfCell 0 = .ok (.aload_n 0, 1) := by decide +kernel
theorem dX2_tellOfCell_1 : decode cX2_tellOfCell 1 = .ok (.getfield 9, 3) := by decide +kernel
theorem dX2_tellOfCell_4 : decode cX2_tellOfCell 4 = .ok (.iload_n 1, 1) := by decide +kernel
theorem dX2_tellOfCell_5 : decode cX2_tellOfCell 5 = .ok (.iaload, 1) := by decide +kernel
theorem dX2_tellOfCell_6 : decode cX2_tellOfCell 6 = .ok (.iload_n 2, 1) := by decide +kernel
theorem dX2_tellOfCell_7 : decode cX2_tellOfCell 7 = .ok (.invokestatic 62, 3) := by decide +kernel
theorem dX2_tellOfCell_10 : decode cX2_tellOfCell 10 = .ok (.istore 4, 2) := by decide +kernel
theorem dX2_tellOfCell_12 : decode cX2_tellOfCell 12 = .ok (.iload 4, 2) := by decide +kernel
theorem dX2_tellOfCell_14 : decode cX2_tellOfCell 14 = .ok (.iconst 5, 1) := by decide +kernel
theorem dX2_tellOfCell_15 : decode cX2_tellOfCell 15 = .ok (.idiv, 1) := by decide +kernel
theorem dX2_tellOfCell_16 : decode cX2_tellOfCell 16 = .ok (.istore 5, 2) := by decide +kernel
theorem dX2_tellOfCell_18 : decode cX2_tellOfCell 18 = .ok (.iload 4, 2) := by decide +kernel
theorem dX2_tellOfCell_20 : decode cX2_tellOfCell 20 = .ok (.iconst 5, 1) := by decide +kernel
theorem dX2_tellOfCell_21 : decode cX2_tellOfCell 21 = .ok (.irem, 1) := by decide +kernel
theorem dX2_tellOfCell_22 : decode cX2_tellOfCell 22 = .ok (.istore 6, 2) := by decide +kernel
theorem dX2_tellOfCell_24 : decode cX2_tellOfCell 24 = .ok (.iload_n 3, 1) := by decide +kernel
theorem dX2_tellOfCell_25 : decode cX2_tellOfCell 25 = .ok (.tableswitch 63 0 3 #[31, 36, 46, 49], 31) := by decide +kernel
theorem dX2_tellOfCell_56 : decode cX2_tellOfCell 56 = .ok (.iload_n 1, 1) := by decide +kernel
theorem dX2_tellOfCell_57 : decode cX2_tellOfCell 57 = .ok (.bipush 14, 2) := by decide +kernel
theorem dX2_tellOfCell_59 : decode cX2_tellOfCell 59 = .ok (.irem, 1) := by decide +kernel
theorem dX2_tellOfCell_60 : decode cX2_tellOfCell 60 = .ok (.ireturn, 1) := by decide +kernel
theorem dX2_tellOfCell_61 : decode cX2_tellOfCell 61 = .ok (.aload_n 0, 1) := by decide +kernel
theorem dX2_tellOfCell_62 : decode cX2_tellOfCell 62 = .ok (.getfield 15, 3) := by decide +kernel
theorem dX2_tellOfCell_65 : decode cX2_tellOfCell 65 = .ok (.iload_n 1, 1) := by decide +kernel
theorem dX2_tellOfCell_66 : decode cX2_tellOfCell 66 = .ok (.bipush 14, 2) := by decide +kernel
theorem dX2_tellOfCell_68 : decode cX2_tellOfCell 68 = .ok (.idiv, 1) := by decide +kernel
theorem dX2_tellOfCell_69 : decode cX2_tellOfCell 69 = .ok (.iaload, 1) := by decide +kernel
theorem dX2_tellOfCell_70 : decode cX2_tellOfCell 70 = .ok (.ireturn, 1) := by decide +kernel
theorem dX2_tellOfCell_71 : decode cX2_tellOfCell 71 = .ok (.iload 5, 2) := by decide +kernel
theorem dX2_tellOfCell_73 : decode cX2_tellOfCell 73 = .ok (.ireturn, 1) := by decide +kernel
theorem dX2_tellOfCell_74 : decode cX2_tellOfCell 74 = .ok (.iload 5, 2) := by decide +kernel
theorem dX2_tellOfCell_76 : decode cX2_tellOfCell 76 = .ok (.iload 6, 2) := by decide +kernel
theorem dX2_tellOfCell_78 : decode cX2_tellOfCell 78 = .ok (.if_icmp .ne 7, 3) := by decide +kernel
theorem dX2_tellOfCell_81 : decode cX2_tellOfCell 81 = .ok (.iconst (-1), 1) := by decide +kernel
theorem dX2_tellOfCell_82 : decode cX2_tellOfCell 82 = .ok (.goto 5, 3) := by decide +kernel
theorem dX2_tellOfCell_85 : decode cX2_tellOfCell 85 = .ok (.iload 6, 2) := by decide +kernel
theorem dX2_tellOfCell_87 : decode cX2_tellOfCell 87 = .ok (.ireturn, 1) := by decide +kernel
theorem dX2_tellOfCell_88 : decode cX2_tellOfCell 88 = .ok (.iload_n 1, 1) := by decide +kernel
theorem dX2_tellOfCell_89 : decode cX2_tellOfCell 89 = .ok (.bipush 14, 2) := by decide +kernel
theorem dX2_tellOfCell_91 : decode cX2_tellOfCell 91 = .ok (.idiv, 1) := by decide +kernel
theorem dX2_tellOfCell_92 : decode cX2_tellOfCell 92 = .ok (.ireturn, 1) := by decide +kernel
theorem dX2_tell_0 : decode cX2_tell 0 = .ok (.iload_n 1, 1) := by decide +kernel
theorem dX2_tell_1 : decode cX2_tell 1 = .ok (.istore_n 3, 1) := by decide +kernel
theorem dX2_tell_2 : decode cX2_tell 2 = .ok (.iconst 0, 1) := by decide +kernel
theorem dX2_tell_3 : decode cX2_tell 3 = .ok (.istore 4, 2) := by decide +kernel
theorem dX2_tell_5 : decode cX2_tell 5 = .ok (.iload 4, 2) := by decide +kernel
theorem dX2_tell_7 : decode cX2_tell 7 = .ok (.aload_n 0, 1) := by decide +kernel
theorem dX2_tell_8 : decode cX2_tell 8 = .ok (.getfield 27, 3) := by decide +kernel
theorem dX2_tell_11 : decode cX2_tell 11 = .ok (.bipush 14, 2) := by decide +kernel
theorem dX2_tell_13 : decode cX2_tell 13 = .ok (.imul, 1) := by decide +kernel
theorem dX2_tell_14 : decode cX2_tell 14 = .ok (.if_icmp .ge 41, 3) := by decide +kernel
theorem dX2_tell_17 : decode cX2_tell 17 = .ok (.aload_n 0, 1) := by decide +kernel
theorem dX2_tell_18 : decode cX2_tell 18 = .ok (.getfield 9, 3) := by decide +kernel
theorem dX2_tell_21 : decode cX2_tell 21 = .ok (.iload 4, 2) := by decide +kernel
theorem dX2_tell_23 : decode cX2_tell 23 = .ok (.iaload, 1) := by decide +kernel
theorem dX2_tell_24 : decode cX2_tell 24 = .ok (.invokestatic 52, 3) := by decide +kernel
theorem dX2_tell_27 : decode cX2_tell 27 = .ok (.istore 5, 2) := by decide +kernel
theorem dX2_tell_29 : decode cX2_tell 29 = .ok (.iload_n 3, 1) := by decide +kernel
theorem dX2_tell_30 : decode cX2_tell 30 = .ok (.iload 5, 2) := by decide +kernel
theorem dX2_tell_32 : decode cX2_tell 32 = .ok (.if_icmp .ge 12, 3) := by decide +kernel
theorem dX2_tell_35 : decode cX2_tell 35 = .ok (.aload_n 0, 1) := by decide +kernel
theorem dX2_tell_36 : decode cX2_tell 36 = .ok (.iload 4, 2) := by decide +kernel
theorem dX2_tell_38 : decode cX2_tell 38 = .ok (.iload_n 3, 1) := by decide +kernel
theorem dX2_tell_39 : decode cX2_tell 39 = .ok (.iload_n 2, 1) := by decide +kernel
theorem dX2_tell_40 : decode cX2_tell 40 = .ok (.invokevirtual 58, 3) := by decide +kernel
theorem dX2_tell_43 : decode cX2_tell 43 = .ok (.ireturn, 1) := by decide +kernel
theorem dX2_tell_44 : decode cX2_tell 44 = .ok (.iload_n 3, 1) := by decide +kernel
theorem dX2_tell_45 : decode cX2_tell 45 = .ok (.iload 5, 2) := by decide +kernel
theorem dX2_tell_47 : decode cX2_tell 47 = .ok (.isub, 1) := by decide +kernel
theorem dX2_tell_48 : decode cX2_tell 48 = .ok (.istore_n 3, 1) := by decide +kernel
theorem dX2_tell_49 : decode cX2_tell 49 = .ok (.iinc 4 1, 3) := by decide +kernel
theorem dX2_tell_52 : decode cX2_tell 52 = .ok (.goto (-47), 3) := by decide +kernel
theorem dX2_tell_55 : decode cX2_tell 55 = .ok (.bipush (-2), 2) := by decide +kernel
theorem dX2_tell_57 : decode cX2_tell 57 = .ok (.ireturn, 1) := by decide +kernel
theorem dX6_fault_0 : decode cX6_fault 0 = .ok (.aload_n 0, 1) := by decide +kernel
theorem dX6_fault_1 : decode cX6_fault 1 = .ok (.getfield 47, 3) := by decide +kernel
theorem dX6_fault_4 : decode cX6_fault 4 = .ok (.getfield 73, 3) := by decide +kernel
theorem dX6_fault_7 : decode cX6_fault 7 = .ok (.astore_n 3, 1) := by decide +kernel
theorem dX6_fault_8 : decode cX6_fault 8 = .ok (.iload_n 1, 1) := by decide +kernel
theorem dX6_fault_9 : decode cX6_fault 9 = .ok (.iconst 0, 1) := by decide +kernel
theorem dX6_fault_10 : decode cX6_fault 10 = .ok (.aload_n 3, 1) := by decide +kernel
theorem dX6_fault_11 : decode cX6_fault 11 = .ok (.getfield 158, 3) := by decide +kernel
theorem dX6_fault_14 : decode cX6_fault 14 = .ok (.iconst 1, 1) := by decide +kernel
theorem dX6_fault_15 : decode cX6_fault 15 = .ok (.isub, 1) := by decide +kernel
theorem dX6_fault_16 : decode cX6_fault 16 = .ok (.invokestatic 97, 3) := by decide +kernel
theorem dX6_fault_19 : decode cX6_fault 19 = .ok (.ifCond .eq 12, 3) := by decide +kernel
theorem dX6_fault_22 : decode cX6_fault 22 = .ok (.iload_n 2, 1) := by decide +kernel
theorem dX6_fault_23 : decode cX6_fault 23 = .ok (.iconst 0, 1) := by decide +kernel
theorem dX6_fault_24 : decode cX6_fault 24 = .ok (.iconst 4, 1) := by decide +kernel
theorem dX6_fault_25 : decode cX6_fault 25 = .ok (.invokestatic 97, 3) := by decide +kernel
theorem dX6_fault_28 : decode cX6_fault 28 = .ok (.ifCond .ne 6, 3) := by decide +kernel
theorem dX6_fault_31 : decode cX6_fault 31 = .ok (.bipush (-2), 2) := by decide +kernel
theorem dX6_fault_33 : decode cX6_fault 33 = .ok (.ireturn, 1) := by decide +kernel
theorem dX6_fault_34 : decode cX6_fault 34 = .ok (.aload_n 3, 1) := by decide +kernel
theorem dX6_fault_35 : decode cX6_fault 35 = .ok (.iload_n 1, 1) := by decide +kernel
theorem dX6_fault_36 : decode cX6_fault 36 = .ok (.iload_n 2, 1) := by decide +kernel
theorem dX6_fault_37 : decode cX6_fault 37 = .ok (.invokevirtual 161, 3) := by decide +kernel
theorem dX6_fault_40 : decode cX6_fault 40 = .ok (.ireturn, 1) := by decide +kernel
theorem dX6_count_0 : decode cX6_count 0 = .ok (.aload_n 0, 1) := by decide +kernel
theorem dX6_count_1 : decode cX6_count 1 = .ok (.getfield 47, 3) := by decide +kernel
theorem dX6_count_4 : decode cX6_count 4 = .ok (.getfield 73, 3) := by decide +kernel
theorem dX6_count_7 : decode cX6_count 7 = .ok (.astore_n 2, 1) := by decide +kernel
theorem dX6_count_8 : decode cX6_count 8 = .ok (.iload_n 1, 1) := by decide +kernel
theorem dX6_count_9 : decode cX6_count 9 = .ok (.invokestatic 109, 3) := by decide +kernel
theorem dX6_count_12 : decode cX6_count 12 = .ok (.ifCond .eq 10, 3) := by decide +kernel
theorem dX6_count_15 : decode cX6_count 15 = .ok (.aload_n 2, 1) := by decide +kernel
theorem dX6_count_16 : decode cX6_count 16 = .ok (.getfield 164, 3) := by decide +kernel
theorem dX6_count_19 : decode cX6_count 19 = .ok (.iload_n 1, 1) := by decide +kernel
theorem dX6_count_20 : decode cX6_count 20 = .ok (.iaload, 1) := by decide +kernel
theorem dX6_count_21 : decode cX6_count 21 = .ok (.ireturn, 1) := by decide +kernel
theorem dX6_count_22 : decode cX6_count 22 = .ok (.iload_n 1, 1) := by decide +kernel
theorem dX6_count_23 : decode cX6_count 23 = .ok (.bipush 14, 2) := by decide +kernel
theorem dX6_count_25 : decode cX6_count 25 = .ok (.if_icmp .ne 8, 3) := by decide +kernel
theorem dX6_count_28 : decode cX6_count 28 = .ok (.aload_n 2, 1) := by decide +kernel
theorem dX6_count_29 : decode cX6_count 29 = .ok (.getfield 158, 3) := by decide +kernel
theorem dX6_count_32 : decode cX6_count 32 = .ok (.ireturn, 1) := by decide +kernel
theorem dX6_count_33 : decode cX6_count 33 = .ok (.iload_n 1, 1) := by decide +kernel
theorem dX6_count_34 : decode cX6_count 34 = .ok (.bipush 15, 2) := by decide +kernel
theorem dX6_count_36 : decode cX6_count 36 = .ok (.if_icmp .ne 10, 3) := by decide +kernel
theorem dX6_count_39 : decode cX6_count 39 = .ok (.aload_n 2, 1) := by decide +kernel
theorem dX6_count_40 : decode cX6_count 40 = .ok (.getfield 167, 3) := by decide +kernel
theorem dX6_count_43 : decode cX6_count 43 = .ok (.goto 5, 3) := by decide +kernel
theorem dX6_count_46 : decode cX6_count 46 = .ok (.bipush (-2), 2) := by decide +kernel
theorem dX6_count_48 : decode cX6_count 48 = .ok (.ireturn, 1) := by decide +kernel
theorem dX6_moments_0 : decode cX6_moments 0 = .ok (.aload_n 0, 1) := by decide +kernel
theorem dX6_moments_1 : decode cX6_moments 1 = .ok (.getfield 28, 3) := by decide +kernel
theorem dX6_moments_4 : decode cX6_moments 4 = .ok (.getfield 127, 3) := by decide +kernel
theorem dX6_moments_7 : decode cX6_moments 7 = .ok (.ireturn, 1) := by decide +kernel
theorem dX6_isMoment_0 : decode cX6_isMoment 0 = .ok (.iload_n 1, 1) := by decide +kernel
theorem dX6_isMoment_1 : decode cX6_isMoment 1 = .ok (.iconst 0, 1) := by decide +kernel
theorem dX6_isMoment_2 : decode cX6_isMoment 2 = .ok (.aload_n 0, 1) := by decide +kernel
theorem dX6_isMoment_3 : decode cX6_isMoment 3 = .ok (.getfield 28, 3) := by decide +kernel
theorem dX6_isMoment_6 : decode cX6_isMoment 6 = .ok (.getfield 127, 3) := by decide +kernel
theorem dX6_isMoment_9 : decode cX6_isMoment 9 = .ok (.iconst 1, 1) := by decide +kernel
theorem dX6_isMoment_10 : decode cX6_isMoment 10 = .ok (.isub, 1) := by decide +kernel
theorem dX6_isMoment_11 : decode cX6_isMoment 11 = .ok (.invokestatic 97, 3) := by decide +kernel
theorem dX6_isMoment_14 : decode cX6_isMoment 14 = .ok (.ireturn, 1) := by decide +kernel
theorem dX6_time_0 : decode cX6_time 0 = .ok (.aload_n 0, 1) := by decide +kernel
theorem dX6_time_1 : decode cX6_time 1 = .ok (.iload_n 1, 1) := by decide +kernel
theorem dX6_time_2 : decode cX6_time 2 = .ok (.invokevirtual 170, 3) := by decide +kernel
theorem dX6_time_5 : decode cX6_time 5 = .ok (.ifCond .eq 15, 3) := by decide +kernel
theorem dX6_time_8 : decode cX6_time 8 = .ok (.aload_n 0, 1) := by decide +kernel
theorem dX6_time_9 : decode cX6_time 9 = .ok (.getfield 28, 3) := by decide +kernel
theorem dX6_time_12 : decode cX6_time 12 = .ok (.getfield 173, 3) := by decide +kernel
theorem dX6_time_15 : decode cX6_time 15 = .ok (.iload_n 1, 1) := by decide +kernel
theorem dX6_time_16 : decode cX6_time 16 = .ok (.iaload, 1) := by decide +kernel
theorem dX6_time_17 : decode cX6_time 17 = .ok (.goto 5, 3) := by decide +kernel
theorem dX6_time_20 : decode cX6_time 20 = .ok (.bipush (-2), 2) := by decide +kernel
theorem dX6_time_22 : decode cX6_time 22 = .ok (.ireturn, 1) := by decide +kernel
theorem dX6_height_0 : decode cX6_height 0 = .ok (.aload_n 0, 1) := by decide +kernel
theorem dX6_height_1 : decode cX6_height 1 = .ok (.iload_n 1, 1) := by decide +kernel
theorem dX6_height_2 : decode cX6_height 2 = .ok (.invokevirtual 90, 3) := by decide +kernel
theorem dX6_height_5 : decode cX6_height 5 = .ok (.ifCond .eq 11, 3) := by decide +kernel
theorem dX6_height_8 : decode cX6_height 8 = .ok (.aload_n 0, 1) := by decide +kernel
theorem dX6_height_9 : decode cX6_height 9 = .ok (.iload_n 2, 1) := by decide +kernel
theorem dX6_height_10 : decode cX6_height 10 = .ok (.invokevirtual 170, 3) := by decide +kernel
theorem dX6_height_13 : decode cX6_height 13 = .ok (.ifCond .ne 6, 3) := by decide +kernel
theorem dX6_height_16 : decode cX6_height 16 = .ok (.bipush (-2), 2) := by decide +kernel
theorem dX6_height_18 : decode cX6_height 18 = .ok (.ireturn, 1) := by decide +kernel
theorem dX6_height_19 : decode cX6_height 19 = .ok (.aload_n 0, 1) := by decide +kernel
theorem dX6_height_20 : decode cX6_height 20 = .ok (.getfield 54, 3) := by decide +kernel
theorem dX6_height_23 : decode cX6_height 23 = .ok (.aload_n 0, 1) := by decide +kernel
theorem dX6_height_24 : decode cX6_height 24 = .ok (.getfield 20, 3) := by decide +kernel
theorem dX6_height_27 : decode cX6_height 27 = .ok (.aload_n 0, 1) := by decide +kernel
theorem dX6_height_28 : decode cX6_height 28 = .ok (.getfield 28, 3) := by decide +kernel
theorem dX6_height_31 : decode cX6_height 31 = .ok (.getfield 173, 3) := by decide +kernel
theorem dX6_height_34 : decode cX6_height 34 = .ok (.iload_n 2, 1) := by decide +kernel
theorem dX6_height_35 : decode cX6_height 35 = .ok (.iaload, 1) := by decide +kernel
theorem dX6_height_36 : decode cX6_height 36 = .ok (.invokevirtual 176, 3) := by decide +kernel
theorem dX6_height_39 : decode cX6_height 39 = .ok (.aload_n 0, 1) := by decide +kernel
theorem dX6_height_40 : decode cX6_height 40 = .ok (.getfield 54, 3) := by decide +kernel
theorem dX6_height_43 : decode cX6_height 43 = .ok (.getfield 179, 3) := by decide +kernel
theorem dX6_height_46 : decode cX6_height 46 = .ok (.iload_n 1, 1) := by decide +kernel
theorem dX6_height_47 : decode cX6_height 47 = .ok (.baload, 1) := by decide +kernel
theorem dX6_height_48 : decode cX6_height 48 = .ok (.ifCond .eq 15, 3) := by decide +kernel
theorem dX6_height_51 : decode cX6_height 51 = .ok (.aload_n 0, 1) := by decide +kernel
theorem dX6_height_52 : decode cX6_height 52 = .ok (.getfield 54, 3) := by decide +kernel
theorem dX6_height_55 : decode cX6_height 55 = .ok (.getfield 183, 3) := by decide +kernel
theorem dX6_height_58 : decode cX6_height 58 = .ok (.iload_n 1, 1) := by decide +kernel
theorem dX6_height_59 : decode cX6_height 59 = .ok (.iaload, 1) := by decide +kernel
theorem dX6_height_60 : decode cX6_height 60 = .ok (.goto 5, 3) := by decide +kernel
theorem dX6_height_63 : decode cX6_height 63 = .ok (.bipush (-100), 2) := by decide +kernel
theorem dX6_height_65 : decode cX6_height 65 = .ok (.ireturn, 1) := by decide +kernel
theorem dX6_interval_0 : decode cX6_interval 0 = .ok (.aload_n 0, 1) := by decide +kernel
theorem dX6_interval_1 : decode cX6_interval 1 = .ok (.iload_n 1, 1) := by decide +kernel
theorem dX6_interval_2 : decode cX6_interval 2 = .ok (.invokevirtual 90, 3) := by decide +kernel
theorem dX6_interval_5 : decode cX6_interval 5 = .ok (.ifCond .eq 24, 3) := by decide +kernel
theorem dX6_interval_8 : decode cX6_interval 8 = .ok (.aload_n 0, 1) := by decide +kernel
theorem dX6_interval_9 : decode cX6_interval 9 = .ok (.iload_n 2, 1) := by decide +kernel
theorem dX6_interval_10 : decode cX6_interval 10 = .ok (.invokevirtual 90, 3) := by decide +kernel
theorem dX6_interval_13 : decode cX6_interval 13 = .ok (.ifCond .eq 16, 3) := by decide +kernel
theorem dX6_interval_16 : decode cX6_interval 16 = .ok (.iload_n 1, 1) := by decide +kernel
theorem dX6_interval_17 : decode cX6_interval 17 = .ok (.iload_n 2, 1) := by decide +kernel
theorem dX6_interval_18 : decode cX6_interval 18 = .ok (.if_icmp .ge 11, 3) := by decide +kernel
theorem dX6_interval_21 : decode cX6_interval 21 = .ok (.aload_n 0, 1) := by decide +kernel
theorem dX6_interval_22 : decode cX6_interval 22 = .ok (.iload_n 3, 1) := by decide +kernel
theorem dX6_interval_23 : decode cX6_interval 23 = .ok (.invokevirtual 170, 3) := by decide +kernel
theorem dX6_interval_26 : decode cX6_interval 26 = .ok (.ifCond .ne 6, 3) := by decide +kernel
theorem dX6_interval_29 : decode cX6_interval 29 = .ok (.bipush (-2), 2) := by decide +kernel
theorem dX6_interval_31 : decode cX6_interval 31 = .ok (.ireturn, 1) := by decide +kernel
theorem dX6_interval_32 : decode cX6_interval 32 = .ok (.aload_n 0, 1) := by decide +kernel
theorem dX6_interval_33 : decode cX6_interval 33 = .ok (.getfield 54, 3) := by decide +kernel
theorem dX6_interval_36 : decode cX6_interval 36 = .ok (.aload_n 0, 1) := by decide +kernel
theorem dX6_interval_37 : decode cX6_interval 37 = .ok (.getfield 20, 3) := by decide +kernel
theorem dX6_interval_40 : decode cX6_interval 40 = .ok (.aload_n 0, 1) := by decide +kernel
theorem dX6_interval_41 : decode cX6_interval 41 = .ok (.getfield 28, 3) := by decide +kernel
theorem dX6_interval_44 : decode cX6_interval 44 = .ok (.getfield 173, 3) := by decide +kernel
theorem dX6_interval_47 : decode cX6_interval 47 = .ok (.iload_n 3, 1) := by decide +kernel
theorem dX6_interval_48 : decode cX6_interval 48 = .ok (.iaload, 1) := by decide +kernel
theorem dX6_interval_49 : decode cX6_interval 49 = .ok (.invokevirtual 176, 3) := by decide +kernel
theorem dX6_interval_52 : decode cX6_interval 52 = .ok (.aload_n 0, 1) := by decide +kernel
theorem dX6_interval_53 : decode cX6_interval 53 = .ok (.getfield 54, 3) := by decide +kernel
theorem dX6_interval_56 : decode cX6_interval 56 = .ok (.getfield 179, 3) := by decide +kernel
theorem dX6_interval_59 : decode cX6_interval 59 = .ok (.iload_n 1, 1) := by decide +kernel
theorem dX6_interval_60 : decode cX6_interval 60 = .ok (.baload, 1) := by decide +kernel
theorem dX6_interval_61 : decode cX6_interval 61 = .ok (.ifCond .eq 27, 3) := by decide +kernel
theorem dX6_interval_64 : decode cX6_interval 64 = .ok (.aload_n 0, 1) := by decide +kernel
theorem dX6_interval_65 : decode cX6_interval 65 = .ok (.getfield 54, 3) := by decide +kernel
theorem dX6_interval_68 : decode cX6_interval 68 = .ok (.getfield 179, 3) := by decide +kernel
theorem dX6_interval_71 : decode cX6_interval 71 = .ok (.iload_n 2, 1) := by decide +kernel
theorem dX6_interval_72 : decode cX6_interval 72 = .ok (.baload, 1) := by decide +kernel
theorem dX6_interval_73 : decode cX6_interval 73 = .ok (.ifCond .eq 15, 3) := by decide +kernel
theorem dX6_interval_76 : decode cX6_interval 76 = .ok (.aload_n 0, 1) := by decide +kernel
theorem dX6_interval_77 : decode cX6_interval 77 = .ok (.getfield 54, 3) := by decide +kernel
theorem dX6_interval_80 : decode cX6_interval 80 = .ok (.iload_n 1, 1) := by decide +kernel
theorem dX6_interval_81 : decode cX6_interval 81 = .ok (.iload_n 2, 1) := by decide +kernel
theorem dX6_interval_82 : decode cX6_interval 82 = .ok (.invokevirtual 186, 3) := by decide +kernel
theorem dX6_interval_85 : decode cX6_interval 85 = .ok (.goto 5, 3) := by decide +kernel
theorem dX6_interval_88 : decode cX6_interval 88 = .ok (.bipush (-100), 2) := by decide +kernel
theorem dX6_interval_90 : decode cX6_interval 90 = .ok (.ireturn, 1) := by decide +kernel
theorem dX6_event_0 : decode cX6_event 0 = .ok (.aload_n 0, 1) := by decide +kernel
theorem dX6_event_1 : decode cX6_event 1 = .ok (.iload_n 1, 1) := by decide +kernel
theorem dX6_event_2 : decode cX6_event 2 = .ok (.invokevirtual 90, 3) := by decide +kernel
theorem dX6_event_5 : decode cX6_event 5 = .ok (.ifCond .eq 31, 3) := by decide +kernel
theorem dX6_event_8 : decode cX6_event 8 = .ok (.iload_n 2, 1) := by decide +kernel
theorem dX6_event_9 : decode cX6_event 9 = .ok (.iconst 0, 1) := by decide +kernel
theorem dX6_event_10 : decode cX6_event 10 = .ok (.aload_n 0, 1) := by decide +kernel
theorem dX6_event_11 : decode cX6_event 11 = .ok (.getfield 20, 3) := by decide +kernel
theorem dX6_event_14 : decode cX6_event 14 = .ok (.iload_n 1, 1) := by decide +kernel
theorem dX6_event_15 : decode cX6_event 15 = .ok (.aaload, 1) := by decide +kernel
theorem dX6_event_16 : decode cX6_event 16 = .ok (.getfield 66, 3) := by decide +kernel
theorem dX6_event_19 : decode cX6_event 19 = .ok (.iconst 1, 1) := by decide +kernel
theorem dX6_event_20 : decode cX6_event 20 = .ok (.isub, 1) := by decide +kernel
theorem dX6_event_21 : decode cX6_event 21 = .ok (.invokestatic 97, 3) := by decide +kernel
theorem dX6_event_24 : decode cX6_event 24 = .ok (.ifCond .eq 12, 3) := by decide +kernel
theorem dX6_event_27 : decode cX6_event 27 = .ok (.iload_n 3, 1) := by decide +kernel
theorem dX6_event_28 : decode cX6_event 28 = .ok (.iconst 0, 1) := by decide +kernel
theorem dX6_event_29 : decode cX6_event 29 = .ok (.iconst 2, 1) := by decide +kernel
theorem dX6_event_30 : decode cX6_event 30 = .ok (.invokestatic 97, 3) := by decide +kernel
theorem dX6_event_33 : decode cX6_event 33 = .ok (.ifCond .ne 6, 3) := by decide +kernel
theorem dX6_event_36 : decode cX6_event 36 = .ok (.bipush (-2), 2) := by decide +kernel
theorem dX6_event_38 : decode cX6_event 38 = .ok (.ireturn, 1) := by decide +kernel
theorem dX6_event_39 : decode cX6_event 39 = .ok (.aload_n 0, 1) := by decide +kernel
theorem dX6_event_40 : decode cX6_event 40 = .ok (.getfield 20, 3) := by decide +kernel
theorem dX6_event_43 : decode cX6_event 43 = .ok (.iload_n 1, 1) := by decide +kernel
theorem dX6_event_44 : decode cX6_event 44 = .ok (.aaload, 1) := by decide +kernel
theorem dX6_event_45 : decode cX6_event 45 = .ok (.astore 4, 2) := by decide +kernel
theorem dX6_event_47 : decode cX6_event 47 = .ok (.iload_n 3, 1) := by decide +kernel
theorem dX6_event_48 : decode cX6_event 48 = .ok (.ifCond .ne 11, 3) := by decide +kernel
theorem dX6_event_51 : decode cX6_event 51 = .ok (.aload 4, 2) := by decide +kernel
theorem dX6_event_53 : decode cX6_event 53 = .ok (.getfield 189, 3) := by decide +kernel
theorem dX6_event_56 : decode cX6_event 56 = .ok (.iload_n 2, 1) := by decide +kernel
theorem dX6_event_57 : decode cX6_event 57 = .ok (.iaload, 1) := by decide +kernel
theorem dX6_event_58 : decode cX6_event 58 = .ok (.ireturn, 1) := by decide +kernel
theorem dX6_event_59 : decode cX6_event 59 = .ok (.iload_n 3, 1) := by decide +kernel
theorem dX6_event_60 : decode cX6_event 60 = .ok (.iconst 1, 1) := by decide +kernel
theorem dX6_event_61 : decode cX6_event 61 = .ok (.if_icmp .ne 11, 3) := by decide +kernel
theorem dX6_event_64 : decode cX6_event 64 = .ok (.aload 4, 2) := by decide +kernel
theorem dX6_event_66 : decode cX6_event 66 = .ok (.getfield 190, 3) := by decide +kernel
theorem dX6_event_69 : decode cX6_event 69 = .ok (.iload_n 2, 1) := by decide +kernel
theorem dX6_event_70 : decode cX6_event 70 = .ok (.iaload, 1) := by decide +kernel
theorem dX6_event_71 : decode cX6_event 71 = .ok (.ireturn, 1) := by decide +kernel
theorem dX6_event_72 : decode cX6_event 72 = .ok (.aload 4, 2) := by decide +kernel
theorem dX6_event_74 : decode cX6_event 74 = .ok (.iload_n 2, 1) := by decide +kernel
theorem dX6_event_75 : decode cX6_event 75 = .ok (.invokevirtual 193, 3) := by decide +kernel
theorem dX6_event_78 : decode cX6_event 78 = .ok (.ifCond .eq 15, 3) := by decide +kernel
theorem dX6_event_81 : decode cX6_event 81 = .ok (.aload 4, 2) := by decide +kernel
theorem dX6_event_83 : decode cX6_event 83 = .ok (.getfield 196, 3) := by decide +kernel
theorem dX6_event_86 : decode cX6_event 86 = .ok (.iload_n 2, 1) := by decide +kernel
theorem dX6_event_87 : decode cX6_event 87 = .ok (.iaload, 1) := by decide +kernel
theorem dX6_event_88 : decode cX6_event 88 = .ok (.iconst 2, 1) := by decide +kernel
theorem dX6_event_89 : decode cX6_event 89 = .ok (.iadd, 1) := by decide +kernel
theorem dX6_event_90 : decode cX6_event 90 = .ok (.goto 4, 3) := by decide +kernel
theorem dX6_event_93 : decode cX6_event 93 = .ok (.iconst 0, 1) := by decide +kernel
theorem dX6_event_94 : decode cX6_event 94 = .ok (.ireturn, 1) := by decide +kernel
