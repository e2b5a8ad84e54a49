theorem dX3_isLeap_0 : decode cX3_isLeap 0 = .ok (.iload_n 1, 1) := by decide +kernel
theorem dX3_isLeap_1 : decode cX3_isLeap 1 = .ok (.bipush 12, 2) := by decide +kernel
theorem dX3_isLeap_3 : decode cX3_isLeap 3 = .ok (.if_icmp .gt 21, 3) := by decide +kernel
theorem dX3_isLeap_6 : decode cX3_isLeap 6 = .ok (.iload_n 1, 1) := by decide +kernel
theorem dX3_isLeap_7 : decode cX3_isLeap 7 = .ok (.bipush 6, 2) := by decide +kernel
theorem dX3_isLeap_9 : decode cX3_isLeap 9 = .ok (.if_icmp .eq 15, 3) := by decide +kernel
theorem dX3_isLeap_12 : decode cX3_isLeap 12 = .ok (.iload_n 1, 1) := by decide +kernel
theorem dX3_isLeap_13 : decode cX3_isLeap 13 = .ok (.bipush 10, 2) := by decide +kernel
theorem dX3_isLeap_15 : decode cX3_isLeap 15 = .ok (.if_icmp .eq 9, 3) := by decide +kernel
theorem dX3_isLeap_18 : decode cX3_isLeap 18 = .ok (.iload_n 1, 1) := by decide +kernel
theorem dX3_isLeap_19 : decode cX3_isLeap 19 = .ok (.bipush 11, 2) := by decide +kernel
theorem dX3_isLeap_21 : decode cX3_isLeap 21 = .ok (.if_icmp .ne 5, 3) := by decide +kernel
theorem dX3_isLeap_24 : decode cX3_isLeap 24 = .ok (.iconst 1, 1) := by decide +kernel
theorem dX3_isLeap_25 : decode cX3_isLeap 25 = .ok (.ireturn, 1) := by decide +kernel
theorem dX3_isLeap_26 : decode cX3_isLeap 26 = .ok (.iload_n 1, 1) := by decide +kernel
theorem dX3_isLeap_27 : decode cX3_isLeap 27 = .ok (.bipush 12, 2) := by decide +kernel
theorem dX3_isLeap_29 : decode cX3_isLeap 29 = .ok (.iload_n 0, 1) := by decide +kernel
theorem dX3_isLeap_30 : decode cX3_isLeap 30 = .ok (.bipush 7, 2) := by decide +kernel
theorem dX3_isLeap_32 : decode cX3_isLeap 32 = .ok (.idiv, 1) := by decide +kernel
theorem dX3_isLeap_33 : decode cX3_isLeap 33 = .ok (.imul, 1) := by decide +kernel
theorem dX3_isLeap_34 : decode cX3_isLeap 34 = .ok (.isub, 1) := by decide +kernel
theorem dX3_isLeap_35 : decode cX3_isLeap 35 = .ok (.istore_n 2, 1) := by decide +kernel
theorem dX3_isLeap_36 : decode cX3_isLeap 36 = .ok (.iload_n 0, 1) := by decide +kernel
theorem dX3_isLeap_37 : decode cX3_isLeap 37 = .ok (.bipush 7, 2) := by decide +kernel
theorem dX3_isLeap_39 : decode cX3_isLeap 39 = .ok (.irem, 1) := by decide +kernel
theorem dX3_isLeap_40 : decode cX3_isLeap 40 = .ok (.istore_n 3, 1) := by decide +kernel
theorem dX3_isLeap_41 : decode cX3_isLeap 41 = .ok (.iload_n 2, 1) := by decide +kernel
theorem dX3_isLeap_42 : decode cX3_isLeap 42 = .ok (.getstatic 151, 3) := by decide +kernel
theorem dX3_isLeap_45 : decode cX3_isLeap 45 = .ok (.iload_n 3, 1) := by decide +kernel
theorem dX3_isLeap_46 : decode cX3_isLeap 46 = .ok (.iaload, 1) := by decide +kernel
theorem dX3_isLeap_47 : decode cX3_isLeap 47 = .ok (.if_icmp .lt 12, 3) := by decide +kernel
theorem dX3_isLeap_50 : decode cX3_isLeap 50 = .ok (.iload_n 2, 1) := by decide +kernel
theorem dX3_isLeap_51 : decode cX3_isLeap 51 = .ok (.getstatic 154, 3) := by decide +kernel
theorem dX3_isLeap_54 : decode cX3_isLeap 54 = .ok (.iload_n 3, 1) := by decide +kernel
theorem dX3_isLeap_55 : decode cX3_isLeap 55 = .ok (.iaload, 1) := by decide +kernel
theorem dX3_isLeap_56 : decode cX3_isLeap 56 = .ok (.if_icmp .le 7, 3) := by decide +kernel
theorem dX3_isLeap_59 : decode cX3_isLeap 59 = .ok (.iconst 1, 1) := by decide +kernel
theorem dX3_isLeap_60 : decode cX3_isLeap 60 = .ok (.goto 4, 3) := by decide +kernel
theorem dX3_isLeap_63 : decode cX3_isLeap 63 = .ok (.iconst 0, 1) := by decide +kernel
theorem dX3_isLeap_64 : decode cX3_isLeap 64 = .ok (.ireturn, 1) := by decide +kernel
theorem dX0_stepsUp_0 : decode cX0_stepsUp 0 = .ok (.aload_n 0, 1) := by decide +kernel
theorem dX0_stepsUp_1 : decode cX0_stepsUp 1 = .ok (.getfield 15, 3) := by decide +kernel
theorem dX0_stepsUp_4 : decode cX0_stepsUp 4 = .ok (.iload_n 2, 1) := by decide +kernel
theorem dX0_stepsUp_5 : decode cX0_stepsUp 5 = .ok (.iaload, 1) := by decide +kernel
theorem dX0_stepsUp_6 : decode cX0_stepsUp 6 = .ok (.aload_n 0, 1) := by decide +kernel
theorem dX0_stepsUp_7 : decode cX0_stepsUp 7 = .ok (.getfield 15, 3) := by decide +kernel
theorem dX0_stepsUp_10 : decode cX0_stepsUp 10 = .ok (.iload_n 1, 1) := by decide +kernel
theorem dX0_stepsUp_11 : decode cX0_stepsUp 11 = .ok (.iaload, 1) := by decide +kernel
theorem dX0_stepsUp_12 : decode cX0_stepsUp 12 = .ok (.isub, 1) := by decide +kernel
theorem dX0_stepsUp_13 : decode cX0_stepsUp 13 = .ok (.ireturn, 1) := by decide +kernel
theorem dX3_lookAtMove_0 : decode cX3_lookAtMove 0 = .ok (.aload_n 0, 1) := by decide +kernel
theorem dX3_lookAtMove_1 : decode cX3_lookAtMove 1 = .ok (.getfield 25, 3) := by decide +kernel
theorem dX3_lookAtMove_4 : decode cX3_lookAtMove 4 = .ok (.getfield 142, 3) := by decide +kernel
theorem dX3_lookAtMove_7 : decode cX3_lookAtMove 7 = .ok (.iload_n 1, 1) := by decide +kernel
theorem dX3_lookAtMove_8 : decode cX3_lookAtMove 8 = .ok (.iaload, 1) := by decide +kernel
theorem dX3_lookAtMove_9 : decode cX3_lookAtMove 9 = .ok (.aload_n 0, 1) := by decide +kernel
theorem dX3_lookAtMove_10 : decode cX3_lookAtMove 10 = .ok (.getfield 21, 3) := by decide +kernel
theorem dX3_lookAtMove_13 : decode cX3_lookAtMove 13 = .ok (.getfield 142, 3) := by decide +kernel
theorem dX3_lookAtMove_16 : decode cX3_lookAtMove 16 = .ok (.iload_n 1, 1) := by decide +kernel
theorem dX3_lookAtMove_17 : decode cX3_lookAtMove 17 = .ok (.iaload, 1) := by decide +kernel
theorem dX3_lookAtMove_18 : decode cX3_lookAtMove 18 = .ok (.isub, 1) := by decide +kernel
theorem dX3_lookAtMove_19 : decode cX3_lookAtMove 19 = .ok (.istore_n 2, 1) := by decide +kernel
theorem dX3_lookAtMove_20 : decode cX3_lookAtMove 20 = .ok (.aload_n 0, 1) := by decide +kernel
theorem dX3_lookAtMove_21 : decode cX3_lookAtMove 21 = .ok (.getfield 25, 3) := by decide +kernel
theorem dX3_lookAtMove_24 : decode cX3_lookAtMove 24 = .ok (.getfield 104, 3) := by decide +kernel
theorem dX3_lookAtMove_27 : decode cX3_lookAtMove 27 = .ok (.iload_n 1, 1) := by decide +kernel
theorem dX3_lookAtMove_28 : decode cX3_lookAtMove 28 = .ok (.iaload, 1) := by decide +kernel
theorem dX3_lookAtMove_29 : decode cX3_lookAtMove 29 = .ok (.aload_n 0, 1) := by decide +kernel
theorem dX3_lookAtMove_30 : decode cX3_lookAtMove 30 = .ok (.getfield 21, 3) := by decide +kernel
theorem dX3_lookAtMove_33 : decode cX3_lookAtMove 33 = .ok (.getfield 104, 3) := by decide +kernel
theorem dX3_lookAtMove_36 : decode cX3_lookAtMove 36 = .ok (.iload_n 1, 1) := by decide +kernel
theorem dX3_lookAtMove_37 : decode cX3_lookAtMove 37 = .ok (.iaload, 1) := by decide +kernel
theorem dX3_lookAtMove_38 : decode cX3_lookAtMove 38 = .ok (.isub, 1) := by decide +kernel
theorem dX3_lookAtMove_39 : decode cX3_lookAtMove 39 = .ok (.istore_n 3, 1) := by decide +kernel
theorem dX3_lookAtMove_40 : decode cX3_lookAtMove 40 = .ok (.aload_n 0, 1) := by decide +kernel
theorem dX3_lookAtMove_41 : decode cX3_lookAtMove 41 = .ok (.bipush 7, 2) := by decide +kernel
theorem dX3_lookAtMove_43 : decode cX3_lookAtMove 43 = .ok (.iload_n 1, 1) := by decide +kernel
theorem dX3_lookAtMove_44 : decode cX3_lookAtMove 44 = .ok (.iload_n 2, 1) := by decide +kernel
theorem dX3_lookAtMove_45 : decode cX3_lookAtMove 45 = .ok (.ifCond .ge 13, 3) := by decide +kernel
theorem dX3_lookAtMove_48 : decode cX3_lookAtMove 48 = .ok (.iload_n 2, 1) := by decide +kernel
theorem dX3_lookAtMove_49 : decode cX3_lookAtMove 49 = .ok (.ineg, 1) := by decide +kernel
theorem dX3_lookAtMove_50 : decode cX3_lookAtMove 50 = .ok (.iload_n 3, 1) := by decide +kernel
theorem dX3_lookAtMove_51 : decode cX3_lookAtMove 51 = .ok (.ineg, 1) := by decide +kernel
theorem dX3_lookAtMove_52 : decode cX3_lookAtMove 52 = .ok (.invokestatic 145, 3) := by decide +kernel
theorem dX3_lookAtMove_55 : decode cX3_lookAtMove 55 = .ok (.goto 8, 3) := by decide +kernel
theorem dX3_lookAtMove_58 : decode cX3_lookAtMove 58 = .ok (.iload_n 2, 1) := by decide +kernel
theorem dX3_lookAtMove_59 : decode cX3_lookAtMove 59 = .ok (.iload_n 3, 1) := by decide +kernel
theorem dX3_lookAtMove_60 : decode cX3_lookAtMove 60 = .ok (.invokestatic 145, 3) := by decide +kernel
theorem dX3_lookAtMove_63 : decode cX3_lookAtMove 63 = .ok (.invokevirtual 112, 3) := by decide +kernel
theorem dX3_lookAtMove_66 : decode cX3_lookAtMove 66 = .ok (.aload_n 0, 1) := by decide +kernel
theorem dX3_lookAtMove_67 : decode cX3_lookAtMove 67 = .ok (.bipush 8, 2) := by decide +kernel
theorem dX3_lookAtMove_69 : decode cX3_lookAtMove 69 = .ok (.iload_n 1, 1) := by decide +kernel
theorem dX3_lookAtMove_70 : decode cX3_lookAtMove 70 = .ok (.aload_n 0, 1) := by decide +kernel
theorem dX3_lookAtMove_71 : decode cX3_lookAtMove 71 = .ok (.aload_n 0, 1) := by decide +kernel
theorem dX3_lookAtMove_72 : decode cX3_lookAtMove 72 = .ok (.getfield 21, 3) := by decide +kernel
theorem dX3_lookAtMove_75 : decode cX3_lookAtMove 75 = .ok (.iload_n 1, 1) := by decide +kernel
theorem dX3_lookAtMove_76 : decode cX3_lookAtMove 76 = .ok (.invokevirtual 127, 3) := by decide +kernel
theorem dX3_lookAtMove_79 : decode cX3_lookAtMove 79 = .ok (.ifCond .eq 17, 3) := by decide +kernel
theorem dX3_lookAtMove_82 : decode cX3_lookAtMove 82 = .ok (.iload_n 2, 1) := by decide +kernel
theorem dX3_lookAtMove_83 : decode cX3_lookAtMove 83 = .ok (.iconst 1, 1) := by decide +kernel
theorem dX3_lookAtMove_84 : decode cX3_lookAtMove 84 = .ok (.if_icmp .ne 8, 3) := by decide +kernel
theorem dX3_lookAtMove_87 : decode cX3_lookAtMove 87 = .ok (.iload_n 3, 1) := by decide +kernel
theorem dX3_lookAtMove_88 : decode cX3_lookAtMove 88 = .ok (.iconst 1, 1) := by decide +kernel
theorem dX3_lookAtMove_89 : decode cX3_lookAtMove 89 = .ok (.if_icmp .eq 7, 3) := by decide +kernel
theorem dX3_lookAtMove_92 : decode cX3_lookAtMove 92 = .ok (.iconst 1, 1) := by decide +kernel
theorem dX3_lookAtMove_93 : decode cX3_lookAtMove 93 = .ok (.goto 4, 3) := by decide +kernel
theorem dX3_lookAtMove_96 : decode cX3_lookAtMove 96 = .ok (.iconst 0, 1) := by decide +kernel
theorem dX3_lookAtMove_97 : decode cX3_lookAtMove 97 = .ok (.invokevirtual 112, 3) := by decide +kernel
theorem dX3_lookAtMove_100 : decode cX3_lookAtMove 100 = .ok (.iload_n 1, 1) := by decide +kernel
theorem dX3_lookAtMove_101 : decode cX3_lookAtMove 101 = .ok (.ifCond .le 38, 3) := by decide +kernel
theorem dX3_lookAtMove_104 : decode cX3_lookAtMove 104 = .ok (.aload_n 0, 1) := by decide +kernel
theorem dX3_lookAtMove_105 : decode cX3_lookAtMove 105 = .ok (.getfield 21, 3) := by decide +kernel
theorem dX3_lookAtMove_108 : decode cX3_lookAtMove 108 = .ok (.getfield 93, 3) := by decide +kernel
theorem dX3_lookAtMove_111 : decode cX3_lookAtMove 111 = .ok (.iconst 0, 1) := by decide +kernel
theorem dX3_lookAtMove_112 : decode cX3_lookAtMove 112 = .ok (.baload, 1) := by decide +kernel
theorem dX3_lookAtMove_113 : decode cX3_lookAtMove 113 = .ok (.ifCond .eq 26, 3) := by decide +kernel
theorem dX3_lookAtMove_116 : decode cX3_lookAtMove 116 = .ok (.aload_n 0, 1) := by decide +kernel
theorem dX3_lookAtMove_117 : decode cX3_lookAtMove 117 = .ok (.getfield 21, 3) := by decide +kernel
theorem dX3_lookAtMove_120 : decode cX3_lookAtMove 120 = .ok (.iconst 0, 1) := by decide +kernel
theorem dX3_lookAtMove_121 : decode cX3_lookAtMove 121 = .ok (.iload_n 1, 1) := by decide +kernel
theorem dX3_lookAtMove_122 : decode cX3_lookAtMove 122 = .ok (.invokevirtual 148, 3) := by decide +kernel
theorem dX3_lookAtMove_125 : decode cX3_lookAtMove 125 = .ok (.bipush 7, 2) := by decide +kernel
theorem dX3_lookAtMove_127 : decode cX3_lookAtMove 127 = .ok (.invokestatic 32, 3) := by decide +kernel
theorem dX3_lookAtMove_130 : decode cX3_lookAtMove 130 = .ok (.bipush 6, 2) := by decide +kernel
theorem dX3_lookAtMove_132 : decode cX3_lookAtMove 132 = .ok (.if_icmp .ne 7, 3) := by decide +kernel
theorem dX3_lookAtMove_135 : decode cX3_lookAtMove 135 = .ok (.iconst 1, 1) := by decide +kernel
theorem dX3_lookAtMove_136 : decode cX3_lookAtMove 136 = .ok (.goto 4, 3) := by decide +kernel
theorem dX3_lookAtMove_139 : decode cX3_lookAtMove 139 = .ok (.iconst 0, 1) := by decide +kernel
theorem dX3_lookAtMove_140 : decode cX3_lookAtMove 140 = .ok (.istore 4, 2) := by decide +kernel
theorem dX3_lookAtMove_142 : decode cX3_lookAtMove 142 = .ok (.aload_n 0, 1) := by decide +kernel
theorem dX3_lookAtMove_143 : decode cX3_lookAtMove 143 = .ok (.bipush 10, 2) := by decide +kernel
theorem dX3_lookAtMove_145 : decode cX3_lookAtMove 145 = .ok (.iload_n 1, 1) := by decide +kernel
theorem dX3_lookAtMove_146 : decode cX3_lookAtMove 146 = .ok (.iload 4, 2) := by decide +kernel
theorem dX3_lookAtMove_148 : decode cX3_lookAtMove 148 = .ok (.ifCond .eq 12, 3) := by decide +kernel
theorem dX3_lookAtMove_151 : decode cX3_lookAtMove 151 = .ok (.iload_n 2, 1) := by decide +kernel
theorem dX3_lookAtMove_152 : decode cX3_lookAtMove 152 = .ok (.iconst (-1), 1) := by decide +kernel
theorem dX3_lookAtMove_153 : decode cX3_lookAtMove 153 = .ok (.if_icmp .eq 7, 3) := by decide +kernel
theorem dX3_lookAtMove_156 : decode cX3_lookAtMove 156 = .ok (.iconst 1, 1) := by decide +kernel
theorem dX3_lookAtMove_157 : decode cX3_lookAtMove 157 = .ok (.goto 4, 3) := by decide +kernel
theorem dX3_lookAtMove_160 : decode cX3_lookAtMove 160 = .ok (.iconst 0, 1) := by decide +kernel
theorem dX3_lookAtMove_161 : decode cX3_lookAtMove 161 = .ok (.invokevirtual 112, 3) := by decide +kernel
theorem dX3_lookAtMove_164 : decode cX3_lookAtMove 164 = .ok (.return_, 1) := by decide +kernel
theorem dJ6_compare_0 : decode cJ6_compare 0 = .ok (.iload_n 0, 1) := by decide +kernel
theorem dJ6_compare_1 : decode cJ6_compare 1 = .ok (.iload_n 1, 1) := by decide +kernel
theorem dJ6_compare_2 : decode cJ6_compare 2 = .ok (.if_icmp .ge 7, 3) := by decide +kernel
theorem dJ6_compare_5 : decode cJ6_compare 5 = .ok (.iconst (-1), 1) := by decide +kernel
theorem dJ6_compare_6 : decode cJ6_compare 6 = .ok (.goto 13, 3) := by decide +kernel
theorem dJ6_compare_9 : decode cJ6_compare 9 = .ok (.iload_n 0, 1) := by decide +kernel
theorem dJ6_compare_10 : decode cJ6_compare 10 = .ok (.iload_n 1, 1) := by decide +kernel
theorem dJ6_compare_11 : decode cJ6_compare 11 = .ok (.if_icmp .ne 7, 3) := by decide +kernel
theorem dJ6_compare_14 : decode cJ6_compare 14 = .ok (.iconst 0, 1) := by decide +kernel
theorem dJ6_compare_15 : decode cJ6_compare 15 = .ok (.goto 4, 3) := by decide +kernel
theorem dJ6_compare_18 : decode cJ6_compare 18 = .ok (.iconst 1, 1) := by decide +kernel
theorem dJ6_compare_19 : decode cJ6_compare 19 = .ok (.ireturn, 1) := by decide +kernel
theorem dX3_way_0 : decode cX3_way 0 = .ok (.aload_n 0, 1) := by decide +kernel
theorem dX3_way_1 : decode cX3_way 1 = .ok (.getfield 25, 3) := by decide +kernel
theorem dX3_way_4 : decode cX3_way 4 = .ok (.getfield 104, 3) := by decide +kernel
theorem dX3_way_7 : decode cX3_way 7 = .ok (.iload_n 1, 1) := by decide +kernel
theorem dX3_way_8 : decode cX3_way 8 = .ok (.iaload, 1) := by decide +kernel
theorem dX3_way_9 : decode cX3_way 9 = .ok (.aload_n 0, 1) := by decide +kernel
theorem dX3_way_10 : decode cX3_way 10 = .ok (.getfield 21, 3) := by decide +kernel
theorem dX3_way_13 : decode cX3_way 13 = .ok (.getfield 104, 3) := by decide +kernel
theorem dX3_way_16 : decode cX3_way 16 = .ok (.iload_n 1, 1) := by decide +kernel
theorem dX3_way_17 : decode cX3_way 17 = .ok (.iaload, 1) := by decide +kernel
theorem dX3_way_18 : decode cX3_way 18 = .ok (.invokestatic 176, 3) := by decide +kernel
theorem dX3_way_21 : decode cX3_way 21 = .ok (.ireturn, 1) := by decide +kernel
theorem dX0_quality_0 : decode cX0_quality 0 = .ok (.aload_n 0, 1) := by decide +kernel
theorem dX0_quality_1 : decode cX0_quality 1 = .ok (.iload_n 1, 1) := by decide +kernel
theorem dX0_quality_2 : decode cX0_quality 2 = .ok (.iload_n 2, 1) := by decide +kernel
theorem dX0_quality_3 : decode cX0_quality 3 = .ok (.invokevirtual 43, 3) := by decide +kernel
theorem dX0_quality_6 : decode cX0_quality 6 = .ok (.bipush 7, 2) := by decide +kernel
theorem dX0_quality_8 : decode cX0_quality 8 = .ok (.invokestatic 47, 3) := by decide +kernel
theorem dX0_quality_11 : decode cX0_quality 11 = .ok (.istore_n 3, 1) := by decide +kernel
theorem dX0_quality_12 : decode cX0_quality 12 = .ok (.aload_n 0, 1) := by decide +kernel
theorem dX0_quality_13 : decode cX0_quality 13 = .ok (.iload_n 1, 1) := by decide +kernel
theorem dX0_quality_14 : decode cX0_quality 14 = .ok (.iload_n 2, 1) := by decide +kernel
theorem dX0_quality_15 : decode cX0_quality 15 = .ok (.invokevirtual 52, 3) := by decide +kernel
theorem dX0_quality_18 : decode cX0_quality 18 = .ok (.bipush 12, 2) := by decide +kernel
theorem dX0_quality_20 : decode cX0_quality 20 = .ok (.invokestatic 47, 3) := by decide +kernel
theorem dX0_quality_23 : decode cX0_quality 23 = .ok (.istore 4, 2) := by decide +kernel
theorem dX0_quality_25 : decode cX0_quality 25 = .ok (.iload_n 3, 1) := by decide +kernel
theorem dX0_quality_26 : decode cX0_quality 26 = .ok (.ifCond .ne 10, 3) := by decide +kernel
theorem dX0_quality_29 : decode cX0_quality 29 = .ok (.iload 4, 2) := by decide +kernel
theorem dX0_quality_31 : decode cX0_quality 31 = .ok (.ifCond .ne 5, 3) := by decide +kernel
theorem dX0_quality_34 : decode cX0_quality 34 = .ok (.iconst 1, 1) := by decide +kernel
theorem dX0_quality_35 : decode cX0_quality 35 = .ok (.ireturn, 1) := by decide +kernel
theorem dX0_quality_36 : decode cX0_quality 36 = .ok (.iload_n 3, 1) := by decide +kernel
theorem dX0_quality_37 : decode cX0_quality 37 = .ok (.iconst 4, 1) := by decide +kernel
theorem dX0_quality_38 : decode cX0_quality 38 = .ok (.if_icmp .ne 12, 3) := by decide +kernel
theorem dX0_quality_41 : decode cX0_quality 41 = .ok (.iload 4, 2) := by decide +kernel
theorem dX0_quality_43 : decode cX0_quality 43 = .ok (.bipush 7, 2) := by decide +kernel
theorem dX0_quality_45 : decode cX0_quality 45 = .ok (.if_icmp .ne 5, 3) := by decide +kernel
theorem dX0_quality_48 : decode cX0_quality 48 = .ok (.iconst 2, 1) := by decide +kernel
theorem dX0_quality_49 : decode cX0_quality 49 = .ok (.ireturn, 1) := by decide +kernel
theorem dX0_quality_50 : decode cX0_quality 50 = .ok (.getstatic 55, 3) := by decide +kernel
theorem dX0_quality_53 : decode cX0_quality 53 = .ok (.iload 4, 2) := by decide +kernel
theorem dX0_quality_55 : decode cX0_quality 55 = .ok (.iaload, 1) := by decide +kernel
theorem dX0_quality_56 : decode cX0_quality 56 = .ok (.ireturn, 1) := by decide +kernel
theorem dX3_lookAtTwo_0 : decode cX3_lookAtTwo 0 = .ok (.aload_n 0, 1) := by decide +kernel
theorem dX3_lookAtTwo_1 : decode cX3_lookAtTwo 1 = .ok (.iload_n 1, 1) := by decide +kernel
theorem dX3_lookAtTwo_2 : decode cX3_lookAtTwo 2 = .ok (.invokevirtual 157, 3) := by decide +kernel
theorem dX3_lookAtTwo_5 : decode cX3_lookAtTwo 5 = .ok (.aload_n 0, 1) := by decide +kernel
theorem dX3_lookAtTwo_6 : decode cX3_lookAtTwo 6 = .ok (.iload_n 2, 1) := by decide +kernel
theorem dX3_lookAtTwo_7 : decode cX3_lookAtTwo 7 = .ok (.invokevirtual 157, 3) := by decide +kernel
theorem dX3_lookAtTwo_10 : decode cX3_lookAtTwo 10 = .ok (.imul, 1) := by decide +kernel
theorem dX3_lookAtTwo_11 : decode cX3_lookAtTwo 11 = .ok (.ifCond .le 7, 3) := by decide +kernel
theorem dX3_lookAtTwo_14 : decode cX3_lookAtTwo 14 = .ok (.iconst 1, 1) := by decide +kernel
theorem dX3_lookAtTwo_15 : decode cX3_lookAtTwo 15 = .ok (.goto 4, 3) := by decide +kernel
theorem dX3_lookAtTwo_18 : decode cX3_lookAtTwo 18 = .ok (.iconst 0, 1) := by decide +kernel
theorem dX3_lookAtTwo_19 : decode cX3_lookAtTwo 19 = .ok (.istore_n 3, 1) := by decide +kernel
theorem dX3_lookAtTwo_20 : decode cX3_lookAtTwo 20 = .ok (.aload_n 0, 1) := by decide +kernel
theorem dX3_lookAtTwo_21 : decode cX3_lookAtTwo 21 = .ok (.iload_n 1, 1) := by decide +kernel
theorem dX3_lookAtTwo_22 : decode cX3_lookAtTwo 22 = .ok (.invokevirtual 157, 3) := by decide +kernel
theorem dX3_lookAtTwo_25 : decode cX3_lookAtTwo 25 = .ok (.aload_n 0, 1) := by decide +kernel
theorem dX3_lookAtTwo_26 : decode cX3_lookAtTwo 26 = .ok (.iload_n 2, 1) := by decide +kernel
theorem dX3_lookAtTwo_27 : decode cX3_lookAtTwo 27 = .ok (.invokevirtual 157, 3) := by decide +kernel
theorem dX3_lookAtTwo_30 : decode cX3_lookAtTwo 30 = .ok (.imul, 1) := by decide +kernel
theorem dX3_lookAtTwo_31 : decode cX3_lookAtTwo 31 = .ok (.ifCond .ge 7, 3) := by decide +kernel
theorem dX3_lookAtTwo_34 : decode cX3_lookAtTwo 34 = .ok (.iconst 1, 1) := by decide +kernel
theorem dX3_lookAtTwo_35 : decode cX3_lookAtTwo 35 = .ok (.goto 4, 3) := by decide +kernel
theorem dX3_lookAtTwo_38 : decode cX3_lookAtTwo 38 = .ok (.iconst 0, 1) := by decide +kernel
theorem dX3_lookAtTwo_39 : decode cX3_lookAtTwo 39 = .ok (.istore 4, 2) := by decide +kernel
theorem dX3_lookAtTwo_41 : decode cX3_lookAtTwo 41 = .ok (.aload_n 0, 1) := by decide +kernel
theorem dX3_lookAtTwo_42 : decode cX3_lookAtTwo 42 = .ok (.getfield 21, 3) := by decide +kernel
theorem dX3_lookAtTwo_45 : decode cX3_lookAtTwo 45 = .ok (.iload_n 1, 1) := by decide +kernel
theorem dX3_lookAtTwo_46 : decode cX3_lookAtTwo 46 = .ok (.iload_n 2, 1) := by decide +kernel
theorem dX3_lookAtTwo_47 : decode cX3_lookAtTwo 47 = .ok (.invokevirtual 160, 3) := by decide +kernel
theorem dX3_lookAtTwo_50 : decode cX3_lookAtTwo 50 = .ok (.istore 5, 2) := by decide +kernel
theorem dX3_lookAtTwo_52 : decode cX3_lookAtTwo 52 = .ok (.aload_n 0, 1) := by decide +kernel
theorem dX3_lookAtTwo_53 : decode cX3_lookAtTwo 53 = .ok (.getfield 25, 3) := by decide +kernel
theorem dX3_lookAtTwo_56 : decode cX3_lookAtTwo 56 = .ok (.iload_n 1, 1) := by decide +kernel
theorem dX3_lookAtTwo_57 : decode cX3_lookAtTwo 57 = .ok (.iload_n 2, 1) := by decide +kernel
theorem dX3_lookAtTwo_58 : decode cX3_lookAtTwo 58 = .ok (.invokevirtual 160, 3) := by decide +kernel
theorem dX3_lookAtTwo_61 : decode cX3_lookAtTwo 61 = .ok (.istore 6, 2) := by decide +kernel
theorem dX3_lookAtTwo_63 : decode cX3_lookAtTwo 63 = .ok (.iload 6, 2) := by decide +kernel
theorem dX3_lookAtTwo_65 : decode cX3_lookAtTwo 65 = .ok (.iconst 1, 1) := by decide +kernel
theorem dX3_lookAtTwo_66 : decode cX3_lookAtTwo 66 = .ok (.if_icmp .eq 9, 3) := by decide +kernel
theorem dX3_lookAtTwo_69 : decode cX3_lookAtTwo 69 = .ok (.iload 6, 2) := by decide +kernel
theorem dX3_lookAtTwo_71 : decode cX3_lookAtTwo 71 = .ok (.iconst 2, 1) := by decide +kernel
theorem dX3_lookAtTwo_72 : decode cX3_lookAtTwo 72 = .ok (.if_icmp .ne 7, 3) := by decide +kernel
theorem dX3_lookAtTwo_75 : decode cX3_lookAtTwo 75 = .ok (.iconst 1, 1) := by decide +kernel
theorem dX3_lookAtTwo_76 : decode cX3_lookAtTwo 76 = .ok (.goto 4, 3) := by decide +kernel
theorem dX3_lookAtTwo_79 : decode cX3_lookAtTwo 79 = .ok (.iconst 0, 1) := by decide +kernel
theorem dX3_lookAtTwo_80 : decode cX3_lookAtTwo 80 = .ok (.istore 7, 2) := by decide +kernel
theorem dX3_lookAtTwo_82 : decode cX3_lookAtTwo 82 = .ok (.aload_n 0, 1) := by decide +kernel
theorem dX3_lookAtTwo_83 : decode cX3_lookAtTwo 83 = .ok (.iconst 0, 1) := by decide +kernel
theorem dX3_lookAtTwo_84 : decode cX3_lookAtTwo 84 = .ok (.iload_n 1, 1) := by decide +kernel
theorem dX3_lookAtTwo_85 : decode cX3_lookAtTwo 85 = .ok (.iload_n 2, 1) := by decide +kernel
theorem dX3_lookAtTwo_86 : decode cX3_lookAtTwo 86 = .ok (.iload_n 3, 1) := by decide +kernel
theorem dX3_lookAtTwo_87 : decode cX3_lookAtTwo 87 = .ok (.ifCond .eq 19, 3) := by decide +kernel
theorem dX3_lookAtTwo_90 : decode cX3_lookAtTwo 90 = .ok (.iload 7, 2) := by decide +kernel
theorem dX3_lookAtTwo_92 : decode cX3_lookAtTwo 92 = .ok (.ifCond .eq 14, 3) := by decide +kernel
theorem dX3_lookAtTwo_95 : decode cX3_lookAtTwo 95 = .ok (.iload 5, 2) := by decide +kernel
theorem dX3_lookAtTwo_97 : decode cX3_lookAtTwo 97 = .ok (.iload 6, 2) := by decide +kernel
theorem dX3_lookAtTwo_99 : decode cX3_lookAtTwo 99 = .ok (.if_icmp .ne 7, 3) := by decide +kernel
theorem dX3_lookAtTwo_102 : decode cX3_lookAtTwo 102 = .ok (.iconst 1, 1) := by decide +kernel
theorem dX3_lookAtTwo_103 : decode cX3_lookAtTwo 103 = .ok (.goto 4, 3) := by decide +kernel
theorem dX3_lookAtTwo_106 : decode cX3_lookAtTwo 106 = .ok (.iconst 0, 1) := by decide +kernel
theorem dX3_lookAtTwo_107 : decode cX3_lookAtTwo 107 = .ok (.invokevirtual 123, 3) := by decide +kernel
theorem dX3_lookAtTwo_110 : decode cX3_lookAtTwo 110 = .ok (.aload_n 0, 1) := by decide +kernel
theorem dX3_lookAtTwo_111 : decode cX3_lookAtTwo 111 = .ok (.iconst 1, 1) := by decide +kernel
theorem dX3_lookAtTwo_112 : decode cX3_lookAtTwo 112 = .ok (.iload_n 1, 1) := by decide +kernel
theorem dX3_lookAtTwo_113 : decode cX3_lookAtTwo 113 = .ok (.iload_n 2, 1) := by decide +kernel
theorem dX3_lookAtTwo_114 : decode cX3_lookAtTwo 114 = .ok (.iload 4, 2) := by decide +kernel
theorem dX3_lookAtTwo_116 : decode cX3_lookAtTwo 116 = .ok (.ifCond .eq 19, 3) := by decide +kernel
theorem dX3_lookAtTwo_119 : decode cX3_lookAtTwo 119 = .ok (.iload 7, 2) := by decide +kernel
theorem dX3_lookAtTwo_121 : decode cX3_lookAtTwo 121 = .ok (.ifCond .eq 14, 3) := by decide +kernel
theorem dX3_lookAtTwo_124 : decode cX3_lookAtTwo 124 = .ok (.iload 5, 2) := by decide +kernel
theorem dX3_lookAtTwo_126 : decode cX3_lookAtTwo 126 = .ok (.iload 6, 2) := by decide +kernel
theorem dX3_lookAtTwo_128 : decode cX3_lookAtTwo 128 = .ok (.if_icmp .ne 7, 3) := by decide +kernel
theorem dX3_lookAtTwo_131 : decode cX3_lookAtTwo 131 = .ok (.iconst 1, 1) := by decide +kernel
theorem dX3_lookAtTwo_132 : decode cX3_lookAtTwo 132 = .ok (.goto 4, 3) := by decide +kernel
theorem dX3_lookAtTwo_135 : decode cX3_lookAtTwo 135 = .ok (.iconst 0, 1) := by decide +kernel
theorem dX3_lookAtTwo_136 : decode cX3_lookAtTwo 136 = .ok (.invokevirtual 123, 3) := by decide +kernel
theorem dX3_lookAtTwo_139 : decode cX3_lookAtTwo 139 = .ok (.aload_n 0, 1) := by decide +kernel
theorem dX3_lookAtTwo_140 : decode cX3_lookAtTwo 140 = .ok (.bipush 12, 2) := by decide +kernel
theorem dX3_lookAtTwo_142 : decode cX3_lookAtTwo 142 = .ok (.iload_n 1, 1) := by decide +kernel
theorem dX3_lookAtTwo_143 : decode cX3_lookAtTwo 143 = .ok (.iload_n 2, 1) := by decide +kernel
theorem dX3_lookAtTwo_144 : decode cX3_lookAtTwo 144 = .ok (.iload_n 3, 1) := by decide +kernel
theorem dX3_lookAtTwo_145 : decode cX3_lookAtTwo 145 = .ok (.ifCond .eq 19, 3) := by decide +kernel
theorem dX3_lookAtTwo_148 : decode cX3_lookAtTwo 148 = .ok (.iload 5, 2) := by decide +kernel
theorem dX3_lookAtTwo_150 : decode cX3_lookAtTwo 150 = .ok (.iconst 3, 1) := by decide +kernel
theorem dX3_lookAtTwo_151 : decode cX3_lookAtTwo 151 = .ok (.if_icmp .eq 13, 3) := by decide +kernel
theorem dX3_lookAtTwo_154 : decode cX3_lookAtTwo 154 = .ok (.iload 6, 2) := by decide +kernel
theorem dX3_lookAtTwo_156 : decode cX3_lookAtTwo 156 = .ok (.iconst 3, 1) := by decide +kernel
theorem dX3_lookAtTwo_157 : decode cX3_lookAtTwo 157 = .ok (.if_icmp .ne 7, 3) := by decide +kernel
theorem dX3_lookAtTwo_160 : decode cX3_lookAtTwo 160 = .ok (.iconst 1, 1) := by decide +kernel
theorem dX3_lookAtTwo_161 : decode cX3_lookAtTwo 161 = .ok (.goto 4, 3) := by decide +kernel
theorem dX3_lookAtTwo_164 : decode cX3_lookAtTwo 164 = .ok (.iconst 0, 1) := by decide +kernel
theorem dX3_lookAtTwo_165 : decode cX3_lookAtTwo 165 = .ok (.invokevirtual 123, 3) := by decide +kernel
theorem dX3_lookAtTwo_168 : decode cX3_lookAtTwo 168 = .ok (.iload_n 1, 1) := by decide +kernel
theorem dX3_lookAtTwo_169 : decode cX3_lookAtTwo 169 = .ok (.ifCond .ne 79, 3) := by decide +kernel
theorem dX3_lookAtTwo_172 : decode cX3_lookAtTwo 172 = .ok (.iload_n 2, 1) := by decide +kernel
theorem dX3_lookAtTwo_173 : decode cX3_lookAtTwo 173 = .ok (.aload_n 0, 1) := by decide +kernel
theorem dX3_lookAtTwo_174 : decode cX3_lookAtTwo 174 = .ok (.getfield 58, 3) := by decide +kernel
theorem dX3_lookAtTwo_177 : decode cX3_lookAtTwo 177 = .ok (.iconst 1, 1) := by decide +kernel
theorem dX3_lookAtTwo_178 : decode cX3_lookAtTwo 178 = .ok (.isub, 1) := by decide +kernel
theorem dX3_lookAtTwo_179 : decode cX3_lookAtTwo 179 = .ok (.if_icmp .ne 69, 3) := by decide +kernel
theorem dX3_lookAtTwo_182 : decode cX3_lookAtTwo 182 = .ok (.aload_n 0, 1) := by decide +kernel
theorem dX3_lookAtTwo_183 : decode cX3_lookAtTwo 183 = .ok (.getfield 25, 3) := by decide +kernel
theorem dX3_lookAtTwo_186 : decode cX3_lookAtTwo 186 = .ok (.getfield 104, 3) := by decide +kernel
theorem dX3_lookAtTwo_189 : decode cX3_lookAtTwo 189 = .ok (.iload_n 2, 1) := by decide +kernel
theorem dX3_lookAtTwo_190 : decode cX3_lookAtTwo 190 = .ok (.iaload, 1) := by decide +kernel
theorem dX3_lookAtTwo_191 : decode cX3_lookAtTwo 191 = .ok (.aload_n 0, 1) := by decide +kernel
theorem dX3_lookAtTwo_192 : decode cX3_lookAtTwo 192 = .ok (.getfield 21, 3) := by decide +kernel
theorem dX3_lookAtTwo_195 : decode cX3_lookAtTwo 195 = .ok (.getfield 104, 3) := by decide +kernel
theorem dX3_lookAtTwo_198 : decode cX3_lookAtTwo 198 = .ok (.iload_n 2, 1) := by decide +kernel
theorem dX3_lookAtTwo_199 : decode cX3_lookAtTwo 199 = .ok (.iaload, 1) := by decide +kernel
theorem dX3_lookAtTwo_200 : decode cX3_lookAtTwo 200 = .ok (.isub, 1) := by decide +kernel
theorem dX3_lookAtTwo_201 : decode cX3_lookAtTwo 201 = .ok (.invokestatic 163, 3) := by decide +kernel
theorem dX3_lookAtTwo_204 : decode cX3_lookAtTwo 204 = .ok (.iconst 2, 1) := by decide +kernel
theorem dX3_lookAtTwo_205 : decode cX3_lookAtTwo 205 = .ok (.if_icmp .le 7, 3) := by decide +kernel
theorem dX3_lookAtTwo_208 : decode cX3_lookAtTwo 208 = .ok (.iconst 1, 1) := by decide +kernel
theorem dX3_lookAtTwo_209 : decode cX3_lookAtTwo 209 = .ok (.goto 4, 3) := by decide +kernel
theorem dX3_lookAtTwo_212 : decode cX3_lookAtTwo 212 = .ok (.iconst 0, 1) := by decide +kernel
theorem dX3_lookAtTwo_213 : decode cX3_lookAtTwo 213 = .ok (.istore 8, 2) := by decide +kernel
theorem dX3_lookAtTwo_215 : decode cX3_lookAtTwo 215 = .ok (.aload_n 0, 1) := by decide +kernel
theorem dX3_lookAtTwo_216 : decode cX3_lookAtTwo 216 = .ok (.iconst 2, 1) := by decide +kernel
theorem dX3_lookAtTwo_217 : decode cX3_lookAtTwo 217 = .ok (.iload_n 1, 1) := by decide +kernel
theorem dX3_lookAtTwo_218 : decode cX3_lookAtTwo 218 = .ok (.iload_n 2, 1) := by decide +kernel
theorem dX3_lookAtTwo_219 : decode cX3_lookAtTwo 219 = .ok (.iload_n 3, 1) := by decide +kernel
theorem dX3_lookAtTwo_220 : decode cX3_lookAtTwo 220 = .ok (.ifCond .eq 24, 3) := by decide +kernel
theorem dX3_lookAtTwo_223 : decode cX3_lookAtTwo 223 = .ok (.iload 7, 2) := by decide +kernel
theorem dX3_lookAtTwo_225 : decode cX3_lookAtTwo 225 = .ok (.ifCond .eq 19, 3) := by decide +kernel
theorem dX3_lookAtTwo_228 : decode cX3_lookAtTwo 228 = .ok (.iload 5, 2) := by decide +kernel
theorem dX3_lookAtTwo_230 : decode cX3_lookAtTwo 230 = .ok (.iload 6, 2) := by decide +kernel
theorem dX3_lookAtTwo_232 : decode cX3_lookAtTwo 232 = .ok (.if_icmp .eq 12, 3) := by decide +kernel
theorem dX3_lookAtTwo_235 : decode cX3_lookAtTwo 235 = .ok (.iload 8, 2) := by decide +kernel
theorem dX3_lookAtTwo_237 : decode cX3_lookAtTwo 237 = .ok (.ifCond .eq 7, 3) := by decide +kernel
theorem dX3_lookAtTwo_240 : decode cX3_lookAtTwo 240 = .ok (.iconst 1, 1) := by decide +kernel
theorem dX3_lookAtTwo_241 : decode cX3_lookAtTwo 241 = .ok (.goto 4, 3) := by decide +kernel
theorem dX3_lookAtTwo_244 : decode cX3_lookAtTwo 244 = .ok (.iconst 0, 1) := by decide +kernel
theorem dX3_lookAtTwo_245 : decode cX3_lookAtTwo 245 = .ok (.invokevirtual 123, 3) := by decide +kernel
theorem dX3_lookAtTwo_248 : decode cX3_lookAtTwo 248 = .ok (.iload_n 2, 1) := by decide +kernel
theorem dX3_lookAtTwo_249 : decode cX3_lookAtTwo 249 = .ok (.iload_n 1, 1) := by decide +kernel
theorem dX3_lookAtTwo_250 : decode cX3_lookAtTwo 250 = .ok (.iconst 1, 1) := by decide +kernel
theorem dX3_lookAtTwo_251 : decode cX3_lookAtTwo 251 = .ok (.iadd, 1) := by decide +kernel
theorem dX3_lookAtTwo_252 : decode cX3_lookAtTwo 252 = .ok (.if_icmp .ne 57, 3) := by decide +kernel
theorem dX3_lookAtTwo_255 : decode cX3_lookAtTwo 255 = .ok (.aload_n 0, 1) := by decide +kernel
theorem dX3_lookAtTwo_256 : decode cX3_lookAtTwo 256 = .ok (.iconst 4, 1) := by decide +kernel
theorem dX3_lookAtTwo_257 : decode cX3_lookAtTwo 257 = .ok (.iload_n 1, 1) := by decide +kernel
theorem dX3_lookAtTwo_258 : decode cX3_lookAtTwo 258 = .ok (.iload_n 2, 1) := by decide +kernel
theorem dX3_lookAtTwo_259 : decode cX3_lookAtTwo 259 = .ok (.aload_n 0, 1) := by decide +kernel
theorem dX3_lookAtTwo_260 : decode cX3_lookAtTwo 260 = .ok (.getfield 25, 3) := by decide +kernel
theorem dX3_lookAtTwo_263 : decode cX3_lookAtTwo 263 = .ok (.getfield 104, 3) := by decide +kernel
theorem dX3_lookAtTwo_266 : decode cX3_lookAtTwo 266 = .ok (.iload_n 1, 1) := by decide +kernel
theorem dX3_lookAtTwo_267 : decode cX3_lookAtTwo 267 = .ok (.iaload, 1) := by decide +kernel
theorem dX3_lookAtTwo_268 : decode cX3_lookAtTwo 268 = .ok (.aload_n 0, 1) := by decide +kernel
theorem dX3_lookAtTwo_269 : decode cX3_lookAtTwo 269 = .ok (.getfield 21, 3) := by decide +kernel
theorem dX3_lookAtTwo_272 : decode cX3_lookAtTwo 272 = .ok (.getfield 104, 3) := by decide +kernel
theorem dX3_lookAtTwo_275 : decode cX3_lookAtTwo 275 = .ok (.iload_n 2, 1) := by decide +kernel
theorem dX3_lookAtTwo_276 : decode cX3_lookAtTwo 276 = .ok (.iaload, 1) := by decide +kernel
theorem dX3_lookAtTwo_277 : decode cX3_lookAtTwo 277 = .ok (.if_icmp .gt 24, 3) := by decide +kernel
theorem dX3_lookAtTwo_280 : decode cX3_lookAtTwo 280 = .ok (.aload_n 0, 1) := by decide +kernel
theorem dX3_lookAtTwo_281 : decode cX3_lookAtTwo 281 = .ok (.getfield 25, 3) := by decide +kernel
theorem dX3_lookAtTwo_284 : decode cX3_lookAtTwo 284 = .ok (.getfield 104, 3) := by decide +kernel
theorem dX3_lookAtTwo_287 : decode cX3_lookAtTwo 287 = .ok (.iload_n 2, 1) := by decide +kernel
theorem dX3_lookAtTwo_288 : decode cX3_lookAtTwo 288 = .ok (.iaload, 1) := by decide +kernel
theorem dX3_lookAtTwo_289 : decode cX3_lookAtTwo 289 = .ok (.aload_n 0, 1) := by decide +kernel
theorem dX3_lookAtTwo_290 : decode cX3_lookAtTwo 290 = .ok (.getfield 21, 3) := by decide +kernel
theorem dX3_lookAtTwo_293 : decode cX3_lookAtTwo 293 = .ok (.getfield 104, 3) := by decide +kernel
theorem dX3_lookAtTwo_296 : decode cX3_lookAtTwo 296 = .ok (.iload_n 1, 1) := by decide +kernel
theorem dX3_lookAtTwo_297 : decode cX3_lookAtTwo 297 = .ok (.iaload, 1) := by decide +kernel
theorem dX3_lookAtTwo_298 : decode cX3_lookAtTwo 298 = .ok (.if_icmp .ge 7, 3) := by decide +kernel
theorem dX3_lookAtTwo_301 : decode cX3_lookAtTwo 301 = .ok (.iconst 1, 1) := by decide +kernel
theorem dX3_lookAtTwo_302 : decode cX3_lookAtTwo 302 = .ok (.goto 4, 3) := by decide +kernel
theorem dX3_lookAtTwo_305 : decode cX3_lookAtTwo 305 = .ok (.iconst 0, 1) := by decide +kernel
theorem dX3_lookAtTwo_306 : decode cX3_lookAtTwo 306 = .ok (.invokevirtual 123, 3) := by decide +kernel
theorem dX3_lookAtTwo_309 : decode cX3_lookAtTwo 309 = .ok (.return_, 1) := by decide +kernel
theorem dX3_isCrossRelation_0 : decode cX3_isCrossRelation 0 = .ok (.aload_n 0, 1) := by decide +kernel
theorem dX3_isCrossRelation_1 : decode cX3_isCrossRelation 1 = .ok (.getfield 21, 3) := by decide +kernel
theorem dX3_isCrossRelation_4 : decode cX3_isCrossRelation 4 = .ok (.getfield 93, 3) := by decide +kernel
theorem dX3_isCrossRelation_7 : decode cX3_isCrossRelation 7 = .ok (.iload_n 1, 1) := by decide +kernel
theorem dX3_isCrossRelation_8 : decode cX3_isCrossRelation 8 = .ok (.baload, 1) := by decide +kernel
theorem dX3_isCrossRelation_9 : decode cX3_isCrossRelation 9 = .ok (.ifCond .eq 87, 3) := by decide +kernel
theorem dX3_isCrossRelation_12 : decode cX3_isCrossRelation 12 = .ok (.aload_n 0, 1) := by decide +kernel
theorem dX3_isCrossRelation_13 : decode cX3_isCrossRelation 13 = .ok (.getfield 25, 3) := by decide +kernel
theorem dX3_isCrossRelation_16 : decode cX3_isCrossRelation 16 = .ok (.getfield 93, 3) := by decide +kernel
theorem dX3_isCrossRelation_19 : decode cX3_isCrossRelation 19 = .ok (.iload_n 2, 1) := by decide +kernel
theorem dX3_isCrossRelation_20 : decode cX3_isCrossRelation 20 = .ok (.baload, 1) := by decide +kernel
theorem dX3_isCrossRelation_21 : decode cX3_isCrossRelation 21 = .ok (.ifCond .eq 75, 3) := by decide +kernel
theorem dX3_isCrossRelation_24 : decode cX3_isCrossRelation 24 = .ok (.aload_n 0, 1) := by decide +kernel
theorem dX3_isCrossRelation_25 : decode cX3_isCrossRelation 25 = .ok (.getfield 21, 3) := by decide +kernel
theorem dX3_isCrossRelation_28 : decode cX3_isCrossRelation 28 = .ok (.iload_n 1, 1) := by decide +kernel
theorem dX3_isCrossRelation_29 : decode cX3_isCrossRelation 29 = .ok (.invokevirtual 166, 3) := by decide +kernel
theorem dX3_isCrossRelation_32 : decode cX3_isCrossRelation 32 = .ok (.aload_n 0, 1) := by decide +kernel
theorem dX3_isCrossRelation_33 : decode cX3_isCrossRelation 33 = .ok (.getfield 25, 3) := by decide +kernel
theorem dX3_isCrossRelation_36 : decode cX3_isCrossRelation 36 = .ok (.iload_n 2, 1) := by decide +kernel
theorem dX3_isCrossRelation_37 : decode cX3_isCrossRelation 37 = .ok (.invokevirtual 166, 3) := by decide +kernel
theorem dX3_isCrossRelation_40 : decode cX3_isCrossRelation 40 = .ok (.if_icmp .ne 56, 3) := by decide +kernel
theorem dX3_isCrossRelation_43 : decode cX3_isCrossRelation 43 = .ok (.aload_n 0, 1) := by decide +kernel
theorem dX3_isCrossRelation_44 : decode cX3_isCrossRelation 44 = .ok (.getfield 21, 3) := by decide +kernel
theorem dX3_isCrossRelation_47 : decode cX3_isCrossRelation 47 = .ok (.getfield 169, 3) := by decide +kernel
theorem dX3_isCrossRelation_50 : decode cX3_isCrossRelation 50 = .ok (.iload_n 1, 1) := by decide +kernel
theorem dX3_isCrossRelation_51 : decode cX3_isCrossRelation 51 = .ok (.iaload, 1) := by decide +kernel
theorem dX3_isCrossRelation_52 : decode cX3_isCrossRelation 52 = .ok (.aload_n 0, 1) := by decide +kernel
theorem dX3_isCrossRelation_53 : decode cX3_isCrossRelation 53 = .ok (.getfield 25, 3) := by decide +kernel
theorem dX3_isCrossRelation_56 : decode cX3_isCrossRelation 56 = .ok (.getfield 169, 3) := by decide +kernel
theorem dX3_isCrossRelation_59 : decode cX3_isCrossRelation 59 = .ok (.iload_n 2, 1) := by decide +kernel
theorem dX3_isCrossRelation_60 : decode cX3_isCrossRelation 60 = .ok (.iaload, 1) := by decide +kernel
theorem dX3_isCrossRelation_61 : decode cX3_isCrossRelation 61 = .ok (.if_icmp .eq 35, 3) := by decide +kernel
theorem dX3_isCrossRelation_64 : decode cX3_isCrossRelation 64 = .ok (.aload_n 0, 1) := by decide +kernel
theorem dX3_isCrossRelation_65 : decode cX3_isCrossRelation 65 = .ok (.getfield 25, 3) := by decide +kernel
theorem dX3_isCrossRelation_68 : decode cX3_isCrossRelation 68 = .ok (.iload_n 1, 1) := by decide +kernel
theorem dX3_isCrossRelation_69 : decode cX3_isCrossRelation 69 = .ok (.aload_n 0, 1) := by decide +kernel
theorem dX3_isCrossRelation_70 : decode cX3_isCrossRelation 70 = .ok (.getfield 25, 3) := by decide +kernel
theorem dX3_isCrossRelation_73 : decode cX3_isCrossRelation 73 = .ok (.iload_n 2, 1) := by decide +kernel
theorem dX3_isCrossRelation_74 : decode cX3_isCrossRelation 74 = .ok (.invokevirtual 166, 3) := by decide +kernel
theorem dX3_isCrossRelation_77 : decode cX3_isCrossRelation 77 = .ok (.aload_n 0, 1) := by decide +kernel
theorem dX3_isCrossRelation_78 : decode cX3_isCrossRelation 78 = .ok (.getfield 25, 3) := by decide +kernel
theorem dX3_isCrossRelation_81 : decode cX3_isCrossRelation 81 = .ok (.getfield 169, 3) := by decide +kernel
theorem dX3_isCrossRelation_84 : decode cX3_isCrossRelation 84 = .ok (.iload_n 2, 1) := by decide +kernel
theorem dX3_isCrossRelation_85 : decode cX3_isCrossRelation 85 = .ok (.iaload, 1) := by decide +kernel
theorem dX3_isCrossRelation_86 : decode cX3_isCrossRelation 86 = .ok (.invokevirtual 172, 3) := by decide +kernel
theorem dX3_isCrossRelation_89 : decode cX3_isCrossRelation 89 = .ok (.ifCond .ne 7, 3) := by decide +kernel
theorem dX3_isCrossRelation_92 : decode cX3_isCrossRelation 92 = .ok (.iconst 1, 1) := by decide +kernel
theorem dX3_isCrossRelation_93 : decode cX3_isCrossRelation 93 = .ok (.goto 4, 3) := by decide +kernel
theorem dX3_isCrossRelation_96 : decode cX3_isCrossRelation 96 = .ok (.iconst 0, 1) := by decide +kernel
theorem dX3_isCrossRelation_97 : decode cX3_isCrossRelation 97 = .ok (.ireturn, 1) := by decide +kernel
