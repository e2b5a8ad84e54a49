theorem dX3_lookAtPair_0 : decode cX3_lookAtPair 0 = .ok (.iconst 0, 1) := by decide +kernel
theorem dX3_lookAtPair_1 : decode cX3_lookAtPair 1 = .ok (.istore_n 1, 1) := by decide +kernel
theorem dX3_lookAtPair_2 : decode cX3_lookAtPair 2 = .ok (.iload_n 1, 1) := by decide +kernel
theorem dX3_lookAtPair_3 : decode cX3_lookAtPair 3 = .ok (.aload_n 0, 1) := by decide +kernel
theorem dX3_lookAtPair_4 : decode cX3_lookAtPair 4 = .ok (.getfield 58, 3) := by decide +kernel
theorem dX3_lookAtPair_7 : decode cX3_lookAtPair 7 = .ok (.if_icmp .ge 105, 3) := by decide +kernel
theorem dX3_lookAtPair_10 : decode cX3_lookAtPair 10 = .ok (.aload_n 0, 1) := by decide +kernel
theorem dX3_lookAtPair_11 : decode cX3_lookAtPair 11 = .ok (.iload_n 1, 1) := by decide +kernel
theorem dX3_lookAtPair_12 : decode cX3_lookAtPair 12 = .ok (.invokevirtual 101, 3) := by decide +kernel
theorem dX3_lookAtPair_15 : decode cX3_lookAtPair 15 = .ok (.ifCond .eq 8, 3) := by decide +kernel
theorem dX3_lookAtPair_18 : decode cX3_lookAtPair 18 = .ok (.aload_n 0, 1) := by decide +kernel
theorem dX3_lookAtPair_19 : decode cX3_lookAtPair 19 = .ok (.iload_n 1, 1) := by decide +kernel
theorem dX3_lookAtPair_20 : decode cX3_lookAtPair 20 = .ok (.invokevirtual 131, 3) := by decide +kernel
theorem dX3_lookAtPair_23 : decode cX3_lookAtPair 23 = .ok (.iload_n 1, 1) := by decide +kernel
theorem dX3_lookAtPair_24 : decode cX3_lookAtPair 24 = .ok (.iconst 1, 1) := by decide +kernel
theorem dX3_lookAtPair_25 : decode cX3_lookAtPair 25 = .ok (.iadd, 1) := by decide +kernel
theorem dX3_lookAtPair_26 : decode cX3_lookAtPair 26 = .ok (.istore_n 2, 1) := by decide +kernel
theorem dX3_lookAtPair_27 : decode cX3_lookAtPair 27 = .ok (.iload_n 2, 1) := by decide +kernel
theorem dX3_lookAtPair_28 : decode cX3_lookAtPair 28 = .ok (.aload_n 0, 1) := by decide +kernel
theorem dX3_lookAtPair_29 : decode cX3_lookAtPair 29 = .ok (.getfield 58, 3) := by decide +kernel
theorem dX3_lookAtPair_32 : decode cX3_lookAtPair 32 = .ok (.if_icmp .ge 31, 3) := by decide +kernel
theorem dX3_lookAtPair_35 : decode cX3_lookAtPair 35 = .ok (.aload_n 0, 1) := by decide +kernel
theorem dX3_lookAtPair_36 : decode cX3_lookAtPair 36 = .ok (.iload_n 1, 1) := by decide +kernel
theorem dX3_lookAtPair_37 : decode cX3_lookAtPair 37 = .ok (.invokevirtual 97, 3) := by decide +kernel
theorem dX3_lookAtPair_40 : decode cX3_lookAtPair 40 = .ok (.ifCond .eq 17, 3) := by decide +kernel
theorem dX3_lookAtPair_43 : decode cX3_lookAtPair 43 = .ok (.aload_n 0, 1) := by decide +kernel
theorem dX3_lookAtPair_44 : decode cX3_lookAtPair 44 = .ok (.iload_n 2, 1) := by decide +kernel
theorem dX3_lookAtPair_45 : decode cX3_lookAtPair 45 = .ok (.invokevirtual 97, 3) := by decide +kernel
theorem dX3_lookAtPair_48 : decode cX3_lookAtPair 48 = .ok (.ifCond .eq 9, 3) := by decide +kernel
theorem dX3_lookAtPair_51 : decode cX3_lookAtPair 51 = .ok (.aload_n 0, 1) := by decide +kernel
theorem dX3_lookAtPair_52 : decode cX3_lookAtPair 52 = .ok (.iload_n 1, 1) := by decide +kernel
theorem dX3_lookAtPair_53 : decode cX3_lookAtPair 53 = .ok (.iload_n 2, 1) := by decide +kernel
theorem dX3_lookAtPair_54 : decode cX3_lookAtPair 54 = .ok (.invokevirtual 135, 3) := by decide +kernel
theorem dX3_lookAtPair_57 : decode cX3_lookAtPair 57 = .ok (.iinc 2 1, 3) := by decide +kernel
theorem dX3_lookAtPair_60 : decode cX3_lookAtPair 60 = .ok (.goto (-33), 3) := by decide +kernel
theorem dX3_lookAtPair_63 : decode cX3_lookAtPair 63 = .ok (.iconst 0, 1) := by decide +kernel
theorem dX3_lookAtPair_64 : decode cX3_lookAtPair 64 = .ok (.istore_n 2, 1) := by decide +kernel
theorem dX3_lookAtPair_65 : decode cX3_lookAtPair 65 = .ok (.iload_n 2, 1) := by decide +kernel
theorem dX3_lookAtPair_66 : decode cX3_lookAtPair 66 = .ok (.aload_n 0, 1) := by decide +kernel
theorem dX3_lookAtPair_67 : decode cX3_lookAtPair 67 = .ok (.getfield 58, 3) := by decide +kernel
theorem dX3_lookAtPair_70 : decode cX3_lookAtPair 70 = .ok (.if_icmp .ge 36, 3) := by decide +kernel
theorem dX3_lookAtPair_73 : decode cX3_lookAtPair 73 = .ok (.aload_n 0, 1) := by decide +kernel
theorem dX3_lookAtPair_74 : decode cX3_lookAtPair 74 = .ok (.bipush 11, 2) := by decide +kernel
theorem dX3_lookAtPair_76 : decode cX3_lookAtPair 76 = .ok (.iload_n 1, 1) := by decide +kernel
theorem dX3_lookAtPair_77 : decode cX3_lookAtPair 77 = .ok (.iload_n 2, 1) := by decide +kernel
theorem dX3_lookAtPair_78 : decode cX3_lookAtPair 78 = .ok (.iload_n 1, 1) := by decide +kernel
theorem dX3_lookAtPair_79 : decode cX3_lookAtPair 79 = .ok (.iload_n 2, 1) := by decide +kernel
theorem dX3_lookAtPair_80 : decode cX3_lookAtPair 80 = .ok (.if_icmp .eq 16, 3) := by decide +kernel
theorem dX3_lookAtPair_83 : decode cX3_lookAtPair 83 = .ok (.aload_n 0, 1) := by decide +kernel
theorem dX3_lookAtPair_84 : decode cX3_lookAtPair 84 = .ok (.iload_n 1, 1) := by decide +kernel
theorem dX3_lookAtPair_85 : decode cX3_lookAtPair 85 = .ok (.iload_n 2, 1) := by decide +kernel
theorem dX3_lookAtPair_86 : decode cX3_lookAtPair 86 = .ok (.invokevirtual 138, 3) := by decide +kernel
theorem dX3_lookAtPair_89 : decode cX3_lookAtPair 89 = .ok (.ifCond .eq 7, 3) := by decide +kernel
theorem dX3_lookAtPair_92 : decode cX3_lookAtPair 92 = .ok (.iconst 1, 1) := by decide +kernel
theorem dX3_lookAtPair_93 : decode cX3_lookAtPair 93 = .ok (.goto 4, 3) := by decide +kernel
theorem dX3_lookAtPair_96 : decode cX3_lookAtPair 96 = .ok (.iconst 0, 1) := by decide +kernel
theorem dX3_lookAtPair_97 : decode cX3_lookAtPair 97 = .ok (.invokevirtual 123, 3) := by decide +kernel
theorem dX3_lookAtPair_100 : decode cX3_lookAtPair 100 = .ok (.iinc 2 1, 3) := by decide +kernel
theorem dX3_lookAtPair_103 : decode cX3_lookAtPair 103 = .ok (.goto (-38), 3) := by decide +kernel
theorem dX3_lookAtPair_106 : decode cX3_lookAtPair 106 = .ok (.iinc 1 1, 3) := by decide +kernel
theorem dX3_lookAtPair_109 : decode cX3_lookAtPair 109 = .ok (.goto (-107), 3) := by decide +kernel
theorem dX3_lookAtPair_112 : decode cX3_lookAtPair 112 = .ok (.return_, 1) := by decide +kernel
theorem dX3_walk_0 : decode cX3_walk 0 = .ok (.aload_n 0, 1) := by decide +kernel
theorem dX3_walk_1 : decode cX3_walk 1 = .ok (.getfield 12, 3) := by decide +kernel
theorem dX3_walk_4 : decode cX3_walk 4 = .ok (.aload_n 2, 1) := by decide +kernel
theorem dX3_walk_5 : decode cX3_walk 5 = .ok (.invokevirtual 54, 3) := by decide +kernel
theorem dX3_walk_8 : decode cX3_walk 8 = .ok (.aload_n 0, 1) := by decide +kernel
theorem dX3_walk_9 : decode cX3_walk 9 = .ok (.aload_n 1, 1) := by decide +kernel
theorem dX3_walk_10 : decode cX3_walk 10 = .ok (.arraylength, 1) := by decide +kernel
theorem dX3_walk_11 : decode cX3_walk 11 = .ok (.putfield 58, 3) := by decide +kernel
theorem dX3_walk_14 : decode cX3_walk 14 = .ok (.aload_n 0, 1) := by decide +kernel
theorem dX3_walk_15 : decode cX3_walk 15 = .ok (.getfield 25, 3) := by decide +kernel
theorem dX3_walk_18 : decode cX3_walk 18 = .ok (.invokevirtual 61, 3) := by decide +kernel
theorem dX3_walk_21 : decode cX3_walk 21 = .ok (.iconst 0, 1) := by decide +kernel
theorem dX3_walk_22 : decode cX3_walk 22 = .ok (.istore_n 3, 1) := by decide +kernel
theorem dX3_walk_23 : decode cX3_walk 23 = .ok (.iload_n 3, 1) := by decide +kernel
theorem dX3_walk_24 : decode cX3_walk 24 = .ok (.aload_n 2, 1) := by decide +kernel
theorem dX3_walk_25 : decode cX3_walk 25 = .ok (.getfield 64, 3) := by decide +kernel
theorem dX3_walk_28 : decode cX3_walk 28 = .ok (.if_icmp .ge 57, 3) := by decide +kernel
theorem dX3_walk_31 : decode cX3_walk 31 = .ok (.aload_n 0, 1) := by decide +kernel
theorem dX3_walk_32 : decode cX3_walk 32 = .ok (.getfield 21, 3) := by decide +kernel
theorem dX3_walk_35 : decode cX3_walk 35 = .ok (.astore 4, 2) := by decide +kernel
theorem dX3_walk_37 : decode cX3_walk 37 = .ok (.aload_n 0, 1) := by decide +kernel
theorem dX3_walk_38 : decode cX3_walk 38 = .ok (.aload_n 0, 1) := by decide +kernel
theorem dX3_walk_39 : decode cX3_walk 39 = .ok (.getfield 25, 3) := by decide +kernel
theorem dX3_walk_42 : decode cX3_walk 42 = .ok (.putfield 21, 3) := by decide +kernel
theorem dX3_walk_45 : decode cX3_walk 45 = .ok (.aload_n 0, 1) := by decide +kernel
theorem dX3_walk_46 : decode cX3_walk 46 = .ok (.aload 4, 2) := by decide +kernel
theorem dX3_walk_48 : decode cX3_walk 48 = .ok (.putfield 25, 3) := by decide +kernel
theorem dX3_walk_51 : decode cX3_walk 51 = .ok (.aload_n 0, 1) := by decide +kernel
theorem dX3_walk_52 : decode cX3_walk 52 = .ok (.getfield 25, 3) := by decide +kernel
theorem dX3_walk_55 : decode cX3_walk 55 = .ok (.aload_n 1, 1) := by decide +kernel
theorem dX3_walk_56 : decode cX3_walk 56 = .ok (.aload_n 2, 1) := by decide +kernel
theorem dX3_walk_57 : decode cX3_walk 57 = .ok (.getfield 69, 3) := by decide +kernel
theorem dX3_walk_60 : decode cX3_walk 60 = .ok (.iload_n 3, 1) := by decide +kernel
theorem dX3_walk_61 : decode cX3_walk 61 = .ok (.iaload, 1) := by decide +kernel
theorem dX3_walk_62 : decode cX3_walk 62 = .ok (.invokevirtual 72, 3) := by decide +kernel
theorem dX3_walk_65 : decode cX3_walk 65 = .ok (.aload_n 0, 1) := by decide +kernel
theorem dX3_walk_66 : decode cX3_walk 66 = .ok (.iload_n 3, 1) := by decide +kernel
theorem dX3_walk_67 : decode cX3_walk 67 = .ok (.putfield 76, 3) := by decide +kernel
theorem dX3_walk_70 : decode cX3_walk 70 = .ok (.aload_n 0, 1) := by decide +kernel
theorem dX3_walk_71 : decode cX3_walk 71 = .ok (.aload_n 1, 1) := by decide +kernel
theorem dX3_walk_72 : decode cX3_walk 72 = .ok (.invokevirtual 79, 3) := by decide +kernel
theorem dX3_walk_75 : decode cX3_walk 75 = .ok (.aload_n 0, 1) := by decide +kernel
theorem dX3_walk_76 : decode cX3_walk 76 = .ok (.invokevirtual 83, 3) := by decide +kernel
theorem dX3_walk_79 : decode cX3_walk 79 = .ok (.iinc 3 1, 3) := by decide +kernel
theorem dX3_walk_82 : decode cX3_walk 82 = .ok (.goto (-59), 3) := by decide +kernel
theorem dX3_walk_85 : decode cX3_walk 85 = .ok (.return_, 1) := by decide +kernel
theorem dX5_firstFrom_0 : decode cX5_firstFrom 0 = .ok (.iconst 0, 1) := by decide +kernel
theorem dX5_firstFrom_1 : decode cX5_firstFrom 1 = .ok (.istore_n 2, 1) := by decide +kernel
theorem dX5_firstFrom_2 : decode cX5_firstFrom 2 = .ok (.iload_n 2, 1) := by decide +kernel
theorem dX5_firstFrom_3 : decode cX5_firstFrom 3 = .ok (.aload_n 0, 1) := by decide +kernel
theorem dX5_firstFrom_4 : decode cX5_firstFrom 4 = .ok (.getfield 18, 3) := by decide +kernel
theorem dX5_firstFrom_7 : decode cX5_firstFrom 7 = .ok (.if_icmp .ge 21, 3) := by decide +kernel
theorem dX5_firstFrom_10 : decode cX5_firstFrom 10 = .ok (.aload_n 0, 1) := by decide +kernel
theorem dX5_firstFrom_11 : decode cX5_firstFrom 11 = .ok (.getfield 9, 3) := by decide +kernel
theorem dX5_firstFrom_14 : decode cX5_firstFrom 14 = .ok (.iload_n 2, 1) := by decide +kernel
theorem dX5_firstFrom_15 : decode cX5_firstFrom 15 = .ok (.iaload, 1) := by decide +kernel
theorem dX5_firstFrom_16 : decode cX5_firstFrom 16 = .ok (.iload_n 1, 1) := by decide +kernel
theorem dX5_firstFrom_17 : decode cX5_firstFrom 17 = .ok (.if_icmp .lt 5, 3) := by decide +kernel
theorem dX5_firstFrom_20 : decode cX5_firstFrom 20 = .ok (.iload_n 2, 1) := by decide +kernel
theorem dX5_firstFrom_21 : decode cX5_firstFrom 21 = .ok (.ireturn, 1) := by decide +kernel
theorem dX5_firstFrom_22 : decode cX5_firstFrom 22 = .ok (.iinc 2 1, 3) := by decide +kernel
theorem dX5_firstFrom_25 : decode cX5_firstFrom 25 = .ok (.goto (-23), 3) := by decide +kernel
theorem dX5_firstFrom_28 : decode cX5_firstFrom 28 = .ok (.iconst (-1), 1) := by decide +kernel
theorem dX5_firstFrom_29 : decode cX5_firstFrom 29 = .ok (.ireturn, 1) := by decide +kernel
theorem dX5_lastBefore_0 : decode cX5_lastBefore 0 = .ok (.aload_n 0, 1) := by decide +kernel
theorem dX5_lastBefore_1 : decode cX5_lastBefore 1 = .ok (.getfield 18, 3) := by decide +kernel
theorem dX5_lastBefore_4 : decode cX5_lastBefore 4 = .ok (.iconst 1, 1) := by decide +kernel
theorem dX5_lastBefore_5 : decode cX5_lastBefore 5 = .ok (.isub, 1) := by decide +kernel
theorem dX5_lastBefore_6 : decode cX5_lastBefore 6 = .ok (.istore_n 2, 1) := by decide +kernel
theorem dX5_lastBefore_7 : decode cX5_lastBefore 7 = .ok (.iload_n 2, 1) := by decide +kernel
theorem dX5_lastBefore_8 : decode cX5_lastBefore 8 = .ok (.ifCond .lt 21, 3) := by decide +kernel
theorem dX5_lastBefore_11 : decode cX5_lastBefore 11 = .ok (.aload_n 0, 1) := by decide +kernel
theorem dX5_lastBefore_12 : decode cX5_lastBefore 12 = .ok (.getfield 9, 3) := by decide +kernel
theorem dX5_lastBefore_15 : decode cX5_lastBefore 15 = .ok (.iload_n 2, 1) := by decide +kernel
theorem dX5_lastBefore_16 : decode cX5_lastBefore 16 = .ok (.iaload, 1) := by decide +kernel
theorem dX5_lastBefore_17 : decode cX5_lastBefore 17 = .ok (.iload_n 1, 1) := by decide +kernel
theorem dX5_lastBefore_18 : decode cX5_lastBefore 18 = .ok (.if_icmp .ge 5, 3) := by decide +kernel
theorem dX5_lastBefore_21 : decode cX5_lastBefore 21 = .ok (.iload_n 2, 1) := by decide +kernel
theorem dX5_lastBefore_22 : decode cX5_lastBefore 22 = .ok (.ireturn, 1) := by decide +kernel
theorem dX5_lastBefore_23 : decode cX5_lastBefore 23 = .ok (.iinc 2 (-1), 3) := by decide +kernel
theorem dX5_lastBefore_26 : decode cX5_lastBefore 26 = .ok (.goto (-19), 3) := by decide +kernel
theorem dX5_lastBefore_29 : decode cX5_lastBefore 29 = .ok (.iconst (-1), 1) := by decide +kernel
theorem dX5_lastBefore_30 : decode cX5_lastBefore 30 = .ok (.ireturn, 1) := by decide +kernel
theorem dX3_goBack_0 : decode cX3_goBack 0 = .ok (.aload_n 2, 1) := by decide +kernel
theorem dX3_goBack_1 : decode cX3_goBack 1 = .ok (.iload_n 3, 1) := by decide +kernel
theorem dX3_goBack_2 : decode cX3_goBack 2 = .ok (.invokevirtual 86, 3) := by decide +kernel
theorem dX3_goBack_5 : decode cX3_goBack 5 = .ok (.istore 5, 2) := by decide +kernel
theorem dX3_goBack_7 : decode cX3_goBack 7 = .ok (.aload_n 2, 1) := by decide +kernel
theorem dX3_goBack_8 : decode cX3_goBack 8 = .ok (.iload 4, 2) := by decide +kernel
theorem dX3_goBack_10 : decode cX3_goBack 10 = .ok (.invokevirtual 90, 3) := by decide +kernel
theorem dX3_goBack_13 : decode cX3_goBack 13 = .ok (.istore 6, 2) := by decide +kernel
theorem dX3_goBack_15 : decode cX3_goBack 15 = .ok (.iload 5, 2) := by decide +kernel
theorem dX3_goBack_17 : decode cX3_goBack 17 = .ok (.iconst (-1), 1) := by decide +kernel
theorem dX3_goBack_18 : decode cX3_goBack 18 = .ok (.if_icmp .eq 10, 3) := by decide +kernel
theorem dX3_goBack_21 : decode cX3_goBack 21 = .ok (.iload 6, 2) := by decide +kernel
theorem dX3_goBack_23 : decode cX3_goBack 23 = .ok (.iload 5, 2) := by decide +kernel
theorem dX3_goBack_25 : decode cX3_goBack 25 = .ok (.if_icmp .ge 4, 3) := by decide +kernel
theorem dX3_goBack_28 : decode cX3_goBack 28 = .ok (.return_, 1) := by decide +kernel
theorem dX3_goBack_29 : decode cX3_goBack 29 = .ok (.aload_n 0, 1) := by decide +kernel
theorem dX3_goBack_30 : decode cX3_goBack 30 = .ok (.getfield 21, 3) := by decide +kernel
theorem dX3_goBack_33 : decode cX3_goBack 33 = .ok (.aload_n 1, 1) := by decide +kernel
theorem dX3_goBack_34 : decode cX3_goBack 34 = .ok (.aload_n 2, 1) := by decide +kernel
theorem dX3_goBack_35 : decode cX3_goBack 35 = .ok (.getfield 69, 3) := by decide +kernel
theorem dX3_goBack_38 : decode cX3_goBack 38 = .ok (.iload 6, 2) := by decide +kernel
theorem dX3_goBack_40 : decode cX3_goBack 40 = .ok (.iaload, 1) := by decide +kernel
theorem dX3_goBack_41 : decode cX3_goBack 41 = .ok (.invokevirtual 72, 3) := by decide +kernel
theorem dX3_goBack_44 : decode cX3_goBack 44 = .ok (.aload_n 0, 1) := by decide +kernel
theorem dX3_goBack_45 : decode cX3_goBack 45 = .ok (.getfield 25, 3) := by decide +kernel
theorem dX3_goBack_48 : decode cX3_goBack 48 = .ok (.aload_n 1, 1) := by decide +kernel
theorem dX3_goBack_49 : decode cX3_goBack 49 = .ok (.aload_n 2, 1) := by decide +kernel
theorem dX3_goBack_50 : decode cX3_goBack 50 = .ok (.getfield 69, 3) := by decide +kernel
theorem dX3_goBack_53 : decode cX3_goBack 53 = .ok (.iload 5, 2) := by decide +kernel
theorem dX3_goBack_55 : decode cX3_goBack 55 = .ok (.iaload, 1) := by decide +kernel
theorem dX3_goBack_56 : decode cX3_goBack 56 = .ok (.invokevirtual 72, 3) := by decide +kernel
theorem dX3_goBack_59 : decode cX3_goBack 59 = .ok (.aload_n 0, 1) := by decide +kernel
theorem dX3_goBack_60 : decode cX3_goBack 60 = .ok (.iload 5, 2) := by decide +kernel
theorem dX3_goBack_62 : decode cX3_goBack 62 = .ok (.putfield 76, 3) := by decide +kernel
theorem dX3_goBack_65 : decode cX3_goBack 65 = .ok (.aload_n 0, 1) := by decide +kernel
theorem dX3_goBack_66 : decode cX3_goBack 66 = .ok (.invokevirtual 83, 3) := by decide +kernel
theorem dX3_goBack_69 : decode cX3_goBack 69 = .ok (.return_, 1) := by decide +kernel
theorem dX2_leaveOut_0 : decode cX2_leaveOut 0 = .ok (.iconst 0, 1) := by decide +kernel
theorem dX2_leaveOut_1 : decode cX2_leaveOut 1 = .ok (.istore_n 3, 1) := by decide +kernel
theorem dX2_leaveOut_2 : decode cX2_leaveOut 2 = .ok (.iload_n 3, 1) := by decide +kernel
theorem dX2_leaveOut_3 : decode cX2_leaveOut 3 = .ok (.aload_n 0, 1) := by decide +kernel
theorem dX2_leaveOut_4 : decode cX2_leaveOut 4 = .ok (.getfield 27, 3) := by decide +kernel
theorem dX2_leaveOut_7 : decode cX2_leaveOut 7 = .ok (.if_icmp .ge 54, 3) := by decide +kernel
theorem dX2_leaveOut_10 : decode cX2_leaveOut 10 = .ok (.aload_n 0, 1) := by decide +kernel
theorem dX2_leaveOut_11 : decode cX2_leaveOut 11 = .ok (.getfield 15, 3) := by decide +kernel
theorem dX2_leaveOut_14 : decode cX2_leaveOut 14 = .ok (.iload_n 3, 1) := by decide +kernel
theorem dX2_leaveOut_15 : decode cX2_leaveOut 15 = .ok (.iaload, 1) := by decide +kernel
theorem dX2_leaveOut_16 : decode cX2_leaveOut 16 = .ok (.iload_n 2, 1) := by decide +kernel
theorem dX2_leaveOut_17 : decode cX2_leaveOut 17 = .ok (.if_icmp .ne 38, 3) := by decide +kernel
theorem dX2_leaveOut_20 : decode cX2_leaveOut 20 = .ok (.iload_n 3, 1) := by decide +kernel
theorem dX2_leaveOut_21 : decode cX2_leaveOut 21 = .ok (.bipush 14, 2) := by decide +kernel
theorem dX2_leaveOut_23 : decode cX2_leaveOut 23 = .ok (.imul, 1) := by decide +kernel
theorem dX2_leaveOut_24 : decode cX2_leaveOut 24 = .ok (.iload_n 1, 1) := by decide +kernel
theorem dX2_leaveOut_25 : decode cX2_leaveOut 25 = .ok (.iadd, 1) := by decide +kernel
theorem dX2_leaveOut_26 : decode cX2_leaveOut 26 = .ok (.istore 4, 2) := by decide +kernel
theorem dX2_leaveOut_28 : decode cX2_leaveOut 28 = .ok (.aload_n 0, 1) := by decide +kernel
theorem dX2_leaveOut_29 : decode cX2_leaveOut 29 = .ok (.dup, 1) := by decide +kernel
theorem dX2_leaveOut_30 : decode cX2_leaveOut 30 = .ok (.getfield 34, 3) := by decide +kernel
theorem dX2_leaveOut_33 : decode cX2_leaveOut 33 = .ok (.aload_n 0, 1) := by decide +kernel
theorem dX2_leaveOut_34 : decode cX2_leaveOut 34 = .ok (.getfield 9, 3) := by decide +kernel
theorem dX2_leaveOut_37 : decode cX2_leaveOut 37 = .ok (.iload 4, 2) := by decide +kernel
theorem dX2_leaveOut_39 : decode cX2_leaveOut 39 = .ok (.iaload, 1) := by decide +kernel
theorem dX2_leaveOut_40 : decode cX2_leaveOut 40 = .ok (.invokestatic 52, 3) := by decide +kernel
theorem dX2_leaveOut_43 : decode cX2_leaveOut 43 = .ok (.iadd, 1) := by decide +kernel
theorem dX2_leaveOut_44 : decode cX2_leaveOut 44 = .ok (.putfield 34, 3) := by decide +kernel
theorem dX2_leaveOut_47 : decode cX2_leaveOut 47 = .ok (.aload_n 0, 1) := by decide +kernel
theorem dX2_leaveOut_48 : decode cX2_leaveOut 48 = .ok (.getfield 9, 3) := by decide +kernel
theorem dX2_leaveOut_51 : decode cX2_leaveOut 51 = .ok (.iload 4, 2) := by decide +kernel
theorem dX2_leaveOut_53 : decode cX2_leaveOut 53 = .ok (.iconst 0, 1) := by decide +kernel
theorem dX2_leaveOut_54 : decode cX2_leaveOut 54 = .ok (.iastore, 1) := by decide +kernel
theorem dX2_leaveOut_55 : decode cX2_leaveOut 55 = .ok (.iinc 3 1, 3) := by decide +kernel
theorem dX2_leaveOut_58 : decode cX2_leaveOut 58 = .ok (.goto (-56), 3) := by decide +kernel
theorem dX2_leaveOut_61 : decode cX2_leaveOut 61 = .ok (.return_, 1) := by decide +kernel
theorem dX2_sum_0 : decode cX2_sum 0 = .ok (.iconst 0, 1) := by decide +kernel
theorem dX2_sum_1 : decode cX2_sum 1 = .ok (.istore_n 1, 1) := by decide +kernel
theorem dX2_sum_2 : decode cX2_sum 2 = .ok (.iload_n 1, 1) := by decide +kernel
theorem dX2_sum_3 : decode cX2_sum 3 = .ok (.aload_n 0, 1) := by decide +kernel
theorem dX2_sum_4 : decode cX2_sum 4 = .ok (.getfield 27, 3) := by decide +kernel
theorem dX2_sum_7 : decode cX2_sum 7 = .ok (.bipush 14, 2) := by decide +kernel
theorem dX2_sum_9 : decode cX2_sum 9 = .ok (.imul, 1) := by decide +kernel
theorem dX2_sum_10 : decode cX2_sum 10 = .ok (.if_icmp .ge 42, 3) := by decide +kernel
theorem dX2_sum_13 : decode cX2_sum 13 = .ok (.aload_n 0, 1) := by decide +kernel
theorem dX2_sum_14 : decode cX2_sum 14 = .ok (.getfield 9, 3) := by decide +kernel
theorem dX2_sum_17 : decode cX2_sum 17 = .ok (.iload_n 1, 1) := by decide +kernel
theorem dX2_sum_18 : decode cX2_sum 18 = .ok (.iaload, 1) := by decide +kernel
theorem dX2_sum_19 : decode cX2_sum 19 = .ok (.invokestatic 52, 3) := by decide +kernel
theorem dX2_sum_22 : decode cX2_sum 22 = .ok (.istore_n 2, 1) := by decide +kernel
theorem dX2_sum_23 : decode cX2_sum 23 = .ok (.aload_n 0, 1) := by decide +kernel
theorem dX2_sum_24 : decode cX2_sum 24 = .ok (.getfield 18, 3) := by decide +kernel
theorem dX2_sum_27 : decode cX2_sum 27 = .ok (.iload_n 1, 1) := by decide +kernel
theorem dX2_sum_28 : decode cX2_sum 28 = .ok (.bipush 14, 2) := by decide +kernel
theorem dX2_sum_30 : decode cX2_sum 30 = .ok (.irem, 1) := by decide +kernel
theorem dX2_sum_31 : decode cX2_sum 31 = .ok (.dup2, 1) := by decide +kernel
theorem dX2_sum_32 : decode cX2_sum 32 = .ok (.iaload, 1) := by decide +kernel
theorem dX2_sum_33 : decode cX2_sum 33 = .ok (.iload_n 2, 1) := by decide +kernel
theorem dX2_sum_34 : decode cX2_sum 34 = .ok (.iadd, 1) := by decide +kernel
theorem dX2_sum_35 : decode cX2_sum 35 = .ok (.iastore, 1) := by decide +kernel
theorem dX2_sum_36 : decode cX2_sum 36 = .ok (.aload_n 0, 1) := by decide +kernel
theorem dX2_sum_37 : decode cX2_sum 37 = .ok (.dup, 1) := by decide +kernel
theorem dX2_sum_38 : decode cX2_sum 38 = .ok (.getfield 31, 3) := by decide +kernel
theorem dX2_sum_41 : decode cX2_sum 41 = .ok (.iload_n 2, 1) := by decide +kernel
theorem dX2_sum_42 : decode cX2_sum 42 = .ok (.iadd, 1) := by decide +kernel
theorem dX2_sum_43 : decode cX2_sum 43 = .ok (.putfield 31, 3) := by decide +kernel
theorem dX2_sum_46 : decode cX2_sum 46 = .ok (.iinc 1 1, 3) := by decide +kernel
theorem dX2_sum_49 : decode cX2_sum 49 = .ok (.goto (-47), 3) := by decide +kernel
theorem dX2_sum_52 : decode cX2_sum 52 = .ok (.aload_n 0, 1) := by decide +kernel
theorem dX2_sum_53 : decode cX2_sum 53 = .ok (.getfield 31, 3) := by decide +kernel
theorem dX2_sum_56 : decode cX2_sum 56 = .ok (.ireturn, 1) := by decide +kernel
theorem dX6_judge_0 : decode cX6_judge 0 = .ok (.aload_n 0, 1) := by decide +kernel
theorem dX6_judge_1 : decode cX6_judge 1 = .ok (.getfield 47, 3) := by decide +kernel
theorem dX6_judge_4 : decode cX6_judge 4 = .ok (.aload_n 0, 1) := by decide +kernel
theorem dX6_judge_5 : decode cX6_judge 5 = .ok (.getfield 62, 3) := by decide +kernel
theorem dX6_judge_8 : decode cX6_judge 8 = .ok (.aload_n 0, 1) := by decide +kernel
theorem dX6_judge_9 : decode cX6_judge 9 = .ok (.getfield 80, 3) := by decide +kernel
theorem dX6_judge_12 : decode cX6_judge 12 = .ok (.invokevirtual 134, 3) := by decide +kernel
theorem dX6_judge_15 : decode cX6_judge 15 = .ok (.aload_n 0, 1) := by decide +kernel
theorem dX6_judge_16 : decode cX6_judge 16 = .ok (.getfield 47, 3) := by decide +kernel
theorem dX6_judge_19 : decode cX6_judge 19 = .ok (.aload_n 0, 1) := by decide +kernel
theorem dX6_judge_20 : decode cX6_judge 20 = .ok (.getfield 20, 3) := by decide +kernel
theorem dX6_judge_23 : decode cX6_judge 23 = .ok (.aload_n 0, 1) := by decide +kernel
theorem dX6_judge_24 : decode cX6_judge 24 = .ok (.getfield 28, 3) := by decide +kernel
theorem dX6_judge_27 : decode cX6_judge 27 = .ok (.invokevirtual 138, 3) := by decide +kernel
theorem dX6_judge_30 : decode cX6_judge 30 = .ok (.iconst 0, 1) := by decide +kernel
theorem dX6_judge_31 : decode cX6_judge 31 = .ok (.istore_n 1, 1) := by decide +kernel
theorem dX6_judge_32 : decode cX6_judge 32 = .ok (.iload_n 1, 1) := by decide +kernel
theorem dX6_judge_33 : decode cX6_judge 33 = .ok (.aload_n 0, 1) := by decide +kernel
theorem dX6_judge_34 : decode cX6_judge 34 = .ok (.getfield 37, 3) := by decide +kernel
theorem dX6_judge_37 : decode cX6_judge 37 = .ok (.getfield 72, 3) := by decide +kernel
theorem dX6_judge_40 : decode cX6_judge 40 = .ok (.if_icmp .ge 42, 3) := by decide +kernel
theorem dX6_judge_43 : decode cX6_judge 43 = .ok (.aload_n 0, 1) := by decide +kernel
theorem dX6_judge_44 : decode cX6_judge 44 = .ok (.getfield 47, 3) := by decide +kernel
theorem dX6_judge_47 : decode cX6_judge 47 = .ok (.aload_n 0, 1) := by decide +kernel
theorem dX6_judge_48 : decode cX6_judge 48 = .ok (.getfield 20, 3) := by decide +kernel
theorem dX6_judge_51 : decode cX6_judge 51 = .ok (.aload_n 0, 1) := by decide +kernel
theorem dX6_judge_52 : decode cX6_judge 52 = .ok (.getfield 28, 3) := by decide +kernel
theorem dX6_judge_55 : decode cX6_judge 55 = .ok (.aload_n 0, 1) := by decide +kernel
theorem dX6_judge_56 : decode cX6_judge 56 = .ok (.getfield 37, 3) := by decide +kernel
theorem dX6_judge_59 : decode cX6_judge 59 = .ok (.getfield 142, 3) := by decide +kernel
theorem dX6_judge_62 : decode cX6_judge 62 = .ok (.iload_n 1, 1) := by decide +kernel
theorem dX6_judge_63 : decode cX6_judge 63 = .ok (.iaload, 1) := by decide +kernel
theorem dX6_judge_64 : decode cX6_judge 64 = .ok (.aload_n 0, 1) := by decide +kernel
theorem dX6_judge_65 : decode cX6_judge 65 = .ok (.getfield 37, 3) := by decide +kernel
theorem dX6_judge_68 : decode cX6_judge 68 = .ok (.getfield 145, 3) := by decide +kernel
theorem dX6_judge_71 : decode cX6_judge 71 = .ok (.iload_n 1, 1) := by decide +kernel
theorem dX6_judge_72 : decode cX6_judge 72 = .ok (.iaload, 1) := by decide +kernel
theorem dX6_judge_73 : decode cX6_judge 73 = .ok (.invokevirtual 148, 3) := by decide +kernel
theorem dX6_judge_76 : decode cX6_judge 76 = .ok (.iinc 1 1, 3) := by decide +kernel
theorem dX6_judge_79 : decode cX6_judge 79 = .ok (.goto (-47), 3) := by decide +kernel
theorem dX6_judge_82 : decode cX6_judge 82 = .ok (.aload_n 0, 1) := by decide +kernel
theorem dX6_judge_83 : decode cX6_judge 83 = .ok (.getfield 47, 3) := by decide +kernel
theorem dX6_judge_86 : decode cX6_judge 86 = .ok (.getfield 73, 3) := by decide +kernel
theorem dX6_judge_89 : decode cX6_judge 89 = .ok (.astore_n 1, 1) := by decide +kernel
theorem dX6_judge_90 : decode cX6_judge 90 = .ok (.iconst 0, 1) := by decide +kernel
theorem dX6_judge_91 : decode cX6_judge 91 = .ok (.istore_n 2, 1) := by decide +kernel
theorem dX6_judge_92 : decode cX6_judge 92 = .ok (.iload_n 2, 1) := by decide +kernel
theorem dX6_judge_93 : decode cX6_judge 93 = .ok (.aload_n 0, 1) := by decide +kernel
theorem dX6_judge_94 : decode cX6_judge 94 = .ok (.getfield 41, 3) := by decide +kernel
theorem dX6_judge_97 : decode cX6_judge 97 = .ok (.getfield 72, 3) := by decide +kernel
theorem dX6_judge_100 : decode cX6_judge 100 = .ok (.if_icmp .ge 31, 3) := by decide +kernel
theorem dX6_judge_103 : decode cX6_judge 103 = .ok (.aload_n 1, 1) := by decide +kernel
theorem dX6_judge_104 : decode cX6_judge 104 = .ok (.aload_n 0, 1) := by decide +kernel
theorem dX6_judge_105 : decode cX6_judge 105 = .ok (.getfield 41, 3) := by decide +kernel
theorem dX6_judge_108 : decode cX6_judge 108 = .ok (.getfield 142, 3) := by decide +kernel
theorem dX6_judge_111 : decode cX6_judge 111 = .ok (.iload_n 2, 1) := by decide +kernel
theorem dX6_judge_112 : decode cX6_judge 112 = .ok (.iaload, 1) := by decide +kernel
theorem dX6_judge_113 : decode cX6_judge 113 = .ok (.aload_n 0, 1) := by decide +kernel
theorem dX6_judge_114 : decode cX6_judge 114 = .ok (.getfield 41, 3) := by decide +kernel
theorem dX6_judge_117 : decode cX6_judge 117 = .ok (.getfield 145, 3) := by decide +kernel
theorem dX6_judge_120 : decode cX6_judge 120 = .ok (.iload_n 2, 1) := by decide +kernel
theorem dX6_judge_121 : decode cX6_judge 121 = .ok (.iaload, 1) := by decide +kernel
theorem dX6_judge_122 : decode cX6_judge 122 = .ok (.invokevirtual 152, 3) := by decide +kernel
theorem dX6_judge_125 : decode cX6_judge 125 = .ok (.iinc 2 1, 3) := by decide +kernel
theorem dX6_judge_128 : decode cX6_judge 128 = .ok (.goto (-36), 3) := by decide +kernel
theorem dX6_judge_131 : decode cX6_judge 131 = .ok (.aload_n 1, 1) := by decide +kernel
theorem dX6_judge_132 : decode cX6_judge 132 = .ok (.invokevirtual 155, 3) := by decide +kernel
theorem dX6_judge_135 : decode cX6_judge 135 = .ok (.ireturn, 1) := by decide +kernel
