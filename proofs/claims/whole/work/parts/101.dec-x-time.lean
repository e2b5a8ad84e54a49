theorem dX4_reset_0 : decode cX4_reset 0 = .ok (.aload_n 0, 1) := by decide +kernel
theorem dX4_reset_1 : decode cX4_reset 1 = .ok (.iconst 0, 1) := by decide +kernel
theorem dX4_reset_2 : decode cX4_reset 2 = .ok (.putfield 28, 3) := by decide +kernel
theorem dX4_reset_5 : decode cX4_reset 5 = .ok (.aload_n 0, 1) := by decide +kernel
theorem dX4_reset_6 : decode cX4_reset 6 = .ok (.iconst 0, 1) := by decide +kernel
theorem dX4_reset_7 : decode cX4_reset 7 = .ok (.putfield 21, 3) := by decide +kernel
theorem dX4_reset_10 : decode cX4_reset 10 = .ok (.aload_n 0, 1) := by decide +kernel
theorem dX4_reset_11 : decode cX4_reset 11 = .ok (.bipush 96, 2) := by decide +kernel
theorem dX4_reset_13 : decode cX4_reset 13 = .ok (.putfield 25, 3) := by decide +kernel
theorem dX4_reset_16 : decode cX4_reset 16 = .ok (.return_, 1) := by decide +kernel
theorem dJ7_fill_0 : decode cJ7_fill 0 = .ok (.iconst 0, 1) := by decide +kernel
theorem dJ7_fill_1 : decode cJ7_fill 1 = .ok (.istore_n 2, 1) := by decide +kernel
theorem dJ7_fill_2 : decode cJ7_fill 2 = .ok (.aload_n 0, 1) := by decide +kernel
theorem dJ7_fill_3 : decode cJ7_fill 3 = .ok (.arraylength, 1) := by decide +kernel
theorem dJ7_fill_4 : decode cJ7_fill 4 = .ok (.istore_n 3, 1) := by decide +kernel
theorem dJ7_fill_5 : decode cJ7_fill 5 = .ok (.iload_n 2, 1) := by decide +kernel
theorem dJ7_fill_6 : decode cJ7_fill 6 = .ok (.iload_n 3, 1) := by decide +kernel
theorem dJ7_fill_7 : decode cJ7_fill 7 = .ok (.if_icmp .ge 13, 3) := by decide +kernel
theorem dJ7_fill_10 : decode cJ7_fill 10 = .ok (.aload_n 0, 1) := by decide +kernel
theorem dJ7_fill_11 : decode cJ7_fill 11 = .ok (.iload_n 2, 1) := by decide +kernel
theorem dJ7_fill_12 : decode cJ7_fill 12 = .ok (.iload_n 1, 1) := by decide +kernel
theorem dJ7_fill_13 : decode cJ7_fill 13 = .ok (.iastore, 1) := by decide +kernel
theorem dJ7_fill_14 : decode cJ7_fill 14 = .ok (.iinc 2 1, 3) := by decide +kernel
theorem dJ7_fill_17 : decode cJ7_fill 17 = .ok (.goto (-12), 3) := by decide +kernel
theorem dJ7_fill_20 : decode cJ7_fill 20 = .ok (.return_, 1) := by decide +kernel
theorem dX2_reset_0 : decode cX2_reset 0 = .ok (.aload_n 0, 1) := by decide +kernel
theorem dX2_reset_1 : decode cX2_reset 1 = .ok (.getfield 9, 3) := by decide +kernel
theorem dX2_reset_4 : decode cX2_reset 4 = .ok (.iconst 0, 1) := by decide +kernel
theorem dX2_reset_5 : decode cX2_reset 5 = .ok (.invokestatic 21, 3) := by decide +kernel
theorem dX2_reset_8 : decode cX2_reset 8 = .ok (.aload_n 0, 1) := by decide +kernel
theorem dX2_reset_9 : decode cX2_reset 9 = .ok (.getfield 18, 3) := by decide +kernel
theorem dX2_reset_12 : decode cX2_reset 12 = .ok (.iconst 0, 1) := by decide +kernel
theorem dX2_reset_13 : decode cX2_reset 13 = .ok (.invokestatic 21, 3) := by decide +kernel
theorem dX2_reset_16 : decode cX2_reset 16 = .ok (.aload_n 0, 1) := by decide +kernel
theorem dX2_reset_17 : decode cX2_reset 17 = .ok (.iconst 0, 1) := by decide +kernel
theorem dX2_reset_18 : decode cX2_reset 18 = .ok (.putfield 27, 3) := by decide +kernel
theorem dX2_reset_21 : decode cX2_reset 21 = .ok (.aload_n 0, 1) := by decide +kernel
theorem dX2_reset_22 : decode cX2_reset 22 = .ok (.iconst 0, 1) := by decide +kernel
theorem dX2_reset_23 : decode cX2_reset 23 = .ok (.putfield 31, 3) := by decide +kernel
theorem dX2_reset_26 : decode cX2_reset 26 = .ok (.aload_n 0, 1) := by decide +kernel
theorem dX2_reset_27 : decode cX2_reset 27 = .ok (.iconst 0, 1) := by decide +kernel
theorem dX2_reset_28 : decode cX2_reset 28 = .ok (.putfield 34, 3) := by decide +kernel
theorem dX2_reset_31 : decode cX2_reset 31 = .ok (.return_, 1) := by decide +kernel
theorem dX4_lastTime_0 : decode cX4_lastTime 0 = .ok (.aload_n 0, 1) := by decide +kernel
theorem dX4_lastTime_1 : decode cX4_lastTime 1 = .ok (.getfield 28, 3) := by decide +kernel
theorem dX4_lastTime_4 : decode cX4_lastTime 4 = .ok (.ifCond .le 17, 3) := by decide +kernel
theorem dX4_lastTime_7 : decode cX4_lastTime 7 = .ok (.aload_n 0, 1) := by decide +kernel
theorem dX4_lastTime_8 : decode cX4_lastTime 8 = .ok (.getfield 9, 3) := by decide +kernel
theorem dX4_lastTime_11 : decode cX4_lastTime 11 = .ok (.aload_n 0, 1) := by decide +kernel
theorem dX4_lastTime_12 : decode cX4_lastTime 12 = .ok (.getfield 28, 3) := by decide +kernel
theorem dX4_lastTime_15 : decode cX4_lastTime 15 = .ok (.iconst 1, 1) := by decide +kernel
theorem dX4_lastTime_16 : decode cX4_lastTime 16 = .ok (.isub, 1) := by decide +kernel
theorem dX4_lastTime_17 : decode cX4_lastTime 17 = .ok (.iaload, 1) := by decide +kernel
theorem dX4_lastTime_18 : decode cX4_lastTime 18 = .ok (.goto 4, 3) := by decide +kernel
theorem dX4_lastTime_21 : decode cX4_lastTime 21 = .ok (.iconst (-1), 1) := by decide +kernel
theorem dX4_lastTime_22 : decode cX4_lastTime 22 = .ok (.ireturn, 1) := by decide +kernel
theorem dX5_gatherGrid_0 : decode cX5_gatherGrid 0 = .ok (.iconst (-1), 1) := by decide +kernel
theorem dX5_gatherGrid_1 : decode cX5_gatherGrid 1 = .ok (.istore_n 3, 1) := by decide +kernel
theorem dX5_gatherGrid_2 : decode cX5_gatherGrid 2 = .ok (.iconst 0, 1) := by decide +kernel
theorem dX5_gatherGrid_3 : decode cX5_gatherGrid 3 = .ok (.istore 4, 2) := by decide +kernel
theorem dX5_gatherGrid_5 : decode cX5_gatherGrid 5 = .ok (.iload 4, 2) := by decide +kernel
theorem dX5_gatherGrid_7 : decode cX5_gatherGrid 7 = .ok (.aload_n 1, 1) := by decide +kernel
theorem dX5_gatherGrid_8 : decode cX5_gatherGrid 8 = .ok (.arraylength, 1) := by decide +kernel
theorem dX5_gatherGrid_9 : decode cX5_gatherGrid 9 = .ok (.if_icmp .ge 21, 3) := by decide +kernel
theorem dX5_gatherGrid_12 : decode cX5_gatherGrid 12 = .ok (.iload_n 3, 1) := by decide +kernel
theorem dX5_gatherGrid_13 : decode cX5_gatherGrid 13 = .ok (.aload_n 1, 1) := by decide +kernel
theorem dX5_gatherGrid_14 : decode cX5_gatherGrid 14 = .ok (.iload 4, 2) := by decide +kernel
theorem dX5_gatherGrid_16 : decode cX5_gatherGrid 16 = .ok (.aaload, 1) := by decide +kernel
theorem dX5_gatherGrid_17 : decode cX5_gatherGrid 17 = .ok (.invokevirtual 30, 3) := by decide +kernel
theorem dX5_gatherGrid_20 : decode cX5_gatherGrid 20 = .ok (.invokestatic 36, 3) := by decide +kernel
theorem dX5_gatherGrid_23 : decode cX5_gatherGrid 23 = .ok (.istore_n 3, 1) := by decide +kernel
theorem dX5_gatherGrid_24 : decode cX5_gatherGrid 24 = .ok (.iinc 4 1, 3) := by decide +kernel
theorem dX5_gatherGrid_27 : decode cX5_gatherGrid 27 = .ok (.goto (-22), 3) := by decide +kernel
theorem dX5_gatherGrid_30 : decode cX5_gatherGrid 30 = .ok (.iconst 0, 1) := by decide +kernel
theorem dX5_gatherGrid_31 : decode cX5_gatherGrid 31 = .ok (.istore 4, 2) := by decide +kernel
theorem dX5_gatherGrid_33 : decode cX5_gatherGrid 33 = .ok (.iload 4, 2) := by decide +kernel
theorem dX5_gatherGrid_35 : decode cX5_gatherGrid 35 = .ok (.iload_n 3, 1) := by decide +kernel
theorem dX5_gatherGrid_36 : decode cX5_gatherGrid 36 = .ok (.if_icmp .gt 45, 3) := by decide +kernel
theorem dX5_gatherGrid_39 : decode cX5_gatherGrid 39 = .ok (.aload_n 0, 1) := by decide +kernel
theorem dX5_gatherGrid_40 : decode cX5_gatherGrid 40 = .ok (.getfield 18, 3) := by decide +kernel
theorem dX5_gatherGrid_43 : decode cX5_gatherGrid 43 = .ok (.aload_n 0, 1) := by decide +kernel
theorem dX5_gatherGrid_44 : decode cX5_gatherGrid 44 = .ok (.getfield 9, 3) := by decide +kernel
theorem dX5_gatherGrid_47 : decode cX5_gatherGrid 47 = .ok (.arraylength, 1) := by decide +kernel
theorem dX5_gatherGrid_48 : decode cX5_gatherGrid 48 = .ok (.if_icmp .ge 33, 3) := by decide +kernel
theorem dX5_gatherGrid_51 : decode cX5_gatherGrid 51 = .ok (.aload_n 0, 1) := by decide +kernel
theorem dX5_gatherGrid_52 : decode cX5_gatherGrid 52 = .ok (.getfield 9, 3) := by decide +kernel
theorem dX5_gatherGrid_55 : decode cX5_gatherGrid 55 = .ok (.aload_n 0, 1) := by decide +kernel
theorem dX5_gatherGrid_56 : decode cX5_gatherGrid 56 = .ok (.getfield 18, 3) := by decide +kernel
theorem dX5_gatherGrid_59 : decode cX5_gatherGrid 59 = .ok (.iload 4, 2) := by decide +kernel
theorem dX5_gatherGrid_61 : decode cX5_gatherGrid 61 = .ok (.iastore, 1) := by decide +kernel
theorem dX5_gatherGrid_62 : decode cX5_gatherGrid 62 = .ok (.aload_n 0, 1) := by decide +kernel
theorem dX5_gatherGrid_63 : decode cX5_gatherGrid 63 = .ok (.dup, 1) := by decide +kernel
theorem dX5_gatherGrid_64 : decode cX5_gatherGrid 64 = .ok (.getfield 18, 3) := by decide +kernel
theorem dX5_gatherGrid_67 : decode cX5_gatherGrid 67 = .ok (.iconst 1, 1) := by decide +kernel
theorem dX5_gatherGrid_68 : decode cX5_gatherGrid 68 = .ok (.iadd, 1) := by decide +kernel
theorem dX5_gatherGrid_69 : decode cX5_gatherGrid 69 = .ok (.putfield 18, 3) := by decide +kernel
theorem dX5_gatherGrid_72 : decode cX5_gatherGrid 72 = .ok (.iload 4, 2) := by decide +kernel
theorem dX5_gatherGrid_74 : decode cX5_gatherGrid 74 = .ok (.iload_n 2, 1) := by decide +kernel
theorem dX5_gatherGrid_75 : decode cX5_gatherGrid 75 = .ok (.iadd, 1) := by decide +kernel
theorem dX5_gatherGrid_76 : decode cX5_gatherGrid 76 = .ok (.istore 4, 2) := by decide +kernel
theorem dX5_gatherGrid_78 : decode cX5_gatherGrid 78 = .ok (.goto (-45), 3) := by decide +kernel
theorem dX5_gatherGrid_81 : decode cX5_gatherGrid 81 = .ok (.return_, 1) := by decide +kernel
theorem dX5_earliestHead_0 : decode cX5_earliestHead 0 = .ok (.sipush 1000, 3) := by decide +kernel
theorem dX5_earliestHead_3 : decode cX5_earliestHead 3 = .ok (.istore_n 2, 1) := by decide +kernel
theorem dX5_earliestHead_4 : decode cX5_earliestHead 4 = .ok (.iconst 0, 1) := by decide +kernel
theorem dX5_earliestHead_5 : decode cX5_earliestHead 5 = .ok (.istore_n 3, 1) := by decide +kernel
theorem dX5_earliestHead_6 : decode cX5_earliestHead 6 = .ok (.iload_n 3, 1) := by decide +kernel
theorem dX5_earliestHead_7 : decode cX5_earliestHead 7 = .ok (.aload_n 1, 1) := by decide +kernel
theorem dX5_earliestHead_8 : decode cX5_earliestHead 8 = .ok (.arraylength, 1) := by decide +kernel
theorem dX5_earliestHead_9 : decode cX5_earliestHead 9 = .ok (.if_icmp .ge 42, 3) := by decide +kernel
theorem dX5_earliestHead_12 : decode cX5_earliestHead 12 = .ok (.aload_n 0, 1) := by decide +kernel
theorem dX5_earliestHead_13 : decode cX5_earliestHead 13 = .ok (.getfield 15, 3) := by decide +kernel
theorem dX5_earliestHead_16 : decode cX5_earliestHead 16 = .ok (.iload_n 3, 1) := by decide +kernel
theorem dX5_earliestHead_17 : decode cX5_earliestHead 17 = .ok (.iaload, 1) := by decide +kernel
theorem dX5_earliestHead_18 : decode cX5_earliestHead 18 = .ok (.aload_n 1, 1) := by decide +kernel
theorem dX5_earliestHead_19 : decode cX5_earliestHead 19 = .ok (.iload_n 3, 1) := by decide +kernel
theorem dX5_earliestHead_20 : decode cX5_earliestHead 20 = .ok (.aaload, 1) := by decide +kernel
theorem dX5_earliestHead_21 : decode cX5_earliestHead 21 = .ok (.getfield 55, 3) := by decide +kernel
theorem dX5_earliestHead_24 : decode cX5_earliestHead 24 = .ok (.if_icmp .ge 21, 3) := by decide +kernel
theorem dX5_earliestHead_27 : decode cX5_earliestHead 27 = .ok (.iload_n 2, 1) := by decide +kernel
theorem dX5_earliestHead_28 : decode cX5_earliestHead 28 = .ok (.aload_n 1, 1) := by decide +kernel
theorem dX5_earliestHead_29 : decode cX5_earliestHead 29 = .ok (.iload_n 3, 1) := by decide +kernel
theorem dX5_earliestHead_30 : decode cX5_earliestHead 30 = .ok (.aaload, 1) := by decide +kernel
theorem dX5_earliestHead_31 : decode cX5_earliestHead 31 = .ok (.getfield 56, 3) := by decide +kernel
theorem dX5_earliestHead_34 : decode cX5_earliestHead 34 = .ok (.aload_n 0, 1) := by decide +kernel
theorem dX5_earliestHead_35 : decode cX5_earliestHead 35 = .ok (.getfield 15, 3) := by decide +kernel
theorem dX5_earliestHead_38 : decode cX5_earliestHead 38 = .ok (.iload_n 3, 1) := by decide +kernel
theorem dX5_earliestHead_39 : decode cX5_earliestHead 39 = .ok (.iaload, 1) := by decide +kernel
theorem dX5_earliestHead_40 : decode cX5_earliestHead 40 = .ok (.iaload, 1) := by decide +kernel
theorem dX5_earliestHead_41 : decode cX5_earliestHead 41 = .ok (.invokestatic 57, 3) := by decide +kernel
theorem dX5_earliestHead_44 : decode cX5_earliestHead 44 = .ok (.istore_n 2, 1) := by decide +kernel
theorem dX5_earliestHead_45 : decode cX5_earliestHead 45 = .ok (.iinc 3 1, 3) := by decide +kernel
theorem dX5_earliestHead_48 : decode cX5_earliestHead 48 = .ok (.goto (-42), 3) := by decide +kernel
theorem dX5_earliestHead_51 : decode cX5_earliestHead 51 = .ok (.iload_n 2, 1) := by decide +kernel
theorem dX5_earliestHead_52 : decode cX5_earliestHead 52 = .ok (.ireturn, 1) := by decide +kernel
theorem dX5_passHeads_0 : decode cX5_passHeads 0 = .ok (.iconst 0, 1) := by decide +kernel
theorem dX5_passHeads_1 : decode cX5_passHeads 1 = .ok (.istore_n 3, 1) := by decide +kernel
theorem dX5_passHeads_2 : decode cX5_passHeads 2 = .ok (.iload_n 3, 1) := by decide +kernel
theorem dX5_passHeads_3 : decode cX5_passHeads 3 = .ok (.aload_n 1, 1) := by decide +kernel
theorem dX5_passHeads_4 : decode cX5_passHeads 4 = .ok (.arraylength, 1) := by decide +kernel
theorem dX5_passHeads_5 : decode cX5_passHeads 5 = .ok (.if_icmp .ge 51, 3) := by decide +kernel
theorem dX5_passHeads_8 : decode cX5_passHeads 8 = .ok (.aload_n 0, 1) := by decide +kernel
theorem dX5_passHeads_9 : decode cX5_passHeads 9 = .ok (.getfield 15, 3) := by decide +kernel
theorem dX5_passHeads_12 : decode cX5_passHeads 12 = .ok (.iload_n 3, 1) := by decide +kernel
theorem dX5_passHeads_13 : decode cX5_passHeads 13 = .ok (.iaload, 1) := by decide +kernel
theorem dX5_passHeads_14 : decode cX5_passHeads 14 = .ok (.istore 4, 2) := by decide +kernel
theorem dX5_passHeads_16 : decode cX5_passHeads 16 = .ok (.iload 4, 2) := by decide +kernel
theorem dX5_passHeads_18 : decode cX5_passHeads 18 = .ok (.aload_n 1, 1) := by decide +kernel
theorem dX5_passHeads_19 : decode cX5_passHeads 19 = .ok (.iload_n 3, 1) := by decide +kernel
theorem dX5_passHeads_20 : decode cX5_passHeads 20 = .ok (.aaload, 1) := by decide +kernel
theorem dX5_passHeads_21 : decode cX5_passHeads 21 = .ok (.getfield 55, 3) := by decide +kernel
theorem dX5_passHeads_24 : decode cX5_passHeads 24 = .ok (.if_icmp .ge 26, 3) := by decide +kernel
theorem dX5_passHeads_27 : decode cX5_passHeads 27 = .ok (.aload_n 1, 1) := by decide +kernel
theorem dX5_passHeads_28 : decode cX5_passHeads 28 = .ok (.iload_n 3, 1) := by decide +kernel
theorem dX5_passHeads_29 : decode cX5_passHeads 29 = .ok (.aaload, 1) := by decide +kernel
theorem dX5_passHeads_30 : decode cX5_passHeads 30 = .ok (.getfield 56, 3) := by decide +kernel
theorem dX5_passHeads_33 : decode cX5_passHeads 33 = .ok (.iload 4, 2) := by decide +kernel
theorem dX5_passHeads_35 : decode cX5_passHeads 35 = .ok (.iaload, 1) := by decide +kernel
theorem dX5_passHeads_36 : decode cX5_passHeads 36 = .ok (.iload_n 2, 1) := by decide +kernel
theorem dX5_passHeads_37 : decode cX5_passHeads 37 = .ok (.if_icmp .ne 13, 3) := by decide +kernel
theorem dX5_passHeads_40 : decode cX5_passHeads 40 = .ok (.aload_n 0, 1) := by decide +kernel
theorem dX5_passHeads_41 : decode cX5_passHeads 41 = .ok (.getfield 15, 3) := by decide +kernel
theorem dX5_passHeads_44 : decode cX5_passHeads 44 = .ok (.iload_n 3, 1) := by decide +kernel
theorem dX5_passHeads_45 : decode cX5_passHeads 45 = .ok (.dup2, 1) := by decide +kernel
theorem dX5_passHeads_46 : decode cX5_passHeads 46 = .ok (.iaload, 1) := by decide +kernel
theorem dX5_passHeads_47 : decode cX5_passHeads 47 = .ok (.iconst 1, 1) := by decide +kernel
theorem dX5_passHeads_48 : decode cX5_passHeads 48 = .ok (.iadd, 1) := by decide +kernel
theorem dX5_passHeads_49 : decode cX5_passHeads 49 = .ok (.iastore, 1) := by decide +kernel
theorem dX5_passHeads_50 : decode cX5_passHeads 50 = .ok (.iinc 3 1, 3) := by decide +kernel
theorem dX5_passHeads_53 : decode cX5_passHeads 53 = .ok (.goto (-51), 3) := by decide +kernel
theorem dX5_passHeads_56 : decode cX5_passHeads 56 = .ok (.return_, 1) := by decide +kernel
theorem dX5_gatherEvents_0 : decode cX5_gatherEvents 0 = .ok (.aload_n 0, 1) := by decide +kernel
theorem dX5_gatherEvents_1 : decode cX5_gatherEvents 1 = .ok (.getfield 15, 3) := by decide +kernel
theorem dX5_gatherEvents_4 : decode cX5_gatherEvents 4 = .ok (.iconst 0, 1) := by decide +kernel
theorem dX5_gatherEvents_5 : decode cX5_gatherEvents 5 = .ok (.invokestatic 42, 3) := by decide +kernel
theorem dX5_gatherEvents_8 : decode cX5_gatherEvents 8 = .ok (.aload_n 0, 1) := by decide +kernel
theorem dX5_gatherEvents_9 : decode cX5_gatherEvents 9 = .ok (.aload_n 1, 1) := by decide +kernel
theorem dX5_gatherEvents_10 : decode cX5_gatherEvents 10 = .ok (.invokevirtual 48, 3) := by decide +kernel
theorem dX5_gatherEvents_13 : decode cX5_gatherEvents 13 = .ok (.istore_n 2, 1) := by decide +kernel
theorem dX5_gatherEvents_14 : decode cX5_gatherEvents 14 = .ok (.iload_n 2, 1) := by decide +kernel
theorem dX5_gatherEvents_15 : decode cX5_gatherEvents 15 = .ok (.sipush 999, 3) := by decide +kernel
theorem dX5_gatherEvents_18 : decode cX5_gatherEvents 18 = .ok (.if_icmp .gt 50, 3) := by decide +kernel
theorem dX5_gatherEvents_21 : decode cX5_gatherEvents 21 = .ok (.aload_n 0, 1) := by decide +kernel
theorem dX5_gatherEvents_22 : decode cX5_gatherEvents 22 = .ok (.getfield 18, 3) := by decide +kernel
theorem dX5_gatherEvents_25 : decode cX5_gatherEvents 25 = .ok (.aload_n 0, 1) := by decide +kernel
theorem dX5_gatherEvents_26 : decode cX5_gatherEvents 26 = .ok (.getfield 9, 3) := by decide +kernel
theorem dX5_gatherEvents_29 : decode cX5_gatherEvents 29 = .ok (.arraylength, 1) := by decide +kernel
theorem dX5_gatherEvents_30 : decode cX5_gatherEvents 30 = .ok (.if_icmp .ge 38, 3) := by decide +kernel
theorem dX5_gatherEvents_33 : decode cX5_gatherEvents 33 = .ok (.aload_n 0, 1) := by decide +kernel
theorem dX5_gatherEvents_34 : decode cX5_gatherEvents 34 = .ok (.getfield 9, 3) := by decide +kernel
theorem dX5_gatherEvents_37 : decode cX5_gatherEvents 37 = .ok (.aload_n 0, 1) := by decide +kernel
theorem dX5_gatherEvents_38 : decode cX5_gatherEvents 38 = .ok (.getfield 18, 3) := by decide +kernel
theorem dX5_gatherEvents_41 : decode cX5_gatherEvents 41 = .ok (.iload_n 2, 1) := by decide +kernel
theorem dX5_gatherEvents_42 : decode cX5_gatherEvents 42 = .ok (.iastore, 1) := by decide +kernel
theorem dX5_gatherEvents_43 : decode cX5_gatherEvents 43 = .ok (.aload_n 0, 1) := by decide +kernel
theorem dX5_gatherEvents_44 : decode cX5_gatherEvents 44 = .ok (.dup, 1) := by decide +kernel
theorem dX5_gatherEvents_45 : decode cX5_gatherEvents 45 = .ok (.getfield 18, 3) := by decide +kernel
theorem dX5_gatherEvents_48 : decode cX5_gatherEvents 48 = .ok (.iconst 1, 1) := by decide +kernel
theorem dX5_gatherEvents_49 : decode cX5_gatherEvents 49 = .ok (.iadd, 1) := by decide +kernel
theorem dX5_gatherEvents_50 : decode cX5_gatherEvents 50 = .ok (.putfield 18, 3) := by decide +kernel
theorem dX5_gatherEvents_53 : decode cX5_gatherEvents 53 = .ok (.aload_n 0, 1) := by decide +kernel
theorem dX5_gatherEvents_54 : decode cX5_gatherEvents 54 = .ok (.aload_n 1, 1) := by decide +kernel
theorem dX5_gatherEvents_55 : decode cX5_gatherEvents 55 = .ok (.iload_n 2, 1) := by decide +kernel
theorem dX5_gatherEvents_56 : decode cX5_gatherEvents 56 = .ok (.invokevirtual 52, 3) := by decide +kernel
theorem dX5_gatherEvents_59 : decode cX5_gatherEvents 59 = .ok (.aload_n 0, 1) := by decide +kernel
theorem dX5_gatherEvents_60 : decode cX5_gatherEvents 60 = .ok (.aload_n 1, 1) := by decide +kernel
theorem dX5_gatherEvents_61 : decode cX5_gatherEvents 61 = .ok (.invokevirtual 48, 3) := by decide +kernel
theorem dX5_gatherEvents_64 : decode cX5_gatherEvents 64 = .ok (.istore_n 2, 1) := by decide +kernel
theorem dX5_gatherEvents_65 : decode cX5_gatherEvents 65 = .ok (.goto (-51), 3) := by decide +kernel
theorem dX5_gatherEvents_68 : decode cX5_gatherEvents 68 = .ok (.return_, 1) := by decide +kernel
theorem dX5_gather_0 : decode cX5_gather 0 = .ok (.aload_n 0, 1) := by decide +kernel
theorem dX5_gather_1 : decode cX5_gather 1 = .ok (.iconst 0, 1) := by decide +kernel
theorem dX5_gather_2 : decode cX5_gather 2 = .ok (.putfield 18, 3) := by decide +kernel
theorem dX5_gather_5 : decode cX5_gather 5 = .ok (.iload_n 2, 1) := by decide +kernel
theorem dX5_gather_6 : decode cX5_gather 6 = .ok (.ifCond .le 12, 3) := by decide +kernel
theorem dX5_gather_9 : decode cX5_gather 9 = .ok (.aload_n 0, 1) := by decide +kernel
theorem dX5_gather_10 : decode cX5_gather 10 = .ok (.aload_n 1, 1) := by decide +kernel
theorem dX5_gather_11 : decode cX5_gather 11 = .ok (.iload_n 2, 1) := by decide +kernel
theorem dX5_gather_12 : decode cX5_gather 12 = .ok (.invokevirtual 22, 3) := by decide +kernel
theorem dX5_gather_15 : decode cX5_gather 15 = .ok (.goto 8, 3) := by decide +kernel
theorem dX5_gather_18 : decode cX5_gather 18 = .ok (.aload_n 0, 1) := by decide +kernel
theorem dX5_gather_19 : decode cX5_gather 19 = .ok (.aload_n 1, 1) := by decide +kernel
theorem dX5_gather_20 : decode cX5_gather 20 = .ok (.invokevirtual 26, 3) := by decide +kernel
theorem dX5_gather_23 : decode cX5_gather 23 = .ok (.return_, 1) := by decide +kernel
theorem dX6_clear_0 : decode cX6_clear 0 = .ok (.iconst 0, 1) := by decide +kernel
theorem dX6_clear_1 : decode cX6_clear 1 = .ok (.istore_n 1, 1) := by decide +kernel
theorem dX6_clear_2 : decode cX6_clear 2 = .ok (.iconst 0, 1) := by decide +kernel
theorem dX6_clear_3 : decode cX6_clear 3 = .ok (.istore_n 2, 1) := by decide +kernel
theorem dX6_clear_4 : decode cX6_clear 4 = .ok (.iload_n 2, 1) := by decide +kernel
theorem dX6_clear_5 : decode cX6_clear 5 = .ok (.aload_n 0, 1) := by decide +kernel
theorem dX6_clear_6 : decode cX6_clear 6 = .ok (.getfield 20, 3) := by decide +kernel
theorem dX6_clear_9 : decode cX6_clear 9 = .ok (.arraylength, 1) := by decide +kernel
theorem dX6_clear_10 : decode cX6_clear 10 = .ok (.if_icmp .ge 30, 3) := by decide +kernel
theorem dX6_clear_13 : decode cX6_clear 13 = .ok (.iload_n 1, 1) := by decide +kernel
theorem dX6_clear_14 : decode cX6_clear 14 = .ok (.aload_n 0, 1) := by decide +kernel
theorem dX6_clear_15 : decode cX6_clear 15 = .ok (.getfield 20, 3) := by decide +kernel
theorem dX6_clear_18 : decode cX6_clear 18 = .ok (.iload_n 2, 1) := by decide +kernel
theorem dX6_clear_19 : decode cX6_clear 19 = .ok (.aaload, 1) := by decide +kernel
theorem dX6_clear_20 : decode cX6_clear 20 = .ok (.getfield 66, 3) := by decide +kernel
theorem dX6_clear_23 : decode cX6_clear 23 = .ok (.iadd, 1) := by decide +kernel
theorem dX6_clear_24 : decode cX6_clear 24 = .ok (.istore_n 1, 1) := by decide +kernel
theorem dX6_clear_25 : decode cX6_clear 25 = .ok (.aload_n 0, 1) := by decide +kernel
theorem dX6_clear_26 : decode cX6_clear 26 = .ok (.getfield 20, 3) := by decide +kernel
theorem dX6_clear_29 : decode cX6_clear 29 = .ok (.iload_n 2, 1) := by decide +kernel
theorem dX6_clear_30 : decode cX6_clear 30 = .ok (.aaload, 1) := by decide +kernel
theorem dX6_clear_31 : decode cX6_clear 31 = .ok (.invokevirtual 69, 3) := by decide +kernel
theorem dX6_clear_34 : decode cX6_clear 34 = .ok (.iinc 2 1, 3) := by decide +kernel
theorem dX6_clear_37 : decode cX6_clear 37 = .ok (.goto (-33), 3) := by decide +kernel
theorem dX6_clear_40 : decode cX6_clear 40 = .ok (.aload_n 0, 1) := by decide +kernel
theorem dX6_clear_41 : decode cX6_clear 41 = .ok (.getfield 37, 3) := by decide +kernel
theorem dX6_clear_44 : decode cX6_clear 44 = .ok (.iconst 0, 1) := by decide +kernel
theorem dX6_clear_45 : decode cX6_clear 45 = .ok (.putfield 72, 3) := by decide +kernel
theorem dX6_clear_48 : decode cX6_clear 48 = .ok (.aload_n 0, 1) := by decide +kernel
theorem dX6_clear_49 : decode cX6_clear 49 = .ok (.getfield 41, 3) := by decide +kernel
theorem dX6_clear_52 : decode cX6_clear 52 = .ok (.iconst 0, 1) := by decide +kernel
theorem dX6_clear_53 : decode cX6_clear 53 = .ok (.putfield 72, 3) := by decide +kernel
theorem dX6_clear_56 : decode cX6_clear 56 = .ok (.aload_n 0, 1) := by decide +kernel
theorem dX6_clear_57 : decode cX6_clear 57 = .ok (.getfield 47, 3) := by decide +kernel
theorem dX6_clear_60 : decode cX6_clear 60 = .ok (.getfield 73, 3) := by decide +kernel
theorem dX6_clear_63 : decode cX6_clear 63 = .ok (.invokevirtual 77, 3) := by decide +kernel
theorem dX6_clear_66 : decode cX6_clear 66 = .ok (.aload_n 0, 1) := by decide +kernel
theorem dX6_clear_67 : decode cX6_clear 67 = .ok (.getstatic 58, 3) := by decide +kernel
theorem dX6_clear_70 : decode cX6_clear 70 = .ok (.iconst 0, 1) := by decide +kernel
theorem dX6_clear_71 : decode cX6_clear 71 = .ok (.iaload, 1) := by decide +kernel
theorem dX6_clear_72 : decode cX6_clear 72 = .ok (.putfield 62, 3) := by decide +kernel
theorem dX6_clear_75 : decode cX6_clear 75 = .ok (.aload_n 0, 1) := by decide +kernel
theorem dX6_clear_76 : decode cX6_clear 76 = .ok (.iconst 0, 1) := by decide +kernel
theorem dX6_clear_77 : decode cX6_clear 77 = .ok (.putfield 80, 3) := by decide +kernel
theorem dX6_clear_80 : decode cX6_clear 80 = .ok (.aload_n 0, 1) := by decide +kernel
theorem dX6_clear_81 : decode cX6_clear 81 = .ok (.iconst 0, 1) := by decide +kernel
theorem dX6_clear_82 : decode cX6_clear 82 = .ok (.putfield 83, 3) := by decide +kernel
theorem dX6_clear_85 : decode cX6_clear 85 = .ok (.aload_n 0, 1) := by decide +kernel
theorem dX6_clear_86 : decode cX6_clear 86 = .ok (.getfield 28, 3) := by decide +kernel
theorem dX6_clear_89 : decode cX6_clear 89 = .ok (.aload_n 0, 1) := by decide +kernel
theorem dX6_clear_90 : decode cX6_clear 90 = .ok (.getfield 20, 3) := by decide +kernel
theorem dX6_clear_93 : decode cX6_clear 93 = .ok (.aload_n 0, 1) := by decide +kernel
theorem dX6_clear_94 : decode cX6_clear 94 = .ok (.getfield 83, 3) := by decide +kernel
theorem dX6_clear_97 : decode cX6_clear 97 = .ok (.invokevirtual 86, 3) := by decide +kernel
theorem dX6_clear_100 : decode cX6_clear 100 = .ok (.iload_n 1, 1) := by decide +kernel
theorem dX6_clear_101 : decode cX6_clear 101 = .ok (.ireturn, 1) := by decide +kernel
