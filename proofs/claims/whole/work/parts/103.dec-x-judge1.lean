theorem dJ9_floorMod_0 : decode cJ9_floorMod 0 = .ok (.iload_n 0, 1) := by decide +kernel
theorem dJ9_floorMod_1 : decode cJ9_floorMod 1 = .ok (.iload_n 1, 1) := by decide +kernel
theorem dJ9_floorMod_2 : decode cJ9_floorMod 2 = .ok (.irem, 1) := by decide +kernel
theorem dJ9_floorMod_3 : decode cJ9_floorMod 3 = .ok (.istore_n 2, 1) := by decide +kernel
theorem dJ9_floorMod_4 : decode cJ9_floorMod 4 = .ok (.iload_n 0, 1) := by decide +kernel
theorem dJ9_floorMod_5 : decode cJ9_floorMod 5 = .ok (.iload_n 1, 1) := by decide +kernel
theorem dJ9_floorMod_6 : decode cJ9_floorMod 6 = .ok (.ixor, 1) := by decide +kernel
theorem dJ9_floorMod_7 : decode cJ9_floorMod 7 = .ok (.ifCond .ge 11, 3) := by decide +kernel
theorem dJ9_floorMod_10 : decode cJ9_floorMod 10 = .ok (.iload_n 2, 1) := by decide +kernel
theorem dJ9_floorMod_11 : decode cJ9_floorMod 11 = .ok (.ifCond .eq 7, 3) := by decide +kernel
theorem dJ9_floorMod_14 : decode cJ9_floorMod 14 = .ok (.iload_n 2, 1) := by decide +kernel
theorem dJ9_floorMod_15 : decode cJ9_floorMod 15 = .ok (.iload_n 1, 1) := by decide +kernel
theorem dJ9_floorMod_16 : decode cJ9_floorMod 16 = .ok (.iadd, 1) := by decide +kernel
theorem dJ9_floorMod_17 : decode cJ9_floorMod 17 = .ok (.ireturn, 1) := by decide +kernel
theorem dJ9_floorMod_18 : decode cJ9_floorMod 18 = .ok (.iload_n 2, 1) := by decide +kernel
theorem dJ9_floorMod_19 : decode cJ9_floorMod 19 = .ok (.ireturn, 1) := by decide +kernel
theorem dX3_sharpnessInKey_0 : decode cX3_sharpnessInKey 0 = .ok (.iconst 0, 1) := by decide +kernel
theorem dX3_sharpnessInKey_1 : decode cX3_sharpnessInKey 1 = .ok (.istore_n 2, 1) := by decide +kernel
theorem dX3_sharpnessInKey_2 : decode cX3_sharpnessInKey 2 = .ok (.iload_n 2, 1) := by decide +kernel
theorem dX3_sharpnessInKey_3 : decode cX3_sharpnessInKey 3 = .ok (.iload_n 1, 1) := by decide +kernel
theorem dX3_sharpnessInKey_4 : decode cX3_sharpnessInKey 4 = .ok (.if_icmp .ge 26, 3) := by decide +kernel
theorem dX3_sharpnessInKey_7 : decode cX3_sharpnessInKey 7 = .ok (.iload_n 2, 1) := by decide +kernel
theorem dX3_sharpnessInKey_8 : decode cX3_sharpnessInKey 8 = .ok (.bipush 7, 2) := by decide +kernel
theorem dX3_sharpnessInKey_10 : decode cX3_sharpnessInKey 10 = .ok (.if_icmp .ge 20, 3) := by decide +kernel
theorem dX3_sharpnessInKey_13 : decode cX3_sharpnessInKey 13 = .ok (.getstatic 47, 3) := by decide +kernel
theorem dX3_sharpnessInKey_16 : decode cX3_sharpnessInKey 16 = .ok (.iload_n 2, 1) := by decide +kernel
theorem dX3_sharpnessInKey_17 : decode cX3_sharpnessInKey 17 = .ok (.iaload, 1) := by decide +kernel
theorem dX3_sharpnessInKey_18 : decode cX3_sharpnessInKey 18 = .ok (.iload_n 0, 1) := by decide +kernel
theorem dX3_sharpnessInKey_19 : decode cX3_sharpnessInKey 19 = .ok (.if_icmp .ne 5, 3) := by decide +kernel
theorem dX3_sharpnessInKey_22 : decode cX3_sharpnessInKey 22 = .ok (.iconst 1, 1) := by decide +kernel
theorem dX3_sharpnessInKey_23 : decode cX3_sharpnessInKey 23 = .ok (.ireturn, 1) := by decide +kernel
theorem dX3_sharpnessInKey_24 : decode cX3_sharpnessInKey 24 = .ok (.iinc 2 1, 3) := by decide +kernel
theorem dX3_sharpnessInKey_27 : decode cX3_sharpnessInKey 27 = .ok (.goto (-25), 3) := by decide +kernel
theorem dX3_sharpnessInKey_30 : decode cX3_sharpnessInKey 30 = .ok (.iconst 0, 1) := by decide +kernel
theorem dX3_sharpnessInKey_31 : decode cX3_sharpnessInKey 31 = .ok (.istore_n 2, 1) := by decide +kernel
theorem dX3_sharpnessInKey_32 : decode cX3_sharpnessInKey 32 = .ok (.iload_n 2, 1) := by decide +kernel
theorem dX3_sharpnessInKey_33 : decode cX3_sharpnessInKey 33 = .ok (.iload_n 1, 1) := by decide +kernel
theorem dX3_sharpnessInKey_34 : decode cX3_sharpnessInKey 34 = .ok (.ineg, 1) := by decide +kernel
theorem dX3_sharpnessInKey_35 : decode cX3_sharpnessInKey 35 = .ok (.if_icmp .ge 26, 3) := by decide +kernel
theorem dX3_sharpnessInKey_38 : decode cX3_sharpnessInKey 38 = .ok (.iload_n 2, 1) := by decide +kernel
theorem dX3_sharpnessInKey_39 : decode cX3_sharpnessInKey 39 = .ok (.bipush 7, 2) := by decide +kernel
theorem dX3_sharpnessInKey_41 : decode cX3_sharpnessInKey 41 = .ok (.if_icmp .ge 20, 3) := by decide +kernel
theorem dX3_sharpnessInKey_44 : decode cX3_sharpnessInKey 44 = .ok (.getstatic 51, 3) := by decide +kernel
theorem dX3_sharpnessInKey_47 : decode cX3_sharpnessInKey 47 = .ok (.iload_n 2, 1) := by decide +kernel
theorem dX3_sharpnessInKey_48 : decode cX3_sharpnessInKey 48 = .ok (.iaload, 1) := by decide +kernel
theorem dX3_sharpnessInKey_49 : decode cX3_sharpnessInKey 49 = .ok (.iload_n 0, 1) := by decide +kernel
theorem dX3_sharpnessInKey_50 : decode cX3_sharpnessInKey 50 = .ok (.if_icmp .ne 5, 3) := by decide +kernel
theorem dX3_sharpnessInKey_53 : decode cX3_sharpnessInKey 53 = .ok (.iconst (-1), 1) := by decide +kernel
theorem dX3_sharpnessInKey_54 : decode cX3_sharpnessInKey 54 = .ok (.ireturn, 1) := by decide +kernel
theorem dX3_sharpnessInKey_55 : decode cX3_sharpnessInKey 55 = .ok (.iinc 2 1, 3) := by decide +kernel
theorem dX3_sharpnessInKey_58 : decode cX3_sharpnessInKey 58 = .ok (.goto (-26), 3) := by decide +kernel
theorem dX3_sharpnessInKey_61 : decode cX3_sharpnessInKey 61 = .ok (.iconst 0, 1) := by decide +kernel
theorem dX3_sharpnessInKey_62 : decode cX3_sharpnessInKey 62 = .ok (.ireturn, 1) := by decide +kernel
theorem dX3_begin_0 : decode cX3_begin 0 = .ok (.aload_n 0, 1) := by decide +kernel
theorem dX3_begin_1 : decode cX3_begin 1 = .ok (.iload_n 1, 1) := by decide +kernel
theorem dX3_begin_2 : decode cX3_begin 2 = .ok (.putfield 28, 3) := by decide +kernel
theorem dX3_begin_5 : decode cX3_begin 5 = .ok (.aload_n 0, 1) := by decide +kernel
theorem dX3_begin_6 : decode cX3_begin 6 = .ok (.iconst 4, 1) := by decide +kernel
theorem dX3_begin_7 : decode cX3_begin 7 = .ok (.iload_n 2, 1) := by decide +kernel
theorem dX3_begin_8 : decode cX3_begin 8 = .ok (.imul, 1) := by decide +kernel
theorem dX3_begin_9 : decode cX3_begin 9 = .ok (.bipush 6, 2) := by decide +kernel
theorem dX3_begin_11 : decode cX3_begin 11 = .ok (.iadd, 1) := by decide +kernel
theorem dX3_begin_12 : decode cX3_begin 12 = .ok (.bipush 7, 2) := by decide +kernel
theorem dX3_begin_14 : decode cX3_begin 14 = .ok (.invokestatic 32, 3) := by decide +kernel
theorem dX3_begin_17 : decode cX3_begin 17 = .ok (.putfield 38, 3) := by decide +kernel
theorem dX3_begin_20 : decode cX3_begin 20 = .ok (.aload_n 0, 1) := by decide +kernel
theorem dX3_begin_21 : decode cX3_begin 21 = .ok (.aload_n 0, 1) := by decide +kernel
theorem dX3_begin_22 : decode cX3_begin 22 = .ok (.getfield 38, 3) := by decide +kernel
theorem dX3_begin_25 : decode cX3_begin 25 = .ok (.iload_n 2, 1) := by decide +kernel
theorem dX3_begin_26 : decode cX3_begin 26 = .ok (.invokestatic 41, 3) := by decide +kernel
theorem dX3_begin_29 : decode cX3_begin 29 = .ok (.putfield 44, 3) := by decide +kernel
theorem dX3_begin_32 : decode cX3_begin 32 = .ok (.return_, 1) := by decide +kernel
theorem dX2_begin_0 : decode cX2_begin 0 = .ok (.aload_n 0, 1) := by decide +kernel
theorem dX2_begin_1 : decode cX2_begin 1 = .ok (.invokevirtual 37, 3) := by decide +kernel
theorem dX2_begin_4 : decode cX2_begin 4 = .ok (.aload_n 0, 1) := by decide +kernel
theorem dX2_begin_5 : decode cX2_begin 5 = .ok (.aload_n 1, 1) := by decide +kernel
theorem dX2_begin_6 : decode cX2_begin 6 = .ok (.getfield 40, 3) := by decide +kernel
theorem dX2_begin_9 : decode cX2_begin 9 = .ok (.putfield 27, 3) := by decide +kernel
theorem dX2_begin_12 : decode cX2_begin 12 = .ok (.aload_n 1, 1) := by decide +kernel
theorem dX2_begin_13 : decode cX2_begin 13 = .ok (.getfield 45, 3) := by decide +kernel
theorem dX2_begin_16 : decode cX2_begin 16 = .ok (.iconst 0, 1) := by decide +kernel
theorem dX2_begin_17 : decode cX2_begin 17 = .ok (.aload_n 0, 1) := by decide +kernel
theorem dX2_begin_18 : decode cX2_begin 18 = .ok (.getfield 15, 3) := by decide +kernel
theorem dX2_begin_21 : decode cX2_begin 21 = .ok (.iconst 0, 1) := by decide +kernel
theorem dX2_begin_22 : decode cX2_begin 22 = .ok (.aload_n 0, 1) := by decide +kernel
theorem dX2_begin_23 : decode cX2_begin 23 = .ok (.getfield 15, 3) := by decide +kernel
theorem dX2_begin_26 : decode cX2_begin 26 = .ok (.arraylength, 1) := by decide +kernel
theorem dX2_begin_27 : decode cX2_begin 27 = .ok (.invokestatic 46, 3) := by decide +kernel
theorem dX2_begin_30 : decode cX2_begin 30 = .ok (.return_, 1) := by decide +kernel
theorem dX0_hush_0 : decode cX0_hush 0 = .ok (.iconst 0, 1) := by decide +kernel
theorem dX0_hush_1 : decode cX0_hush 1 = .ok (.istore_n 1, 1) := by decide +kernel
theorem dX0_hush_2 : decode cX0_hush 2 = .ok (.iload_n 1, 1) := by decide +kernel
theorem dX0_hush_3 : decode cX0_hush 3 = .ok (.aload_n 0, 1) := by decide +kernel
theorem dX0_hush_4 : decode cX0_hush 4 = .ok (.getfield 9, 3) := by decide +kernel
theorem dX0_hush_7 : decode cX0_hush 7 = .ok (.arraylength, 1) := by decide +kernel
theorem dX0_hush_8 : decode cX0_hush 8 = .ok (.if_icmp .ge 16, 3) := by decide +kernel
theorem dX0_hush_11 : decode cX0_hush 11 = .ok (.aload_n 0, 1) := by decide +kernel
theorem dX0_hush_12 : decode cX0_hush 12 = .ok (.getfield 9, 3) := by decide +kernel
theorem dX0_hush_15 : decode cX0_hush 15 = .ok (.iload_n 1, 1) := by decide +kernel
theorem dX0_hush_16 : decode cX0_hush 16 = .ok (.iconst 0, 1) := by decide +kernel
theorem dX0_hush_17 : decode cX0_hush 17 = .ok (.bastore, 1) := by decide +kernel
theorem dX0_hush_18 : decode cX0_hush 18 = .ok (.iinc 1 1, 3) := by decide +kernel
theorem dX0_hush_21 : decode cX0_hush 21 = .ok (.goto (-19), 3) := by decide +kernel
theorem dX0_hush_24 : decode cX0_hush 24 = .ok (.return_, 1) := by decide +kernel
theorem dX4_lastNotLater_0 : decode cX4_lastNotLater 0 = .ok (.iconst (-1), 1) := by decide +kernel
theorem dX4_lastNotLater_1 : decode cX4_lastNotLater 1 = .ok (.istore_n 2, 1) := by decide +kernel
theorem dX4_lastNotLater_2 : decode cX4_lastNotLater 2 = .ok (.bipush 16, 2) := by decide +kernel
theorem dX4_lastNotLater_4 : decode cX4_lastNotLater 4 = .ok (.istore_n 3, 1) := by decide +kernel
theorem dX4_lastNotLater_5 : decode cX4_lastNotLater 5 = .ok (.iload_n 3, 1) := by decide +kernel
theorem dX4_lastNotLater_6 : decode cX4_lastNotLater 6 = .ok (.ifCond .le 38, 3) := by decide +kernel
theorem dX4_lastNotLater_9 : decode cX4_lastNotLater 9 = .ok (.iload_n 2, 1) := by decide +kernel
theorem dX4_lastNotLater_10 : decode cX4_lastNotLater 10 = .ok (.iload_n 3, 1) := by decide +kernel
theorem dX4_lastNotLater_11 : decode cX4_lastNotLater 11 = .ok (.iadd, 1) := by decide +kernel
theorem dX4_lastNotLater_12 : decode cX4_lastNotLater 12 = .ok (.istore 4, 2) := by decide +kernel
theorem dX4_lastNotLater_14 : decode cX4_lastNotLater 14 = .ok (.iload 4, 2) := by decide +kernel
theorem dX4_lastNotLater_16 : decode cX4_lastNotLater 16 = .ok (.aload_n 0, 1) := by decide +kernel
theorem dX4_lastNotLater_17 : decode cX4_lastNotLater 17 = .ok (.getfield 28, 3) := by decide +kernel
theorem dX4_lastNotLater_20 : decode cX4_lastNotLater 20 = .ok (.if_icmp .ge 17, 3) := by decide +kernel
theorem dX4_lastNotLater_23 : decode cX4_lastNotLater 23 = .ok (.aload_n 0, 1) := by decide +kernel
theorem dX4_lastNotLater_24 : decode cX4_lastNotLater 24 = .ok (.getfield 9, 3) := by decide +kernel
theorem dX4_lastNotLater_27 : decode cX4_lastNotLater 27 = .ok (.iload 4, 2) := by decide +kernel
theorem dX4_lastNotLater_29 : decode cX4_lastNotLater 29 = .ok (.iaload, 1) := by decide +kernel
theorem dX4_lastNotLater_30 : decode cX4_lastNotLater 30 = .ok (.iload_n 1, 1) := by decide +kernel
theorem dX4_lastNotLater_31 : decode cX4_lastNotLater 31 = .ok (.if_icmp .gt 6, 3) := by decide +kernel
theorem dX4_lastNotLater_34 : decode cX4_lastNotLater 34 = .ok (.iload 4, 2) := by decide +kernel
theorem dX4_lastNotLater_36 : decode cX4_lastNotLater 36 = .ok (.istore_n 2, 1) := by decide +kernel
theorem dX4_lastNotLater_37 : decode cX4_lastNotLater 37 = .ok (.iload_n 3, 1) := by decide +kernel
theorem dX4_lastNotLater_38 : decode cX4_lastNotLater 38 = .ok (.iconst 2, 1) := by decide +kernel
theorem dX4_lastNotLater_39 : decode cX4_lastNotLater 39 = .ok (.idiv, 1) := by decide +kernel
theorem dX4_lastNotLater_40 : decode cX4_lastNotLater 40 = .ok (.istore_n 3, 1) := by decide +kernel
theorem dX4_lastNotLater_41 : decode cX4_lastNotLater 41 = .ok (.goto (-36), 3) := by decide +kernel
theorem dX4_lastNotLater_44 : decode cX4_lastNotLater 44 = .ok (.iload_n 2, 1) := by decide +kernel
theorem dX4_lastNotLater_45 : decode cX4_lastNotLater 45 = .ok (.ireturn, 1) := by decide +kernel
theorem dX0_load_0 : decode cX0_load 0 = .ok (.iconst 0, 1) := by decide +kernel
theorem dX0_load_1 : decode cX0_load 1 = .ok (.istore_n 3, 1) := by decide +kernel
theorem dX0_load_2 : decode cX0_load 2 = .ok (.iload_n 3, 1) := by decide +kernel
theorem dX0_load_3 : decode cX0_load 3 = .ok (.aload_n 1, 1) := by decide +kernel
theorem dX0_load_4 : decode cX0_load 4 = .ok (.arraylength, 1) := by decide +kernel
theorem dX0_load_5 : decode cX0_load 5 = .ok (.if_icmp .ge 99, 3) := by decide +kernel
theorem dX0_load_8 : decode cX0_load 8 = .ok (.aload_n 1, 1) := by decide +kernel
theorem dX0_load_9 : decode cX0_load 9 = .ok (.iload_n 3, 1) := by decide +kernel
theorem dX0_load_10 : decode cX0_load 10 = .ok (.aaload, 1) := by decide +kernel
theorem dX0_load_11 : decode cX0_load 11 = .ok (.astore 4, 2) := by decide +kernel
theorem dX0_load_13 : decode cX0_load 13 = .ok (.aload 4, 2) := by decide +kernel
theorem dX0_load_15 : decode cX0_load 15 = .ok (.iload_n 2, 1) := by decide +kernel
theorem dX0_load_16 : decode cX0_load 16 = .ok (.invokevirtual 25, 3) := by decide +kernel
theorem dX0_load_19 : decode cX0_load 19 = .ok (.istore 5, 2) := by decide +kernel
theorem dX0_load_21 : decode cX0_load 21 = .ok (.aload_n 0, 1) := by decide +kernel
theorem dX0_load_22 : decode cX0_load 22 = .ok (.getfield 9, 3) := by decide +kernel
theorem dX0_load_25 : decode cX0_load 25 = .ok (.iload_n 3, 1) := by decide +kernel
theorem dX0_load_26 : decode cX0_load 26 = .ok (.iload 5, 2) := by decide +kernel
theorem dX0_load_28 : decode cX0_load 28 = .ok (.iconst (-1), 1) := by decide +kernel
theorem dX0_load_29 : decode cX0_load 29 = .ok (.if_icmp .eq 17, 3) := by decide +kernel
theorem dX0_load_32 : decode cX0_load 32 = .ok (.aload 4, 2) := by decide +kernel
theorem dX0_load_34 : decode cX0_load 34 = .ok (.iload 5, 2) := by decide +kernel
theorem dX0_load_36 : decode cX0_load 36 = .ok (.invokevirtual 31, 3) := by decide +kernel
theorem dX0_load_39 : decode cX0_load 39 = .ok (.ifCond .eq 7, 3) := by decide +kernel
theorem dX0_load_42 : decode cX0_load 42 = .ok (.iconst 1, 1) := by decide +kernel
theorem dX0_load_43 : decode cX0_load 43 = .ok (.goto 4, 3) := by decide +kernel
theorem dX0_load_46 : decode cX0_load 46 = .ok (.iconst 0, 1) := by decide +kernel
theorem dX0_load_47 : decode cX0_load 47 = .ok (.bastore, 1) := by decide +kernel
theorem dX0_load_48 : decode cX0_load 48 = .ok (.aload_n 0, 1) := by decide +kernel
theorem dX0_load_49 : decode cX0_load 49 = .ok (.getfield 9, 3) := by decide +kernel
theorem dX0_load_52 : decode cX0_load 52 = .ok (.iload_n 3, 1) := by decide +kernel
theorem dX0_load_53 : decode cX0_load 53 = .ok (.baload, 1) := by decide +kernel
theorem dX0_load_54 : decode cX0_load 54 = .ok (.ifCond .eq 44, 3) := by decide +kernel
theorem dX0_load_57 : decode cX0_load 57 = .ok (.aload_n 0, 1) := by decide +kernel
theorem dX0_load_58 : decode cX0_load 58 = .ok (.getfield 15, 3) := by decide +kernel
theorem dX0_load_61 : decode cX0_load 61 = .ok (.iload_n 3, 1) := by decide +kernel
theorem dX0_load_62 : decode cX0_load 62 = .ok (.aload 4, 2) := by decide +kernel
theorem dX0_load_64 : decode cX0_load 64 = .ok (.getfield 35, 3) := by decide +kernel
theorem dX0_load_67 : decode cX0_load 67 = .ok (.iload 5, 2) := by decide +kernel
theorem dX0_load_69 : decode cX0_load 69 = .ok (.iaload, 1) := by decide +kernel
theorem dX0_load_70 : decode cX0_load 70 = .ok (.iastore, 1) := by decide +kernel
theorem dX0_load_71 : decode cX0_load 71 = .ok (.aload_n 0, 1) := by decide +kernel
theorem dX0_load_72 : decode cX0_load 72 = .ok (.getfield 19, 3) := by decide +kernel
theorem dX0_load_75 : decode cX0_load 75 = .ok (.iload_n 3, 1) := by decide +kernel
theorem dX0_load_76 : decode cX0_load 76 = .ok (.aload 4, 2) := by decide +kernel
theorem dX0_load_78 : decode cX0_load 78 = .ok (.getfield 36, 3) := by decide +kernel
theorem dX0_load_81 : decode cX0_load 81 = .ok (.iload 5, 2) := by decide +kernel
theorem dX0_load_83 : decode cX0_load 83 = .ok (.iaload, 1) := by decide +kernel
theorem dX0_load_84 : decode cX0_load 84 = .ok (.iastore, 1) := by decide +kernel
theorem dX0_load_85 : decode cX0_load 85 = .ok (.aload_n 0, 1) := by decide +kernel
theorem dX0_load_86 : decode cX0_load 86 = .ok (.getfield 22, 3) := by decide +kernel
theorem dX0_load_89 : decode cX0_load 89 = .ok (.iload_n 3, 1) := by decide +kernel
theorem dX0_load_90 : decode cX0_load 90 = .ok (.aload 4, 2) := by decide +kernel
theorem dX0_load_92 : decode cX0_load 92 = .ok (.iload 5, 2) := by decide +kernel
theorem dX0_load_94 : decode cX0_load 94 = .ok (.invokevirtual 37, 3) := by decide +kernel
theorem dX0_load_97 : decode cX0_load 97 = .ok (.iastore, 1) := by decide +kernel
theorem dX0_load_98 : decode cX0_load 98 = .ok (.iinc 3 1, 3) := by decide +kernel
theorem dX0_load_101 : decode cX0_load 101 = .ok (.goto (-99), 3) := by decide +kernel
theorem dX0_load_104 : decode cX0_load 104 = .ok (.return_, 1) := by decide +kernel
theorem dX3_goes_0 : decode cX3_goes 0 = .ok (.aload_n 0, 1) := by decide +kernel
theorem dX3_goes_1 : decode cX3_goes 1 = .ok (.getfield 21, 3) := by decide +kernel
theorem dX3_goes_4 : decode cX3_goes 4 = .ok (.getfield 93, 3) := by decide +kernel
theorem dX3_goes_7 : decode cX3_goes 7 = .ok (.iload_n 1, 1) := by decide +kernel
theorem dX3_goes_8 : decode cX3_goes 8 = .ok (.baload, 1) := by decide +kernel
theorem dX3_goes_9 : decode cX3_goes 9 = .ok (.ifCond .eq 19, 3) := by decide +kernel
theorem dX3_goes_12 : decode cX3_goes 12 = .ok (.aload_n 0, 1) := by decide +kernel
theorem dX3_goes_13 : decode cX3_goes 13 = .ok (.getfield 25, 3) := by decide +kernel
theorem dX3_goes_16 : decode cX3_goes 16 = .ok (.getfield 93, 3) := by decide +kernel
theorem dX3_goes_19 : decode cX3_goes 19 = .ok (.iload_n 1, 1) := by decide +kernel
theorem dX3_goes_20 : decode cX3_goes 20 = .ok (.baload, 1) := by decide +kernel
theorem dX3_goes_21 : decode cX3_goes 21 = .ok (.ifCond .eq 7, 3) := by decide +kernel
theorem dX3_goes_24 : decode cX3_goes 24 = .ok (.iconst 1, 1) := by decide +kernel
theorem dX3_goes_25 : decode cX3_goes 25 = .ok (.goto 4, 3) := by decide +kernel
theorem dX3_goes_28 : decode cX3_goes 28 = .ok (.iconst 0, 1) := by decide +kernel
theorem dX3_goes_29 : decode cX3_goes 29 = .ok (.ireturn, 1) := by decide +kernel
theorem dX3_moves_0 : decode cX3_moves 0 = .ok (.aload_n 0, 1) := by decide +kernel
theorem dX3_moves_1 : decode cX3_moves 1 = .ok (.iload_n 1, 1) := by decide +kernel
theorem dX3_moves_2 : decode cX3_moves 2 = .ok (.invokevirtual 97, 3) := by decide +kernel
theorem dX3_moves_5 : decode cX3_moves 5 = .ok (.ifCond .eq 49, 3) := by decide +kernel
theorem dX3_moves_8 : decode cX3_moves 8 = .ok (.aload_n 0, 1) := by decide +kernel
theorem dX3_moves_9 : decode cX3_moves 9 = .ok (.getfield 21, 3) := by decide +kernel
theorem dX3_moves_12 : decode cX3_moves 12 = .ok (.getfield 142, 3) := by decide +kernel
theorem dX3_moves_15 : decode cX3_moves 15 = .ok (.iload_n 1, 1) := by decide +kernel
theorem dX3_moves_16 : decode cX3_moves 16 = .ok (.iaload, 1) := by decide +kernel
theorem dX3_moves_17 : decode cX3_moves 17 = .ok (.aload_n 0, 1) := by decide +kernel
theorem dX3_moves_18 : decode cX3_moves 18 = .ok (.getfield 25, 3) := by decide +kernel
theorem dX3_moves_21 : decode cX3_moves 21 = .ok (.getfield 142, 3) := by decide +kernel
theorem dX3_moves_24 : decode cX3_moves 24 = .ok (.iload_n 1, 1) := by decide +kernel
theorem dX3_moves_25 : decode cX3_moves 25 = .ok (.iaload, 1) := by decide +kernel
theorem dX3_moves_26 : decode cX3_moves 26 = .ok (.if_icmp .ne 24, 3) := by decide +kernel
theorem dX3_moves_29 : decode cX3_moves 29 = .ok (.aload_n 0, 1) := by decide +kernel
theorem dX3_moves_30 : decode cX3_moves 30 = .ok (.getfield 21, 3) := by decide +kernel
theorem dX3_moves_33 : decode cX3_moves 33 = .ok (.getfield 169, 3) := by decide +kernel
theorem dX3_moves_36 : decode cX3_moves 36 = .ok (.iload_n 1, 1) := by decide +kernel
theorem dX3_moves_37 : decode cX3_moves 37 = .ok (.iaload, 1) := by decide +kernel
theorem dX3_moves_38 : decode cX3_moves 38 = .ok (.aload_n 0, 1) := by decide +kernel
theorem dX3_moves_39 : decode cX3_moves 39 = .ok (.getfield 25, 3) := by decide +kernel
theorem dX3_moves_42 : decode cX3_moves 42 = .ok (.getfield 169, 3) := by decide +kernel
theorem dX3_moves_45 : decode cX3_moves 45 = .ok (.iload_n 1, 1) := by decide +kernel
theorem dX3_moves_46 : decode cX3_moves 46 = .ok (.iaload, 1) := by decide +kernel
theorem dX3_moves_47 : decode cX3_moves 47 = .ok (.if_icmp .eq 7, 3) := by decide +kernel
theorem dX3_moves_50 : decode cX3_moves 50 = .ok (.iconst 1, 1) := by decide +kernel
theorem dX3_moves_51 : decode cX3_moves 51 = .ok (.goto 4, 3) := by decide +kernel
theorem dX3_moves_54 : decode cX3_moves 54 = .ok (.iconst 0, 1) := by decide +kernel
theorem dX3_moves_55 : decode cX3_moves 55 = .ok (.ireturn, 1) := by decide +kernel
theorem dX2_mark_0 : decode cX2_mark 0 = .ok (.iload_n 1, 1) := by decide +kernel
theorem dX2_mark_1 : decode cX2_mark 1 = .ok (.bipush 14, 2) := by decide +kernel
theorem dX2_mark_3 : decode cX2_mark 3 = .ok (.imul, 1) := by decide +kernel
theorem dX2_mark_4 : decode cX2_mark 4 = .ok (.iload_n 2, 1) := by decide +kernel
theorem dX2_mark_5 : decode cX2_mark 5 = .ok (.iadd, 1) := by decide +kernel
theorem dX2_mark_6 : decode cX2_mark 6 = .ok (.istore 5, 2) := by decide +kernel
theorem dX2_mark_8 : decode cX2_mark 8 = .ok (.iload 5, 2) := by decide +kernel
theorem dX2_mark_10 : decode cX2_mark 10 = .ok (.ifCond .lt 31, 3) := by decide +kernel
theorem dX2_mark_13 : decode cX2_mark 13 = .ok (.iload 5, 2) := by decide +kernel
theorem dX2_mark_15 : decode cX2_mark 15 = .ok (.aload_n 0, 1) := by decide +kernel
theorem dX2_mark_16 : decode cX2_mark 16 = .ok (.getfield 9, 3) := by decide +kernel
theorem dX2_mark_19 : decode cX2_mark 19 = .ok (.arraylength, 1) := by decide +kernel
theorem dX2_mark_20 : decode cX2_mark 20 = .ok (.if_icmp .ge 21, 3) := by decide +kernel
theorem dX2_mark_23 : decode cX2_mark 23 = .ok (.aload_n 0, 1) := by decide +kernel
theorem dX2_mark_24 : decode cX2_mark 24 = .ok (.getfield 9, 3) := by decide +kernel
theorem dX2_mark_27 : decode cX2_mark 27 = .ok (.iload 5, 2) := by decide +kernel
theorem dX2_mark_29 : decode cX2_mark 29 = .ok (.dup2, 1) := by decide +kernel
theorem dX2_mark_30 : decode cX2_mark 30 = .ok (.iaload, 1) := by decide +kernel
theorem dX2_mark_31 : decode cX2_mark 31 = .ok (.iconst 1, 1) := by decide +kernel
theorem dX2_mark_32 : decode cX2_mark 32 = .ok (.iload_n 3, 1) := by decide +kernel
theorem dX2_mark_33 : decode cX2_mark 33 = .ok (.iconst 5, 1) := by decide +kernel
theorem dX2_mark_34 : decode cX2_mark 34 = .ok (.imul, 1) := by decide +kernel
theorem dX2_mark_35 : decode cX2_mark 35 = .ok (.iload 4, 2) := by decide +kernel
theorem dX2_mark_37 : decode cX2_mark 37 = .ok (.iadd, 1) := by decide +kernel
theorem dX2_mark_38 : decode cX2_mark 38 = .ok (.ishl, 1) := by decide +kernel
theorem dX2_mark_39 : decode cX2_mark 39 = .ok (.ior, 1) := by decide +kernel
theorem dX2_mark_40 : decode cX2_mark 40 = .ok (.iastore, 1) := by decide +kernel
theorem dX2_mark_41 : decode cX2_mark 41 = .ok (.return_, 1) := by decide +kernel
theorem dX3_between_0 : decode cX3_between 0 = .ok (.iload 4, 2) := by decide +kernel
theorem dX3_between_2 : decode cX3_between 2 = .ok (.ifCond .eq 29, 3) := by decide +kernel
theorem dX3_between_5 : decode cX3_between 5 = .ok (.aload_n 0, 1) := by decide +kernel
theorem dX3_between_6 : decode cX3_between 6 = .ok (.getfield 28, 3) := by decide +kernel
theorem dX3_between_9 : decode cX3_between 9 = .ok (.iload_n 1, 1) := by decide +kernel
theorem dX3_between_10 : decode cX3_between 10 = .ok (.ishr, 1) := by decide +kernel
theorem dX3_between_11 : decode cX3_between 11 = .ok (.iconst 1, 1) := by decide +kernel
theorem dX3_between_12 : decode cX3_between 12 = .ok (.iand, 1) := by decide +kernel
theorem dX3_between_13 : decode cX3_between 13 = .ok (.iconst 1, 1) := by decide +kernel
theorem dX3_between_14 : decode cX3_between 14 = .ok (.if_icmp .ne 17, 3) := by decide +kernel
theorem dX3_between_17 : decode cX3_between 17 = .ok (.aload_n 0, 1) := by decide +kernel
theorem dX3_between_18 : decode cX3_between 18 = .ok (.getfield 12, 3) := by decide +kernel
theorem dX3_between_21 : decode cX3_between 21 = .ok (.aload_n 0, 1) := by decide +kernel
theorem dX3_between_22 : decode cX3_between 22 = .ok (.getfield 76, 3) := by decide +kernel
theorem dX3_between_25 : decode cX3_between 25 = .ok (.iload_n 1, 1) := by decide +kernel
theorem dX3_between_26 : decode cX3_between 26 = .ok (.iload_n 2, 1) := by decide +kernel
theorem dX3_between_27 : decode cX3_between 27 = .ok (.iload_n 3, 1) := by decide +kernel
theorem dX3_between_28 : decode cX3_between 28 = .ok (.invokevirtual 181, 3) := by decide +kernel
theorem dX3_between_31 : decode cX3_between 31 = .ok (.return_, 1) := by decide +kernel
theorem dX3_alone_0 : decode cX3_alone 0 = .ok (.aload_n 0, 1) := by decide +kernel
theorem dX3_alone_1 : decode cX3_alone 1 = .ok (.iload_n 1, 1) := by decide +kernel
theorem dX3_alone_2 : decode cX3_alone 2 = .ok (.iload_n 2, 1) := by decide +kernel
theorem dX3_alone_3 : decode cX3_alone 3 = .ok (.iload_n 2, 1) := by decide +kernel
theorem dX3_alone_4 : decode cX3_alone 4 = .ok (.iload_n 3, 1) := by decide +kernel
theorem dX3_alone_5 : decode cX3_alone 5 = .ok (.invokevirtual 123, 3) := by decide +kernel
theorem dX3_alone_8 : decode cX3_alone 8 = .ok (.return_, 1) := by decide +kernel
theorem dX0_heightUp_0 : decode cX0_heightUp 0 = .ok (.aload_n 0, 1) := by decide +kernel
theorem dX0_heightUp_1 : decode cX0_heightUp 1 = .ok (.getfield 22, 3) := by decide +kernel
theorem dX0_heightUp_4 : decode cX0_heightUp 4 = .ok (.iload_n 2, 1) := by decide +kernel
theorem dX0_heightUp_5 : decode cX0_heightUp 5 = .ok (.iaload, 1) := by decide +kernel
theorem dX0_heightUp_6 : decode cX0_heightUp 6 = .ok (.aload_n 0, 1) := by decide +kernel
theorem dX0_heightUp_7 : decode cX0_heightUp 7 = .ok (.getfield 22, 3) := by decide +kernel
theorem dX0_heightUp_10 : decode cX0_heightUp 10 = .ok (.iload_n 1, 1) := by decide +kernel
theorem dX0_heightUp_11 : decode cX0_heightUp 11 = .ok (.iaload, 1) := by decide +kernel
theorem dX0_heightUp_12 : decode cX0_heightUp 12 = .ok (.isub, 1) := by decide +kernel
theorem dX0_heightUp_13 : decode cX0_heightUp 13 = .ok (.ireturn, 1) := by decide +kernel
theorem dX0_letter_0 : decode cX0_letter 0 = .ok (.aload_n 0, 1) := by decide +kernel
theorem dX0_letter_1 : decode cX0_letter 1 = .ok (.getfield 15, 3) := by decide +kernel
theorem dX0_letter_4 : decode cX0_letter 4 = .ok (.iload_n 1, 1) := by decide +kernel
theorem dX0_letter_5 : decode cX0_letter 5 = .ok (.iaload, 1) := by decide +kernel
theorem dX0_letter_6 : decode cX0_letter 6 = .ok (.bipush 7, 2) := by decide +kernel
theorem dX0_letter_8 : decode cX0_letter 8 = .ok (.irem, 1) := by decide +kernel
theorem dX0_letter_9 : decode cX0_letter 9 = .ok (.ireturn, 1) := by decide +kernel
theorem dX0_isNoteOf_0 : decode cX0_isNoteOf 0 = .ok (.aload_n 0, 1) := by decide +kernel
theorem dX0_isNoteOf_1 : decode cX0_isNoteOf 1 = .ok (.getfield 9, 3) := by decide +kernel
theorem dX0_isNoteOf_4 : decode cX0_isNoteOf 4 = .ok (.iload_n 1, 1) := by decide +kernel
theorem dX0_isNoteOf_5 : decode cX0_isNoteOf 5 = .ok (.baload, 1) := by decide +kernel
theorem dX0_isNoteOf_6 : decode cX0_isNoteOf 6 = .ok (.ifCond .eq 26, 3) := by decide +kernel
theorem dX0_isNoteOf_9 : decode cX0_isNoteOf 9 = .ok (.aload_n 0, 1) := by decide +kernel
theorem dX0_isNoteOf_10 : decode cX0_isNoteOf 10 = .ok (.iload_n 1, 1) := by decide +kernel
theorem dX0_isNoteOf_11 : decode cX0_isNoteOf 11 = .ok (.invokevirtual 40, 3) := by decide +kernel
theorem dX0_isNoteOf_14 : decode cX0_isNoteOf 14 = .ok (.iload_n 2, 1) := by decide +kernel
theorem dX0_isNoteOf_15 : decode cX0_isNoteOf 15 = .ok (.if_icmp .ne 17, 3) := by decide +kernel
theorem dX0_isNoteOf_18 : decode cX0_isNoteOf 18 = .ok (.aload_n 0, 1) := by decide +kernel
theorem dX0_isNoteOf_19 : decode cX0_isNoteOf 19 = .ok (.getfield 19, 3) := by decide +kernel
theorem dX0_isNoteOf_22 : decode cX0_isNoteOf 22 = .ok (.iload_n 1, 1) := by decide +kernel
theorem dX0_isNoteOf_23 : decode cX0_isNoteOf 23 = .ok (.iaload, 1) := by decide +kernel
theorem dX0_isNoteOf_24 : decode cX0_isNoteOf 24 = .ok (.iload_n 3, 1) := by decide +kernel
theorem dX0_isNoteOf_25 : decode cX0_isNoteOf 25 = .ok (.if_icmp .ne 7, 3) := by decide +kernel
theorem dX0_isNoteOf_28 : decode cX0_isNoteOf 28 = .ok (.iconst 1, 1) := by decide +kernel
theorem dX0_isNoteOf_29 : decode cX0_isNoteOf 29 = .ok (.goto 4, 3) := by decide +kernel
theorem dX0_isNoteOf_32 : decode cX0_isNoteOf 32 = .ok (.iconst 0, 1) := by decide +kernel
theorem dX0_isNoteOf_33 : decode cX0_isNoteOf 33 = .ok (.ireturn, 1) := by decide +kernel
theorem dX3_leads_0 : decode cX3_leads 0 = .ok (.aload_n 1, 1) := by decide +kernel
theorem dX3_leads_1 : decode cX3_leads 1 = .ok (.iload_n 2, 1) := by decide +kernel
theorem dX3_leads_2 : decode cX3_leads 2 = .ok (.aload_n 0, 1) := by decide +kernel
theorem dX3_leads_3 : decode cX3_leads 3 = .ok (.getfield 38, 3) := by decide +kernel
theorem dX3_leads_6 : decode cX3_leads 6 = .ok (.aload_n 0, 1) := by decide +kernel
theorem dX3_leads_7 : decode cX3_leads 7 = .ok (.getfield 44, 3) := by decide +kernel
theorem dX3_leads_10 : decode cX3_leads 10 = .ok (.invokevirtual 172, 3) := by decide +kernel
theorem dX3_leads_13 : decode cX3_leads 13 = .ok (.ireturn, 1) := by decide +kernel
theorem dX3_lookAtInterval_0 : decode cX3_lookAtInterval 0 = .ok (.aload_n 0, 1) := by decide +kernel
theorem dX3_lookAtInterval_1 : decode cX3_lookAtInterval 1 = .ok (.getfield 25, 3) := by decide +kernel
theorem dX3_lookAtInterval_4 : decode cX3_lookAtInterval 4 = .ok (.iload_n 1, 1) := by decide +kernel
theorem dX3_lookAtInterval_5 : decode cX3_lookAtInterval 5 = .ok (.iload_n 2, 1) := by decide +kernel
theorem dX3_lookAtInterval_6 : decode cX3_lookAtInterval 6 = .ok (.invokevirtual 120, 3) := by decide +kernel
theorem dX3_lookAtInterval_9 : decode cX3_lookAtInterval 9 = .ok (.istore_n 3, 1) := by decide +kernel
theorem dX3_lookAtInterval_10 : decode cX3_lookAtInterval 10 = .ok (.aload_n 0, 1) := by decide +kernel
theorem dX3_lookAtInterval_11 : decode cX3_lookAtInterval 11 = .ok (.iconst 3, 1) := by decide +kernel
theorem dX3_lookAtInterval_12 : decode cX3_lookAtInterval 12 = .ok (.iload_n 1, 1) := by decide +kernel
theorem dX3_lookAtInterval_13 : decode cX3_lookAtInterval 13 = .ok (.iload_n 2, 1) := by decide +kernel
theorem dX3_lookAtInterval_14 : decode cX3_lookAtInterval 14 = .ok (.iload_n 3, 1) := by decide +kernel
theorem dX3_lookAtInterval_15 : decode cX3_lookAtInterval 15 = .ok (.ifCond .ge 7, 3) := by decide +kernel
theorem dX3_lookAtInterval_18 : decode cX3_lookAtInterval 18 = .ok (.iconst 1, 1) := by decide +kernel
theorem dX3_lookAtInterval_19 : decode cX3_lookAtInterval 19 = .ok (.goto 4, 3) := by decide +kernel
theorem dX3_lookAtInterval_22 : decode cX3_lookAtInterval 22 = .ok (.iconst 0, 1) := by decide +kernel
theorem dX3_lookAtInterval_23 : decode cX3_lookAtInterval 23 = .ok (.invokevirtual 123, 3) := by decide +kernel
theorem dX3_lookAtInterval_26 : decode cX3_lookAtInterval 26 = .ok (.aload_n 0, 1) := by decide +kernel
theorem dX3_lookAtInterval_27 : decode cX3_lookAtInterval 27 = .ok (.bipush 9, 2) := by decide +kernel
theorem dX3_lookAtInterval_29 : decode cX3_lookAtInterval 29 = .ok (.iload_n 1, 1) := by decide +kernel
theorem dX3_lookAtInterval_30 : decode cX3_lookAtInterval 30 = .ok (.iload_n 2, 1) := by decide +kernel
theorem dX3_lookAtInterval_31 : decode cX3_lookAtInterval 31 = .ok (.aload_n 0, 1) := by decide +kernel
theorem dX3_lookAtInterval_32 : decode cX3_lookAtInterval 32 = .ok (.aload_n 0, 1) := by decide +kernel
theorem dX3_lookAtInterval_33 : decode cX3_lookAtInterval 33 = .ok (.getfield 25, 3) := by decide +kernel
theorem dX3_lookAtInterval_36 : decode cX3_lookAtInterval 36 = .ok (.iload_n 1, 1) := by decide +kernel
theorem dX3_lookAtInterval_37 : decode cX3_lookAtInterval 37 = .ok (.invokevirtual 127, 3) := by decide +kernel
theorem dX3_lookAtInterval_40 : decode cX3_lookAtInterval 40 = .ok (.ifCond .eq 19, 3) := by decide +kernel
theorem dX3_lookAtInterval_43 : decode cX3_lookAtInterval 43 = .ok (.aload_n 0, 1) := by decide +kernel
theorem dX3_lookAtInterval_44 : decode cX3_lookAtInterval 44 = .ok (.aload_n 0, 1) := by decide +kernel
theorem dX3_lookAtInterval_45 : decode cX3_lookAtInterval 45 = .ok (.getfield 25, 3) := by decide +kernel
theorem dX3_lookAtInterval_48 : decode cX3_lookAtInterval 48 = .ok (.iload_n 2, 1) := by decide +kernel
theorem dX3_lookAtInterval_49 : decode cX3_lookAtInterval 49 = .ok (.invokevirtual 127, 3) := by decide +kernel
theorem dX3_lookAtInterval_52 : decode cX3_lookAtInterval 52 = .ok (.ifCond .eq 7, 3) := by decide +kernel
theorem dX3_lookAtInterval_55 : decode cX3_lookAtInterval 55 = .ok (.iconst 1, 1) := by decide +kernel
theorem dX3_lookAtInterval_56 : decode cX3_lookAtInterval 56 = .ok (.goto 4, 3) := by decide +kernel
theorem dX3_lookAtInterval_59 : decode cX3_lookAtInterval 59 = .ok (.iconst 0, 1) := by decide +kernel
theorem dX3_lookAtInterval_60 : decode cX3_lookAtInterval 60 = .ok (.invokevirtual 123, 3) := by decide +kernel
theorem dX3_lookAtInterval_63 : decode cX3_lookAtInterval 63 = .ok (.iload_n 2, 1) := by decide +kernel
theorem dX3_lookAtInterval_64 : decode cX3_lookAtInterval 64 = .ok (.iload_n 1, 1) := by decide +kernel
theorem dX3_lookAtInterval_65 : decode cX3_lookAtInterval 65 = .ok (.iconst 1, 1) := by decide +kernel
theorem dX3_lookAtInterval_66 : decode cX3_lookAtInterval 66 = .ok (.iadd, 1) := by decide +kernel
theorem dX3_lookAtInterval_67 : decode cX3_lookAtInterval 67 = .ok (.if_icmp .ne 47, 3) := by decide +kernel
theorem dX3_lookAtInterval_70 : decode cX3_lookAtInterval 70 = .ok (.aload_n 0, 1) := by decide +kernel
theorem dX3_lookAtInterval_71 : decode cX3_lookAtInterval 71 = .ok (.iconst 5, 1) := by decide +kernel
theorem dX3_lookAtInterval_72 : decode cX3_lookAtInterval 72 = .ok (.iload_n 1, 1) := by decide +kernel
theorem dX3_lookAtInterval_73 : decode cX3_lookAtInterval 73 = .ok (.iload_n 2, 1) := by decide +kernel
theorem dX3_lookAtInterval_74 : decode cX3_lookAtInterval 74 = .ok (.iload_n 3, 1) := by decide +kernel
theorem dX3_lookAtInterval_75 : decode cX3_lookAtInterval 75 = .ok (.iload_n 1, 1) := by decide +kernel
theorem dX3_lookAtInterval_76 : decode cX3_lookAtInterval 76 = .ok (.ifCond .ne 8, 3) := by decide +kernel
theorem dX3_lookAtInterval_79 : decode cX3_lookAtInterval 79 = .ok (.bipush 19, 2) := by decide +kernel
theorem dX3_lookAtInterval_81 : decode cX3_lookAtInterval 81 = .ok (.goto 5, 3) := by decide +kernel
theorem dX3_lookAtInterval_84 : decode cX3_lookAtInterval 84 = .ok (.bipush 12, 2) := by decide +kernel
theorem dX3_lookAtInterval_86 : decode cX3_lookAtInterval 86 = .ok (.if_icmp .le 7, 3) := by decide +kernel
theorem dX3_lookAtInterval_89 : decode cX3_lookAtInterval 89 = .ok (.iconst 1, 1) := by decide +kernel
theorem dX3_lookAtInterval_90 : decode cX3_lookAtInterval 90 = .ok (.goto 4, 3) := by decide +kernel
theorem dX3_lookAtInterval_93 : decode cX3_lookAtInterval 93 = .ok (.iconst 0, 1) := by decide +kernel
theorem dX3_lookAtInterval_94 : decode cX3_lookAtInterval 94 = .ok (.invokevirtual 123, 3) := by decide +kernel
theorem dX3_lookAtInterval_97 : decode cX3_lookAtInterval 97 = .ok (.aload_n 0, 1) := by decide +kernel
theorem dX3_lookAtInterval_98 : decode cX3_lookAtInterval 98 = .ok (.bipush 13, 2) := by decide +kernel
theorem dX3_lookAtInterval_100 : decode cX3_lookAtInterval 100 = .ok (.iload_n 1, 1) := by decide +kernel
theorem dX3_lookAtInterval_101 : decode cX3_lookAtInterval 101 = .ok (.iload_n 2, 1) := by decide +kernel
theorem dX3_lookAtInterval_102 : decode cX3_lookAtInterval 102 = .ok (.iload_n 3, 1) := by decide +kernel
theorem dX3_lookAtInterval_103 : decode cX3_lookAtInterval 103 = .ok (.ifCond .ne 7, 3) := by decide +kernel
theorem dX3_lookAtInterval_106 : decode cX3_lookAtInterval 106 = .ok (.iconst 1, 1) := by decide +kernel
theorem dX3_lookAtInterval_107 : decode cX3_lookAtInterval 107 = .ok (.goto 4, 3) := by decide +kernel
theorem dX3_lookAtInterval_110 : decode cX3_lookAtInterval 110 = .ok (.iconst 0, 1) := by decide +kernel
theorem dX3_lookAtInterval_111 : decode cX3_lookAtInterval 111 = .ok (.invokevirtual 123, 3) := by decide +kernel
theorem dX3_lookAtInterval_114 : decode cX3_lookAtInterval 114 = .ok (.return_, 1) := by decide +kernel
theorem dX3_lookAtMoment_0 : decode cX3_lookAtMoment 0 = .ok (.iconst 0, 1) := by decide +kernel
theorem dX3_lookAtMoment_1 : decode cX3_lookAtMoment 1 = .ok (.istore_n 2, 1) := by decide +kernel
theorem dX3_lookAtMoment_2 : decode cX3_lookAtMoment 2 = .ok (.iload_n 2, 1) := by decide +kernel
theorem dX3_lookAtMoment_3 : decode cX3_lookAtMoment 3 = .ok (.aload_n 0, 1) := by decide +kernel
theorem dX3_lookAtMoment_4 : decode cX3_lookAtMoment 4 = .ok (.getfield 58, 3) := by decide +kernel
theorem dX3_lookAtMoment_7 : decode cX3_lookAtMoment 7 = .ok (.if_icmp .ge 117, 3) := by decide +kernel
theorem dX3_lookAtMoment_10 : decode cX3_lookAtMoment 10 = .ok (.aload_n 0, 1) := by decide +kernel
theorem dX3_lookAtMoment_11 : decode cX3_lookAtMoment 11 = .ok (.getfield 25, 3) := by decide +kernel
theorem dX3_lookAtMoment_14 : decode cX3_lookAtMoment 14 = .ok (.getfield 93, 3) := by decide +kernel
theorem dX3_lookAtMoment_17 : decode cX3_lookAtMoment 17 = .ok (.iload_n 2, 1) := by decide +kernel
theorem dX3_lookAtMoment_18 : decode cX3_lookAtMoment 18 = .ok (.baload, 1) := by decide +kernel
theorem dX3_lookAtMoment_19 : decode cX3_lookAtMoment 19 = .ok (.ifCond .eq 99, 3) := by decide +kernel
theorem dX3_lookAtMoment_22 : decode cX3_lookAtMoment 22 = .ok (.aload_n 0, 1) := by decide +kernel
theorem dX3_lookAtMoment_23 : decode cX3_lookAtMoment 23 = .ok (.iload_n 2, 1) := by decide +kernel
theorem dX3_lookAtMoment_24 : decode cX3_lookAtMoment 24 = .ok (.invokevirtual 97, 3) := by decide +kernel
theorem dX3_lookAtMoment_27 : decode cX3_lookAtMoment 27 = .ok (.ifCond .eq 11, 3) := by decide +kernel
theorem dX3_lookAtMoment_30 : decode cX3_lookAtMoment 30 = .ok (.aload_n 0, 1) := by decide +kernel
theorem dX3_lookAtMoment_31 : decode cX3_lookAtMoment 31 = .ok (.iload_n 2, 1) := by decide +kernel
theorem dX3_lookAtMoment_32 : decode cX3_lookAtMoment 32 = .ok (.invokevirtual 101, 3) := by decide +kernel
theorem dX3_lookAtMoment_35 : decode cX3_lookAtMoment 35 = .ok (.ifCond .eq 7, 3) := by decide +kernel
theorem dX3_lookAtMoment_38 : decode cX3_lookAtMoment 38 = .ok (.iconst 1, 1) := by decide +kernel
theorem dX3_lookAtMoment_39 : decode cX3_lookAtMoment 39 = .ok (.goto 4, 3) := by decide +kernel
theorem dX3_lookAtMoment_42 : decode cX3_lookAtMoment 42 = .ok (.iconst 0, 1) := by decide +kernel
theorem dX3_lookAtMoment_43 : decode cX3_lookAtMoment 43 = .ok (.istore_n 3, 1) := by decide +kernel
theorem dX3_lookAtMoment_44 : decode cX3_lookAtMoment 44 = .ok (.aload_n 0, 1) := by decide +kernel
theorem dX3_lookAtMoment_45 : decode cX3_lookAtMoment 45 = .ok (.bipush 6, 2) := by decide +kernel
theorem dX3_lookAtMoment_47 : decode cX3_lookAtMoment 47 = .ok (.iload_n 2, 1) := by decide +kernel
theorem dX3_lookAtMoment_48 : decode cX3_lookAtMoment 48 = .ok (.iload_n 3, 1) := by decide +kernel
theorem dX3_lookAtMoment_49 : decode cX3_lookAtMoment 49 = .ok (.ifCond .eq 25, 3) := by decide +kernel
theorem dX3_lookAtMoment_52 : decode cX3_lookAtMoment 52 = .ok (.aload_n 1, 1) := by decide +kernel
theorem dX3_lookAtMoment_53 : decode cX3_lookAtMoment 53 = .ok (.iload_n 2, 1) := by decide +kernel
theorem dX3_lookAtMoment_54 : decode cX3_lookAtMoment 54 = .ok (.aaload, 1) := by decide +kernel
theorem dX3_lookAtMoment_55 : decode cX3_lookAtMoment 55 = .ok (.aload_n 0, 1) := by decide +kernel
theorem dX3_lookAtMoment_56 : decode cX3_lookAtMoment 56 = .ok (.getfield 25, 3) := by decide +kernel
theorem dX3_lookAtMoment_59 : decode cX3_lookAtMoment 59 = .ok (.getfield 104, 3) := by decide +kernel
theorem dX3_lookAtMoment_62 : decode cX3_lookAtMoment 62 = .ok (.iload_n 2, 1) := by decide +kernel
theorem dX3_lookAtMoment_63 : decode cX3_lookAtMoment 63 = .ok (.iaload, 1) := by decide +kernel
theorem dX3_lookAtMoment_64 : decode cX3_lookAtMoment 64 = .ok (.invokevirtual 107, 3) := by decide +kernel
theorem dX3_lookAtMoment_67 : decode cX3_lookAtMoment 67 = .ok (.ifCond .eq 7, 3) := by decide +kernel
theorem dX3_lookAtMoment_70 : decode cX3_lookAtMoment 70 = .ok (.iconst 1, 1) := by decide +kernel
theorem dX3_lookAtMoment_71 : decode cX3_lookAtMoment 71 = .ok (.goto 4, 3) := by decide +kernel
theorem dX3_lookAtMoment_74 : decode cX3_lookAtMoment 74 = .ok (.iconst 0, 1) := by decide +kernel
theorem dX3_lookAtMoment_75 : decode cX3_lookAtMoment 75 = .ok (.invokevirtual 112, 3) := by decide +kernel
theorem dX3_lookAtMoment_78 : decode cX3_lookAtMoment 78 = .ok (.iload_n 2, 1) := by decide +kernel
theorem dX3_lookAtMoment_79 : decode cX3_lookAtMoment 79 = .ok (.iconst 1, 1) := by decide +kernel
theorem dX3_lookAtMoment_80 : decode cX3_lookAtMoment 80 = .ok (.iadd, 1) := by decide +kernel
theorem dX3_lookAtMoment_81 : decode cX3_lookAtMoment 81 = .ok (.istore 4, 2) := by decide +kernel
theorem dX3_lookAtMoment_83 : decode cX3_lookAtMoment 83 = .ok (.iload 4, 2) := by decide +kernel
theorem dX3_lookAtMoment_85 : decode cX3_lookAtMoment 85 = .ok (.aload_n 0, 1) := by decide +kernel
theorem dX3_lookAtMoment_86 : decode cX3_lookAtMoment 86 = .ok (.getfield 58, 3) := by decide +kernel
theorem dX3_lookAtMoment_89 : decode cX3_lookAtMoment 89 = .ok (.if_icmp .ge 29, 3) := by decide +kernel
theorem dX3_lookAtMoment_92 : decode cX3_lookAtMoment 92 = .ok (.aload_n 0, 1) := by decide +kernel
theorem dX3_lookAtMoment_93 : decode cX3_lookAtMoment 93 = .ok (.getfield 25, 3) := by decide +kernel
theorem dX3_lookAtMoment_96 : decode cX3_lookAtMoment 96 = .ok (.getfield 93, 3) := by decide +kernel
theorem dX3_lookAtMoment_99 : decode cX3_lookAtMoment 99 = .ok (.iload 4, 2) := by decide +kernel
theorem dX3_lookAtMoment_101 : decode cX3_lookAtMoment 101 = .ok (.baload, 1) := by decide +kernel
theorem dX3_lookAtMoment_102 : decode cX3_lookAtMoment 102 = .ok (.ifCond .eq 10, 3) := by decide +kernel
theorem dX3_lookAtMoment_105 : decode cX3_lookAtMoment 105 = .ok (.aload_n 0, 1) := by decide +kernel
theorem dX3_lookAtMoment_106 : decode cX3_lookAtMoment 106 = .ok (.iload_n 2, 1) := by decide +kernel
theorem dX3_lookAtMoment_107 : decode cX3_lookAtMoment 107 = .ok (.iload 4, 2) := by decide +kernel
theorem dX3_lookAtMoment_109 : decode cX3_lookAtMoment 109 = .ok (.invokevirtual 116, 3) := by decide +kernel
theorem dX3_lookAtMoment_112 : decode cX3_lookAtMoment 112 = .ok (.iinc 4 1, 3) := by decide +kernel
theorem dX3_lookAtMoment_115 : decode cX3_lookAtMoment 115 = .ok (.goto (-32), 3) := by decide +kernel
theorem dX3_lookAtMoment_118 : decode cX3_lookAtMoment 118 = .ok (.iinc 2 1, 3) := by decide +kernel
theorem dX3_lookAtMoment_121 : decode cX3_lookAtMoment 121 = .ok (.goto (-119), 3) := by decide +kernel
theorem dX3_lookAtMoment_124 : decode cX3_lookAtMoment 124 = .ok (.return_, 1) := by decide +kernel
