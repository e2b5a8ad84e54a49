theorem dX7_begin_0 : decode cX7_begin 0 = .ok (.iconst 0, 1) := by decide +kernel
theorem dX7_begin_1 : decode cX7_begin 1 = .ok (.istore_n 1, 1) := by decide +kernel
theorem dX7_begin_2 : decode cX7_begin 2 = .ok (.iload_n 1, 1) := by decide +kernel
theorem dX7_begin_3 : decode cX7_begin 3 = .ok (.iconst 5, 1) := by decide +kernel
theorem dX7_begin_4 : decode cX7_begin 4 = .ok (.if_icmp .ge 31, 3) := by decide +kernel
theorem dX7_begin_7 : decode cX7_begin 7 = .ok (.aload_n 0, 1) := by decide +kernel
theorem dX7_begin_8 : decode cX7_begin 8 = .ok (.getfield 7, 3) := by decide +kernel
theorem dX7_begin_11 : decode cX7_begin 11 = .ok (.iload_n 1, 1) := by decide +kernel
theorem dX7_begin_12 : decode cX7_begin 12 = .ok (.iconst 0, 1) := by decide +kernel
theorem dX7_begin_13 : decode cX7_begin 13 = .ok (.iastore, 1) := by decide +kernel
theorem dX7_begin_14 : decode cX7_begin 14 = .ok (.aload_n 0, 1) := by decide +kernel
theorem dX7_begin_15 : decode cX7_begin 15 = .ok (.getfield 22, 3) := by decide +kernel
theorem dX7_begin_18 : decode cX7_begin 18 = .ok (.iload_n 1, 1) := by decide +kernel
theorem dX7_begin_19 : decode cX7_begin 19 = .ok (.iconst 0, 1) := by decide +kernel
theorem dX7_begin_20 : decode cX7_begin 20 = .ok (.iastore, 1) := by decide +kernel
theorem dX7_begin_21 : decode cX7_begin 21 = .ok (.aload_n 0, 1) := by decide +kernel
theorem dX7_begin_22 : decode cX7_begin 22 = .ok (.getfield 25, 3) := by decide +kernel
theorem dX7_begin_25 : decode cX7_begin 25 = .ok (.iload_n 1, 1) := by decide +kernel
theorem dX7_begin_26 : decode cX7_begin 26 = .ok (.bipush 96, 2) := by decide +kernel
theorem dX7_begin_28 : decode cX7_begin 28 = .ok (.iastore, 1) := by decide +kernel
theorem dX7_begin_29 : decode cX7_begin 29 = .ok (.iinc 1 1, 3) := by decide +kernel
theorem dX7_begin_32 : decode cX7_begin 32 = .ok (.goto (-30), 3) := by decide +kernel
theorem dX7_begin_35 : decode cX7_begin 35 = .ok (.iconst 0, 1) := by decide +kernel
theorem dX7_begin_36 : decode cX7_begin 36 = .ok (.istore_n 1, 1) := by decide +kernel
theorem dX7_begin_37 : decode cX7_begin 37 = .ok (.iload_n 1, 1) := by decide +kernel
theorem dX7_begin_38 : decode cX7_begin 38 = .ok (.bipush 14, 2) := by decide +kernel
theorem dX7_begin_40 : decode cX7_begin 40 = .ok (.if_icmp .ge 16, 3) := by decide +kernel
theorem dX7_begin_43 : decode cX7_begin 43 = .ok (.aload_n 0, 1) := by decide +kernel
theorem dX7_begin_44 : decode cX7_begin 44 = .ok (.getfield 28, 3) := by decide +kernel
theorem dX7_begin_47 : decode cX7_begin 47 = .ok (.iload_n 1, 1) := by decide +kernel
theorem dX7_begin_48 : decode cX7_begin 48 = .ok (.iconst 1, 1) := by decide +kernel
theorem dX7_begin_49 : decode cX7_begin 49 = .ok (.bastore, 1) := by decide +kernel
theorem dX7_begin_50 : decode cX7_begin 50 = .ok (.iinc 1 1, 3) := by decide +kernel
theorem dX7_begin_53 : decode cX7_begin 53 = .ok (.goto (-16), 3) := by decide +kernel
theorem dX7_begin_56 : decode cX7_begin 56 = .ok (.aload_n 0, 1) := by decide +kernel
theorem dX7_begin_57 : decode cX7_begin 57 = .ok (.iconst 0, 1) := by decide +kernel
theorem dX7_begin_58 : decode cX7_begin 58 = .ok (.putfield 63, 3) := by decide +kernel
theorem dX7_begin_61 : decode cX7_begin 61 = .ok (.aload_n 0, 1) := by decide +kernel
theorem dX7_begin_62 : decode cX7_begin 62 = .ok (.iconst 0, 1) := by decide +kernel
theorem dX7_begin_63 : decode cX7_begin 63 = .ok (.putfield 66, 3) := by decide +kernel
theorem dX7_begin_66 : decode cX7_begin 66 = .ok (.aload_n 0, 1) := by decide +kernel
theorem dX7_begin_67 : decode cX7_begin 67 = .ok (.iconst 0, 1) := by decide +kernel
theorem dX7_begin_68 : decode cX7_begin 68 = .ok (.putfield 69, 3) := by decide +kernel
theorem dX7_begin_71 : decode cX7_begin 71 = .ok (.aload_n 0, 1) := by decide +kernel
theorem dX7_begin_72 : decode cX7_begin 72 = .ok (.iconst 0, 1) := by decide +kernel
theorem dX7_begin_73 : decode cX7_begin 73 = .ok (.putfield 72, 3) := by decide +kernel
theorem dX7_begin_76 : decode cX7_begin 76 = .ok (.aload_n 0, 1) := by decide +kernel
theorem dX7_begin_77 : decode cX7_begin 77 = .ok (.iconst 0, 1) := by decide +kernel
theorem dX7_begin_78 : decode cX7_begin 78 = .ok (.putfield 75, 3) := by decide +kernel
theorem dX7_begin_81 : decode cX7_begin 81 = .ok (.aload_n 0, 1) := by decide +kernel
theorem dX7_begin_82 : decode cX7_begin 82 = .ok (.iconst 0, 1) := by decide +kernel
theorem dX7_begin_83 : decode cX7_begin 83 = .ok (.putfield 78, 3) := by decide +kernel
theorem dX7_begin_86 : decode cX7_begin 86 = .ok (.return_, 1) := by decide +kernel
theorem dX7_init_0 : decode cX7_init 0 = .ok (.aload_n 0, 1) := by decide +kernel
theorem dX7_init_1 : decode cX7_init 1 = .ok (.invokespecial 1, 3) := by decide +kernel
theorem dX7_init_4 : decode cX7_init 4 = .ok (.aload_n 0, 1) := by decide +kernel
theorem dX7_init_5 : decode cX7_init 5 = .ok (.iconst 5, 1) := by decide +kernel
theorem dX7_init_6 : decode cX7_init 6 = .ok (.newarray .int, 2) := by decide +kernel
theorem dX7_init_8 : decode cX7_init 8 = .ok (.putfield 7, 3) := by decide +kernel
theorem dX7_init_11 : decode cX7_init 11 = .ok (.aload_n 0, 1) := by decide +kernel
theorem dX7_init_12 : decode cX7_init 12 = .ok (.bipush 120, 2) := by decide +kernel
theorem dX7_init_14 : decode cX7_init 14 = .ok (.newarray .int, 2) := by decide +kernel
theorem dX7_init_16 : decode cX7_init 16 = .ok (.putfield 13, 3) := by decide +kernel
theorem dX7_init_19 : decode cX7_init 19 = .ok (.aload_n 0, 1) := by decide +kernel
theorem dX7_init_20 : decode cX7_init 20 = .ok (.bipush 120, 2) := by decide +kernel
theorem dX7_init_22 : decode cX7_init 22 = .ok (.newarray .int, 2) := by decide +kernel
theorem dX7_init_24 : decode cX7_init 24 = .ok (.putfield 16, 3) := by decide +kernel
theorem dX7_init_27 : decode cX7_init 27 = .ok (.aload_n 0, 1) := by decide +kernel
theorem dX7_init_28 : decode cX7_init 28 = .ok (.bipush 120, 2) := by decide +kernel
theorem dX7_init_30 : decode cX7_init 30 = .ok (.newarray .int, 2) := by decide +kernel
theorem dX7_init_32 : decode cX7_init 32 = .ok (.putfield 19, 3) := by decide +kernel
theorem dX7_init_35 : decode cX7_init 35 = .ok (.aload_n 0, 1) := by decide +kernel
theorem dX7_init_36 : decode cX7_init 36 = .ok (.iconst 5, 1) := by decide +kernel
theorem dX7_init_37 : decode cX7_init 37 = .ok (.newarray .int, 2) := by decide +kernel
theorem dX7_init_39 : decode cX7_init 39 = .ok (.putfield 22, 3) := by decide +kernel
theorem dX7_init_42 : decode cX7_init 42 = .ok (.aload_n 0, 1) := by decide +kernel
theorem dX7_init_43 : decode cX7_init 43 = .ok (.iconst 5, 1) := by decide +kernel
theorem dX7_init_44 : decode cX7_init 44 = .ok (.newarray .int, 2) := by decide +kernel
theorem dX7_init_46 : decode cX7_init 46 = .ok (.putfield 25, 3) := by decide +kernel
theorem dX7_init_49 : decode cX7_init 49 = .ok (.aload_n 0, 1) := by decide +kernel
theorem dX7_init_50 : decode cX7_init 50 = .ok (.bipush 14, 2) := by decide +kernel
theorem dX7_init_52 : decode cX7_init 52 = .ok (.newarray .boolean, 2) := by decide +kernel
theorem dX7_init_54 : decode cX7_init 54 = .ok (.putfield 28, 3) := by decide +kernel
theorem dX7_init_57 : decode cX7_init 57 = .ok (.aload_n 0, 1) := by decide +kernel
theorem dX7_init_58 : decode cX7_init 58 = .ok (.iconst 4, 1) := by decide +kernel
theorem dX7_init_59 : decode cX7_init 59 = .ok (.newarray .int, 2) := by decide +kernel
theorem dX7_init_61 : decode cX7_init 61 = .ok (.putfield 32, 3) := by decide +kernel
theorem dX7_init_64 : decode cX7_init 64 = .ok (.aload_n 0, 1) := by decide +kernel
theorem dX7_init_65 : decode cX7_init 65 = .ok (.iconst 4, 1) := by decide +kernel
theorem dX7_init_66 : decode cX7_init 66 = .ok (.newarray .int, 2) := by decide +kernel
theorem dX7_init_68 : decode cX7_init 68 = .ok (.putfield 35, 3) := by decide +kernel
theorem dX7_init_71 : decode cX7_init 71 = .ok (.aload_n 0, 1) := by decide +kernel
theorem dX7_init_72 : decode cX7_init 72 = .ok (.bipush 20, 2) := by decide +kernel
theorem dX7_init_74 : decode cX7_init 74 = .ok (.newarray .int, 2) := by decide +kernel
theorem dX7_init_76 : decode cX7_init 76 = .ok (.putfield 38, 3) := by decide +kernel
theorem dX7_init_79 : decode cX7_init 79 = .ok (.aload_n 0, 1) := by decide +kernel
theorem dX7_init_80 : decode cX7_init 80 = .ok (.bipush 20, 2) := by decide +kernel
theorem dX7_init_82 : decode cX7_init 82 = .ok (.newarray .int, 2) := by decide +kernel
theorem dX7_init_84 : decode cX7_init 84 = .ok (.putfield 41, 3) := by decide +kernel
theorem dX7_init_87 : decode cX7_init 87 = .ok (.aload_n 0, 1) := by decide +kernel
theorem dX7_init_88 : decode cX7_init 88 = .ok (.bipush 120, 2) := by decide +kernel
theorem dX7_init_90 : decode cX7_init 90 = .ok (.newarray .int, 2) := by decide +kernel
theorem dX7_init_92 : decode cX7_init 92 = .ok (.putfield 44, 3) := by decide +kernel
theorem dX7_init_95 : decode cX7_init 95 = .ok (.aload_n 0, 1) := by decide +kernel
theorem dX7_init_96 : decode cX7_init 96 = .ok (.sipush 600, 3) := by decide +kernel
theorem dX7_init_99 : decode cX7_init 99 = .ok (.newarray .int, 2) := by decide +kernel
theorem dX7_init_101 : decode cX7_init 101 = .ok (.putfield 47, 3) := by decide +kernel
theorem dX7_init_104 : decode cX7_init 104 = .ok (.aload_n 0, 1) := by decide +kernel
theorem dX7_init_105 : decode cX7_init 105 = .ok (.sipush 12300, 3) := by decide +kernel
theorem dX7_init_108 : decode cX7_init 108 = .ok (.newarray .int, 2) := by decide +kernel
theorem dX7_init_110 : decode cX7_init 110 = .ok (.putfield 50, 3) := by decide +kernel
theorem dX7_init_113 : decode cX7_init 113 = .ok (.aload_n 0, 1) := by decide +kernel
theorem dX7_init_114 : decode cX7_init 114 = .ok (.bipush 120, 2) := by decide +kernel
theorem dX7_init_116 : decode cX7_init 116 = .ok (.newarray .int, 2) := by decide +kernel
theorem dX7_init_118 : decode cX7_init 118 = .ok (.putfield 53, 3) := by decide +kernel
theorem dX7_init_121 : decode cX7_init 121 = .ok (.aload_n 0, 1) := by decide +kernel
theorem dX7_init_122 : decode cX7_init 122 = .ok (.iload_n 1, 1) := by decide +kernel
theorem dX7_init_123 : decode cX7_init 123 = .ok (.iconst 2, 1) := by decide +kernel
theorem dX7_init_124 : decode cX7_init 124 = .ok (.if_icmp .ge 7, 3) := by decide +kernel
theorem dX7_init_127 : decode cX7_init 127 = .ok (.iconst 2, 1) := by decide +kernel
theorem dX7_init_128 : decode cX7_init 128 = .ok (.goto 13, 3) := by decide +kernel
theorem dX7_init_131 : decode cX7_init 131 = .ok (.iload_n 1, 1) := by decide +kernel
theorem dX7_init_132 : decode cX7_init 132 = .ok (.iconst 5, 1) := by decide +kernel
theorem dX7_init_133 : decode cX7_init 133 = .ok (.if_icmp .le 7, 3) := by decide +kernel
theorem dX7_init_136 : decode cX7_init 136 = .ok (.iconst 5, 1) := by decide +kernel
theorem dX7_init_137 : decode cX7_init 137 = .ok (.goto 4, 3) := by decide +kernel
theorem dX7_init_140 : decode cX7_init 140 = .ok (.iload_n 1, 1) := by decide +kernel
theorem dX7_init_141 : decode cX7_init 141 = .ok (.putfield 56, 3) := by decide +kernel
theorem dX7_init_144 : decode cX7_init 144 = .ok (.aload_n 0, 1) := by decide +kernel
theorem dX7_init_145 : decode cX7_init 145 = .ok (.invokevirtual 60, 3) := by decide +kernel
theorem dX7_init_148 : decode cX7_init 148 = .ok (.return_, 1) := by decide +kernel
theorem dX7_clear_0 : decode cX7_clear 0 = .ok (.iconst 0, 1) := by decide +kernel
theorem dX7_clear_1 : decode cX7_clear 1 = .ok (.istore_n 1, 1) := by decide +kernel
theorem dX7_clear_2 : decode cX7_clear 2 = .ok (.iconst 0, 1) := by decide +kernel
theorem dX7_clear_3 : decode cX7_clear 3 = .ok (.istore_n 2, 1) := by decide +kernel
theorem dX7_clear_4 : decode cX7_clear 4 = .ok (.iload_n 2, 1) := by decide +kernel
theorem dX7_clear_5 : decode cX7_clear 5 = .ok (.aload_n 0, 1) := by decide +kernel
theorem dX7_clear_6 : decode cX7_clear 6 = .ok (.getfield 56, 3) := by decide +kernel
theorem dX7_clear_9 : decode cX7_clear 9 = .ok (.if_icmp .ge 18, 3) := by decide +kernel
theorem dX7_clear_12 : decode cX7_clear 12 = .ok (.iload_n 1, 1) := by decide +kernel
theorem dX7_clear_13 : decode cX7_clear 13 = .ok (.aload_n 0, 1) := by decide +kernel
theorem dX7_clear_14 : decode cX7_clear 14 = .ok (.getfield 7, 3) := by decide +kernel
theorem dX7_clear_17 : decode cX7_clear 17 = .ok (.iload_n 2, 1) := by decide +kernel
theorem dX7_clear_18 : decode cX7_clear 18 = .ok (.iaload, 1) := by decide +kernel
theorem dX7_clear_19 : decode cX7_clear 19 = .ok (.iadd, 1) := by decide +kernel
theorem dX7_clear_20 : decode cX7_clear 20 = .ok (.istore_n 1, 1) := by decide +kernel
theorem dX7_clear_21 : decode cX7_clear 21 = .ok (.iinc 2 1, 3) := by decide +kernel
theorem dX7_clear_24 : decode cX7_clear 24 = .ok (.goto (-20), 3) := by decide +kernel
theorem dX7_clear_27 : decode cX7_clear 27 = .ok (.aload_n 0, 1) := by decide +kernel
theorem dX7_clear_28 : decode cX7_clear 28 = .ok (.invokevirtual 60, 3) := by decide +kernel
theorem dX7_clear_31 : decode cX7_clear 31 = .ok (.iload_n 1, 1) := by decide +kernel
theorem dX7_clear_32 : decode cX7_clear 32 = .ok (.ireturn, 1) := by decide +kernel
theorem dX7_isIn_0 : decode cX7_isIn 0 = .ok (.iload_n 0, 1) := by decide +kernel
theorem dX7_isIn_1 : decode cX7_isIn 1 = .ok (.iload_n 1, 1) := by decide +kernel
theorem dX7_isIn_2 : decode cX7_isIn 2 = .ok (.if_icmp .lt 12, 3) := by decide +kernel
theorem dX7_isIn_5 : decode cX7_isIn 5 = .ok (.iload_n 0, 1) := by decide +kernel
theorem dX7_isIn_6 : decode cX7_isIn 6 = .ok (.iload_n 2, 1) := by decide +kernel
theorem dX7_isIn_7 : decode cX7_isIn 7 = .ok (.if_icmp .gt 7, 3) := by decide +kernel
theorem dX7_isIn_10 : decode cX7_isIn 10 = .ok (.iconst 1, 1) := by decide +kernel
theorem dX7_isIn_11 : decode cX7_isIn 11 = .ok (.goto 4, 3) := by decide +kernel
theorem dX7_isIn_14 : decode cX7_isIn 14 = .ok (.iconst 0, 1) := by decide +kernel
theorem dX7_isIn_15 : decode cX7_isIn 15 = .ok (.ireturn, 1) := by decide +kernel
theorem dX7_isVoice_0 : decode cX7_isVoice 0 = .ok (.iload_n 1, 1) := by decide +kernel
theorem dX7_isVoice_1 : decode cX7_isVoice 1 = .ok (.iconst 0, 1) := by decide +kernel
theorem dX7_isVoice_2 : decode cX7_isVoice 2 = .ok (.aload_n 0, 1) := by decide +kernel
theorem dX7_isVoice_3 : decode cX7_isVoice 3 = .ok (.getfield 56, 3) := by decide +kernel
theorem dX7_isVoice_6 : decode cX7_isVoice 6 = .ok (.iconst 1, 1) := by decide +kernel
theorem dX7_isVoice_7 : decode cX7_isVoice 7 = .ok (.isub, 1) := by decide +kernel
theorem dX7_isVoice_8 : decode cX7_isVoice 8 = .ok (.invokestatic 81, 3) := by decide +kernel
theorem dX7_isVoice_11 : decode cX7_isVoice 11 = .ok (.ireturn, 1) := by decide +kernel
theorem dX7_add_0 : decode cX7_add 0 = .ok (.aload_n 0, 1) := by decide +kernel
theorem dX7_add_1 : decode cX7_add 1 = .ok (.getfield 7, 3) := by decide +kernel
theorem dX7_add_4 : decode cX7_add 4 = .ok (.iload_n 1, 1) := by decide +kernel
theorem dX7_add_5 : decode cX7_add 5 = .ok (.iaload, 1) := by decide +kernel
theorem dX7_add_6 : decode cX7_add 6 = .ok (.istore 5, 2) := by decide +kernel
theorem dX7_add_8 : decode cX7_add 8 = .ok (.iload 5, 2) := by decide +kernel
theorem dX7_add_10 : decode cX7_add 10 = .ok (.ifCond .le 24, 3) := by decide +kernel
theorem dX7_add_13 : decode cX7_add 13 = .ok (.aload_n 0, 1) := by decide +kernel
theorem dX7_add_14 : decode cX7_add 14 = .ok (.getfield 13, 3) := by decide +kernel
theorem dX7_add_17 : decode cX7_add 17 = .ok (.bipush 24, 2) := by decide +kernel
theorem dX7_add_19 : decode cX7_add 19 = .ok (.iload_n 1, 1) := by decide +kernel
theorem dX7_add_20 : decode cX7_add 20 = .ok (.imul, 1) := by decide +kernel
theorem dX7_add_21 : decode cX7_add 21 = .ok (.iload 5, 2) := by decide +kernel
theorem dX7_add_23 : decode cX7_add 23 = .ok (.iadd, 1) := by decide +kernel
theorem dX7_add_24 : decode cX7_add 24 = .ok (.iconst 1, 1) := by decide +kernel
theorem dX7_add_25 : decode cX7_add 25 = .ok (.isub, 1) := by decide +kernel
theorem dX7_add_26 : decode cX7_add 26 = .ok (.iaload, 1) := by decide +kernel
theorem dX7_add_27 : decode cX7_add 27 = .ok (.iload_n 2, 1) := by decide +kernel
theorem dX7_add_28 : decode cX7_add 28 = .ok (.if_icmp .lt 6, 3) := by decide +kernel
theorem dX7_add_31 : decode cX7_add 31 = .ok (.bipush (-4), 2) := by decide +kernel
theorem dX7_add_33 : decode cX7_add 33 = .ok (.ireturn, 1) := by decide +kernel
theorem dX7_add_34 : decode cX7_add 34 = .ok (.iload 5, 2) := by decide +kernel
theorem dX7_add_36 : decode cX7_add 36 = .ok (.bipush 24, 2) := by decide +kernel
theorem dX7_add_38 : decode cX7_add 38 = .ok (.if_icmp .ne 6, 3) := by decide +kernel
theorem dX7_add_41 : decode cX7_add 41 = .ok (.bipush (-3), 2) := by decide +kernel
theorem dX7_add_43 : decode cX7_add 43 = .ok (.ireturn, 1) := by decide +kernel
theorem dX7_add_44 : decode cX7_add 44 = .ok (.aload_n 0, 1) := by decide +kernel
theorem dX7_add_45 : decode cX7_add 45 = .ok (.getfield 13, 3) := by decide +kernel
theorem dX7_add_48 : decode cX7_add 48 = .ok (.bipush 24, 2) := by decide +kernel
theorem dX7_add_50 : decode cX7_add 50 = .ok (.iload_n 1, 1) := by decide +kernel
theorem dX7_add_51 : decode cX7_add 51 = .ok (.imul, 1) := by decide +kernel
theorem dX7_add_52 : decode cX7_add 52 = .ok (.iload 5, 2) := by decide +kernel
theorem dX7_add_54 : decode cX7_add 54 = .ok (.iadd, 1) := by decide +kernel
theorem dX7_add_55 : decode cX7_add 55 = .ok (.iload_n 2, 1) := by decide +kernel
theorem dX7_add_56 : decode cX7_add 56 = .ok (.iastore, 1) := by decide +kernel
theorem dX7_add_57 : decode cX7_add 57 = .ok (.aload_n 0, 1) := by decide +kernel
theorem dX7_add_58 : decode cX7_add 58 = .ok (.getfield 16, 3) := by decide +kernel
theorem dX7_add_61 : decode cX7_add 61 = .ok (.bipush 24, 2) := by decide +kernel
theorem dX7_add_63 : decode cX7_add 63 = .ok (.iload_n 1, 1) := by decide +kernel
theorem dX7_add_64 : decode cX7_add 64 = .ok (.imul, 1) := by decide +kernel
theorem dX7_add_65 : decode cX7_add 65 = .ok (.iload 5, 2) := by decide +kernel
theorem dX7_add_67 : decode cX7_add 67 = .ok (.iadd, 1) := by decide +kernel
theorem dX7_add_68 : decode cX7_add 68 = .ok (.iload_n 3, 1) := by decide +kernel
theorem dX7_add_69 : decode cX7_add 69 = .ok (.iastore, 1) := by decide +kernel
theorem dX7_add_70 : decode cX7_add 70 = .ok (.aload_n 0, 1) := by decide +kernel
theorem dX7_add_71 : decode cX7_add 71 = .ok (.getfield 19, 3) := by decide +kernel
theorem dX7_add_74 : decode cX7_add 74 = .ok (.bipush 24, 2) := by decide +kernel
theorem dX7_add_76 : decode cX7_add 76 = .ok (.iload_n 1, 1) := by decide +kernel
theorem dX7_add_77 : decode cX7_add 77 = .ok (.imul, 1) := by decide +kernel
theorem dX7_add_78 : decode cX7_add 78 = .ok (.iload 5, 2) := by decide +kernel
theorem dX7_add_80 : decode cX7_add 80 = .ok (.iadd, 1) := by decide +kernel
theorem dX7_add_81 : decode cX7_add 81 = .ok (.iload 4, 2) := by decide +kernel
theorem dX7_add_83 : decode cX7_add 83 = .ok (.iastore, 1) := by decide +kernel
theorem dX7_add_84 : decode cX7_add 84 = .ok (.aload_n 0, 1) := by decide +kernel
theorem dX7_add_85 : decode cX7_add 85 = .ok (.getfield 7, 3) := by decide +kernel
theorem dX7_add_88 : decode cX7_add 88 = .ok (.iload_n 1, 1) := by decide +kernel
theorem dX7_add_89 : decode cX7_add 89 = .ok (.dup2, 1) := by decide +kernel
theorem dX7_add_90 : decode cX7_add 90 = .ok (.iaload, 1) := by decide +kernel
theorem dX7_add_91 : decode cX7_add 91 = .ok (.iconst 1, 1) := by decide +kernel
theorem dX7_add_92 : decode cX7_add 92 = .ok (.iadd, 1) := by decide +kernel
theorem dX7_add_93 : decode cX7_add 93 = .ok (.iastore, 1) := by decide +kernel
theorem dX7_add_94 : decode cX7_add 94 = .ok (.iload 5, 2) := by decide +kernel
theorem dX7_add_96 : decode cX7_add 96 = .ok (.iconst 1, 1) := by decide +kernel
theorem dX7_add_97 : decode cX7_add 97 = .ok (.iadd, 1) := by decide +kernel
theorem dX7_add_98 : decode cX7_add 98 = .ok (.ireturn, 1) := by decide +kernel
theorem dX7_note_0 : decode cX7_note 0 = .ok (.aload_n 0, 1) := by decide +kernel
theorem dX7_note_1 : decode cX7_note 1 = .ok (.iload_n 1, 1) := by decide +kernel
theorem dX7_note_2 : decode cX7_note 2 = .ok (.invokevirtual 85, 3) := by decide +kernel
theorem dX7_note_5 : decode cX7_note 5 = .ok (.ifCond .eq 39, 3) := by decide +kernel
theorem dX7_note_8 : decode cX7_note 8 = .ok (.iload_n 2, 1) := by decide +kernel
theorem dX7_note_9 : decode cX7_note 9 = .ok (.iconst 0, 1) := by decide +kernel
theorem dX7_note_10 : decode cX7_note 10 = .ok (.sipush 999, 3) := by decide +kernel
theorem dX7_note_13 : decode cX7_note 13 = .ok (.invokestatic 81, 3) := by decide +kernel
theorem dX7_note_16 : decode cX7_note 16 = .ok (.ifCond .eq 28, 3) := by decide +kernel
theorem dX7_note_19 : decode cX7_note 19 = .ok (.iload_n 3, 1) := by decide +kernel
theorem dX7_note_20 : decode cX7_note 20 = .ok (.iconst 0, 1) := by decide +kernel
theorem dX7_note_21 : decode cX7_note 21 = .ok (.bipush 55, 2) := by decide +kernel
theorem dX7_note_23 : decode cX7_note 23 = .ok (.invokestatic 81, 3) := by decide +kernel
theorem dX7_note_26 : decode cX7_note 26 = .ok (.ifCond .eq 18, 3) := by decide +kernel
theorem dX7_note_29 : decode cX7_note 29 = .ok (.iload 4, 2) := by decide +kernel
theorem dX7_note_31 : decode cX7_note 31 = .ok (.bipush (-2), 2) := by decide +kernel
theorem dX7_note_33 : decode cX7_note 33 = .ok (.iconst 2, 1) := by decide +kernel
theorem dX7_note_34 : decode cX7_note 34 = .ok (.invokestatic 81, 3) := by decide +kernel
theorem dX7_note_37 : decode cX7_note 37 = .ok (.ifCond .eq 7, 3) := by decide +kernel
theorem dX7_note_40 : decode cX7_note 40 = .ok (.iconst 1, 1) := by decide +kernel
theorem dX7_note_41 : decode cX7_note 41 = .ok (.goto 4, 3) := by decide +kernel
theorem dX7_note_44 : decode cX7_note 44 = .ok (.iconst 0, 1) := by decide +kernel
theorem dX7_note_45 : decode cX7_note 45 = .ok (.istore 5, 2) := by decide +kernel
theorem dX7_note_47 : decode cX7_note 47 = .ok (.iload 5, 2) := by decide +kernel
theorem dX7_note_49 : decode cX7_note 49 = .ok (.ifCond .eq 15, 3) := by decide +kernel
theorem dX7_note_52 : decode cX7_note 52 = .ok (.aload_n 0, 1) := by decide +kernel
theorem dX7_note_53 : decode cX7_note 53 = .ok (.iload_n 1, 1) := by decide +kernel
theorem dX7_note_54 : decode cX7_note 54 = .ok (.iload_n 2, 1) := by decide +kernel
theorem dX7_note_55 : decode cX7_note 55 = .ok (.iload_n 3, 1) := by decide +kernel
theorem dX7_note_56 : decode cX7_note 56 = .ok (.iload 4, 2) := by decide +kernel
theorem dX7_note_58 : decode cX7_note 58 = .ok (.invokevirtual 89, 3) := by decide +kernel
theorem dX7_note_61 : decode cX7_note 61 = .ok (.goto 5, 3) := by decide +kernel
theorem dX7_note_64 : decode cX7_note 64 = .ok (.bipush (-2), 2) := by decide +kernel
theorem dX7_note_66 : decode cX7_note 66 = .ok (.ireturn, 1) := by decide +kernel
theorem dX7_rest_0 : decode cX7_rest 0 = .ok (.aload_n 0, 1) := by decide +kernel
theorem dX7_rest_1 : decode cX7_rest 1 = .ok (.iload_n 1, 1) := by decide +kernel
theorem dX7_rest_2 : decode cX7_rest 2 = .ok (.invokevirtual 85, 3) := by decide +kernel
theorem dX7_rest_5 : decode cX7_rest 5 = .ok (.ifCond .eq 25, 3) := by decide +kernel
theorem dX7_rest_8 : decode cX7_rest 8 = .ok (.iload_n 2, 1) := by decide +kernel
theorem dX7_rest_9 : decode cX7_rest 9 = .ok (.iconst 0, 1) := by decide +kernel
theorem dX7_rest_10 : decode cX7_rest 10 = .ok (.sipush 999, 3) := by decide +kernel
theorem dX7_rest_13 : decode cX7_rest 13 = .ok (.invokestatic 81, 3) := by decide +kernel
theorem dX7_rest_16 : decode cX7_rest 16 = .ok (.ifCond .eq 14, 3) := by decide +kernel
theorem dX7_rest_19 : decode cX7_rest 19 = .ok (.aload_n 0, 1) := by decide +kernel
theorem dX7_rest_20 : decode cX7_rest 20 = .ok (.iload_n 1, 1) := by decide +kernel
theorem dX7_rest_21 : decode cX7_rest 21 = .ok (.iload_n 2, 1) := by decide +kernel
theorem dX7_rest_22 : decode cX7_rest 22 = .ok (.iconst (-1), 1) := by decide +kernel
theorem dX7_rest_23 : decode cX7_rest 23 = .ok (.iconst 0, 1) := by decide +kernel
theorem dX7_rest_24 : decode cX7_rest 24 = .ok (.invokevirtual 89, 3) := by decide +kernel
theorem dX7_rest_27 : decode cX7_rest 27 = .ok (.goto 5, 3) := by decide +kernel
theorem dX7_rest_30 : decode cX7_rest 30 = .ok (.bipush (-2), 2) := by decide +kernel
theorem dX7_rest_32 : decode cX7_rest 32 = .ok (.ireturn, 1) := by decide +kernel
theorem dX7_take_0 : decode cX7_take 0 = .ok (.aload_n 0, 1) := by decide +kernel
theorem dX7_take_1 : decode cX7_take 1 = .ok (.iload_n 1, 1) := by decide +kernel
theorem dX7_take_2 : decode cX7_take 2 = .ok (.invokevirtual 85, 3) := by decide +kernel
theorem dX7_take_5 : decode cX7_take 5 = .ok (.ifCond .ne 6, 3) := by decide +kernel
theorem dX7_take_8 : decode cX7_take 8 = .ok (.bipush (-2), 2) := by decide +kernel
theorem dX7_take_10 : decode cX7_take 10 = .ok (.ireturn, 1) := by decide +kernel
theorem dX7_take_11 : decode cX7_take 11 = .ok (.aload_n 0, 1) := by decide +kernel
theorem dX7_take_12 : decode cX7_take 12 = .ok (.getfield 7, 3) := by decide +kernel
theorem dX7_take_15 : decode cX7_take 15 = .ok (.iload_n 1, 1) := by decide +kernel
theorem dX7_take_16 : decode cX7_take 16 = .ok (.iaload, 1) := by decide +kernel
theorem dX7_take_17 : decode cX7_take 17 = .ok (.ifCond .ne 5, 3) := by decide +kernel
theorem dX7_take_20 : decode cX7_take 20 = .ok (.iconst (-1), 1) := by decide +kernel
theorem dX7_take_21 : decode cX7_take 21 = .ok (.ireturn, 1) := by decide +kernel
theorem dX7_take_22 : decode cX7_take 22 = .ok (.aload_n 0, 1) := by decide +kernel
theorem dX7_take_23 : decode cX7_take 23 = .ok (.getfield 7, 3) := by decide +kernel
theorem dX7_take_26 : decode cX7_take 26 = .ok (.iload_n 1, 1) := by decide +kernel
theorem dX7_take_27 : decode cX7_take 27 = .ok (.dup2, 1) := by decide +kernel
theorem dX7_take_28 : decode cX7_take 28 = .ok (.iaload, 1) := by decide +kernel
theorem dX7_take_29 : decode cX7_take 29 = .ok (.iconst 1, 1) := by decide +kernel
theorem dX7_take_30 : decode cX7_take 30 = .ok (.isub, 1) := by decide +kernel
theorem dX7_take_31 : decode cX7_take 31 = .ok (.iastore, 1) := by decide +kernel
theorem dX7_take_32 : decode cX7_take 32 = .ok (.aload_n 0, 1) := by decide +kernel
theorem dX7_take_33 : decode cX7_take 33 = .ok (.getfield 7, 3) := by decide +kernel
theorem dX7_take_36 : decode cX7_take 36 = .ok (.iload_n 1, 1) := by decide +kernel
theorem dX7_take_37 : decode cX7_take 37 = .ok (.iaload, 1) := by decide +kernel
theorem dX7_take_38 : decode cX7_take 38 = .ok (.ireturn, 1) := by decide +kernel
theorem dX7_rule_0 : decode cX7_rule 0 = .ok (.iload_n 1, 1) := by decide +kernel
theorem dX7_rule_1 : decode cX7_rule 1 = .ok (.iconst 0, 1) := by decide +kernel
theorem dX7_rule_2 : decode cX7_rule 2 = .ok (.bipush 13, 2) := by decide +kernel
theorem dX7_rule_4 : decode cX7_rule 4 = .ok (.invokestatic 81, 3) := by decide +kernel
theorem dX7_rule_7 : decode cX7_rule 7 = .ok (.ifCond .eq 12, 3) := by decide +kernel
theorem dX7_rule_10 : decode cX7_rule 10 = .ok (.iload_n 2, 1) := by decide +kernel
theorem dX7_rule_11 : decode cX7_rule 11 = .ok (.iconst 0, 1) := by decide +kernel
theorem dX7_rule_12 : decode cX7_rule 12 = .ok (.iconst 1, 1) := by decide +kernel
theorem dX7_rule_13 : decode cX7_rule 13 = .ok (.invokestatic 81, 3) := by decide +kernel
theorem dX7_rule_16 : decode cX7_rule 16 = .ok (.ifCond .ne 6, 3) := by decide +kernel
theorem dX7_rule_19 : decode cX7_rule 19 = .ok (.bipush (-2), 2) := by decide +kernel
theorem dX7_rule_21 : decode cX7_rule 21 = .ok (.ireturn, 1) := by decide +kernel
theorem dX7_rule_22 : decode cX7_rule 22 = .ok (.aload_n 0, 1) := by decide +kernel
theorem dX7_rule_23 : decode cX7_rule 23 = .ok (.getfield 28, 3) := by decide +kernel
theorem dX7_rule_26 : decode cX7_rule 26 = .ok (.iload_n 1, 1) := by decide +kernel
theorem dX7_rule_27 : decode cX7_rule 27 = .ok (.baload, 1) := by decide +kernel
theorem dX7_rule_28 : decode cX7_rule 28 = .ok (.ifCond .eq 7, 3) := by decide +kernel
theorem dX7_rule_31 : decode cX7_rule 31 = .ok (.iconst 1, 1) := by decide +kernel
theorem dX7_rule_32 : decode cX7_rule 32 = .ok (.goto 4, 3) := by decide +kernel
theorem dX7_rule_35 : decode cX7_rule 35 = .ok (.iconst 0, 1) := by decide +kernel
theorem dX7_rule_36 : decode cX7_rule 36 = .ok (.istore_n 3, 1) := by decide +kernel
theorem dX7_rule_37 : decode cX7_rule 37 = .ok (.aload_n 0, 1) := by decide +kernel
theorem dX7_rule_38 : decode cX7_rule 38 = .ok (.getfield 28, 3) := by decide +kernel
theorem dX7_rule_41 : decode cX7_rule 41 = .ok (.iload_n 1, 1) := by decide +kernel
theorem dX7_rule_42 : decode cX7_rule 42 = .ok (.iload_n 2, 1) := by decide +kernel
theorem dX7_rule_43 : decode cX7_rule 43 = .ok (.iconst 1, 1) := by decide +kernel
theorem dX7_rule_44 : decode cX7_rule 44 = .ok (.if_icmp .ne 7, 3) := by decide +kernel
theorem dX7_rule_47 : decode cX7_rule 47 = .ok (.iconst 1, 1) := by decide +kernel
theorem dX7_rule_48 : decode cX7_rule 48 = .ok (.goto 4, 3) := by decide +kernel
theorem dX7_rule_51 : decode cX7_rule 51 = .ok (.iconst 0, 1) := by decide +kernel
theorem dX7_rule_52 : decode cX7_rule 52 = .ok (.bastore, 1) := by decide +kernel
theorem dX7_rule_53 : decode cX7_rule 53 = .ok (.iload_n 3, 1) := by decide +kernel
theorem dX7_rule_54 : decode cX7_rule 54 = .ok (.ireturn, 1) := by decide +kernel
theorem dX7_style_0 : decode cX7_style 0 = .ok (.iload_n 1, 1) := by decide +kernel
theorem dX7_style_1 : decode cX7_style 1 = .ok (.iconst 0, 1) := by decide +kernel
theorem dX7_style_2 : decode cX7_style 2 = .ok (.iconst 4, 1) := by decide +kernel
theorem dX7_style_3 : decode cX7_style 3 = .ok (.invokestatic 81, 3) := by decide +kernel
theorem dX7_style_6 : decode cX7_style 6 = .ok (.ifCond .ne 6, 3) := by decide +kernel
theorem dX7_style_9 : decode cX7_style 9 = .ok (.bipush (-2), 2) := by decide +kernel
theorem dX7_style_11 : decode cX7_style 11 = .ok (.ireturn, 1) := by decide +kernel
theorem dX7_style_12 : decode cX7_style 12 = .ok (.iconst 0, 1) := by decide +kernel
theorem dX7_style_13 : decode cX7_style 13 = .ok (.istore_n 2, 1) := by decide +kernel
theorem dX7_style_14 : decode cX7_style 14 = .ok (.iconst 0, 1) := by decide +kernel
theorem dX7_style_15 : decode cX7_style 15 = .ok (.istore_n 3, 1) := by decide +kernel
theorem dX7_style_16 : decode cX7_style 16 = .ok (.iload_n 3, 1) := by decide +kernel
theorem dX7_style_17 : decode cX7_style 17 = .ok (.bipush 14, 2) := by decide +kernel
theorem dX7_style_19 : decode cX7_style 19 = .ok (.if_icmp .ge 132, 3) := by decide +kernel
theorem dX7_style_22 : decode cX7_style 22 = .ok (.iload_n 3, 1) := by decide +kernel
theorem dX7_style_23 : decode cX7_style 23 = .ok (.ifCond .eq 25, 3) := by decide +kernel
theorem dX7_style_26 : decode cX7_style 26 = .ok (.iload_n 3, 1) := by decide +kernel
theorem dX7_style_27 : decode cX7_style 27 = .ok (.iconst 2, 1) := by decide +kernel
theorem dX7_style_28 : decode cX7_style 28 = .ok (.if_icmp .eq 20, 3) := by decide +kernel
theorem dX7_style_31 : decode cX7_style 31 = .ok (.iload_n 3, 1) := by decide +kernel
theorem dX7_style_32 : decode cX7_style 32 = .ok (.iconst 3, 1) := by decide +kernel
theorem dX7_style_33 : decode cX7_style 33 = .ok (.if_icmp .eq 15, 3) := by decide +kernel
theorem dX7_style_36 : decode cX7_style 36 = .ok (.iload_n 3, 1) := by decide +kernel
theorem dX7_style_37 : decode cX7_style 37 = .ok (.bipush 8, 2) := by decide +kernel
theorem dX7_style_39 : decode cX7_style 39 = .ok (.if_icmp .eq 9, 3) := by decide +kernel
theorem dX7_style_42 : decode cX7_style 42 = .ok (.iload_n 3, 1) := by decide +kernel
theorem dX7_style_43 : decode cX7_style 43 = .ok (.bipush 9, 2) := by decide +kernel
theorem dX7_style_45 : decode cX7_style 45 = .ok (.if_icmp .ne 7, 3) := by decide +kernel
theorem dX7_style_48 : decode cX7_style 48 = .ok (.iconst 1, 1) := by decide +kernel
theorem dX7_style_49 : decode cX7_style 49 = .ok (.goto 4, 3) := by decide +kernel
theorem dX7_style_52 : decode cX7_style 52 = .ok (.iconst 0, 1) := by decide +kernel
theorem dX7_style_53 : decode cX7_style 53 = .ok (.istore 4, 2) := by decide +kernel
theorem dX7_style_55 : decode cX7_style 55 = .ok (.iload_n 3, 1) := by decide +kernel
theorem dX7_style_56 : decode cX7_style 56 = .ok (.iconst 1, 1) := by decide +kernel
theorem dX7_style_57 : decode cX7_style 57 = .ok (.if_icmp .eq 24, 3) := by decide +kernel
theorem dX7_style_60 : decode cX7_style 60 = .ok (.iload_n 3, 1) := by decide +kernel
theorem dX7_style_61 : decode cX7_style 61 = .ok (.iconst 4, 1) := by decide +kernel
theorem dX7_style_62 : decode cX7_style 62 = .ok (.if_icmp .eq 19, 3) := by decide +kernel
theorem dX7_style_65 : decode cX7_style 65 = .ok (.iload_n 3, 1) := by decide +kernel
theorem dX7_style_66 : decode cX7_style 66 = .ok (.bipush 12, 2) := by decide +kernel
theorem dX7_style_68 : decode cX7_style 68 = .ok (.if_icmp .eq 13, 3) := by decide +kernel
theorem dX7_style_71 : decode cX7_style 71 = .ok (.iload_n 3, 1) := by decide +kernel
theorem dX7_style_72 : decode cX7_style 72 = .ok (.bipush 13, 2) := by decide +kernel
theorem dX7_style_74 : decode cX7_style 74 = .ok (.if_icmp .eq 7, 3) := by decide +kernel
theorem dX7_style_77 : decode cX7_style 77 = .ok (.iconst 1, 1) := by decide +kernel
theorem dX7_style_78 : decode cX7_style 78 = .ok (.goto 4, 3) := by decide +kernel
theorem dX7_style_81 : decode cX7_style 81 = .ok (.iconst 0, 1) := by decide +kernel
theorem dX7_style_82 : decode cX7_style 82 = .ok (.istore 5, 2) := by decide +kernel
theorem dX7_style_84 : decode cX7_style 84 = .ok (.aload_n 0, 1) := by decide +kernel
theorem dX7_style_85 : decode cX7_style 85 = .ok (.getfield 28, 3) := by decide +kernel
theorem dX7_style_88 : decode cX7_style 88 = .ok (.iload_n 3, 1) := by decide +kernel
theorem dX7_style_89 : decode cX7_style 89 = .ok (.iload_n 1, 1) := by decide +kernel
theorem dX7_style_90 : decode cX7_style 90 = .ok (.ifCond .eq 32, 3) := by decide +kernel
theorem dX7_style_93 : decode cX7_style 93 = .ok (.iload_n 1, 1) := by decide +kernel
theorem dX7_style_94 : decode cX7_style 94 = .ok (.iconst 1, 1) := by decide +kernel
theorem dX7_style_95 : decode cX7_style 95 = .ok (.if_icmp .ne 8, 3) := by decide +kernel
theorem dX7_style_98 : decode cX7_style 98 = .ok (.iload 5, 2) := by decide +kernel
theorem dX7_style_100 : decode cX7_style 100 = .ok (.ifCond .ne 22, 3) := by decide +kernel
theorem dX7_style_103 : decode cX7_style 103 = .ok (.iload_n 1, 1) := by decide +kernel
theorem dX7_style_104 : decode cX7_style 104 = .ok (.iconst 2, 1) := by decide +kernel
theorem dX7_style_105 : decode cX7_style 105 = .ok (.if_icmp .ne 8, 3) := by decide +kernel
theorem dX7_style_108 : decode cX7_style 108 = .ok (.iload 4, 2) := by decide +kernel
theorem dX7_style_110 : decode cX7_style 110 = .ok (.ifCond .ne 12, 3) := by decide +kernel
theorem dX7_style_113 : decode cX7_style 113 = .ok (.iload_n 1, 1) := by decide +kernel
theorem dX7_style_114 : decode cX7_style 114 = .ok (.iconst 3, 1) := by decide +kernel
theorem dX7_style_115 : decode cX7_style 115 = .ok (.if_icmp .ne 11, 3) := by decide +kernel
theorem dX7_style_118 : decode cX7_style 118 = .ok (.iload_n 3, 1) := by decide +kernel
theorem dX7_style_119 : decode cX7_style 119 = .ok (.ifCond .ne 7, 3) := by decide +kernel
theorem dX7_style_122 : decode cX7_style 122 = .ok (.iconst 1, 1) := by decide +kernel
theorem dX7_style_123 : decode cX7_style 123 = .ok (.goto 4, 3) := by decide +kernel
theorem dX7_style_126 : decode cX7_style 126 = .ok (.iconst 0, 1) := by decide +kernel
theorem dX7_style_127 : decode cX7_style 127 = .ok (.bastore, 1) := by decide +kernel
theorem dX7_style_128 : decode cX7_style 128 = .ok (.iload_n 2, 1) := by decide +kernel
theorem dX7_style_129 : decode cX7_style 129 = .ok (.aload_n 0, 1) := by decide +kernel
theorem dX7_style_130 : decode cX7_style 130 = .ok (.getfield 28, 3) := by decide +kernel
theorem dX7_style_133 : decode cX7_style 133 = .ok (.iload_n 3, 1) := by decide +kernel
theorem dX7_style_134 : decode cX7_style 134 = .ok (.baload, 1) := by decide +kernel
theorem dX7_style_135 : decode cX7_style 135 = .ok (.ifCond .eq 7, 3) := by decide +kernel
theorem dX7_style_138 : decode cX7_style 138 = .ok (.iconst 1, 1) := by decide +kernel
theorem dX7_style_139 : decode cX7_style 139 = .ok (.goto 4, 3) := by decide +kernel
theorem dX7_style_142 : decode cX7_style 142 = .ok (.iconst 0, 1) := by decide +kernel
theorem dX7_style_143 : decode cX7_style 143 = .ok (.iadd, 1) := by decide +kernel
theorem dX7_style_144 : decode cX7_style 144 = .ok (.istore_n 2, 1) := by decide +kernel
theorem dX7_style_145 : decode cX7_style 145 = .ok (.iinc 3 1, 3) := by decide +kernel
theorem dX7_style_148 : decode cX7_style 148 = .ok (.goto (-132), 3) := by decide +kernel
theorem dX7_style_151 : decode cX7_style 151 = .ok (.iload_n 2, 1) := by decide +kernel
theorem dX7_style_152 : decode cX7_style 152 = .ok (.ireturn, 1) := by decide +kernel
theorem dX7_key_0 : decode cX7_key 0 = .ok (.iload_n 1, 1) := by decide +kernel
theorem dX7_key_1 : decode cX7_key 1 = .ok (.bipush (-7), 2) := by decide +kernel
theorem dX7_key_3 : decode cX7_key 3 = .ok (.bipush 7, 2) := by decide +kernel
theorem dX7_key_5 : decode cX7_key 5 = .ok (.invokestatic 81, 3) := by decide +kernel
theorem dX7_key_8 : decode cX7_key 8 = .ok (.ifCond .ne 6, 3) := by decide +kernel
theorem dX7_key_11 : decode cX7_key 11 = .ok (.bipush (-100), 2) := by decide +kernel
theorem dX7_key_13 : decode cX7_key 13 = .ok (.ireturn, 1) := by decide +kernel
theorem dX7_key_14 : decode cX7_key 14 = .ok (.aload_n 0, 1) := by decide +kernel
theorem dX7_key_15 : decode cX7_key 15 = .ok (.getfield 63, 3) := by decide +kernel
theorem dX7_key_18 : decode cX7_key 18 = .ok (.istore_n 2, 1) := by decide +kernel
theorem dX7_key_19 : decode cX7_key 19 = .ok (.aload_n 0, 1) := by decide +kernel
theorem dX7_key_20 : decode cX7_key 20 = .ok (.iload_n 1, 1) := by decide +kernel
theorem dX7_key_21 : decode cX7_key 21 = .ok (.putfield 63, 3) := by decide +kernel
theorem dX7_key_24 : decode cX7_key 24 = .ok (.iload_n 2, 1) := by decide +kernel
theorem dX7_key_25 : decode cX7_key 25 = .ok (.ireturn, 1) := by decide +kernel
theorem dX7_scale_0 : decode cX7_scale 0 = .ok (.iload_n 0, 1) := by decide +kernel
theorem dX7_scale_1 : decode cX7_scale 1 = .ok (.iconst 3, 1) := by decide +kernel
theorem dX7_scale_2 : decode cX7_scale 2 = .ok (.if_icmp .ge 9, 3) := by decide +kernel
theorem dX7_scale_5 : decode cX7_scale 5 = .ok (.iconst 2, 1) := by decide +kernel
theorem dX7_scale_6 : decode cX7_scale 6 = .ok (.iload_n 0, 1) := by decide +kernel
theorem dX7_scale_7 : decode cX7_scale 7 = .ok (.imul, 1) := by decide +kernel
theorem dX7_scale_8 : decode cX7_scale 8 = .ok (.goto 8, 3) := by decide +kernel
theorem dX7_scale_11 : decode cX7_scale 11 = .ok (.iconst 2, 1) := by decide +kernel
theorem dX7_scale_12 : decode cX7_scale 12 = .ok (.iload_n 0, 1) := by decide +kernel
theorem dX7_scale_13 : decode cX7_scale 13 = .ok (.imul, 1) := by decide +kernel
theorem dX7_scale_14 : decode cX7_scale 14 = .ok (.iconst 1, 1) := by decide +kernel
theorem dX7_scale_15 : decode cX7_scale 15 = .ok (.isub, 1) := by decide +kernel
theorem dX7_scale_16 : decode cX7_scale 16 = .ok (.ireturn, 1) := by decide +kernel
theorem dX7_heightOf_0 : decode cX7_heightOf 0 = .ok (.bipush 12, 2) := by decide +kernel
theorem dX7_heightOf_2 : decode cX7_heightOf 2 = .ok (.aload_n 0, 1) := by decide +kernel
theorem dX7_heightOf_3 : decode cX7_heightOf 3 = .ok (.getfield 16, 3) := by decide +kernel
theorem dX7_heightOf_6 : decode cX7_heightOf 6 = .ok (.iload_n 1, 1) := by decide +kernel
theorem dX7_heightOf_7 : decode cX7_heightOf 7 = .ok (.iaload, 1) := by decide +kernel
theorem dX7_heightOf_8 : decode cX7_heightOf 8 = .ok (.bipush 7, 2) := by decide +kernel
theorem dX7_heightOf_10 : decode cX7_heightOf 10 = .ok (.idiv, 1) := by decide +kernel
theorem dX7_heightOf_11 : decode cX7_heightOf 11 = .ok (.imul, 1) := by decide +kernel
theorem dX7_heightOf_12 : decode cX7_heightOf 12 = .ok (.aload_n 0, 1) := by decide +kernel
theorem dX7_heightOf_13 : decode cX7_heightOf 13 = .ok (.getfield 16, 3) := by decide +kernel
theorem dX7_heightOf_16 : decode cX7_heightOf 16 = .ok (.iload_n 1, 1) := by decide +kernel
theorem dX7_heightOf_17 : decode cX7_heightOf 17 = .ok (.iaload, 1) := by decide +kernel
theorem dX7_heightOf_18 : decode cX7_heightOf 18 = .ok (.bipush 7, 2) := by decide +kernel
theorem dX7_heightOf_20 : decode cX7_heightOf 20 = .ok (.irem, 1) := by decide +kernel
theorem dX7_heightOf_21 : decode cX7_heightOf 21 = .ok (.invokestatic 93, 3) := by decide +kernel
theorem dX7_heightOf_24 : decode cX7_heightOf 24 = .ok (.iadd, 1) := by decide +kernel
theorem dX7_heightOf_25 : decode cX7_heightOf 25 = .ok (.aload_n 0, 1) := by decide +kernel
theorem dX7_heightOf_26 : decode cX7_heightOf 26 = .ok (.getfield 19, 3) := by decide +kernel
theorem dX7_heightOf_29 : decode cX7_heightOf 29 = .ok (.iload_n 1, 1) := by decide +kernel
theorem dX7_heightOf_30 : decode cX7_heightOf 30 = .ok (.iaload, 1) := by decide +kernel
theorem dX7_heightOf_31 : decode cX7_heightOf 31 = .ok (.iadd, 1) := by decide +kernel
theorem dX7_heightOf_32 : decode cX7_heightOf 32 = .ok (.ireturn, 1) := by decide +kernel
theorem dX7_range_0 : decode cX7_range 0 = .ok (.aload_n 0, 1) := by decide +kernel
theorem dX7_range_1 : decode cX7_range 1 = .ok (.iload_n 1, 1) := by decide +kernel
theorem dX7_range_2 : decode cX7_range 2 = .ok (.invokevirtual 85, 3) := by decide +kernel
theorem dX7_range_5 : decode cX7_range 5 = .ok (.ifCond .eq 24, 3) := by decide +kernel
theorem dX7_range_8 : decode cX7_range 8 = .ok (.iload_n 2, 1) := by decide +kernel
theorem dX7_range_9 : decode cX7_range 9 = .ok (.bipush (-2), 2) := by decide +kernel
theorem dX7_range_11 : decode cX7_range 11 = .ok (.bipush 99, 2) := by decide +kernel
theorem dX7_range_13 : decode cX7_range 13 = .ok (.invokestatic 81, 3) := by decide +kernel
theorem dX7_range_16 : decode cX7_range 16 = .ok (.ifCond .eq 13, 3) := by decide +kernel
theorem dX7_range_19 : decode cX7_range 19 = .ok (.iload_n 3, 1) := by decide +kernel
theorem dX7_range_20 : decode cX7_range 20 = .ok (.iload_n 2, 1) := by decide +kernel
theorem dX7_range_21 : decode cX7_range 21 = .ok (.bipush 99, 2) := by decide +kernel
theorem dX7_range_23 : decode cX7_range 23 = .ok (.invokestatic 81, 3) := by decide +kernel
theorem dX7_range_26 : decode cX7_range 26 = .ok (.ifCond .ne 6, 3) := by decide +kernel
theorem dX7_range_29 : decode cX7_range 29 = .ok (.bipush (-2), 2) := by decide +kernel
theorem dX7_range_31 : decode cX7_range 31 = .ok (.ireturn, 1) := by decide +kernel
theorem dX7_range_32 : decode cX7_range 32 = .ok (.aload_n 0, 1) := by decide +kernel
theorem dX7_range_33 : decode cX7_range 33 = .ok (.getfield 22, 3) := by decide +kernel
theorem dX7_range_36 : decode cX7_range 36 = .ok (.iload_n 1, 1) := by decide +kernel
theorem dX7_range_37 : decode cX7_range 37 = .ok (.iload_n 2, 1) := by decide +kernel
theorem dX7_range_38 : decode cX7_range 38 = .ok (.iastore, 1) := by decide +kernel
theorem dX7_range_39 : decode cX7_range 39 = .ok (.aload_n 0, 1) := by decide +kernel
theorem dX7_range_40 : decode cX7_range 40 = .ok (.getfield 25, 3) := by decide +kernel
theorem dX7_range_43 : decode cX7_range 43 = .ok (.iload_n 1, 1) := by decide +kernel
theorem dX7_range_44 : decode cX7_range 44 = .ok (.iload_n 3, 1) := by decide +kernel
theorem dX7_range_45 : decode cX7_range 45 = .ok (.iastore, 1) := by decide +kernel
theorem dX7_range_46 : decode cX7_range 46 = .ok (.iconst 0, 1) := by decide +kernel
theorem dX7_range_47 : decode cX7_range 47 = .ok (.istore 4, 2) := by decide +kernel
theorem dX7_range_49 : decode cX7_range 49 = .ok (.iconst 0, 1) := by decide +kernel
theorem dX7_range_50 : decode cX7_range 50 = .ok (.istore 5, 2) := by decide +kernel
theorem dX7_range_52 : decode cX7_range 52 = .ok (.iload 5, 2) := by decide +kernel
theorem dX7_range_54 : decode cX7_range 54 = .ok (.aload_n 0, 1) := by decide +kernel
theorem dX7_range_55 : decode cX7_range 55 = .ok (.getfield 7, 3) := by decide +kernel
theorem dX7_range_58 : decode cX7_range 58 = .ok (.iload_n 1, 1) := by decide +kernel
theorem dX7_range_59 : decode cX7_range 59 = .ok (.iaload, 1) := by decide +kernel
theorem dX7_range_60 : decode cX7_range 60 = .ok (.if_icmp .ge 53, 3) := by decide +kernel
theorem dX7_range_63 : decode cX7_range 63 = .ok (.bipush 24, 2) := by decide +kernel
theorem dX7_range_65 : decode cX7_range 65 = .ok (.iload_n 1, 1) := by decide +kernel
theorem dX7_range_66 : decode cX7_range 66 = .ok (.imul, 1) := by decide +kernel
theorem dX7_range_67 : decode cX7_range 67 = .ok (.iload 5, 2) := by decide +kernel
theorem dX7_range_69 : decode cX7_range 69 = .ok (.iadd, 1) := by decide +kernel
theorem dX7_range_70 : decode cX7_range 70 = .ok (.istore 6, 2) := by decide +kernel
theorem dX7_range_72 : decode cX7_range 72 = .ok (.iload 4, 2) := by decide +kernel
theorem dX7_range_74 : decode cX7_range 74 = .ok (.aload_n 0, 1) := by decide +kernel
theorem dX7_range_75 : decode cX7_range 75 = .ok (.getfield 16, 3) := by decide +kernel
theorem dX7_range_78 : decode cX7_range 78 = .ok (.iload 6, 2) := by decide +kernel
theorem dX7_range_80 : decode cX7_range 80 = .ok (.iaload, 1) := by decide +kernel
theorem dX7_range_81 : decode cX7_range 81 = .ok (.iconst (-1), 1) := by decide +kernel
theorem dX7_range_82 : decode cX7_range 82 = .ok (.if_icmp .eq 21, 3) := by decide +kernel
theorem dX7_range_85 : decode cX7_range 85 = .ok (.aload_n 0, 1) := by decide +kernel
theorem dX7_range_86 : decode cX7_range 86 = .ok (.iload 6, 2) := by decide +kernel
theorem dX7_range_88 : decode cX7_range 88 = .ok (.invokevirtual 97, 3) := by decide +kernel
theorem dX7_range_91 : decode cX7_range 91 = .ok (.iload_n 2, 1) := by decide +kernel
theorem dX7_range_92 : decode cX7_range 92 = .ok (.iload_n 3, 1) := by decide +kernel
theorem dX7_range_93 : decode cX7_range 93 = .ok (.invokestatic 81, 3) := by decide +kernel
theorem dX7_range_96 : decode cX7_range 96 = .ok (.ifCond .ne 7, 3) := by decide +kernel
theorem dX7_range_99 : decode cX7_range 99 = .ok (.iconst 1, 1) := by decide +kernel
theorem dX7_range_100 : decode cX7_range 100 = .ok (.goto 4, 3) := by decide +kernel
theorem dX7_range_103 : decode cX7_range 103 = .ok (.iconst 0, 1) := by decide +kernel
theorem dX7_range_104 : decode cX7_range 104 = .ok (.iadd, 1) := by decide +kernel
theorem dX7_range_105 : decode cX7_range 105 = .ok (.istore 4, 2) := by decide +kernel
theorem dX7_range_107 : decode cX7_range 107 = .ok (.iinc 5 1, 3) := by decide +kernel
theorem dX7_range_110 : decode cX7_range 110 = .ok (.goto (-58), 3) := by decide +kernel
theorem dX7_range_113 : decode cX7_range 113 = .ok (.iload 4, 2) := by decide +kernel
theorem dX7_range_115 : decode cX7_range 115 = .ok (.ireturn, 1) := by decide +kernel
