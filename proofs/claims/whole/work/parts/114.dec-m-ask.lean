theorem dX7_fault_0 : decode cX7_fault 0 = .ok (.iload_n 1, 1) := by decide +kernel
theorem dX7_fault_1 : decode cX7_fault 1 = .ok (.iconst 0, 1) := by decide +kernel
theorem dX7_fault_2 : decode cX7_fault 2 = .ok (.aload_n 0, 1) := by decide +kernel
theorem dX7_fault_3 : decode cX7_fault 3 = .ok (.getfield 75, 3) := by decide +kernel
theorem dX7_fault_6 : decode cX7_fault 6 = .ok (.iconst 1, 1) := by decide +kernel
theorem dX7_fault_7 : decode cX7_fault 7 = .ok (.isub, 1) := by decide +kernel
theorem dX7_fault_8 : decode cX7_fault 8 = .ok (.invokestatic 81, 3) := by decide +kernel
theorem dX7_fault_11 : decode cX7_fault 11 = .ok (.ifCond .eq 12, 3) := by decide +kernel
theorem dX7_fault_14 : decode cX7_fault 14 = .ok (.iload_n 2, 1) := by decide +kernel
theorem dX7_fault_15 : decode cX7_fault 15 = .ok (.iconst 0, 1) := by decide +kernel
theorem dX7_fault_16 : decode cX7_fault 16 = .ok (.iconst 4, 1) := by decide +kernel
theorem dX7_fault_17 : decode cX7_fault 17 = .ok (.invokestatic 81, 3) := by decide +kernel
theorem dX7_fault_20 : decode cX7_fault 20 = .ok (.ifCond .ne 6, 3) := by decide +kernel
theorem dX7_fault_23 : decode cX7_fault 23 = .ok (.bipush (-2), 2) := by decide +kernel
theorem dX7_fault_25 : decode cX7_fault 25 = .ok (.ireturn, 1) := by decide +kernel
theorem dX7_fault_26 : decode cX7_fault 26 = .ok (.aload_n 0, 1) := by decide +kernel
theorem dX7_fault_27 : decode cX7_fault 27 = .ok (.getfield 50, 3) := by decide +kernel
theorem dX7_fault_30 : decode cX7_fault 30 = .ok (.iload_n 1, 1) := by decide +kernel
theorem dX7_fault_31 : decode cX7_fault 31 = .ok (.iaload, 1) := by decide +kernel
theorem dX7_fault_32 : decode cX7_fault 32 = .ok (.sipush 1000, 3) := by decide +kernel
theorem dX7_fault_35 : decode cX7_fault 35 = .ok (.idiv, 1) := by decide +kernel
theorem dX7_fault_36 : decode cX7_fault 36 = .ok (.istore_n 3, 1) := by decide +kernel
theorem dX7_fault_37 : decode cX7_fault 37 = .ok (.aload_n 0, 1) := by decide +kernel
theorem dX7_fault_38 : decode cX7_fault 38 = .ok (.getfield 50, 3) := by decide +kernel
theorem dX7_fault_41 : decode cX7_fault 41 = .ok (.iload_n 1, 1) := by decide +kernel
theorem dX7_fault_42 : decode cX7_fault 42 = .ok (.iaload, 1) := by decide +kernel
theorem dX7_fault_43 : decode cX7_fault 43 = .ok (.sipush 1000, 3) := by decide +kernel
theorem dX7_fault_46 : decode cX7_fault 46 = .ok (.irem, 1) := by decide +kernel
theorem dX7_fault_47 : decode cX7_fault 47 = .ok (.bipush 50, 2) := by decide +kernel
theorem dX7_fault_49 : decode cX7_fault 49 = .ok (.idiv, 1) := by decide +kernel
theorem dX7_fault_50 : decode cX7_fault 50 = .ok (.istore 4, 2) := by decide +kernel
theorem dX7_fault_52 : decode cX7_fault 52 = .ok (.aload_n 0, 1) := by decide +kernel
theorem dX7_fault_53 : decode cX7_fault 53 = .ok (.getfield 50, 3) := by decide +kernel
theorem dX7_fault_56 : decode cX7_fault 56 = .ok (.iload_n 1, 1) := by decide +kernel
theorem dX7_fault_57 : decode cX7_fault 57 = .ok (.iaload, 1) := by decide +kernel
theorem dX7_fault_58 : decode cX7_fault 58 = .ok (.bipush 50, 2) := by decide +kernel
theorem dX7_fault_60 : decode cX7_fault 60 = .ok (.irem, 1) := by decide +kernel
theorem dX7_fault_61 : decode cX7_fault 61 = .ok (.istore 5, 2) := by decide +kernel
theorem dX7_fault_63 : decode cX7_fault 63 = .ok (.iload_n 2, 1) := by decide +kernel
theorem dX7_fault_64 : decode cX7_fault 64 = .ok (.tableswitch 56 0 3 #[32, 35, 42, 48], 32) := by decide +kernel
theorem dX7_fault_96 : decode cX7_fault 96 = .ok (.iload 4, 2) := by decide +kernel
theorem dX7_fault_98 : decode cX7_fault 98 = .ok (.ireturn, 1) := by decide +kernel
theorem dX7_fault_99 : decode cX7_fault 99 = .ok (.aload_n 0, 1) := by decide +kernel
theorem dX7_fault_100 : decode cX7_fault 100 = .ok (.getfield 53, 3) := by decide +kernel
theorem dX7_fault_103 : decode cX7_fault 103 = .ok (.iload_n 3, 1) := by decide +kernel
theorem dX7_fault_104 : decode cX7_fault 104 = .ok (.iaload, 1) := by decide +kernel
theorem dX7_fault_105 : decode cX7_fault 105 = .ok (.ireturn, 1) := by decide +kernel
theorem dX7_fault_106 : decode cX7_fault 106 = .ok (.iload 5, 2) := by decide +kernel
theorem dX7_fault_108 : decode cX7_fault 108 = .ok (.bipush 7, 2) := by decide +kernel
theorem dX7_fault_110 : decode cX7_fault 110 = .ok (.idiv, 1) := by decide +kernel
theorem dX7_fault_111 : decode cX7_fault 111 = .ok (.ireturn, 1) := by decide +kernel
theorem dX7_fault_112 : decode cX7_fault 112 = .ok (.iload 5, 2) := by decide +kernel
theorem dX7_fault_114 : decode cX7_fault 114 = .ok (.bipush 7, 2) := by decide +kernel
theorem dX7_fault_116 : decode cX7_fault 116 = .ok (.irem, 1) := by decide +kernel
theorem dX7_fault_117 : decode cX7_fault 117 = .ok (.iconst 1, 1) := by decide +kernel
theorem dX7_fault_118 : decode cX7_fault 118 = .ok (.isub, 1) := by decide +kernel
theorem dX7_fault_119 : decode cX7_fault 119 = .ok (.ireturn, 1) := by decide +kernel
theorem dX7_fault_120 : decode cX7_fault 120 = .ok (.iload_n 3, 1) := by decide +kernel
theorem dX7_fault_121 : decode cX7_fault 121 = .ok (.ireturn, 1) := by decide +kernel
theorem dX7_count_0 : decode cX7_count 0 = .ok (.iload_n 1, 1) := by decide +kernel
theorem dX7_count_1 : decode cX7_count 1 = .ok (.iconst 0, 1) := by decide +kernel
theorem dX7_count_2 : decode cX7_count 2 = .ok (.bipush 15, 2) := by decide +kernel
theorem dX7_count_4 : decode cX7_count 4 = .ok (.invokestatic 81, 3) := by decide +kernel
theorem dX7_count_7 : decode cX7_count 7 = .ok (.ifCond .ne 6, 3) := by decide +kernel
theorem dX7_count_10 : decode cX7_count 10 = .ok (.bipush (-2), 2) := by decide +kernel
theorem dX7_count_12 : decode cX7_count 12 = .ok (.ireturn, 1) := by decide +kernel
theorem dX7_count_13 : decode cX7_count 13 = .ok (.iload_n 1, 1) := by decide +kernel
theorem dX7_count_14 : decode cX7_count 14 = .ok (.bipush 14, 2) := by decide +kernel
theorem dX7_count_16 : decode cX7_count 16 = .ok (.if_icmp .lt 21, 3) := by decide +kernel
theorem dX7_count_19 : decode cX7_count 19 = .ok (.iload_n 1, 1) := by decide +kernel
theorem dX7_count_20 : decode cX7_count 20 = .ok (.bipush 14, 2) := by decide +kernel
theorem dX7_count_22 : decode cX7_count 22 = .ok (.if_icmp .ne 10, 3) := by decide +kernel
theorem dX7_count_25 : decode cX7_count 25 = .ok (.aload_n 0, 1) := by decide +kernel
theorem dX7_count_26 : decode cX7_count 26 = .ok (.getfield 75, 3) := by decide +kernel
theorem dX7_count_29 : decode cX7_count 29 = .ok (.goto 7, 3) := by decide +kernel
theorem dX7_count_32 : decode cX7_count 32 = .ok (.aload_n 0, 1) := by decide +kernel
theorem dX7_count_33 : decode cX7_count 33 = .ok (.getfield 78, 3) := by decide +kernel
theorem dX7_count_36 : decode cX7_count 36 = .ok (.ireturn, 1) := by decide +kernel
theorem dX7_count_37 : decode cX7_count 37 = .ok (.iconst 0, 1) := by decide +kernel
theorem dX7_count_38 : decode cX7_count 38 = .ok (.istore_n 2, 1) := by decide +kernel
theorem dX7_count_39 : decode cX7_count 39 = .ok (.iconst 0, 1) := by decide +kernel
theorem dX7_count_40 : decode cX7_count 40 = .ok (.istore_n 3, 1) := by decide +kernel
theorem dX7_count_41 : decode cX7_count 41 = .ok (.iload_n 3, 1) := by decide +kernel
theorem dX7_count_42 : decode cX7_count 42 = .ok (.aload_n 0, 1) := by decide +kernel
theorem dX7_count_43 : decode cX7_count 43 = .ok (.getfield 75, 3) := by decide +kernel
theorem dX7_count_46 : decode cX7_count 46 = .ok (.if_icmp .ge 34, 3) := by decide +kernel
theorem dX7_count_49 : decode cX7_count 49 = .ok (.iload_n 2, 1) := by decide +kernel
theorem dX7_count_50 : decode cX7_count 50 = .ok (.aload_n 0, 1) := by decide +kernel
theorem dX7_count_51 : decode cX7_count 51 = .ok (.getfield 50, 3) := by decide +kernel
theorem dX7_count_54 : decode cX7_count 54 = .ok (.iload_n 3, 1) := by decide +kernel
theorem dX7_count_55 : decode cX7_count 55 = .ok (.iaload, 1) := by decide +kernel
theorem dX7_count_56 : decode cX7_count 56 = .ok (.sipush 1000, 3) := by decide +kernel
theorem dX7_count_59 : decode cX7_count 59 = .ok (.irem, 1) := by decide +kernel
theorem dX7_count_60 : decode cX7_count 60 = .ok (.bipush 50, 2) := by decide +kernel
theorem dX7_count_62 : decode cX7_count 62 = .ok (.idiv, 1) := by decide +kernel
theorem dX7_count_63 : decode cX7_count 63 = .ok (.iload_n 1, 1) := by decide +kernel
theorem dX7_count_64 : decode cX7_count 64 = .ok (.if_icmp .ne 7, 3) := by decide +kernel
theorem dX7_count_67 : decode cX7_count 67 = .ok (.iconst 1, 1) := by decide +kernel
theorem dX7_count_68 : decode cX7_count 68 = .ok (.goto 4, 3) := by decide +kernel
theorem dX7_count_71 : decode cX7_count 71 = .ok (.iconst 0, 1) := by decide +kernel
theorem dX7_count_72 : decode cX7_count 72 = .ok (.iadd, 1) := by decide +kernel
theorem dX7_count_73 : decode cX7_count 73 = .ok (.istore_n 2, 1) := by decide +kernel
theorem dX7_count_74 : decode cX7_count 74 = .ok (.iinc 3 1, 3) := by decide +kernel
theorem dX7_count_77 : decode cX7_count 77 = .ok (.goto (-36), 3) := by decide +kernel
theorem dX7_count_80 : decode cX7_count 80 = .ok (.iload_n 2, 1) := by decide +kernel
theorem dX7_count_81 : decode cX7_count 81 = .ok (.ireturn, 1) := by decide +kernel
theorem dX7_moments_0 : decode cX7_moments 0 = .ok (.aload_n 0, 1) := by decide +kernel
theorem dX7_moments_1 : decode cX7_moments 1 = .ok (.invokevirtual 103, 3) := by decide +kernel
theorem dX7_moments_4 : decode cX7_moments 4 = .ok (.aload_n 0, 1) := by decide +kernel
theorem dX7_moments_5 : decode cX7_moments 5 = .ok (.getfield 100, 3) := by decide +kernel
theorem dX7_moments_8 : decode cX7_moments 8 = .ok (.ireturn, 1) := by decide +kernel
theorem dX7_time_0 : decode cX7_time 0 = .ok (.aload_n 0, 1) := by decide +kernel
theorem dX7_time_1 : decode cX7_time 1 = .ok (.invokevirtual 103, 3) := by decide +kernel
theorem dX7_time_4 : decode cX7_time 4 = .ok (.iload_n 1, 1) := by decide +kernel
theorem dX7_time_5 : decode cX7_time 5 = .ok (.iconst 0, 1) := by decide +kernel
theorem dX7_time_6 : decode cX7_time 6 = .ok (.aload_n 0, 1) := by decide +kernel
theorem dX7_time_7 : decode cX7_time 7 = .ok (.getfield 100, 3) := by decide +kernel
theorem dX7_time_10 : decode cX7_time 10 = .ok (.iconst 1, 1) := by decide +kernel
theorem dX7_time_11 : decode cX7_time 11 = .ok (.isub, 1) := by decide +kernel
theorem dX7_time_12 : decode cX7_time 12 = .ok (.invokestatic 81, 3) := by decide +kernel
theorem dX7_time_15 : decode cX7_time 15 = .ok (.ifCond .eq 12, 3) := by decide +kernel
theorem dX7_time_18 : decode cX7_time 18 = .ok (.aload_n 0, 1) := by decide +kernel
theorem dX7_time_19 : decode cX7_time 19 = .ok (.getfield 44, 3) := by decide +kernel
theorem dX7_time_22 : decode cX7_time 22 = .ok (.iload_n 1, 1) := by decide +kernel
theorem dX7_time_23 : decode cX7_time 23 = .ok (.iaload, 1) := by decide +kernel
theorem dX7_time_24 : decode cX7_time 24 = .ok (.goto 5, 3) := by decide +kernel
theorem dX7_time_27 : decode cX7_time 27 = .ok (.bipush (-2), 2) := by decide +kernel
theorem dX7_time_29 : decode cX7_time 29 = .ok (.ireturn, 1) := by decide +kernel
theorem dX7_height_0 : decode cX7_height 0 = .ok (.aload_n 0, 1) := by decide +kernel
theorem dX7_height_1 : decode cX7_height 1 = .ok (.invokevirtual 103, 3) := by decide +kernel
theorem dX7_height_4 : decode cX7_height 4 = .ok (.aload_n 0, 1) := by decide +kernel
theorem dX7_height_5 : decode cX7_height 5 = .ok (.iload_n 1, 1) := by decide +kernel
theorem dX7_height_6 : decode cX7_height 6 = .ok (.invokevirtual 85, 3) := by decide +kernel
theorem dX7_height_9 : decode cX7_height 9 = .ok (.ifCond .eq 17, 3) := by decide +kernel
theorem dX7_height_12 : decode cX7_height 12 = .ok (.iload_n 2, 1) := by decide +kernel
theorem dX7_height_13 : decode cX7_height 13 = .ok (.iconst 0, 1) := by decide +kernel
theorem dX7_height_14 : decode cX7_height 14 = .ok (.aload_n 0, 1) := by decide +kernel
theorem dX7_height_15 : decode cX7_height 15 = .ok (.getfield 100, 3) := by decide +kernel
theorem dX7_height_18 : decode cX7_height 18 = .ok (.iconst 1, 1) := by decide +kernel
theorem dX7_height_19 : decode cX7_height 19 = .ok (.isub, 1) := by decide +kernel
theorem dX7_height_20 : decode cX7_height 20 = .ok (.invokestatic 81, 3) := by decide +kernel
theorem dX7_height_23 : decode cX7_height 23 = .ok (.ifCond .ne 6, 3) := by decide +kernel
theorem dX7_height_26 : decode cX7_height 26 = .ok (.bipush (-2), 2) := by decide +kernel
theorem dX7_height_28 : decode cX7_height 28 = .ok (.ireturn, 1) := by decide +kernel
theorem dX7_height_29 : decode cX7_height 29 = .ok (.aload_n 0, 1) := by decide +kernel
theorem dX7_height_30 : decode cX7_height 30 = .ok (.iload_n 1, 1) := by decide +kernel
theorem dX7_height_31 : decode cX7_height 31 = .ok (.iload_n 2, 1) := by decide +kernel
theorem dX7_height_32 : decode cX7_height 32 = .ok (.invokevirtual 110, 3) := by decide +kernel
theorem dX7_height_35 : decode cX7_height 35 = .ok (.iconst (-1), 1) := by decide +kernel
theorem dX7_height_36 : decode cX7_height 36 = .ok (.if_icmp .ne 8, 3) := by decide +kernel
theorem dX7_height_39 : decode cX7_height 39 = .ok (.bipush (-100), 2) := by decide +kernel
theorem dX7_height_41 : decode cX7_height 41 = .ok (.goto 13, 3) := by decide +kernel
theorem dX7_height_44 : decode cX7_height 44 = .ok (.aload_n 0, 1) := by decide +kernel
theorem dX7_height_45 : decode cX7_height 45 = .ok (.aload_n 0, 1) := by decide +kernel
theorem dX7_height_46 : decode cX7_height 46 = .ok (.iload_n 1, 1) := by decide +kernel
theorem dX7_height_47 : decode cX7_height 47 = .ok (.iload_n 2, 1) := by decide +kernel
theorem dX7_height_48 : decode cX7_height 48 = .ok (.invokevirtual 110, 3) := by decide +kernel
theorem dX7_height_51 : decode cX7_height 51 = .ok (.invokevirtual 97, 3) := by decide +kernel
theorem dX7_height_54 : decode cX7_height 54 = .ok (.ireturn, 1) := by decide +kernel
theorem dX7_interval_0 : decode cX7_interval 0 = .ok (.aload_n 0, 1) := by decide +kernel
theorem dX7_interval_1 : decode cX7_interval 1 = .ok (.invokevirtual 103, 3) := by decide +kernel
theorem dX7_interval_4 : decode cX7_interval 4 = .ok (.aload_n 0, 1) := by decide +kernel
theorem dX7_interval_5 : decode cX7_interval 5 = .ok (.iload_n 1, 1) := by decide +kernel
theorem dX7_interval_6 : decode cX7_interval 6 = .ok (.invokevirtual 85, 3) := by decide +kernel
theorem dX7_interval_9 : decode cX7_interval 9 = .ok (.ifCond .eq 30, 3) := by decide +kernel
theorem dX7_interval_12 : decode cX7_interval 12 = .ok (.aload_n 0, 1) := by decide +kernel
theorem dX7_interval_13 : decode cX7_interval 13 = .ok (.iload_n 2, 1) := by decide +kernel
theorem dX7_interval_14 : decode cX7_interval 14 = .ok (.invokevirtual 85, 3) := by decide +kernel
theorem dX7_interval_17 : decode cX7_interval 17 = .ok (.ifCond .eq 22, 3) := by decide +kernel
theorem dX7_interval_20 : decode cX7_interval 20 = .ok (.iload_n 1, 1) := by decide +kernel
theorem dX7_interval_21 : decode cX7_interval 21 = .ok (.iload_n 2, 1) := by decide +kernel
theorem dX7_interval_22 : decode cX7_interval 22 = .ok (.if_icmp .ge 17, 3) := by decide +kernel
theorem dX7_interval_25 : decode cX7_interval 25 = .ok (.iload_n 3, 1) := by decide +kernel
theorem dX7_interval_26 : decode cX7_interval 26 = .ok (.iconst 0, 1) := by decide +kernel
theorem dX7_interval_27 : decode cX7_interval 27 = .ok (.aload_n 0, 1) := by decide +kernel
theorem dX7_interval_28 : decode cX7_interval 28 = .ok (.getfield 100, 3) := by decide +kernel
theorem dX7_interval_31 : decode cX7_interval 31 = .ok (.iconst 1, 1) := by decide +kernel
theorem dX7_interval_32 : decode cX7_interval 32 = .ok (.isub, 1) := by decide +kernel
theorem dX7_interval_33 : decode cX7_interval 33 = .ok (.invokestatic 81, 3) := by decide +kernel
theorem dX7_interval_36 : decode cX7_interval 36 = .ok (.ifCond .ne 6, 3) := by decide +kernel
theorem dX7_interval_39 : decode cX7_interval 39 = .ok (.bipush (-2), 2) := by decide +kernel
theorem dX7_interval_41 : decode cX7_interval 41 = .ok (.ireturn, 1) := by decide +kernel
theorem dX7_interval_42 : decode cX7_interval 42 = .ok (.aload_n 0, 1) := by decide +kernel
theorem dX7_interval_43 : decode cX7_interval 43 = .ok (.iload_n 1, 1) := by decide +kernel
theorem dX7_interval_44 : decode cX7_interval 44 = .ok (.iload_n 2, 1) := by decide +kernel
theorem dX7_interval_45 : decode cX7_interval 45 = .ok (.iload_n 3, 1) := by decide +kernel
theorem dX7_interval_46 : decode cX7_interval 46 = .ok (.invokevirtual 134, 3) := by decide +kernel
theorem dX7_interval_49 : decode cX7_interval 49 = .ok (.ireturn, 1) := by decide +kernel
theorem dX7_event_0 : decode cX7_event 0 = .ok (.aload_n 0, 1) := by decide +kernel
theorem dX7_event_1 : decode cX7_event 1 = .ok (.iload_n 1, 1) := by decide +kernel
theorem dX7_event_2 : decode cX7_event 2 = .ok (.invokevirtual 85, 3) := by decide +kernel
theorem dX7_event_5 : decode cX7_event 5 = .ok (.ifCond .eq 28, 3) := by decide +kernel
theorem dX7_event_8 : decode cX7_event 8 = .ok (.iload_n 2, 1) := by decide +kernel
theorem dX7_event_9 : decode cX7_event 9 = .ok (.iconst 0, 1) := by decide +kernel
theorem dX7_event_10 : decode cX7_event 10 = .ok (.aload_n 0, 1) := by decide +kernel
theorem dX7_event_11 : decode cX7_event 11 = .ok (.getfield 7, 3) := by decide +kernel
theorem dX7_event_14 : decode cX7_event 14 = .ok (.iload_n 1, 1) := by decide +kernel
theorem dX7_event_15 : decode cX7_event 15 = .ok (.iaload, 1) := by decide +kernel
theorem dX7_event_16 : decode cX7_event 16 = .ok (.iconst 1, 1) := by decide +kernel
theorem dX7_event_17 : decode cX7_event 17 = .ok (.isub, 1) := by decide +kernel
theorem dX7_event_18 : decode cX7_event 18 = .ok (.invokestatic 81, 3) := by decide +kernel
theorem dX7_event_21 : decode cX7_event 21 = .ok (.ifCond .eq 12, 3) := by decide +kernel
theorem dX7_event_24 : decode cX7_event 24 = .ok (.iload_n 3, 1) := by decide +kernel
theorem dX7_event_25 : decode cX7_event 25 = .ok (.iconst 0, 1) := by decide +kernel
theorem dX7_event_26 : decode cX7_event 26 = .ok (.iconst 2, 1) := by decide +kernel
theorem dX7_event_27 : decode cX7_event 27 = .ok (.invokestatic 81, 3) := by decide +kernel
theorem dX7_event_30 : decode cX7_event 30 = .ok (.ifCond .ne 6, 3) := by decide +kernel
theorem dX7_event_33 : decode cX7_event 33 = .ok (.bipush (-2), 2) := by decide +kernel
theorem dX7_event_35 : decode cX7_event 35 = .ok (.ireturn, 1) := by decide +kernel
theorem dX7_event_36 : decode cX7_event 36 = .ok (.bipush 24, 2) := by decide +kernel
theorem dX7_event_38 : decode cX7_event 38 = .ok (.iload_n 1, 1) := by decide +kernel
theorem dX7_event_39 : decode cX7_event 39 = .ok (.imul, 1) := by decide +kernel
theorem dX7_event_40 : decode cX7_event 40 = .ok (.iload_n 2, 1) := by decide +kernel
theorem dX7_event_41 : decode cX7_event 41 = .ok (.iadd, 1) := by decide +kernel
theorem dX7_event_42 : decode cX7_event 42 = .ok (.istore 4, 2) := by decide +kernel
theorem dX7_event_44 : decode cX7_event 44 = .ok (.iload_n 3, 1) := by decide +kernel
theorem dX7_event_45 : decode cX7_event 45 = .ok (.ifCond .ne 13, 3) := by decide +kernel
theorem dX7_event_48 : decode cX7_event 48 = .ok (.aload_n 0, 1) := by decide +kernel
theorem dX7_event_49 : decode cX7_event 49 = .ok (.getfield 13, 3) := by decide +kernel
theorem dX7_event_52 : decode cX7_event 52 = .ok (.iload 4, 2) := by decide +kernel
theorem dX7_event_54 : decode cX7_event 54 = .ok (.iaload, 1) := by decide +kernel
theorem dX7_event_55 : decode cX7_event 55 = .ok (.goto 42, 3) := by decide +kernel
theorem dX7_event_58 : decode cX7_event 58 = .ok (.iload_n 3, 1) := by decide +kernel
theorem dX7_event_59 : decode cX7_event 59 = .ok (.iconst 1, 1) := by decide +kernel
theorem dX7_event_60 : decode cX7_event 60 = .ok (.if_icmp .ne 13, 3) := by decide +kernel
theorem dX7_event_63 : decode cX7_event 63 = .ok (.aload_n 0, 1) := by decide +kernel
theorem dX7_event_64 : decode cX7_event 64 = .ok (.getfield 16, 3) := by decide +kernel
theorem dX7_event_67 : decode cX7_event 67 = .ok (.iload 4, 2) := by decide +kernel
theorem dX7_event_69 : decode cX7_event 69 = .ok (.iaload, 1) := by decide +kernel
theorem dX7_event_70 : decode cX7_event 70 = .ok (.goto 27, 3) := by decide +kernel
theorem dX7_event_73 : decode cX7_event 73 = .ok (.aload_n 0, 1) := by decide +kernel
theorem dX7_event_74 : decode cX7_event 74 = .ok (.getfield 16, 3) := by decide +kernel
theorem dX7_event_77 : decode cX7_event 77 = .ok (.iload 4, 2) := by decide +kernel
theorem dX7_event_79 : decode cX7_event 79 = .ok (.iaload, 1) := by decide +kernel
theorem dX7_event_80 : decode cX7_event 80 = .ok (.iconst (-1), 1) := by decide +kernel
theorem dX7_event_81 : decode cX7_event 81 = .ok (.if_icmp .ne 7, 3) := by decide +kernel
theorem dX7_event_84 : decode cX7_event 84 = .ok (.iconst 0, 1) := by decide +kernel
theorem dX7_event_85 : decode cX7_event 85 = .ok (.goto 12, 3) := by decide +kernel
theorem dX7_event_88 : decode cX7_event 88 = .ok (.aload_n 0, 1) := by decide +kernel
theorem dX7_event_89 : decode cX7_event 89 = .ok (.getfield 19, 3) := by decide +kernel
theorem dX7_event_92 : decode cX7_event 92 = .ok (.iload 4, 2) := by decide +kernel
theorem dX7_event_94 : decode cX7_event 94 = .ok (.iaload, 1) := by decide +kernel
theorem dX7_event_95 : decode cX7_event 95 = .ok (.iconst 2, 1) := by decide +kernel
theorem dX7_event_96 : decode cX7_event 96 = .ok (.iadd, 1) := by decide +kernel
theorem dX7_event_97 : decode cX7_event 97 = .ok (.ireturn, 1) := by decide +kernel
