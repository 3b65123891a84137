/-! decode rows, as printed -/
theorem dX12_goMinute_113 : decode cX12_goMinute 113 = .ok (.goto 17, 3) := by decide +kernel
theorem dX12_goMinute_116 : decode cX12_goMinute 116 = .ok (.iload 4, 2) := by decide +kernel
theorem dX12_goMinute_118 : decode cX12_goMinute 118 = .ok (.bipush 99, 2) := by decide +kernel
theorem dX12_goMinute_120 : decode cX12_goMinute 120 = .ok (.if_icmp .le 8, 3) := by decide +kernel
theorem dX12_goMinute_123 : decode cX12_goMinute 123 = .ok (.bipush 99, 2) := by decide +kernel
theorem dX12_goMinute_125 : decode cX12_goMinute 125 = .ok (.goto 5, 3) := by decide +kernel
theorem dX12_goMinute_128 : decode cX12_goMinute 128 = .ok (.iload 4, 2) := by decide +kernel
theorem dX12_goMinute_130 : decode cX12_goMinute 130 = .ok (.i2l, 1) := by decide +kernel
theorem dX12_goMinute_131 : decode cX12_goMinute 131 = .ok (.aload_n 0, 1) := by decide +kernel
theorem dX12_goMinute_132 : decode cX12_goMinute 132 = .ok (.getfield 134, 3) := by decide +kernel
theorem dX12_goMinute_135 : decode cX12_goMinute 135 = .ok (.iload_n 3, 1) := by decide +kernel
theorem dX12_goMinute_136 : decode cX12_goMinute 136 = .ok (.iaload, 1) := by decide +kernel
theorem dX12_goMinute_137 : decode cX12_goMinute 137 = .ok (.i2l, 1) := by decide +kernel
theorem dX12_goMinute_138 : decode cX12_goMinute 138 = .ok (.lmul, 1) := by decide +kernel
theorem dX12_goMinute_139 : decode cX12_goMinute 139 = .ok (.ladd, 1) := by decide +kernel
theorem dX12_goMinute_140 : decode cX12_goMinute 140 = .ok (.putfield 173, 3) := by decide +kernel
theorem dX12_goMinute_143 : decode cX12_goMinute 143 = .ok (.iinc 3 1, 3) := by decide +kernel
theorem dX12_goMinute_146 : decode cX12_goMinute 146 = .ok (.goto (-58), 3) := by decide +kernel
theorem dX12_goMinute_149 : decode cX12_goMinute 149 = .ok (.return_, 1) := by decide +kernel
theorem dX12_go_0 : decode cX12_go 0 = .ok (.iconst 0, 1) := by decide +kernel
theorem dX12_go_1 : decode cX12_go 1 = .ok (.istore_n 3, 1) := by decide +kernel
theorem dX12_go_2 : decode cX12_go 2 = .ok (.iload_n 3, 1) := by decide +kernel
theorem dX12_go_3 : decode cX12_go 3 = .ok (.iconst 2, 1) := by decide +kernel
theorem dX12_go_4 : decode cX12_go 4 = .ok (.if_icmp .ge 23, 3) := by decide +kernel
theorem dX12_go_7 : decode cX12_go 7 = .ok (.aload_n 0, 1) := by decide +kernel
theorem dX12_go_8 : decode cX12_go 8 = .ok (.getfield 134, 3) := by decide +kernel
theorem dX12_go_11 : decode cX12_go 11 = .ok (.iload_n 3, 1) := by decide +kernel
theorem dX12_go_12 : decode cX12_go 12 = .ok (.iconst 0, 1) := by decide +kernel
theorem dX12_go_13 : decode cX12_go 13 = .ok (.iastore, 1) := by decide +kernel
theorem dX12_go_14 : decode cX12_go 14 = .ok (.aload_n 0, 1) := by decide +kernel
theorem dX12_go_15 : decode cX12_go 15 = .ok (.getfield 137, 3) := by decide +kernel
theorem dX12_go_18 : decode cX12_go 18 = .ok (.iload_n 3, 1) := by decide +kernel
theorem dX12_go_19 : decode cX12_go 19 = .ok (.iconst 0, 1) := by decide +kernel
theorem dX12_go_20 : decode cX12_go 20 = .ok (.iastore, 1) := by decide +kernel
theorem dX12_go_21 : decode cX12_go 21 = .ok (.iinc 3 1, 3) := by decide +kernel
theorem dX12_go_24 : decode cX12_go 24 = .ok (.goto (-22), 3) := by decide +kernel
theorem dX12_go_27 : decode cX12_go 27 = .ok (.iconst 0, 1) := by decide +kernel
theorem dX12_go_28 : decode cX12_go 28 = .ok (.istore_n 3, 1) := by decide +kernel
theorem dX12_go_29 : decode cX12_go 29 = .ok (.iload_n 3, 1) := by decide +kernel
theorem dX12_go_30 : decode cX12_go 30 = .ok (.aload_n 0, 1) := by decide +kernel
theorem dX12_go_31 : decode cX12_go 31 = .ok (.getfield 1, 3) := by decide +kernel
theorem dX12_go_34 : decode cX12_go 34 = .ok (.if_icmp .ge 28, 3) := by decide +kernel
theorem dX12_go_37 : decode cX12_go 37 = .ok (.aload_n 0, 1) := by decide +kernel
theorem dX12_go_38 : decode cX12_go 38 = .ok (.getfield 143, 3) := by decide +kernel
theorem dX12_go_41 : decode cX12_go 41 = .ok (.iload_n 3, 1) := by decide +kernel
theorem dX12_go_42 : decode cX12_go 42 = .ok (.aload_n 0, 1) := by decide +kernel
theorem dX12_go_43 : decode cX12_go 43 = .ok (.getfield 18, 3) := by decide +kernel
theorem dX12_go_46 : decode cX12_go 46 = .ok (.iload_n 3, 1) := by decide +kernel
theorem dX12_go_47 : decode cX12_go 47 = .ok (.iaload, 1) := by decide +kernel
theorem dX12_go_48 : decode cX12_go 48 = .ok (.iastore, 1) := by decide +kernel
theorem dX12_go_49 : decode cX12_go 49 = .ok (.aload_n 0, 1) := by decide +kernel
theorem dX12_go_50 : decode cX12_go 50 = .ok (.getfield 146, 3) := by decide +kernel
theorem dX12_go_53 : decode cX12_go 53 = .ok (.iload_n 3, 1) := by decide +kernel
theorem dX12_go_54 : decode cX12_go 54 = .ok (.iconst 0, 1) := by decide +kernel
theorem dX12_go_55 : decode cX12_go 55 = .ok (.iastore, 1) := by decide +kernel
theorem dX12_go_56 : decode cX12_go 56 = .ok (.iinc 3 1, 3) := by decide +kernel
theorem dX12_go_59 : decode cX12_go 59 = .ok (.goto (-30), 3) := by decide +kernel
theorem dX12_go_62 : decode cX12_go 62 = .ok (.aload_n 0, 1) := by decide +kernel
theorem dX12_go_63 : decode cX12_go 63 = .ok (.iconst 0, 1) := by decide +kernel
theorem dX12_go_64 : decode cX12_go 64 = .ok (.putfield 149, 3) := by decide +kernel
theorem dX12_go_67 : decode cX12_go 67 = .ok (.aload_n 0, 1) := by decide +kernel
theorem dX12_go_68 : decode cX12_go 68 = .ok (.iconst 0, 1) := by decide +kernel
theorem dX12_go_69 : decode cX12_go 69 = .ok (.putfield 152, 3) := by decide +kernel
theorem dX12_go_72 : decode cX12_go 72 = .ok (.aload_n 0, 1) := by decide +kernel
theorem dX12_go_73 : decode cX12_go 73 = .ok (.lconst 0, 1) := by decide +kernel
theorem dX12_go_74 : decode cX12_go 74 = .ok (.putfield 173, 3) := by decide +kernel
theorem dX12_go_77 : decode cX12_go 77 = .ok (.iconst 0, 1) := by decide +kernel
theorem dX12_go_78 : decode cX12_go 78 = .ok (.istore_n 3, 1) := by decide +kernel
theorem dX12_go_79 : decode cX12_go 79 = .ok (.iload_n 3, 1) := by decide +kernel
theorem dX12_go_80 : decode cX12_go 80 = .ok (.iload_n 1, 1) := by decide +kernel
theorem dX12_go_81 : decode cX12_go 81 = .ok (.if_icmp .ge 15, 3) := by decide +kernel
theorem dX12_go_84 : decode cX12_go 84 = .ok (.aload_n 0, 1) := by decide +kernel
theorem dX12_go_85 : decode cX12_go 85 = .ok (.iload_n 3, 1) := by decide +kernel
theorem dX12_go_86 : decode cX12_go 86 = .ok (.iload_n 2, 1) := by decide +kernel
theorem dX12_go_87 : decode cX12_go 87 = .ok (.invokevirtual 305, 3) := by decide +kernel
theorem dX12_go_90 : decode cX12_go 90 = .ok (.iinc 3 1, 3) := by decide +kernel
theorem dX12_go_93 : decode cX12_go 93 = .ok (.goto (-14), 3) := by decide +kernel
theorem dX12_go_96 : decode cX12_go 96 = .ok (.return_, 1) := by decide +kernel
theorem dX12_isDay_0 : decode cX12_isDay 0 = .ok (.aload_n 0, 1) := by decide +kernel
theorem dX12_isDay_1 : decode cX12_isDay 1 = .ok (.iload_n 1, 1) := by decide +kernel
theorem dX12_isDay_2 : decode cX12_isDay 2 = .ok (.iconst 1, 1) := by decide +kernel
theorem dX12_isDay_3 : decode cX12_isDay 3 = .ok (.bipush 60, 2) := by decide +kernel
theorem dX12_isDay_5 : decode cX12_isDay 5 = .ok (.invokevirtual 7, 3) := by decide +kernel
theorem dX12_isDay_8 : decode cX12_isDay 8 = .ok (.ifCond .eq 17, 3) := by decide +kernel
theorem dX12_isDay_11 : decode cX12_isDay 11 = .ok (.aload_n 0, 1) := by decide +kernel
theorem dX12_isDay_12 : decode cX12_isDay 12 = .ok (.iload_n 2, 1) := by decide +kernel
theorem dX12_isDay_13 : decode cX12_isDay 13 = .ok (.iconst (-1), 1) := by decide +kernel
theorem dX12_isDay_14 : decode cX12_isDay 14 = .ok (.iconst 4, 1) := by decide +kernel
theorem dX12_isDay_15 : decode cX12_isDay 15 = .ok (.invokevirtual 7, 3) := by decide +kernel
theorem dX12_isDay_18 : decode cX12_isDay 18 = .ok (.ifCond .eq 7, 3) := by decide +kernel
theorem dX12_isDay_21 : decode cX12_isDay 21 = .ok (.iconst 1, 1) := by decide +kernel
theorem dX12_isDay_22 : decode cX12_isDay 22 = .ok (.goto 4, 3) := by decide +kernel
theorem dX12_isDay_25 : decode cX12_isDay 25 = .ok (.iconst 0, 1) := by decide +kernel
theorem dX12_isDay_26 : decode cX12_isDay 26 = .ok (.ireturn, 1) := by decide +kernel
theorem dX12_lacks_0 : decode cX12_lacks 0 = .ok (.aload_n 0, 1) := by decide +kernel
theorem dX12_lacks_1 : decode cX12_lacks 1 = .ok (.iload_n 1, 1) := by decide +kernel
theorem dX12_lacks_2 : decode cX12_lacks 2 = .ok (.iconst 0, 1) := by decide +kernel
theorem dX12_lacks_3 : decode cX12_lacks 3 = .ok (.iconst 3, 1) := by decide +kernel
theorem dX12_lacks_4 : decode cX12_lacks 4 = .ok (.invokevirtual 7, 3) := by decide +kernel
theorem dX12_lacks_7 : decode cX12_lacks 7 = .ok (.ifCond .eq 16, 3) := by decide +kernel
theorem dX12_lacks_10 : decode cX12_lacks 10 = .ok (.aload_n 0, 1) := by decide +kernel
theorem dX12_lacks_11 : decode cX12_lacks 11 = .ok (.getfield 41, 3) := by decide +kernel
theorem dX12_lacks_14 : decode cX12_lacks 14 = .ok (.iload_n 1, 1) := by decide +kernel
theorem dX12_lacks_15 : decode cX12_lacks 15 = .ok (.iaload, 1) := by decide +kernel
theorem dX12_lacks_16 : decode cX12_lacks 16 = .ok (.ifCond .ge 7, 3) := by decide +kernel
theorem dX12_lacks_19 : decode cX12_lacks 19 = .ok (.iconst 1, 1) := by decide +kernel
theorem dX12_lacks_20 : decode cX12_lacks 20 = .ok (.goto 4, 3) := by decide +kernel
theorem dX12_lacks_23 : decode cX12_lacks 23 = .ok (.iconst 0, 1) := by decide +kernel
theorem dX12_lacks_24 : decode cX12_lacks 24 = .ok (.ireturn, 1) := by decide +kernel
theorem dX12_waited_0 : decode cX12_waited 0 = .ok (.aload_n 0, 1) := by decide +kernel
theorem dX12_waited_1 : decode cX12_waited 1 = .ok (.iload_n 1, 1) := by decide +kernel
theorem dX12_waited_2 : decode cX12_waited 2 = .ok (.iload_n 2, 1) := by decide +kernel
theorem dX12_waited_3 : decode cX12_waited 3 = .ok (.invokevirtual 308, 3) := by decide +kernel
theorem dX12_waited_6 : decode cX12_waited 6 = .ok (.ifCond .eq 11, 3) := by decide +kernel
theorem dX12_waited_9 : decode cX12_waited 9 = .ok (.aload_n 0, 1) := by decide +kernel
theorem dX12_waited_10 : decode cX12_waited 10 = .ok (.iload_n 2, 1) := by decide +kernel
theorem dX12_waited_11 : decode cX12_waited 11 = .ok (.invokevirtual 311, 3) := by decide +kernel
theorem dX12_waited_14 : decode cX12_waited 14 = .ok (.ifCond .eq 7, 3) := by decide +kernel
theorem dX12_waited_17 : decode cX12_waited 17 = .ok (.ldc2_w 314, 3) := by decide +kernel
theorem dX12_waited_20 : decode cX12_waited 20 = .ok (.lreturn, 1) := by decide +kernel
theorem dX12_waited_21 : decode cX12_waited 21 = .ok (.aload_n 0, 1) := by decide +kernel
theorem dX12_waited_22 : decode cX12_waited 22 = .ok (.iload_n 1, 1) := by decide +kernel
theorem dX12_waited_23 : decode cX12_waited 23 = .ok (.iload_n 2, 1) := by decide +kernel
theorem dX12_waited_24 : decode cX12_waited 24 = .ok (.invokevirtual 316, 3) := by decide +kernel
theorem dX12_waited_27 : decode cX12_waited 27 = .ok (.aload_n 0, 1) := by decide +kernel
theorem dX12_waited_28 : decode cX12_waited 28 = .ok (.getfield 173, 3) := by decide +kernel
theorem dX12_waited_31 : decode cX12_waited 31 = .ok (.lreturn, 1) := by decide +kernel
theorem dX12_day_0 : decode cX12_day 0 = .ok (.aload_n 0, 1) := by decide +kernel
theorem dX12_day_1 : decode cX12_day 1 = .ok (.iload_n 1, 1) := by decide +kernel
theorem dX12_day_2 : decode cX12_day 2 = .ok (.iload_n 2, 1) := by decide +kernel
theorem dX12_day_3 : decode cX12_day 3 = .ok (.invokevirtual 308, 3) := by decide +kernel
theorem dX12_day_6 : decode cX12_day 6 = .ok (.ifCond .eq 13, 3) := by decide +kernel
theorem dX12_day_9 : decode cX12_day 9 = .ok (.aload_n 0, 1) := by decide +kernel
theorem dX12_day_10 : decode cX12_day 10 = .ok (.iload_n 3, 1) := by decide +kernel
theorem dX12_day_11 : decode cX12_day 11 = .ok (.iconst 0, 1) := by decide +kernel
theorem dX12_day_12 : decode cX12_day 12 = .ok (.iconst 4, 1) := by decide +kernel
theorem dX12_day_13 : decode cX12_day 13 = .ok (.invokevirtual 7, 3) := by decide +kernel
theorem dX12_day_16 : decode cX12_day 16 = .ok (.ifCond .ne 6, 3) := by decide +kernel
theorem dX12_day_19 : decode cX12_day 19 = .ok (.bipush (-2), 2) := by decide +kernel
theorem dX12_day_21 : decode cX12_day 21 = .ok (.ireturn, 1) := by decide +kernel
theorem dX12_day_22 : decode cX12_day 22 = .ok (.aload_n 0, 1) := by decide +kernel
theorem dX12_day_23 : decode cX12_day 23 = .ok (.iload_n 2, 1) := by decide +kernel
theorem dX12_day_24 : decode cX12_day 24 = .ok (.invokevirtual 311, 3) := by decide +kernel
theorem dX12_day_27 : decode cX12_day 27 = .ok (.ifCond .eq 6, 3) := by decide +kernel
theorem dX12_day_30 : decode cX12_day 30 = .ok (.bipush (-11), 2) := by decide +kernel
theorem dX12_day_32 : decode cX12_day 32 = .ok (.ireturn, 1) := by decide +kernel
theorem dX12_day_33 : decode cX12_day 33 = .ok (.aload_n 0, 1) := by decide +kernel
theorem dX12_day_34 : decode cX12_day 34 = .ok (.iload_n 1, 1) := by decide +kernel
theorem dX12_day_35 : decode cX12_day 35 = .ok (.iload_n 2, 1) := by decide +kernel
theorem dX12_day_36 : decode cX12_day 36 = .ok (.invokevirtual 316, 3) := by decide +kernel
theorem dX12_day_39 : decode cX12_day 39 = .ok (.iconst 0, 1) := by decide +kernel
theorem dX12_day_40 : decode cX12_day 40 = .ok (.istore 4, 2) := by decide +kernel
theorem dX12_day_42 : decode cX12_day 42 = .ok (.iconst 0, 1) := by decide +kernel
theorem dX12_day_43 : decode cX12_day 43 = .ok (.istore 5, 2) := by decide +kernel
theorem dX12_day_45 : decode cX12_day 45 = .ok (.iload 5, 2) := by decide +kernel
theorem dX12_day_47 : decode cX12_day 47 = .ok (.aload_n 0, 1) := by decide +kernel
theorem dX12_day_48 : decode cX12_day 48 = .ok (.getfield 1, 3) := by decide +kernel
theorem dX12_day_51 : decode cX12_day 51 = .ok (.if_icmp .ge 33, 3) := by decide +kernel
theorem dX12_day_54 : decode cX12_day 54 = .ok (.iload 4, 2) := by decide +kernel
theorem dX12_day_56 : decode cX12_day 56 = .ok (.aload_n 0, 1) := by decide +kernel
theorem dX12_day_57 : decode cX12_day 57 = .ok (.getfield 143, 3) := by decide +kernel
theorem dX12_day_60 : decode cX12_day 60 = .ok (.iload 5, 2) := by decide +kernel
theorem dX12_day_62 : decode cX12_day 62 = .ok (.iaload, 1) := by decide +kernel
theorem dX12_day_63 : decode cX12_day 63 = .ok (.iconst 1, 1) := by decide +kernel
theorem dX12_day_64 : decode cX12_day 64 = .ok (.if_icmp .ne 10, 3) := by decide +kernel
theorem dX12_day_67 : decode cX12_day 67 = .ok (.iconst 1, 1) := by decide +kernel
theorem dX12_day_68 : decode cX12_day 68 = .ok (.iload 5, 2) := by decide +kernel
theorem dX12_day_70 : decode cX12_day 70 = .ok (.ishl, 1) := by decide +kernel
theorem dX12_day_71 : decode cX12_day 71 = .ok (.goto 4, 3) := by decide +kernel
theorem dX12_day_74 : decode cX12_day 74 = .ok (.iconst 0, 1) := by decide +kernel
theorem dX12_day_75 : decode cX12_day 75 = .ok (.ior, 1) := by decide +kernel
theorem dX12_day_76 : decode cX12_day 76 = .ok (.istore 4, 2) := by decide +kernel
theorem dX12_day_78 : decode cX12_day 78 = .ok (.iinc 5 1, 3) := by decide +kernel
theorem dX12_day_81 : decode cX12_day 81 = .ok (.goto (-36), 3) := by decide +kernel
theorem dX12_day_84 : decode cX12_day 84 = .ok (.iload_n 3, 1) := by decide +kernel
theorem dX12_day_85 : decode cX12_day 85 = .ok (.tableswitch 55 0 3 #[31, 38, 45, 50], 31) := by decide +kernel
theorem dX12_day_116 : decode cX12_day 116 = .ok (.aload_n 0, 1) := by decide +kernel
theorem dX12_day_117 : decode cX12_day 117 = .ok (.getfield 134, 3) := by decide +kernel
theorem dX12_day_120 : decode cX12_day 120 = .ok (.iconst 0, 1) := by decide +kernel
theorem dX12_day_121 : decode cX12_day 121 = .ok (.iaload, 1) := by decide +kernel
theorem dX12_day_122 : decode cX12_day 122 = .ok (.ireturn, 1) := by decide +kernel
theorem dX12_day_123 : decode cX12_day 123 = .ok (.aload_n 0, 1) := by decide +kernel
theorem dX12_day_124 : decode cX12_day 124 = .ok (.getfield 134, 3) := by decide +kernel
theorem dX12_day_127 : decode cX12_day 127 = .ok (.iconst 1, 1) := by decide +kernel
theorem dX12_day_128 : decode cX12_day 128 = .ok (.iaload, 1) := by decide +kernel
theorem dX12_day_129 : decode cX12_day 129 = .ok (.ireturn, 1) := by decide +kernel
theorem dX12_day_130 : decode cX12_day 130 = .ok (.aload_n 0, 1) := by decide +kernel
theorem dX12_day_131 : decode cX12_day 131 = .ok (.getfield 149, 3) := by decide +kernel
theorem dX12_day_134 : decode cX12_day 134 = .ok (.ireturn, 1) := by decide +kernel
theorem dX12_day_135 : decode cX12_day 135 = .ok (.aload_n 0, 1) := by decide +kernel
theorem dX12_day_136 : decode cX12_day 136 = .ok (.getfield 152, 3) := by decide +kernel
theorem dX12_day_139 : decode cX12_day 139 = .ok (.ireturn, 1) := by decide +kernel
theorem dX12_day_140 : decode cX12_day 140 = .ok (.iload 4, 2) := by decide +kernel
theorem dX12_day_142 : decode cX12_day 142 = .ok (.ireturn, 1) := by decide +kernel
theorem dX12_trial_0 : decode cX12_trial 0 = .ok (.aload_n 0, 1) := by decide +kernel
theorem dX12_trial_1 : decode cX12_trial 1 = .ok (.iload_n 2, 1) := by decide +kernel
theorem dX12_trial_2 : decode cX12_trial 2 = .ok (.putfield 164, 3) := by decide +kernel
theorem dX12_trial_5 : decode cX12_trial 5 = .ok (.aload_n 0, 1) := by decide +kernel
theorem dX12_trial_6 : decode cX12_trial 6 = .ok (.iload_n 3, 1) := by decide +kernel
theorem dX12_trial_7 : decode cX12_trial 7 = .ok (.putfield 167, 3) := by decide +kernel
theorem dX12_trial_10 : decode cX12_trial 10 = .ok (.aload_n 0, 1) := by decide +kernel
theorem dX12_trial_11 : decode cX12_trial 11 = .ok (.iload 4, 2) := by decide +kernel
theorem dX12_trial_13 : decode cX12_trial 13 = .ok (.putfield 170, 3) := by decide +kernel
theorem dX12_trial_16 : decode cX12_trial 16 = .ok (.aload_n 0, 1) := by decide +kernel
theorem dX12_trial_17 : decode cX12_trial 17 = .ok (.iload_n 1, 1) := by decide +kernel
theorem dX12_trial_18 : decode cX12_trial 18 = .ok (.iconst 5, 1) := by decide +kernel
theorem dX12_trial_19 : decode cX12_trial 19 = .ok (.invokevirtual 316, 3) := by decide +kernel
theorem dX12_trial_22 : decode cX12_trial 22 = .ok (.aload_n 0, 1) := by decide +kernel
theorem dX12_trial_23 : decode cX12_trial 23 = .ok (.getfield 173, 3) := by decide +kernel
theorem dX12_trial_26 : decode cX12_trial 26 = .ok (.lreturn, 1) := by decide +kernel
theorem dX12_best_0 : decode cX12_best 0 = .ok (.aload_n 0, 1) := by decide +kernel
theorem dX12_best_1 : decode cX12_best 1 = .ok (.iload_n 1, 1) := by decide +kernel
theorem dX12_best_2 : decode cX12_best 2 = .ok (.iconst 1, 1) := by decide +kernel
theorem dX12_best_3 : decode cX12_best 3 = .ok (.bipush 60, 2) := by decide +kernel
theorem dX12_best_5 : decode cX12_best 5 = .ok (.invokevirtual 7, 3) := by decide +kernel
theorem dX12_best_8 : decode cX12_best 8 = .ok (.ifCond .eq 13, 3) := by decide +kernel
theorem dX12_best_11 : decode cX12_best 11 = .ok (.aload_n 0, 1) := by decide +kernel
theorem dX12_best_12 : decode cX12_best 12 = .ok (.iload_n 2, 1) := by decide +kernel
theorem dX12_best_13 : decode cX12_best 13 = .ok (.iconst 0, 1) := by decide +kernel
theorem dX12_best_14 : decode cX12_best 14 = .ok (.iconst 2, 1) := by decide +kernel
theorem dX12_best_15 : decode cX12_best 15 = .ok (.invokevirtual 7, 3) := by decide +kernel
theorem dX12_best_18 : decode cX12_best 18 = .ok (.ifCond .ne 7, 3) := by decide +kernel
theorem dX12_best_21 : decode cX12_best 21 = .ok (.ldc2_w 314, 3) := by decide +kernel
theorem dX12_best_24 : decode cX12_best 24 = .ok (.lreturn, 1) := by decide +kernel
theorem dX12_best_25 : decode cX12_best 25 = .ok (.aload_n 0, 1) := by decide +kernel
theorem dX12_best_26 : decode cX12_best 26 = .ok (.iload_n 1, 1) := by decide +kernel
theorem dX12_best_27 : decode cX12_best 27 = .ok (.iconst (-1), 1) := by decide +kernel
theorem dX12_best_28 : decode cX12_best 28 = .ok (.invokevirtual 316, 3) := by decide +kernel
theorem dX12_best_31 : decode cX12_best 31 = .ok (.aload_n 0, 1) := by decide +kernel
theorem dX12_best_32 : decode cX12_best 32 = .ok (.getfield 173, 3) := by decide +kernel
theorem dX12_best_35 : decode cX12_best 35 = .ok (.lstore_n 3, 1) := by decide +kernel
theorem dX12_best_36 : decode cX12_best 36 = .ok (.iconst (-1), 1) := by decide +kernel
theorem dX12_best_37 : decode cX12_best 37 = .ok (.istore 5, 2) := by decide +kernel
theorem dX12_best_39 : decode cX12_best 39 = .ok (.iconst (-1), 1) := by decide +kernel
theorem dX12_best_40 : decode cX12_best 40 = .ok (.istore 6, 2) := by decide +kernel
theorem dX12_best_42 : decode cX12_best 42 = .ok (.iconst 0, 1) := by decide +kernel
theorem dX12_best_43 : decode cX12_best 43 = .ok (.istore 7, 2) := by decide +kernel
theorem dX12_best_45 : decode cX12_best 45 = .ok (.iload 7, 2) := by decide +kernel
theorem dX12_best_47 : decode cX12_best 47 = .ok (.iload_n 1, 1) := by decide +kernel
theorem dX12_best_48 : decode cX12_best 48 = .ok (.if_icmp .ge 74, 3) := by decide +kernel
theorem dX12_best_51 : decode cX12_best 51 = .ok (.iconst 0, 1) := by decide +kernel
theorem dX12_best_52 : decode cX12_best 52 = .ok (.istore 8, 2) := by decide +kernel
theorem dX12_best_54 : decode cX12_best 54 = .ok (.iload 8, 2) := by decide +kernel
theorem dX12_best_56 : decode cX12_best 56 = .ok (.aload_n 0, 1) := by decide +kernel
theorem dX12_best_57 : decode cX12_best 57 = .ok (.getfield 1, 3) := by decide +kernel
theorem dX12_best_60 : decode cX12_best 60 = .ok (.if_icmp .ge 56, 3) := by decide +kernel
theorem dX12_best_63 : decode cX12_best 63 = .ok (.aload_n 0, 1) := by decide +kernel
theorem dX12_best_64 : decode cX12_best 64 = .ok (.iload 8, 2) := by decide +kernel
theorem dX12_best_66 : decode cX12_best 66 = .ok (.iload 7, 2) := by decide +kernel
theorem dX12_best_68 : decode cX12_best 68 = .ok (.invokevirtual 69, 3) := by decide +kernel
theorem dX12_best_71 : decode cX12_best 71 = .ok (.ifCond .ne 6, 3) := by decide +kernel
theorem dX12_best_74 : decode cX12_best 74 = .ok (.goto 36, 3) := by decide +kernel
theorem dX12_best_77 : decode cX12_best 77 = .ok (.aload_n 0, 1) := by decide +kernel
theorem dX12_best_78 : decode cX12_best 78 = .ok (.iload_n 1, 1) := by decide +kernel
theorem dX12_best_79 : decode cX12_best 79 = .ok (.iload 8, 2) := by decide +kernel
theorem dX12_best_81 : decode cX12_best 81 = .ok (.iload 7, 2) := by decide +kernel
theorem dX12_best_83 : decode cX12_best 83 = .ok (.iconst (-1), 1) := by decide +kernel
theorem dX12_best_84 : decode cX12_best 84 = .ok (.invokevirtual 319, 3) := by decide +kernel
theorem dX12_best_87 : decode cX12_best 87 = .ok (.lstore 9, 2) := by decide +kernel
theorem dX12_best_89 : decode cX12_best 89 = .ok (.lload 9, 2) := by decide +kernel
theorem dX12_best_91 : decode cX12_best 91 = .ok (.lload_n 3, 1) := by decide +kernel
theorem dX12_best_92 : decode cX12_best 92 = .ok (.lcmp, 1) := by decide +kernel
theorem dX12_best_93 : decode cX12_best 93 = .ok (.ifCond .lt 6, 3) := by decide +kernel
theorem dX12_best_96 : decode cX12_best 96 = .ok (.goto 14, 3) := by decide +kernel
theorem dX12_best_99 : decode cX12_best 99 = .ok (.lload 9, 2) := by decide +kernel
theorem dX12_best_101 : decode cX12_best 101 = .ok (.lstore_n 3, 1) := by decide +kernel
theorem dX12_best_102 : decode cX12_best 102 = .ok (.iload 8, 2) := by decide +kernel
theorem dX12_best_104 : decode cX12_best 104 = .ok (.istore 5, 2) := by decide +kernel
theorem dX12_best_106 : decode cX12_best 106 = .ok (.iload 7, 2) := by decide +kernel
theorem dX12_best_108 : decode cX12_best 108 = .ok (.istore 6, 2) := by decide +kernel
theorem dX12_best_110 : decode cX12_best 110 = .ok (.iinc 8 1, 3) := by decide +kernel
theorem dX12_best_113 : decode cX12_best 113 = .ok (.goto (-59), 3) := by decide +kernel
theorem dX12_best_116 : decode cX12_best 116 = .ok (.iinc 7 1, 3) := by decide +kernel
theorem dX12_best_119 : decode cX12_best 119 = .ok (.goto (-74), 3) := by decide +kernel
theorem dX12_best_122 : decode cX12_best 122 = .ok (.iload_n 2, 1) := by decide +kernel
theorem dX12_best_123 : decode cX12_best 123 = .ok (.ifCond .ne 9, 3) := by decide +kernel
theorem dX12_best_126 : decode cX12_best 126 = .ok (.iload 5, 2) := by decide +kernel
theorem dX12_best_128 : decode cX12_best 128 = .ok (.i2l, 1) := by decide +kernel
theorem dX12_best_129 : decode cX12_best 129 = .ok (.goto 15, 3) := by decide +kernel
theorem dX12_best_132 : decode cX12_best 132 = .ok (.iload_n 2, 1) := by decide +kernel
theorem dX12_best_133 : decode cX12_best 133 = .ok (.iconst 1, 1) := by decide +kernel
theorem dX12_best_134 : decode cX12_best 134 = .ok (.if_icmp .ne 9, 3) := by decide +kernel
theorem dX12_best_137 : decode cX12_best 137 = .ok (.iload 6, 2) := by decide +kernel
theorem dX12_best_139 : decode cX12_best 139 = .ok (.i2l, 1) := by decide +kernel
theorem dX12_best_140 : decode cX12_best 140 = .ok (.goto 4, 3) := by decide +kernel
theorem dX12_best_143 : decode cX12_best 143 = .ok (.lload_n 3, 1) := by decide +kernel
theorem dX12_best_144 : decode cX12_best 144 = .ok (.lreturn, 1) := by decide +kernel
theorem dX12_two_0 : decode cX12_two 0 = .ok (.aload_n 0, 1) := by decide +kernel
theorem dX12_two_1 : decode cX12_two 1 = .ok (.iload_n 1, 1) := by decide +kernel
theorem dX12_two_2 : decode cX12_two 2 = .ok (.iconst 2, 1) := by decide +kernel
theorem dX12_two_3 : decode cX12_two 3 = .ok (.bipush 12, 2) := by decide +kernel
theorem dX12_two_5 : decode cX12_two 5 = .ok (.invokevirtual 7, 3) := by decide +kernel
theorem dX12_two_8 : decode cX12_two 8 = .ok (.ifCond .eq 13, 3) := by decide +kernel
theorem dX12_two_11 : decode cX12_two 11 = .ok (.aload_n 0, 1) := by decide +kernel
theorem dX12_two_12 : decode cX12_two 12 = .ok (.iload_n 2, 1) := by decide +kernel
theorem dX12_two_13 : decode cX12_two 13 = .ok (.iconst 0, 1) := by decide +kernel
theorem dX12_two_14 : decode cX12_two 14 = .ok (.iconst 3, 1) := by decide +kernel
theorem dX12_two_15 : decode cX12_two 15 = .ok (.invokevirtual 7, 3) := by decide +kernel
theorem dX12_two_18 : decode cX12_two 18 = .ok (.ifCond .ne 7, 3) := by decide +kernel
theorem dX12_two_21 : decode cX12_two 21 = .ok (.ldc2_w 314, 3) := by decide +kernel
theorem dX12_two_24 : decode cX12_two 24 = .ok (.lreturn, 1) := by decide +kernel
theorem dX12_two_25 : decode cX12_two 25 = .ok (.lconst 0, 1) := by decide +kernel
theorem dX12_two_26 : decode cX12_two 26 = .ok (.lstore_n 3, 1) := by decide +kernel
theorem dX12_two_27 : decode cX12_two 27 = .ok (.iconst (-1), 1) := by decide +kernel
theorem dX12_two_28 : decode cX12_two 28 = .ok (.istore 5, 2) := by decide +kernel
theorem dX12_two_30 : decode cX12_two 30 = .ok (.iconst (-1), 1) := by decide +kernel
theorem dX12_two_31 : decode cX12_two 31 = .ok (.istore 6, 2) := by decide +kernel
theorem dX12_two_33 : decode cX12_two 33 = .ok (.iconst (-1), 1) := by decide +kernel
theorem dX12_two_34 : decode cX12_two 34 = .ok (.istore 7, 2) := by decide +kernel
theorem dX12_two_36 : decode cX12_two 36 = .ok (.iconst 0, 1) := by decide +kernel
theorem dX12_two_37 : decode cX12_two 37 = .ok (.istore 8, 2) := by decide +kernel
theorem dX12_two_39 : decode cX12_two 39 = .ok (.iload 8, 2) := by decide +kernel
theorem dX12_two_41 : decode cX12_two 41 = .ok (.aload_n 0, 1) := by decide +kernel
theorem dX12_two_42 : decode cX12_two 42 = .ok (.getfield 1, 3) := by decide +kernel
theorem dX12_two_45 : decode cX12_two 45 = .ok (.if_icmp .ge 124, 3) := by decide +kernel
theorem dX12_two_48 : decode cX12_two 48 = .ok (.iconst 0, 1) := by decide +kernel
theorem dX12_two_49 : decode cX12_two 49 = .ok (.istore 9, 2) := by decide +kernel
theorem dX12_two_51 : decode cX12_two 51 = .ok (.iload 9, 2) := by decide +kernel
theorem dX12_two_53 : decode cX12_two 53 = .ok (.iload_n 1, 1) := by decide +kernel
theorem dX12_two_54 : decode cX12_two 54 = .ok (.if_icmp .ge 109, 3) := by decide +kernel
theorem dX12_two_57 : decode cX12_two 57 = .ok (.iload 9, 2) := by decide +kernel
theorem dX12_two_59 : decode cX12_two 59 = .ok (.iconst 1, 1) := by decide +kernel
theorem dX12_two_60 : decode cX12_two 60 = .ok (.iadd, 1) := by decide +kernel
theorem dX12_two_61 : decode cX12_two 61 = .ok (.istore 10, 2) := by decide +kernel
theorem dX12_two_63 : decode cX12_two 63 = .ok (.iload 10, 2) := by decide +kernel
theorem dX12_two_65 : decode cX12_two 65 = .ok (.iload_n 1, 1) := by decide +kernel
theorem dX12_two_66 : decode cX12_two 66 = .ok (.if_icmp .ge 91, 3) := by decide +kernel
theorem dX12_two_69 : decode cX12_two 69 = .ok (.aload_n 0, 1) := by decide +kernel
theorem dX12_two_70 : decode cX12_two 70 = .ok (.iload 8, 2) := by decide +kernel
theorem dX12_two_72 : decode cX12_two 72 = .ok (.iload 9, 2) := by decide +kernel
theorem dX12_two_74 : decode cX12_two 74 = .ok (.invokevirtual 69, 3) := by decide +kernel
theorem dX12_two_77 : decode cX12_two 77 = .ok (.ifCond .eq 74, 3) := by decide +kernel
theorem dX12_two_80 : decode cX12_two 80 = .ok (.aload_n 0, 1) := by decide +kernel
theorem dX12_two_81 : decode cX12_two 81 = .ok (.iload 8, 2) := by decide +kernel
theorem dX12_two_83 : decode cX12_two 83 = .ok (.iload 10, 2) := by decide +kernel
theorem dX12_two_85 : decode cX12_two 85 = .ok (.invokevirtual 69, 3) := by decide +kernel
theorem dX12_two_88 : decode cX12_two 88 = .ok (.ifCond .eq 63, 3) := by decide +kernel
theorem dX12_two_91 : decode cX12_two 91 = .ok (.iload 10, 2) := by decide +kernel
theorem dX12_two_93 : decode cX12_two 93 = .ok (.iload 9, 2) := by decide +kernel
theorem dX12_two_95 : decode cX12_two 95 = .ok (.isub, 1) := by decide +kernel
theorem dX12_two_96 : decode cX12_two 96 = .ok (.aload_n 0, 1) := by decide +kernel
theorem dX12_two_97 : decode cX12_two 97 = .ok (.iload 8, 2) := by decide +kernel
theorem dX12_two_99 : decode cX12_two 99 = .ok (.invokevirtual 65, 3) := by decide +kernel
theorem dX12_two_102 : decode cX12_two 102 = .ok (.if_icmp .ge 6, 3) := by decide +kernel
theorem dX12_two_105 : decode cX12_two 105 = .ok (.goto 46, 3) := by decide +kernel
theorem dX12_two_108 : decode cX12_two 108 = .ok (.aload_n 0, 1) := by decide +kernel
theorem dX12_two_109 : decode cX12_two 109 = .ok (.iload_n 1, 1) := by decide +kernel
theorem dX12_two_110 : decode cX12_two 110 = .ok (.iload 8, 2) := by decide +kernel
theorem dX12_two_112 : decode cX12_two 112 = .ok (.iload 9, 2) := by decide +kernel
theorem dX12_two_114 : decode cX12_two 114 = .ok (.iload 10, 2) := by decide +kernel
theorem dX12_two_116 : decode cX12_two 116 = .ok (.invokevirtual 319, 3) := by decide +kernel
theorem dX12_two_119 : decode cX12_two 119 = .ok (.lstore 11, 2) := by decide +kernel
theorem dX12_two_121 : decode cX12_two 121 = .ok (.iload 5, 2) := by decide +kernel
theorem dX12_two_123 : decode cX12_two 123 = .ok (.ifCond .lt 13, 3) := by decide +kernel
theorem dX12_two_126 : decode cX12_two 126 = .ok (.lload 11, 2) := by decide +kernel
theorem dX12_two_128 : decode cX12_two 128 = .ok (.lload_n 3, 1) := by decide +kernel
theorem dX12_two_129 : decode cX12_two 129 = .ok (.lcmp, 1) := by decide +kernel
theorem dX12_two_130 : decode cX12_two 130 = .ok (.ifCond .lt 6, 3) := by decide +kernel
theorem dX12_two_133 : decode cX12_two 133 = .ok (.goto 18, 3) := by decide +kernel
theorem dX12_two_136 : decode cX12_two 136 = .ok (.lload 11, 2) := by decide +kernel
theorem dX12_two_138 : decode cX12_two 138 = .ok (.lstore_n 3, 1) := by decide +kernel
theorem dX12_two_139 : decode cX12_two 139 = .ok (.iload 8, 2) := by decide +kernel
theorem dX12_two_141 : decode cX12_two 141 = .ok (.istore 5, 2) := by decide +kernel
theorem dX12_two_143 : decode cX12_two 143 = .ok (.iload 9, 2) := by decide +kernel
theorem dX12_two_145 : decode cX12_two 145 = .ok (.istore 6, 2) := by decide +kernel
theorem dX12_two_147 : decode cX12_two 147 = .ok (.iload 10, 2) := by decide +kernel
theorem dX12_two_149 : decode cX12_two 149 = .ok (.istore 7, 2) := by decide +kernel
theorem dX12_two_151 : decode cX12_two 151 = .ok (.iinc 10 1, 3) := by decide +kernel
theorem dX12_two_154 : decode cX12_two 154 = .ok (.goto (-91), 3) := by decide +kernel
theorem dX12_two_157 : decode cX12_two 157 = .ok (.iinc 9 1, 3) := by decide +kernel
theorem dX12_two_160 : decode cX12_two 160 = .ok (.goto (-109), 3) := by decide +kernel
theorem dX12_two_163 : decode cX12_two 163 = .ok (.iinc 8 1, 3) := by decide +kernel
theorem dX12_two_166 : decode cX12_two 166 = .ok (.goto (-127), 3) := by decide +kernel
theorem dX12_two_169 : decode cX12_two 169 = .ok (.iload 5, 2) := by decide +kernel
theorem dX12_two_171 : decode cX12_two 171 = .ok (.ifCond .ge 9, 3) := by decide +kernel
theorem dX12_two_174 : decode cX12_two 174 = .ok (.ldc2_w 323, 3) := by decide +kernel
theorem dX12_two_177 : decode cX12_two 177 = .ok (.goto 36, 3) := by decide +kernel
theorem dX12_two_180 : decode cX12_two 180 = .ok (.iload_n 2, 1) := by decide +kernel
theorem dX12_two_181 : decode cX12_two 181 = .ok (.ifCond .ne 9, 3) := by decide +kernel
theorem dX12_two_184 : decode cX12_two 184 = .ok (.iload 5, 2) := by decide +kernel
theorem dX12_two_186 : decode cX12_two 186 = .ok (.i2l, 1) := by decide +kernel
theorem dX12_two_187 : decode cX12_two 187 = .ok (.goto 26, 3) := by decide +kernel
theorem dX12_two_190 : decode cX12_two 190 = .ok (.iload_n 2, 1) := by decide +kernel
theorem dX12_two_191 : decode cX12_two 191 = .ok (.iconst 1, 1) := by decide +kernel
theorem dX12_two_192 : decode cX12_two 192 = .ok (.if_icmp .ne 9, 3) := by decide +kernel
theorem dX12_two_195 : decode cX12_two 195 = .ok (.iload 6, 2) := by decide +kernel
theorem dX12_two_197 : decode cX12_two 197 = .ok (.i2l, 1) := by decide +kernel
theorem dX12_two_198 : decode cX12_two 198 = .ok (.goto 15, 3) := by decide +kernel
theorem dX12_two_201 : decode cX12_two 201 = .ok (.iload_n 2, 1) := by decide +kernel
theorem dX12_two_202 : decode cX12_two 202 = .ok (.iconst 2, 1) := by decide +kernel
theorem dX12_two_203 : decode cX12_two 203 = .ok (.if_icmp .ne 9, 3) := by decide +kernel
theorem dX12_two_206 : decode cX12_two 206 = .ok (.iload 7, 2) := by decide +kernel
theorem dX12_two_208 : decode cX12_two 208 = .ok (.i2l, 1) := by decide +kernel
theorem dX12_two_209 : decode cX12_two 209 = .ok (.goto 4, 3) := by decide +kernel
theorem dX12_two_212 : decode cX12_two 212 = .ok (.lload_n 3, 1) := by decide +kernel
theorem dX12_two_213 : decode cX12_two 213 = .ok (.lreturn, 1) := by decide +kernel
theorem dX12_enough_0 : decode cX12_enough 0 = .ok (.aload_n 0, 1) := by decide +kernel
theorem dX12_enough_1 : decode cX12_enough 1 = .ok (.iload_n 1, 1) := by decide +kernel
theorem dX12_enough_2 : decode cX12_enough 2 = .ok (.iconst 1, 1) := by decide +kernel
theorem dX12_enough_3 : decode cX12_enough 3 = .ok (.bipush 60, 2) := by decide +kernel
theorem dX12_enough_5 : decode cX12_enough 5 = .ok (.invokevirtual 7, 3) := by decide +kernel
theorem dX12_enough_8 : decode cX12_enough 8 = .ok (.ifCond .eq 13, 3) := by decide +kernel
theorem dX12_enough_11 : decode cX12_enough 11 = .ok (.aload_n 0, 1) := by decide +kernel
theorem dX12_enough_12 : decode cX12_enough 12 = .ok (.iload_n 2, 1) := by decide +kernel
theorem dX12_enough_13 : decode cX12_enough 13 = .ok (.iconst 0, 1) := by decide +kernel
theorem dX12_enough_14 : decode cX12_enough 14 = .ok (.iconst 1, 1) := by decide +kernel
theorem dX12_enough_15 : decode cX12_enough 15 = .ok (.invokevirtual 7, 3) := by decide +kernel
theorem dX12_enough_18 : decode cX12_enough 18 = .ok (.ifCond .ne 6, 3) := by decide +kernel
theorem dX12_enough_21 : decode cX12_enough 21 = .ok (.bipush (-2), 2) := by decide +kernel
theorem dX12_enough_23 : decode cX12_enough 23 = .ok (.ireturn, 1) := by decide +kernel
theorem dX12_enough_24 : decode cX12_enough 24 = .ok (.iconst (-1), 1) := by decide +kernel
theorem dX12_enough_25 : decode cX12_enough 25 = .ok (.istore_n 3, 1) := by decide +kernel
theorem dX12_enough_26 : decode cX12_enough 26 = .ok (.aload_n 0, 1) := by decide +kernel
theorem dX12_enough_27 : decode cX12_enough 27 = .ok (.iload_n 2, 1) := by decide +kernel
theorem dX12_enough_28 : decode cX12_enough 28 = .ok (.putfield 158, 3) := by decide +kernel
theorem dX12_enough_31 : decode cX12_enough 31 = .ok (.bipush 20, 2) := by decide +kernel
theorem dX12_enough_33 : decode cX12_enough 33 = .ok (.istore 4, 2) := by decide +kernel
theorem dX12_enough_35 : decode cX12_enough 35 = .ok (.iload 4, 2) := by decide +kernel
theorem dX12_enough_37 : decode cX12_enough 37 = .ok (.ifCond .lt 37, 3) := by decide +kernel
theorem dX12_enough_40 : decode cX12_enough 40 = .ok (.aload_n 0, 1) := by decide +kernel
theorem dX12_enough_41 : decode cX12_enough 41 = .ok (.iload 4, 2) := by decide +kernel
theorem dX12_enough_43 : decode cX12_enough 43 = .ok (.putfield 161, 3) := by decide +kernel
theorem dX12_enough_46 : decode cX12_enough 46 = .ok (.aload_n 0, 1) := by decide +kernel
theorem dX12_enough_47 : decode cX12_enough 47 = .ok (.iload_n 1, 1) := by decide +kernel
theorem dX12_enough_48 : decode cX12_enough 48 = .ok (.iconst (-1), 1) := by decide +kernel
theorem dX12_enough_49 : decode cX12_enough 49 = .ok (.invokevirtual 316, 3) := by decide +kernel
theorem dX12_enough_52 : decode cX12_enough 52 = .ok (.aload_n 0, 1) := by decide +kernel
theorem dX12_enough_53 : decode cX12_enough 53 = .ok (.getfield 134, 3) := by decide +kernel
theorem dX12_enough_56 : decode cX12_enough 56 = .ok (.iload_n 2, 1) := by decide +kernel
theorem dX12_enough_57 : decode cX12_enough 57 = .ok (.iaload, 1) := by decide +kernel
theorem dX12_enough_58 : decode cX12_enough 58 = .ok (.ifCond .ne 8, 3) := by decide +kernel
theorem dX12_enough_61 : decode cX12_enough 61 = .ok (.iload 4, 2) := by decide +kernel
theorem dX12_enough_63 : decode cX12_enough 63 = .ok (.goto 4, 3) := by decide +kernel
theorem dX12_enough_66 : decode cX12_enough 66 = .ok (.iload_n 3, 1) := by decide +kernel
theorem dX12_enough_67 : decode cX12_enough 67 = .ok (.istore_n 3, 1) := by decide +kernel
theorem dX12_enough_68 : decode cX12_enough 68 = .ok (.iinc 4 (-1), 3) := by decide +kernel
theorem dX12_enough_71 : decode cX12_enough 71 = .ok (.goto (-36), 3) := by decide +kernel
theorem dX12_enough_74 : decode cX12_enough 74 = .ok (.aload_n 0, 1) := by decide +kernel
theorem dX12_enough_75 : decode cX12_enough 75 = .ok (.iconst (-1), 1) := by decide +kernel
theorem dX12_enough_76 : decode cX12_enough 76 = .ok (.putfield 158, 3) := by decide +kernel
theorem dX12_enough_79 : decode cX12_enough 79 = .ok (.iload_n 3, 1) := by decide +kernel
theorem dX12_enough_80 : decode cX12_enough 80 = .ok (.ireturn, 1) := by decide +kernel
theorem dX12_worth_0 : decode cX12_worth 0 = .ok (.aload_n 0, 1) := by decide +kernel
theorem dX12_worth_1 : decode cX12_worth 1 = .ok (.iload_n 1, 1) := by decide +kernel
theorem dX12_worth_2 : decode cX12_worth 2 = .ok (.iconst 1, 1) := by decide +kernel
theorem dX12_worth_3 : decode cX12_worth 3 = .ok (.bipush 60, 2) := by decide +kernel
theorem dX12_worth_5 : decode cX12_worth 5 = .ok (.invokevirtual 7, 3) := by decide +kernel
theorem dX12_worth_8 : decode cX12_worth 8 = .ok (.ifCond .eq 11, 3) := by decide +kernel
theorem dX12_worth_11 : decode cX12_worth 11 = .ok (.aload_n 0, 1) := by decide +kernel
theorem dX12_worth_12 : decode cX12_worth 12 = .ok (.iload_n 2, 1) := by decide +kernel
theorem dX12_worth_13 : decode cX12_worth 13 = .ok (.invokevirtual 53, 3) := by decide +kernel
theorem dX12_worth_16 : decode cX12_worth 16 = .ok (.ifCond .ne 7, 3) := by decide +kernel
theorem dX12_worth_19 : decode cX12_worth 19 = .ok (.ldc2_w 314, 3) := by decide +kernel
theorem dX12_worth_22 : decode cX12_worth 22 = .ok (.lreturn, 1) := by decide +kernel
theorem dX12_worth_23 : decode cX12_worth 23 = .ok (.aload_n 0, 1) := by decide +kernel
theorem dX12_worth_24 : decode cX12_worth 24 = .ok (.iload_n 1, 1) := by decide +kernel
theorem dX12_worth_25 : decode cX12_worth 25 = .ok (.iconst (-1), 1) := by decide +kernel
theorem dX12_worth_26 : decode cX12_worth 26 = .ok (.invokevirtual 316, 3) := by decide +kernel
theorem dX12_worth_29 : decode cX12_worth 29 = .ok (.aload_n 0, 1) := by decide +kernel
theorem dX12_worth_30 : decode cX12_worth 30 = .ok (.getfield 173, 3) := by decide +kernel
theorem dX12_worth_33 : decode cX12_worth 33 = .ok (.lstore_n 3, 1) := by decide +kernel
theorem dX12_worth_34 : decode cX12_worth 34 = .ok (.aload_n 0, 1) := by decide +kernel
theorem dX12_worth_35 : decode cX12_worth 35 = .ok (.iload_n 2, 1) := by decide +kernel
theorem dX12_worth_36 : decode cX12_worth 36 = .ok (.putfield 155, 3) := by decide +kernel
theorem dX12_worth_39 : decode cX12_worth 39 = .ok (.aload_n 0, 1) := by decide +kernel
theorem dX12_worth_40 : decode cX12_worth 40 = .ok (.iload_n 1, 1) := by decide +kernel
theorem dX12_worth_41 : decode cX12_worth 41 = .ok (.iconst (-1), 1) := by decide +kernel
theorem dX12_worth_42 : decode cX12_worth 42 = .ok (.invokevirtual 316, 3) := by decide +kernel
theorem dX12_worth_45 : decode cX12_worth 45 = .ok (.aload_n 0, 1) := by decide +kernel
theorem dX12_worth_46 : decode cX12_worth 46 = .ok (.iconst (-1), 1) := by decide +kernel
theorem dX12_worth_47 : decode cX12_worth 47 = .ok (.putfield 155, 3) := by decide +kernel
theorem dX12_worth_50 : decode cX12_worth 50 = .ok (.aload_n 0, 1) := by decide +kernel
theorem dX12_worth_51 : decode cX12_worth 51 = .ok (.getfield 173, 3) := by decide +kernel
theorem dX12_worth_54 : decode cX12_worth 54 = .ok (.lload_n 3, 1) := by decide +kernel
theorem dX12_worth_55 : decode cX12_worth 55 = .ok (.lsub, 1) := by decide +kernel
theorem dX12_worth_56 : decode cX12_worth 56 = .ok (.lreturn, 1) := by decide +kernel
theorem dX12_judge_0 : decode cX12_judge 0 = .ok (.aload_n 0, 1) := by decide +kernel
theorem dX12_judge_1 : decode cX12_judge 1 = .ok (.iload_n 1, 1) := by decide +kernel
theorem dX12_judge_2 : decode cX12_judge 2 = .ok (.invokevirtual 37, 3) := by decide +kernel
theorem dX12_judge_5 : decode cX12_judge 5 = .ok (.ifCond .ne 6, 3) := by decide +kernel
theorem dX12_judge_8 : decode cX12_judge 8 = .ok (.bipush (-2), 2) := by decide +kernel
theorem dX12_judge_10 : decode cX12_judge 10 = .ok (.ireturn, 1) := by decide +kernel
theorem dX12_judge_11 : decode cX12_judge 11 = .ok (.aload_n 0, 1) := by decide +kernel
theorem dX12_judge_12 : decode cX12_judge 12 = .ok (.getfield 41, 3) := by decide +kernel
theorem dX12_judge_15 : decode cX12_judge 15 = .ok (.iload_n 1, 1) := by decide +kernel
theorem dX12_judge_16 : decode cX12_judge 16 = .ok (.iaload, 1) := by decide +kernel
theorem dX12_judge_17 : decode cX12_judge 17 = .ok (.ifCond .ge 6, 3) := by decide +kernel
theorem dX12_judge_20 : decode cX12_judge 20 = .ok (.bipush (-11), 2) := by decide +kernel
theorem dX12_judge_22 : decode cX12_judge 22 = .ok (.ireturn, 1) := by decide +kernel
theorem dX12_judge_23 : decode cX12_judge 23 = .ok (.aload_n 0, 1) := by decide +kernel
theorem dX12_judge_24 : decode cX12_judge 24 = .ok (.iconst 0, 1) := by decide +kernel
theorem dX12_judge_25 : decode cX12_judge 25 = .ok (.iconst (-1), 1) := by decide +kernel
theorem dX12_judge_26 : decode cX12_judge 26 = .ok (.invokevirtual 316, 3) := by decide +kernel
theorem dX12_judge_29 : decode cX12_judge 29 = .ok (.iconst 0, 1) := by decide +kernel
theorem dX12_judge_30 : decode cX12_judge 30 = .ok (.istore_n 2, 1) := by decide +kernel
theorem dX12_judge_31 : decode cX12_judge 31 = .ok (.iload_n 2, 1) := by decide +kernel
theorem dX12_judge_32 : decode cX12_judge 32 = .ok (.aload_n 0, 1) := by decide +kernel
theorem dX12_judge_33 : decode cX12_judge 33 = .ok (.getfield 44, 3) := by decide +kernel
theorem dX12_judge_36 : decode cX12_judge 36 = .ok (.iload_n 1, 1) := by decide +kernel
theorem dX12_judge_37 : decode cX12_judge 37 = .ok (.iaload, 1) := by decide +kernel
theorem dX12_judge_38 : decode cX12_judge 38 = .ok (.if_icmp .ge 80, 3) := by decide +kernel
theorem dX12_judge_41 : decode cX12_judge 41 = .ok (.aload_n 0, 1) := by decide +kernel
theorem dX12_judge_42 : decode cX12_judge 42 = .ok (.getfield 47, 3) := by decide +kernel
theorem dX12_judge_45 : decode cX12_judge 45 = .ok (.bipush 60, 2) := by decide +kernel
theorem dX12_judge_47 : decode cX12_judge 47 = .ok (.iload_n 1, 1) := by decide +kernel
theorem dX12_judge_48 : decode cX12_judge 48 = .ok (.imul, 1) := by decide +kernel
theorem dX12_judge_49 : decode cX12_judge 49 = .ok (.iload_n 2, 1) := by decide +kernel
theorem dX12_judge_50 : decode cX12_judge 50 = .ok (.iadd, 1) := by decide +kernel
theorem dX12_judge_51 : decode cX12_judge 51 = .ok (.iaload, 1) := by decide +kernel
theorem dX12_judge_52 : decode cX12_judge 52 = .ok (.istore_n 3, 1) := by decide +kernel
theorem dX12_judge_53 : decode cX12_judge 53 = .ok (.iload_n 3, 1) := by decide +kernel
theorem dX12_judge_54 : decode cX12_judge 54 = .ok (.iconst (-1), 1) := by decide +kernel
theorem dX12_judge_55 : decode cX12_judge 55 = .ok (.if_icmp .eq 14, 3) := by decide +kernel
theorem dX12_judge_58 : decode cX12_judge 58 = .ok (.aload_n 0, 1) := by decide +kernel
theorem dX12_judge_59 : decode cX12_judge 59 = .ok (.iload_n 3, 1) := by decide +kernel
theorem dX12_judge_60 : decode cX12_judge 60 = .ok (.iload_n 2, 1) := by decide +kernel
theorem dX12_judge_61 : decode cX12_judge 61 = .ok (.invokevirtual 299, 3) := by decide +kernel
theorem dX12_judge_64 : decode cX12_judge 64 = .ok (.ifCond .ne 5, 3) := by decide +kernel
theorem dX12_judge_67 : decode cX12_judge 67 = .ok (.iload_n 2, 1) := by decide +kernel
theorem dX12_judge_68 : decode cX12_judge 68 = .ok (.ireturn, 1) := by decide +kernel
theorem dX12_judge_69 : decode cX12_judge 69 = .ok (.iconst 0, 1) := by decide +kernel
theorem dX12_judge_70 : decode cX12_judge 70 = .ok (.istore 4, 2) := by decide +kernel
theorem dX12_judge_72 : decode cX12_judge 72 = .ok (.iload 4, 2) := by decide +kernel
theorem dX12_judge_74 : decode cX12_judge 74 = .ok (.aload_n 0, 1) := by decide +kernel
theorem dX12_judge_75 : decode cX12_judge 75 = .ok (.getfield 1, 3) := by decide +kernel
theorem dX12_judge_78 : decode cX12_judge 78 = .ok (.if_icmp .ge 34, 3) := by decide +kernel
theorem dX12_judge_81 : decode cX12_judge 81 = .ok (.aload_n 0, 1) := by decide +kernel
theorem dX12_judge_82 : decode cX12_judge 82 = .ok (.getfield 146, 3) := by decide +kernel
theorem dX12_judge_85 : decode cX12_judge 85 = .ok (.iload 4, 2) := by decide +kernel
theorem dX12_judge_87 : decode cX12_judge 87 = .ok (.dup2, 1) := by decide +kernel
theorem dX12_judge_88 : decode cX12_judge 88 = .ok (.iaload, 1) := by decide +kernel
theorem dX12_judge_89 : decode cX12_judge 89 = .ok (.aload_n 0, 1) := by decide +kernel
theorem dX12_judge_90 : decode cX12_judge 90 = .ok (.getfield 146, 3) := by decide +kernel
theorem dX12_judge_93 : decode cX12_judge 93 = .ok (.iload 4, 2) := by decide +kernel
theorem dX12_judge_95 : decode cX12_judge 95 = .ok (.iaload, 1) := by decide +kernel
theorem dX12_judge_96 : decode cX12_judge 96 = .ok (.ifCond .le 7, 3) := by decide +kernel
theorem dX12_judge_99 : decode cX12_judge 99 = .ok (.iconst 1, 1) := by decide +kernel
theorem dX12_judge_100 : decode cX12_judge 100 = .ok (.goto 4, 3) := by decide +kernel
theorem dX12_judge_103 : decode cX12_judge 103 = .ok (.iconst 0, 1) := by decide +kernel
theorem dX12_judge_104 : decode cX12_judge 104 = .ok (.isub, 1) := by decide +kernel
theorem dX12_judge_105 : decode cX12_judge 105 = .ok (.iastore, 1) := by decide +kernel
theorem dX12_judge_106 : decode cX12_judge 106 = .ok (.iinc 4 1, 3) := by decide +kernel
theorem dX12_judge_109 : decode cX12_judge 109 = .ok (.goto (-37), 3) := by decide +kernel
theorem dX12_judge_112 : decode cX12_judge 112 = .ok (.iinc 2 1, 3) := by decide +kernel
theorem dX12_judge_115 : decode cX12_judge 115 = .ok (.goto (-84), 3) := by decide +kernel
theorem dX12_judge_118 : decode cX12_judge 118 = .ok (.iconst (-1), 1) := by decide +kernel
theorem dX12_judge_119 : decode cX12_judge 119 = .ok (.ireturn, 1) := by decide +kernel
theorem dX12_image_0 : decode cX12_image 0 = .ok (.aload_n 0, 1) := by decide +kernel
theorem dX12_image_1 : decode cX12_image 1 = .ok (.iconst 1, 1) := by decide +kernel
theorem dX12_image_2 : decode cX12_image 2 = .ok (.putfield 177, 3) := by decide +kernel
theorem dX12_image_5 : decode cX12_image 5 = .ok (.aload_n 0, 1) := by decide +kernel
theorem dX12_image_6 : decode cX12_image 6 = .ok (.aload_n 0, 1) := by decide +kernel
theorem dX12_image_7 : decode cX12_image 7 = .ok (.getfield 28, 3) := by decide +kernel
theorem dX12_image_10 : decode cX12_image 10 = .ok (.putfield 181, 3) := by decide +kernel
theorem dX12_image_13 : decode cX12_image 13 = .ok (.aload_n 0, 1) := by decide +kernel
theorem dX12_image_14 : decode cX12_image 14 = .ok (.aload_n 0, 1) := by decide +kernel
theorem dX12_image_15 : decode cX12_image 15 = .ok (.getfield 50, 3) := by decide +kernel
theorem dX12_image_18 : decode cX12_image 18 = .ok (.putfield 184, 3) := by decide +kernel
theorem dX12_image_21 : decode cX12_image 21 = .ok (.aload_n 0, 1) := by decide +kernel
theorem dX12_image_22 : decode cX12_image 22 = .ok (.aload_n 0, 1) := by decide +kernel
theorem dX12_image_23 : decode cX12_image 23 = .ok (.getfield 59, 3) := by decide +kernel
theorem dX12_image_26 : decode cX12_image 26 = .ok (.putfield 187, 3) := by decide +kernel
theorem dX12_image_29 : decode cX12_image 29 = .ok (.aload_n 0, 1) := by decide +kernel
theorem dX12_image_30 : decode cX12_image 30 = .ok (.aload_n 0, 1) := by decide +kernel
theorem dX12_image_31 : decode cX12_image 31 = .ok (.getfield 62, 3) := by decide +kernel
theorem dX12_image_34 : decode cX12_image 34 = .ok (.putfield 190, 3) := by decide +kernel
theorem dX12_image_37 : decode cX12_image 37 = .ok (.aload_n 0, 1) := by decide +kernel
theorem dX12_image_38 : decode cX12_image 38 = .ok (.aload_n 0, 1) := by decide +kernel
theorem dX12_image_39 : decode cX12_image 39 = .ok (.getfield 86, 3) := by decide +kernel
theorem dX12_image_42 : decode cX12_image 42 = .ok (.putfield 193, 3) := by decide +kernel
theorem dX12_image_45 : decode cX12_image 45 = .ok (.iconst 0, 1) := by decide +kernel
theorem dX12_image_46 : decode cX12_image 46 = .ok (.istore_n 1, 1) := by decide +kernel
theorem dX12_image_47 : decode cX12_image 47 = .ok (.iload_n 1, 1) := by decide +kernel
theorem dX12_image_48 : decode cX12_image 48 = .ok (.bipush 120, 2) := by decide +kernel
theorem dX12_image_50 : decode cX12_image 50 = .ok (.if_icmp .ge 33, 3) := by decide +kernel
theorem dX12_image_53 : decode cX12_image 53 = .ok (.aload_n 0, 1) := by decide +kernel
theorem dX12_image_54 : decode cX12_image 54 = .ok (.getfield 196, 3) := by decide +kernel
theorem dX12_image_57 : decode cX12_image 57 = .ok (.iload_n 1, 1) := by decide +kernel
theorem dX12_image_58 : decode cX12_image 58 = .ok (.aload_n 0, 1) := by decide +kernel
theorem dX12_image_59 : decode cX12_image 59 = .ok (.getfield 31, 3) := by decide +kernel
theorem dX12_image_62 : decode cX12_image 62 = .ok (.iload_n 1, 1) := by decide +kernel
theorem dX12_image_63 : decode cX12_image 63 = .ok (.iaload, 1) := by decide +kernel
theorem dX12_image_64 : decode cX12_image 64 = .ok (.iastore, 1) := by decide +kernel
theorem dX12_image_65 : decode cX12_image 65 = .ok (.aload_n 0, 1) := by decide +kernel
theorem dX12_image_66 : decode cX12_image 66 = .ok (.getfield 199, 3) := by decide +kernel
theorem dX12_image_69 : decode cX12_image 69 = .ok (.iload_n 1, 1) := by decide +kernel
theorem dX12_image_70 : decode cX12_image 70 = .ok (.aload_n 0, 1) := by decide +kernel
theorem dX12_image_71 : decode cX12_image 71 = .ok (.getfield 34, 3) := by decide +kernel
theorem dX12_image_74 : decode cX12_image 74 = .ok (.iload_n 1, 1) := by decide +kernel
theorem dX12_image_75 : decode cX12_image 75 = .ok (.iaload, 1) := by decide +kernel
theorem dX12_image_76 : decode cX12_image 76 = .ok (.iastore, 1) := by decide +kernel
theorem dX12_image_77 : decode cX12_image 77 = .ok (.iinc 1 1, 3) := by decide +kernel
theorem dX12_image_80 : decode cX12_image 80 = .ok (.goto (-33), 3) := by decide +kernel
theorem dX12_image_83 : decode cX12_image 83 = .ok (.aload_n 0, 1) := by decide +kernel
theorem dX12_image_84 : decode cX12_image 84 = .ok (.getfield 1, 3) := by decide +kernel
theorem dX12_image_87 : decode cX12_image 87 = .ok (.ireturn, 1) := by decide +kernel
theorem dX12_back_0 : decode cX12_back 0 = .ok (.aload_n 0, 1) := by decide +kernel
theorem dX12_back_1 : decode cX12_back 1 = .ok (.getfield 177, 3) := by decide +kernel
theorem dX12_back_4 : decode cX12_back 4 = .ok (.ifCond .ne 6, 3) := by decide +kernel
theorem dX12_back_7 : decode cX12_back 7 = .ok (.bipush (-3), 2) := by decide +kernel
theorem dX12_back_9 : decode cX12_back 9 = .ok (.ireturn, 1) := by decide +kernel
theorem dX12_back_10 : decode cX12_back 10 = .ok (.aload_n 0, 1) := by decide +kernel
theorem dX12_back_11 : decode cX12_back 11 = .ok (.aload_n 0, 1) := by decide +kernel
theorem dX12_back_12 : decode cX12_back 12 = .ok (.getfield 181, 3) := by decide +kernel
theorem dX12_back_15 : decode cX12_back 15 = .ok (.putfield 28, 3) := by decide +kernel
theorem dX12_back_18 : decode cX12_back 18 = .ok (.aload_n 0, 1) := by decide +kernel
theorem dX12_back_19 : decode cX12_back 19 = .ok (.aload_n 0, 1) := by decide +kernel
theorem dX12_back_20 : decode cX12_back 20 = .ok (.getfield 184, 3) := by decide +kernel
theorem dX12_back_23 : decode cX12_back 23 = .ok (.putfield 50, 3) := by decide +kernel
theorem dX12_back_26 : decode cX12_back 26 = .ok (.aload_n 0, 1) := by decide +kernel
theorem dX12_back_27 : decode cX12_back 27 = .ok (.aload_n 0, 1) := by decide +kernel
theorem dX12_back_28 : decode cX12_back 28 = .ok (.getfield 187, 3) := by decide +kernel
theorem dX12_back_31 : decode cX12_back 31 = .ok (.putfield 59, 3) := by decide +kernel
theorem dX12_back_34 : decode cX12_back 34 = .ok (.aload_n 0, 1) := by decide +kernel
theorem dX12_back_35 : decode cX12_back 35 = .ok (.aload_n 0, 1) := by decide +kernel
theorem dX12_back_36 : decode cX12_back 36 = .ok (.getfield 190, 3) := by decide +kernel
theorem dX12_back_39 : decode cX12_back 39 = .ok (.putfield 62, 3) := by decide +kernel
theorem dX12_back_42 : decode cX12_back 42 = .ok (.aload_n 0, 1) := by decide +kernel
theorem dX12_back_43 : decode cX12_back 43 = .ok (.aload_n 0, 1) := by decide +kernel
theorem dX12_back_44 : decode cX12_back 44 = .ok (.getfield 193, 3) := by decide +kernel
theorem dX12_back_47 : decode cX12_back 47 = .ok (.putfield 86, 3) := by decide +kernel
theorem dX12_back_50 : decode cX12_back 50 = .ok (.iconst 0, 1) := by decide +kernel
theorem dX12_back_51 : decode cX12_back 51 = .ok (.istore_n 1, 1) := by decide +kernel
theorem dX12_back_52 : decode cX12_back 52 = .ok (.iload_n 1, 1) := by decide +kernel
theorem dX12_back_53 : decode cX12_back 53 = .ok (.bipush 120, 2) := by decide +kernel
theorem dX12_back_55 : decode cX12_back 55 = .ok (.if_icmp .ge 33, 3) := by decide +kernel
theorem dX12_back_58 : decode cX12_back 58 = .ok (.aload_n 0, 1) := by decide +kernel
theorem dX12_back_59 : decode cX12_back 59 = .ok (.getfield 31, 3) := by decide +kernel
theorem dX12_back_62 : decode cX12_back 62 = .ok (.iload_n 1, 1) := by decide +kernel
theorem dX12_back_63 : decode cX12_back 63 = .ok (.aload_n 0, 1) := by decide +kernel
theorem dX12_back_64 : decode cX12_back 64 = .ok (.getfield 196, 3) := by decide +kernel
theorem dX12_back_67 : decode cX12_back 67 = .ok (.iload_n 1, 1) := by decide +kernel
theorem dX12_back_68 : decode cX12_back 68 = .ok (.iaload, 1) := by decide +kernel
theorem dX12_back_69 : decode cX12_back 69 = .ok (.iastore, 1) := by decide +kernel
theorem dX12_back_70 : decode cX12_back 70 = .ok (.aload_n 0, 1) := by decide +kernel
theorem dX12_back_71 : decode cX12_back 71 = .ok (.getfield 34, 3) := by decide +kernel
theorem dX12_back_74 : decode cX12_back 74 = .ok (.iload_n 1, 1) := by decide +kernel
theorem dX12_back_75 : decode cX12_back 75 = .ok (.aload_n 0, 1) := by decide +kernel
theorem dX12_back_76 : decode cX12_back 76 = .ok (.getfield 199, 3) := by decide +kernel
theorem dX12_back_79 : decode cX12_back 79 = .ok (.iload_n 1, 1) := by decide +kernel
theorem dX12_back_80 : decode cX12_back 80 = .ok (.iaload, 1) := by decide +kernel
theorem dX12_back_81 : decode cX12_back 81 = .ok (.iastore, 1) := by decide +kernel
theorem dX12_back_82 : decode cX12_back 82 = .ok (.iinc 1 1, 3) := by decide +kernel
theorem dX12_back_85 : decode cX12_back 85 = .ok (.goto (-33), 3) := by decide +kernel
theorem dX12_back_88 : decode cX12_back 88 = .ok (.aload_n 0, 1) := by decide +kernel
theorem dX12_back_89 : decode cX12_back 89 = .ok (.getfield 1, 3) := by decide +kernel
theorem dX12_back_92 : decode cX12_back 92 = .ok (.ireturn, 1) := by decide +kernel
theorem dX12_allComers_0 : decode cX12_allComers 0 = .ok (.iconst 0, 1) := by decide +kernel
theorem dX12_allComers_1 : decode cX12_allComers 1 = .ok (.istore_n 2, 1) := by decide +kernel
theorem dX12_allComers_2 : decode cX12_allComers 2 = .ok (.iconst 0, 1) := by decide +kernel
theorem dX12_allComers_3 : decode cX12_allComers 3 = .ok (.istore_n 3, 1) := by decide +kernel
theorem dX12_allComers_4 : decode cX12_allComers 4 = .ok (.iload_n 3, 1) := by decide +kernel
theorem dX12_allComers_5 : decode cX12_allComers 5 = .ok (.bipush 60, 2) := by decide +kernel
theorem dX12_allComers_7 : decode cX12_allComers 7 = .ok (.if_icmp .ge 23, 3) := by decide +kernel
theorem dX12_allComers_10 : decode cX12_allComers 10 = .ok (.iload_n 2, 1) := by decide +kernel
theorem dX12_allComers_11 : decode cX12_allComers 11 = .ok (.aload_n 0, 1) := by decide +kernel
theorem dX12_allComers_12 : decode cX12_allComers 12 = .ok (.getfield 31, 3) := by decide +kernel
theorem dX12_allComers_15 : decode cX12_allComers 15 = .ok (.bipush 60, 2) := by decide +kernel
theorem dX12_allComers_17 : decode cX12_allComers 17 = .ok (.iload_n 1, 1) := by decide +kernel
theorem dX12_allComers_18 : decode cX12_allComers 18 = .ok (.imul, 1) := by decide +kernel
theorem dX12_allComers_19 : decode cX12_allComers 19 = .ok (.iload_n 3, 1) := by decide +kernel
theorem dX12_allComers_20 : decode cX12_allComers 20 = .ok (.iadd, 1) := by decide +kernel
theorem dX12_allComers_21 : decode cX12_allComers 21 = .ok (.iaload, 1) := by decide +kernel
theorem dX12_allComers_22 : decode cX12_allComers 22 = .ok (.iadd, 1) := by decide +kernel
theorem dX12_allComers_23 : decode cX12_allComers 23 = .ok (.istore_n 2, 1) := by decide +kernel
theorem dX12_allComers_24 : decode cX12_allComers 24 = .ok (.iinc 3 1, 3) := by decide +kernel
theorem dX12_allComers_27 : decode cX12_allComers 27 = .ok (.goto (-23), 3) := by decide +kernel
theorem dX12_allComers_30 : decode cX12_allComers 30 = .ok (.iload_n 2, 1) := by decide +kernel
theorem dX12_allComers_31 : decode cX12_allComers 31 = .ok (.ireturn, 1) := by decide +kernel
theorem dX12_count_0 : decode cX12_count 0 = .ok (.iconst 0, 1) := by decide +kernel
theorem dX12_count_1 : decode cX12_count 1 = .ok (.istore_n 2, 1) := by decide +kernel
theorem dX12_count_2 : decode cX12_count 2 = .ok (.iconst 0, 1) := by decide +kernel
theorem dX12_count_3 : decode cX12_count 3 = .ok (.istore_n 3, 1) := by decide +kernel
theorem dX12_count_4 : decode cX12_count 4 = .ok (.iload_n 3, 1) := by decide +kernel
theorem dX12_count_5 : decode cX12_count 5 = .ok (.aload_n 0, 1) := by decide +kernel
theorem dX12_count_6 : decode cX12_count 6 = .ok (.getfield 1, 3) := by decide +kernel
theorem dX12_count_9 : decode cX12_count 9 = .ok (.if_icmp .ge 18, 3) := by decide +kernel
theorem dX12_count_12 : decode cX12_count 12 = .ok (.iload_n 2, 1) := by decide +kernel
theorem dX12_count_13 : decode cX12_count 13 = .ok (.aload_n 0, 1) := by decide +kernel
theorem dX12_count_14 : decode cX12_count 14 = .ok (.getfield 18, 3) := by decide +kernel
theorem dX12_count_17 : decode cX12_count 17 = .ok (.iload_n 3, 1) := by decide +kernel
theorem dX12_count_18 : decode cX12_count 18 = .ok (.iaload, 1) := by decide +kernel
theorem dX12_count_19 : decode cX12_count 19 = .ok (.iadd, 1) := by decide +kernel
theorem dX12_count_20 : decode cX12_count 20 = .ok (.istore_n 2, 1) := by decide +kernel
theorem dX12_count_21 : decode cX12_count 21 = .ok (.iinc 3 1, 3) := by decide +kernel
theorem dX12_count_24 : decode cX12_count 24 = .ok (.goto (-20), 3) := by decide +kernel
theorem dX12_count_27 : decode cX12_count 27 = .ok (.iload_n 1, 1) := by decide +kernel
theorem dX12_count_28 : decode cX12_count 28 = .ok (.tableswitch 87 0 7 #[48, 53, 55, 61, 67, 72, 77, 82], 48) := by decide +kernel
theorem dX12_count_76 : decode cX12_count 76 = .ok (.aload_n 0, 1) := by decide +kernel
theorem dX12_count_77 : decode cX12_count 77 = .ok (.getfield 1, 3) := by decide +kernel
theorem dX12_count_80 : decode cX12_count 80 = .ok (.ireturn, 1) := by decide +kernel
theorem dX12_count_81 : decode cX12_count 81 = .ok (.iload_n 2, 1) := by decide +kernel
theorem dX12_count_82 : decode cX12_count 82 = .ok (.ireturn, 1) := by decide +kernel
theorem dX12_count_83 : decode cX12_count 83 = .ok (.aload_n 0, 1) := by decide +kernel
theorem dX12_count_84 : decode cX12_count 84 = .ok (.iconst 0, 1) := by decide +kernel
theorem dX12_count_85 : decode cX12_count 85 = .ok (.invokevirtual 325, 3) := by decide +kernel
theorem dX12_count_88 : decode cX12_count 88 = .ok (.ireturn, 1) := by decide +kernel
theorem dX12_count_89 : decode cX12_count 89 = .ok (.aload_n 0, 1) := by decide +kernel
theorem dX12_count_90 : decode cX12_count 90 = .ok (.iconst 1, 1) := by decide +kernel
theorem dX12_count_91 : decode cX12_count 91 = .ok (.invokevirtual 325, 3) := by decide +kernel
theorem dX12_count_94 : decode cX12_count 94 = .ok (.ireturn, 1) := by decide +kernel
theorem dX12_count_95 : decode cX12_count 95 = .ok (.aload_n 0, 1) := by decide +kernel
theorem dX12_count_96 : decode cX12_count 96 = .ok (.getfield 83, 3) := by decide +kernel
theorem dX12_count_99 : decode cX12_count 99 = .ok (.ireturn, 1) := by decide +kernel
theorem dX12_count_100 : decode cX12_count 100 = .ok (.aload_n 0, 1) := by decide +kernel
theorem dX12_count_101 : decode cX12_count 101 = .ok (.getfield 89, 3) := by decide +kernel
theorem dX12_count_104 : decode cX12_count 104 = .ok (.ireturn, 1) := by decide +kernel
theorem dX12_count_105 : decode cX12_count 105 = .ok (.aload_n 0, 1) := by decide +kernel
theorem dX12_count_106 : decode cX12_count 106 = .ok (.getfield 86, 3) := by decide +kernel
theorem dX12_count_109 : decode cX12_count 109 = .ok (.ireturn, 1) := by decide +kernel
theorem dX12_count_110 : decode cX12_count 110 = .ok (.aload_n 0, 1) := by decide +kernel
theorem dX12_count_111 : decode cX12_count 111 = .ok (.getfield 28, 3) := by decide +kernel
theorem dX12_count_114 : decode cX12_count 114 = .ok (.ireturn, 1) := by decide +kernel
theorem dX12_count_115 : decode cX12_count 115 = .ok (.bipush (-2), 2) := by decide +kernel
theorem dX12_count_117 : decode cX12_count 117 = .ok (.ireturn, 1) := by decide +kernel
theorem dX12_isSheet_0 : decode cX12_isSheet 0 = .ok (.aload_n 0, 1) := by decide +kernel
theorem dX12_isSheet_1 : decode cX12_isSheet 1 = .ok (.iload_n 1, 1) := by decide +kernel
theorem dX12_isSheet_2 : decode cX12_isSheet 2 = .ok (.iconst 0, 1) := by decide +kernel
theorem dX12_isSheet_3 : decode cX12_isSheet 3 = .ok (.iconst 3, 1) := by decide +kernel
theorem dX12_isSheet_4 : decode cX12_isSheet 4 = .ok (.invokevirtual 7, 3) := by decide +kernel
theorem dX12_isSheet_7 : decode cX12_isSheet 7 = .ok (.ireturn, 1) := by decide +kernel
theorem dX12_sheet_0 : decode cX12_sheet 0 = .ok (.aload_n 0, 1) := by decide +kernel
theorem dX12_sheet_1 : decode cX12_sheet 1 = .ok (.iload_n 1, 1) := by decide +kernel
theorem dX12_sheet_2 : decode cX12_sheet 2 = .ok (.invokevirtual 37, 3) := by decide +kernel
theorem dX12_sheet_5 : decode cX12_sheet 5 = .ok (.ifCond .eq 23, 3) := by decide +kernel
theorem dX12_sheet_8 : decode cX12_sheet 8 = .ok (.aload_n 0, 1) := by decide +kernel
theorem dX12_sheet_9 : decode cX12_sheet 9 = .ok (.iload_n 2, 1) := by decide +kernel
theorem dX12_sheet_10 : decode cX12_sheet 10 = .ok (.iconst (-1), 1) := by decide +kernel
theorem dX12_sheet_11 : decode cX12_sheet 11 = .ok (.iconst 2, 1) := by decide +kernel
theorem dX12_sheet_12 : decode cX12_sheet 12 = .ok (.invokevirtual 7, 3) := by decide +kernel
theorem dX12_sheet_15 : decode cX12_sheet 15 = .ok (.ifCond .eq 13, 3) := by decide +kernel
theorem dX12_sheet_18 : decode cX12_sheet 18 = .ok (.iload_n 2, 1) := by decide +kernel
theorem dX12_sheet_19 : decode cX12_sheet 19 = .ok (.ifCond .lt 12, 3) := by decide +kernel
theorem dX12_sheet_22 : decode cX12_sheet 22 = .ok (.iload_n 3, 1) := by decide +kernel
theorem dX12_sheet_23 : decode cX12_sheet 23 = .ok (.bipush 60, 2) := by decide +kernel
theorem dX12_sheet_25 : decode cX12_sheet 25 = .ok (.if_icmp .le 6, 3) := by decide +kernel
theorem dX12_sheet_28 : decode cX12_sheet 28 = .ok (.bipush (-2), 2) := by decide +kernel
theorem dX12_sheet_30 : decode cX12_sheet 30 = .ok (.ireturn, 1) := by decide +kernel
theorem dX12_sheet_31 : decode cX12_sheet 31 = .ok (.iload_n 2, 1) := by decide +kernel
theorem dX12_sheet_32 : decode cX12_sheet 32 = .ok (.ifCond .lt 10, 3) := by decide +kernel
theorem dX12_sheet_35 : decode cX12_sheet 35 = .ok (.iload_n 3, 1) := by decide +kernel
theorem dX12_sheet_36 : decode cX12_sheet 36 = .ok (.ifCond .ge 6, 3) := by decide +kernel
theorem dX12_sheet_39 : decode cX12_sheet 39 = .ok (.bipush (-14), 2) := by decide +kernel
theorem dX12_sheet_41 : decode cX12_sheet 41 = .ok (.ireturn, 1) := by decide +kernel
theorem dX12_sheet_42 : decode cX12_sheet 42 = .ok (.aload_n 0, 1) := by decide +kernel
theorem dX12_sheet_43 : decode cX12_sheet 43 = .ok (.getfield 41, 3) := by decide +kernel
theorem dX12_sheet_46 : decode cX12_sheet 46 = .ok (.iload_n 1, 1) := by decide +kernel
theorem dX12_sheet_47 : decode cX12_sheet 47 = .ok (.iload_n 2, 1) := by decide +kernel
theorem dX12_sheet_48 : decode cX12_sheet 48 = .ok (.iastore, 1) := by decide +kernel
theorem dX12_sheet_49 : decode cX12_sheet 49 = .ok (.aload_n 0, 1) := by decide +kernel
theorem dX12_sheet_50 : decode cX12_sheet 50 = .ok (.getfield 44, 3) := by decide +kernel
theorem dX12_sheet_53 : decode cX12_sheet 53 = .ok (.iload_n 1, 1) := by decide +kernel
theorem dX12_sheet_54 : decode cX12_sheet 54 = .ok (.iload_n 2, 1) := by decide +kernel
theorem dX12_sheet_55 : decode cX12_sheet 55 = .ok (.ifCond .ge 7, 3) := by decide +kernel
theorem dX12_sheet_58 : decode cX12_sheet 58 = .ok (.iconst 0, 1) := by decide +kernel
theorem dX12_sheet_59 : decode cX12_sheet 59 = .ok (.goto 4, 3) := by decide +kernel
theorem dX12_sheet_62 : decode cX12_sheet 62 = .ok (.iload_n 3, 1) := by decide +kernel
theorem dX12_sheet_63 : decode cX12_sheet 63 = .ok (.iastore, 1) := by decide +kernel
theorem dX12_sheet_64 : decode cX12_sheet 64 = .ok (.iconst 0, 1) := by decide +kernel
theorem dX12_sheet_65 : decode cX12_sheet 65 = .ok (.istore 4, 2) := by decide +kernel
theorem dX12_sheet_67 : decode cX12_sheet 67 = .ok (.iload 4, 2) := by decide +kernel
theorem dX12_sheet_69 : decode cX12_sheet 69 = .ok (.bipush 60, 2) := by decide +kernel
theorem dX12_sheet_71 : decode cX12_sheet 71 = .ok (.if_icmp .ge 22, 3) := by decide +kernel
theorem dX12_sheet_74 : decode cX12_sheet 74 = .ok (.aload_n 0, 1) := by decide +kernel
theorem dX12_sheet_75 : decode cX12_sheet 75 = .ok (.getfield 47, 3) := by decide +kernel
theorem dX12_sheet_78 : decode cX12_sheet 78 = .ok (.bipush 60, 2) := by decide +kernel
theorem dX12_sheet_80 : decode cX12_sheet 80 = .ok (.iload_n 1, 1) := by decide +kernel
theorem dX12_sheet_81 : decode cX12_sheet 81 = .ok (.imul, 1) := by decide +kernel
theorem dX12_sheet_82 : decode cX12_sheet 82 = .ok (.iload 4, 2) := by decide +kernel
theorem dX12_sheet_84 : decode cX12_sheet 84 = .ok (.iadd, 1) := by decide +kernel
theorem dX12_sheet_85 : decode cX12_sheet 85 = .ok (.iconst 0, 1) := by decide +kernel
theorem dX12_sheet_86 : decode cX12_sheet 86 = .ok (.iastore, 1) := by decide +kernel
theorem dX12_sheet_87 : decode cX12_sheet 87 = .ok (.iinc 4 1, 3) := by decide +kernel
theorem dX12_sheet_90 : decode cX12_sheet 90 = .ok (.goto (-23), 3) := by decide +kernel
theorem dX12_sheet_93 : decode cX12_sheet 93 = .ok (.iconst 1, 1) := by decide +kernel
theorem dX12_sheet_94 : decode cX12_sheet 94 = .ok (.ireturn, 1) := by decide +kernel
theorem dX12_cell_0 : decode cX12_cell 0 = .ok (.aload_n 0, 1) := by decide +kernel
theorem dX12_cell_1 : decode cX12_cell 1 = .ok (.iload_n 1, 1) := by decide +kernel
theorem dX12_cell_2 : decode cX12_cell 2 = .ok (.invokevirtual 37, 3) := by decide +kernel
theorem dX12_cell_5 : decode cX12_cell 5 = .ok (.ifCond .ne 6, 3) := by decide +kernel
theorem dX12_cell_8 : decode cX12_cell 8 = .ok (.bipush (-2), 2) := by decide +kernel
theorem dX12_cell_10 : decode cX12_cell 10 = .ok (.ireturn, 1) := by decide +kernel
theorem dX12_cell_11 : decode cX12_cell 11 = .ok (.aload_n 0, 1) := by decide +kernel
theorem dX12_cell_12 : decode cX12_cell 12 = .ok (.getfield 41, 3) := by decide +kernel
theorem dX12_cell_15 : decode cX12_cell 15 = .ok (.iload_n 1, 1) := by decide +kernel
theorem dX12_cell_16 : decode cX12_cell 16 = .ok (.iaload, 1) := by decide +kernel
theorem dX12_cell_17 : decode cX12_cell 17 = .ok (.ifCond .ge 6, 3) := by decide +kernel
theorem dX12_cell_20 : decode cX12_cell 20 = .ok (.bipush (-11), 2) := by decide +kernel
theorem dX12_cell_22 : decode cX12_cell 22 = .ok (.ireturn, 1) := by decide +kernel
theorem dX12_cell_23 : decode cX12_cell 23 = .ok (.aload_n 0, 1) := by decide +kernel
theorem dX12_cell_24 : decode cX12_cell 24 = .ok (.iload_n 2, 1) := by decide +kernel
theorem dX12_cell_25 : decode cX12_cell 25 = .ok (.iconst 0, 1) := by decide +kernel
theorem dX12_cell_26 : decode cX12_cell 26 = .ok (.aload_n 0, 1) := by decide +kernel
theorem dX12_cell_27 : decode cX12_cell 27 = .ok (.getfield 44, 3) := by decide +kernel
theorem dX12_cell_30 : decode cX12_cell 30 = .ok (.iload_n 1, 1) := by decide +kernel
theorem dX12_cell_31 : decode cX12_cell 31 = .ok (.iaload, 1) := by decide +kernel
theorem dX12_cell_32 : decode cX12_cell 32 = .ok (.iconst 1, 1) := by decide +kernel
theorem dX12_cell_33 : decode cX12_cell 33 = .ok (.isub, 1) := by decide +kernel
theorem dX12_cell_34 : decode cX12_cell 34 = .ok (.invokevirtual 7, 3) := by decide +kernel
theorem dX12_cell_37 : decode cX12_cell 37 = .ok (.ifCond .ne 6, 3) := by decide +kernel
theorem dX12_cell_40 : decode cX12_cell 40 = .ok (.bipush (-12), 2) := by decide +kernel
theorem dX12_cell_42 : decode cX12_cell 42 = .ok (.ireturn, 1) := by decide +kernel
theorem dX12_cell_43 : decode cX12_cell 43 = .ok (.aload_n 0, 1) := by decide +kernel
theorem dX12_cell_44 : decode cX12_cell 44 = .ok (.getfield 47, 3) := by decide +kernel
theorem dX12_cell_47 : decode cX12_cell 47 = .ok (.bipush 60, 2) := by decide +kernel
theorem dX12_cell_49 : decode cX12_cell 49 = .ok (.iload_n 1, 1) := by decide +kernel
theorem dX12_cell_50 : decode cX12_cell 50 = .ok (.imul, 1) := by decide +kernel
theorem dX12_cell_51 : decode cX12_cell 51 = .ok (.iload_n 2, 1) := by decide +kernel
theorem dX12_cell_52 : decode cX12_cell 52 = .ok (.iadd, 1) := by decide +kernel
theorem dX12_cell_53 : decode cX12_cell 53 = .ok (.aload_n 0, 1) := by decide +kernel
theorem dX12_cell_54 : decode cX12_cell 54 = .ok (.getfield 41, 3) := by decide +kernel
theorem dX12_cell_57 : decode cX12_cell 57 = .ok (.iload_n 1, 1) := by decide +kernel
theorem dX12_cell_58 : decode cX12_cell 58 = .ok (.iaload, 1) := by decide +kernel
theorem dX12_cell_59 : decode cX12_cell 59 = .ok (.ifCond .ne 8, 3) := by decide +kernel
theorem dX12_cell_62 : decode cX12_cell 62 = .ok (.iload_n 3, 1) := by decide +kernel
theorem dX12_cell_63 : decode cX12_cell 63 = .ok (.i2b, 1) := by decide +kernel
theorem dX12_cell_64 : decode cX12_cell 64 = .ok (.goto 19, 3) := by decide +kernel
theorem dX12_cell_67 : decode cX12_cell 67 = .ok (.aload_n 0, 1) := by decide +kernel
theorem dX12_cell_68 : decode cX12_cell 68 = .ok (.getfield 41, 3) := by decide +kernel
theorem dX12_cell_71 : decode cX12_cell 71 = .ok (.iload_n 1, 1) := by decide +kernel
theorem dX12_cell_72 : decode cX12_cell 72 = .ok (.iaload, 1) := by decide +kernel
theorem dX12_cell_73 : decode cX12_cell 73 = .ok (.iconst 1, 1) := by decide +kernel
theorem dX12_cell_74 : decode cX12_cell 74 = .ok (.if_icmp .ne 8, 3) := by decide +kernel
theorem dX12_cell_77 : decode cX12_cell 77 = .ok (.iload_n 3, 1) := by decide +kernel
theorem dX12_cell_78 : decode cX12_cell 78 = .ok (.i2s, 1) := by decide +kernel
theorem dX12_cell_79 : decode cX12_cell 79 = .ok (.goto 4, 3) := by decide +kernel
theorem dX12_cell_82 : decode cX12_cell 82 = .ok (.iload_n 3, 1) := by decide +kernel
theorem dX12_cell_83 : decode cX12_cell 83 = .ok (.iastore, 1) := by decide +kernel
theorem dX12_cell_84 : decode cX12_cell 84 = .ok (.iconst 1, 1) := by decide +kernel
theorem dX12_cell_85 : decode cX12_cell 85 = .ok (.ireturn, 1) := by decide +kernel
theorem dX12_copy_0 : decode cX12_copy 0 = .ok (.aload_n 0, 1) := by decide +kernel
theorem dX12_copy_1 : decode cX12_copy 1 = .ok (.iload_n 1, 1) := by decide +kernel
theorem dX12_copy_2 : decode cX12_copy 2 = .ok (.invokevirtual 37, 3) := by decide +kernel
theorem dX12_copy_5 : decode cX12_copy 5 = .ok (.ifCond .eq 11, 3) := by decide +kernel
theorem dX12_copy_8 : decode cX12_copy 8 = .ok (.aload_n 0, 1) := by decide +kernel
theorem dX12_copy_9 : decode cX12_copy 9 = .ok (.iload_n 3, 1) := by decide +kernel
theorem dX12_copy_10 : decode cX12_copy 10 = .ok (.invokevirtual 37, 3) := by decide +kernel
theorem dX12_copy_13 : decode cX12_copy 13 = .ok (.ifCond .ne 6, 3) := by decide +kernel
theorem dX12_copy_16 : decode cX12_copy 16 = .ok (.bipush (-2), 2) := by decide +kernel
theorem dX12_copy_18 : decode cX12_copy 18 = .ok (.ireturn, 1) := by decide +kernel
theorem dX12_copy_19 : decode cX12_copy 19 = .ok (.aload_n 0, 1) := by decide +kernel
theorem dX12_copy_20 : decode cX12_copy 20 = .ok (.getfield 41, 3) := by decide +kernel
theorem dX12_copy_23 : decode cX12_copy 23 = .ok (.iload_n 1, 1) := by decide +kernel
theorem dX12_copy_24 : decode cX12_copy 24 = .ok (.iaload, 1) := by decide +kernel
theorem dX12_copy_25 : decode cX12_copy 25 = .ok (.ifCond .lt 12, 3) := by decide +kernel
theorem dX12_copy_28 : decode cX12_copy 28 = .ok (.aload_n 0, 1) := by decide +kernel
theorem dX12_copy_29 : decode cX12_copy 29 = .ok (.getfield 41, 3) := by decide +kernel
theorem dX12_copy_32 : decode cX12_copy 32 = .ok (.iload_n 3, 1) := by decide +kernel
theorem dX12_copy_33 : decode cX12_copy 33 = .ok (.iaload, 1) := by decide +kernel
theorem dX12_copy_34 : decode cX12_copy 34 = .ok (.ifCond .ge 6, 3) := by decide +kernel
theorem dX12_copy_37 : decode cX12_copy 37 = .ok (.bipush (-11), 2) := by decide +kernel
theorem dX12_copy_39 : decode cX12_copy 39 = .ok (.ireturn, 1) := by decide +kernel
theorem dX12_copy_40 : decode cX12_copy 40 = .ok (.aload_n 0, 1) := by decide +kernel
theorem dX12_copy_41 : decode cX12_copy 41 = .ok (.getfield 41, 3) := by decide +kernel
theorem dX12_copy_44 : decode cX12_copy 44 = .ok (.iload_n 1, 1) := by decide +kernel
theorem dX12_copy_45 : decode cX12_copy 45 = .ok (.iaload, 1) := by decide +kernel
theorem dX12_copy_46 : decode cX12_copy 46 = .ok (.aload_n 0, 1) := by decide +kernel
theorem dX12_copy_47 : decode cX12_copy 47 = .ok (.getfield 41, 3) := by decide +kernel
theorem dX12_copy_50 : decode cX12_copy 50 = .ok (.iload_n 3, 1) := by decide +kernel
theorem dX12_copy_51 : decode cX12_copy 51 = .ok (.iaload, 1) := by decide +kernel
theorem dX12_copy_52 : decode cX12_copy 52 = .ok (.if_icmp .eq 6, 3) := by decide +kernel
theorem dX12_copy_55 : decode cX12_copy 55 = .ok (.bipush (-13), 2) := by decide +kernel
theorem dX12_copy_57 : decode cX12_copy 57 = .ok (.ireturn, 1) := by decide +kernel
theorem dX12_copy_58 : decode cX12_copy 58 = .ok (.iload 5, 2) := by decide +kernel
theorem dX12_copy_60 : decode cX12_copy 60 = .ok (.ifCond .lt 39, 3) := by decide +kernel
theorem dX12_copy_63 : decode cX12_copy 63 = .ok (.iload_n 2, 1) := by decide +kernel
theorem dX12_copy_64 : decode cX12_copy 64 = .ok (.ifCond .lt 35, 3) := by decide +kernel
theorem dX12_copy_67 : decode cX12_copy 67 = .ok (.iload 4, 2) := by decide +kernel
theorem dX12_copy_69 : decode cX12_copy 69 = .ok (.ifCond .lt 30, 3) := by decide +kernel
theorem dX12_copy_72 : decode cX12_copy 72 = .ok (.iload_n 2, 1) := by decide +kernel
theorem dX12_copy_73 : decode cX12_copy 73 = .ok (.aload_n 0, 1) := by decide +kernel
theorem dX12_copy_74 : decode cX12_copy 74 = .ok (.getfield 44, 3) := by decide +kernel
theorem dX12_copy_77 : decode cX12_copy 77 = .ok (.iload_n 1, 1) := by decide +kernel
theorem dX12_copy_78 : decode cX12_copy 78 = .ok (.iaload, 1) := by decide +kernel
theorem dX12_copy_79 : decode cX12_copy 79 = .ok (.iload 5, 2) := by decide +kernel
theorem dX12_copy_81 : decode cX12_copy 81 = .ok (.isub, 1) := by decide +kernel
theorem dX12_copy_82 : decode cX12_copy 82 = .ok (.if_icmp .gt 17, 3) := by decide +kernel
theorem dX12_copy_85 : decode cX12_copy 85 = .ok (.iload 4, 2) := by decide +kernel
theorem dX12_copy_87 : decode cX12_copy 87 = .ok (.aload_n 0, 1) := by decide +kernel
theorem dX12_copy_88 : decode cX12_copy 88 = .ok (.getfield 44, 3) := by decide +kernel
theorem dX12_copy_91 : decode cX12_copy 91 = .ok (.iload_n 3, 1) := by decide +kernel
theorem dX12_copy_92 : decode cX12_copy 92 = .ok (.iaload, 1) := by decide +kernel
theorem dX12_copy_93 : decode cX12_copy 93 = .ok (.iload 5, 2) := by decide +kernel
theorem dX12_copy_95 : decode cX12_copy 95 = .ok (.isub, 1) := by decide +kernel
theorem dX12_copy_96 : decode cX12_copy 96 = .ok (.if_icmp .le 6, 3) := by decide +kernel
theorem dX12_copy_99 : decode cX12_copy 99 = .ok (.bipush (-12), 2) := by decide +kernel
theorem dX12_copy_101 : decode cX12_copy 101 = .ok (.ireturn, 1) := by decide +kernel
theorem dX12_copy_102 : decode cX12_copy 102 = .ok (.iconst 0, 1) := by decide +kernel
theorem dX12_copy_103 : decode cX12_copy 103 = .ok (.istore 6, 2) := by decide +kernel
theorem dX12_copy_105 : decode cX12_copy 105 = .ok (.iload 6, 2) := by decide +kernel
theorem dX12_copy_107 : decode cX12_copy 107 = .ok (.iload 5, 2) := by decide +kernel
theorem dX12_copy_109 : decode cX12_copy 109 = .ok (.if_icmp .ge 30, 3) := by decide +kernel
theorem dX12_copy_112 : decode cX12_copy 112 = .ok (.aload_n 0, 1) := by decide +kernel
theorem dX12_copy_113 : decode cX12_copy 113 = .ok (.getfield 202, 3) := by decide +kernel
theorem dX12_copy_116 : decode cX12_copy 116 = .ok (.iload 6, 2) := by decide +kernel
theorem dX12_copy_118 : decode cX12_copy 118 = .ok (.aload_n 0, 1) := by decide +kernel
theorem dX12_copy_119 : decode cX12_copy 119 = .ok (.getfield 47, 3) := by decide +kernel
theorem dX12_copy_122 : decode cX12_copy 122 = .ok (.bipush 60, 2) := by decide +kernel
theorem dX12_copy_124 : decode cX12_copy 124 = .ok (.iload_n 1, 1) := by decide +kernel
theorem dX12_copy_125 : decode cX12_copy 125 = .ok (.imul, 1) := by decide +kernel
theorem dX12_copy_126 : decode cX12_copy 126 = .ok (.iload_n 2, 1) := by decide +kernel
theorem dX12_copy_127 : decode cX12_copy 127 = .ok (.iadd, 1) := by decide +kernel
theorem dX12_copy_128 : decode cX12_copy 128 = .ok (.iload 6, 2) := by decide +kernel
theorem dX12_copy_130 : decode cX12_copy 130 = .ok (.iadd, 1) := by decide +kernel
theorem dX12_copy_131 : decode cX12_copy 131 = .ok (.iaload, 1) := by decide +kernel
theorem dX12_copy_132 : decode cX12_copy 132 = .ok (.iastore, 1) := by decide +kernel
theorem dX12_copy_133 : decode cX12_copy 133 = .ok (.iinc 6 1, 3) := by decide +kernel
theorem dX12_copy_136 : decode cX12_copy 136 = .ok (.goto (-31), 3) := by decide +kernel
theorem dX12_copy_139 : decode cX12_copy 139 = .ok (.iconst 0, 1) := by decide +kernel
theorem dX12_copy_140 : decode cX12_copy 140 = .ok (.istore 6, 2) := by decide +kernel
theorem dX12_copy_142 : decode cX12_copy 142 = .ok (.iload 6, 2) := by decide +kernel
theorem dX12_copy_144 : decode cX12_copy 144 = .ok (.iload 5, 2) := by decide +kernel
theorem dX12_copy_146 : decode cX12_copy 146 = .ok (.if_icmp .ge 31, 3) := by decide +kernel
theorem dX12_copy_149 : decode cX12_copy 149 = .ok (.aload_n 0, 1) := by decide +kernel
theorem dX12_copy_150 : decode cX12_copy 150 = .ok (.getfield 47, 3) := by decide +kernel
theorem dX12_copy_153 : decode cX12_copy 153 = .ok (.bipush 60, 2) := by decide +kernel
theorem dX12_copy_155 : decode cX12_copy 155 = .ok (.iload_n 3, 1) := by decide +kernel
theorem dX12_copy_156 : decode cX12_copy 156 = .ok (.imul, 1) := by decide +kernel
theorem dX12_copy_157 : decode cX12_copy 157 = .ok (.iload 4, 2) := by decide +kernel
theorem dX12_copy_159 : decode cX12_copy 159 = .ok (.iadd, 1) := by decide +kernel
theorem dX12_copy_160 : decode cX12_copy 160 = .ok (.iload 6, 2) := by decide +kernel
theorem dX12_copy_162 : decode cX12_copy 162 = .ok (.iadd, 1) := by decide +kernel
theorem dX12_copy_163 : decode cX12_copy 163 = .ok (.aload_n 0, 1) := by decide +kernel
theorem dX12_copy_164 : decode cX12_copy 164 = .ok (.getfield 202, 3) := by decide +kernel
theorem dX12_copy_167 : decode cX12_copy 167 = .ok (.iload 6, 2) := by decide +kernel
theorem dX12_copy_169 : decode cX12_copy 169 = .ok (.iaload, 1) := by decide +kernel
theorem dX12_copy_170 : decode cX12_copy 170 = .ok (.iastore, 1) := by decide +kernel
theorem dX12_copy_171 : decode cX12_copy 171 = .ok (.iinc 6 1, 3) := by decide +kernel
theorem dX12_copy_174 : decode cX12_copy 174 = .ok (.goto (-32), 3) := by decide +kernel
theorem dX12_copy_177 : decode cX12_copy 177 = .ok (.iload 5, 2) := by decide +kernel
theorem dX12_copy_179 : decode cX12_copy 179 = .ok (.ireturn, 1) := by decide +kernel
theorem dX12_lanes_0 : decode cX12_lanes 0 = .ok (.aload_n 0, 1) := by decide +kernel
theorem dX12_lanes_1 : decode cX12_lanes 1 = .ok (.iload_n 1, 1) := by decide +kernel
theorem dX12_lanes_2 : decode cX12_lanes 2 = .ok (.invokevirtual 37, 3) := by decide +kernel
theorem dX12_lanes_5 : decode cX12_lanes 5 = .ok (.ifCond .eq 25, 3) := by decide +kernel
theorem dX12_lanes_8 : decode cX12_lanes 8 = .ok (.aload_n 0, 1) := by decide +kernel
theorem dX12_lanes_9 : decode cX12_lanes 9 = .ok (.iload_n 2, 1) := by decide +kernel
theorem dX12_lanes_10 : decode cX12_lanes 10 = .ok (.iconst 0, 1) := by decide +kernel
theorem dX12_lanes_11 : decode cX12_lanes 11 = .ok (.iconst 2, 1) := by decide +kernel
theorem dX12_lanes_12 : decode cX12_lanes 12 = .ok (.invokevirtual 7, 3) := by decide +kernel
theorem dX12_lanes_15 : decode cX12_lanes 15 = .ok (.ifCond .eq 15, 3) := by decide +kernel
theorem dX12_lanes_18 : decode cX12_lanes 18 = .ok (.aload_n 0, 1) := by decide +kernel
theorem dX12_lanes_19 : decode cX12_lanes 19 = .ok (.iload 4, 2) := by decide +kernel
theorem dX12_lanes_21 : decode cX12_lanes 21 = .ok (.iconst 0, 1) := by decide +kernel
theorem dX12_lanes_22 : decode cX12_lanes 22 = .ok (.bipush 8, 2) := by decide +kernel
theorem dX12_lanes_24 : decode cX12_lanes 24 = .ok (.invokevirtual 7, 3) := by decide +kernel
theorem dX12_lanes_27 : decode cX12_lanes 27 = .ok (.ifCond .ne 6, 3) := by decide +kernel
theorem dX12_lanes_30 : decode cX12_lanes 30 = .ok (.bipush (-2), 2) := by decide +kernel
theorem dX12_lanes_32 : decode cX12_lanes 32 = .ok (.ireturn, 1) := by decide +kernel
theorem dX12_lanes_33 : decode cX12_lanes 33 = .ok (.aload_n 0, 1) := by decide +kernel
theorem dX12_lanes_34 : decode cX12_lanes 34 = .ok (.getfield 41, 3) := by decide +kernel
theorem dX12_lanes_37 : decode cX12_lanes 37 = .ok (.iload_n 1, 1) := by decide +kernel
theorem dX12_lanes_38 : decode cX12_lanes 38 = .ok (.iaload, 1) := by decide +kernel
theorem dX12_lanes_39 : decode cX12_lanes 39 = .ok (.ifCond .ge 6, 3) := by decide +kernel
theorem dX12_lanes_42 : decode cX12_lanes 42 = .ok (.bipush (-11), 2) := by decide +kernel
theorem dX12_lanes_44 : decode cX12_lanes 44 = .ok (.ireturn, 1) := by decide +kernel
theorem dX12_lanes_45 : decode cX12_lanes 45 = .ok (.aload_n 0, 1) := by decide +kernel
theorem dX12_lanes_46 : decode cX12_lanes 46 = .ok (.getfield 41, 3) := by decide +kernel
theorem dX12_lanes_49 : decode cX12_lanes 49 = .ok (.iload_n 1, 1) := by decide +kernel
theorem dX12_lanes_50 : decode cX12_lanes 50 = .ok (.iaload, 1) := by decide +kernel
theorem dX12_lanes_51 : decode cX12_lanes 51 = .ok (.iload_n 2, 1) := by decide +kernel
theorem dX12_lanes_52 : decode cX12_lanes 52 = .ok (.if_icmp .eq 6, 3) := by decide +kernel
theorem dX12_lanes_55 : decode cX12_lanes 55 = .ok (.bipush (-13), 2) := by decide +kernel
theorem dX12_lanes_57 : decode cX12_lanes 57 = .ok (.ireturn, 1) := by decide +kernel
theorem dX12_lanes_58 : decode cX12_lanes 58 = .ok (.iconst 0, 1) := by decide +kernel
theorem dX12_lanes_59 : decode cX12_lanes 59 = .ok (.istore 5, 2) := by decide +kernel
theorem dX12_lanes_61 : decode cX12_lanes 61 = .ok (.iconst 0, 1) := by decide +kernel
theorem dX12_lanes_62 : decode cX12_lanes 62 = .ok (.istore 6, 2) := by decide +kernel
theorem dX12_lanes_64 : decode cX12_lanes 64 = .ok (.iload 6, 2) := by decide +kernel
theorem dX12_lanes_66 : decode cX12_lanes 66 = .ok (.iload 4, 2) := by decide +kernel
theorem dX12_lanes_68 : decode cX12_lanes 68 = .ok (.if_icmp .ge 122, 3) := by decide +kernel
theorem dX12_lanes_71 : decode cX12_lanes 71 = .ok (.iload_n 3, 1) := by decide +kernel
theorem dX12_lanes_72 : decode cX12_lanes 72 = .ok (.ifCond .lt 20, 3) := by decide +kernel
theorem dX12_lanes_75 : decode cX12_lanes 75 = .ok (.iload_n 3, 1) := by decide +kernel
theorem dX12_lanes_76 : decode cX12_lanes 76 = .ok (.aload_n 0, 1) := by decide +kernel
theorem dX12_lanes_77 : decode cX12_lanes 77 = .ok (.getfield 44, 3) := by decide +kernel
theorem dX12_lanes_80 : decode cX12_lanes 80 = .ok (.iload_n 1, 1) := by decide +kernel
theorem dX12_lanes_81 : decode cX12_lanes 81 = .ok (.iaload, 1) := by decide +kernel
theorem dX12_lanes_82 : decode cX12_lanes 82 = .ok (.iconst 3, 1) := by decide +kernel
theorem dX12_lanes_83 : decode cX12_lanes 83 = .ok (.iload 6, 2) := by decide +kernel
theorem dX12_lanes_85 : decode cX12_lanes 85 = .ok (.imul, 1) := by decide +kernel
theorem dX12_lanes_86 : decode cX12_lanes 86 = .ok (.isub, 1) := by decide +kernel
theorem dX12_lanes_87 : decode cX12_lanes 87 = .ok (.iconst 3, 1) := by decide +kernel
theorem dX12_lanes_88 : decode cX12_lanes 88 = .ok (.isub, 1) := by decide +kernel
theorem dX12_lanes_89 : decode cX12_lanes 89 = .ok (.if_icmp .le 6, 3) := by decide +kernel
theorem dX12_lanes_92 : decode cX12_lanes 92 = .ok (.bipush (-12), 2) := by decide +kernel
theorem dX12_lanes_94 : decode cX12_lanes 94 = .ok (.ireturn, 1) := by decide +kernel
theorem dX12_lanes_95 : decode cX12_lanes 95 = .ok (.bipush 60, 2) := by decide +kernel
theorem dX12_lanes_97 : decode cX12_lanes 97 = .ok (.iload_n 1, 1) := by decide +kernel
theorem dX12_lanes_98 : decode cX12_lanes 98 = .ok (.imul, 1) := by decide +kernel
theorem dX12_lanes_99 : decode cX12_lanes 99 = .ok (.iload_n 3, 1) := by decide +kernel
theorem dX12_lanes_100 : decode cX12_lanes 100 = .ok (.iadd, 1) := by decide +kernel
theorem dX12_lanes_101 : decode cX12_lanes 101 = .ok (.iconst 3, 1) := by decide +kernel
theorem dX12_lanes_102 : decode cX12_lanes 102 = .ok (.iload 6, 2) := by decide +kernel
theorem dX12_lanes_104 : decode cX12_lanes 104 = .ok (.imul, 1) := by decide +kernel
theorem dX12_lanes_105 : decode cX12_lanes 105 = .ok (.iadd, 1) := by decide +kernel
theorem dX12_lanes_106 : decode cX12_lanes 106 = .ok (.istore 7, 2) := by decide +kernel
theorem dX12_lanes_108 : decode cX12_lanes 108 = .ok (.aload_n 0, 1) := by decide +kernel
theorem dX12_lanes_109 : decode cX12_lanes 109 = .ok (.aload_n 0, 1) := by decide +kernel
theorem dX12_lanes_110 : decode cX12_lanes 110 = .ok (.getfield 47, 3) := by decide +kernel
theorem dX12_lanes_113 : decode cX12_lanes 113 = .ok (.iload 7, 2) := by decide +kernel
theorem dX12_lanes_115 : decode cX12_lanes 115 = .ok (.iaload, 1) := by decide +kernel
theorem dX12_lanes_116 : decode cX12_lanes 116 = .ok (.aload_n 0, 1) := by decide +kernel
theorem dX12_lanes_117 : decode cX12_lanes 117 = .ok (.getfield 47, 3) := by decide +kernel
theorem dX12_lanes_120 : decode cX12_lanes 120 = .ok (.iload 7, 2) := by decide +kernel
theorem dX12_lanes_122 : decode cX12_lanes 122 = .ok (.iconst 1, 1) := by decide +kernel
theorem dX12_lanes_123 : decode cX12_lanes 123 = .ok (.iadd, 1) := by decide +kernel
theorem dX12_lanes_124 : decode cX12_lanes 124 = .ok (.iaload, 1) := by decide +kernel
theorem dX12_lanes_125 : decode cX12_lanes 125 = .ok (.aload_n 0, 1) := by decide +kernel
theorem dX12_lanes_126 : decode cX12_lanes 126 = .ok (.getfield 47, 3) := by decide +kernel
theorem dX12_lanes_129 : decode cX12_lanes 129 = .ok (.iload 7, 2) := by decide +kernel
theorem dX12_lanes_131 : decode cX12_lanes 131 = .ok (.iconst 2, 1) := by decide +kernel
theorem dX12_lanes_132 : decode cX12_lanes 132 = .ok (.iadd, 1) := by decide +kernel
theorem dX12_lanes_133 : decode cX12_lanes 133 = .ok (.iaload, 1) := by decide +kernel
theorem dX12_lanes_134 : decode cX12_lanes 134 = .ok (.invokevirtual 21, 3) := by decide +kernel
theorem dX12_lanes_137 : decode cX12_lanes 137 = .ok (.ifCond .eq 47, 3) := by decide +kernel
theorem dX12_lanes_140 : decode cX12_lanes 140 = .ok (.aload_n 0, 1) := by decide +kernel
theorem dX12_lanes_141 : decode cX12_lanes 141 = .ok (.getfield 1, 3) := by decide +kernel
theorem dX12_lanes_144 : decode cX12_lanes 144 = .ok (.bipush 8, 2) := by decide +kernel
theorem dX12_lanes_146 : decode cX12_lanes 146 = .ok (.if_icmp .ne 6, 3) := by decide +kernel
theorem dX12_lanes_149 : decode cX12_lanes 149 = .ok (.goto 35, 3) := by decide +kernel
theorem dX12_lanes_152 : decode cX12_lanes 152 = .ok (.aload_n 0, 1) := by decide +kernel
theorem dX12_lanes_153 : decode cX12_lanes 153 = .ok (.aload_n 0, 1) := by decide +kernel
theorem dX12_lanes_154 : decode cX12_lanes 154 = .ok (.getfield 47, 3) := by decide +kernel
theorem dX12_lanes_157 : decode cX12_lanes 157 = .ok (.iload 7, 2) := by decide +kernel
theorem dX12_lanes_159 : decode cX12_lanes 159 = .ok (.iaload, 1) := by decide +kernel
theorem dX12_lanes_160 : decode cX12_lanes 160 = .ok (.aload_n 0, 1) := by decide +kernel
theorem dX12_lanes_161 : decode cX12_lanes 161 = .ok (.getfield 47, 3) := by decide +kernel
theorem dX12_lanes_164 : decode cX12_lanes 164 = .ok (.iload 7, 2) := by decide +kernel
theorem dX12_lanes_166 : decode cX12_lanes 166 = .ok (.iconst 1, 1) := by decide +kernel
theorem dX12_lanes_167 : decode cX12_lanes 167 = .ok (.iadd, 1) := by decide +kernel
theorem dX12_lanes_168 : decode cX12_lanes 168 = .ok (.iaload, 1) := by decide +kernel
theorem dX12_lanes_169 : decode cX12_lanes 169 = .ok (.aload_n 0, 1) := by decide +kernel
theorem dX12_lanes_170 : decode cX12_lanes 170 = .ok (.getfield 47, 3) := by decide +kernel
theorem dX12_lanes_173 : decode cX12_lanes 173 = .ok (.iload 7, 2) := by decide +kernel
theorem dX12_lanes_175 : decode cX12_lanes 175 = .ok (.iconst 2, 1) := by decide +kernel
theorem dX12_lanes_176 : decode cX12_lanes 176 = .ok (.iadd, 1) := by decide +kernel
theorem dX12_lanes_177 : decode cX12_lanes 177 = .ok (.iaload, 1) := by decide +kernel
theorem dX12_lanes_178 : decode cX12_lanes 178 = .ok (.invokevirtual 24, 3) := by decide +kernel
theorem dX12_lanes_181 : decode cX12_lanes 181 = .ok (.iinc 5 1, 3) := by decide +kernel
theorem dX12_lanes_184 : decode cX12_lanes 184 = .ok (.iinc 6 1, 3) := by decide +kernel
theorem dX12_lanes_187 : decode cX12_lanes 187 = .ok (.goto (-123), 3) := by decide +kernel
theorem dX12_lanes_190 : decode cX12_lanes 190 = .ok (.iload 5, 2) := by decide +kernel
theorem dX12_lanes_192 : decode cX12_lanes 192 = .ok (.ireturn, 1) := by decide +kernel
theorem dX12_taken_0 : decode cX12_taken 0 = .ok (.aload_n 0, 1) := by decide +kernel
theorem dX12_taken_1 : decode cX12_taken 1 = .ok (.iload_n 2, 1) := by decide +kernel
theorem dX12_taken_2 : decode cX12_taken 2 = .ok (.iconst 0, 1) := by decide +kernel
theorem dX12_taken_3 : decode cX12_taken 3 = .ok (.iconst 5, 1) := by decide +kernel
theorem dX12_taken_4 : decode cX12_taken 4 = .ok (.invokevirtual 7, 3) := by decide +kernel
theorem dX12_taken_7 : decode cX12_taken 7 = .ok (.ifCond .ne 6, 3) := by decide +kernel
theorem dX12_taken_10 : decode cX12_taken 10 = .ok (.bipush (-2), 2) := by decide +kernel
theorem dX12_taken_12 : decode cX12_taken 12 = .ok (.ireturn, 1) := by decide +kernel
theorem dX12_taken_13 : decode cX12_taken 13 = .ok (.aload_n 0, 1) := by decide +kernel
theorem dX12_taken_14 : decode cX12_taken 14 = .ok (.iload_n 1, 1) := by decide +kernel
theorem dX12_taken_15 : decode cX12_taken 15 = .ok (.invokevirtual 53, 3) := by decide +kernel
theorem dX12_taken_18 : decode cX12_taken 18 = .ok (.ifCond .ne 6, 3) := by decide +kernel
theorem dX12_taken_21 : decode cX12_taken 21 = .ok (.bipush (-11), 2) := by decide +kernel
theorem dX12_taken_23 : decode cX12_taken 23 = .ok (.ireturn, 1) := by decide +kernel
theorem dX12_taken_24 : decode cX12_taken 24 = .ok (.aload_n 0, 1) := by decide +kernel
theorem dX12_taken_25 : decode cX12_taken 25 = .ok (.getfield 11, 3) := by decide +kernel
theorem dX12_taken_28 : decode cX12_taken 28 = .ok (.iload_n 1, 1) := by decide +kernel
theorem dX12_taken_29 : decode cX12_taken 29 = .ok (.iaload, 1) := by decide +kernel
theorem dX12_taken_30 : decode cX12_taken 30 = .ok (.istore_n 3, 1) := by decide +kernel
theorem dX12_taken_31 : decode cX12_taken 31 = .ok (.iload_n 2, 1) := by decide +kernel
theorem dX12_taken_32 : decode cX12_taken 32 = .ok (.ifCond .eq 28, 3) := by decide +kernel
theorem dX12_taken_35 : decode cX12_taken 35 = .ok (.iload_n 3, 1) := by decide +kernel
theorem dX12_taken_36 : decode cX12_taken 36 = .ok (.iload_n 2, 1) := by decide +kernel
theorem dX12_taken_37 : decode cX12_taken 37 = .ok (.if_icmp .eq 23, 3) := by decide +kernel
theorem dX12_taken_40 : decode cX12_taken 40 = .ok (.iload_n 2, 1) := by decide +kernel
theorem dX12_taken_41 : decode cX12_taken 41 = .ok (.iconst 1, 1) := by decide +kernel
theorem dX12_taken_42 : decode cX12_taken 42 = .ok (.if_icmp .ne 8, 3) := by decide +kernel
theorem dX12_taken_45 : decode cX12_taken 45 = .ok (.iload_n 3, 1) := by decide +kernel
theorem dX12_taken_46 : decode cX12_taken 46 = .ok (.iconst 3, 1) := by decide +kernel
theorem dX12_taken_47 : decode cX12_taken 47 = .ok (.if_icmp .eq 13, 3) := by decide +kernel
theorem dX12_taken_50 : decode cX12_taken 50 = .ok (.iload_n 2, 1) := by decide +kernel
theorem dX12_taken_51 : decode cX12_taken 51 = .ok (.iconst 2, 1) := by decide +kernel
theorem dX12_taken_52 : decode cX12_taken 52 = .ok (.if_icmp .ne 17, 3) := by decide +kernel
theorem dX12_taken_55 : decode cX12_taken 55 = .ok (.iload_n 3, 1) := by decide +kernel
theorem dX12_taken_56 : decode cX12_taken 56 = .ok (.iconst 4, 1) := by decide +kernel
theorem dX12_taken_57 : decode cX12_taken 57 = .ok (.if_icmp .ne 12, 3) := by decide +kernel
theorem dX12_taken_60 : decode cX12_taken 60 = .ok (.aload_n 0, 1) := by decide +kernel
theorem dX12_taken_61 : decode cX12_taken 61 = .ok (.getfield 15, 3) := by decide +kernel
theorem dX12_taken_64 : decode cX12_taken 64 = .ok (.iload_n 1, 1) := by decide +kernel
theorem dX12_taken_65 : decode cX12_taken 65 = .ok (.iaload, 1) := by decide +kernel
theorem dX12_taken_66 : decode cX12_taken 66 = .ok (.goto 5, 3) := by decide +kernel
theorem dX12_taken_69 : decode cX12_taken 69 = .ok (.bipush (-13), 2) := by decide +kernel
theorem dX12_taken_71 : decode cX12_taken 71 = .ok (.ireturn, 1) := by decide +kernel
theorem dJ9_max_7cf53_0 : decode cJ9_max_7cf53 0 = .ok (.iload_n 0, 1) := by decide +kernel
theorem dJ9_max_7cf53_1 : decode cJ9_max_7cf53 1 = .ok (.iload_n 1, 1) := by decide +kernel
theorem dJ9_max_7cf53_2 : decode cJ9_max_7cf53 2 = .ok (.if_icmp .lt 7, 3) := by decide +kernel
theorem dJ9_max_7cf53_5 : decode cJ9_max_7cf53 5 = .ok (.iload_n 0, 1) := by decide +kernel
theorem dJ9_max_7cf53_6 : decode cJ9_max_7cf53 6 = .ok (.goto 4, 3) := by decide +kernel
theorem dJ9_max_7cf53_9 : decode cJ9_max_7cf53 9 = .ok (.iload_n 1, 1) := by decide +kernel
theorem dJ9_max_7cf53_10 : decode cJ9_max_7cf53 10 = .ok (.ireturn, 1) := by decide +kernel
theorem dJ9_min_7cf53_0 : decode cJ9_min_7cf53 0 = .ok (.iload_n 0, 1) := by decide +kernel
theorem dJ9_min_7cf53_1 : decode cJ9_min_7cf53 1 = .ok (.iload_n 1, 1) := by decide +kernel
theorem dJ9_min_7cf53_2 : decode cJ9_min_7cf53 2 = .ok (.if_icmp .gt 7, 3) := by decide +kernel
theorem dJ9_min_7cf53_5 : decode cJ9_min_7cf53 5 = .ok (.iload_n 0, 1) := by decide +kernel
theorem dJ9_min_7cf53_6 : decode cJ9_min_7cf53 6 = .ok (.goto 4, 3) := by decide +kernel
theorem dJ9_min_7cf53_9 : decode cJ9_min_7cf53 9 = .ok (.iload_n 1, 1) := by decide +kernel
theorem dJ9_min_7cf53_10 : decode cJ9_min_7cf53 10 = .ok (.ireturn, 1) := by decide +kernel
theorem dJ0_length_8abf5_0 : decode cJ0_length_8abf5 0 = .ok (.aload_n 0, 1) := by decide +kernel
theorem dJ0_length_8abf5_1 : decode cJ0_length_8abf5 1 = .ok (.getfield 9, 3) := by decide +kernel
theorem dJ0_length_8abf5_4 : decode cJ0_length_8abf5 4 = .ok (.arraylength, 1) := by decide +kernel
theorem dJ0_length_8abf5_5 : decode cJ0_length_8abf5 5 = .ok (.aload_n 0, 1) := by decide +kernel
theorem dJ0_length_8abf5_6 : decode cJ0_length_8abf5 6 = .ok (.invokevirtual 335, 3) := by decide +kernel
theorem dJ0_length_8abf5_9 : decode cJ0_length_8abf5 9 = .ok (.ishr, 1) := by decide +kernel
theorem dJ0_length_8abf5_10 : decode cJ0_length_8abf5 10 = .ok (.ireturn, 1) := by decide +kernel
theorem dJ0_charAt_5068e_0 : decode cJ0_charAt_5068e 0 = .ok (.aload_n 0, 1) := by decide +kernel
theorem dJ0_charAt_5068e_1 : decode cJ0_charAt_5068e 1 = .ok (.invokevirtual 492, 3) := by decide +kernel
theorem dJ0_charAt_5068e_4 : decode cJ0_charAt_5068e 4 = .ok (.ifCond .eq 12, 3) := by decide +kernel
theorem dJ0_charAt_5068e_7 : decode cJ0_charAt_5068e 7 = .ok (.aload_n 0, 1) := by decide +kernel
theorem dJ0_charAt_5068e_8 : decode cJ0_charAt_5068e 8 = .ok (.getfield 9, 3) := by decide +kernel
theorem dJ0_charAt_5068e_11 : decode cJ0_charAt_5068e 11 = .ok (.iload_n 1, 1) := by decide +kernel
theorem dJ0_charAt_5068e_12 : decode cJ0_charAt_5068e 12 = .ok (.invokestatic 495, 3) := by decide +kernel
theorem dJ0_charAt_5068e_15 : decode cJ0_charAt_5068e 15 = .ok (.ireturn, 1) := by decide +kernel
theorem dJ0_charAt_5068e_16 : decode cJ0_charAt_5068e 16 = .ok (.aload_n 0, 1) := by decide +kernel
theorem dJ0_charAt_5068e_17 : decode cJ0_charAt_5068e 17 = .ok (.getfield 9, 3) := by decide +kernel
theorem dJ0_charAt_5068e_20 : decode cJ0_charAt_5068e 20 = .ok (.iload_n 1, 1) := by decide +kernel
theorem dJ0_charAt_5068e_21 : decode cJ0_charAt_5068e 21 = .ok (.invokestatic 498, 3) := by decide +kernel
theorem dJ0_charAt_5068e_24 : decode cJ0_charAt_5068e 24 = .ok (.ireturn, 1) := by decide +kernel
theorem dJ0_indexOf_0f7a4_0 : decode cJ0_indexOf_0f7a4 0 = .ok (.aload_n 0, 1) := by decide +kernel
theorem dJ0_indexOf_0f7a4_1 : decode cJ0_indexOf_0f7a4 1 = .ok (.iload_n 1, 1) := by decide +kernel
theorem dJ0_indexOf_0f7a4_2 : decode cJ0_indexOf_0f7a4 2 = .ok (.iconst 0, 1) := by decide +kernel
theorem dJ0_indexOf_0f7a4_3 : decode cJ0_indexOf_0f7a4 3 = .ok (.invokevirtual 633, 3) := by decide +kernel
theorem dJ0_indexOf_0f7a4_6 : decode cJ0_indexOf_0f7a4 6 = .ok (.ireturn, 1) := by decide +kernel
theorem dJ0_indexOf_7cf53_0 : decode cJ0_indexOf_7cf53 0 = .ok (.aload_n 0, 1) := by decide +kernel
theorem dJ0_indexOf_7cf53_1 : decode cJ0_indexOf_7cf53 1 = .ok (.invokevirtual 492, 3) := by decide +kernel
theorem dJ0_indexOf_7cf53_4 : decode cJ0_indexOf_7cf53 4 = .ok (.ifCond .eq 19, 3) := by decide +kernel
theorem dJ0_indexOf_7cf53_7 : decode cJ0_indexOf_7cf53 7 = .ok (.aload_n 0, 1) := by decide +kernel
theorem dJ0_indexOf_7cf53_8 : decode cJ0_indexOf_7cf53 8 = .ok (.getfield 9, 3) := by decide +kernel
theorem dJ0_indexOf_7cf53_11 : decode cJ0_indexOf_7cf53 11 = .ok (.iload_n 1, 1) := by decide +kernel
theorem dJ0_indexOf_7cf53_12 : decode cJ0_indexOf_7cf53 12 = .ok (.iload_n 2, 1) := by decide +kernel
theorem dJ0_indexOf_7cf53_13 : decode cJ0_indexOf_7cf53 13 = .ok (.aload_n 0, 1) := by decide +kernel
theorem dJ0_indexOf_7cf53_14 : decode cJ0_indexOf_7cf53 14 = .ok (.invokevirtual 505, 3) := by decide +kernel
theorem dJ0_indexOf_7cf53_17 : decode cJ0_indexOf_7cf53 17 = .ok (.invokestatic 637, 3) := by decide +kernel
theorem dJ0_indexOf_7cf53_20 : decode cJ0_indexOf_7cf53 20 = .ok (.goto 16, 3) := by decide +kernel
theorem dJ0_indexOf_7cf53_23 : decode cJ0_indexOf_7cf53 23 = .ok (.aload_n 0, 1) := by decide +kernel
theorem dJ0_indexOf_7cf53_24 : decode cJ0_indexOf_7cf53 24 = .ok (.getfield 9, 3) := by decide +kernel
theorem dJ0_indexOf_7cf53_27 : decode cJ0_indexOf_7cf53 27 = .ok (.iload_n 1, 1) := by decide +kernel
theorem dJ0_indexOf_7cf53_28 : decode cJ0_indexOf_7cf53 28 = .ok (.iload_n 2, 1) := by decide +kernel
theorem dJ0_indexOf_7cf53_29 : decode cJ0_indexOf_7cf53 29 = .ok (.aload_n 0, 1) := by decide +kernel
theorem dJ0_indexOf_7cf53_30 : decode cJ0_indexOf_7cf53 30 = .ok (.invokevirtual 505, 3) := by decide +kernel
theorem dJ0_indexOf_7cf53_33 : decode cJ0_indexOf_7cf53 33 = .ok (.invokestatic 640, 3) := by decide +kernel
theorem dJ0_indexOf_7cf53_36 : decode cJ0_indexOf_7cf53 36 = .ok (.ireturn, 1) := by decide +kernel
theorem dJ0_coder_7d493_0 : decode cJ0_coder_7d493 0 = .ok (.getstatic 38, 3) := by decide +kernel
theorem dJ0_coder_7d493_3 : decode cJ0_coder_7d493 3 = .ok (.ifCond .eq 10, 3) := by decide +kernel
theorem dJ0_coder_7d493_6 : decode cJ0_coder_7d493 6 = .ok (.aload_n 0, 1) := by decide +kernel
theorem dJ0_coder_7d493_7 : decode cJ0_coder_7d493 7 = .ok (.getfield 15, 3) := by decide +kernel
theorem dJ0_coder_7d493_10 : decode cJ0_coder_7d493 10 = .ok (.goto 4, 3) := by decide +kernel
theorem dJ0_coder_7d493_13 : decode cJ0_coder_7d493 13 = .ok (.iconst 1, 1) := by decide +kernel
theorem dJ0_coder_7d493_14 : decode cJ0_coder_7d493 14 = .ok (.ireturn, 1) := by decide +kernel
theorem dJ0_isLatin1_aae02_0 : decode cJ0_isLatin1_aae02 0 = .ok (.getstatic 38, 3) := by decide +kernel
theorem dJ0_isLatin1_aae02_3 : decode cJ0_isLatin1_aae02 3 = .ok (.ifCond .eq 14, 3) := by decide +kernel
theorem dJ0_isLatin1_aae02_6 : decode cJ0_isLatin1_aae02 6 = .ok (.aload_n 0, 1) := by decide +kernel
theorem dJ0_isLatin1_aae02_7 : decode cJ0_isLatin1_aae02 7 = .ok (.getfield 15, 3) := by decide +kernel
theorem dJ0_isLatin1_aae02_10 : decode cJ0_isLatin1_aae02 10 = .ok (.ifCond .ne 7, 3) := by decide +kernel
theorem dJ0_isLatin1_aae02_13 : decode cJ0_isLatin1_aae02 13 = .ok (.iconst 1, 1) := by decide +kernel
theorem dJ0_isLatin1_aae02_14 : decode cJ0_isLatin1_aae02 14 = .ok (.goto 4, 3) := by decide +kernel
theorem dJ0_isLatin1_aae02_17 : decode cJ0_isLatin1_aae02 17 = .ok (.iconst 0, 1) := by decide +kernel
theorem dJ0_isLatin1_aae02_18 : decode cJ0_isLatin1_aae02 18 = .ok (.ireturn, 1) := by decide +kernel
theorem dJ0_checkIndex_df160_0 : decode cJ0_checkIndex_df160 0 = .ok (.iload_n 0, 1) := by decide +kernel
theorem dJ0_checkIndex_df160_1 : decode cJ0_checkIndex_df160 1 = .ok (.iload_n 1, 1) := by decide +kernel
theorem dJ0_checkIndex_df160_2 : decode cJ0_checkIndex_df160 2 = .ok (.getstatic 1053, 3) := by decide +kernel
theorem dJ0_checkIndex_df160_5 : decode cJ0_checkIndex_df160 5 = .ok (.invokestatic 1059, 3) := by decide +kernel
theorem dJ0_checkIndex_df160_8 : decode cJ0_checkIndex_df160 8 = .ok (.pop, 1) := by decide +kernel
theorem dJ0_checkIndex_df160_9 : decode cJ0_checkIndex_df160 9 = .ok (.return_, 1) := by decide +kernel
theorem dJ0_checkBoundsBeginEnd_23922_0 : decode cJ0_checkBoundsBeginEnd_23922 0 = .ok (.iload_n 0, 1) := by decide +kernel
theorem dJ0_checkBoundsBeginEnd_23922_1 : decode cJ0_checkBoundsBeginEnd_23922 1 = .ok (.iload_n 1, 1) := by decide +kernel
theorem dJ0_checkBoundsBeginEnd_23922_2 : decode cJ0_checkBoundsBeginEnd_23922 2 = .ok (.iload_n 2, 1) := by decide +kernel
theorem dJ0_checkBoundsBeginEnd_23922_3 : decode cJ0_checkBoundsBeginEnd_23922 3 = .ok (.getstatic 1053, 3) := by decide +kernel
theorem dJ0_checkBoundsBeginEnd_23922_6 : decode cJ0_checkBoundsBeginEnd_23922 6 = .ok (.invokestatic 1062, 3) := by decide +kernel
theorem dJ0_checkBoundsBeginEnd_23922_9 : decode cJ0_checkBoundsBeginEnd_23922 9 = .ok (.pop, 1) := by decide +kernel
theorem dJ0_checkBoundsBeginEnd_23922_10 : decode cJ0_checkBoundsBeginEnd_23922 10 = .ok (.return_, 1) := by decide +kernel
theorem dJ1_charAt_3b067_0 : decode cJ1_charAt_3b067 0 = .ok (.iload_n 1, 1) := by decide +kernel
theorem dJ1_charAt_3b067_1 : decode cJ1_charAt_3b067 1 = .ok (.aload_n 0, 1) := by decide +kernel
theorem dJ1_charAt_3b067_2 : decode cJ1_charAt_3b067 2 = .ok (.arraylength, 1) := by decide +kernel
theorem dJ1_charAt_3b067_3 : decode cJ1_charAt_3b067 3 = .ok (.invokestatic 9, 3) := by decide +kernel
theorem dJ1_charAt_3b067_6 : decode cJ1_charAt_3b067 6 = .ok (.aload_n 0, 1) := by decide +kernel
theorem dJ1_charAt_3b067_7 : decode cJ1_charAt_3b067 7 = .ok (.iload_n 1, 1) := by decide +kernel
theorem dJ1_charAt_3b067_8 : decode cJ1_charAt_3b067 8 = .ok (.baload, 1) := by decide +kernel
theorem dJ1_charAt_3b067_9 : decode cJ1_charAt_3b067 9 = .ok (.sipush 255, 3) := by decide +kernel
theorem dJ1_charAt_3b067_12 : decode cJ1_charAt_3b067 12 = .ok (.iand, 1) := by decide +kernel
theorem dJ1_charAt_3b067_13 : decode cJ1_charAt_3b067 13 = .ok (.i2c, 1) := by decide +kernel
theorem dJ1_charAt_3b067_14 : decode cJ1_charAt_3b067 14 = .ok (.ireturn, 1) := by decide +kernel
theorem dJ1_canEncode_9a6ad_0 : decode cJ1_canEncode_9a6ad 0 = .ok (.iload_n 0, 1) := by decide +kernel
theorem dJ1_canEncode_9a6ad_1 : decode cJ1_canEncode_9a6ad 1 = .ok (.ifCond .lt 14, 3) := by decide +kernel
theorem dJ1_canEncode_9a6ad_4 : decode cJ1_canEncode_9a6ad 4 = .ok (.iload_n 0, 1) := by decide +kernel
theorem dJ1_canEncode_9a6ad_5 : decode cJ1_canEncode_9a6ad 5 = .ok (.sipush 255, 3) := by decide +kernel
theorem dJ1_canEncode_9a6ad_8 : decode cJ1_canEncode_9a6ad 8 = .ok (.if_icmp .gt 7, 3) := by decide +kernel
theorem dJ1_canEncode_9a6ad_11 : decode cJ1_canEncode_9a6ad 11 = .ok (.iconst 1, 1) := by decide +kernel
theorem dJ1_canEncode_9a6ad_12 : decode cJ1_canEncode_9a6ad 12 = .ok (.goto 4, 3) := by decide +kernel
theorem dJ1_canEncode_9a6ad_15 : decode cJ1_canEncode_9a6ad 15 = .ok (.iconst 0, 1) := by decide +kernel
theorem dJ1_canEncode_9a6ad_16 : decode cJ1_canEncode_9a6ad 16 = .ok (.ireturn, 1) := by decide +kernel
theorem dJ1_indexOf_4cfef_0 : decode cJ1_indexOf_4cfef 0 = .ok (.iload_n 1, 1) := by decide +kernel
theorem dJ1_indexOf_4cfef_1 : decode cJ1_indexOf_4cfef 1 = .ok (.invokestatic 88, 3) := by decide +kernel
theorem dJ1_indexOf_4cfef_4 : decode cJ1_indexOf_4cfef 4 = .ok (.ifCond .ne 5, 3) := by decide +kernel
theorem dJ1_indexOf_4cfef_7 : decode cJ1_indexOf_4cfef 7 = .ok (.iconst (-1), 1) := by decide +kernel
theorem dJ1_indexOf_4cfef_8 : decode cJ1_indexOf_4cfef 8 = .ok (.ireturn, 1) := by decide +kernel
theorem dJ1_indexOf_4cfef_9 : decode cJ1_indexOf_4cfef 9 = .ok (.iload_n 2, 1) := by decide +kernel
theorem dJ1_indexOf_4cfef_10 : decode cJ1_indexOf_4cfef 10 = .ok (.iconst 0, 1) := by decide +kernel
theorem dJ1_indexOf_4cfef_11 : decode cJ1_indexOf_4cfef 11 = .ok (.invokestatic 92, 3) := by decide +kernel
theorem dJ1_indexOf_4cfef_14 : decode cJ1_indexOf_4cfef 14 = .ok (.istore_n 2, 1) := by decide +kernel
theorem dJ1_indexOf_4cfef_15 : decode cJ1_indexOf_4cfef 15 = .ok (.iload_n 3, 1) := by decide +kernel
theorem dJ1_indexOf_4cfef_16 : decode cJ1_indexOf_4cfef 16 = .ok (.aload_n 0, 1) := by decide +kernel
theorem dJ1_indexOf_4cfef_17 : decode cJ1_indexOf_4cfef 17 = .ok (.arraylength, 1) := by decide +kernel
theorem dJ1_indexOf_4cfef_18 : decode cJ1_indexOf_4cfef 18 = .ok (.invokestatic 38, 3) := by decide +kernel
theorem dJ1_indexOf_4cfef_21 : decode cJ1_indexOf_4cfef 21 = .ok (.istore_n 3, 1) := by decide +kernel
theorem dJ1_indexOf_4cfef_22 : decode cJ1_indexOf_4cfef 22 = .ok (.iload_n 2, 1) := by decide +kernel
theorem dJ1_indexOf_4cfef_23 : decode cJ1_indexOf_4cfef 23 = .ok (.iload_n 3, 1) := by decide +kernel
theorem dJ1_indexOf_4cfef_24 : decode cJ1_indexOf_4cfef 24 = .ok (.if_icmp .lt 5, 3) := by decide +kernel
theorem dJ1_indexOf_4cfef_27 : decode cJ1_indexOf_4cfef 27 = .ok (.iconst (-1), 1) := by decide +kernel
theorem dJ1_indexOf_4cfef_28 : decode cJ1_indexOf_4cfef 28 = .ok (.ireturn, 1) := by decide +kernel
theorem dJ1_indexOf_4cfef_29 : decode cJ1_indexOf_4cfef 29 = .ok (.aload_n 0, 1) := by decide +kernel
theorem dJ1_indexOf_4cfef_30 : decode cJ1_indexOf_4cfef 30 = .ok (.iload_n 1, 1) := by decide +kernel
theorem dJ1_indexOf_4cfef_31 : decode cJ1_indexOf_4cfef 31 = .ok (.iload_n 2, 1) := by decide +kernel
theorem dJ1_indexOf_4cfef_32 : decode cJ1_indexOf_4cfef 32 = .ok (.iload_n 3, 1) := by decide +kernel
theorem dJ1_indexOf_4cfef_33 : decode cJ1_indexOf_4cfef 33 = .ok (.invokestatic 95, 3) := by decide +kernel
theorem dJ1_indexOf_4cfef_36 : decode cJ1_indexOf_4cfef 36 = .ok (.ireturn, 1) := by decide +kernel
theorem dJ1_indexOfChar_4cfef_0 : decode cJ1_indexOfChar_4cfef 0 = .ok (.iload_n 1, 1) := by decide +kernel
theorem dJ1_indexOfChar_4cfef_1 : decode cJ1_indexOfChar_4cfef 1 = .ok (.i2b, 1) := by decide +kernel
theorem dJ1_indexOfChar_4cfef_2 : decode cJ1_indexOfChar_4cfef 2 = .ok (.istore 4, 2) := by decide +kernel
theorem dJ1_indexOfChar_4cfef_4 : decode cJ1_indexOfChar_4cfef 4 = .ok (.iload_n 2, 1) := by decide +kernel
theorem dJ1_indexOfChar_4cfef_5 : decode cJ1_indexOfChar_4cfef 5 = .ok (.istore 5, 2) := by decide +kernel
theorem dJ1_indexOfChar_4cfef_7 : decode cJ1_indexOfChar_4cfef 7 = .ok (.iload 5, 2) := by decide +kernel
theorem dJ1_indexOfChar_4cfef_9 : decode cJ1_indexOfChar_4cfef 9 = .ok (.iload_n 3, 1) := by decide +kernel
theorem dJ1_indexOfChar_4cfef_10 : decode cJ1_indexOfChar_4cfef 10 = .ok (.if_icmp .ge 21, 3) := by decide +kernel
theorem dJ1_indexOfChar_4cfef_13 : decode cJ1_indexOfChar_4cfef 13 = .ok (.aload_n 0, 1) := by decide +kernel
theorem dJ1_indexOfChar_4cfef_14 : decode cJ1_indexOfChar_4cfef 14 = .ok (.iload 5, 2) := by decide +kernel
theorem dJ1_indexOfChar_4cfef_16 : decode cJ1_indexOfChar_4cfef 16 = .ok (.baload, 1) := by decide +kernel
theorem dJ1_indexOfChar_4cfef_17 : decode cJ1_indexOfChar_4cfef 17 = .ok (.iload 4, 2) := by decide +kernel
theorem dJ1_indexOfChar_4cfef_19 : decode cJ1_indexOfChar_4cfef 19 = .ok (.if_icmp .ne 6, 3) := by decide +kernel
theorem dJ1_indexOfChar_4cfef_22 : decode cJ1_indexOfChar_4cfef 22 = .ok (.iload 5, 2) := by decide +kernel
theorem dJ1_indexOfChar_4cfef_24 : decode cJ1_indexOfChar_4cfef 24 = .ok (.ireturn, 1) := by decide +kernel
theorem dJ1_indexOfChar_4cfef_25 : decode cJ1_indexOfChar_4cfef 25 = .ok (.iinc 5 1, 3) := by decide +kernel
theorem dJ1_indexOfChar_4cfef_28 : decode cJ1_indexOfChar_4cfef 28 = .ok (.goto (-21), 3) := by decide +kernel
theorem dJ1_indexOfChar_4cfef_31 : decode cJ1_indexOfChar_4cfef 31 = .ok (.iconst (-1), 1) := by decide +kernel
theorem dJ1_indexOfChar_4cfef_32 : decode cJ1_indexOfChar_4cfef 32 = .ok (.ireturn, 1) := by decide +kernel
theorem dJ7_fill_d0a16_0 : decode cJ7_fill_d0a16 0 = .ok (.iconst 0, 1) := by decide +kernel
theorem dJ7_fill_d0a16_1 : decode cJ7_fill_d0a16 1 = .ok (.istore_n 3, 1) := by decide +kernel
theorem dJ7_fill_d0a16_2 : decode cJ7_fill_d0a16 2 = .ok (.aload_n 0, 1) := by decide +kernel
theorem dJ7_fill_d0a16_3 : decode cJ7_fill_d0a16 3 = .ok (.arraylength, 1) := by decide +kernel
theorem dJ7_fill_d0a16_4 : decode cJ7_fill_d0a16 4 = .ok (.istore 4, 2) := by decide +kernel
theorem dJ7_fill_d0a16_6 : decode cJ7_fill_d0a16 6 = .ok (.iload_n 3, 1) := by decide +kernel
theorem dJ7_fill_d0a16_7 : decode cJ7_fill_d0a16 7 = .ok (.iload 4, 2) := by decide +kernel
theorem dJ7_fill_d0a16_9 : decode cJ7_fill_d0a16 9 = .ok (.if_icmp .ge 13, 3) := by decide +kernel
theorem dJ7_fill_d0a16_12 : decode cJ7_fill_d0a16 12 = .ok (.aload_n 0, 1) := by decide +kernel
theorem dJ7_fill_d0a16_13 : decode cJ7_fill_d0a16 13 = .ok (.iload_n 3, 1) := by decide +kernel
theorem dJ7_fill_d0a16_14 : decode cJ7_fill_d0a16 14 = .ok (.lload_n 1, 1) := by decide +kernel
theorem dJ7_fill_d0a16_15 : decode cJ7_fill_d0a16 15 = .ok (.lastore, 1) := by decide +kernel
theorem dJ7_fill_d0a16_16 : decode cJ7_fill_d0a16 16 = .ok (.iinc 3 1, 3) := by decide +kernel
theorem dJ7_fill_d0a16_19 : decode cJ7_fill_d0a16 19 = .ok (.goto (-13), 3) := by decide +kernel
theorem dJ7_fill_d0a16_22 : decode cJ7_fill_d0a16 22 = .ok (.return_, 1) := by decide +kernel
theorem dJ7_fill_53178_0 : decode cJ7_fill_53178 0 = .ok (.iconst 0, 1) := by decide +kernel
theorem dJ7_fill_53178_1 : decode cJ7_fill_53178 1 = .ok (.istore_n 2, 1) := by decide +kernel
theorem dJ7_fill_53178_2 : decode cJ7_fill_53178 2 = .ok (.aload_n 0, 1) := by decide +kernel
theorem dJ7_fill_53178_3 : decode cJ7_fill_53178 3 = .ok (.arraylength, 1) := by decide +kernel
theorem dJ7_fill_53178_4 : decode cJ7_fill_53178 4 = .ok (.istore_n 3, 1) := by decide +kernel
theorem dJ7_fill_53178_5 : decode cJ7_fill_53178 5 = .ok (.iload_n 2, 1) := by decide +kernel
theorem dJ7_fill_53178_6 : decode cJ7_fill_53178 6 = .ok (.iload_n 3, 1) := by decide +kernel
theorem dJ7_fill_53178_7 : decode cJ7_fill_53178 7 = .ok (.if_icmp .ge 13, 3) := by decide +kernel
theorem dJ7_fill_53178_10 : decode cJ7_fill_53178 10 = .ok (.aload_n 0, 1) := by decide +kernel
theorem dJ7_fill_53178_11 : decode cJ7_fill_53178 11 = .ok (.iload_n 2, 1) := by decide +kernel
theorem dJ7_fill_53178_12 : decode cJ7_fill_53178 12 = .ok (.iload_n 1, 1) := by decide +kernel
theorem dJ7_fill_53178_13 : decode cJ7_fill_53178 13 = .ok (.iastore, 1) := by decide +kernel
theorem dJ7_fill_53178_14 : decode cJ7_fill_53178 14 = .ok (.iinc 2 1, 3) := by decide +kernel
theorem dJ7_fill_53178_17 : decode cJ7_fill_53178 17 = .ok (.goto (-12), 3) := by decide +kernel
theorem dJ7_fill_53178_20 : decode cJ7_fill_53178 20 = .ok (.return_, 1) := by decide +kernel
theorem dJ3_checkIndex_8e157_0 : decode cJ3_checkIndex_8e157 0 = .ok (.iload_n 0, 1) := by decide +kernel
theorem dJ3_checkIndex_8e157_1 : decode cJ3_checkIndex_8e157 1 = .ok (.ifCond .lt 8, 3) := by decide +kernel
theorem dJ3_checkIndex_8e157_4 : decode cJ3_checkIndex_8e157 4 = .ok (.iload_n 0, 1) := by decide +kernel
theorem dJ3_checkIndex_8e157_5 : decode cJ3_checkIndex_8e157 5 = .ok (.iload_n 1, 1) := by decide +kernel
theorem dJ3_checkIndex_8e157_6 : decode cJ3_checkIndex_8e157 6 = .ok (.if_icmp .lt 10, 3) := by decide +kernel
theorem dJ3_checkIndex_8e157_9 : decode cJ3_checkIndex_8e157 9 = .ok (.aload_n 2, 1) := by decide +kernel
theorem dJ3_checkIndex_8e157_10 : decode cJ3_checkIndex_8e157 10 = .ok (.iload_n 0, 1) := by decide +kernel
theorem dJ3_checkIndex_8e157_11 : decode cJ3_checkIndex_8e157 11 = .ok (.iload_n 1, 1) := by decide +kernel
theorem dJ3_checkIndex_8e157_12 : decode cJ3_checkIndex_8e157 12 = .ok (.invokestatic 95, 3) := by decide +kernel
theorem dJ3_checkIndex_8e157_15 : decode cJ3_checkIndex_8e157 15 = .ok (.athrow, 1) := by decide +kernel
theorem dJ3_checkIndex_8e157_16 : decode cJ3_checkIndex_8e157 16 = .ok (.iload_n 0, 1) := by decide +kernel
theorem dJ3_checkIndex_8e157_17 : decode cJ3_checkIndex_8e157 17 = .ok (.ireturn, 1) := by decide +kernel
theorem dJ3_checkFromToIndex_8c36e_0 : decode cJ3_checkFromToIndex_8c36e 0 = .ok (.iload_n 0, 1) := by decide +kernel
theorem dJ3_checkFromToIndex_8c36e_1 : decode cJ3_checkFromToIndex_8c36e 1 = .ok (.ifCond .lt 13, 3) := by decide +kernel
theorem dJ3_checkFromToIndex_8c36e_4 : decode cJ3_checkFromToIndex_8c36e 4 = .ok (.iload_n 0, 1) := by decide +kernel
theorem dJ3_checkFromToIndex_8c36e_5 : decode cJ3_checkFromToIndex_8c36e 5 = .ok (.iload_n 1, 1) := by decide +kernel
theorem dJ3_checkFromToIndex_8c36e_6 : decode cJ3_checkFromToIndex_8c36e 6 = .ok (.if_icmp .gt 8, 3) := by decide +kernel
theorem dJ3_checkFromToIndex_8c36e_9 : decode cJ3_checkFromToIndex_8c36e 9 = .ok (.iload_n 1, 1) := by decide +kernel
theorem dJ3_checkFromToIndex_8c36e_10 : decode cJ3_checkFromToIndex_8c36e 10 = .ok (.iload_n 2, 1) := by decide +kernel
theorem dJ3_checkFromToIndex_8c36e_11 : decode cJ3_checkFromToIndex_8c36e 11 = .ok (.if_icmp .le 11, 3) := by decide +kernel
theorem dJ3_checkFromToIndex_8c36e_14 : decode cJ3_checkFromToIndex_8c36e 14 = .ok (.aload_n 3, 1) := by decide +kernel
theorem dJ3_checkFromToIndex_8c36e_15 : decode cJ3_checkFromToIndex_8c36e 15 = .ok (.iload_n 0, 1) := by decide +kernel
theorem dJ3_checkFromToIndex_8c36e_16 : decode cJ3_checkFromToIndex_8c36e 16 = .ok (.iload_n 1, 1) := by decide +kernel
theorem dJ3_checkFromToIndex_8c36e_17 : decode cJ3_checkFromToIndex_8c36e 17 = .ok (.iload_n 2, 1) := by decide +kernel
theorem dJ3_checkFromToIndex_8c36e_18 : decode cJ3_checkFromToIndex_8c36e 18 = .ok (.invokestatic 99, 3) := by decide +kernel
theorem dJ3_checkFromToIndex_8c36e_21 : decode cJ3_checkFromToIndex_8c36e 21 = .ok (.athrow, 1) := by decide +kernel
theorem dJ3_checkFromToIndex_8c36e_22 : decode cJ3_checkFromToIndex_8c36e 22 = .ok (.iload_n 0, 1) := by decide +kernel
theorem dJ3_checkFromToIndex_8c36e_23 : decode cJ3_checkFromToIndex_8c36e 23 = .ok (.ireturn, 1) := by decide +kernel
theorem dL_law_0 : decode cL_law 0 = .ok (.new 7, 3) := by decide +kernel
theorem dL_law_3 : decode cL_law 3 = .ok (.dup, 1) := by decide +kernel
theorem dL_law_4 : decode cL_law 4 = .ok (.invokespecial 9, 3) := by decide +kernel
theorem dL_law_7 : decode cL_law 7 = .ok (.astore_n 1, 1) := by decide +kernel
theorem dL_law_8 : decode cL_law 8 = .ok (.new 10, 3) := by decide +kernel
theorem dL_law_11 : decode cL_law 11 = .ok (.dup, 1) := by decide +kernel
theorem dL_law_12 : decode cL_law 12 = .ok (.invokespecial 12, 3) := by decide +kernel
theorem dL_law_15 : decode cL_law 15 = .ok (.astore_n 2, 1) := by decide +kernel
theorem dL_law_16 : decode cL_law 16 = .ok (.iconst 0, 1) := by decide +kernel
theorem dL_law_17 : decode cL_law 17 = .ok (.istore_n 3, 1) := by decide +kernel
theorem dL_law_18 : decode cL_law 18 = .ok (.iload_n 3, 1) := by decide +kernel
theorem dL_law_19 : decode cL_law 19 = .ok (.aload_n 0, 1) := by decide +kernel
theorem dL_law_20 : decode cL_law 20 = .ok (.arraylength, 1) := by decide +kernel
theorem dL_law_21 : decode cL_law 21 = .ok (.bipush 6, 2) := by decide +kernel
theorem dL_law_23 : decode cL_law 23 = .ok (.isub, 1) := by decide +kernel
theorem dL_law_24 : decode cL_law 24 = .ok (.if_icmp .gt 945, 3) := by decide +kernel
theorem dL_law_27 : decode cL_law 27 = .ok (.aload_n 0, 1) := by decide +kernel
theorem dL_law_28 : decode cL_law 28 = .ok (.iload_n 3, 1) := by decide +kernel
theorem dL_law_29 : decode cL_law 29 = .ok (.iaload, 1) := by decide +kernel
theorem dL_law_30 : decode cL_law 30 = .ok (.bipush 31, 2) := by decide +kernel
theorem dL_law_32 : decode cL_law 32 = .ok (.iand, 1) := by decide +kernel
theorem dL_law_33 : decode cL_law 33 = .ok (.tableswitch 930 0 22 #[107, 150, 193, 226, 269, 312, 375, 388, 411, 445, 488, 522, 556, 589, 623, 646, 659, 672, 695, 738, 781, 844, 897], 107) := by decide +kernel
theorem dL_law_140 : decode cL_law 140 = .ok (.aload_n 1, 1) := by decide +kernel
theorem dL_law_141 : decode cL_law 141 = .ok (.aload_n 0, 1) := by decide +kernel
theorem dL_law_142 : decode cL_law 142 = .ok (.iload_n 3, 1) := by decide +kernel
theorem dL_law_143 : decode cL_law 143 = .ok (.iconst 1, 1) := by decide +kernel
theorem dL_law_144 : decode cL_law 144 = .ok (.iadd, 1) := by decide +kernel
theorem dL_law_145 : decode cL_law 145 = .ok (.iaload, 1) := by decide +kernel
theorem dL_law_146 : decode cL_law 146 = .ok (.aload_n 0, 1) := by decide +kernel
theorem dL_law_147 : decode cL_law 147 = .ok (.iload_n 3, 1) := by decide +kernel
theorem dL_law_148 : decode cL_law 148 = .ok (.iconst 2, 1) := by decide +kernel
theorem dL_law_149 : decode cL_law 149 = .ok (.iadd, 1) := by decide +kernel
theorem dL_law_150 : decode cL_law 150 = .ok (.iaload, 1) := by decide +kernel
theorem dL_law_151 : decode cL_law 151 = .ok (.aload_n 0, 1) := by decide +kernel
theorem dL_law_152 : decode cL_law 152 = .ok (.iload_n 3, 1) := by decide +kernel
theorem dL_law_153 : decode cL_law 153 = .ok (.iconst 3, 1) := by decide +kernel
theorem dL_law_154 : decode cL_law 154 = .ok (.iadd, 1) := by decide +kernel
theorem dL_law_155 : decode cL_law 155 = .ok (.iaload, 1) := by decide +kernel
theorem dL_law_156 : decode cL_law 156 = .ok (.invokevirtual 13, 3) := by decide +kernel
theorem dL_law_159 : decode cL_law 159 = .ok (.aload_n 2, 1) := by decide +kernel
theorem dL_law_160 : decode cL_law 160 = .ok (.aload_n 0, 1) := by decide +kernel
theorem dL_law_161 : decode cL_law 161 = .ok (.iload_n 3, 1) := by decide +kernel
theorem dL_law_162 : decode cL_law 162 = .ok (.iconst 1, 1) := by decide +kernel
theorem dL_law_163 : decode cL_law 163 = .ok (.iadd, 1) := by decide +kernel
theorem dL_law_164 : decode cL_law 164 = .ok (.iaload, 1) := by decide +kernel
theorem dL_law_165 : decode cL_law 165 = .ok (.aload_n 0, 1) := by decide +kernel
theorem dL_law_166 : decode cL_law 166 = .ok (.iload_n 3, 1) := by decide +kernel
theorem dL_law_167 : decode cL_law 167 = .ok (.iconst 2, 1) := by decide +kernel
theorem dL_law_168 : decode cL_law 168 = .ok (.iadd, 1) := by decide +kernel
theorem dL_law_169 : decode cL_law 169 = .ok (.iaload, 1) := by decide +kernel
theorem dL_law_170 : decode cL_law 170 = .ok (.aload_n 0, 1) := by decide +kernel
theorem dL_law_171 : decode cL_law 171 = .ok (.iload_n 3, 1) := by decide +kernel
theorem dL_law_172 : decode cL_law 172 = .ok (.iconst 3, 1) := by decide +kernel
theorem dL_law_173 : decode cL_law 173 = .ok (.iadd, 1) := by decide +kernel
theorem dL_law_174 : decode cL_law 174 = .ok (.iaload, 1) := by decide +kernel
theorem dL_law_175 : decode cL_law 175 = .ok (.invokevirtual 17, 3) := by decide +kernel
theorem dL_law_178 : decode cL_law 178 = .ok (.if_icmp .eq 785, 3) := by decide +kernel
theorem dL_law_181 : decode cL_law 181 = .ok (.iconst 0, 1) := by decide +kernel
theorem dL_law_182 : decode cL_law 182 = .ok (.ireturn, 1) := by decide +kernel
theorem dL_law_183 : decode cL_law 183 = .ok (.aload_n 1, 1) := by decide +kernel
theorem dL_law_184 : decode cL_law 184 = .ok (.aload_n 0, 1) := by decide +kernel
theorem dL_law_185 : decode cL_law 185 = .ok (.iload_n 3, 1) := by decide +kernel
theorem dL_law_186 : decode cL_law 186 = .ok (.iconst 1, 1) := by decide +kernel
theorem dL_law_187 : decode cL_law 187 = .ok (.iadd, 1) := by decide +kernel
theorem dL_law_188 : decode cL_law 188 = .ok (.iaload, 1) := by decide +kernel
theorem dL_law_189 : decode cL_law 189 = .ok (.aload_n 0, 1) := by decide +kernel
theorem dL_law_190 : decode cL_law 190 = .ok (.iload_n 3, 1) := by decide +kernel
theorem dL_law_191 : decode cL_law 191 = .ok (.iconst 2, 1) := by decide +kernel
theorem dL_law_192 : decode cL_law 192 = .ok (.iadd, 1) := by decide +kernel
theorem dL_law_193 : decode cL_law 193 = .ok (.iaload, 1) := by decide +kernel
theorem dL_law_194 : decode cL_law 194 = .ok (.aload_n 0, 1) := by decide +kernel
theorem dL_law_195 : decode cL_law 195 = .ok (.iload_n 3, 1) := by decide +kernel
theorem dL_law_196 : decode cL_law 196 = .ok (.iconst 3, 1) := by decide +kernel
theorem dL_law_197 : decode cL_law 197 = .ok (.iadd, 1) := by decide +kernel
theorem dL_law_198 : decode cL_law 198 = .ok (.iaload, 1) := by decide +kernel
theorem dL_law_199 : decode cL_law 199 = .ok (.invokevirtual 18, 3) := by decide +kernel
theorem dL_law_202 : decode cL_law 202 = .ok (.aload_n 2, 1) := by decide +kernel
theorem dL_law_203 : decode cL_law 203 = .ok (.aload_n 0, 1) := by decide +kernel
theorem dL_law_204 : decode cL_law 204 = .ok (.iload_n 3, 1) := by decide +kernel
theorem dL_law_205 : decode cL_law 205 = .ok (.iconst 1, 1) := by decide +kernel
theorem dL_law_206 : decode cL_law 206 = .ok (.iadd, 1) := by decide +kernel
theorem dL_law_207 : decode cL_law 207 = .ok (.iaload, 1) := by decide +kernel
theorem dL_law_208 : decode cL_law 208 = .ok (.aload_n 0, 1) := by decide +kernel
theorem dL_law_209 : decode cL_law 209 = .ok (.iload_n 3, 1) := by decide +kernel
theorem dL_law_210 : decode cL_law 210 = .ok (.iconst 2, 1) := by decide +kernel
theorem dL_law_211 : decode cL_law 211 = .ok (.iadd, 1) := by decide +kernel
theorem dL_law_212 : decode cL_law 212 = .ok (.iaload, 1) := by decide +kernel
theorem dL_law_213 : decode cL_law 213 = .ok (.aload_n 0, 1) := by decide +kernel
theorem dL_law_214 : decode cL_law 214 = .ok (.iload_n 3, 1) := by decide +kernel
theorem dL_law_215 : decode cL_law 215 = .ok (.iconst 3, 1) := by decide +kernel
theorem dL_law_216 : decode cL_law 216 = .ok (.iadd, 1) := by decide +kernel
theorem dL_law_217 : decode cL_law 217 = .ok (.iaload, 1) := by decide +kernel
theorem dL_law_218 : decode cL_law 218 = .ok (.invokevirtual 21, 3) := by decide +kernel
theorem dL_law_221 : decode cL_law 221 = .ok (.if_icmp .eq 742, 3) := by decide +kernel
theorem dL_law_224 : decode cL_law 224 = .ok (.iconst 0, 1) := by decide +kernel
theorem dL_law_225 : decode cL_law 225 = .ok (.ireturn, 1) := by decide +kernel
theorem dL_law_226 : decode cL_law 226 = .ok (.aload_n 1, 1) := by decide +kernel
theorem dL_law_227 : decode cL_law 227 = .ok (.aload_n 0, 1) := by decide +kernel
theorem dL_law_228 : decode cL_law 228 = .ok (.iload_n 3, 1) := by decide +kernel
theorem dL_law_229 : decode cL_law 229 = .ok (.iconst 1, 1) := by decide +kernel
theorem dL_law_230 : decode cL_law 230 = .ok (.iadd, 1) := by decide +kernel
theorem dL_law_231 : decode cL_law 231 = .ok (.iaload, 1) := by decide +kernel
theorem dL_law_232 : decode cL_law 232 = .ok (.aload_n 0, 1) := by decide +kernel
theorem dL_law_233 : decode cL_law 233 = .ok (.iload_n 3, 1) := by decide +kernel
theorem dL_law_234 : decode cL_law 234 = .ok (.iconst 2, 1) := by decide +kernel
theorem dL_law_235 : decode cL_law 235 = .ok (.iadd, 1) := by decide +kernel
theorem dL_law_236 : decode cL_law 236 = .ok (.iaload, 1) := by decide +kernel
theorem dL_law_237 : decode cL_law 237 = .ok (.invokevirtual 22, 3) := by decide +kernel
theorem dL_law_240 : decode cL_law 240 = .ok (.aload_n 2, 1) := by decide +kernel
theorem dL_law_241 : decode cL_law 241 = .ok (.aload_n 0, 1) := by decide +kernel
theorem dL_law_242 : decode cL_law 242 = .ok (.iload_n 3, 1) := by decide +kernel
theorem dL_law_243 : decode cL_law 243 = .ok (.iconst 1, 1) := by decide +kernel
theorem dL_law_244 : decode cL_law 244 = .ok (.iadd, 1) := by decide +kernel
theorem dL_law_245 : decode cL_law 245 = .ok (.iaload, 1) := by decide +kernel
theorem dL_law_246 : decode cL_law 246 = .ok (.aload_n 0, 1) := by decide +kernel
theorem dL_law_247 : decode cL_law 247 = .ok (.iload_n 3, 1) := by decide +kernel
theorem dL_law_248 : decode cL_law 248 = .ok (.iconst 2, 1) := by decide +kernel
theorem dL_law_249 : decode cL_law 249 = .ok (.iadd, 1) := by decide +kernel
theorem dL_law_250 : decode cL_law 250 = .ok (.iaload, 1) := by decide +kernel
theorem dL_law_251 : decode cL_law 251 = .ok (.invokevirtual 26, 3) := by decide +kernel
theorem dL_law_254 : decode cL_law 254 = .ok (.if_icmp .eq 709, 3) := by decide +kernel
theorem dL_law_257 : decode cL_law 257 = .ok (.iconst 0, 1) := by decide +kernel
theorem dL_law_258 : decode cL_law 258 = .ok (.ireturn, 1) := by decide +kernel
theorem dL_law_259 : decode cL_law 259 = .ok (.aload_n 1, 1) := by decide +kernel
theorem dL_law_260 : decode cL_law 260 = .ok (.aload_n 0, 1) := by decide +kernel
theorem dL_law_261 : decode cL_law 261 = .ok (.iload_n 3, 1) := by decide +kernel
theorem dL_law_262 : decode cL_law 262 = .ok (.iconst 1, 1) := by decide +kernel
theorem dL_law_263 : decode cL_law 263 = .ok (.iadd, 1) := by decide +kernel
theorem dL_law_264 : decode cL_law 264 = .ok (.iaload, 1) := by decide +kernel
theorem dL_law_265 : decode cL_law 265 = .ok (.aload_n 0, 1) := by decide +kernel
theorem dL_law_266 : decode cL_law 266 = .ok (.iload_n 3, 1) := by decide +kernel
theorem dL_law_267 : decode cL_law 267 = .ok (.iconst 2, 1) := by decide +kernel
theorem dL_law_268 : decode cL_law 268 = .ok (.iadd, 1) := by decide +kernel
theorem dL_law_269 : decode cL_law 269 = .ok (.iaload, 1) := by decide +kernel
theorem dL_law_270 : decode cL_law 270 = .ok (.aload_n 0, 1) := by decide +kernel
theorem dL_law_271 : decode cL_law 271 = .ok (.iload_n 3, 1) := by decide +kernel
theorem dL_law_272 : decode cL_law 272 = .ok (.iconst 3, 1) := by decide +kernel
theorem dL_law_273 : decode cL_law 273 = .ok (.iadd, 1) := by decide +kernel
theorem dL_law_274 : decode cL_law 274 = .ok (.iaload, 1) := by decide +kernel
theorem dL_law_275 : decode cL_law 275 = .ok (.invokevirtual 27, 3) := by decide +kernel
theorem dL_law_278 : decode cL_law 278 = .ok (.aload_n 2, 1) := by decide +kernel
theorem dL_law_279 : decode cL_law 279 = .ok (.aload_n 0, 1) := by decide +kernel
theorem dL_law_280 : decode cL_law 280 = .ok (.iload_n 3, 1) := by decide +kernel
theorem dL_law_281 : decode cL_law 281 = .ok (.iconst 1, 1) := by decide +kernel
theorem dL_law_282 : decode cL_law 282 = .ok (.iadd, 1) := by decide +kernel
theorem dL_law_283 : decode cL_law 283 = .ok (.iaload, 1) := by decide +kernel
theorem dL_law_284 : decode cL_law 284 = .ok (.aload_n 0, 1) := by decide +kernel
theorem dL_law_285 : decode cL_law 285 = .ok (.iload_n 3, 1) := by decide +kernel
theorem dL_law_286 : decode cL_law 286 = .ok (.iconst 2, 1) := by decide +kernel
theorem dL_law_287 : decode cL_law 287 = .ok (.iadd, 1) := by decide +kernel
theorem dL_law_288 : decode cL_law 288 = .ok (.iaload, 1) := by decide +kernel
theorem dL_law_289 : decode cL_law 289 = .ok (.aload_n 0, 1) := by decide +kernel
theorem dL_law_290 : decode cL_law 290 = .ok (.iload_n 3, 1) := by decide +kernel
theorem dL_law_291 : decode cL_law 291 = .ok (.iconst 3, 1) := by decide +kernel
theorem dL_law_292 : decode cL_law 292 = .ok (.iadd, 1) := by decide +kernel
theorem dL_law_293 : decode cL_law 293 = .ok (.iaload, 1) := by decide +kernel
theorem dL_law_294 : decode cL_law 294 = .ok (.invokevirtual 30, 3) := by decide +kernel
theorem dL_law_297 : decode cL_law 297 = .ok (.if_icmp .eq 666, 3) := by decide +kernel
theorem dL_law_300 : decode cL_law 300 = .ok (.iconst 0, 1) := by decide +kernel
theorem dL_law_301 : decode cL_law 301 = .ok (.ireturn, 1) := by decide +kernel
theorem dL_law_302 : decode cL_law 302 = .ok (.aload_n 1, 1) := by decide +kernel
theorem dL_law_303 : decode cL_law 303 = .ok (.aload_n 0, 1) := by decide +kernel
theorem dL_law_304 : decode cL_law 304 = .ok (.iload_n 3, 1) := by decide +kernel
theorem dL_law_305 : decode cL_law 305 = .ok (.iconst 1, 1) := by decide +kernel
theorem dL_law_306 : decode cL_law 306 = .ok (.iadd, 1) := by decide +kernel
theorem dL_law_307 : decode cL_law 307 = .ok (.iaload, 1) := by decide +kernel
theorem dL_law_308 : decode cL_law 308 = .ok (.aload_n 0, 1) := by decide +kernel
theorem dL_law_309 : decode cL_law 309 = .ok (.iload_n 3, 1) := by decide +kernel
theorem dL_law_310 : decode cL_law 310 = .ok (.iconst 2, 1) := by decide +kernel
theorem dL_law_311 : decode cL_law 311 = .ok (.iadd, 1) := by decide +kernel
theorem dL_law_312 : decode cL_law 312 = .ok (.iaload, 1) := by decide +kernel
theorem dL_law_313 : decode cL_law 313 = .ok (.aload_n 0, 1) := by decide +kernel
theorem dL_law_314 : decode cL_law 314 = .ok (.iload_n 3, 1) := by decide +kernel
theorem dL_law_315 : decode cL_law 315 = .ok (.iconst 3, 1) := by decide +kernel
theorem dL_law_316 : decode cL_law 316 = .ok (.iadd, 1) := by decide +kernel
theorem dL_law_317 : decode cL_law 317 = .ok (.iaload, 1) := by decide +kernel
theorem dL_law_318 : decode cL_law 318 = .ok (.invokevirtual 31, 3) := by decide +kernel
theorem dL_law_321 : decode cL_law 321 = .ok (.aload_n 2, 1) := by decide +kernel
theorem dL_law_322 : decode cL_law 322 = .ok (.aload_n 0, 1) := by decide +kernel
theorem dL_law_323 : decode cL_law 323 = .ok (.iload_n 3, 1) := by decide +kernel
theorem dL_law_324 : decode cL_law 324 = .ok (.iconst 1, 1) := by decide +kernel
theorem dL_law_325 : decode cL_law 325 = .ok (.iadd, 1) := by decide +kernel
theorem dL_law_326 : decode cL_law 326 = .ok (.iaload, 1) := by decide +kernel
theorem dL_law_327 : decode cL_law 327 = .ok (.aload_n 0, 1) := by decide +kernel
theorem dL_law_328 : decode cL_law 328 = .ok (.iload_n 3, 1) := by decide +kernel
theorem dL_law_329 : decode cL_law 329 = .ok (.iconst 2, 1) := by decide +kernel
theorem dL_law_330 : decode cL_law 330 = .ok (.iadd, 1) := by decide +kernel
theorem dL_law_331 : decode cL_law 331 = .ok (.iaload, 1) := by decide +kernel
theorem dL_law_332 : decode cL_law 332 = .ok (.aload_n 0, 1) := by decide +kernel
theorem dL_law_333 : decode cL_law 333 = .ok (.iload_n 3, 1) := by decide +kernel
theorem dL_law_334 : decode cL_law 334 = .ok (.iconst 3, 1) := by decide +kernel
theorem dL_law_335 : decode cL_law 335 = .ok (.iadd, 1) := by decide +kernel
theorem dL_law_336 : decode cL_law 336 = .ok (.iaload, 1) := by decide +kernel
theorem dL_law_337 : decode cL_law 337 = .ok (.invokevirtual 34, 3) := by decide +kernel
theorem dL_law_340 : decode cL_law 340 = .ok (.if_icmp .eq 623, 3) := by decide +kernel
theorem dL_law_343 : decode cL_law 343 = .ok (.iconst 0, 1) := by decide +kernel
theorem dL_law_344 : decode cL_law 344 = .ok (.ireturn, 1) := by decide +kernel
theorem dL_law_345 : decode cL_law 345 = .ok (.aload_n 1, 1) := by decide +kernel
theorem dL_law_346 : decode cL_law 346 = .ok (.aload_n 0, 1) := by decide +kernel
theorem dL_law_347 : decode cL_law 347 = .ok (.iload_n 3, 1) := by decide +kernel
theorem dL_law_348 : decode cL_law 348 = .ok (.iconst 1, 1) := by decide +kernel
theorem dL_law_349 : decode cL_law 349 = .ok (.iadd, 1) := by decide +kernel
theorem dL_law_350 : decode cL_law 350 = .ok (.iaload, 1) := by decide +kernel
theorem dL_law_351 : decode cL_law 351 = .ok (.aload_n 0, 1) := by decide +kernel
theorem dL_law_352 : decode cL_law 352 = .ok (.iload_n 3, 1) := by decide +kernel
theorem dL_law_353 : decode cL_law 353 = .ok (.iconst 2, 1) := by decide +kernel
theorem dL_law_354 : decode cL_law 354 = .ok (.iadd, 1) := by decide +kernel
theorem dL_law_355 : decode cL_law 355 = .ok (.iaload, 1) := by decide +kernel
theorem dL_law_356 : decode cL_law 356 = .ok (.i2l, 1) := by decide +kernel
theorem dL_law_357 : decode cL_law 357 = .ok (.bipush 32, 2) := by decide +kernel
theorem dL_law_359 : decode cL_law 359 = .ok (.lshl, 1) := by decide +kernel
theorem dL_law_360 : decode cL_law 360 = .ok (.aload_n 0, 1) := by decide +kernel
theorem dL_law_361 : decode cL_law 361 = .ok (.iload_n 3, 1) := by decide +kernel
theorem dL_law_362 : decode cL_law 362 = .ok (.iconst 3, 1) := by decide +kernel
theorem dL_law_363 : decode cL_law 363 = .ok (.iadd, 1) := by decide +kernel
theorem dL_law_364 : decode cL_law 364 = .ok (.iaload, 1) := by decide +kernel
theorem dL_law_365 : decode cL_law 365 = .ok (.i2l, 1) := by decide +kernel
theorem dL_law_366 : decode cL_law 366 = .ok (.ldc2_w 35, 3) := by decide +kernel
theorem dL_law_369 : decode cL_law 369 = .ok (.land, 1) := by decide +kernel
theorem dL_law_370 : decode cL_law 370 = .ok (.lor, 1) := by decide +kernel
theorem dL_law_371 : decode cL_law 371 = .ok (.invokevirtual 37, 3) := by decide +kernel
theorem dL_law_374 : decode cL_law 374 = .ok (.aload_n 2, 1) := by decide +kernel
theorem dL_law_375 : decode cL_law 375 = .ok (.aload_n 0, 1) := by decide +kernel
theorem dL_law_376 : decode cL_law 376 = .ok (.iload_n 3, 1) := by decide +kernel
theorem dL_law_377 : decode cL_law 377 = .ok (.iconst 1, 1) := by decide +kernel
theorem dL_law_378 : decode cL_law 378 = .ok (.iadd, 1) := by decide +kernel
theorem dL_law_379 : decode cL_law 379 = .ok (.iaload, 1) := by decide +kernel
theorem dL_law_380 : decode cL_law 380 = .ok (.aload_n 0, 1) := by decide +kernel
theorem dL_law_381 : decode cL_law 381 = .ok (.iload_n 3, 1) := by decide +kernel
theorem dL_law_382 : decode cL_law 382 = .ok (.iconst 2, 1) := by decide +kernel
theorem dL_law_383 : decode cL_law 383 = .ok (.iadd, 1) := by decide +kernel
theorem dL_law_384 : decode cL_law 384 = .ok (.iaload, 1) := by decide +kernel
theorem dL_law_385 : decode cL_law 385 = .ok (.i2l, 1) := by decide +kernel
theorem dL_law_386 : decode cL_law 386 = .ok (.bipush 32, 2) := by decide +kernel
theorem dL_law_388 : decode cL_law 388 = .ok (.lshl, 1) := by decide +kernel
theorem dL_law_389 : decode cL_law 389 = .ok (.aload_n 0, 1) := by decide +kernel
theorem dL_law_390 : decode cL_law 390 = .ok (.iload_n 3, 1) := by decide +kernel
theorem dL_law_391 : decode cL_law 391 = .ok (.iconst 3, 1) := by decide +kernel
theorem dL_law_392 : decode cL_law 392 = .ok (.iadd, 1) := by decide +kernel
theorem dL_law_393 : decode cL_law 393 = .ok (.iaload, 1) := by decide +kernel
theorem dL_law_394 : decode cL_law 394 = .ok (.i2l, 1) := by decide +kernel
theorem dL_law_395 : decode cL_law 395 = .ok (.ldc2_w 35, 3) := by decide +kernel
theorem dL_law_398 : decode cL_law 398 = .ok (.land, 1) := by decide +kernel
theorem dL_law_399 : decode cL_law 399 = .ok (.lor, 1) := by decide +kernel
theorem dL_law_400 : decode cL_law 400 = .ok (.invokevirtual 41, 3) := by decide +kernel
theorem dL_law_403 : decode cL_law 403 = .ok (.if_icmp .eq 560, 3) := by decide +kernel
theorem dL_law_406 : decode cL_law 406 = .ok (.iconst 0, 1) := by decide +kernel
theorem dL_law_407 : decode cL_law 407 = .ok (.ireturn, 1) := by decide +kernel
theorem dL_law_408 : decode cL_law 408 = .ok (.aload_n 1, 1) := by decide +kernel
theorem dL_law_409 : decode cL_law 409 = .ok (.invokevirtual 42, 3) := by decide +kernel
theorem dL_law_412 : decode cL_law 412 = .ok (.aload_n 2, 1) := by decide +kernel
theorem dL_law_413 : decode cL_law 413 = .ok (.invokevirtual 46, 3) := by decide +kernel
theorem dL_law_416 : decode cL_law 416 = .ok (.if_icmp .eq 547, 3) := by decide +kernel
theorem dL_law_419 : decode cL_law 419 = .ok (.iconst 0, 1) := by decide +kernel
theorem dL_law_420 : decode cL_law 420 = .ok (.ireturn, 1) := by decide +kernel
theorem dL_law_421 : decode cL_law 421 = .ok (.aload_n 1, 1) := by decide +kernel
theorem dL_law_422 : decode cL_law 422 = .ok (.aload_n 0, 1) := by decide +kernel
theorem dL_law_423 : decode cL_law 423 = .ok (.iload_n 3, 1) := by decide +kernel
theorem dL_law_424 : decode cL_law 424 = .ok (.iconst 1, 1) := by decide +kernel
theorem dL_law_425 : decode cL_law 425 = .ok (.iadd, 1) := by decide +kernel
theorem dL_law_426 : decode cL_law 426 = .ok (.iaload, 1) := by decide +kernel
theorem dL_law_427 : decode cL_law 427 = .ok (.invokevirtual 47, 3) := by decide +kernel
theorem dL_law_430 : decode cL_law 430 = .ok (.aload_n 2, 1) := by decide +kernel
theorem dL_law_431 : decode cL_law 431 = .ok (.aload_n 0, 1) := by decide +kernel
theorem dL_law_432 : decode cL_law 432 = .ok (.iload_n 3, 1) := by decide +kernel
theorem dL_law_433 : decode cL_law 433 = .ok (.iconst 1, 1) := by decide +kernel
theorem dL_law_434 : decode cL_law 434 = .ok (.iadd, 1) := by decide +kernel
theorem dL_law_435 : decode cL_law 435 = .ok (.iaload, 1) := by decide +kernel
theorem dL_law_436 : decode cL_law 436 = .ok (.invokevirtual 51, 3) := by decide +kernel
theorem dL_law_439 : decode cL_law 439 = .ok (.if_icmp .eq 524, 3) := by decide +kernel
theorem dL_law_442 : decode cL_law 442 = .ok (.iconst 0, 1) := by decide +kernel
theorem dL_law_443 : decode cL_law 443 = .ok (.ireturn, 1) := by decide +kernel
theorem dL_law_444 : decode cL_law 444 = .ok (.aload_n 1, 1) := by decide +kernel
theorem dL_law_445 : decode cL_law 445 = .ok (.aload_n 0, 1) := by decide +kernel
theorem dL_law_446 : decode cL_law 446 = .ok (.iload_n 3, 1) := by decide +kernel
theorem dL_law_447 : decode cL_law 447 = .ok (.iconst 1, 1) := by decide +kernel
theorem dL_law_448 : decode cL_law 448 = .ok (.iadd, 1) := by decide +kernel
theorem dL_law_449 : decode cL_law 449 = .ok (.iaload, 1) := by decide +kernel
theorem dL_law_450 : decode cL_law 450 = .ok (.aload_n 0, 1) := by decide +kernel
theorem dL_law_451 : decode cL_law 451 = .ok (.iload_n 3, 1) := by decide +kernel
theorem dL_law_452 : decode cL_law 452 = .ok (.iconst 2, 1) := by decide +kernel
theorem dL_law_453 : decode cL_law 453 = .ok (.iadd, 1) := by decide +kernel
theorem dL_law_454 : decode cL_law 454 = .ok (.iaload, 1) := by decide +kernel
theorem dL_law_455 : decode cL_law 455 = .ok (.invokevirtual 52, 3) := by decide +kernel
theorem dL_law_458 : decode cL_law 458 = .ok (.aload_n 2, 1) := by decide +kernel
theorem dL_law_459 : decode cL_law 459 = .ok (.aload_n 0, 1) := by decide +kernel
theorem dL_law_460 : decode cL_law 460 = .ok (.iload_n 3, 1) := by decide +kernel
theorem dL_law_461 : decode cL_law 461 = .ok (.iconst 1, 1) := by decide +kernel
theorem dL_law_462 : decode cL_law 462 = .ok (.iadd, 1) := by decide +kernel
theorem dL_law_463 : decode cL_law 463 = .ok (.iaload, 1) := by decide +kernel
theorem dL_law_464 : decode cL_law 464 = .ok (.aload_n 0, 1) := by decide +kernel
theorem dL_law_465 : decode cL_law 465 = .ok (.iload_n 3, 1) := by decide +kernel
theorem dL_law_466 : decode cL_law 466 = .ok (.iconst 2, 1) := by decide +kernel
theorem dL_law_467 : decode cL_law 467 = .ok (.iadd, 1) := by decide +kernel
theorem dL_law_468 : decode cL_law 468 = .ok (.iaload, 1) := by decide +kernel
theorem dL_law_469 : decode cL_law 469 = .ok (.invokevirtual 56, 3) := by decide +kernel
theorem dL_law_472 : decode cL_law 472 = .ok (.lcmp, 1) := by decide +kernel
theorem dL_law_473 : decode cL_law 473 = .ok (.ifCond .eq 490, 3) := by decide +kernel
theorem dL_law_476 : decode cL_law 476 = .ok (.iconst 0, 1) := by decide +kernel
theorem dL_law_477 : decode cL_law 477 = .ok (.ireturn, 1) := by decide +kernel
theorem dL_law_478 : decode cL_law 478 = .ok (.aload_n 1, 1) := by decide +kernel
theorem dL_law_479 : decode cL_law 479 = .ok (.aload_n 0, 1) := by decide +kernel
theorem dL_law_480 : decode cL_law 480 = .ok (.iload_n 3, 1) := by decide +kernel
theorem dL_law_481 : decode cL_law 481 = .ok (.iconst 1, 1) := by decide +kernel
theorem dL_law_482 : decode cL_law 482 = .ok (.iadd, 1) := by decide +kernel
theorem dL_law_483 : decode cL_law 483 = .ok (.iaload, 1) := by decide +kernel
theorem dL_law_484 : decode cL_law 484 = .ok (.aload_n 0, 1) := by decide +kernel
theorem dL_law_485 : decode cL_law 485 = .ok (.iload_n 3, 1) := by decide +kernel
theorem dL_law_486 : decode cL_law 486 = .ok (.iconst 2, 1) := by decide +kernel
theorem dL_law_487 : decode cL_law 487 = .ok (.iadd, 1) := by decide +kernel
theorem dL_law_488 : decode cL_law 488 = .ok (.iaload, 1) := by decide +kernel
theorem dL_law_489 : decode cL_law 489 = .ok (.aload_n 0, 1) := by decide +kernel
theorem dL_law_490 : decode cL_law 490 = .ok (.iload_n 3, 1) := by decide +kernel
theorem dL_law_491 : decode cL_law 491 = .ok (.iconst 3, 1) := by decide +kernel
theorem dL_law_492 : decode cL_law 492 = .ok (.iadd, 1) := by decide +kernel
theorem dL_law_493 : decode cL_law 493 = .ok (.iaload, 1) := by decide +kernel
theorem dL_law_494 : decode cL_law 494 = .ok (.invokevirtual 57, 3) := by decide +kernel
theorem dL_law_497 : decode cL_law 497 = .ok (.aload_n 2, 1) := by decide +kernel
theorem dL_law_498 : decode cL_law 498 = .ok (.aload_n 0, 1) := by decide +kernel
theorem dL_law_499 : decode cL_law 499 = .ok (.iload_n 3, 1) := by decide +kernel
theorem dL_law_500 : decode cL_law 500 = .ok (.iconst 1, 1) := by decide +kernel
theorem dL_law_501 : decode cL_law 501 = .ok (.iadd, 1) := by decide +kernel
theorem dL_law_502 : decode cL_law 502 = .ok (.iaload, 1) := by decide +kernel
theorem dL_law_503 : decode cL_law 503 = .ok (.aload_n 0, 1) := by decide +kernel
theorem dL_law_504 : decode cL_law 504 = .ok (.iload_n 3, 1) := by decide +kernel
theorem dL_law_505 : decode cL_law 505 = .ok (.iconst 2, 1) := by decide +kernel
theorem dL_law_506 : decode cL_law 506 = .ok (.iadd, 1) := by decide +kernel
theorem dL_law_507 : decode cL_law 507 = .ok (.iaload, 1) := by decide +kernel
theorem dL_law_508 : decode cL_law 508 = .ok (.aload_n 0, 1) := by decide +kernel
theorem dL_law_509 : decode cL_law 509 = .ok (.iload_n 3, 1) := by decide +kernel
theorem dL_law_510 : decode cL_law 510 = .ok (.iconst 3, 1) := by decide +kernel
theorem dL_law_511 : decode cL_law 511 = .ok (.iadd, 1) := by decide +kernel
theorem dL_law_512 : decode cL_law 512 = .ok (.iaload, 1) := by decide +kernel
theorem dL_law_513 : decode cL_law 513 = .ok (.invokevirtual 60, 3) := by decide +kernel
theorem dL_law_516 : decode cL_law 516 = .ok (.if_icmp .eq 447, 3) := by decide +kernel
theorem dL_law_519 : decode cL_law 519 = .ok (.iconst 0, 1) := by decide +kernel
theorem dL_law_520 : decode cL_law 520 = .ok (.ireturn, 1) := by decide +kernel
theorem dL_law_521 : decode cL_law 521 = .ok (.aload_n 1, 1) := by decide +kernel
theorem dL_law_522 : decode cL_law 522 = .ok (.aload_n 0, 1) := by decide +kernel
theorem dL_law_523 : decode cL_law 523 = .ok (.iload_n 3, 1) := by decide +kernel
theorem dL_law_524 : decode cL_law 524 = .ok (.iconst 1, 1) := by decide +kernel
theorem dL_law_525 : decode cL_law 525 = .ok (.iadd, 1) := by decide +kernel
theorem dL_law_526 : decode cL_law 526 = .ok (.iaload, 1) := by decide +kernel
theorem dL_law_527 : decode cL_law 527 = .ok (.aload_n 0, 1) := by decide +kernel
theorem dL_law_528 : decode cL_law 528 = .ok (.iload_n 3, 1) := by decide +kernel
theorem dL_law_529 : decode cL_law 529 = .ok (.iconst 2, 1) := by decide +kernel
theorem dL_law_530 : decode cL_law 530 = .ok (.iadd, 1) := by decide +kernel
theorem dL_law_531 : decode cL_law 531 = .ok (.iaload, 1) := by decide +kernel
theorem dL_law_532 : decode cL_law 532 = .ok (.invokevirtual 61, 3) := by decide +kernel
theorem dL_law_535 : decode cL_law 535 = .ok (.aload_n 2, 1) := by decide +kernel
theorem dL_law_536 : decode cL_law 536 = .ok (.aload_n 0, 1) := by decide +kernel
theorem dL_law_537 : decode cL_law 537 = .ok (.iload_n 3, 1) := by decide +kernel
theorem dL_law_538 : decode cL_law 538 = .ok (.iconst 1, 1) := by decide +kernel
theorem dL_law_539 : decode cL_law 539 = .ok (.iadd, 1) := by decide +kernel
theorem dL_law_540 : decode cL_law 540 = .ok (.iaload, 1) := by decide +kernel
theorem dL_law_541 : decode cL_law 541 = .ok (.aload_n 0, 1) := by decide +kernel
theorem dL_law_542 : decode cL_law 542 = .ok (.iload_n 3, 1) := by decide +kernel
theorem dL_law_543 : decode cL_law 543 = .ok (.iconst 2, 1) := by decide +kernel
theorem dL_law_544 : decode cL_law 544 = .ok (.iadd, 1) := by decide +kernel
theorem dL_law_545 : decode cL_law 545 = .ok (.iaload, 1) := by decide +kernel
theorem dL_law_546 : decode cL_law 546 = .ok (.invokevirtual 64, 3) := by decide +kernel
theorem dL_law_549 : decode cL_law 549 = .ok (.lcmp, 1) := by decide +kernel
theorem dL_law_550 : decode cL_law 550 = .ok (.ifCond .eq 413, 3) := by decide +kernel
theorem dL_law_553 : decode cL_law 553 = .ok (.iconst 0, 1) := by decide +kernel
theorem dL_law_554 : decode cL_law 554 = .ok (.ireturn, 1) := by decide +kernel
theorem dL_law_555 : decode cL_law 555 = .ok (.aload_n 1, 1) := by decide +kernel
theorem dL_law_556 : decode cL_law 556 = .ok (.aload_n 0, 1) := by decide +kernel
theorem dL_law_557 : decode cL_law 557 = .ok (.iload_n 3, 1) := by decide +kernel
theorem dL_law_558 : decode cL_law 558 = .ok (.iconst 1, 1) := by decide +kernel
theorem dL_law_559 : decode cL_law 559 = .ok (.iadd, 1) := by decide +kernel
theorem dL_law_560 : decode cL_law 560 = .ok (.iaload, 1) := by decide +kernel
theorem dL_law_561 : decode cL_law 561 = .ok (.aload_n 0, 1) := by decide +kernel
theorem dL_law_562 : decode cL_law 562 = .ok (.iload_n 3, 1) := by decide +kernel
theorem dL_law_563 : decode cL_law 563 = .ok (.iconst 2, 1) := by decide +kernel
theorem dL_law_564 : decode cL_law 564 = .ok (.iadd, 1) := by decide +kernel
theorem dL_law_565 : decode cL_law 565 = .ok (.iaload, 1) := by decide +kernel
theorem dL_law_566 : decode cL_law 566 = .ok (.invokevirtual 65, 3) := by decide +kernel
theorem dL_law_569 : decode cL_law 569 = .ok (.aload_n 2, 1) := by decide +kernel
theorem dL_law_570 : decode cL_law 570 = .ok (.aload_n 0, 1) := by decide +kernel
theorem dL_law_571 : decode cL_law 571 = .ok (.iload_n 3, 1) := by decide +kernel
theorem dL_law_572 : decode cL_law 572 = .ok (.iconst 1, 1) := by decide +kernel
theorem dL_law_573 : decode cL_law 573 = .ok (.iadd, 1) := by decide +kernel
theorem dL_law_574 : decode cL_law 574 = .ok (.iaload, 1) := by decide +kernel
theorem dL_law_575 : decode cL_law 575 = .ok (.aload_n 0, 1) := by decide +kernel
theorem dL_law_576 : decode cL_law 576 = .ok (.iload_n 3, 1) := by decide +kernel
theorem dL_law_577 : decode cL_law 577 = .ok (.iconst 2, 1) := by decide +kernel
theorem dL_law_578 : decode cL_law 578 = .ok (.iadd, 1) := by decide +kernel
theorem dL_law_579 : decode cL_law 579 = .ok (.iaload, 1) := by decide +kernel
theorem dL_law_580 : decode cL_law 580 = .ok (.invokevirtual 68, 3) := by decide +kernel
theorem dL_law_583 : decode cL_law 583 = .ok (.lcmp, 1) := by decide +kernel
theorem dL_law_584 : decode cL_law 584 = .ok (.ifCond .eq 379, 3) := by decide +kernel
theorem dL_law_587 : decode cL_law 587 = .ok (.iconst 0, 1) := by decide +kernel
theorem dL_law_588 : decode cL_law 588 = .ok (.ireturn, 1) := by decide +kernel
theorem dL_law_589 : decode cL_law 589 = .ok (.aload_n 1, 1) := by decide +kernel
theorem dL_law_590 : decode cL_law 590 = .ok (.aload_n 0, 1) := by decide +kernel
theorem dL_law_591 : decode cL_law 591 = .ok (.iload_n 3, 1) := by decide +kernel
theorem dL_law_592 : decode cL_law 592 = .ok (.iconst 1, 1) := by decide +kernel
theorem dL_law_593 : decode cL_law 593 = .ok (.iadd, 1) := by decide +kernel
theorem dL_law_594 : decode cL_law 594 = .ok (.iaload, 1) := by decide +kernel
theorem dL_law_595 : decode cL_law 595 = .ok (.aload_n 0, 1) := by decide +kernel
theorem dL_law_596 : decode cL_law 596 = .ok (.iload_n 3, 1) := by decide +kernel
theorem dL_law_597 : decode cL_law 597 = .ok (.iconst 2, 1) := by decide +kernel
theorem dL_law_598 : decode cL_law 598 = .ok (.iadd, 1) := by decide +kernel
theorem dL_law_599 : decode cL_law 599 = .ok (.iaload, 1) := by decide +kernel
theorem dL_law_600 : decode cL_law 600 = .ok (.invokevirtual 69, 3) := by decide +kernel
theorem dL_law_603 : decode cL_law 603 = .ok (.aload_n 2, 1) := by decide +kernel
theorem dL_law_604 : decode cL_law 604 = .ok (.aload_n 0, 1) := by decide +kernel
theorem dL_law_605 : decode cL_law 605 = .ok (.iload_n 3, 1) := by decide +kernel
theorem dL_law_606 : decode cL_law 606 = .ok (.iconst 1, 1) := by decide +kernel
theorem dL_law_607 : decode cL_law 607 = .ok (.iadd, 1) := by decide +kernel
theorem dL_law_608 : decode cL_law 608 = .ok (.iaload, 1) := by decide +kernel
theorem dL_law_609 : decode cL_law 609 = .ok (.aload_n 0, 1) := by decide +kernel
theorem dL_law_610 : decode cL_law 610 = .ok (.iload_n 3, 1) := by decide +kernel
theorem dL_law_611 : decode cL_law 611 = .ok (.iconst 2, 1) := by decide +kernel
theorem dL_law_612 : decode cL_law 612 = .ok (.iadd, 1) := by decide +kernel
theorem dL_law_613 : decode cL_law 613 = .ok (.iaload, 1) := by decide +kernel
theorem dL_law_614 : decode cL_law 614 = .ok (.invokevirtual 72, 3) := by decide +kernel
theorem dL_law_617 : decode cL_law 617 = .ok (.if_icmp .eq 346, 3) := by decide +kernel
theorem dL_law_620 : decode cL_law 620 = .ok (.iconst 0, 1) := by decide +kernel
theorem dL_law_621 : decode cL_law 621 = .ok (.ireturn, 1) := by decide +kernel
theorem dL_law_622 : decode cL_law 622 = .ok (.aload_n 1, 1) := by decide +kernel
theorem dL_law_623 : decode cL_law 623 = .ok (.aload_n 0, 1) := by decide +kernel
theorem dL_law_624 : decode cL_law 624 = .ok (.iload_n 3, 1) := by decide +kernel
theorem dL_law_625 : decode cL_law 625 = .ok (.iconst 1, 1) := by decide +kernel
theorem dL_law_626 : decode cL_law 626 = .ok (.iadd, 1) := by decide +kernel
theorem dL_law_627 : decode cL_law 627 = .ok (.iaload, 1) := by decide +kernel
theorem dL_law_628 : decode cL_law 628 = .ok (.aload_n 0, 1) := by decide +kernel
theorem dL_law_629 : decode cL_law 629 = .ok (.iload_n 3, 1) := by decide +kernel
theorem dL_law_630 : decode cL_law 630 = .ok (.iconst 2, 1) := by decide +kernel
theorem dL_law_631 : decode cL_law 631 = .ok (.iadd, 1) := by decide +kernel
theorem dL_law_632 : decode cL_law 632 = .ok (.iaload, 1) := by decide +kernel
theorem dL_law_633 : decode cL_law 633 = .ok (.invokevirtual 73, 3) := by decide +kernel
theorem dL_law_636 : decode cL_law 636 = .ok (.aload_n 2, 1) := by decide +kernel
theorem dL_law_637 : decode cL_law 637 = .ok (.aload_n 0, 1) := by decide +kernel
theorem dL_law_638 : decode cL_law 638 = .ok (.iload_n 3, 1) := by decide +kernel
theorem dL_law_639 : decode cL_law 639 = .ok (.iconst 1, 1) := by decide +kernel
theorem dL_law_640 : decode cL_law 640 = .ok (.iadd, 1) := by decide +kernel
theorem dL_law_641 : decode cL_law 641 = .ok (.iaload, 1) := by decide +kernel
theorem dL_law_642 : decode cL_law 642 = .ok (.aload_n 0, 1) := by decide +kernel
theorem dL_law_643 : decode cL_law 643 = .ok (.iload_n 3, 1) := by decide +kernel
theorem dL_law_644 : decode cL_law 644 = .ok (.iconst 2, 1) := by decide +kernel
theorem dL_law_645 : decode cL_law 645 = .ok (.iadd, 1) := by decide +kernel
theorem dL_law_646 : decode cL_law 646 = .ok (.iaload, 1) := by decide +kernel
theorem dL_law_647 : decode cL_law 647 = .ok (.invokevirtual 76, 3) := by decide +kernel
theorem dL_law_650 : decode cL_law 650 = .ok (.lcmp, 1) := by decide +kernel
theorem dL_law_651 : decode cL_law 651 = .ok (.ifCond .eq 312, 3) := by decide +kernel
theorem dL_law_654 : decode cL_law 654 = .ok (.iconst 0, 1) := by decide +kernel
theorem dL_law_655 : decode cL_law 655 = .ok (.ireturn, 1) := by decide +kernel
theorem dL_law_656 : decode cL_law 656 = .ok (.aload_n 1, 1) := by decide +kernel
theorem dL_law_657 : decode cL_law 657 = .ok (.aload_n 0, 1) := by decide +kernel
theorem dL_law_658 : decode cL_law 658 = .ok (.iload_n 3, 1) := by decide +kernel
theorem dL_law_659 : decode cL_law 659 = .ok (.iconst 1, 1) := by decide +kernel
theorem dL_law_660 : decode cL_law 660 = .ok (.iadd, 1) := by decide +kernel
theorem dL_law_661 : decode cL_law 661 = .ok (.iaload, 1) := by decide +kernel
theorem dL_law_662 : decode cL_law 662 = .ok (.invokevirtual 77, 3) := by decide +kernel
theorem dL_law_665 : decode cL_law 665 = .ok (.aload_n 2, 1) := by decide +kernel
theorem dL_law_666 : decode cL_law 666 = .ok (.aload_n 0, 1) := by decide +kernel
theorem dL_law_667 : decode cL_law 667 = .ok (.iload_n 3, 1) := by decide +kernel
theorem dL_law_668 : decode cL_law 668 = .ok (.iconst 1, 1) := by decide +kernel
theorem dL_law_669 : decode cL_law 669 = .ok (.iadd, 1) := by decide +kernel
theorem dL_law_670 : decode cL_law 670 = .ok (.iaload, 1) := by decide +kernel
theorem dL_law_671 : decode cL_law 671 = .ok (.invokevirtual 80, 3) := by decide +kernel
theorem dL_law_674 : decode cL_law 674 = .ok (.if_icmp .eq 289, 3) := by decide +kernel
theorem dL_law_677 : decode cL_law 677 = .ok (.iconst 0, 1) := by decide +kernel
theorem dL_law_678 : decode cL_law 678 = .ok (.ireturn, 1) := by decide +kernel
theorem dL_law_679 : decode cL_law 679 = .ok (.aload_n 1, 1) := by decide +kernel
theorem dL_law_680 : decode cL_law 680 = .ok (.invokevirtual 81, 3) := by decide +kernel
theorem dL_law_683 : decode cL_law 683 = .ok (.aload_n 2, 1) := by decide +kernel
theorem dL_law_684 : decode cL_law 684 = .ok (.invokevirtual 84, 3) := by decide +kernel
theorem dL_law_687 : decode cL_law 687 = .ok (.if_icmp .eq 276, 3) := by decide +kernel
theorem dL_law_690 : decode cL_law 690 = .ok (.iconst 0, 1) := by decide +kernel
theorem dL_law_691 : decode cL_law 691 = .ok (.ireturn, 1) := by decide +kernel
theorem dL_law_692 : decode cL_law 692 = .ok (.aload_n 1, 1) := by decide +kernel
theorem dL_law_693 : decode cL_law 693 = .ok (.invokevirtual 85, 3) := by decide +kernel
theorem dL_law_696 : decode cL_law 696 = .ok (.aload_n 2, 1) := by decide +kernel
theorem dL_law_697 : decode cL_law 697 = .ok (.invokevirtual 88, 3) := by decide +kernel
theorem dL_law_700 : decode cL_law 700 = .ok (.if_icmp .eq 263, 3) := by decide +kernel
theorem dL_law_703 : decode cL_law 703 = .ok (.iconst 0, 1) := by decide +kernel
theorem dL_law_704 : decode cL_law 704 = .ok (.ireturn, 1) := by decide +kernel
theorem dL_law_705 : decode cL_law 705 = .ok (.aload_n 1, 1) := by decide +kernel
theorem dL_law_706 : decode cL_law 706 = .ok (.aload_n 0, 1) := by decide +kernel
theorem dL_law_707 : decode cL_law 707 = .ok (.iload_n 3, 1) := by decide +kernel
theorem dL_law_708 : decode cL_law 708 = .ok (.iconst 1, 1) := by decide +kernel
theorem dL_law_709 : decode cL_law 709 = .ok (.iadd, 1) := by decide +kernel
theorem dL_law_710 : decode cL_law 710 = .ok (.iaload, 1) := by decide +kernel
theorem dL_law_711 : decode cL_law 711 = .ok (.invokevirtual 89, 3) := by decide +kernel
theorem dL_law_714 : decode cL_law 714 = .ok (.aload_n 2, 1) := by decide +kernel
theorem dL_law_715 : decode cL_law 715 = .ok (.aload_n 0, 1) := by decide +kernel
theorem dL_law_716 : decode cL_law 716 = .ok (.iload_n 3, 1) := by decide +kernel
theorem dL_law_717 : decode cL_law 717 = .ok (.iconst 1, 1) := by decide +kernel
theorem dL_law_718 : decode cL_law 718 = .ok (.iadd, 1) := by decide +kernel
theorem dL_law_719 : decode cL_law 719 = .ok (.iaload, 1) := by decide +kernel
theorem dL_law_720 : decode cL_law 720 = .ok (.invokevirtual 92, 3) := by decide +kernel
theorem dL_law_723 : decode cL_law 723 = .ok (.if_icmp .eq 240, 3) := by decide +kernel
theorem dL_law_726 : decode cL_law 726 = .ok (.iconst 0, 1) := by decide +kernel
theorem dL_law_727 : decode cL_law 727 = .ok (.ireturn, 1) := by decide +kernel
theorem dL_law_728 : decode cL_law 728 = .ok (.aload_n 1, 1) := by decide +kernel
theorem dL_law_729 : decode cL_law 729 = .ok (.aload_n 0, 1) := by decide +kernel
theorem dL_law_730 : decode cL_law 730 = .ok (.iload_n 3, 1) := by decide +kernel
theorem dL_law_731 : decode cL_law 731 = .ok (.iconst 1, 1) := by decide +kernel
theorem dL_law_732 : decode cL_law 732 = .ok (.iadd, 1) := by decide +kernel
theorem dL_law_733 : decode cL_law 733 = .ok (.iaload, 1) := by decide +kernel
theorem dL_law_734 : decode cL_law 734 = .ok (.aload_n 0, 1) := by decide +kernel
theorem dL_law_735 : decode cL_law 735 = .ok (.iload_n 3, 1) := by decide +kernel
