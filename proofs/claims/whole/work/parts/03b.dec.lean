/-! decode rows, as printed -/
theorem dX9_ofTwo_79 : decode cX9_ofTwo 79 = .ok (.iload_n 1, 1) := by decide +kernel
theorem dX9_ofTwo_80 : decode cX9_ofTwo 80 = .ok (.iload_n 2, 1) := by decide +kernel
theorem dX9_ofTwo_81 : decode cX9_ofTwo 81 = .ok (.if_icmp .ne 7, 3) := by decide +kernel
theorem dX9_ofTwo_84 : decode cX9_ofTwo 84 = .ok (.iconst 1, 1) := by decide +kernel
theorem dX9_ofTwo_85 : decode cX9_ofTwo 85 = .ok (.goto 4, 3) := by decide +kernel
theorem dX9_ofTwo_88 : decode cX9_ofTwo 88 = .ok (.iconst 0, 1) := by decide +kernel
theorem dX9_ofTwo_89 : decode cX9_ofTwo 89 = .ok (.ireturn, 1) := by decide +kernel
theorem dX9_ofTwo_90 : decode cX9_ofTwo 90 = .ok (.iload_n 1, 1) := by decide +kernel
theorem dX9_ofTwo_91 : decode cX9_ofTwo 91 = .ok (.iload_n 2, 1) := by decide +kernel
theorem dX9_ofTwo_92 : decode cX9_ofTwo 92 = .ok (.iadd, 1) := by decide +kernel
theorem dX9_ofTwo_93 : decode cX9_ofTwo 93 = .ok (.ireturn, 1) := by decide +kernel
theorem dX9_ofTwo_94 : decode cX9_ofTwo 94 = .ok (.iload_n 1, 1) := by decide +kernel
theorem dX9_ofTwo_95 : decode cX9_ofTwo 95 = .ok (.iload_n 2, 1) := by decide +kernel
theorem dX9_ofTwo_96 : decode cX9_ofTwo 96 = .ok (.isub, 1) := by decide +kernel
theorem dX9_ofTwo_97 : decode cX9_ofTwo 97 = .ok (.ireturn, 1) := by decide +kernel
theorem dX9_ofTwo_98 : decode cX9_ofTwo 98 = .ok (.iload_n 1, 1) := by decide +kernel
theorem dX9_ofTwo_99 : decode cX9_ofTwo 99 = .ok (.iload_n 2, 1) := by decide +kernel
theorem dX9_ofTwo_100 : decode cX9_ofTwo 100 = .ok (.imul, 1) := by decide +kernel
theorem dX9_ofTwo_101 : decode cX9_ofTwo 101 = .ok (.ireturn, 1) := by decide +kernel
theorem dX10_init_0 : decode cX10_init 0 = .ok (.aload_n 0, 1) := by decide +kernel
theorem dX10_init_1 : decode cX10_init 1 = .ok (.iload_n 1, 1) := by decide +kernel
theorem dX10_init_2 : decode cX10_init 2 = .ok (.iload_n 2, 1) := by decide +kernel
theorem dX10_init_3 : decode cX10_init 3 = .ok (.iload_n 3, 1) := by decide +kernel
theorem dX10_init_4 : decode cX10_init 4 = .ok (.invokespecial 1, 3) := by decide +kernel
theorem dX10_init_7 : decode cX10_init 7 = .ok (.return_, 1) := by decide +kernel
theorem dX10_carries_0 : decode cX10_carries 0 = .ok (.aload_n 0, 1) := by decide +kernel
theorem dX10_carries_1 : decode cX10_carries 1 = .ok (.iload_n 1, 1) := by decide +kernel
theorem dX10_carries_2 : decode cX10_carries 2 = .ok (.invokespecial 7, 3) := by decide +kernel
theorem dX10_carries_5 : decode cX10_carries 5 = .ok (.iconst 2, 1) := by decide +kernel
theorem dX10_carries_6 : decode cX10_carries 6 = .ok (.iadd, 1) := by decide +kernel
theorem dX10_carries_7 : decode cX10_carries 7 = .ok (.ireturn, 1) := by decide +kernel
theorem dX10_rests_0 : decode cX10_rests 0 = .ok (.aload_n 0, 1) := by decide +kernel
theorem dX10_rests_1 : decode cX10_rests 1 = .ok (.iload_n 1, 1) := by decide +kernel
theorem dX10_rests_2 : decode cX10_rests 2 = .ok (.invokespecial 11, 3) := by decide +kernel
theorem dX10_rests_5 : decode cX10_rests 5 = .ok (.iconst 1, 1) := by decide +kernel
theorem dX10_rests_6 : decode cX10_rests 6 = .ok (.iadd, 1) := by decide +kernel
theorem dX10_rests_7 : decode cX10_rests 7 = .ok (.ireturn, 1) := by decide +kernel
theorem dX11_init_0 : decode cX11_init 0 = .ok (.aload_n 0, 1) := by decide +kernel
theorem dX11_init_1 : decode cX11_init 1 = .ok (.invokespecial 1, 3) := by decide +kernel
theorem dX11_init_4 : decode cX11_init 4 = .ok (.aload_n 0, 1) := by decide +kernel
theorem dX11_init_5 : decode cX11_init 5 = .ok (.bipush 8, 2) := by decide +kernel
theorem dX11_init_7 : decode cX11_init 7 = .ok (.anewarray 9, 3) := by decide +kernel
theorem dX11_init_10 : decode cX11_init 10 = .ok (.putfield 11, 3) := by decide +kernel
theorem dX11_init_13 : decode cX11_init 13 = .ok (.aload_n 0, 1) := by decide +kernel
theorem dX11_init_14 : decode cX11_init 14 = .ok (.new 15, 3) := by decide +kernel
theorem dX11_init_17 : decode cX11_init 17 = .ok (.dup, 1) := by decide +kernel
theorem dX11_init_18 : decode cX11_init 18 = .ok (.invokespecial 17, 3) := by decide +kernel
theorem dX11_init_21 : decode cX11_init 21 = .ok (.putfield 18, 3) := by decide +kernel
theorem dX11_init_24 : decode cX11_init 24 = .ok (.aload_n 0, 1) := by decide +kernel
theorem dX11_init_25 : decode cX11_init 25 = .ok (.new 15, 3) := by decide +kernel
theorem dX11_init_28 : decode cX11_init 28 = .ok (.dup, 1) := by decide +kernel
theorem dX11_init_29 : decode cX11_init 29 = .ok (.invokespecial 17, 3) := by decide +kernel
theorem dX11_init_32 : decode cX11_init 32 = .ok (.putfield 22, 3) := by decide +kernel
theorem dX11_init_35 : decode cX11_init 35 = .ok (.aload_n 0, 1) := by decide +kernel
theorem dX11_init_36 : decode cX11_init 36 = .ok (.bipush 6, 2) := by decide +kernel
theorem dX11_init_38 : decode cX11_init 38 = .ok (.anewarray 25, 3) := by decide +kernel
theorem dX11_init_41 : decode cX11_init 41 = .ok (.putfield 27, 3) := by decide +kernel
theorem dX11_init_44 : decode cX11_init 44 = .ok (.aload_n 0, 1) := by decide +kernel
theorem dX11_init_45 : decode cX11_init 45 = .ok (.new 31, 3) := by decide +kernel
theorem dX11_init_48 : decode cX11_init 48 = .ok (.dup, 1) := by decide +kernel
theorem dX11_init_49 : decode cX11_init 49 = .ok (.invokespecial 33, 3) := by decide +kernel
theorem dX11_init_52 : decode cX11_init 52 = .ok (.putfield 34, 3) := by decide +kernel
theorem dX11_init_55 : decode cX11_init 55 = .ok (.aload_n 0, 1) := by decide +kernel
theorem dX11_init_56 : decode cX11_init 56 = .ok (.iconst 4, 1) := by decide +kernel
theorem dX11_init_57 : decode cX11_init 57 = .ok (.anewarray 38, 3) := by decide +kernel
theorem dX11_init_60 : decode cX11_init 60 = .ok (.putfield 40, 3) := by decide +kernel
theorem dX11_init_63 : decode cX11_init 63 = .ok (.aload_n 0, 1) := by decide +kernel
theorem dX11_init_64 : decode cX11_init 64 = .ok (.new 44, 3) := by decide +kernel
theorem dX11_init_67 : decode cX11_init 67 = .ok (.dup, 1) := by decide +kernel
theorem dX11_init_68 : decode cX11_init 68 = .ok (.invokespecial 46, 3) := by decide +kernel
theorem dX11_init_71 : decode cX11_init 71 = .ok (.putfield 47, 3) := by decide +kernel
theorem dX11_init_74 : decode cX11_init 74 = .ok (.aload_n 0, 1) := by decide +kernel
theorem dX11_init_75 : decode cX11_init 75 = .ok (.iconst 4, 1) := by decide +kernel
theorem dX11_init_76 : decode cX11_init 76 = .ok (.newarray .long, 2) := by decide +kernel
theorem dX11_init_78 : decode cX11_init 78 = .ok (.putfield 51, 3) := by decide +kernel
theorem dX11_init_81 : decode cX11_init 81 = .ok (.iconst 0, 1) := by decide +kernel
theorem dX11_init_82 : decode cX11_init 82 = .ok (.istore_n 1, 1) := by decide +kernel
theorem dX11_init_83 : decode cX11_init 83 = .ok (.iload_n 1, 1) := by decide +kernel
theorem dX11_init_84 : decode cX11_init 84 = .ok (.bipush 6, 2) := by decide +kernel
theorem dX11_init_86 : decode cX11_init 86 = .ok (.if_icmp .ge 22, 3) := by decide +kernel
theorem dX11_init_89 : decode cX11_init 89 = .ok (.aload_n 0, 1) := by decide +kernel
theorem dX11_init_90 : decode cX11_init 90 = .ok (.getfield 27, 3) := by decide +kernel
theorem dX11_init_93 : decode cX11_init 93 = .ok (.iload_n 1, 1) := by decide +kernel
theorem dX11_init_94 : decode cX11_init 94 = .ok (.new 25, 3) := by decide +kernel
theorem dX11_init_97 : decode cX11_init 97 = .ok (.dup, 1) := by decide +kernel
theorem dX11_init_98 : decode cX11_init 98 = .ok (.invokespecial 55, 3) := by decide +kernel
theorem dX11_init_101 : decode cX11_init 101 = .ok (.aastore, 1) := by decide +kernel
theorem dX11_init_102 : decode cX11_init 102 = .ok (.iinc 1 1, 3) := by decide +kernel
theorem dX11_init_105 : decode cX11_init 105 = .ok (.goto (-22), 3) := by decide +kernel
theorem dX11_init_108 : decode cX11_init 108 = .ok (.iconst 0, 1) := by decide +kernel
theorem dX11_init_109 : decode cX11_init 109 = .ok (.istore_n 1, 1) := by decide +kernel
theorem dX11_init_110 : decode cX11_init 110 = .ok (.iload_n 1, 1) := by decide +kernel
theorem dX11_init_111 : decode cX11_init 111 = .ok (.iconst 4, 1) := by decide +kernel
theorem dX11_init_112 : decode cX11_init 112 = .ok (.if_icmp .ge 22, 3) := by decide +kernel
theorem dX11_init_115 : decode cX11_init 115 = .ok (.aload_n 0, 1) := by decide +kernel
theorem dX11_init_116 : decode cX11_init 116 = .ok (.getfield 40, 3) := by decide +kernel
theorem dX11_init_119 : decode cX11_init 119 = .ok (.iload_n 1, 1) := by decide +kernel
theorem dX11_init_120 : decode cX11_init 120 = .ok (.new 38, 3) := by decide +kernel
theorem dX11_init_123 : decode cX11_init 123 = .ok (.dup, 1) := by decide +kernel
theorem dX11_init_124 : decode cX11_init 124 = .ok (.invokespecial 56, 3) := by decide +kernel
theorem dX11_init_127 : decode cX11_init 127 = .ok (.aastore, 1) := by decide +kernel
theorem dX11_init_128 : decode cX11_init 128 = .ok (.iinc 1 1, 3) := by decide +kernel
theorem dX11_init_131 : decode cX11_init 131 = .ok (.goto (-21), 3) := by decide +kernel
theorem dX11_init_134 : decode cX11_init 134 = .ok (.aload_n 0, 1) := by decide +kernel
theorem dX11_init_135 : decode cX11_init 135 = .ok (.getfield 34, 3) := by decide +kernel
theorem dX11_init_138 : decode cX11_init 138 = .ok (.ldc 57, 2) := by decide +kernel
theorem dX11_init_140 : decode cX11_init 140 = .ok (.invokevirtual 59, 3) := by decide +kernel
theorem dX11_init_143 : decode cX11_init 143 = .ok (.aload_n 0, 1) := by decide +kernel
theorem dX11_init_144 : decode cX11_init 144 = .ok (.getfield 34, 3) := by decide +kernel
theorem dX11_init_147 : decode cX11_init 147 = .ok (.aload_n 0, 1) := by decide +kernel
theorem dX11_init_148 : decode cX11_init 148 = .ok (.getfield 27, 3) := by decide +kernel
theorem dX11_init_151 : decode cX11_init 151 = .ok (.iconst 0, 1) := by decide +kernel
theorem dX11_init_152 : decode cX11_init 152 = .ok (.aaload, 1) := by decide +kernel
theorem dX11_init_153 : decode cX11_init 153 = .ok (.invokevirtual 63, 3) := by decide +kernel
theorem dX11_init_156 : decode cX11_init 156 = .ok (.pop, 1) := by decide +kernel
theorem dX11_init_157 : decode cX11_init 157 = .ok (.aload_n 0, 1) := by decide +kernel
theorem dX11_init_158 : decode cX11_init 158 = .ok (.getfield 34, 3) := by decide +kernel
theorem dX11_init_161 : decode cX11_init 161 = .ok (.iconst 0, 1) := by decide +kernel
theorem dX11_init_162 : decode cX11_init 162 = .ok (.putfield 67, 3) := by decide +kernel
theorem dX11_init_165 : decode cX11_init 165 = .ok (.aload_n 0, 1) := by decide +kernel
theorem dX11_init_166 : decode cX11_init 166 = .ok (.iconst 1, 1) := by decide +kernel
theorem dX11_init_167 : decode cX11_init 167 = .ok (.putfield 71, 3) := by decide +kernel
theorem dX11_init_170 : decode cX11_init 170 = .ok (.return_, 1) := by decide +kernel
theorem dX11_lane_0 : decode cX11_lane 0 = .ok (.iload_n 1, 1) := by decide +kernel
theorem dX11_lane_1 : decode cX11_lane 1 = .ok (.iconst 0, 1) := by decide +kernel
theorem dX11_lane_2 : decode cX11_lane 2 = .ok (.iconst 5, 1) := by decide +kernel
theorem dX11_lane_3 : decode cX11_lane 3 = .ok (.invokestatic 74, 3) := by decide +kernel
theorem dX11_lane_6 : decode cX11_lane 6 = .ok (.ifCond .eq 22, 3) := by decide +kernel
theorem dX11_lane_9 : decode cX11_lane 9 = .ok (.iload_n 2, 1) := by decide +kernel
theorem dX11_lane_10 : decode cX11_lane 10 = .ok (.iconst 0, 1) := by decide +kernel
theorem dX11_lane_11 : decode cX11_lane 11 = .ok (.bipush 20, 2) := by decide +kernel
theorem dX11_lane_13 : decode cX11_lane 13 = .ok (.invokestatic 74, 3) := by decide +kernel
theorem dX11_lane_16 : decode cX11_lane 16 = .ok (.ifCond .eq 12, 3) := by decide +kernel
theorem dX11_lane_19 : decode cX11_lane 19 = .ok (.iload_n 3, 1) := by decide +kernel
theorem dX11_lane_20 : decode cX11_lane 20 = .ok (.iconst 0, 1) := by decide +kernel
theorem dX11_lane_21 : decode cX11_lane 21 = .ok (.iconst 1, 1) := by decide +kernel
theorem dX11_lane_22 : decode cX11_lane 22 = .ok (.invokestatic 74, 3) := by decide +kernel
theorem dX11_lane_25 : decode cX11_lane 25 = .ok (.ifCond .ne 6, 3) := by decide +kernel
theorem dX11_lane_28 : decode cX11_lane 28 = .ok (.bipush (-2), 2) := by decide +kernel
theorem dX11_lane_30 : decode cX11_lane 30 = .ok (.ireturn, 1) := by decide +kernel
theorem dX11_lane_31 : decode cX11_lane 31 = .ok (.aload_n 0, 1) := by decide +kernel
theorem dX11_lane_32 : decode cX11_lane 32 = .ok (.getfield 78, 3) := by decide +kernel
theorem dX11_lane_35 : decode cX11_lane 35 = .ok (.bipush 8, 2) := by decide +kernel
theorem dX11_lane_37 : decode cX11_lane 37 = .ok (.if_icmp .lt 6, 3) := by decide +kernel
theorem dX11_lane_40 : decode cX11_lane 40 = .ok (.bipush (-4), 2) := by decide +kernel
theorem dX11_lane_42 : decode cX11_lane 42 = .ok (.ireturn, 1) := by decide +kernel
theorem dX11_lane_43 : decode cX11_lane 43 = .ok (.aload_n 0, 1) := by decide +kernel
theorem dX11_lane_44 : decode cX11_lane 44 = .ok (.getfield 11, 3) := by decide +kernel
theorem dX11_lane_47 : decode cX11_lane 47 = .ok (.aload_n 0, 1) := by decide +kernel
theorem dX11_lane_48 : decode cX11_lane 48 = .ok (.getfield 78, 3) := by decide +kernel
theorem dX11_lane_51 : decode cX11_lane 51 = .ok (.iload_n 1, 1) := by decide +kernel
theorem dX11_lane_52 : decode cX11_lane 52 = .ok (.iload_n 2, 1) := by decide +kernel
theorem dX11_lane_53 : decode cX11_lane 53 = .ok (.iload_n 3, 1) := by decide +kernel
theorem dX11_lane_54 : decode cX11_lane 54 = .ok (.invokestatic 81, 3) := by decide +kernel
theorem dX11_lane_57 : decode cX11_lane 57 = .ok (.aastore, 1) := by decide +kernel
theorem dX11_lane_58 : decode cX11_lane 58 = .ok (.aload_n 0, 1) := by decide +kernel
theorem dX11_lane_59 : decode cX11_lane 59 = .ok (.dup, 1) := by decide +kernel
theorem dX11_lane_60 : decode cX11_lane 60 = .ok (.getfield 78, 3) := by decide +kernel
theorem dX11_lane_63 : decode cX11_lane 63 = .ok (.iconst 1, 1) := by decide +kernel
theorem dX11_lane_64 : decode cX11_lane 64 = .ok (.iadd, 1) := by decide +kernel
theorem dX11_lane_65 : decode cX11_lane 65 = .ok (.putfield 78, 3) := by decide +kernel
theorem dX11_lane_68 : decode cX11_lane 68 = .ok (.aload_n 0, 1) := by decide +kernel
theorem dX11_lane_69 : decode cX11_lane 69 = .ok (.getfield 78, 3) := by decide +kernel
theorem dX11_lane_72 : decode cX11_lane 72 = .ok (.iconst 1, 1) := by decide +kernel
theorem dX11_lane_73 : decode cX11_lane 73 = .ok (.isub, 1) := by decide +kernel
theorem dX11_lane_74 : decode cX11_lane 74 = .ok (.ireturn, 1) := by decide +kernel
theorem dX11_set_0 : decode cX11_set 0 = .ok (.iload_n 1, 1) := by decide +kernel
theorem dX11_set_1 : decode cX11_set 1 = .ok (.iconst 2, 1) := by decide +kernel
theorem dX11_set_2 : decode cX11_set 2 = .ok (.if_icmp .ne 9, 3) := by decide +kernel
theorem dX11_set_5 : decode cX11_set 5 = .ok (.aload_n 0, 1) := by decide +kernel
theorem dX11_set_6 : decode cX11_set 6 = .ok (.iload_n 3, 1) := by decide +kernel
theorem dX11_set_7 : decode cX11_set 7 = .ok (.invokevirtual 85, 3) := by decide +kernel
theorem dX11_set_10 : decode cX11_set 10 = .ok (.ireturn, 1) := by decide +kernel
theorem dX11_set_11 : decode cX11_set 11 = .ok (.iload_n 1, 1) := by decide +kernel
theorem dX11_set_12 : decode cX11_set 12 = .ok (.iconst 0, 1) := by decide +kernel
theorem dX11_set_13 : decode cX11_set 13 = .ok (.iconst 1, 1) := by decide +kernel
theorem dX11_set_14 : decode cX11_set 14 = .ok (.invokestatic 74, 3) := by decide +kernel
theorem dX11_set_17 : decode cX11_set 17 = .ok (.ifCond .eq 24, 3) := by decide +kernel
theorem dX11_set_20 : decode cX11_set 20 = .ok (.iload_n 2, 1) := by decide +kernel
theorem dX11_set_21 : decode cX11_set 21 = .ok (.iconst 0, 1) := by decide +kernel
theorem dX11_set_22 : decode cX11_set 22 = .ok (.sipush 599, 3) := by decide +kernel
theorem dX11_set_25 : decode cX11_set 25 = .ok (.invokestatic 74, 3) := by decide +kernel
theorem dX11_set_28 : decode cX11_set 28 = .ok (.ifCond .eq 13, 3) := by decide +kernel
theorem dX11_set_31 : decode cX11_set 31 = .ok (.iload_n 3, 1) := by decide +kernel
theorem dX11_set_32 : decode cX11_set 32 = .ok (.iconst 0, 1) := by decide +kernel
theorem dX11_set_33 : decode cX11_set 33 = .ok (.bipush 99, 2) := by decide +kernel
theorem dX11_set_35 : decode cX11_set 35 = .ok (.invokestatic 74, 3) := by decide +kernel
theorem dX11_set_38 : decode cX11_set 38 = .ok (.ifCond .ne 6, 3) := by decide +kernel
theorem dX11_set_41 : decode cX11_set 41 = .ok (.bipush (-2), 2) := by decide +kernel
theorem dX11_set_43 : decode cX11_set 43 = .ok (.ireturn, 1) := by decide +kernel
theorem dX11_set_44 : decode cX11_set 44 = .ok (.iload_n 2, 1) := by decide +kernel
theorem dX11_set_45 : decode cX11_set 45 = .ok (.bipush 10, 2) := by decide +kernel
theorem dX11_set_47 : decode cX11_set 47 = .ok (.irem, 1) := by decide +kernel
theorem dX11_set_48 : decode cX11_set 48 = .ok (.istore 4, 2) := by decide +kernel
theorem dX11_set_50 : decode cX11_set 50 = .ok (.iload 4, 2) := by decide +kernel
theorem dX11_set_52 : decode cX11_set 52 = .ok (.iconst 0, 1) := by decide +kernel
theorem dX11_set_53 : decode cX11_set 53 = .ok (.iconst 1, 1) := by decide +kernel
theorem dX11_set_54 : decode cX11_set 54 = .ok (.invokestatic 74, 3) := by decide +kernel
theorem dX11_set_57 : decode cX11_set 57 = .ok (.ifCond .ne 6, 3) := by decide +kernel
theorem dX11_set_60 : decode cX11_set 60 = .ok (.bipush (-2), 2) := by decide +kernel
theorem dX11_set_62 : decode cX11_set 62 = .ok (.ireturn, 1) := by decide +kernel
theorem dX11_set_63 : decode cX11_set 63 = .ok (.iload_n 1, 1) := by decide +kernel
theorem dX11_set_64 : decode cX11_set 64 = .ok (.ifCond .ne 13, 3) := by decide +kernel
theorem dX11_set_67 : decode cX11_set 67 = .ok (.aload_n 0, 1) := by decide +kernel
theorem dX11_set_68 : decode cX11_set 68 = .ok (.getfield 18, 3) := by decide +kernel
theorem dX11_set_71 : decode cX11_set 71 = .ok (.getfield 89, 3) := by decide +kernel
theorem dX11_set_74 : decode cX11_set 74 = .ok (.goto 10, 3) := by decide +kernel
theorem dX11_set_77 : decode cX11_set 77 = .ok (.aload_n 0, 1) := by decide +kernel
theorem dX11_set_78 : decode cX11_set 78 = .ok (.getfield 18, 3) := by decide +kernel
theorem dX11_set_81 : decode cX11_set 81 = .ok (.getfield 93, 3) := by decide +kernel
theorem dX11_set_84 : decode cX11_set 84 = .ok (.astore 5, 2) := by decide +kernel
theorem dX11_set_86 : decode cX11_set 86 = .ok (.iload 4, 2) := by decide +kernel
theorem dX11_set_88 : decode cX11_set 88 = .ok (.iload_n 2, 1) := by decide +kernel
theorem dX11_set_89 : decode cX11_set 89 = .ok (.bipush 10, 2) := by decide +kernel
theorem dX11_set_91 : decode cX11_set 91 = .ok (.idiv, 1) := by decide +kernel
theorem dX11_set_92 : decode cX11_set 92 = .ok (.invokestatic 96, 3) := by decide +kernel
theorem dX11_set_95 : decode cX11_set 95 = .ok (.istore 6, 2) := by decide +kernel
theorem dX11_set_97 : decode cX11_set 97 = .ok (.aload 5, 2) := by decide +kernel
theorem dX11_set_99 : decode cX11_set 99 = .ok (.iload 6, 2) := by decide +kernel
theorem dX11_set_101 : decode cX11_set 101 = .ok (.iaload, 1) := by decide +kernel
theorem dX11_set_102 : decode cX11_set 102 = .ok (.istore 7, 2) := by decide +kernel
theorem dX11_set_104 : decode cX11_set 104 = .ok (.aload 5, 2) := by decide +kernel
theorem dX11_set_106 : decode cX11_set 106 = .ok (.iload 6, 2) := by decide +kernel
theorem dX11_set_108 : decode cX11_set 108 = .ok (.iload_n 3, 1) := by decide +kernel
theorem dX11_set_109 : decode cX11_set 109 = .ok (.iastore, 1) := by decide +kernel
theorem dX11_set_110 : decode cX11_set 110 = .ok (.iload 7, 2) := by decide +kernel
theorem dX11_set_112 : decode cX11_set 112 = .ok (.ireturn, 1) := by decide +kernel
theorem dX11_come_0 : decode cX11_come 0 = .ok (.aload_n 0, 1) := by decide +kernel
theorem dX11_come_1 : decode cX11_come 1 = .ok (.iload_n 2, 1) := by decide +kernel
theorem dX11_come_2 : decode cX11_come 2 = .ok (.invokevirtual 100, 3) := by decide +kernel
theorem dX11_come_5 : decode cX11_come 5 = .ok (.astore_n 3, 1) := by decide +kernel
theorem dX11_come_6 : decode cX11_come 6 = .ok (.iload_n 1, 1) := by decide +kernel
theorem dX11_come_7 : decode cX11_come 7 = .ok (.iconst 0, 1) := by decide +kernel
theorem dX11_come_8 : decode cX11_come 8 = .ok (.iconst 1, 1) := by decide +kernel
theorem dX11_come_9 : decode cX11_come 9 = .ok (.invokestatic 74, 3) := by decide +kernel
theorem dX11_come_12 : decode cX11_come 12 = .ok (.ifCond .eq 7, 3) := by decide +kernel
theorem dX11_come_15 : decode cX11_come 15 = .ok (.aload_n 3, 1) := by decide +kernel
theorem dX11_come_16 : decode cX11_come 16 = .ok (.ifnonnull 6, 3) := by decide +kernel
theorem dX11_come_19 : decode cX11_come 19 = .ok (.bipush (-2), 2) := by decide +kernel
theorem dX11_come_21 : decode cX11_come 21 = .ok (.ireturn, 1) := by decide +kernel
theorem dX11_come_22 : decode cX11_come 22 = .ok (.aload_n 3, 1) := by decide +kernel
theorem dX11_come_23 : decode cX11_come 23 = .ok (.invokevirtual 104, 3) := by decide +kernel
theorem dX11_come_26 : decode cX11_come 26 = .ok (.ifCond .eq 6, 3) := by decide +kernel
theorem dX11_come_29 : decode cX11_come 29 = .ok (.bipush (-11), 2) := by decide +kernel
theorem dX11_come_31 : decode cX11_come 31 = .ok (.ireturn, 1) := by decide +kernel
theorem dX11_come_32 : decode cX11_come 32 = .ok (.iconst 0, 1) := by decide +kernel
theorem dX11_come_33 : decode cX11_come 33 = .ok (.istore 4, 2) := by decide +kernel
theorem dX11_come_35 : decode cX11_come 35 = .ok (.iload 4, 2) := by decide +kernel
theorem dX11_come_37 : decode cX11_come 37 = .ok (.bipush 60, 2) := by decide +kernel
theorem dX11_come_39 : decode cX11_come 39 = .ok (.if_icmp .ge 53, 3) := by decide +kernel
theorem dX11_come_42 : decode cX11_come 42 = .ok (.aload_n 3, 1) := by decide +kernel
theorem dX11_come_43 : decode cX11_come 43 = .ok (.iload 4, 2) := by decide +kernel
theorem dX11_come_45 : decode cX11_come 45 = .ok (.invokevirtual 108, 3) := by decide +kernel
theorem dX11_come_48 : decode cX11_come 48 = .ok (.ifCond .eq 44, 3) := by decide +kernel
theorem dX11_come_51 : decode cX11_come 51 = .ok (.aload_n 3, 1) := by decide +kernel
theorem dX11_come_52 : decode cX11_come 52 = .ok (.iload 4, 2) := by decide +kernel
theorem dX11_come_54 : decode cX11_come 54 = .ok (.invokevirtual 112, 3) := by decide +kernel
theorem dX11_come_57 : decode cX11_come 57 = .ok (.iconst 0, 1) := by decide +kernel
theorem dX11_come_58 : decode cX11_come 58 = .ok (.bipush 99, 2) := by decide +kernel
theorem dX11_come_60 : decode cX11_come 60 = .ok (.invokestatic 74, 3) := by decide +kernel
theorem dX11_come_63 : decode cX11_come 63 = .ok (.ifCond .eq 29, 3) := by decide +kernel
theorem dX11_come_66 : decode cX11_come 66 = .ok (.aload_n 0, 1) := by decide +kernel
theorem dX11_come_67 : decode cX11_come 67 = .ok (.getfield 18, 3) := by decide +kernel
theorem dX11_come_70 : decode cX11_come 70 = .ok (.getfield 89, 3) := by decide +kernel
theorem dX11_come_73 : decode cX11_come 73 = .ok (.iload_n 1, 1) := by decide +kernel
theorem dX11_come_74 : decode cX11_come 74 = .ok (.iload 4, 2) := by decide +kernel
theorem dX11_come_76 : decode cX11_come 76 = .ok (.invokestatic 96, 3) := by decide +kernel
theorem dX11_come_79 : decode cX11_come 79 = .ok (.aload_n 3, 1) := by decide +kernel
theorem dX11_come_80 : decode cX11_come 80 = .ok (.iload 4, 2) := by decide +kernel
theorem dX11_come_82 : decode cX11_come 82 = .ok (.invokevirtual 112, 3) := by decide +kernel
theorem dX11_come_85 : decode cX11_come 85 = .ok (.iastore, 1) := by decide +kernel
theorem dX11_come_86 : decode cX11_come 86 = .ok (.iinc 4 1, 3) := by decide +kernel
theorem dX11_come_89 : decode cX11_come 89 = .ok (.goto (-54), 3) := by decide +kernel
theorem dX11_come_92 : decode cX11_come 92 = .ok (.iload 4, 2) := by decide +kernel
theorem dX11_come_94 : decode cX11_come 94 = .ok (.ireturn, 1) := by decide +kernel
theorem dX11_stop_0 : decode cX11_stop 0 = .ok (.iload_n 1, 1) := by decide +kernel
theorem dX11_stop_1 : decode cX11_stop 1 = .ok (.iconst (-1), 1) := by decide +kernel
theorem dX11_stop_2 : decode cX11_stop 2 = .ok (.if_icmp .ne 13, 3) := by decide +kernel
theorem dX11_stop_5 : decode cX11_stop 5 = .ok (.aload_n 0, 1) := by decide +kernel
theorem dX11_stop_6 : decode cX11_stop 6 = .ok (.getfield 18, 3) := by decide +kernel
theorem dX11_stop_9 : decode cX11_stop 9 = .ok (.iconst (-1), 1) := by decide +kernel
theorem dX11_stop_10 : decode cX11_stop 10 = .ok (.putfield 115, 3) := by decide +kernel
theorem dX11_stop_13 : decode cX11_stop 13 = .ok (.iconst 1, 1) := by decide +kernel
theorem dX11_stop_14 : decode cX11_stop 14 = .ok (.ireturn, 1) := by decide +kernel
theorem dX11_stop_15 : decode cX11_stop 15 = .ok (.aload_n 0, 1) := by decide +kernel
theorem dX11_stop_16 : decode cX11_stop 16 = .ok (.iload_n 1, 1) := by decide +kernel
theorem dX11_stop_17 : decode cX11_stop 17 = .ok (.invokevirtual 118, 3) := by decide +kernel
theorem dX11_stop_20 : decode cX11_stop 20 = .ok (.ifnull 23, 3) := by decide +kernel
theorem dX11_stop_23 : decode cX11_stop 23 = .ok (.iload_n 2, 1) := by decide +kernel
theorem dX11_stop_24 : decode cX11_stop 24 = .ok (.iconst 0, 1) := by decide +kernel
theorem dX11_stop_25 : decode cX11_stop 25 = .ok (.bipush 59, 2) := by decide +kernel
theorem dX11_stop_27 : decode cX11_stop 27 = .ok (.invokestatic 74, 3) := by decide +kernel
theorem dX11_stop_30 : decode cX11_stop 30 = .ok (.ifCond .eq 13, 3) := by decide +kernel
theorem dX11_stop_33 : decode cX11_stop 33 = .ok (.iload_n 3, 1) := by decide +kernel
theorem dX11_stop_34 : decode cX11_stop 34 = .ok (.iload_n 2, 1) := by decide +kernel
theorem dX11_stop_35 : decode cX11_stop 35 = .ok (.bipush 59, 2) := by decide +kernel
theorem dX11_stop_37 : decode cX11_stop 37 = .ok (.invokestatic 74, 3) := by decide +kernel
theorem dX11_stop_40 : decode cX11_stop 40 = .ok (.ifCond .ne 6, 3) := by decide +kernel
theorem dX11_stop_43 : decode cX11_stop 43 = .ok (.bipush (-2), 2) := by decide +kernel
theorem dX11_stop_45 : decode cX11_stop 45 = .ok (.ireturn, 1) := by decide +kernel
theorem dX11_stop_46 : decode cX11_stop 46 = .ok (.aload_n 0, 1) := by decide +kernel
theorem dX11_stop_47 : decode cX11_stop 47 = .ok (.getfield 18, 3) := by decide +kernel
theorem dX11_stop_50 : decode cX11_stop 50 = .ok (.iload_n 1, 1) := by decide +kernel
theorem dX11_stop_51 : decode cX11_stop 51 = .ok (.putfield 115, 3) := by decide +kernel
theorem dX11_stop_54 : decode cX11_stop 54 = .ok (.aload_n 0, 1) := by decide +kernel
theorem dX11_stop_55 : decode cX11_stop 55 = .ok (.getfield 18, 3) := by decide +kernel
theorem dX11_stop_58 : decode cX11_stop 58 = .ok (.iload_n 2, 1) := by decide +kernel
theorem dX11_stop_59 : decode cX11_stop 59 = .ok (.putfield 122, 3) := by decide +kernel
theorem dX11_stop_62 : decode cX11_stop 62 = .ok (.aload_n 0, 1) := by decide +kernel
theorem dX11_stop_63 : decode cX11_stop 63 = .ok (.getfield 18, 3) := by decide +kernel
theorem dX11_stop_66 : decode cX11_stop 66 = .ok (.iload_n 3, 1) := by decide +kernel
theorem dX11_stop_67 : decode cX11_stop 67 = .ok (.putfield 125, 3) := by decide +kernel
theorem dX11_stop_70 : decode cX11_stop 70 = .ok (.iconst 1, 1) := by decide +kernel
theorem dX11_stop_71 : decode cX11_stop 71 = .ok (.ireturn, 1) := by decide +kernel
theorem dX11_told_0 : decode cX11_told 0 = .ok (.aload_n 0, 1) := by decide +kernel
theorem dX11_told_1 : decode cX11_told 1 = .ok (.iload_n 1, 1) := by decide +kernel
theorem dX11_told_2 : decode cX11_told 2 = .ok (.invokevirtual 118, 3) := by decide +kernel
theorem dX11_told_5 : decode cX11_told 5 = .ok (.astore 4, 2) := by decide +kernel
theorem dX11_told_7 : decode cX11_told 7 = .ok (.aload 4, 2) := by decide +kernel
theorem dX11_told_9 : decode cX11_told 9 = .ok (.ifnonnull 6, 3) := by decide +kernel
theorem dX11_told_12 : decode cX11_told 12 = .ok (.bipush (-2), 2) := by decide +kernel
theorem dX11_told_14 : decode cX11_told 14 = .ok (.ireturn, 1) := by decide +kernel
theorem dX11_told_15 : decode cX11_told 15 = .ok (.iload_n 2, 1) := by decide +kernel
theorem dX11_told_16 : decode cX11_told 16 = .ok (.tableswitch 124 0 5 #[40, 46, 52, 58, 71, 101], 40) := by decide +kernel
theorem dX11_told_56 : decode cX11_told 56 = .ok (.aload 4, 2) := by decide +kernel
theorem dX11_told_58 : decode cX11_told 58 = .ok (.getfield 128, 3) := by decide +kernel
theorem dX11_told_61 : decode cX11_told 61 = .ok (.ireturn, 1) := by decide +kernel
theorem dX11_told_62 : decode cX11_told 62 = .ok (.aload 4, 2) := by decide +kernel
theorem dX11_told_64 : decode cX11_told 64 = .ok (.getfield 131, 3) := by decide +kernel
theorem dX11_told_67 : decode cX11_told 67 = .ok (.ireturn, 1) := by decide +kernel
theorem dX11_told_68 : decode cX11_told 68 = .ok (.aload 4, 2) := by decide +kernel
theorem dX11_told_70 : decode cX11_told 70 = .ok (.getfield 134, 3) := by decide +kernel
theorem dX11_told_73 : decode cX11_told 73 = .ok (.ireturn, 1) := by decide +kernel
theorem dX11_told_74 : decode cX11_told 74 = .ok (.aload 4, 2) := by decide +kernel
theorem dX11_told_76 : decode cX11_told 76 = .ok (.aload_n 0, 1) := by decide +kernel
theorem dX11_told_77 : decode cX11_told 77 = .ok (.getfield 18, 3) := by decide +kernel
theorem dX11_told_80 : decode cX11_told 80 = .ok (.getfield 137, 3) := by decide +kernel
theorem dX11_told_83 : decode cX11_told 83 = .ok (.invokevirtual 140, 3) := by decide +kernel
theorem dX11_told_86 : decode cX11_told 86 = .ok (.ireturn, 1) := by decide +kernel
theorem dX11_told_87 : decode cX11_told 87 = .ok (.iload_n 3, 1) := by decide +kernel
theorem dX11_told_88 : decode cX11_told 88 = .ok (.iconst 0, 1) := by decide +kernel
theorem dX11_told_89 : decode cX11_told 89 = .ok (.bipush 59, 2) := by decide +kernel
theorem dX11_told_91 : decode cX11_told 91 = .ok (.invokestatic 74, 3) := by decide +kernel
theorem dX11_told_94 : decode cX11_told 94 = .ok (.ifCond .ne 8, 3) := by decide +kernel
theorem dX11_told_97 : decode cX11_told 97 = .ok (.bipush (-2), 2) := by decide +kernel
theorem dX11_told_99 : decode cX11_told 99 = .ok (.goto 17, 3) := by decide +kernel
theorem dX11_told_102 : decode cX11_told 102 = .ok (.aload 4, 2) := by decide +kernel
theorem dX11_told_104 : decode cX11_told 104 = .ok (.iload_n 3, 1) := by decide +kernel
theorem dX11_told_105 : decode cX11_told 105 = .ok (.invokevirtual 143, 3) := by decide +kernel
theorem dX11_told_108 : decode cX11_told 108 = .ok (.ifCond .eq 7, 3) := by decide +kernel
theorem dX11_told_111 : decode cX11_told 111 = .ok (.iconst 1, 1) := by decide +kernel
theorem dX11_told_112 : decode cX11_told 112 = .ok (.goto 4, 3) := by decide +kernel
theorem dX11_told_115 : decode cX11_told 115 = .ok (.iconst 0, 1) := by decide +kernel
theorem dX11_told_116 : decode cX11_told 116 = .ok (.ireturn, 1) := by decide +kernel
theorem dX11_told_117 : decode cX11_told 117 = .ok (.iload_n 3, 1) := by decide +kernel
theorem dX11_told_118 : decode cX11_told 118 = .ok (.iconst 0, 1) := by decide +kernel
theorem dX11_told_119 : decode cX11_told 119 = .ok (.sipush 9999, 3) := by decide +kernel
theorem dX11_told_122 : decode cX11_told 122 = .ok (.invokestatic 74, 3) := by decide +kernel
theorem dX11_told_125 : decode cX11_told 125 = .ok (.ifCond .eq 12, 3) := by decide +kernel
theorem dX11_told_128 : decode cX11_told 128 = .ok (.aload 4, 2) := by decide +kernel
theorem dX11_told_130 : decode cX11_told 130 = .ok (.iload_n 3, 1) := by decide +kernel
theorem dX11_told_131 : decode cX11_told 131 = .ok (.invokevirtual 146, 3) := by decide +kernel
theorem dX11_told_134 : decode cX11_told 134 = .ok (.goto 5, 3) := by decide +kernel
theorem dX11_told_137 : decode cX11_told 137 = .ok (.bipush (-2), 2) := by decide +kernel
theorem dX11_told_139 : decode cX11_told 139 = .ok (.ireturn, 1) := by decide +kernel
theorem dX11_told_140 : decode cX11_told 140 = .ok (.bipush (-2), 2) := by decide +kernel
theorem dX11_told_142 : decode cX11_told 142 = .ok (.ireturn, 1) := by decide +kernel
theorem dX11_feed_0 : decode cX11_feed 0 = .ok (.iload_n 1, 1) := by decide +kernel
theorem dX11_feed_1 : decode cX11_feed 1 = .ok (.iconst 1, 1) := by decide +kernel
theorem dX11_feed_2 : decode cX11_feed 2 = .ok (.bipush 8, 2) := by decide +kernel
theorem dX11_feed_4 : decode cX11_feed 4 = .ok (.invokestatic 74, 3) := by decide +kernel
theorem dX11_feed_7 : decode cX11_feed 7 = .ok (.ifCond .ne 6, 3) := by decide +kernel
theorem dX11_feed_10 : decode cX11_feed 10 = .ok (.bipush (-2), 2) := by decide +kernel
theorem dX11_feed_12 : decode cX11_feed 12 = .ok (.ireturn, 1) := by decide +kernel
theorem dX11_feed_13 : decode cX11_feed 13 = .ok (.aload_n 0, 1) := by decide +kernel
theorem dX11_feed_14 : decode cX11_feed 14 = .ok (.getfield 34, 3) := by decide +kernel
theorem dX11_feed_17 : decode cX11_feed 17 = .ok (.getfield 67, 3) := by decide +kernel
theorem dX11_feed_20 : decode cX11_feed 20 = .ok (.iload_n 1, 1) := by decide +kernel
theorem dX11_feed_21 : decode cX11_feed 21 = .ok (.iadd, 1) := by decide +kernel
theorem dX11_feed_22 : decode cX11_feed 22 = .ok (.sipush 160, 3) := by decide +kernel
theorem dX11_feed_25 : decode cX11_feed 25 = .ok (.if_icmp .le 6, 3) := by decide +kernel
theorem dX11_feed_28 : decode cX11_feed 28 = .ok (.bipush (-4), 2) := by decide +kernel
theorem dX11_feed_30 : decode cX11_feed 30 = .ok (.ireturn, 1) := by decide +kernel
theorem dX11_feed_31 : decode cX11_feed 31 = .ok (.iconst 0, 1) := by decide +kernel
theorem dX11_feed_32 : decode cX11_feed 32 = .ok (.istore 4, 2) := by decide +kernel
theorem dX11_feed_34 : decode cX11_feed 34 = .ok (.iload 4, 2) := by decide +kernel
theorem dX11_feed_36 : decode cX11_feed 36 = .ok (.iload_n 1, 1) := by decide +kernel
theorem dX11_feed_37 : decode cX11_feed 37 = .ok (.if_icmp .ge 28, 3) := by decide +kernel
theorem dX11_feed_40 : decode cX11_feed 40 = .ok (.aload_n 0, 1) := by decide +kernel
theorem dX11_feed_41 : decode cX11_feed 41 = .ok (.getfield 34, 3) := by decide +kernel
theorem dX11_feed_44 : decode cX11_feed 44 = .ok (.lload_n 2, 1) := by decide +kernel
theorem dX11_feed_45 : decode cX11_feed 45 = .ok (.bipush 8, 2) := by decide +kernel
theorem dX11_feed_47 : decode cX11_feed 47 = .ok (.iload 4, 2) := by decide +kernel
theorem dX11_feed_49 : decode cX11_feed 49 = .ok (.imul, 1) := by decide +kernel
theorem dX11_feed_50 : decode cX11_feed 50 = .ok (.lshr, 1) := by decide +kernel
theorem dX11_feed_51 : decode cX11_feed 51 = .ok (.l2i, 1) := by decide +kernel
theorem dX11_feed_52 : decode cX11_feed 52 = .ok (.sipush 255, 3) := by decide +kernel
theorem dX11_feed_55 : decode cX11_feed 55 = .ok (.iand, 1) := by decide +kernel
theorem dX11_feed_56 : decode cX11_feed 56 = .ok (.invokevirtual 149, 3) := by decide +kernel
theorem dX11_feed_59 : decode cX11_feed 59 = .ok (.iinc 4 1, 3) := by decide +kernel
theorem dX11_feed_62 : decode cX11_feed 62 = .ok (.goto (-28), 3) := by decide +kernel
theorem dX11_feed_65 : decode cX11_feed 65 = .ok (.aload_n 0, 1) := by decide +kernel
theorem dX11_feed_66 : decode cX11_feed 66 = .ok (.getfield 34, 3) := by decide +kernel
theorem dX11_feed_69 : decode cX11_feed 69 = .ok (.getfield 67, 3) := by decide +kernel
theorem dX11_feed_72 : decode cX11_feed 72 = .ok (.ireturn, 1) := by decide +kernel
theorem dX11_text_0 : decode cX11_text 0 = .ok (.aload_n 0, 1) := by decide +kernel
theorem dX11_text_1 : decode cX11_text 1 = .ok (.getfield 71, 3) := by decide +kernel
theorem dX11_text_4 : decode cX11_text 4 = .ok (.bipush 6, 2) := by decide +kernel
theorem dX11_text_6 : decode cX11_text 6 = .ok (.if_icmp .lt 6, 3) := by decide +kernel
theorem dX11_text_9 : decode cX11_text 9 = .ok (.bipush (-4), 2) := by decide +kernel
theorem dX11_text_11 : decode cX11_text 11 = .ok (.ireturn, 1) := by decide +kernel
theorem dX11_text_12 : decode cX11_text 12 = .ok (.aload_n 0, 1) := by decide +kernel
theorem dX11_text_13 : decode cX11_text 13 = .ok (.getfield 34, 3) := by decide +kernel
theorem dX11_text_16 : decode cX11_text 16 = .ok (.aload_n 0, 1) := by decide +kernel
theorem dX11_text_17 : decode cX11_text 17 = .ok (.getfield 27, 3) := by decide +kernel
theorem dX11_text_20 : decode cX11_text 20 = .ok (.aload_n 0, 1) := by decide +kernel
theorem dX11_text_21 : decode cX11_text 21 = .ok (.getfield 71, 3) := by decide +kernel
theorem dX11_text_24 : decode cX11_text 24 = .ok (.aaload, 1) := by decide +kernel
theorem dX11_text_25 : decode cX11_text 25 = .ok (.invokevirtual 63, 3) := by decide +kernel
theorem dX11_text_28 : decode cX11_text 28 = .ok (.istore_n 1, 1) := by decide +kernel
theorem dX11_text_29 : decode cX11_text 29 = .ok (.aload_n 0, 1) := by decide +kernel
theorem dX11_text_30 : decode cX11_text 30 = .ok (.getfield 34, 3) := by decide +kernel
theorem dX11_text_33 : decode cX11_text 33 = .ok (.iconst 0, 1) := by decide +kernel
theorem dX11_text_34 : decode cX11_text 34 = .ok (.putfield 67, 3) := by decide +kernel
theorem dX11_text_37 : decode cX11_text 37 = .ok (.iload_n 1, 1) := by decide +kernel
theorem dX11_text_38 : decode cX11_text 38 = .ok (.iconst (-1), 1) := by decide +kernel
theorem dX11_text_39 : decode cX11_text 39 = .ok (.if_icmp .eq 8, 3) := by decide +kernel
theorem dX11_text_42 : decode cX11_text 42 = .ok (.bipush (-100), 2) := by decide +kernel
theorem dX11_text_44 : decode cX11_text 44 = .ok (.iload_n 1, 1) := by decide +kernel
theorem dX11_text_45 : decode cX11_text 45 = .ok (.isub, 1) := by decide +kernel
theorem dX11_text_46 : decode cX11_text 46 = .ok (.ireturn, 1) := by decide +kernel
theorem dX11_text_47 : decode cX11_text 47 = .ok (.aload_n 0, 1) := by decide +kernel
theorem dX11_text_48 : decode cX11_text 48 = .ok (.dup, 1) := by decide +kernel
theorem dX11_text_49 : decode cX11_text 49 = .ok (.getfield 71, 3) := by decide +kernel
theorem dX11_text_52 : decode cX11_text 52 = .ok (.iconst 1, 1) := by decide +kernel
theorem dX11_text_53 : decode cX11_text 53 = .ok (.iadd, 1) := by decide +kernel
theorem dX11_text_54 : decode cX11_text 54 = .ok (.putfield 71, 3) := by decide +kernel
theorem dX11_text_57 : decode cX11_text 57 = .ok (.aload_n 0, 1) := by decide +kernel
theorem dX11_text_58 : decode cX11_text 58 = .ok (.getfield 71, 3) := by decide +kernel
theorem dX11_text_61 : decode cX11_text 61 = .ok (.iconst 1, 1) := by decide +kernel
theorem dX11_text_62 : decode cX11_text 62 = .ok (.isub, 1) := by decide +kernel
theorem dX11_text_63 : decode cX11_text 63 = .ok (.ireturn, 1) := by decide +kernel
theorem dX11_force_0 : decode cX11_force 0 = .ok (.iload_n 1, 1) := by decide +kernel
theorem dX11_force_1 : decode cX11_force 1 = .ok (.iconst 0, 1) := by decide +kernel
theorem dX11_force_2 : decode cX11_force 2 = .ok (.aload_n 0, 1) := by decide +kernel
theorem dX11_force_3 : decode cX11_force 3 = .ok (.getfield 71, 3) := by decide +kernel
theorem dX11_force_6 : decode cX11_force 6 = .ok (.iconst 1, 1) := by decide +kernel
theorem dX11_force_7 : decode cX11_force 7 = .ok (.isub, 1) := by decide +kernel
theorem dX11_force_8 : decode cX11_force 8 = .ok (.invokestatic 74, 3) := by decide +kernel
theorem dX11_force_11 : decode cX11_force 11 = .ok (.ifCond .ne 6, 3) := by decide +kernel
theorem dX11_force_14 : decode cX11_force 14 = .ok (.bipush (-2), 2) := by decide +kernel
theorem dX11_force_16 : decode cX11_force 16 = .ok (.ireturn, 1) := by decide +kernel
theorem dX11_force_17 : decode cX11_force 17 = .ok (.aload_n 0, 1) := by decide +kernel
theorem dX11_force_18 : decode cX11_force 18 = .ok (.getfield 18, 3) := by decide +kernel
theorem dX11_force_21 : decode cX11_force 21 = .ok (.getfield 153, 3) := by decide +kernel
theorem dX11_force_24 : decode cX11_force 24 = .ok (.istore_n 2, 1) := by decide +kernel
theorem dX11_force_25 : decode cX11_force 25 = .ok (.aload_n 0, 1) := by decide +kernel
theorem dX11_force_26 : decode cX11_force 26 = .ok (.getfield 18, 3) := by decide +kernel
theorem dX11_force_29 : decode cX11_force 29 = .ok (.iload_n 1, 1) := by decide +kernel
theorem dX11_force_30 : decode cX11_force 30 = .ok (.putfield 153, 3) := by decide +kernel
theorem dX11_force_33 : decode cX11_force 33 = .ok (.iload_n 2, 1) := by decide +kernel
theorem dX11_force_34 : decode cX11_force 34 = .ok (.ireturn, 1) := by decide +kernel
theorem dX11_waited_0 : decode cX11_waited 0 = .ok (.iload_n 1, 1) := by decide +kernel
theorem dX11_waited_1 : decode cX11_waited 1 = .ok (.iconst 1, 1) := by decide +kernel
theorem dX11_waited_2 : decode cX11_waited 2 = .ok (.bipush 60, 2) := by decide +kernel
theorem dX11_waited_4 : decode cX11_waited 4 = .ok (.invokestatic 74, 3) := by decide +kernel
theorem dX11_waited_7 : decode cX11_waited 7 = .ok (.ifCond .eq 20, 3) := by decide +kernel
theorem dX11_waited_10 : decode cX11_waited 10 = .ok (.iload_n 2, 1) := by decide +kernel
theorem dX11_waited_11 : decode cX11_waited 11 = .ok (.iconst (-1), 1) := by decide +kernel
theorem dX11_waited_12 : decode cX11_waited 12 = .ok (.iconst 4, 1) := by decide +kernel
theorem dX11_waited_13 : decode cX11_waited 13 = .ok (.invokestatic 74, 3) := by decide +kernel
theorem dX11_waited_16 : decode cX11_waited 16 = .ok (.ifCond .eq 11, 3) := by decide +kernel
theorem dX11_waited_19 : decode cX11_waited 19 = .ok (.aload_n 0, 1) := by decide +kernel
theorem dX11_waited_20 : decode cX11_waited 20 = .ok (.iload_n 2, 1) := by decide +kernel
theorem dX11_waited_21 : decode cX11_waited 21 = .ok (.invokevirtual 156, 3) := by decide +kernel
theorem dX11_waited_24 : decode cX11_waited 24 = .ok (.ifCond .eq 7, 3) := by decide +kernel
theorem dX11_waited_27 : decode cX11_waited 27 = .ok (.ldc2_w 159, 3) := by decide +kernel
theorem dX11_waited_30 : decode cX11_waited 30 = .ok (.lreturn, 1) := by decide +kernel
theorem dX11_waited_31 : decode cX11_waited 31 = .ok (.aload_n 0, 1) := by decide +kernel
theorem dX11_waited_32 : decode cX11_waited 32 = .ok (.iload_n 1, 1) := by decide +kernel
theorem dX11_waited_33 : decode cX11_waited 33 = .ok (.iload_n 2, 1) := by decide +kernel
theorem dX11_waited_34 : decode cX11_waited 34 = .ok (.invokevirtual 161, 3) := by decide +kernel
theorem dX11_waited_37 : decode cX11_waited 37 = .ok (.aload_n 0, 1) := by decide +kernel
theorem dX11_waited_38 : decode cX11_waited 38 = .ok (.getfield 47, 3) := by decide +kernel
theorem dX11_waited_41 : decode cX11_waited 41 = .ok (.getfield 165, 3) := by decide +kernel
theorem dX11_waited_44 : decode cX11_waited 44 = .ok (.lreturn, 1) := by decide +kernel
theorem dX11_day_0 : decode cX11_day 0 = .ok (.iload_n 1, 1) := by decide +kernel
theorem dX11_day_1 : decode cX11_day 1 = .ok (.iconst 1, 1) := by decide +kernel
theorem dX11_day_2 : decode cX11_day 2 = .ok (.bipush 60, 2) := by decide +kernel
theorem dX11_day_4 : decode cX11_day 4 = .ok (.invokestatic 74, 3) := by decide +kernel
theorem dX11_day_7 : decode cX11_day 7 = .ok (.ifCond .eq 21, 3) := by decide +kernel
theorem dX11_day_10 : decode cX11_day 10 = .ok (.iload_n 2, 1) := by decide +kernel
theorem dX11_day_11 : decode cX11_day 11 = .ok (.iconst (-1), 1) := by decide +kernel
theorem dX11_day_12 : decode cX11_day 12 = .ok (.iconst 4, 1) := by decide +kernel
theorem dX11_day_13 : decode cX11_day 13 = .ok (.invokestatic 74, 3) := by decide +kernel
theorem dX11_day_16 : decode cX11_day 16 = .ok (.ifCond .eq 12, 3) := by decide +kernel
theorem dX11_day_19 : decode cX11_day 19 = .ok (.iload_n 3, 1) := by decide +kernel
theorem dX11_day_20 : decode cX11_day 20 = .ok (.iconst 0, 1) := by decide +kernel
theorem dX11_day_21 : decode cX11_day 21 = .ok (.iconst 4, 1) := by decide +kernel
theorem dX11_day_22 : decode cX11_day 22 = .ok (.invokestatic 74, 3) := by decide +kernel
theorem dX11_day_25 : decode cX11_day 25 = .ok (.ifCond .ne 6, 3) := by decide +kernel
theorem dX11_day_28 : decode cX11_day 28 = .ok (.bipush (-2), 2) := by decide +kernel
theorem dX11_day_30 : decode cX11_day 30 = .ok (.ireturn, 1) := by decide +kernel
theorem dX11_day_31 : decode cX11_day 31 = .ok (.aload_n 0, 1) := by decide +kernel
theorem dX11_day_32 : decode cX11_day 32 = .ok (.iload_n 2, 1) := by decide +kernel
theorem dX11_day_33 : decode cX11_day 33 = .ok (.invokevirtual 156, 3) := by decide +kernel
theorem dX11_day_36 : decode cX11_day 36 = .ok (.ifCond .eq 6, 3) := by decide +kernel
theorem dX11_day_39 : decode cX11_day 39 = .ok (.bipush (-11), 2) := by decide +kernel
theorem dX11_day_41 : decode cX11_day 41 = .ok (.ireturn, 1) := by decide +kernel
theorem dX11_day_42 : decode cX11_day 42 = .ok (.aload_n 0, 1) := by decide +kernel
theorem dX11_day_43 : decode cX11_day 43 = .ok (.iload_n 1, 1) := by decide +kernel
theorem dX11_day_44 : decode cX11_day 44 = .ok (.iload_n 2, 1) := by decide +kernel
theorem dX11_day_45 : decode cX11_day 45 = .ok (.invokevirtual 161, 3) := by decide +kernel
theorem dX11_day_48 : decode cX11_day 48 = .ok (.iload_n 3, 1) := by decide +kernel
theorem dX11_day_49 : decode cX11_day 49 = .ok (.tableswitch 67 0 3 #[31, 41, 51, 59], 31) := by decide +kernel
theorem dX11_day_80 : decode cX11_day 80 = .ok (.aload_n 0, 1) := by decide +kernel
theorem dX11_day_81 : decode cX11_day 81 = .ok (.getfield 47, 3) := by decide +kernel
theorem dX11_day_84 : decode cX11_day 84 = .ok (.getfield 169, 3) := by decide +kernel
theorem dX11_day_87 : decode cX11_day 87 = .ok (.iconst 0, 1) := by decide +kernel
theorem dX11_day_88 : decode cX11_day 88 = .ok (.iaload, 1) := by decide +kernel
theorem dX11_day_89 : decode cX11_day 89 = .ok (.ireturn, 1) := by decide +kernel
theorem dX11_day_90 : decode cX11_day 90 = .ok (.aload_n 0, 1) := by decide +kernel
theorem dX11_day_91 : decode cX11_day 91 = .ok (.getfield 47, 3) := by decide +kernel
theorem dX11_day_94 : decode cX11_day 94 = .ok (.getfield 169, 3) := by decide +kernel
theorem dX11_day_97 : decode cX11_day 97 = .ok (.iconst 1, 1) := by decide +kernel
theorem dX11_day_98 : decode cX11_day 98 = .ok (.iaload, 1) := by decide +kernel
theorem dX11_day_99 : decode cX11_day 99 = .ok (.ireturn, 1) := by decide +kernel
theorem dX11_day_100 : decode cX11_day 100 = .ok (.aload_n 0, 1) := by decide +kernel
theorem dX11_day_101 : decode cX11_day 101 = .ok (.getfield 47, 3) := by decide +kernel
theorem dX11_day_104 : decode cX11_day 104 = .ok (.getfield 172, 3) := by decide +kernel
theorem dX11_day_107 : decode cX11_day 107 = .ok (.ireturn, 1) := by decide +kernel
theorem dX11_day_108 : decode cX11_day 108 = .ok (.aload_n 0, 1) := by decide +kernel
theorem dX11_day_109 : decode cX11_day 109 = .ok (.getfield 47, 3) := by decide +kernel
theorem dX11_day_112 : decode cX11_day 112 = .ok (.getfield 175, 3) := by decide +kernel
theorem dX11_day_115 : decode cX11_day 115 = .ok (.ireturn, 1) := by decide +kernel
theorem dX11_day_116 : decode cX11_day 116 = .ok (.aload_n 0, 1) := by decide +kernel
theorem dX11_day_117 : decode cX11_day 117 = .ok (.getfield 47, 3) := by decide +kernel
theorem dX11_day_120 : decode cX11_day 120 = .ok (.invokevirtual 178, 3) := by decide +kernel
theorem dX11_day_123 : decode cX11_day 123 = .ok (.ireturn, 1) := by decide +kernel
theorem dX11_best_0 : decode cX11_best 0 = .ok (.iload_n 1, 1) := by decide +kernel
theorem dX11_best_1 : decode cX11_best 1 = .ok (.iconst 1, 1) := by decide +kernel
theorem dX11_best_2 : decode cX11_best 2 = .ok (.bipush 60, 2) := by decide +kernel
theorem dX11_best_4 : decode cX11_best 4 = .ok (.invokestatic 74, 3) := by decide +kernel
theorem dX11_best_7 : decode cX11_best 7 = .ok (.ifCond .eq 12, 3) := by decide +kernel
theorem dX11_best_10 : decode cX11_best 10 = .ok (.iload_n 2, 1) := by decide +kernel
theorem dX11_best_11 : decode cX11_best 11 = .ok (.iconst 0, 1) := by decide +kernel
theorem dX11_best_12 : decode cX11_best 12 = .ok (.iconst 2, 1) := by decide +kernel
theorem dX11_best_13 : decode cX11_best 13 = .ok (.invokestatic 74, 3) := by decide +kernel
theorem dX11_best_16 : decode cX11_best 16 = .ok (.ifCond .ne 7, 3) := by decide +kernel
theorem dX11_best_19 : decode cX11_best 19 = .ok (.ldc2_w 159, 3) := by decide +kernel
theorem dX11_best_22 : decode cX11_best 22 = .ok (.lreturn, 1) := by decide +kernel
theorem dX11_best_23 : decode cX11_best 23 = .ok (.aload_n 0, 1) := by decide +kernel
theorem dX11_best_24 : decode cX11_best 24 = .ok (.invokevirtual 182, 3) := by decide +kernel
theorem dX11_best_27 : decode cX11_best 27 = .ok (.aload_n 0, 1) := by decide +kernel
theorem dX11_best_28 : decode cX11_best 28 = .ok (.getfield 47, 3) := by decide +kernel
theorem dX11_best_31 : decode cX11_best 31 = .ok (.iload_n 1, 1) := by decide +kernel
theorem dX11_best_32 : decode cX11_best 32 = .ok (.ldc2_w 185, 3) := by decide +kernel
theorem dX11_best_35 : decode cX11_best 35 = .ok (.invokevirtual 187, 3) := by decide +kernel
theorem dX11_best_38 : decode cX11_best 38 = .ok (.aload_n 0, 1) := by decide +kernel
theorem dX11_best_39 : decode cX11_best 39 = .ok (.getfield 51, 3) := by decide +kernel
theorem dX11_best_42 : decode cX11_best 42 = .ok (.iconst 0, 1) := by decide +kernel
theorem dX11_best_43 : decode cX11_best 43 = .ok (.ldc2_w 191, 3) := by decide +kernel
theorem dX11_best_46 : decode cX11_best 46 = .ok (.lastore, 1) := by decide +kernel
theorem dX11_best_47 : decode cX11_best 47 = .ok (.aload_n 0, 1) := by decide +kernel
theorem dX11_best_48 : decode cX11_best 48 = .ok (.getfield 51, 3) := by decide +kernel
theorem dX11_best_51 : decode cX11_best 51 = .ok (.iconst 1, 1) := by decide +kernel
theorem dX11_best_52 : decode cX11_best 52 = .ok (.ldc2_w 191, 3) := by decide +kernel
theorem dX11_best_55 : decode cX11_best 55 = .ok (.lastore, 1) := by decide +kernel
theorem dX11_best_56 : decode cX11_best 56 = .ok (.aload_n 0, 1) := by decide +kernel
theorem dX11_best_57 : decode cX11_best 57 = .ok (.getfield 51, 3) := by decide +kernel
theorem dX11_best_60 : decode cX11_best 60 = .ok (.iconst 2, 1) := by decide +kernel
theorem dX11_best_61 : decode cX11_best 61 = .ok (.aload_n 0, 1) := by decide +kernel
theorem dX11_best_62 : decode cX11_best 62 = .ok (.getfield 47, 3) := by decide +kernel
theorem dX11_best_65 : decode cX11_best 65 = .ok (.getfield 165, 3) := by decide +kernel
theorem dX11_best_68 : decode cX11_best 68 = .ok (.lastore, 1) := by decide +kernel
theorem dX11_best_69 : decode cX11_best 69 = .ok (.iconst 0, 1) := by decide +kernel
theorem dX11_best_70 : decode cX11_best 70 = .ok (.istore_n 3, 1) := by decide +kernel
theorem dX11_best_71 : decode cX11_best 71 = .ok (.iload_n 3, 1) := by decide +kernel
theorem dX11_best_72 : decode cX11_best 72 = .ok (.iload_n 1, 1) := by decide +kernel
theorem dX11_best_73 : decode cX11_best 73 = .ok (.if_icmp .ge 49, 3) := by decide +kernel
theorem dX11_best_76 : decode cX11_best 76 = .ok (.iconst 0, 1) := by decide +kernel
theorem dX11_best_77 : decode cX11_best 77 = .ok (.istore 4, 2) := by decide +kernel
theorem dX11_best_79 : decode cX11_best 79 = .ok (.iload 4, 2) := by decide +kernel
theorem dX11_best_81 : decode cX11_best 81 = .ok (.aload_n 0, 1) := by decide +kernel
theorem dX11_best_82 : decode cX11_best 82 = .ok (.getfield 78, 3) := by decide +kernel
theorem dX11_best_85 : decode cX11_best 85 = .ok (.if_icmp .ge 31, 3) := by decide +kernel
theorem dX11_best_88 : decode cX11_best 88 = .ok (.aload_n 0, 1) := by decide +kernel
theorem dX11_best_89 : decode cX11_best 89 = .ok (.getfield 11, 3) := by decide +kernel
theorem dX11_best_92 : decode cX11_best 92 = .ok (.iload 4, 2) := by decide +kernel
theorem dX11_best_94 : decode cX11_best 94 = .ok (.aaload, 1) := by decide +kernel
theorem dX11_best_95 : decode cX11_best 95 = .ok (.iload_n 3, 1) := by decide +kernel
theorem dX11_best_96 : decode cX11_best 96 = .ok (.invokevirtual 143, 3) := by decide +kernel
theorem dX11_best_99 : decode cX11_best 99 = .ok (.ifCond .eq 11, 3) := by decide +kernel
theorem dX11_best_102 : decode cX11_best 102 = .ok (.aload_n 0, 1) := by decide +kernel
theorem dX11_best_103 : decode cX11_best 103 = .ok (.iload_n 1, 1) := by decide +kernel
theorem dX11_best_104 : decode cX11_best 104 = .ok (.iload 4, 2) := by decide +kernel
theorem dX11_best_106 : decode cX11_best 106 = .ok (.iload_n 3, 1) := by decide +kernel
theorem dX11_best_107 : decode cX11_best 107 = .ok (.invokevirtual 193, 3) := by decide +kernel
theorem dX11_best_110 : decode cX11_best 110 = .ok (.iinc 4 1, 3) := by decide +kernel
theorem dX11_best_113 : decode cX11_best 113 = .ok (.goto (-34), 3) := by decide +kernel
theorem dX11_best_116 : decode cX11_best 116 = .ok (.iinc 3 1, 3) := by decide +kernel
theorem dX11_best_119 : decode cX11_best 119 = .ok (.goto (-48), 3) := by decide +kernel
theorem dX11_best_122 : decode cX11_best 122 = .ok (.aload_n 0, 1) := by decide +kernel
theorem dX11_best_123 : decode cX11_best 123 = .ok (.getfield 51, 3) := by decide +kernel
theorem dX11_best_126 : decode cX11_best 126 = .ok (.iload_n 2, 1) := by decide +kernel
theorem dX11_best_127 : decode cX11_best 127 = .ok (.laload, 1) := by decide +kernel
theorem dX11_best_128 : decode cX11_best 128 = .ok (.lreturn, 1) := by decide +kernel
theorem dX11_two_0 : decode cX11_two 0 = .ok (.iload_n 1, 1) := by decide +kernel
theorem dX11_two_1 : decode cX11_two 1 = .ok (.iconst 2, 1) := by decide +kernel
theorem dX11_two_2 : decode cX11_two 2 = .ok (.bipush 12, 2) := by decide +kernel
theorem dX11_two_4 : decode cX11_two 4 = .ok (.invokestatic 74, 3) := by decide +kernel
theorem dX11_two_7 : decode cX11_two 7 = .ok (.ifCond .eq 12, 3) := by decide +kernel
theorem dX11_two_10 : decode cX11_two 10 = .ok (.iload_n 2, 1) := by decide +kernel
theorem dX11_two_11 : decode cX11_two 11 = .ok (.iconst 0, 1) := by decide +kernel
theorem dX11_two_12 : decode cX11_two 12 = .ok (.iconst 3, 1) := by decide +kernel
theorem dX11_two_13 : decode cX11_two 13 = .ok (.invokestatic 74, 3) := by decide +kernel
theorem dX11_two_16 : decode cX11_two 16 = .ok (.ifCond .ne 7, 3) := by decide +kernel
theorem dX11_two_19 : decode cX11_two 19 = .ok (.ldc2_w 159, 3) := by decide +kernel
theorem dX11_two_22 : decode cX11_two 22 = .ok (.lreturn, 1) := by decide +kernel
theorem dX11_two_23 : decode cX11_two 23 = .ok (.aload_n 0, 1) := by decide +kernel
theorem dX11_two_24 : decode cX11_two 24 = .ok (.invokevirtual 182, 3) := by decide +kernel
theorem dX11_two_27 : decode cX11_two 27 = .ok (.aload_n 0, 1) := by decide +kernel
theorem dX11_two_28 : decode cX11_two 28 = .ok (.getfield 51, 3) := by decide +kernel
theorem dX11_two_31 : decode cX11_two 31 = .ok (.ldc2_w 191, 3) := by decide +kernel
theorem dX11_two_34 : decode cX11_two 34 = .ok (.invokestatic 197, 3) := by decide +kernel
theorem dX11_two_37 : decode cX11_two 37 = .ok (.iconst 0, 1) := by decide +kernel
theorem dX11_two_38 : decode cX11_two 38 = .ok (.istore_n 3, 1) := by decide +kernel
theorem dX11_two_39 : decode cX11_two 39 = .ok (.iload_n 3, 1) := by decide +kernel
theorem dX11_two_40 : decode cX11_two 40 = .ok (.aload_n 0, 1) := by decide +kernel
theorem dX11_two_41 : decode cX11_two 41 = .ok (.getfield 78, 3) := by decide +kernel
theorem dX11_two_44 : decode cX11_two 44 = .ok (.if_icmp .ge 69, 3) := by decide +kernel
theorem dX11_two_47 : decode cX11_two 47 = .ok (.iconst 0, 1) := by decide +kernel
theorem dX11_two_48 : decode cX11_two 48 = .ok (.istore 4, 2) := by decide +kernel
theorem dX11_two_50 : decode cX11_two 50 = .ok (.iload 4, 2) := by decide +kernel
theorem dX11_two_52 : decode cX11_two 52 = .ok (.iload_n 1, 1) := by decide +kernel
theorem dX11_two_53 : decode cX11_two 53 = .ok (.if_icmp .ge 54, 3) := by decide +kernel
theorem dX11_two_56 : decode cX11_two 56 = .ok (.iload 4, 2) := by decide +kernel
theorem dX11_two_58 : decode cX11_two 58 = .ok (.iconst 1, 1) := by decide +kernel
theorem dX11_two_59 : decode cX11_two 59 = .ok (.iadd, 1) := by decide +kernel
theorem dX11_two_60 : decode cX11_two 60 = .ok (.istore 5, 2) := by decide +kernel
theorem dX11_two_62 : decode cX11_two 62 = .ok (.iload 5, 2) := by decide +kernel
theorem dX11_two_64 : decode cX11_two 64 = .ok (.iload_n 1, 1) := by decide +kernel
theorem dX11_two_65 : decode cX11_two 65 = .ok (.if_icmp .ge 36, 3) := by decide +kernel
theorem dX11_two_68 : decode cX11_two 68 = .ok (.aload_n 0, 1) := by decide +kernel
theorem dX11_two_69 : decode cX11_two 69 = .ok (.aload_n 0, 1) := by decide +kernel
theorem dX11_two_70 : decode cX11_two 70 = .ok (.getfield 11, 3) := by decide +kernel
theorem dX11_two_73 : decode cX11_two 73 = .ok (.iload_n 3, 1) := by decide +kernel
theorem dX11_two_74 : decode cX11_two 74 = .ok (.aaload, 1) := by decide +kernel
theorem dX11_two_75 : decode cX11_two 75 = .ok (.iload 4, 2) := by decide +kernel
theorem dX11_two_77 : decode cX11_two 77 = .ok (.iload 5, 2) := by decide +kernel
theorem dX11_two_79 : decode cX11_two 79 = .ok (.invokevirtual 203, 3) := by decide +kernel
theorem dX11_two_82 : decode cX11_two 82 = .ok (.ifCond .eq 13, 3) := by decide +kernel
theorem dX11_two_85 : decode cX11_two 85 = .ok (.aload_n 0, 1) := by decide +kernel
theorem dX11_two_86 : decode cX11_two 86 = .ok (.iload_n 1, 1) := by decide +kernel
theorem dX11_two_87 : decode cX11_two 87 = .ok (.iload_n 3, 1) := by decide +kernel
theorem dX11_two_88 : decode cX11_two 88 = .ok (.iload 4, 2) := by decide +kernel
theorem dX11_two_90 : decode cX11_two 90 = .ok (.iload 5, 2) := by decide +kernel
theorem dX11_two_92 : decode cX11_two 92 = .ok (.invokevirtual 207, 3) := by decide +kernel
theorem dX11_two_95 : decode cX11_two 95 = .ok (.iinc 5 1, 3) := by decide +kernel
theorem dX11_two_98 : decode cX11_two 98 = .ok (.goto (-36), 3) := by decide +kernel
theorem dX11_two_101 : decode cX11_two 101 = .ok (.iinc 4 1, 3) := by decide +kernel
theorem dX11_two_104 : decode cX11_two 104 = .ok (.goto (-54), 3) := by decide +kernel
theorem dX11_two_107 : decode cX11_two 107 = .ok (.iinc 3 1, 3) := by decide +kernel
theorem dX11_two_110 : decode cX11_two 110 = .ok (.goto (-71), 3) := by decide +kernel
theorem dX11_two_113 : decode cX11_two 113 = .ok (.aload_n 0, 1) := by decide +kernel
theorem dX11_two_114 : decode cX11_two 114 = .ok (.getfield 51, 3) := by decide +kernel
theorem dX11_two_117 : decode cX11_two 117 = .ok (.iload_n 2, 1) := by decide +kernel
theorem dX11_two_118 : decode cX11_two 118 = .ok (.laload, 1) := by decide +kernel
theorem dX11_two_119 : decode cX11_two 119 = .ok (.lreturn, 1) := by decide +kernel
theorem dX11_enough_0 : decode cX11_enough 0 = .ok (.iload_n 1, 1) := by decide +kernel
theorem dX11_enough_1 : decode cX11_enough 1 = .ok (.iconst 1, 1) := by decide +kernel
theorem dX11_enough_2 : decode cX11_enough 2 = .ok (.bipush 60, 2) := by decide +kernel
theorem dX11_enough_4 : decode cX11_enough 4 = .ok (.invokestatic 74, 3) := by decide +kernel
theorem dX11_enough_7 : decode cX11_enough 7 = .ok (.ifCond .eq 12, 3) := by decide +kernel
theorem dX11_enough_10 : decode cX11_enough 10 = .ok (.iload_n 2, 1) := by decide +kernel
theorem dX11_enough_11 : decode cX11_enough 11 = .ok (.iconst 0, 1) := by decide +kernel
theorem dX11_enough_12 : decode cX11_enough 12 = .ok (.iconst 1, 1) := by decide +kernel
theorem dX11_enough_13 : decode cX11_enough 13 = .ok (.invokestatic 74, 3) := by decide +kernel
theorem dX11_enough_16 : decode cX11_enough 16 = .ok (.ifCond .ne 6, 3) := by decide +kernel
theorem dX11_enough_19 : decode cX11_enough 19 = .ok (.bipush (-2), 2) := by decide +kernel
theorem dX11_enough_21 : decode cX11_enough 21 = .ok (.ireturn, 1) := by decide +kernel
theorem dX11_enough_22 : decode cX11_enough 22 = .ok (.iconst 0, 1) := by decide +kernel
theorem dX11_enough_23 : decode cX11_enough 23 = .ok (.istore_n 3, 1) := by decide +kernel
theorem dX11_enough_24 : decode cX11_enough 24 = .ok (.iload_n 3, 1) := by decide +kernel
theorem dX11_enough_25 : decode cX11_enough 25 = .ok (.bipush 20, 2) := by decide +kernel
theorem dX11_enough_27 : decode cX11_enough 27 = .ok (.if_icmp .gt 56, 3) := by decide +kernel
theorem dX11_enough_30 : decode cX11_enough 30 = .ok (.aload_n 0, 1) := by decide +kernel
theorem dX11_enough_31 : decode cX11_enough 31 = .ok (.invokevirtual 182, 3) := by decide +kernel
theorem dX11_enough_34 : decode cX11_enough 34 = .ok (.aload_n 0, 1) := by decide +kernel
theorem dX11_enough_35 : decode cX11_enough 35 = .ok (.getfield 47, 3) := by decide +kernel
theorem dX11_enough_38 : decode cX11_enough 38 = .ok (.iload_n 2, 1) := by decide +kernel
theorem dX11_enough_39 : decode cX11_enough 39 = .ok (.putfield 211, 3) := by decide +kernel
theorem dX11_enough_42 : decode cX11_enough 42 = .ok (.aload_n 0, 1) := by decide +kernel
theorem dX11_enough_43 : decode cX11_enough 43 = .ok (.getfield 47, 3) := by decide +kernel
theorem dX11_enough_46 : decode cX11_enough 46 = .ok (.iconst 5, 1) := by decide +kernel
theorem dX11_enough_47 : decode cX11_enough 47 = .ok (.iload_n 3, 1) := by decide +kernel
theorem dX11_enough_48 : decode cX11_enough 48 = .ok (.imul, 1) := by decide +kernel
theorem dX11_enough_49 : decode cX11_enough 49 = .ok (.putfield 214, 3) := by decide +kernel
theorem dX11_enough_52 : decode cX11_enough 52 = .ok (.aload_n 0, 1) := by decide +kernel
theorem dX11_enough_53 : decode cX11_enough 53 = .ok (.getfield 47, 3) := by decide +kernel
theorem dX11_enough_56 : decode cX11_enough 56 = .ok (.iload_n 1, 1) := by decide +kernel
theorem dX11_enough_57 : decode cX11_enough 57 = .ok (.ldc2_w 185, 3) := by decide +kernel
theorem dX11_enough_60 : decode cX11_enough 60 = .ok (.invokevirtual 187, 3) := by decide +kernel
theorem dX11_enough_63 : decode cX11_enough 63 = .ok (.aload_n 0, 1) := by decide +kernel
theorem dX11_enough_64 : decode cX11_enough 64 = .ok (.getfield 47, 3) := by decide +kernel
theorem dX11_enough_67 : decode cX11_enough 67 = .ok (.getfield 169, 3) := by decide +kernel
theorem dX11_enough_70 : decode cX11_enough 70 = .ok (.iload_n 2, 1) := by decide +kernel
theorem dX11_enough_71 : decode cX11_enough 71 = .ok (.iaload, 1) := by decide +kernel
theorem dX11_enough_72 : decode cX11_enough 72 = .ok (.ifCond .ne 5, 3) := by decide +kernel
theorem dX11_enough_75 : decode cX11_enough 75 = .ok (.iload_n 3, 1) := by decide +kernel
theorem dX11_enough_76 : decode cX11_enough 76 = .ok (.ireturn, 1) := by decide +kernel
theorem dX11_enough_77 : decode cX11_enough 77 = .ok (.iinc 3 1, 3) := by decide +kernel
theorem dX11_enough_80 : decode cX11_enough 80 = .ok (.goto (-56), 3) := by decide +kernel
theorem dX11_enough_83 : decode cX11_enough 83 = .ok (.iconst (-1), 1) := by decide +kernel
theorem dX11_enough_84 : decode cX11_enough 84 = .ok (.ireturn, 1) := by decide +kernel
theorem dX11_worth_0 : decode cX11_worth 0 = .ok (.iload_n 1, 1) := by decide +kernel
theorem dX11_worth_1 : decode cX11_worth 1 = .ok (.iconst 1, 1) := by decide +kernel
theorem dX11_worth_2 : decode cX11_worth 2 = .ok (.bipush 60, 2) := by decide +kernel
theorem dX11_worth_4 : decode cX11_worth 4 = .ok (.invokestatic 74, 3) := by decide +kernel
theorem dX11_worth_7 : decode cX11_worth 7 = .ok (.ifCond .eq 11, 3) := by decide +kernel
theorem dX11_worth_10 : decode cX11_worth 10 = .ok (.aload_n 0, 1) := by decide +kernel
theorem dX11_worth_11 : decode cX11_worth 11 = .ok (.iload_n 2, 1) := by decide +kernel
theorem dX11_worth_12 : decode cX11_worth 12 = .ok (.invokevirtual 118, 3) := by decide +kernel
theorem dX11_worth_15 : decode cX11_worth 15 = .ok (.ifnonnull 7, 3) := by decide +kernel
theorem dX11_worth_18 : decode cX11_worth 18 = .ok (.ldc2_w 159, 3) := by decide +kernel
theorem dX11_worth_21 : decode cX11_worth 21 = .ok (.lreturn, 1) := by decide +kernel
theorem dX11_worth_22 : decode cX11_worth 22 = .ok (.aload_n 0, 1) := by decide +kernel
theorem dX11_worth_23 : decode cX11_worth 23 = .ok (.invokevirtual 182, 3) := by decide +kernel
theorem dX11_worth_26 : decode cX11_worth 26 = .ok (.aload_n 0, 1) := by decide +kernel
theorem dX11_worth_27 : decode cX11_worth 27 = .ok (.getfield 47, 3) := by decide +kernel
theorem dX11_worth_30 : decode cX11_worth 30 = .ok (.iload_n 1, 1) := by decide +kernel
theorem dX11_worth_31 : decode cX11_worth 31 = .ok (.ldc2_w 185, 3) := by decide +kernel
theorem dX11_worth_34 : decode cX11_worth 34 = .ok (.invokevirtual 187, 3) := by decide +kernel
theorem dX11_worth_37 : decode cX11_worth 37 = .ok (.aload_n 0, 1) := by decide +kernel
theorem dX11_worth_38 : decode cX11_worth 38 = .ok (.getfield 47, 3) := by decide +kernel
theorem dX11_worth_41 : decode cX11_worth 41 = .ok (.getfield 165, 3) := by decide +kernel
theorem dX11_worth_44 : decode cX11_worth 44 = .ok (.lstore_n 3, 1) := by decide +kernel
theorem dX11_worth_45 : decode cX11_worth 45 = .ok (.aload_n 0, 1) := by decide +kernel
theorem dX11_worth_46 : decode cX11_worth 46 = .ok (.getfield 47, 3) := by decide +kernel
theorem dX11_worth_49 : decode cX11_worth 49 = .ok (.iload_n 2, 1) := by decide +kernel
theorem dX11_worth_50 : decode cX11_worth 50 = .ok (.putfield 217, 3) := by decide +kernel
theorem dX11_worth_53 : decode cX11_worth 53 = .ok (.aload_n 0, 1) := by decide +kernel
theorem dX11_worth_54 : decode cX11_worth 54 = .ok (.getfield 47, 3) := by decide +kernel
theorem dX11_worth_57 : decode cX11_worth 57 = .ok (.iload_n 1, 1) := by decide +kernel
theorem dX11_worth_58 : decode cX11_worth 58 = .ok (.ldc2_w 185, 3) := by decide +kernel
theorem dX11_worth_61 : decode cX11_worth 61 = .ok (.invokevirtual 187, 3) := by decide +kernel
theorem dX11_worth_64 : decode cX11_worth 64 = .ok (.aload_n 0, 1) := by decide +kernel
theorem dX11_worth_65 : decode cX11_worth 65 = .ok (.getfield 47, 3) := by decide +kernel
theorem dX11_worth_68 : decode cX11_worth 68 = .ok (.getfield 165, 3) := by decide +kernel
theorem dX11_worth_71 : decode cX11_worth 71 = .ok (.lload_n 3, 1) := by decide +kernel
theorem dX11_worth_72 : decode cX11_worth 72 = .ok (.lsub, 1) := by decide +kernel
theorem dX11_worth_73 : decode cX11_worth 73 = .ok (.lreturn, 1) := by decide +kernel
theorem dX11_judge_0 : decode cX11_judge 0 = .ok (.aload_n 0, 1) := by decide +kernel
theorem dX11_judge_1 : decode cX11_judge 1 = .ok (.iload_n 1, 1) := by decide +kernel
theorem dX11_judge_2 : decode cX11_judge 2 = .ok (.invokevirtual 100, 3) := by decide +kernel
theorem dX11_judge_5 : decode cX11_judge 5 = .ok (.astore_n 2, 1) := by decide +kernel
theorem dX11_judge_6 : decode cX11_judge 6 = .ok (.aload_n 2, 1) := by decide +kernel
theorem dX11_judge_7 : decode cX11_judge 7 = .ok (.ifnonnull 6, 3) := by decide +kernel
theorem dX11_judge_10 : decode cX11_judge 10 = .ok (.bipush (-2), 2) := by decide +kernel
theorem dX11_judge_12 : decode cX11_judge 12 = .ok (.ireturn, 1) := by decide +kernel
theorem dX11_judge_13 : decode cX11_judge 13 = .ok (.aload_n 2, 1) := by decide +kernel
theorem dX11_judge_14 : decode cX11_judge 14 = .ok (.invokevirtual 104, 3) := by decide +kernel
theorem dX11_judge_17 : decode cX11_judge 17 = .ok (.ifCond .eq 6, 3) := by decide +kernel
theorem dX11_judge_20 : decode cX11_judge 20 = .ok (.bipush (-11), 2) := by decide +kernel
theorem dX11_judge_22 : decode cX11_judge 22 = .ok (.ireturn, 1) := by decide +kernel
theorem dX11_judge_23 : decode cX11_judge 23 = .ok (.aload_n 0, 1) := by decide +kernel
theorem dX11_judge_24 : decode cX11_judge 24 = .ok (.invokevirtual 182, 3) := by decide +kernel
theorem dX11_judge_27 : decode cX11_judge 27 = .ok (.aload_n 0, 1) := by decide +kernel
theorem dX11_judge_28 : decode cX11_judge 28 = .ok (.getfield 47, 3) := by decide +kernel
theorem dX11_judge_31 : decode cX11_judge 31 = .ok (.aload_n 2, 1) := by decide +kernel
theorem dX11_judge_32 : decode cX11_judge 32 = .ok (.invokevirtual 220, 3) := by decide +kernel
theorem dX11_judge_35 : decode cX11_judge 35 = .ok (.aload_n 0, 1) := by decide +kernel
theorem dX11_judge_36 : decode cX11_judge 36 = .ok (.getfield 47, 3) := by decide +kernel
theorem dX11_judge_39 : decode cX11_judge 39 = .ok (.invokevirtual 224, 3) := by decide +kernel
theorem dX11_judge_42 : decode cX11_judge 42 = .ok (.ireturn, 1) := by decide +kernel
theorem dX11_image_0 : decode cX11_image 0 = .ok (.aload_n 0, 1) := by decide +kernel
theorem dX11_image_1 : decode cX11_image 1 = .ok (.getfield 22, 3) := by decide +kernel
theorem dX11_image_4 : decode cX11_image 4 = .ok (.aload_n 0, 1) := by decide +kernel
theorem dX11_image_5 : decode cX11_image 5 = .ok (.getfield 18, 3) := by decide +kernel
theorem dX11_image_8 : decode cX11_image 8 = .ok (.invokevirtual 227, 3) := by decide +kernel
theorem dX11_image_11 : decode cX11_image 11 = .ok (.aload_n 0, 1) := by decide +kernel
theorem dX11_image_12 : decode cX11_image 12 = .ok (.iconst 1, 1) := by decide +kernel
theorem dX11_image_13 : decode cX11_image 13 = .ok (.putfield 231, 3) := by decide +kernel
theorem dX11_image_16 : decode cX11_image 16 = .ok (.aload_n 0, 1) := by decide +kernel
theorem dX11_image_17 : decode cX11_image 17 = .ok (.getfield 78, 3) := by decide +kernel
theorem dX11_image_20 : decode cX11_image 20 = .ok (.ireturn, 1) := by decide +kernel
theorem dX11_back_0 : decode cX11_back 0 = .ok (.aload_n 0, 1) := by decide +kernel
theorem dX11_back_1 : decode cX11_back 1 = .ok (.getfield 231, 3) := by decide +kernel
theorem dX11_back_4 : decode cX11_back 4 = .ok (.ifCond .ne 6, 3) := by decide +kernel
theorem dX11_back_7 : decode cX11_back 7 = .ok (.bipush (-3), 2) := by decide +kernel
theorem dX11_back_9 : decode cX11_back 9 = .ok (.ireturn, 1) := by decide +kernel
theorem dX11_back_10 : decode cX11_back 10 = .ok (.aload_n 0, 1) := by decide +kernel
theorem dX11_back_11 : decode cX11_back 11 = .ok (.getfield 18, 3) := by decide +kernel
theorem dX11_back_14 : decode cX11_back 14 = .ok (.aload_n 0, 1) := by decide +kernel
theorem dX11_back_15 : decode cX11_back 15 = .ok (.getfield 22, 3) := by decide +kernel
theorem dX11_back_18 : decode cX11_back 18 = .ok (.invokevirtual 227, 3) := by decide +kernel
theorem dX11_back_21 : decode cX11_back 21 = .ok (.aload_n 0, 1) := by decide +kernel
theorem dX11_back_22 : decode cX11_back 22 = .ok (.getfield 78, 3) := by decide +kernel
theorem dX11_back_25 : decode cX11_back 25 = .ok (.ireturn, 1) := by decide +kernel
theorem dX11_count_0 : decode cX11_count 0 = .ok (.iload_n 1, 1) := by decide +kernel
theorem dX11_count_1 : decode cX11_count 1 = .ok (.tableswitch 104 0 7 #[47, 52, 57, 66, 75, 80, 88, 96], 47) := by decide +kernel
theorem dX11_count_48 : decode cX11_count 48 = .ok (.aload_n 0, 1) := by decide +kernel
theorem dX11_count_49 : decode cX11_count 49 = .ok (.getfield 78, 3) := by decide +kernel
theorem dX11_count_52 : decode cX11_count 52 = .ok (.ireturn, 1) := by decide +kernel
theorem dX11_count_53 : decode cX11_count 53 = .ok (.aload_n 0, 1) := by decide +kernel
theorem dX11_count_54 : decode cX11_count 54 = .ok (.invokevirtual 235, 3) := by decide +kernel
theorem dX11_count_57 : decode cX11_count 57 = .ok (.ireturn, 1) := by decide +kernel
theorem dX11_count_58 : decode cX11_count 58 = .ok (.aload_n 0, 1) := by decide +kernel
theorem dX11_count_59 : decode cX11_count 59 = .ok (.getfield 18, 3) := by decide +kernel
theorem dX11_count_62 : decode cX11_count 62 = .ok (.iconst 0, 1) := by decide +kernel
theorem dX11_count_63 : decode cX11_count 63 = .ok (.invokevirtual 238, 3) := by decide +kernel
theorem dX11_count_66 : decode cX11_count 66 = .ok (.ireturn, 1) := by decide +kernel
theorem dX11_count_67 : decode cX11_count 67 = .ok (.aload_n 0, 1) := by decide +kernel
theorem dX11_count_68 : decode cX11_count 68 = .ok (.getfield 18, 3) := by decide +kernel
theorem dX11_count_71 : decode cX11_count 71 = .ok (.iconst 1, 1) := by decide +kernel
theorem dX11_count_72 : decode cX11_count 72 = .ok (.invokevirtual 238, 3) := by decide +kernel
theorem dX11_count_75 : decode cX11_count 75 = .ok (.ireturn, 1) := by decide +kernel
theorem dX11_count_76 : decode cX11_count 76 = .ok (.aload_n 0, 1) := by decide +kernel
theorem dX11_count_77 : decode cX11_count 77 = .ok (.getfield 71, 3) := by decide +kernel
theorem dX11_count_80 : decode cX11_count 80 = .ok (.ireturn, 1) := by decide +kernel
theorem dX11_count_81 : decode cX11_count 81 = .ok (.aload_n 0, 1) := by decide +kernel
theorem dX11_count_82 : decode cX11_count 82 = .ok (.getfield 34, 3) := by decide +kernel
theorem dX11_count_85 : decode cX11_count 85 = .ok (.getfield 67, 3) := by decide +kernel
theorem dX11_count_88 : decode cX11_count 88 = .ok (.ireturn, 1) := by decide +kernel
theorem dX11_count_89 : decode cX11_count 89 = .ok (.aload_n 0, 1) := by decide +kernel
theorem dX11_count_90 : decode cX11_count 90 = .ok (.getfield 18, 3) := by decide +kernel
theorem dX11_count_93 : decode cX11_count 93 = .ok (.getfield 153, 3) := by decide +kernel
theorem dX11_count_96 : decode cX11_count 96 = .ok (.ireturn, 1) := by decide +kernel
theorem dX11_count_97 : decode cX11_count 97 = .ok (.aload_n 0, 1) := by decide +kernel
theorem dX11_count_98 : decode cX11_count 98 = .ok (.getfield 18, 3) := by decide +kernel
theorem dX11_count_101 : decode cX11_count 101 = .ok (.getfield 137, 3) := by decide +kernel
theorem dX11_count_104 : decode cX11_count 104 = .ok (.ireturn, 1) := by decide +kernel
theorem dX11_count_105 : decode cX11_count 105 = .ok (.bipush (-2), 2) := by decide +kernel
theorem dX11_count_107 : decode cX11_count 107 = .ok (.ireturn, 1) := by decide +kernel
theorem dX11_sheet_0 : decode cX11_sheet 0 = .ok (.aload_n 0, 1) := by decide +kernel
theorem dX11_sheet_1 : decode cX11_sheet 1 = .ok (.iload_n 1, 1) := by decide +kernel
theorem dX11_sheet_2 : decode cX11_sheet 2 = .ok (.invokevirtual 100, 3) := by decide +kernel
theorem dX11_sheet_5 : decode cX11_sheet 5 = .ok (.astore 4, 2) := by decide +kernel
theorem dX11_sheet_7 : decode cX11_sheet 7 = .ok (.aload 4, 2) := by decide +kernel
theorem dX11_sheet_9 : decode cX11_sheet 9 = .ok (.ifnull 12, 3) := by decide +kernel
theorem dX11_sheet_12 : decode cX11_sheet 12 = .ok (.iload_n 2, 1) := by decide +kernel
theorem dX11_sheet_13 : decode cX11_sheet 13 = .ok (.iconst (-1), 1) := by decide +kernel
theorem dX11_sheet_14 : decode cX11_sheet 14 = .ok (.iconst 2, 1) := by decide +kernel
theorem dX11_sheet_15 : decode cX11_sheet 15 = .ok (.invokestatic 74, 3) := by decide +kernel
theorem dX11_sheet_18 : decode cX11_sheet 18 = .ok (.ifCond .ne 6, 3) := by decide +kernel
theorem dX11_sheet_21 : decode cX11_sheet 21 = .ok (.bipush (-2), 2) := by decide +kernel
theorem dX11_sheet_23 : decode cX11_sheet 23 = .ok (.ireturn, 1) := by decide +kernel
theorem dX11_sheet_24 : decode cX11_sheet 24 = .ok (.iload_n 2, 1) := by decide +kernel
theorem dX11_sheet_25 : decode cX11_sheet 25 = .ok (.iconst (-1), 1) := by decide +kernel
theorem dX11_sheet_26 : decode cX11_sheet 26 = .ok (.if_icmp .ne 12, 3) := by decide +kernel
theorem dX11_sheet_29 : decode cX11_sheet 29 = .ok (.aload 4, 2) := by decide +kernel
theorem dX11_sheet_31 : decode cX11_sheet 31 = .ok (.iconst (-1), 1) := by decide +kernel
theorem dX11_sheet_32 : decode cX11_sheet 32 = .ok (.iconst 0, 1) := by decide +kernel
theorem dX11_sheet_33 : decode cX11_sheet 33 = .ok (.invokevirtual 241, 3) := by decide +kernel
theorem dX11_sheet_36 : decode cX11_sheet 36 = .ok (.iconst 1, 1) := by decide +kernel
theorem dX11_sheet_37 : decode cX11_sheet 37 = .ok (.ireturn, 1) := by decide +kernel
theorem dX11_sheet_38 : decode cX11_sheet 38 = .ok (.iload_n 3, 1) := by decide +kernel
theorem dX11_sheet_39 : decode cX11_sheet 39 = .ok (.bipush 60, 2) := by decide +kernel
theorem dX11_sheet_41 : decode cX11_sheet 41 = .ok (.if_icmp .le 6, 3) := by decide +kernel
theorem dX11_sheet_44 : decode cX11_sheet 44 = .ok (.bipush (-2), 2) := by decide +kernel
theorem dX11_sheet_46 : decode cX11_sheet 46 = .ok (.ireturn, 1) := by decide +kernel
theorem dX11_sheet_47 : decode cX11_sheet 47 = .ok (.iload_n 3, 1) := by decide +kernel
theorem dX11_sheet_48 : decode cX11_sheet 48 = .ok (.ifCond .ge 6, 3) := by decide +kernel
theorem dX11_sheet_51 : decode cX11_sheet 51 = .ok (.bipush (-14), 2) := by decide +kernel
theorem dX11_sheet_53 : decode cX11_sheet 53 = .ok (.ireturn, 1) := by decide +kernel
theorem dX11_sheet_54 : decode cX11_sheet 54 = .ok (.aload 4, 2) := by decide +kernel
theorem dX11_sheet_56 : decode cX11_sheet 56 = .ok (.iload_n 2, 1) := by decide +kernel
theorem dX11_sheet_57 : decode cX11_sheet 57 = .ok (.iload_n 3, 1) := by decide +kernel
theorem dX11_sheet_58 : decode cX11_sheet 58 = .ok (.invokevirtual 241, 3) := by decide +kernel
theorem dX11_sheet_61 : decode cX11_sheet 61 = .ok (.iconst 1, 1) := by decide +kernel
theorem dX11_sheet_62 : decode cX11_sheet 62 = .ok (.ireturn, 1) := by decide +kernel
theorem dX11_cell_0 : decode cX11_cell 0 = .ok (.aload_n 0, 1) := by decide +kernel
theorem dX11_cell_1 : decode cX11_cell 1 = .ok (.iload_n 1, 1) := by decide +kernel
theorem dX11_cell_2 : decode cX11_cell 2 = .ok (.invokevirtual 100, 3) := by decide +kernel
theorem dX11_cell_5 : decode cX11_cell 5 = .ok (.astore 4, 2) := by decide +kernel
theorem dX11_cell_7 : decode cX11_cell 7 = .ok (.aload 4, 2) := by decide +kernel
theorem dX11_cell_9 : decode cX11_cell 9 = .ok (.ifnonnull 6, 3) := by decide +kernel
theorem dX11_cell_12 : decode cX11_cell 12 = .ok (.bipush (-2), 2) := by decide +kernel
theorem dX11_cell_14 : decode cX11_cell 14 = .ok (.ireturn, 1) := by decide +kernel
theorem dX11_cell_15 : decode cX11_cell 15 = .ok (.aload 4, 2) := by decide +kernel
theorem dX11_cell_17 : decode cX11_cell 17 = .ok (.invokevirtual 104, 3) := by decide +kernel
theorem dX11_cell_20 : decode cX11_cell 20 = .ok (.ifCond .eq 6, 3) := by decide +kernel
theorem dX11_cell_23 : decode cX11_cell 23 = .ok (.bipush (-11), 2) := by decide +kernel
theorem dX11_cell_25 : decode cX11_cell 25 = .ok (.ireturn, 1) := by decide +kernel
theorem dX11_cell_26 : decode cX11_cell 26 = .ok (.aload 4, 2) := by decide +kernel
theorem dX11_cell_28 : decode cX11_cell 28 = .ok (.iload_n 2, 1) := by decide +kernel
theorem dX11_cell_29 : decode cX11_cell 29 = .ok (.invokevirtual 108, 3) := by decide +kernel
theorem dX11_cell_32 : decode cX11_cell 32 = .ok (.ifCond .ne 6, 3) := by decide +kernel
theorem dX11_cell_35 : decode cX11_cell 35 = .ok (.bipush (-12), 2) := by decide +kernel
theorem dX11_cell_37 : decode cX11_cell 37 = .ok (.ireturn, 1) := by decide +kernel
theorem dX11_cell_38 : decode cX11_cell 38 = .ok (.aload 4, 2) := by decide +kernel
theorem dX11_cell_40 : decode cX11_cell 40 = .ok (.iload_n 2, 1) := by decide +kernel
theorem dX11_cell_41 : decode cX11_cell 41 = .ok (.iload_n 3, 1) := by decide +kernel
theorem dX11_cell_42 : decode cX11_cell 42 = .ok (.invokevirtual 243, 3) := by decide +kernel
theorem dX11_cell_45 : decode cX11_cell 45 = .ok (.iconst 1, 1) := by decide +kernel
theorem dX11_cell_46 : decode cX11_cell 46 = .ok (.ireturn, 1) := by decide +kernel
theorem dX11_copy_0 : decode cX11_copy 0 = .ok (.aload_n 0, 1) := by decide +kernel
theorem dX11_copy_1 : decode cX11_copy 1 = .ok (.iload_n 1, 1) := by decide +kernel
theorem dX11_copy_2 : decode cX11_copy 2 = .ok (.invokevirtual 100, 3) := by decide +kernel
theorem dX11_copy_5 : decode cX11_copy 5 = .ok (.astore 6, 2) := by decide +kernel
theorem dX11_copy_7 : decode cX11_copy 7 = .ok (.aload_n 0, 1) := by decide +kernel
theorem dX11_copy_8 : decode cX11_copy 8 = .ok (.iload_n 3, 1) := by decide +kernel
theorem dX11_copy_9 : decode cX11_copy 9 = .ok (.invokevirtual 100, 3) := by decide +kernel
theorem dX11_copy_12 : decode cX11_copy 12 = .ok (.astore 7, 2) := by decide +kernel
theorem dX11_copy_14 : decode cX11_copy 14 = .ok (.aload 6, 2) := by decide +kernel
theorem dX11_copy_16 : decode cX11_copy 16 = .ok (.ifnull 8, 3) := by decide +kernel
theorem dX11_copy_19 : decode cX11_copy 19 = .ok (.aload 7, 2) := by decide +kernel
theorem dX11_copy_21 : decode cX11_copy 21 = .ok (.ifnonnull 6, 3) := by decide +kernel
theorem dX11_copy_24 : decode cX11_copy 24 = .ok (.bipush (-2), 2) := by decide +kernel
theorem dX11_copy_26 : decode cX11_copy 26 = .ok (.ireturn, 1) := by decide +kernel
theorem dX11_copy_27 : decode cX11_copy 27 = .ok (.aload 6, 2) := by decide +kernel
theorem dX11_copy_29 : decode cX11_copy 29 = .ok (.invokevirtual 104, 3) := by decide +kernel
theorem dX11_copy_32 : decode cX11_copy 32 = .ok (.ifCond .ne 11, 3) := by decide +kernel
theorem dX11_copy_35 : decode cX11_copy 35 = .ok (.aload 7, 2) := by decide +kernel
theorem dX11_copy_37 : decode cX11_copy 37 = .ok (.invokevirtual 104, 3) := by decide +kernel
theorem dX11_copy_40 : decode cX11_copy 40 = .ok (.ifCond .eq 6, 3) := by decide +kernel
theorem dX11_copy_43 : decode cX11_copy 43 = .ok (.bipush (-11), 2) := by decide +kernel
theorem dX11_copy_45 : decode cX11_copy 45 = .ok (.ireturn, 1) := by decide +kernel
theorem dX11_copy_46 : decode cX11_copy 46 = .ok (.aload 6, 2) := by decide +kernel
theorem dX11_copy_48 : decode cX11_copy 48 = .ok (.getfield 246, 3) := by decide +kernel
theorem dX11_copy_51 : decode cX11_copy 51 = .ok (.aload 7, 2) := by decide +kernel
theorem dX11_copy_53 : decode cX11_copy 53 = .ok (.getfield 246, 3) := by decide +kernel
theorem dX11_copy_56 : decode cX11_copy 56 = .ok (.if_icmp .eq 6, 3) := by decide +kernel
theorem dX11_copy_59 : decode cX11_copy 59 = .ok (.bipush (-13), 2) := by decide +kernel
theorem dX11_copy_61 : decode cX11_copy 61 = .ok (.ireturn, 1) := by decide +kernel
theorem dX11_copy_62 : decode cX11_copy 62 = .ok (.aload 6, 2) := by decide +kernel
theorem dX11_copy_64 : decode cX11_copy 64 = .ok (.iload_n 2, 1) := by decide +kernel
theorem dX11_copy_65 : decode cX11_copy 65 = .ok (.iload 5, 2) := by decide +kernel
theorem dX11_copy_67 : decode cX11_copy 67 = .ok (.invokevirtual 249, 3) := by decide +kernel
theorem dX11_copy_70 : decode cX11_copy 70 = .ok (.ifCond .eq 15, 3) := by decide +kernel
theorem dX11_copy_73 : decode cX11_copy 73 = .ok (.aload 7, 2) := by decide +kernel
theorem dX11_copy_75 : decode cX11_copy 75 = .ok (.iload 4, 2) := by decide +kernel
theorem dX11_copy_77 : decode cX11_copy 77 = .ok (.iload 5, 2) := by decide +kernel
theorem dX11_copy_79 : decode cX11_copy 79 = .ok (.invokevirtual 249, 3) := by decide +kernel
theorem dX11_copy_82 : decode cX11_copy 82 = .ok (.ifCond .ne 6, 3) := by decide +kernel
theorem dX11_copy_85 : decode cX11_copy 85 = .ok (.bipush (-12), 2) := by decide +kernel
theorem dX11_copy_87 : decode cX11_copy 87 = .ok (.ireturn, 1) := by decide +kernel
theorem dX11_copy_88 : decode cX11_copy 88 = .ok (.aload 6, 2) := by decide +kernel
theorem dX11_copy_90 : decode cX11_copy 90 = .ok (.getfield 253, 3) := by decide +kernel
theorem dX11_copy_93 : decode cX11_copy 93 = .ok (.iload_n 2, 1) := by decide +kernel
theorem dX11_copy_94 : decode cX11_copy 94 = .ok (.aload 7, 2) := by decide +kernel
theorem dX11_copy_96 : decode cX11_copy 96 = .ok (.getfield 253, 3) := by decide +kernel
theorem dX11_copy_99 : decode cX11_copy 99 = .ok (.iload 4, 2) := by decide +kernel
theorem dX11_copy_101 : decode cX11_copy 101 = .ok (.iload 5, 2) := by decide +kernel
theorem dX11_copy_103 : decode cX11_copy 103 = .ok (.invokestatic 256, 3) := by decide +kernel
theorem dX11_copy_106 : decode cX11_copy 106 = .ok (.iload 5, 2) := by decide +kernel
theorem dX11_copy_108 : decode cX11_copy 108 = .ok (.ireturn, 1) := by decide +kernel
theorem dX11_lanes_0 : decode cX11_lanes 0 = .ok (.aload_n 0, 1) := by decide +kernel
theorem dX11_lanes_1 : decode cX11_lanes 1 = .ok (.iload_n 1, 1) := by decide +kernel
theorem dX11_lanes_2 : decode cX11_lanes 2 = .ok (.invokevirtual 100, 3) := by decide +kernel
theorem dX11_lanes_5 : decode cX11_lanes 5 = .ok (.astore 5, 2) := by decide +kernel
theorem dX11_lanes_7 : decode cX11_lanes 7 = .ok (.aload 5, 2) := by decide +kernel
theorem dX11_lanes_9 : decode cX11_lanes 9 = .ok (.ifnull 23, 3) := by decide +kernel
theorem dX11_lanes_12 : decode cX11_lanes 12 = .ok (.iload_n 2, 1) := by decide +kernel
theorem dX11_lanes_13 : decode cX11_lanes 13 = .ok (.iconst 0, 1) := by decide +kernel
theorem dX11_lanes_14 : decode cX11_lanes 14 = .ok (.iconst 2, 1) := by decide +kernel
theorem dX11_lanes_15 : decode cX11_lanes 15 = .ok (.invokestatic 74, 3) := by decide +kernel
theorem dX11_lanes_18 : decode cX11_lanes 18 = .ok (.ifCond .eq 14, 3) := by decide +kernel
theorem dX11_lanes_21 : decode cX11_lanes 21 = .ok (.iload 4, 2) := by decide +kernel
theorem dX11_lanes_23 : decode cX11_lanes 23 = .ok (.iconst 0, 1) := by decide +kernel
theorem dX11_lanes_24 : decode cX11_lanes 24 = .ok (.bipush 8, 2) := by decide +kernel
theorem dX11_lanes_26 : decode cX11_lanes 26 = .ok (.invokestatic 74, 3) := by decide +kernel
theorem dX11_lanes_29 : decode cX11_lanes 29 = .ok (.ifCond .ne 6, 3) := by decide +kernel
theorem dX11_lanes_32 : decode cX11_lanes 32 = .ok (.bipush (-2), 2) := by decide +kernel
theorem dX11_lanes_34 : decode cX11_lanes 34 = .ok (.ireturn, 1) := by decide +kernel
theorem dX11_lanes_35 : decode cX11_lanes 35 = .ok (.aload 5, 2) := by decide +kernel
theorem dX11_lanes_37 : decode cX11_lanes 37 = .ok (.invokevirtual 104, 3) := by decide +kernel
theorem dX11_lanes_40 : decode cX11_lanes 40 = .ok (.ifCond .ne 15, 3) := by decide +kernel
theorem dX11_lanes_43 : decode cX11_lanes 43 = .ok (.aload 5, 2) := by decide +kernel
theorem dX11_lanes_45 : decode cX11_lanes 45 = .ok (.getfield 246, 3) := by decide +kernel
theorem dX11_lanes_48 : decode cX11_lanes 48 = .ok (.iload_n 2, 1) := by decide +kernel
theorem dX11_lanes_49 : decode cX11_lanes 49 = .ok (.if_icmp .eq 6, 3) := by decide +kernel
theorem dX11_lanes_52 : decode cX11_lanes 52 = .ok (.bipush (-13), 2) := by decide +kernel
theorem dX11_lanes_54 : decode cX11_lanes 54 = .ok (.ireturn, 1) := by decide +kernel
theorem dX11_lanes_55 : decode cX11_lanes 55 = .ok (.aload 5, 2) := by decide +kernel
theorem dX11_lanes_57 : decode cX11_lanes 57 = .ok (.invokevirtual 104, 3) := by decide +kernel
theorem dX11_lanes_60 : decode cX11_lanes 60 = .ok (.ifCond .eq 6, 3) := by decide +kernel
theorem dX11_lanes_63 : decode cX11_lanes 63 = .ok (.bipush (-11), 2) := by decide +kernel
theorem dX11_lanes_65 : decode cX11_lanes 65 = .ok (.ireturn, 1) := by decide +kernel
theorem dX11_lanes_66 : decode cX11_lanes 66 = .ok (.iconst 0, 1) := by decide +kernel
theorem dX11_lanes_67 : decode cX11_lanes 67 = .ok (.istore 6, 2) := by decide +kernel
theorem dX11_lanes_69 : decode cX11_lanes 69 = .ok (.iconst 0, 1) := by decide +kernel
theorem dX11_lanes_70 : decode cX11_lanes 70 = .ok (.istore 7, 2) := by decide +kernel
theorem dX11_lanes_72 : decode cX11_lanes 72 = .ok (.iload 7, 2) := by decide +kernel
theorem dX11_lanes_74 : decode cX11_lanes 74 = .ok (.iload 4, 2) := by decide +kernel
theorem dX11_lanes_76 : decode cX11_lanes 76 = .ok (.if_icmp .ge 66, 3) := by decide +kernel
theorem dX11_lanes_79 : decode cX11_lanes 79 = .ok (.iload_n 3, 1) := by decide +kernel
theorem dX11_lanes_80 : decode cX11_lanes 80 = .ok (.iconst 3, 1) := by decide +kernel
theorem dX11_lanes_81 : decode cX11_lanes 81 = .ok (.iload 7, 2) := by decide +kernel
theorem dX11_lanes_83 : decode cX11_lanes 83 = .ok (.imul, 1) := by decide +kernel
theorem dX11_lanes_84 : decode cX11_lanes 84 = .ok (.iadd, 1) := by decide +kernel
theorem dX11_lanes_85 : decode cX11_lanes 85 = .ok (.istore 8, 2) := by decide +kernel
theorem dX11_lanes_87 : decode cX11_lanes 87 = .ok (.aload 5, 2) := by decide +kernel
theorem dX11_lanes_89 : decode cX11_lanes 89 = .ok (.iload 8, 2) := by decide +kernel
theorem dX11_lanes_91 : decode cX11_lanes 91 = .ok (.iconst 3, 1) := by decide +kernel
theorem dX11_lanes_92 : decode cX11_lanes 92 = .ok (.invokevirtual 249, 3) := by decide +kernel
theorem dX11_lanes_95 : decode cX11_lanes 95 = .ok (.ifCond .ne 6, 3) := by decide +kernel
theorem dX11_lanes_98 : decode cX11_lanes 98 = .ok (.bipush (-12), 2) := by decide +kernel
theorem dX11_lanes_100 : decode cX11_lanes 100 = .ok (.ireturn, 1) := by decide +kernel
theorem dX11_lanes_101 : decode cX11_lanes 101 = .ok (.aload_n 0, 1) := by decide +kernel
theorem dX11_lanes_102 : decode cX11_lanes 102 = .ok (.aload 5, 2) := by decide +kernel
theorem dX11_lanes_104 : decode cX11_lanes 104 = .ok (.iload 8, 2) := by decide +kernel
theorem dX11_lanes_106 : decode cX11_lanes 106 = .ok (.invokevirtual 112, 3) := by decide +kernel
theorem dX11_lanes_109 : decode cX11_lanes 109 = .ok (.aload 5, 2) := by decide +kernel
theorem dX11_lanes_111 : decode cX11_lanes 111 = .ok (.iload 8, 2) := by decide +kernel
theorem dX11_lanes_113 : decode cX11_lanes 113 = .ok (.iconst 1, 1) := by decide +kernel
theorem dX11_lanes_114 : decode cX11_lanes 114 = .ok (.iadd, 1) := by decide +kernel
theorem dX11_lanes_115 : decode cX11_lanes 115 = .ok (.invokevirtual 112, 3) := by decide +kernel
theorem dX11_lanes_118 : decode cX11_lanes 118 = .ok (.aload 5, 2) := by decide +kernel
theorem dX11_lanes_120 : decode cX11_lanes 120 = .ok (.iload 8, 2) := by decide +kernel
theorem dX11_lanes_122 : decode cX11_lanes 122 = .ok (.iconst 2, 1) := by decide +kernel
theorem dX11_lanes_123 : decode cX11_lanes 123 = .ok (.iadd, 1) := by decide +kernel
theorem dX11_lanes_124 : decode cX11_lanes 124 = .ok (.invokevirtual 112, 3) := by decide +kernel
theorem dX11_lanes_127 : decode cX11_lanes 127 = .ok (.invokevirtual 262, 3) := by decide +kernel
theorem dX11_lanes_130 : decode cX11_lanes 130 = .ok (.ifCond .lt 6, 3) := by decide +kernel
theorem dX11_lanes_133 : decode cX11_lanes 133 = .ok (.iinc 6 1, 3) := by decide +kernel
theorem dX11_lanes_136 : decode cX11_lanes 136 = .ok (.iinc 7 1, 3) := by decide +kernel
theorem dX11_lanes_139 : decode cX11_lanes 139 = .ok (.goto (-67), 3) := by decide +kernel
theorem dX11_lanes_142 : decode cX11_lanes 142 = .ok (.iload 6, 2) := by decide +kernel
theorem dX11_lanes_144 : decode cX11_lanes 144 = .ok (.ireturn, 1) := by decide +kernel
theorem dX11_taken_0 : decode cX11_taken 0 = .ok (.iload_n 2, 1) := by decide +kernel
theorem dX11_taken_1 : decode cX11_taken 1 = .ok (.iconst 0, 1) := by decide +kernel
theorem dX11_taken_2 : decode cX11_taken 2 = .ok (.iconst 5, 1) := by decide +kernel
theorem dX11_taken_3 : decode cX11_taken 3 = .ok (.invokestatic 74, 3) := by decide +kernel
theorem dX11_taken_6 : decode cX11_taken 6 = .ok (.ifCond .ne 6, 3) := by decide +kernel
theorem dX11_taken_9 : decode cX11_taken 9 = .ok (.bipush (-2), 2) := by decide +kernel
theorem dX11_taken_11 : decode cX11_taken 11 = .ok (.ireturn, 1) := by decide +kernel
theorem dX11_taken_12 : decode cX11_taken 12 = .ok (.aload_n 0, 1) := by decide +kernel
theorem dX11_taken_13 : decode cX11_taken 13 = .ok (.iload_n 1, 1) := by decide +kernel
theorem dX11_taken_14 : decode cX11_taken 14 = .ok (.invokevirtual 118, 3) := by decide +kernel
theorem dX11_taken_17 : decode cX11_taken 17 = .ok (.astore_n 3, 1) := by decide +kernel
theorem dX11_taken_18 : decode cX11_taken 18 = .ok (.aload_n 3, 1) := by decide +kernel
theorem dX11_taken_19 : decode cX11_taken 19 = .ok (.ifnonnull 6, 3) := by decide +kernel
theorem dX11_taken_22 : decode cX11_taken 22 = .ok (.bipush (-11), 2) := by decide +kernel
theorem dX11_taken_24 : decode cX11_taken 24 = .ok (.ireturn, 1) := by decide +kernel
theorem dX11_taken_25 : decode cX11_taken 25 = .ok (.aload_n 3, 1) := by decide +kernel
theorem dX11_taken_26 : decode cX11_taken 26 = .ok (.iload_n 2, 1) := by decide +kernel
theorem dX11_taken_27 : decode cX11_taken 27 = .ok (.invokestatic 266, 3) := by decide +kernel
theorem dX11_taken_30 : decode cX11_taken 30 = .ok (.ifCond .eq 10, 3) := by decide +kernel
theorem dX11_taken_33 : decode cX11_taken 33 = .ok (.aload_n 3, 1) := by decide +kernel
theorem dX11_taken_34 : decode cX11_taken 34 = .ok (.getfield 131, 3) := by decide +kernel
theorem dX11_taken_37 : decode cX11_taken 37 = .ok (.goto 5, 3) := by decide +kernel
theorem dX11_taken_40 : decode cX11_taken 40 = .ok (.bipush (-13), 2) := by decide +kernel
theorem dX11_taken_42 : decode cX11_taken 42 = .ok (.ireturn, 1) := by decide +kernel
theorem dX11_isIn_0 : decode cX11_isIn 0 = .ok (.iload_n 1, 1) := by decide +kernel
theorem dX11_isIn_1 : decode cX11_isIn 1 = .ok (.iload_n 0, 1) := by decide +kernel
theorem dX11_isIn_2 : decode cX11_isIn 2 = .ok (.if_icmp .gt 12, 3) := by decide +kernel
theorem dX11_isIn_5 : decode cX11_isIn 5 = .ok (.iload_n 0, 1) := by decide +kernel
theorem dX11_isIn_6 : decode cX11_isIn 6 = .ok (.iload_n 2, 1) := by decide +kernel
theorem dX11_isIn_7 : decode cX11_isIn 7 = .ok (.if_icmp .gt 7, 3) := by decide +kernel
theorem dX11_isIn_10 : decode cX11_isIn 10 = .ok (.iconst 1, 1) := by decide +kernel
theorem dX11_isIn_11 : decode cX11_isIn 11 = .ok (.goto 4, 3) := by decide +kernel
theorem dX11_isIn_14 : decode cX11_isIn 14 = .ok (.iconst 0, 1) := by decide +kernel
theorem dX11_isIn_15 : decode cX11_isIn 15 = .ok (.ireturn, 1) := by decide +kernel
theorem dX11_placeOf_0 : decode cX11_placeOf 0 = .ok (.iload_n 0, 1) := by decide +kernel
theorem dX11_placeOf_1 : decode cX11_placeOf 1 = .ok (.bipush 60, 2) := by decide +kernel
theorem dX11_placeOf_3 : decode cX11_placeOf 3 = .ok (.imul, 1) := by decide +kernel
theorem dX11_placeOf_4 : decode cX11_placeOf 4 = .ok (.iload_n 1, 1) := by decide +kernel
theorem dX11_placeOf_5 : decode cX11_placeOf 5 = .ok (.iadd, 1) := by decide +kernel
theorem dX11_placeOf_6 : decode cX11_placeOf 6 = .ok (.ireturn, 1) := by decide +kernel
theorem dX11_newLane_0 : decode cX11_newLane 0 = .ok (.iload_n 0, 1) := by decide +kernel
theorem dX11_newLane_1 : decode cX11_newLane 1 = .ok (.tableswitch 90 1 5 #[35, 46, 57, 68, 79], 35) := by decide +kernel
theorem dX11_newLane_36 : decode cX11_newLane 36 = .ok (.new 270, 3) := by decide +kernel
theorem dX11_newLane_39 : decode cX11_newLane 39 = .ok (.dup, 1) := by decide +kernel
theorem dX11_newLane_40 : decode cX11_newLane 40 = .ok (.iload_n 0, 1) := by decide +kernel
theorem dX11_newLane_41 : decode cX11_newLane 41 = .ok (.iload_n 1, 1) := by decide +kernel
theorem dX11_newLane_42 : decode cX11_newLane 42 = .ok (.iload_n 2, 1) := by decide +kernel
theorem dX11_newLane_43 : decode cX11_newLane 43 = .ok (.invokespecial 272, 3) := by decide +kernel
theorem dX11_newLane_46 : decode cX11_newLane 46 = .ok (.areturn, 1) := by decide +kernel
theorem dX11_newLane_47 : decode cX11_newLane 47 = .ok (.new 274, 3) := by decide +kernel
theorem dX11_newLane_50 : decode cX11_newLane 50 = .ok (.dup, 1) := by decide +kernel
theorem dX11_newLane_51 : decode cX11_newLane 51 = .ok (.iload_n 0, 1) := by decide +kernel
theorem dX11_newLane_52 : decode cX11_newLane 52 = .ok (.iload_n 1, 1) := by decide +kernel
theorem dX11_newLane_53 : decode cX11_newLane 53 = .ok (.iload_n 2, 1) := by decide +kernel
theorem dX11_newLane_54 : decode cX11_newLane 54 = .ok (.invokespecial 276, 3) := by decide +kernel
theorem dX11_newLane_57 : decode cX11_newLane 57 = .ok (.areturn, 1) := by decide +kernel
theorem dX11_newLane_58 : decode cX11_newLane 58 = .ok (.new 277, 3) := by decide +kernel
theorem dX11_newLane_61 : decode cX11_newLane 61 = .ok (.dup, 1) := by decide +kernel
theorem dX11_newLane_62 : decode cX11_newLane 62 = .ok (.iload_n 0, 1) := by decide +kernel
theorem dX11_newLane_63 : decode cX11_newLane 63 = .ok (.iload_n 1, 1) := by decide +kernel
theorem dX11_newLane_64 : decode cX11_newLane 64 = .ok (.iload_n 2, 1) := by decide +kernel
theorem dX11_newLane_65 : decode cX11_newLane 65 = .ok (.invokespecial 279, 3) := by decide +kernel
theorem dX11_newLane_68 : decode cX11_newLane 68 = .ok (.areturn, 1) := by decide +kernel
theorem dX11_newLane_69 : decode cX11_newLane 69 = .ok (.new 280, 3) := by decide +kernel
theorem dX11_newLane_72 : decode cX11_newLane 72 = .ok (.dup, 1) := by decide +kernel
theorem dX11_newLane_73 : decode cX11_newLane 73 = .ok (.iload_n 0, 1) := by decide +kernel
theorem dX11_newLane_74 : decode cX11_newLane 74 = .ok (.iload_n 1, 1) := by decide +kernel
theorem dX11_newLane_75 : decode cX11_newLane 75 = .ok (.iload_n 2, 1) := by decide +kernel
theorem dX11_newLane_76 : decode cX11_newLane 76 = .ok (.invokespecial 282, 3) := by decide +kernel
theorem dX11_newLane_79 : decode cX11_newLane 79 = .ok (.areturn, 1) := by decide +kernel
theorem dX11_newLane_80 : decode cX11_newLane 80 = .ok (.new 283, 3) := by decide +kernel
theorem dX11_newLane_83 : decode cX11_newLane 83 = .ok (.dup, 1) := by decide +kernel
theorem dX11_newLane_84 : decode cX11_newLane 84 = .ok (.iload_n 0, 1) := by decide +kernel
theorem dX11_newLane_85 : decode cX11_newLane 85 = .ok (.iload_n 1, 1) := by decide +kernel
theorem dX11_newLane_86 : decode cX11_newLane 86 = .ok (.iload_n 2, 1) := by decide +kernel
theorem dX11_newLane_87 : decode cX11_newLane 87 = .ok (.invokespecial 285, 3) := by decide +kernel
theorem dX11_newLane_90 : decode cX11_newLane 90 = .ok (.areturn, 1) := by decide +kernel
theorem dX11_newLane_91 : decode cX11_newLane 91 = .ok (.new 9, 3) := by decide +kernel
theorem dX11_newLane_94 : decode cX11_newLane 94 = .ok (.dup, 1) := by decide +kernel
theorem dX11_newLane_95 : decode cX11_newLane 95 = .ok (.iload_n 0, 1) := by decide +kernel
theorem dX11_newLane_96 : decode cX11_newLane 96 = .ok (.iload_n 1, 1) := by decide +kernel
theorem dX11_newLane_97 : decode cX11_newLane 97 = .ok (.iload_n 2, 1) := by decide +kernel
theorem dX11_newLane_98 : decode cX11_newLane 98 = .ok (.invokespecial 286, 3) := by decide +kernel
theorem dX11_newLane_101 : decode cX11_newLane 101 = .ok (.areturn, 1) := by decide +kernel
theorem dX11_isOfKind_0 : decode cX11_isOfKind 0 = .ok (.iload_n 1, 1) := by decide +kernel
theorem dX11_isOfKind_1 : decode cX11_isOfKind 1 = .ok (.tableswitch 60 1 5 #[35, 40, 45, 50, 55], 35) := by decide +kernel
theorem dX11_isOfKind_36 : decode cX11_isOfKind 36 = .ok (.aload_n 0, 1) := by decide +kernel
theorem dX11_isOfKind_37 : decode cX11_isOfKind 37 = .ok (.instanceof 270, 3) := by decide +kernel
theorem dX11_isOfKind_40 : decode cX11_isOfKind 40 = .ok (.ireturn, 1) := by decide +kernel
theorem dX11_isOfKind_41 : decode cX11_isOfKind 41 = .ok (.aload_n 0, 1) := by decide +kernel
theorem dX11_isOfKind_42 : decode cX11_isOfKind 42 = .ok (.instanceof 274, 3) := by decide +kernel
theorem dX11_isOfKind_45 : decode cX11_isOfKind 45 = .ok (.ireturn, 1) := by decide +kernel
theorem dX11_isOfKind_46 : decode cX11_isOfKind 46 = .ok (.aload_n 0, 1) := by decide +kernel
theorem dX11_isOfKind_47 : decode cX11_isOfKind 47 = .ok (.instanceof 277, 3) := by decide +kernel
theorem dX11_isOfKind_50 : decode cX11_isOfKind 50 = .ok (.ireturn, 1) := by decide +kernel
theorem dX11_isOfKind_51 : decode cX11_isOfKind 51 = .ok (.aload_n 0, 1) := by decide +kernel
theorem dX11_isOfKind_52 : decode cX11_isOfKind 52 = .ok (.instanceof 280, 3) := by decide +kernel
theorem dX11_isOfKind_55 : decode cX11_isOfKind 55 = .ok (.ireturn, 1) := by decide +kernel
theorem dX11_isOfKind_56 : decode cX11_isOfKind 56 = .ok (.aload_n 0, 1) := by decide +kernel
theorem dX11_isOfKind_57 : decode cX11_isOfKind 57 = .ok (.instanceof 283, 3) := by decide +kernel
theorem dX11_isOfKind_60 : decode cX11_isOfKind 60 = .ok (.ireturn, 1) := by decide +kernel
theorem dX11_isOfKind_61 : decode cX11_isOfKind 61 = .ok (.iconst 1, 1) := by decide +kernel
theorem dX11_isOfKind_62 : decode cX11_isOfKind 62 = .ok (.ireturn, 1) := by decide +kernel
theorem dX11_laneOf_0 : decode cX11_laneOf 0 = .ok (.iload_n 1, 1) := by decide +kernel
theorem dX11_laneOf_1 : decode cX11_laneOf 1 = .ok (.iconst 0, 1) := by decide +kernel
theorem dX11_laneOf_2 : decode cX11_laneOf 2 = .ok (.aload_n 0, 1) := by decide +kernel
theorem dX11_laneOf_3 : decode cX11_laneOf 3 = .ok (.getfield 78, 3) := by decide +kernel
theorem dX11_laneOf_6 : decode cX11_laneOf 6 = .ok (.iconst 1, 1) := by decide +kernel
theorem dX11_laneOf_7 : decode cX11_laneOf 7 = .ok (.isub, 1) := by decide +kernel
theorem dX11_laneOf_8 : decode cX11_laneOf 8 = .ok (.invokestatic 74, 3) := by decide +kernel
theorem dX11_laneOf_11 : decode cX11_laneOf 11 = .ok (.ifCond .eq 12, 3) := by decide +kernel
theorem dX11_laneOf_14 : decode cX11_laneOf 14 = .ok (.aload_n 0, 1) := by decide +kernel
theorem dX11_laneOf_15 : decode cX11_laneOf 15 = .ok (.getfield 11, 3) := by decide +kernel
theorem dX11_laneOf_18 : decode cX11_laneOf 18 = .ok (.iload_n 1, 1) := by decide +kernel
theorem dX11_laneOf_19 : decode cX11_laneOf 19 = .ok (.aaload, 1) := by decide +kernel
theorem dX11_laneOf_20 : decode cX11_laneOf 20 = .ok (.goto 4, 3) := by decide +kernel
theorem dX11_laneOf_23 : decode cX11_laneOf 23 = .ok (.aconst_null, 1) := by decide +kernel
theorem dX11_laneOf_24 : decode cX11_laneOf 24 = .ok (.areturn, 1) := by decide +kernel
theorem dX11_sheetOf_0 : decode cX11_sheetOf 0 = .ok (.iload_n 1, 1) := by decide +kernel
theorem dX11_sheetOf_1 : decode cX11_sheetOf 1 = .ok (.iconst 0, 1) := by decide +kernel
theorem dX11_sheetOf_2 : decode cX11_sheetOf 2 = .ok (.iconst 3, 1) := by decide +kernel
theorem dX11_sheetOf_3 : decode cX11_sheetOf 3 = .ok (.invokestatic 74, 3) := by decide +kernel
theorem dX11_sheetOf_6 : decode cX11_sheetOf 6 = .ok (.ifCond .eq 12, 3) := by decide +kernel
theorem dX11_sheetOf_9 : decode cX11_sheetOf 9 = .ok (.aload_n 0, 1) := by decide +kernel
theorem dX11_sheetOf_10 : decode cX11_sheetOf 10 = .ok (.getfield 40, 3) := by decide +kernel
theorem dX11_sheetOf_13 : decode cX11_sheetOf 13 = .ok (.iload_n 1, 1) := by decide +kernel
theorem dX11_sheetOf_14 : decode cX11_sheetOf 14 = .ok (.aaload, 1) := by decide +kernel
theorem dX11_sheetOf_15 : decode cX11_sheetOf 15 = .ok (.goto 4, 3) := by decide +kernel
theorem dX11_sheetOf_18 : decode cX11_sheetOf 18 = .ok (.aconst_null, 1) := by decide +kernel
theorem dX11_sheetOf_19 : decode cX11_sheetOf 19 = .ok (.areturn, 1) := by decide +kernel
theorem dX11_setEmpty_0 : decode cX11_setEmpty 0 = .ok (.iload_n 1, 1) := by decide +kernel
theorem dX11_setEmpty_1 : decode cX11_setEmpty 1 = .ok (.iconst 0, 1) := by decide +kernel
theorem dX11_setEmpty_2 : decode cX11_setEmpty 2 = .ok (.bipush 9, 2) := by decide +kernel
theorem dX11_setEmpty_4 : decode cX11_setEmpty 4 = .ok (.invokestatic 74, 3) := by decide +kernel
theorem dX11_setEmpty_7 : decode cX11_setEmpty 7 = .ok (.ifCond .ne 6, 3) := by decide +kernel
theorem dX11_setEmpty_10 : decode cX11_setEmpty 10 = .ok (.bipush (-2), 2) := by decide +kernel
theorem dX11_setEmpty_12 : decode cX11_setEmpty 12 = .ok (.ireturn, 1) := by decide +kernel
theorem dX11_setEmpty_13 : decode cX11_setEmpty 13 = .ok (.aload_n 0, 1) := by decide +kernel
theorem dX11_setEmpty_14 : decode cX11_setEmpty 14 = .ok (.getfield 18, 3) := by decide +kernel
theorem dX11_setEmpty_17 : decode cX11_setEmpty 17 = .ok (.getfield 137, 3) := by decide +kernel
theorem dX11_setEmpty_20 : decode cX11_setEmpty 20 = .ok (.istore_n 2, 1) := by decide +kernel
theorem dX11_setEmpty_21 : decode cX11_setEmpty 21 = .ok (.aload_n 0, 1) := by decide +kernel
theorem dX11_setEmpty_22 : decode cX11_setEmpty 22 = .ok (.getfield 18, 3) := by decide +kernel
theorem dX11_setEmpty_25 : decode cX11_setEmpty 25 = .ok (.iload_n 1, 1) := by decide +kernel
theorem dX11_setEmpty_26 : decode cX11_setEmpty 26 = .ok (.putfield 137, 3) := by decide +kernel
theorem dX11_setEmpty_29 : decode cX11_setEmpty 29 = .ok (.iload_n 2, 1) := by decide +kernel
theorem dX11_setEmpty_30 : decode cX11_setEmpty 30 = .ok (.ireturn, 1) := by decide +kernel
theorem dX11_homeLanes_0 : decode cX11_homeLanes 0 = .ok (.iconst 0, 1) := by decide +kernel
theorem dX11_homeLanes_1 : decode cX11_homeLanes 1 = .ok (.istore_n 1, 1) := by decide +kernel
theorem dX11_homeLanes_2 : decode cX11_homeLanes 2 = .ok (.iconst 0, 1) := by decide +kernel
theorem dX11_homeLanes_3 : decode cX11_homeLanes 3 = .ok (.istore_n 2, 1) := by decide +kernel
theorem dX11_homeLanes_4 : decode cX11_homeLanes 4 = .ok (.iload_n 2, 1) := by decide +kernel
theorem dX11_homeLanes_5 : decode cX11_homeLanes 5 = .ok (.aload_n 0, 1) := by decide +kernel
theorem dX11_homeLanes_6 : decode cX11_homeLanes 6 = .ok (.getfield 78, 3) := by decide +kernel
theorem dX11_homeLanes_9 : decode cX11_homeLanes 9 = .ok (.if_icmp .ge 21, 3) := by decide +kernel
theorem dX11_homeLanes_12 : decode cX11_homeLanes 12 = .ok (.iload_n 1, 1) := by decide +kernel
theorem dX11_homeLanes_13 : decode cX11_homeLanes 13 = .ok (.aload_n 0, 1) := by decide +kernel
theorem dX11_homeLanes_14 : decode cX11_homeLanes 14 = .ok (.getfield 11, 3) := by decide +kernel
theorem dX11_homeLanes_17 : decode cX11_homeLanes 17 = .ok (.iload_n 2, 1) := by decide +kernel
theorem dX11_homeLanes_18 : decode cX11_homeLanes 18 = .ok (.aaload, 1) := by decide +kernel
theorem dX11_homeLanes_19 : decode cX11_homeLanes 19 = .ok (.getfield 134, 3) := by decide +kernel
theorem dX11_homeLanes_22 : decode cX11_homeLanes 22 = .ok (.iadd, 1) := by decide +kernel
theorem dX11_homeLanes_23 : decode cX11_homeLanes 23 = .ok (.istore_n 1, 1) := by decide +kernel
theorem dX11_homeLanes_24 : decode cX11_homeLanes 24 = .ok (.iinc 2 1, 3) := by decide +kernel
theorem dX11_homeLanes_27 : decode cX11_homeLanes 27 = .ok (.goto (-23), 3) := by decide +kernel
theorem dX11_homeLanes_30 : decode cX11_homeLanes 30 = .ok (.iload_n 1, 1) := by decide +kernel
theorem dX11_homeLanes_31 : decode cX11_homeLanes 31 = .ok (.ireturn, 1) := by decide +kernel
theorem dX11_lacksPlan_0 : decode cX11_lacksPlan 0 = .ok (.aload_n 0, 1) := by decide +kernel
theorem dX11_lacksPlan_1 : decode cX11_lacksPlan 1 = .ok (.iload_n 1, 1) := by decide +kernel
theorem dX11_lacksPlan_2 : decode cX11_lacksPlan 2 = .ok (.invokevirtual 100, 3) := by decide +kernel
theorem dX11_lacksPlan_5 : decode cX11_lacksPlan 5 = .ok (.astore_n 2, 1) := by decide +kernel
theorem dX11_lacksPlan_6 : decode cX11_lacksPlan 6 = .ok (.aload_n 2, 1) := by decide +kernel
theorem dX11_lacksPlan_7 : decode cX11_lacksPlan 7 = .ok (.ifnull 14, 3) := by decide +kernel
theorem dX11_lacksPlan_10 : decode cX11_lacksPlan 10 = .ok (.aload_n 2, 1) := by decide +kernel
theorem dX11_lacksPlan_11 : decode cX11_lacksPlan 11 = .ok (.invokevirtual 104, 3) := by decide +kernel
theorem dX11_lacksPlan_14 : decode cX11_lacksPlan 14 = .ok (.ifCond .eq 7, 3) := by decide +kernel
theorem dX11_lacksPlan_17 : decode cX11_lacksPlan 17 = .ok (.iconst 1, 1) := by decide +kernel
theorem dX11_lacksPlan_18 : decode cX11_lacksPlan 18 = .ok (.goto 4, 3) := by decide +kernel
theorem dX11_lacksPlan_21 : decode cX11_lacksPlan 21 = .ok (.iconst 0, 1) := by decide +kernel
theorem dX11_lacksPlan_22 : decode cX11_lacksPlan 22 = .ok (.ireturn, 1) := by decide +kernel
theorem dX11_readyCourse_0 : decode cX11_readyCourse 0 = .ok (.aload_n 0, 1) := by decide +kernel
theorem dX11_readyCourse_1 : decode cX11_readyCourse 1 = .ok (.getfield 47, 3) := by decide +kernel
theorem dX11_readyCourse_4 : decode cX11_readyCourse 4 = .ok (.aload_n 0, 1) := by decide +kernel
theorem dX11_readyCourse_5 : decode cX11_readyCourse 5 = .ok (.getfield 11, 3) := by decide +kernel
theorem dX11_readyCourse_8 : decode cX11_readyCourse 8 = .ok (.aload_n 0, 1) := by decide +kernel
theorem dX11_readyCourse_9 : decode cX11_readyCourse 9 = .ok (.getfield 78, 3) := by decide +kernel
theorem dX11_readyCourse_12 : decode cX11_readyCourse 12 = .ok (.aload_n 0, 1) := by decide +kernel
theorem dX11_readyCourse_13 : decode cX11_readyCourse 13 = .ok (.getfield 18, 3) := by decide +kernel
theorem dX11_readyCourse_16 : decode cX11_readyCourse 16 = .ok (.aload_n 0, 1) := by decide +kernel
theorem dX11_readyCourse_17 : decode cX11_readyCourse 17 = .ok (.getfield 27, 3) := by decide +kernel
theorem dX11_readyCourse_20 : decode cX11_readyCourse 20 = .ok (.aload_n 0, 1) := by decide +kernel
theorem dX11_readyCourse_21 : decode cX11_readyCourse 21 = .ok (.getfield 18, 3) := by decide +kernel
theorem dX11_readyCourse_24 : decode cX11_readyCourse 24 = .ok (.getfield 153, 3) := by decide +kernel
theorem dX11_readyCourse_27 : decode cX11_readyCourse 27 = .ok (.aaload, 1) := by decide +kernel
theorem dX11_readyCourse_28 : decode cX11_readyCourse 28 = .ok (.invokevirtual 287, 3) := by decide +kernel
theorem dX11_readyCourse_31 : decode cX11_readyCourse 31 = .ok (.return_, 1) := by decide +kernel
theorem dX11_passBy_0 : decode cX11_passBy 0 = .ok (.aload_n 0, 1) := by decide +kernel
theorem dX11_passBy_1 : decode cX11_passBy 1 = .ok (.invokevirtual 182, 3) := by decide +kernel
theorem dX11_passBy_4 : decode cX11_passBy 4 = .ok (.aload_n 0, 1) := by decide +kernel
theorem dX11_passBy_5 : decode cX11_passBy 5 = .ok (.iload_n 2, 1) := by decide +kernel
theorem dX11_passBy_6 : decode cX11_passBy 6 = .ok (.invokevirtual 100, 3) := by decide +kernel
theorem dX11_passBy_9 : decode cX11_passBy 9 = .ok (.astore_n 3, 1) := by decide +kernel
theorem dX11_passBy_10 : decode cX11_passBy 10 = .ok (.aload_n 3, 1) := by decide +kernel
theorem dX11_passBy_11 : decode cX11_passBy 11 = .ok (.ifnull 11, 3) := by decide +kernel
theorem dX11_passBy_14 : decode cX11_passBy 14 = .ok (.aload_n 0, 1) := by decide +kernel
theorem dX11_passBy_15 : decode cX11_passBy 15 = .ok (.getfield 47, 3) := by decide +kernel
theorem dX11_passBy_18 : decode cX11_passBy 18 = .ok (.aload_n 3, 1) := by decide +kernel
theorem dX11_passBy_19 : decode cX11_passBy 19 = .ok (.invokevirtual 220, 3) := by decide +kernel
theorem dX11_passBy_22 : decode cX11_passBy 22 = .ok (.aload_n 0, 1) := by decide +kernel
theorem dX11_passBy_23 : decode cX11_passBy 23 = .ok (.getfield 47, 3) := by decide +kernel
theorem dX11_passBy_26 : decode cX11_passBy 26 = .ok (.iload_n 2, 1) := by decide +kernel
theorem dX11_passBy_27 : decode cX11_passBy 27 = .ok (.iconst 4, 1) := by decide +kernel
theorem dX11_passBy_28 : decode cX11_passBy 28 = .ok (.if_icmp .ne 7, 3) := by decide +kernel
theorem dX11_passBy_31 : decode cX11_passBy 31 = .ok (.iconst 1, 1) := by decide +kernel
theorem dX11_passBy_32 : decode cX11_passBy 32 = .ok (.goto 4, 3) := by decide +kernel
theorem dX11_passBy_35 : decode cX11_passBy 35 = .ok (.iconst 0, 1) := by decide +kernel
theorem dX11_passBy_36 : decode cX11_passBy 36 = .ok (.putfield 291, 3) := by decide +kernel
theorem dX11_passBy_39 : decode cX11_passBy 39 = .ok (.aload_n 0, 1) := by decide +kernel
theorem dX11_passBy_40 : decode cX11_passBy 40 = .ok (.getfield 47, 3) := by decide +kernel
theorem dX11_passBy_43 : decode cX11_passBy 43 = .ok (.iload_n 1, 1) := by decide +kernel
theorem dX11_passBy_44 : decode cX11_passBy 44 = .ok (.ldc2_w 185, 3) := by decide +kernel
theorem dX11_passBy_47 : decode cX11_passBy 47 = .ok (.invokevirtual 187, 3) := by decide +kernel
theorem dX11_passBy_50 : decode cX11_passBy 50 = .ok (.return_, 1) := by decide +kernel
theorem dX11_tryOne_0 : decode cX11_tryOne 0 = .ok (.aload_n 0, 1) := by decide +kernel
theorem dX11_tryOne_1 : decode cX11_tryOne 1 = .ok (.getfield 47, 3) := by decide +kernel
theorem dX11_tryOne_4 : decode cX11_tryOne 4 = .ok (.getfield 294, 3) := by decide +kernel
theorem dX11_tryOne_7 : decode cX11_tryOne 7 = .ok (.iload_n 3, 1) := by decide +kernel
theorem dX11_tryOne_8 : decode cX11_tryOne 8 = .ok (.iload_n 2, 1) := by decide +kernel
theorem dX11_tryOne_9 : decode cX11_tryOne 9 = .ok (.iastore, 1) := by decide +kernel
theorem dX11_tryOne_10 : decode cX11_tryOne 10 = .ok (.aload_n 0, 1) := by decide +kernel
theorem dX11_tryOne_11 : decode cX11_tryOne 11 = .ok (.getfield 47, 3) := by decide +kernel
theorem dX11_tryOne_14 : decode cX11_tryOne 14 = .ok (.iload_n 1, 1) := by decide +kernel
theorem dX11_tryOne_15 : decode cX11_tryOne 15 = .ok (.aload_n 0, 1) := by decide +kernel
theorem dX11_tryOne_16 : decode cX11_tryOne 16 = .ok (.getfield 51, 3) := by decide +kernel
theorem dX11_tryOne_19 : decode cX11_tryOne 19 = .ok (.iconst 2, 1) := by decide +kernel
theorem dX11_tryOne_20 : decode cX11_tryOne 20 = .ok (.laload, 1) := by decide +kernel
theorem dX11_tryOne_21 : decode cX11_tryOne 21 = .ok (.invokevirtual 187, 3) := by decide +kernel
theorem dX11_tryOne_24 : decode cX11_tryOne 24 = .ok (.aload_n 0, 1) := by decide +kernel
theorem dX11_tryOne_25 : decode cX11_tryOne 25 = .ok (.getfield 47, 3) := by decide +kernel
theorem dX11_tryOne_28 : decode cX11_tryOne 28 = .ok (.getfield 294, 3) := by decide +kernel
theorem dX11_tryOne_31 : decode cX11_tryOne 31 = .ok (.iload_n 3, 1) := by decide +kernel
theorem dX11_tryOne_32 : decode cX11_tryOne 32 = .ok (.iconst (-1), 1) := by decide +kernel
theorem dX11_tryOne_33 : decode cX11_tryOne 33 = .ok (.iastore, 1) := by decide +kernel
theorem dX11_tryOne_34 : decode cX11_tryOne 34 = .ok (.aload_n 0, 1) := by decide +kernel
theorem dX11_tryOne_35 : decode cX11_tryOne 35 = .ok (.getfield 47, 3) := by decide +kernel
theorem dX11_tryOne_38 : decode cX11_tryOne 38 = .ok (.getfield 165, 3) := by decide +kernel
theorem dX11_tryOne_41 : decode cX11_tryOne 41 = .ok (.aload_n 0, 1) := by decide +kernel
theorem dX11_tryOne_42 : decode cX11_tryOne 42 = .ok (.getfield 51, 3) := by decide +kernel
theorem dX11_tryOne_45 : decode cX11_tryOne 45 = .ok (.iconst 2, 1) := by decide +kernel
theorem dX11_tryOne_46 : decode cX11_tryOne 46 = .ok (.laload, 1) := by decide +kernel
theorem dX11_tryOne_47 : decode cX11_tryOne 47 = .ok (.lcmp, 1) := by decide +kernel
theorem dX11_tryOne_48 : decode cX11_tryOne 48 = .ok (.ifCond .ge 32, 3) := by decide +kernel
theorem dX11_tryOne_51 : decode cX11_tryOne 51 = .ok (.aload_n 0, 1) := by decide +kernel
theorem dX11_tryOne_52 : decode cX11_tryOne 52 = .ok (.getfield 51, 3) := by decide +kernel
theorem dX11_tryOne_55 : decode cX11_tryOne 55 = .ok (.iconst 0, 1) := by decide +kernel
theorem dX11_tryOne_56 : decode cX11_tryOne 56 = .ok (.iload_n 2, 1) := by decide +kernel
theorem dX11_tryOne_57 : decode cX11_tryOne 57 = .ok (.i2l, 1) := by decide +kernel
theorem dX11_tryOne_58 : decode cX11_tryOne 58 = .ok (.lastore, 1) := by decide +kernel
theorem dX11_tryOne_59 : decode cX11_tryOne 59 = .ok (.aload_n 0, 1) := by decide +kernel
theorem dX11_tryOne_60 : decode cX11_tryOne 60 = .ok (.getfield 51, 3) := by decide +kernel
theorem dX11_tryOne_63 : decode cX11_tryOne 63 = .ok (.iconst 1, 1) := by decide +kernel
theorem dX11_tryOne_64 : decode cX11_tryOne 64 = .ok (.iload_n 3, 1) := by decide +kernel
theorem dX11_tryOne_65 : decode cX11_tryOne 65 = .ok (.i2l, 1) := by decide +kernel
theorem dX11_tryOne_66 : decode cX11_tryOne 66 = .ok (.lastore, 1) := by decide +kernel
theorem dX11_tryOne_67 : decode cX11_tryOne 67 = .ok (.aload_n 0, 1) := by decide +kernel
theorem dX11_tryOne_68 : decode cX11_tryOne 68 = .ok (.getfield 51, 3) := by decide +kernel
theorem dX11_tryOne_71 : decode cX11_tryOne 71 = .ok (.iconst 2, 1) := by decide +kernel
theorem dX11_tryOne_72 : decode cX11_tryOne 72 = .ok (.aload_n 0, 1) := by decide +kernel
theorem dX11_tryOne_73 : decode cX11_tryOne 73 = .ok (.getfield 47, 3) := by decide +kernel
theorem dX11_tryOne_76 : decode cX11_tryOne 76 = .ok (.getfield 165, 3) := by decide +kernel
theorem dX11_tryOne_79 : decode cX11_tryOne 79 = .ok (.lastore, 1) := by decide +kernel
theorem dX11_tryOne_80 : decode cX11_tryOne 80 = .ok (.return_, 1) := by decide +kernel
theorem dX11_goesAndReturns_0 : decode cX11_goesAndReturns 0 = .ok (.aload_n 1, 1) := by decide +kernel
theorem dX11_goesAndReturns_1 : decode cX11_goesAndReturns 1 = .ok (.iload_n 2, 1) := by decide +kernel
theorem dX11_goesAndReturns_2 : decode cX11_goesAndReturns 2 = .ok (.invokevirtual 143, 3) := by decide +kernel
theorem dX11_goesAndReturns_5 : decode cX11_goesAndReturns 5 = .ok (.ifCond .eq 32, 3) := by decide +kernel
theorem dX11_goesAndReturns_8 : decode cX11_goesAndReturns 8 = .ok (.aload_n 1, 1) := by decide +kernel
theorem dX11_goesAndReturns_9 : decode cX11_goesAndReturns 9 = .ok (.iload_n 3, 1) := by decide +kernel
theorem dX11_goesAndReturns_10 : decode cX11_goesAndReturns 10 = .ok (.invokevirtual 143, 3) := by decide +kernel
theorem dX11_goesAndReturns_13 : decode cX11_goesAndReturns 13 = .ok (.ifCond .eq 24, 3) := by decide +kernel
theorem dX11_goesAndReturns_16 : decode cX11_goesAndReturns 16 = .ok (.iload_n 3, 1) := by decide +kernel
theorem dX11_goesAndReturns_17 : decode cX11_goesAndReturns 17 = .ok (.iload_n 2, 1) := by decide +kernel
theorem dX11_goesAndReturns_18 : decode cX11_goesAndReturns 18 = .ok (.isub, 1) := by decide +kernel
theorem dX11_goesAndReturns_19 : decode cX11_goesAndReturns 19 = .ok (.aload_n 1, 1) := by decide +kernel
theorem dX11_goesAndReturns_20 : decode cX11_goesAndReturns 20 = .ok (.aload_n 0, 1) := by decide +kernel
theorem dX11_goesAndReturns_21 : decode cX11_goesAndReturns 21 = .ok (.getfield 18, 3) := by decide +kernel
theorem dX11_goesAndReturns_24 : decode cX11_goesAndReturns 24 = .ok (.getfield 137, 3) := by decide +kernel
theorem dX11_goesAndReturns_27 : decode cX11_goesAndReturns 27 = .ok (.invokevirtual 140, 3) := by decide +kernel
theorem dX11_goesAndReturns_30 : decode cX11_goesAndReturns 30 = .ok (.if_icmp .lt 7, 3) := by decide +kernel
theorem dX11_goesAndReturns_33 : decode cX11_goesAndReturns 33 = .ok (.iconst 1, 1) := by decide +kernel
theorem dX11_goesAndReturns_34 : decode cX11_goesAndReturns 34 = .ok (.goto 4, 3) := by decide +kernel
theorem dX11_goesAndReturns_37 : decode cX11_goesAndReturns 37 = .ok (.iconst 0, 1) := by decide +kernel
theorem dX11_goesAndReturns_38 : decode cX11_goesAndReturns 38 = .ok (.ireturn, 1) := by decide +kernel
theorem dX11_tryTwo_0 : decode cX11_tryTwo 0 = .ok (.aload_n 0, 1) := by decide +kernel
theorem dX11_tryTwo_1 : decode cX11_tryTwo 1 = .ok (.getfield 51, 3) := by decide +kernel
theorem dX11_tryTwo_4 : decode cX11_tryTwo 4 = .ok (.iconst 0, 1) := by decide +kernel
theorem dX11_tryTwo_5 : decode cX11_tryTwo 5 = .ok (.laload, 1) := by decide +kernel
theorem dX11_tryTwo_6 : decode cX11_tryTwo 6 = .ok (.ldc2_w 191, 3) := by decide +kernel
theorem dX11_tryTwo_9 : decode cX11_tryTwo 9 = .ok (.lcmp, 1) := by decide +kernel
theorem dX11_tryTwo_10 : decode cX11_tryTwo 10 = .ok (.ifCond .ne 9, 3) := by decide +kernel
theorem dX11_tryTwo_13 : decode cX11_tryTwo 13 = .ok (.ldc2_w 185, 3) := by decide +kernel
theorem dX11_tryTwo_16 : decode cX11_tryTwo 16 = .ok (.goto 9, 3) := by decide +kernel
theorem dX11_tryTwo_19 : decode cX11_tryTwo 19 = .ok (.aload_n 0, 1) := by decide +kernel
theorem dX11_tryTwo_20 : decode cX11_tryTwo 20 = .ok (.getfield 51, 3) := by decide +kernel
theorem dX11_tryTwo_23 : decode cX11_tryTwo 23 = .ok (.iconst 3, 1) := by decide +kernel
theorem dX11_tryTwo_24 : decode cX11_tryTwo 24 = .ok (.laload, 1) := by decide +kernel
theorem dX11_tryTwo_25 : decode cX11_tryTwo 25 = .ok (.lstore 5, 2) := by decide +kernel
theorem dX11_tryTwo_27 : decode cX11_tryTwo 27 = .ok (.aload_n 0, 1) := by decide +kernel
theorem dX11_tryTwo_28 : decode cX11_tryTwo 28 = .ok (.getfield 47, 3) := by decide +kernel
theorem dX11_tryTwo_31 : decode cX11_tryTwo 31 = .ok (.getfield 294, 3) := by decide +kernel
theorem dX11_tryTwo_34 : decode cX11_tryTwo 34 = .ok (.iload_n 3, 1) := by decide +kernel
theorem dX11_tryTwo_35 : decode cX11_tryTwo 35 = .ok (.iload_n 2, 1) := by decide +kernel
theorem dX11_tryTwo_36 : decode cX11_tryTwo 36 = .ok (.iastore, 1) := by decide +kernel
theorem dX11_tryTwo_37 : decode cX11_tryTwo 37 = .ok (.aload_n 0, 1) := by decide +kernel
theorem dX11_tryTwo_38 : decode cX11_tryTwo 38 = .ok (.getfield 47, 3) := by decide +kernel
theorem dX11_tryTwo_41 : decode cX11_tryTwo 41 = .ok (.getfield 294, 3) := by decide +kernel
theorem dX11_tryTwo_44 : decode cX11_tryTwo 44 = .ok (.iload 4, 2) := by decide +kernel
theorem dX11_tryTwo_46 : decode cX11_tryTwo 46 = .ok (.iload_n 2, 1) := by decide +kernel
theorem dX11_tryTwo_47 : decode cX11_tryTwo 47 = .ok (.iastore, 1) := by decide +kernel
theorem dX11_tryTwo_48 : decode cX11_tryTwo 48 = .ok (.aload_n 0, 1) := by decide +kernel
theorem dX11_tryTwo_49 : decode cX11_tryTwo 49 = .ok (.getfield 47, 3) := by decide +kernel
theorem dX11_tryTwo_52 : decode cX11_tryTwo 52 = .ok (.iload_n 1, 1) := by decide +kernel
theorem dX11_tryTwo_53 : decode cX11_tryTwo 53 = .ok (.lload 5, 2) := by decide +kernel
theorem dX11_tryTwo_55 : decode cX11_tryTwo 55 = .ok (.invokevirtual 187, 3) := by decide +kernel
theorem dX11_tryTwo_58 : decode cX11_tryTwo 58 = .ok (.aload_n 0, 1) := by decide +kernel
theorem dX11_tryTwo_59 : decode cX11_tryTwo 59 = .ok (.getfield 47, 3) := by decide +kernel
theorem dX11_tryTwo_62 : decode cX11_tryTwo 62 = .ok (.getfield 294, 3) := by decide +kernel
theorem dX11_tryTwo_65 : decode cX11_tryTwo 65 = .ok (.iload_n 3, 1) := by decide +kernel
theorem dX11_tryTwo_66 : decode cX11_tryTwo 66 = .ok (.iconst (-1), 1) := by decide +kernel
theorem dX11_tryTwo_67 : decode cX11_tryTwo 67 = .ok (.iastore, 1) := by decide +kernel
theorem dX11_tryTwo_68 : decode cX11_tryTwo 68 = .ok (.aload_n 0, 1) := by decide +kernel
theorem dX11_tryTwo_69 : decode cX11_tryTwo 69 = .ok (.getfield 47, 3) := by decide +kernel
theorem dX11_tryTwo_72 : decode cX11_tryTwo 72 = .ok (.getfield 294, 3) := by decide +kernel
theorem dX11_tryTwo_75 : decode cX11_tryTwo 75 = .ok (.iload 4, 2) := by decide +kernel
theorem dX11_tryTwo_77 : decode cX11_tryTwo 77 = .ok (.iconst (-1), 1) := by decide +kernel
theorem dX11_tryTwo_78 : decode cX11_tryTwo 78 = .ok (.iastore, 1) := by decide +kernel
theorem dX11_tryTwo_79 : decode cX11_tryTwo 79 = .ok (.aload_n 0, 1) := by decide +kernel
theorem dX11_tryTwo_80 : decode cX11_tryTwo 80 = .ok (.getfield 47, 3) := by decide +kernel
theorem dX11_tryTwo_83 : decode cX11_tryTwo 83 = .ok (.getfield 165, 3) := by decide +kernel
theorem dX11_tryTwo_86 : decode cX11_tryTwo 86 = .ok (.lload 5, 2) := by decide +kernel
theorem dX11_tryTwo_88 : decode cX11_tryTwo 88 = .ok (.lcmp, 1) := by decide +kernel
theorem dX11_tryTwo_89 : decode cX11_tryTwo 89 = .ok (.ifCond .ge 41, 3) := by decide +kernel
theorem dX11_tryTwo_92 : decode cX11_tryTwo 92 = .ok (.aload_n 0, 1) := by decide +kernel
theorem dX11_tryTwo_93 : decode cX11_tryTwo 93 = .ok (.getfield 51, 3) := by decide +kernel
theorem dX11_tryTwo_96 : decode cX11_tryTwo 96 = .ok (.iconst 0, 1) := by decide +kernel
theorem dX11_tryTwo_97 : decode cX11_tryTwo 97 = .ok (.iload_n 2, 1) := by decide +kernel
theorem dX11_tryTwo_98 : decode cX11_tryTwo 98 = .ok (.i2l, 1) := by decide +kernel
theorem dX11_tryTwo_99 : decode cX11_tryTwo 99 = .ok (.lastore, 1) := by decide +kernel
theorem dX11_tryTwo_100 : decode cX11_tryTwo 100 = .ok (.aload_n 0, 1) := by decide +kernel
theorem dX11_tryTwo_101 : decode cX11_tryTwo 101 = .ok (.getfield 51, 3) := by decide +kernel
theorem dX11_tryTwo_104 : decode cX11_tryTwo 104 = .ok (.iconst 1, 1) := by decide +kernel
theorem dX11_tryTwo_105 : decode cX11_tryTwo 105 = .ok (.iload_n 3, 1) := by decide +kernel
theorem dX11_tryTwo_106 : decode cX11_tryTwo 106 = .ok (.i2l, 1) := by decide +kernel
theorem dX11_tryTwo_107 : decode cX11_tryTwo 107 = .ok (.lastore, 1) := by decide +kernel
theorem dX11_tryTwo_108 : decode cX11_tryTwo 108 = .ok (.aload_n 0, 1) := by decide +kernel
theorem dX11_tryTwo_109 : decode cX11_tryTwo 109 = .ok (.getfield 51, 3) := by decide +kernel
theorem dX11_tryTwo_112 : decode cX11_tryTwo 112 = .ok (.iconst 2, 1) := by decide +kernel
theorem dX11_tryTwo_113 : decode cX11_tryTwo 113 = .ok (.iload 4, 2) := by decide +kernel
theorem dX11_tryTwo_115 : decode cX11_tryTwo 115 = .ok (.i2l, 1) := by decide +kernel
theorem dX11_tryTwo_116 : decode cX11_tryTwo 116 = .ok (.lastore, 1) := by decide +kernel
theorem dX11_tryTwo_117 : decode cX11_tryTwo 117 = .ok (.aload_n 0, 1) := by decide +kernel
theorem dX11_tryTwo_118 : decode cX11_tryTwo 118 = .ok (.getfield 51, 3) := by decide +kernel
theorem dX11_tryTwo_121 : decode cX11_tryTwo 121 = .ok (.iconst 3, 1) := by decide +kernel
theorem dX11_tryTwo_122 : decode cX11_tryTwo 122 = .ok (.aload_n 0, 1) := by decide +kernel
theorem dX11_tryTwo_123 : decode cX11_tryTwo 123 = .ok (.getfield 47, 3) := by decide +kernel
theorem dX11_tryTwo_126 : decode cX11_tryTwo 126 = .ok (.getfield 165, 3) := by decide +kernel
theorem dX11_tryTwo_129 : decode cX11_tryTwo 129 = .ok (.lastore, 1) := by decide +kernel
theorem dX11_tryTwo_130 : decode cX11_tryTwo 130 = .ok (.return_, 1) := by decide +kernel
theorem dX12_in_0 : decode cX12_in 0 = .ok (.iload_n 1, 1) := by decide +kernel
theorem dX12_in_1 : decode cX12_in 1 = .ok (.iload_n 2, 1) := by decide +kernel
theorem dX12_in_2 : decode cX12_in 2 = .ok (.if_icmp .lt 12, 3) := by decide +kernel
theorem dX12_in_5 : decode cX12_in 5 = .ok (.iload_n 1, 1) := by decide +kernel
theorem dX12_in_6 : decode cX12_in 6 = .ok (.iload_n 3, 1) := by decide +kernel
theorem dX12_in_7 : decode cX12_in 7 = .ok (.if_icmp .gt 7, 3) := by decide +kernel
theorem dX12_in_10 : decode cX12_in 10 = .ok (.iconst 1, 1) := by decide +kernel
theorem dX12_in_11 : decode cX12_in 11 = .ok (.goto 4, 3) := by decide +kernel
theorem dX12_in_14 : decode cX12_in 14 = .ok (.iconst 0, 1) := by decide +kernel
theorem dX12_in_15 : decode cX12_in 15 = .ok (.ireturn, 1) := by decide +kernel
theorem dX12_min_0 : decode cX12_min 0 = .ok (.iload_n 1, 1) := by decide +kernel
theorem dX12_min_1 : decode cX12_min 1 = .ok (.iload_n 2, 1) := by decide +kernel
theorem dX12_min_2 : decode cX12_min 2 = .ok (.if_icmp .ge 7, 3) := by decide +kernel
theorem dX12_min_5 : decode cX12_min 5 = .ok (.iload_n 1, 1) := by decide +kernel
theorem dX12_min_6 : decode cX12_min 6 = .ok (.goto 4, 3) := by decide +kernel
theorem dX12_min_9 : decode cX12_min 9 = .ok (.iload_n 2, 1) := by decide +kernel
theorem dX12_min_10 : decode cX12_min 10 = .ok (.ireturn, 1) := by decide +kernel
theorem dX12_isLane_0 : decode cX12_isLane 0 = .ok (.aload_n 0, 1) := by decide +kernel
theorem dX12_isLane_1 : decode cX12_isLane 1 = .ok (.iload_n 1, 1) := by decide +kernel
theorem dX12_isLane_2 : decode cX12_isLane 2 = .ok (.iconst 0, 1) := by decide +kernel
theorem dX12_isLane_3 : decode cX12_isLane 3 = .ok (.aload_n 0, 1) := by decide +kernel
theorem dX12_isLane_4 : decode cX12_isLane 4 = .ok (.getfield 1, 3) := by decide +kernel
theorem dX12_isLane_7 : decode cX12_isLane 7 = .ok (.iconst 1, 1) := by decide +kernel
theorem dX12_isLane_8 : decode cX12_isLane 8 = .ok (.isub, 1) := by decide +kernel
theorem dX12_isLane_9 : decode cX12_isLane 9 = .ok (.invokevirtual 7, 3) := by decide +kernel
theorem dX12_isLane_12 : decode cX12_isLane 12 = .ok (.ireturn, 1) := by decide +kernel
theorem dX12_isMinute_0 : decode cX12_isMinute 0 = .ok (.aload_n 0, 1) := by decide +kernel
theorem dX12_isMinute_1 : decode cX12_isMinute 1 = .ok (.iload_n 1, 1) := by decide +kernel
theorem dX12_isMinute_2 : decode cX12_isMinute 2 = .ok (.iconst 0, 1) := by decide +kernel
theorem dX12_isMinute_3 : decode cX12_isMinute 3 = .ok (.bipush 59, 2) := by decide +kernel
theorem dX12_isMinute_5 : decode cX12_isMinute 5 = .ok (.invokevirtual 7, 3) := by decide +kernel
theorem dX12_isMinute_8 : decode cX12_isMinute 8 = .ok (.ireturn, 1) := by decide +kernel
theorem dX12_isNew_0 : decode cX12_isNew 0 = .ok (.aload_n 0, 1) := by decide +kernel
theorem dX12_isNew_1 : decode cX12_isNew 1 = .ok (.iload_n 1, 1) := by decide +kernel
theorem dX12_isNew_2 : decode cX12_isNew 2 = .ok (.iconst 0, 1) := by decide +kernel
theorem dX12_isNew_3 : decode cX12_isNew 3 = .ok (.iconst 5, 1) := by decide +kernel
theorem dX12_isNew_4 : decode cX12_isNew 4 = .ok (.invokevirtual 7, 3) := by decide +kernel
theorem dX12_isNew_7 : decode cX12_isNew 7 = .ok (.ifCond .eq 28, 3) := by decide +kernel
theorem dX12_isNew_10 : decode cX12_isNew 10 = .ok (.aload_n 0, 1) := by decide +kernel
theorem dX12_isNew_11 : decode cX12_isNew 11 = .ok (.iload_n 2, 1) := by decide +kernel
theorem dX12_isNew_12 : decode cX12_isNew 12 = .ok (.iconst 0, 1) := by decide +kernel
theorem dX12_isNew_13 : decode cX12_isNew 13 = .ok (.bipush 20, 2) := by decide +kernel
theorem dX12_isNew_15 : decode cX12_isNew 15 = .ok (.invokevirtual 7, 3) := by decide +kernel
theorem dX12_isNew_18 : decode cX12_isNew 18 = .ok (.ifCond .eq 17, 3) := by decide +kernel
theorem dX12_isNew_21 : decode cX12_isNew 21 = .ok (.aload_n 0, 1) := by decide +kernel
theorem dX12_isNew_22 : decode cX12_isNew 22 = .ok (.iload_n 3, 1) := by decide +kernel
theorem dX12_isNew_23 : decode cX12_isNew 23 = .ok (.iconst 0, 1) := by decide +kernel
theorem dX12_isNew_24 : decode cX12_isNew 24 = .ok (.iconst 1, 1) := by decide +kernel
theorem dX12_isNew_25 : decode cX12_isNew 25 = .ok (.invokevirtual 7, 3) := by decide +kernel
theorem dX12_isNew_28 : decode cX12_isNew 28 = .ok (.ifCond .eq 7, 3) := by decide +kernel
theorem dX12_isNew_31 : decode cX12_isNew 31 = .ok (.iconst 1, 1) := by decide +kernel
theorem dX12_isNew_32 : decode cX12_isNew 32 = .ok (.goto 4, 3) := by decide +kernel
theorem dX12_isNew_35 : decode cX12_isNew 35 = .ok (.iconst 0, 1) := by decide +kernel
theorem dX12_isNew_36 : decode cX12_isNew 36 = .ok (.ireturn, 1) := by decide +kernel
theorem dX12_comesLane_0 : decode cX12_comesLane 0 = .ok (.aload_n 0, 1) := by decide +kernel
theorem dX12_comesLane_1 : decode cX12_comesLane 1 = .ok (.getfield 11, 3) := by decide +kernel
theorem dX12_comesLane_4 : decode cX12_comesLane 4 = .ok (.aload_n 0, 1) := by decide +kernel
theorem dX12_comesLane_5 : decode cX12_comesLane 5 = .ok (.getfield 1, 3) := by decide +kernel
theorem dX12_comesLane_8 : decode cX12_comesLane 8 = .ok (.iload_n 1, 1) := by decide +kernel
theorem dX12_comesLane_9 : decode cX12_comesLane 9 = .ok (.iastore, 1) := by decide +kernel
theorem dX12_comesLane_10 : decode cX12_comesLane 10 = .ok (.aload_n 0, 1) := by decide +kernel
theorem dX12_comesLane_11 : decode cX12_comesLane 11 = .ok (.getfield 15, 3) := by decide +kernel
theorem dX12_comesLane_14 : decode cX12_comesLane 14 = .ok (.aload_n 0, 1) := by decide +kernel
theorem dX12_comesLane_15 : decode cX12_comesLane 15 = .ok (.getfield 1, 3) := by decide +kernel
theorem dX12_comesLane_18 : decode cX12_comesLane 18 = .ok (.iload_n 2, 1) := by decide +kernel
theorem dX12_comesLane_19 : decode cX12_comesLane 19 = .ok (.iastore, 1) := by decide +kernel
theorem dX12_comesLane_20 : decode cX12_comesLane 20 = .ok (.aload_n 0, 1) := by decide +kernel
theorem dX12_comesLane_21 : decode cX12_comesLane 21 = .ok (.getfield 18, 3) := by decide +kernel
theorem dX12_comesLane_24 : decode cX12_comesLane 24 = .ok (.aload_n 0, 1) := by decide +kernel
theorem dX12_comesLane_25 : decode cX12_comesLane 25 = .ok (.getfield 1, 3) := by decide +kernel
theorem dX12_comesLane_28 : decode cX12_comesLane 28 = .ok (.iload_n 3, 1) := by decide +kernel
theorem dX12_comesLane_29 : decode cX12_comesLane 29 = .ok (.iastore, 1) := by decide +kernel
theorem dX12_comesLane_30 : decode cX12_comesLane 30 = .ok (.aload_n 0, 1) := by decide +kernel
theorem dX12_comesLane_31 : decode cX12_comesLane 31 = .ok (.dup, 1) := by decide +kernel
theorem dX12_comesLane_32 : decode cX12_comesLane 32 = .ok (.getfield 1, 3) := by decide +kernel
theorem dX12_comesLane_35 : decode cX12_comesLane 35 = .ok (.iconst 1, 1) := by decide +kernel
theorem dX12_comesLane_36 : decode cX12_comesLane 36 = .ok (.iadd, 1) := by decide +kernel
theorem dX12_comesLane_37 : decode cX12_comesLane 37 = .ok (.putfield 1, 3) := by decide +kernel
theorem dX12_comesLane_40 : decode cX12_comesLane 40 = .ok (.return_, 1) := by decide +kernel
theorem dX12_lane_0 : decode cX12_lane 0 = .ok (.aload_n 0, 1) := by decide +kernel
theorem dX12_lane_1 : decode cX12_lane 1 = .ok (.iload_n 1, 1) := by decide +kernel
theorem dX12_lane_2 : decode cX12_lane 2 = .ok (.iload_n 2, 1) := by decide +kernel
theorem dX12_lane_3 : decode cX12_lane 3 = .ok (.iload_n 3, 1) := by decide +kernel
theorem dX12_lane_4 : decode cX12_lane 4 = .ok (.invokevirtual 21, 3) := by decide +kernel
theorem dX12_lane_7 : decode cX12_lane 7 = .ok (.ifCond .ne 6, 3) := by decide +kernel
theorem dX12_lane_10 : decode cX12_lane 10 = .ok (.bipush (-2), 2) := by decide +kernel
theorem dX12_lane_12 : decode cX12_lane 12 = .ok (.ireturn, 1) := by decide +kernel
theorem dX12_lane_13 : decode cX12_lane 13 = .ok (.aload_n 0, 1) := by decide +kernel
theorem dX12_lane_14 : decode cX12_lane 14 = .ok (.getfield 1, 3) := by decide +kernel
theorem dX12_lane_17 : decode cX12_lane 17 = .ok (.bipush 8, 2) := by decide +kernel
theorem dX12_lane_19 : decode cX12_lane 19 = .ok (.if_icmp .ne 6, 3) := by decide +kernel
theorem dX12_lane_22 : decode cX12_lane 22 = .ok (.bipush (-4), 2) := by decide +kernel
theorem dX12_lane_24 : decode cX12_lane 24 = .ok (.ireturn, 1) := by decide +kernel
theorem dX12_lane_25 : decode cX12_lane 25 = .ok (.aload_n 0, 1) := by decide +kernel
theorem dX12_lane_26 : decode cX12_lane 26 = .ok (.iload_n 1, 1) := by decide +kernel
theorem dX12_lane_27 : decode cX12_lane 27 = .ok (.iload_n 2, 1) := by decide +kernel
theorem dX12_lane_28 : decode cX12_lane 28 = .ok (.iload_n 3, 1) := by decide +kernel
theorem dX12_lane_29 : decode cX12_lane 29 = .ok (.invokevirtual 24, 3) := by decide +kernel
theorem dX12_lane_32 : decode cX12_lane 32 = .ok (.aload_n 0, 1) := by decide +kernel
theorem dX12_lane_33 : decode cX12_lane 33 = .ok (.getfield 1, 3) := by decide +kernel
theorem dX12_lane_36 : decode cX12_lane 36 = .ok (.iconst 1, 1) := by decide +kernel
theorem dX12_lane_37 : decode cX12_lane 37 = .ok (.isub, 1) := by decide +kernel
theorem dX12_lane_38 : decode cX12_lane 38 = .ok (.ireturn, 1) := by decide +kernel
theorem dX12_set_0 : decode cX12_set 0 = .ok (.aload_n 0, 1) := by decide +kernel
theorem dX12_set_1 : decode cX12_set 1 = .ok (.iload_n 1, 1) := by decide +kernel
theorem dX12_set_2 : decode cX12_set 2 = .ok (.iconst 0, 1) := by decide +kernel
theorem dX12_set_3 : decode cX12_set 3 = .ok (.iconst 2, 1) := by decide +kernel
theorem dX12_set_4 : decode cX12_set 4 = .ok (.invokevirtual 7, 3) := by decide +kernel
theorem dX12_set_7 : decode cX12_set 7 = .ok (.ifCond .ne 6, 3) := by decide +kernel
theorem dX12_set_10 : decode cX12_set 10 = .ok (.bipush (-2), 2) := by decide +kernel
theorem dX12_set_12 : decode cX12_set 12 = .ok (.ireturn, 1) := by decide +kernel
theorem dX12_set_13 : decode cX12_set 13 = .ok (.iload_n 1, 1) := by decide +kernel
theorem dX12_set_14 : decode cX12_set 14 = .ok (.iconst 2, 1) := by decide +kernel
theorem dX12_set_15 : decode cX12_set 15 = .ok (.if_icmp .ne 31, 3) := by decide +kernel
theorem dX12_set_18 : decode cX12_set 18 = .ok (.aload_n 0, 1) := by decide +kernel
theorem dX12_set_19 : decode cX12_set 19 = .ok (.iload_n 3, 1) := by decide +kernel
theorem dX12_set_20 : decode cX12_set 20 = .ok (.iconst 0, 1) := by decide +kernel
theorem dX12_set_21 : decode cX12_set 21 = .ok (.bipush 9, 2) := by decide +kernel
theorem dX12_set_23 : decode cX12_set 23 = .ok (.invokevirtual 7, 3) := by decide +kernel
theorem dX12_set_26 : decode cX12_set 26 = .ok (.ifCond .ne 6, 3) := by decide +kernel
theorem dX12_set_29 : decode cX12_set 29 = .ok (.bipush (-2), 2) := by decide +kernel
theorem dX12_set_31 : decode cX12_set 31 = .ok (.ireturn, 1) := by decide +kernel
theorem dX12_set_32 : decode cX12_set 32 = .ok (.aload_n 0, 1) := by decide +kernel
theorem dX12_set_33 : decode cX12_set 33 = .ok (.getfield 28, 3) := by decide +kernel
theorem dX12_set_36 : decode cX12_set 36 = .ok (.istore 4, 2) := by decide +kernel
theorem dX12_set_38 : decode cX12_set 38 = .ok (.aload_n 0, 1) := by decide +kernel
theorem dX12_set_39 : decode cX12_set 39 = .ok (.iload_n 3, 1) := by decide +kernel
theorem dX12_set_40 : decode cX12_set 40 = .ok (.putfield 28, 3) := by decide +kernel
theorem dX12_set_43 : decode cX12_set 43 = .ok (.iload 4, 2) := by decide +kernel
theorem dX12_set_45 : decode cX12_set 45 = .ok (.ireturn, 1) := by decide +kernel
theorem dX12_set_46 : decode cX12_set 46 = .ok (.aload_n 0, 1) := by decide +kernel
theorem dX12_set_47 : decode cX12_set 47 = .ok (.iload_n 2, 1) := by decide +kernel
theorem dX12_set_48 : decode cX12_set 48 = .ok (.iconst 0, 1) := by decide +kernel
theorem dX12_set_49 : decode cX12_set 49 = .ok (.sipush 591, 3) := by decide +kernel
theorem dX12_set_52 : decode cX12_set 52 = .ok (.invokevirtual 7, 3) := by decide +kernel
theorem dX12_set_55 : decode cX12_set 55 = .ok (.ifCond .eq 22, 3) := by decide +kernel
theorem dX12_set_58 : decode cX12_set 58 = .ok (.iload_n 2, 1) := by decide +kernel
theorem dX12_set_59 : decode cX12_set 59 = .ok (.bipush 10, 2) := by decide +kernel
theorem dX12_set_61 : decode cX12_set 61 = .ok (.irem, 1) := by decide +kernel
theorem dX12_set_62 : decode cX12_set 62 = .ok (.iconst 1, 1) := by decide +kernel
theorem dX12_set_63 : decode cX12_set 63 = .ok (.if_icmp .gt 14, 3) := by decide +kernel
theorem dX12_set_66 : decode cX12_set 66 = .ok (.aload_n 0, 1) := by decide +kernel
theorem dX12_set_67 : decode cX12_set 67 = .ok (.iload_n 3, 1) := by decide +kernel
theorem dX12_set_68 : decode cX12_set 68 = .ok (.iconst 0, 1) := by decide +kernel
theorem dX12_set_69 : decode cX12_set 69 = .ok (.bipush 99, 2) := by decide +kernel
theorem dX12_set_71 : decode cX12_set 71 = .ok (.invokevirtual 7, 3) := by decide +kernel
theorem dX12_set_74 : decode cX12_set 74 = .ok (.ifCond .ne 6, 3) := by decide +kernel
theorem dX12_set_77 : decode cX12_set 77 = .ok (.bipush (-2), 2) := by decide +kernel
theorem dX12_set_79 : decode cX12_set 79 = .ok (.ireturn, 1) := by decide +kernel
theorem dX12_set_80 : decode cX12_set 80 = .ok (.bipush 60, 2) := by decide +kernel
theorem dX12_set_82 : decode cX12_set 82 = .ok (.iload_n 2, 1) := by decide +kernel
theorem dX12_set_83 : decode cX12_set 83 = .ok (.bipush 10, 2) := by decide +kernel
theorem dX12_set_85 : decode cX12_set 85 = .ok (.irem, 1) := by decide +kernel
theorem dX12_set_86 : decode cX12_set 86 = .ok (.imul, 1) := by decide +kernel
theorem dX12_set_87 : decode cX12_set 87 = .ok (.iload_n 2, 1) := by decide +kernel
theorem dX12_set_88 : decode cX12_set 88 = .ok (.bipush 10, 2) := by decide +kernel
theorem dX12_set_90 : decode cX12_set 90 = .ok (.idiv, 1) := by decide +kernel
theorem dX12_set_91 : decode cX12_set 91 = .ok (.iadd, 1) := by decide +kernel
theorem dX12_set_92 : decode cX12_set 92 = .ok (.istore 4, 2) := by decide +kernel
theorem dX12_set_94 : decode cX12_set 94 = .ok (.iload_n 1, 1) := by decide +kernel
theorem dX12_set_95 : decode cX12_set 95 = .ok (.ifCond .ne 13, 3) := by decide +kernel
theorem dX12_set_98 : decode cX12_set 98 = .ok (.aload_n 0, 1) := by decide +kernel
theorem dX12_set_99 : decode cX12_set 99 = .ok (.getfield 31, 3) := by decide +kernel
theorem dX12_set_102 : decode cX12_set 102 = .ok (.iload 4, 2) := by decide +kernel
theorem dX12_set_104 : decode cX12_set 104 = .ok (.iaload, 1) := by decide +kernel
theorem dX12_set_105 : decode cX12_set 105 = .ok (.goto 10, 3) := by decide +kernel
theorem dX12_set_108 : decode cX12_set 108 = .ok (.aload_n 0, 1) := by decide +kernel
theorem dX12_set_109 : decode cX12_set 109 = .ok (.getfield 34, 3) := by decide +kernel
theorem dX12_set_112 : decode cX12_set 112 = .ok (.iload 4, 2) := by decide +kernel
theorem dX12_set_114 : decode cX12_set 114 = .ok (.iaload, 1) := by decide +kernel
theorem dX12_set_115 : decode cX12_set 115 = .ok (.istore 5, 2) := by decide +kernel
theorem dX12_set_117 : decode cX12_set 117 = .ok (.iload_n 1, 1) := by decide +kernel
theorem dX12_set_118 : decode cX12_set 118 = .ok (.ifCond .ne 14, 3) := by decide +kernel
theorem dX12_set_121 : decode cX12_set 121 = .ok (.aload_n 0, 1) := by decide +kernel
theorem dX12_set_122 : decode cX12_set 122 = .ok (.getfield 31, 3) := by decide +kernel
theorem dX12_set_125 : decode cX12_set 125 = .ok (.iload 4, 2) := by decide +kernel
theorem dX12_set_127 : decode cX12_set 127 = .ok (.iload_n 3, 1) := by decide +kernel
theorem dX12_set_128 : decode cX12_set 128 = .ok (.iastore, 1) := by decide +kernel
theorem dX12_set_129 : decode cX12_set 129 = .ok (.goto 11, 3) := by decide +kernel
theorem dX12_set_132 : decode cX12_set 132 = .ok (.aload_n 0, 1) := by decide +kernel
theorem dX12_set_133 : decode cX12_set 133 = .ok (.getfield 34, 3) := by decide +kernel
theorem dX12_set_136 : decode cX12_set 136 = .ok (.iload 4, 2) := by decide +kernel
theorem dX12_set_138 : decode cX12_set 138 = .ok (.iload_n 3, 1) := by decide +kernel
theorem dX12_set_139 : decode cX12_set 139 = .ok (.iastore, 1) := by decide +kernel
theorem dX12_set_140 : decode cX12_set 140 = .ok (.iload 5, 2) := by decide +kernel
theorem dX12_set_142 : decode cX12_set 142 = .ok (.ireturn, 1) := by decide +kernel
theorem dX12_come_0 : decode cX12_come 0 = .ok (.aload_n 0, 1) := by decide +kernel
theorem dX12_come_1 : decode cX12_come 1 = .ok (.iload_n 1, 1) := by decide +kernel
theorem dX12_come_2 : decode cX12_come 2 = .ok (.iconst 0, 1) := by decide +kernel
theorem dX12_come_3 : decode cX12_come 3 = .ok (.iconst 1, 1) := by decide +kernel
theorem dX12_come_4 : decode cX12_come 4 = .ok (.invokevirtual 7, 3) := by decide +kernel
theorem dX12_come_7 : decode cX12_come 7 = .ok (.ifCond .eq 11, 3) := by decide +kernel
theorem dX12_come_10 : decode cX12_come 10 = .ok (.aload_n 0, 1) := by decide +kernel
theorem dX12_come_11 : decode cX12_come 11 = .ok (.iload_n 2, 1) := by decide +kernel
theorem dX12_come_12 : decode cX12_come 12 = .ok (.invokevirtual 37, 3) := by decide +kernel
theorem dX12_come_15 : decode cX12_come 15 = .ok (.ifCond .ne 6, 3) := by decide +kernel
theorem dX12_come_18 : decode cX12_come 18 = .ok (.bipush (-2), 2) := by decide +kernel
theorem dX12_come_20 : decode cX12_come 20 = .ok (.ireturn, 1) := by decide +kernel
theorem dX12_come_21 : decode cX12_come 21 = .ok (.aload_n 0, 1) := by decide +kernel
theorem dX12_come_22 : decode cX12_come 22 = .ok (.getfield 41, 3) := by decide +kernel
theorem dX12_come_25 : decode cX12_come 25 = .ok (.iload_n 2, 1) := by decide +kernel
theorem dX12_come_26 : decode cX12_come 26 = .ok (.iaload, 1) := by decide +kernel
theorem dX12_come_27 : decode cX12_come 27 = .ok (.ifCond .ge 6, 3) := by decide +kernel
theorem dX12_come_30 : decode cX12_come 30 = .ok (.bipush (-11), 2) := by decide +kernel
theorem dX12_come_32 : decode cX12_come 32 = .ok (.ireturn, 1) := by decide +kernel
theorem dX12_come_33 : decode cX12_come 33 = .ok (.iconst 0, 1) := by decide +kernel
theorem dX12_come_34 : decode cX12_come 34 = .ok (.istore_n 3, 1) := by decide +kernel
theorem dX12_come_35 : decode cX12_come 35 = .ok (.iload_n 3, 1) := by decide +kernel
theorem dX12_come_36 : decode cX12_come 36 = .ok (.aload_n 0, 1) := by decide +kernel
theorem dX12_come_37 : decode cX12_come 37 = .ok (.getfield 44, 3) := by decide +kernel
theorem dX12_come_40 : decode cX12_come 40 = .ok (.iload_n 2, 1) := by decide +kernel
theorem dX12_come_41 : decode cX12_come 41 = .ok (.iaload, 1) := by decide +kernel
theorem dX12_come_42 : decode cX12_come 42 = .ok (.if_icmp .ge 52, 3) := by decide +kernel
theorem dX12_come_45 : decode cX12_come 45 = .ok (.aload_n 0, 1) := by decide +kernel
theorem dX12_come_46 : decode cX12_come 46 = .ok (.aload_n 0, 1) := by decide +kernel
theorem dX12_come_47 : decode cX12_come 47 = .ok (.getfield 47, 3) := by decide +kernel
theorem dX12_come_50 : decode cX12_come 50 = .ok (.bipush 60, 2) := by decide +kernel
theorem dX12_come_52 : decode cX12_come 52 = .ok (.iload_n 2, 1) := by decide +kernel
theorem dX12_come_53 : decode cX12_come 53 = .ok (.imul, 1) := by decide +kernel
theorem dX12_come_54 : decode cX12_come 54 = .ok (.iload_n 3, 1) := by decide +kernel
theorem dX12_come_55 : decode cX12_come 55 = .ok (.iadd, 1) := by decide +kernel
theorem dX12_come_56 : decode cX12_come 56 = .ok (.iaload, 1) := by decide +kernel
theorem dX12_come_57 : decode cX12_come 57 = .ok (.iconst 0, 1) := by decide +kernel
theorem dX12_come_58 : decode cX12_come 58 = .ok (.bipush 99, 2) := by decide +kernel
theorem dX12_come_60 : decode cX12_come 60 = .ok (.invokevirtual 7, 3) := by decide +kernel
theorem dX12_come_63 : decode cX12_come 63 = .ok (.ifCond .eq 31, 3) := by decide +kernel
theorem dX12_come_66 : decode cX12_come 66 = .ok (.aload_n 0, 1) := by decide +kernel
theorem dX12_come_67 : decode cX12_come 67 = .ok (.getfield 31, 3) := by decide +kernel
theorem dX12_come_70 : decode cX12_come 70 = .ok (.bipush 60, 2) := by decide +kernel
theorem dX12_come_72 : decode cX12_come 72 = .ok (.iload_n 1, 1) := by decide +kernel
theorem dX12_come_73 : decode cX12_come 73 = .ok (.imul, 1) := by decide +kernel
theorem dX12_come_74 : decode cX12_come 74 = .ok (.iload_n 3, 1) := by decide +kernel
theorem dX12_come_75 : decode cX12_come 75 = .ok (.iadd, 1) := by decide +kernel
theorem dX12_come_76 : decode cX12_come 76 = .ok (.aload_n 0, 1) := by decide +kernel
theorem dX12_come_77 : decode cX12_come 77 = .ok (.getfield 47, 3) := by decide +kernel
theorem dX12_come_80 : decode cX12_come 80 = .ok (.bipush 60, 2) := by decide +kernel
theorem dX12_come_82 : decode cX12_come 82 = .ok (.iload_n 2, 1) := by decide +kernel
theorem dX12_come_83 : decode cX12_come 83 = .ok (.imul, 1) := by decide +kernel
theorem dX12_come_84 : decode cX12_come 84 = .ok (.iload_n 3, 1) := by decide +kernel
theorem dX12_come_85 : decode cX12_come 85 = .ok (.iadd, 1) := by decide +kernel
theorem dX12_come_86 : decode cX12_come 86 = .ok (.iaload, 1) := by decide +kernel
theorem dX12_come_87 : decode cX12_come 87 = .ok (.iastore, 1) := by decide +kernel
theorem dX12_come_88 : decode cX12_come 88 = .ok (.iinc 3 1, 3) := by decide +kernel
theorem dX12_come_91 : decode cX12_come 91 = .ok (.goto (-56), 3) := by decide +kernel
theorem dX12_come_94 : decode cX12_come 94 = .ok (.iload_n 3, 1) := by decide +kernel
theorem dX12_come_95 : decode cX12_come 95 = .ok (.ireturn, 1) := by decide +kernel
theorem dX12_stop_0 : decode cX12_stop 0 = .ok (.iload_n 1, 1) := by decide +kernel
theorem dX12_stop_1 : decode cX12_stop 1 = .ok (.iconst (-1), 1) := by decide +kernel
theorem dX12_stop_2 : decode cX12_stop 2 = .ok (.if_icmp .ne 10, 3) := by decide +kernel
theorem dX12_stop_5 : decode cX12_stop 5 = .ok (.aload_n 0, 1) := by decide +kernel
theorem dX12_stop_6 : decode cX12_stop 6 = .ok (.iconst (-1), 1) := by decide +kernel
theorem dX12_stop_7 : decode cX12_stop 7 = .ok (.putfield 50, 3) := by decide +kernel
theorem dX12_stop_10 : decode cX12_stop 10 = .ok (.iconst 1, 1) := by decide +kernel
theorem dX12_stop_11 : decode cX12_stop 11 = .ok (.ireturn, 1) := by decide +kernel
theorem dX12_stop_12 : decode cX12_stop 12 = .ok (.aload_n 0, 1) := by decide +kernel
theorem dX12_stop_13 : decode cX12_stop 13 = .ok (.iload_n 1, 1) := by decide +kernel
theorem dX12_stop_14 : decode cX12_stop 14 = .ok (.invokevirtual 53, 3) := by decide +kernel
theorem dX12_stop_17 : decode cX12_stop 17 = .ok (.ifCond .eq 24, 3) := by decide +kernel
theorem dX12_stop_20 : decode cX12_stop 20 = .ok (.aload_n 0, 1) := by decide +kernel
theorem dX12_stop_21 : decode cX12_stop 21 = .ok (.iload_n 2, 1) := by decide +kernel
theorem dX12_stop_22 : decode cX12_stop 22 = .ok (.invokevirtual 56, 3) := by decide +kernel
theorem dX12_stop_25 : decode cX12_stop 25 = .ok (.ifCond .eq 16, 3) := by decide +kernel
theorem dX12_stop_28 : decode cX12_stop 28 = .ok (.aload_n 0, 1) := by decide +kernel
theorem dX12_stop_29 : decode cX12_stop 29 = .ok (.iload_n 3, 1) := by decide +kernel
theorem dX12_stop_30 : decode cX12_stop 30 = .ok (.invokevirtual 56, 3) := by decide +kernel
theorem dX12_stop_33 : decode cX12_stop 33 = .ok (.ifCond .eq 8, 3) := by decide +kernel
theorem dX12_stop_36 : decode cX12_stop 36 = .ok (.iload_n 3, 1) := by decide +kernel
theorem dX12_stop_37 : decode cX12_stop 37 = .ok (.iload_n 2, 1) := by decide +kernel
theorem dX12_stop_38 : decode cX12_stop 38 = .ok (.if_icmp .ge 6, 3) := by decide +kernel
theorem dX12_stop_41 : decode cX12_stop 41 = .ok (.bipush (-2), 2) := by decide +kernel
theorem dX12_stop_43 : decode cX12_stop 43 = .ok (.ireturn, 1) := by decide +kernel
theorem dX12_stop_44 : decode cX12_stop 44 = .ok (.aload_n 0, 1) := by decide +kernel
theorem dX12_stop_45 : decode cX12_stop 45 = .ok (.iload_n 1, 1) := by decide +kernel
theorem dX12_stop_46 : decode cX12_stop 46 = .ok (.putfield 50, 3) := by decide +kernel
theorem dX12_stop_49 : decode cX12_stop 49 = .ok (.aload_n 0, 1) := by decide +kernel
theorem dX12_stop_50 : decode cX12_stop 50 = .ok (.iload_n 2, 1) := by decide +kernel
theorem dX12_stop_51 : decode cX12_stop 51 = .ok (.putfield 59, 3) := by decide +kernel
theorem dX12_stop_54 : decode cX12_stop 54 = .ok (.aload_n 0, 1) := by decide +kernel
theorem dX12_stop_55 : decode cX12_stop 55 = .ok (.iload_n 3, 1) := by decide +kernel
theorem dX12_stop_56 : decode cX12_stop 56 = .ok (.putfield 62, 3) := by decide +kernel
theorem dX12_stop_59 : decode cX12_stop 59 = .ok (.iconst 1, 1) := by decide +kernel
theorem dX12_stop_60 : decode cX12_stop 60 = .ok (.ireturn, 1) := by decide +kernel
theorem dX12_carries_0 : decode cX12_carries 0 = .ok (.aload_n 0, 1) := by decide +kernel
theorem dX12_carries_1 : decode cX12_carries 1 = .ok (.getfield 11, 3) := by decide +kernel
theorem dX12_carries_4 : decode cX12_carries 4 = .ok (.iload_n 1, 1) := by decide +kernel
theorem dX12_carries_5 : decode cX12_carries 5 = .ok (.iaload, 1) := by decide +kernel
theorem dX12_carries_6 : decode cX12_carries 6 = .ok (.tableswitch 79 1 4 #[30, 79, 39, 50], 30) := by decide +kernel
theorem dX12_carries_36 : decode cX12_carries 36 = .ok (.aload_n 0, 1) := by decide +kernel
theorem dX12_carries_37 : decode cX12_carries 37 = .ok (.getfield 15, 3) := by decide +kernel
theorem dX12_carries_40 : decode cX12_carries 40 = .ok (.iload_n 1, 1) := by decide +kernel
theorem dX12_carries_41 : decode cX12_carries 41 = .ok (.iaload, 1) := by decide +kernel
theorem dX12_carries_42 : decode cX12_carries 42 = .ok (.iconst 2, 1) := by decide +kernel
theorem dX12_carries_43 : decode cX12_carries 43 = .ok (.iadd, 1) := by decide +kernel
theorem dX12_carries_44 : decode cX12_carries 44 = .ok (.ireturn, 1) := by decide +kernel
theorem dX12_carries_45 : decode cX12_carries 45 = .ok (.aload_n 0, 1) := by decide +kernel
theorem dX12_carries_46 : decode cX12_carries 46 = .ok (.getfield 15, 3) := by decide +kernel
theorem dX12_carries_49 : decode cX12_carries 49 = .ok (.iload_n 1, 1) := by decide +kernel
theorem dX12_carries_50 : decode cX12_carries 50 = .ok (.iaload, 1) := by decide +kernel
theorem dX12_carries_51 : decode cX12_carries 51 = .ok (.iconst 3, 1) := by decide +kernel
theorem dX12_carries_52 : decode cX12_carries 52 = .ok (.iadd, 1) := by decide +kernel
theorem dX12_carries_53 : decode cX12_carries 53 = .ok (.iconst 2, 1) := by decide +kernel
theorem dX12_carries_54 : decode cX12_carries 54 = .ok (.idiv, 1) := by decide +kernel
theorem dX12_carries_55 : decode cX12_carries 55 = .ok (.ireturn, 1) := by decide +kernel
theorem dX12_carries_56 : decode cX12_carries 56 = .ok (.iload_n 2, 1) := by decide +kernel
theorem dX12_carries_57 : decode cX12_carries 57 = .ok (.bipush 10, 2) := by decide +kernel
theorem dX12_carries_59 : decode cX12_carries 59 = .ok (.idiv, 1) := by decide +kernel
theorem dX12_carries_60 : decode cX12_carries 60 = .ok (.aload_n 0, 1) := by decide +kernel
theorem dX12_carries_61 : decode cX12_carries 61 = .ok (.getfield 15, 3) := by decide +kernel
theorem dX12_carries_64 : decode cX12_carries 64 = .ok (.iload_n 1, 1) := by decide +kernel
theorem dX12_carries_65 : decode cX12_carries 65 = .ok (.iaload, 1) := by decide +kernel
theorem dX12_carries_66 : decode cX12_carries 66 = .ok (.if_icmp .le 7, 3) := by decide +kernel
theorem dX12_carries_69 : decode cX12_carries 69 = .ok (.iconst 0, 1) := by decide +kernel
theorem dX12_carries_70 : decode cX12_carries 70 = .ok (.goto 14, 3) := by decide +kernel
theorem dX12_carries_73 : decode cX12_carries 73 = .ok (.aload_n 0, 1) := by decide +kernel
theorem dX12_carries_74 : decode cX12_carries 74 = .ok (.getfield 15, 3) := by decide +kernel
theorem dX12_carries_77 : decode cX12_carries 77 = .ok (.iload_n 1, 1) := by decide +kernel
theorem dX12_carries_78 : decode cX12_carries 78 = .ok (.iaload, 1) := by decide +kernel
theorem dX12_carries_79 : decode cX12_carries 79 = .ok (.iload_n 2, 1) := by decide +kernel
theorem dX12_carries_80 : decode cX12_carries 80 = .ok (.bipush 10, 2) := by decide +kernel
theorem dX12_carries_82 : decode cX12_carries 82 = .ok (.idiv, 1) := by decide +kernel
theorem dX12_carries_83 : decode cX12_carries 83 = .ok (.isub, 1) := by decide +kernel
theorem dX12_carries_84 : decode cX12_carries 84 = .ok (.ireturn, 1) := by decide +kernel
theorem dX12_carries_85 : decode cX12_carries 85 = .ok (.aload_n 0, 1) := by decide +kernel
theorem dX12_carries_86 : decode cX12_carries 86 = .ok (.getfield 15, 3) := by decide +kernel
theorem dX12_carries_89 : decode cX12_carries 89 = .ok (.iload_n 1, 1) := by decide +kernel
theorem dX12_carries_90 : decode cX12_carries 90 = .ok (.iaload, 1) := by decide +kernel
theorem dX12_carries_91 : decode cX12_carries 91 = .ok (.ireturn, 1) := by decide +kernel
theorem dX12_mayTurn_0 : decode cX12_mayTurn 0 = .ok (.aload_n 0, 1) := by decide +kernel
theorem dX12_mayTurn_1 : decode cX12_mayTurn 1 = .ok (.getfield 11, 3) := by decide +kernel
theorem dX12_mayTurn_4 : decode cX12_mayTurn 4 = .ok (.iload_n 1, 1) := by decide +kernel
theorem dX12_mayTurn_5 : decode cX12_mayTurn 5 = .ok (.iaload, 1) := by decide +kernel
theorem dX12_mayTurn_6 : decode cX12_mayTurn 6 = .ok (.iconst 5, 1) := by decide +kernel
theorem dX12_mayTurn_7 : decode cX12_mayTurn 7 = .ok (.if_icmp .eq 23, 3) := by decide +kernel
theorem dX12_mayTurn_10 : decode cX12_mayTurn 10 = .ok (.aload_n 0, 1) := by decide +kernel
theorem dX12_mayTurn_11 : decode cX12_mayTurn 11 = .ok (.getfield 11, 3) := by decide +kernel
theorem dX12_mayTurn_14 : decode cX12_mayTurn 14 = .ok (.iload_n 1, 1) := by decide +kernel
theorem dX12_mayTurn_15 : decode cX12_mayTurn 15 = .ok (.iaload, 1) := by decide +kernel
theorem dX12_mayTurn_16 : decode cX12_mayTurn 16 = .ok (.iconst 4, 1) := by decide +kernel
theorem dX12_mayTurn_17 : decode cX12_mayTurn 17 = .ok (.if_icmp .ne 9, 3) := by decide +kernel
theorem dX12_mayTurn_20 : decode cX12_mayTurn 20 = .ok (.iload_n 2, 1) := by decide +kernel
theorem dX12_mayTurn_21 : decode cX12_mayTurn 21 = .ok (.iconst 5, 1) := by decide +kernel
theorem dX12_mayTurn_22 : decode cX12_mayTurn 22 = .ok (.irem, 1) := by decide +kernel
theorem dX12_mayTurn_23 : decode cX12_mayTurn 23 = .ok (.ifCond .ne 7, 3) := by decide +kernel
theorem dX12_mayTurn_26 : decode cX12_mayTurn 26 = .ok (.iconst 1, 1) := by decide +kernel
theorem dX12_mayTurn_27 : decode cX12_mayTurn 27 = .ok (.goto 4, 3) := by decide +kernel
theorem dX12_mayTurn_30 : decode cX12_mayTurn 30 = .ok (.iconst 0, 1) := by decide +kernel
theorem dX12_mayTurn_31 : decode cX12_mayTurn 31 = .ok (.ireturn, 1) := by decide +kernel
theorem dX12_restsOf_0 : decode cX12_restsOf 0 = .ok (.aload_n 0, 1) := by decide +kernel
theorem dX12_restsOf_1 : decode cX12_restsOf 1 = .ok (.getfield 11, 3) := by decide +kernel
theorem dX12_restsOf_4 : decode cX12_restsOf 4 = .ok (.iload_n 1, 1) := by decide +kernel
theorem dX12_restsOf_5 : decode cX12_restsOf 5 = .ok (.iaload, 1) := by decide +kernel
theorem dX12_restsOf_6 : decode cX12_restsOf 6 = .ok (.iconst 1, 1) := by decide +kernel
theorem dX12_restsOf_7 : decode cX12_restsOf 7 = .ok (.if_icmp .eq 13, 3) := by decide +kernel
theorem dX12_restsOf_10 : decode cX12_restsOf 10 = .ok (.aload_n 0, 1) := by decide +kernel
theorem dX12_restsOf_11 : decode cX12_restsOf 11 = .ok (.getfield 11, 3) := by decide +kernel
theorem dX12_restsOf_14 : decode cX12_restsOf 14 = .ok (.iload_n 1, 1) := by decide +kernel
theorem dX12_restsOf_15 : decode cX12_restsOf 15 = .ok (.iaload, 1) := by decide +kernel
theorem dX12_restsOf_16 : decode cX12_restsOf 16 = .ok (.iconst 3, 1) := by decide +kernel
theorem dX12_restsOf_17 : decode cX12_restsOf 17 = .ok (.if_icmp .ne 12, 3) := by decide +kernel
theorem dX12_restsOf_20 : decode cX12_restsOf 20 = .ok (.aload_n 0, 1) := by decide +kernel
theorem dX12_restsOf_21 : decode cX12_restsOf 21 = .ok (.getfield 28, 3) := by decide +kernel
theorem dX12_restsOf_24 : decode cX12_restsOf 24 = .ok (.iconst 1, 1) := by decide +kernel
theorem dX12_restsOf_25 : decode cX12_restsOf 25 = .ok (.iadd, 1) := by decide +kernel
theorem dX12_restsOf_26 : decode cX12_restsOf 26 = .ok (.goto 26, 3) := by decide +kernel
theorem dX12_restsOf_29 : decode cX12_restsOf 29 = .ok (.aload_n 0, 1) := by decide +kernel
theorem dX12_restsOf_30 : decode cX12_restsOf 30 = .ok (.getfield 11, 3) := by decide +kernel
theorem dX12_restsOf_33 : decode cX12_restsOf 33 = .ok (.iload_n 1, 1) := by decide +kernel
theorem dX12_restsOf_34 : decode cX12_restsOf 34 = .ok (.iaload, 1) := by decide +kernel
theorem dX12_restsOf_35 : decode cX12_restsOf 35 = .ok (.iconst 4, 1) := by decide +kernel
theorem dX12_restsOf_36 : decode cX12_restsOf 36 = .ok (.if_icmp .ne 12, 3) := by decide +kernel
theorem dX12_restsOf_39 : decode cX12_restsOf 39 = .ok (.iconst 2, 1) := by decide +kernel
theorem dX12_restsOf_40 : decode cX12_restsOf 40 = .ok (.aload_n 0, 1) := by decide +kernel
theorem dX12_restsOf_41 : decode cX12_restsOf 41 = .ok (.getfield 28, 3) := by decide +kernel
theorem dX12_restsOf_44 : decode cX12_restsOf 44 = .ok (.imul, 1) := by decide +kernel
theorem dX12_restsOf_45 : decode cX12_restsOf 45 = .ok (.goto 7, 3) := by decide +kernel
theorem dX12_restsOf_48 : decode cX12_restsOf 48 = .ok (.aload_n 0, 1) := by decide +kernel
theorem dX12_restsOf_49 : decode cX12_restsOf 49 = .ok (.getfield 28, 3) := by decide +kernel
theorem dX12_restsOf_52 : decode cX12_restsOf 52 = .ok (.ireturn, 1) := by decide +kernel
theorem dX12_told_0 : decode cX12_told 0 = .ok (.aload_n 0, 1) := by decide +kernel
theorem dX12_told_1 : decode cX12_told 1 = .ok (.iload_n 1, 1) := by decide +kernel
theorem dX12_told_2 : decode cX12_told 2 = .ok (.invokevirtual 53, 3) := by decide +kernel
theorem dX12_told_5 : decode cX12_told 5 = .ok (.ifCond .ne 6, 3) := by decide +kernel
theorem dX12_told_8 : decode cX12_told 8 = .ok (.bipush (-2), 2) := by decide +kernel
theorem dX12_told_10 : decode cX12_told 10 = .ok (.ireturn, 1) := by decide +kernel
theorem dX12_told_11 : decode cX12_told 11 = .ok (.iload_n 2, 1) := by decide +kernel
theorem dX12_told_12 : decode cX12_told 12 = .ok (.tableswitch 119 0 5 #[40, 47, 54, 61, 67, 95], 40) := by decide +kernel
theorem dX12_told_52 : decode cX12_told 52 = .ok (.aload_n 0, 1) := by decide +kernel
theorem dX12_told_53 : decode cX12_told 53 = .ok (.getfield 11, 3) := by decide +kernel
theorem dX12_told_56 : decode cX12_told 56 = .ok (.iload_n 1, 1) := by decide +kernel
theorem dX12_told_57 : decode cX12_told 57 = .ok (.iaload, 1) := by decide +kernel
theorem dX12_told_58 : decode cX12_told 58 = .ok (.ireturn, 1) := by decide +kernel
theorem dX12_told_59 : decode cX12_told 59 = .ok (.aload_n 0, 1) := by decide +kernel
theorem dX12_told_60 : decode cX12_told 60 = .ok (.getfield 15, 3) := by decide +kernel
theorem dX12_told_63 : decode cX12_told 63 = .ok (.iload_n 1, 1) := by decide +kernel
theorem dX12_told_64 : decode cX12_told 64 = .ok (.iaload, 1) := by decide +kernel
theorem dX12_told_65 : decode cX12_told 65 = .ok (.ireturn, 1) := by decide +kernel
theorem dX12_told_66 : decode cX12_told 66 = .ok (.aload_n 0, 1) := by decide +kernel
theorem dX12_told_67 : decode cX12_told 67 = .ok (.getfield 18, 3) := by decide +kernel
theorem dX12_told_70 : decode cX12_told 70 = .ok (.iload_n 1, 1) := by decide +kernel
theorem dX12_told_71 : decode cX12_told 71 = .ok (.iaload, 1) := by decide +kernel
theorem dX12_told_72 : decode cX12_told 72 = .ok (.ireturn, 1) := by decide +kernel
theorem dX12_told_73 : decode cX12_told 73 = .ok (.aload_n 0, 1) := by decide +kernel
theorem dX12_told_74 : decode cX12_told 74 = .ok (.iload_n 1, 1) := by decide +kernel
theorem dX12_told_75 : decode cX12_told 75 = .ok (.invokevirtual 65, 3) := by decide +kernel
theorem dX12_told_78 : decode cX12_told 78 = .ok (.ireturn, 1) := by decide +kernel
theorem dX12_told_79 : decode cX12_told 79 = .ok (.aload_n 0, 1) := by decide +kernel
theorem dX12_told_80 : decode cX12_told 80 = .ok (.iload_n 3, 1) := by decide +kernel
theorem dX12_told_81 : decode cX12_told 81 = .ok (.invokevirtual 56, 3) := by decide +kernel
theorem dX12_told_84 : decode cX12_told 84 = .ok (.ifCond .ne 8, 3) := by decide +kernel
theorem dX12_told_87 : decode cX12_told 87 = .ok (.bipush (-2), 2) := by decide +kernel
theorem dX12_told_89 : decode cX12_told 89 = .ok (.goto 17, 3) := by decide +kernel
theorem dX12_told_92 : decode cX12_told 92 = .ok (.aload_n 0, 1) := by decide +kernel
