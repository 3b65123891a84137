/-! decode rows, as printed -/
theorem dX0_init_0 : decode cX0_init 0 = .ok (.aload_n 0, 1) := by decide +kernel
theorem dX0_init_1 : decode cX0_init 1 = .ok (.iload_n 1, 1) := by decide +kernel
theorem dX0_init_2 : decode cX0_init 2 = .ok (.iload_n 2, 1) := by decide +kernel
theorem dX0_init_3 : decode cX0_init 3 = .ok (.iload_n 3, 1) := by decide +kernel
theorem dX0_init_4 : decode cX0_init 4 = .ok (.invokespecial 1, 3) := by decide +kernel
theorem dX0_init_7 : decode cX0_init 7 = .ok (.return_, 1) := by decide +kernel
theorem dX0_takesBusesAlone_0 : decode cX0_takesBusesAlone 0 = .ok (.iconst 1, 1) := by decide +kernel
theorem dX0_takesBusesAlone_1 : decode cX0_takesBusesAlone 1 = .ok (.ireturn, 1) := by decide +kernel
theorem dX1_init_0 : decode cX1_init 0 = .ok (.aload_n 0, 1) := by decide +kernel
theorem dX1_init_1 : decode cX1_init 1 = .ok (.invokespecial 3, 3) := by decide +kernel
theorem dX1_init_4 : decode cX1_init 4 = .ok (.aload_n 0, 1) := by decide +kernel
theorem dX1_init_5 : decode cX1_init 5 = .ok (.iconst 0, 1) := by decide +kernel
theorem dX1_init_6 : decode cX1_init 6 = .ok (.anewarray 9, 3) := by decide +kernel
theorem dX1_init_9 : decode cX1_init 9 = .ok (.putfield 11, 3) := by decide +kernel
theorem dX1_init_12 : decode cX1_init 12 = .ok (.aload_n 0, 1) := by decide +kernel
theorem dX1_init_13 : decode cX1_init 13 = .ok (.new 17, 3) := by decide +kernel
theorem dX1_init_16 : decode cX1_init 16 = .ok (.dup, 1) := by decide +kernel
theorem dX1_init_17 : decode cX1_init 17 = .ok (.invokespecial 19, 3) := by decide +kernel
theorem dX1_init_20 : decode cX1_init 20 = .ok (.putfield 20, 3) := by decide +kernel
theorem dX1_init_23 : decode cX1_init 23 = .ok (.aload_n 0, 1) := by decide +kernel
theorem dX1_init_24 : decode cX1_init 24 = .ok (.new 24, 3) := by decide +kernel
theorem dX1_init_27 : decode cX1_init 27 = .ok (.dup, 1) := by decide +kernel
theorem dX1_init_28 : decode cX1_init 28 = .ok (.invokespecial 26, 3) := by decide +kernel
theorem dX1_init_31 : decode cX1_init 31 = .ok (.putfield 27, 3) := by decide +kernel
theorem dX1_init_34 : decode cX1_init 34 = .ok (.aload_n 0, 1) := by decide +kernel
theorem dX1_init_35 : decode cX1_init 35 = .ok (.bipush 60, 2) := by decide +kernel
theorem dX1_init_37 : decode cX1_init 37 = .ok (.newarray .int, 2) := by decide +kernel
theorem dX1_init_39 : decode cX1_init 39 = .ok (.putfield 31, 3) := by decide +kernel
theorem dX1_init_42 : decode cX1_init 42 = .ok (.aload_n 0, 1) := by decide +kernel
theorem dX1_init_43 : decode cX1_init 43 = .ok (.bipush 8, 2) := by decide +kernel
theorem dX1_init_45 : decode cX1_init 45 = .ok (.newarray .int, 2) := by decide +kernel
theorem dX1_init_47 : decode cX1_init 47 = .ok (.putfield 35, 3) := by decide +kernel
theorem dX1_init_50 : decode cX1_init 50 = .ok (.aload_n 0, 1) := by decide +kernel
theorem dX1_init_51 : decode cX1_init 51 = .ok (.bipush 8, 2) := by decide +kernel
theorem dX1_init_53 : decode cX1_init 53 = .ok (.newarray .int, 2) := by decide +kernel
theorem dX1_init_55 : decode cX1_init 55 = .ok (.putfield 38, 3) := by decide +kernel
theorem dX1_init_58 : decode cX1_init 58 = .ok (.aload_n 0, 1) := by decide +kernel
theorem dX1_init_59 : decode cX1_init 59 = .ok (.iconst 2, 1) := by decide +kernel
theorem dX1_init_60 : decode cX1_init 60 = .ok (.newarray .int, 2) := by decide +kernel
theorem dX1_init_62 : decode cX1_init 62 = .ok (.putfield 41, 3) := by decide +kernel
theorem dX1_init_65 : decode cX1_init 65 = .ok (.aload_n 0, 1) := by decide +kernel
theorem dX1_init_66 : decode cX1_init 66 = .ok (.iconst 2, 1) := by decide +kernel
theorem dX1_init_67 : decode cX1_init 67 = .ok (.newarray .int, 2) := by decide +kernel
theorem dX1_init_69 : decode cX1_init 69 = .ok (.putfield 44, 3) := by decide +kernel
theorem dX1_init_72 : decode cX1_init 72 = .ok (.aload_n 0, 1) := by decide +kernel
theorem dX1_init_73 : decode cX1_init 73 = .ok (.iconst 2, 1) := by decide +kernel
theorem dX1_init_74 : decode cX1_init 74 = .ok (.newarray .int, 2) := by decide +kernel
theorem dX1_init_76 : decode cX1_init 76 = .ok (.putfield 47, 3) := by decide +kernel
theorem dX1_init_79 : decode cX1_init 79 = .ok (.aload_n 0, 1) := by decide +kernel
theorem dX1_init_80 : decode cX1_init 80 = .ok (.bipush 6, 2) := by decide +kernel
theorem dX1_init_82 : decode cX1_init 82 = .ok (.newarray .int, 2) := by decide +kernel
theorem dX1_init_84 : decode cX1_init 84 = .ok (.putfield 52, 3) := by decide +kernel
theorem dX1_init_87 : decode cX1_init 87 = .ok (.return_, 1) := by decide +kernel
theorem dX1_ready_0 : decode cX1_ready 0 = .ok (.aload_n 0, 1) := by decide +kernel
theorem dX1_ready_1 : decode cX1_ready 1 = .ok (.aload_n 1, 1) := by decide +kernel
theorem dX1_ready_2 : decode cX1_ready 2 = .ok (.putfield 11, 3) := by decide +kernel
theorem dX1_ready_5 : decode cX1_ready 5 = .ok (.aload_n 0, 1) := by decide +kernel
theorem dX1_ready_6 : decode cX1_ready 6 = .ok (.iload_n 2, 1) := by decide +kernel
theorem dX1_ready_7 : decode cX1_ready 7 = .ok (.aload_n 1, 1) := by decide +kernel
theorem dX1_ready_8 : decode cX1_ready 8 = .ok (.arraylength, 1) := by decide +kernel
theorem dX1_ready_9 : decode cX1_ready 9 = .ok (.invokestatic 55, 3) := by decide +kernel
theorem dX1_ready_12 : decode cX1_ready 12 = .ok (.putfield 61, 3) := by decide +kernel
theorem dX1_ready_15 : decode cX1_ready 15 = .ok (.aload_n 0, 1) := by decide +kernel
theorem dX1_ready_16 : decode cX1_ready 16 = .ok (.aload_n 3, 1) := by decide +kernel
theorem dX1_ready_17 : decode cX1_ready 17 = .ok (.putfield 20, 3) := by decide +kernel
theorem dX1_ready_20 : decode cX1_ready 20 = .ok (.aload_n 0, 1) := by decide +kernel
theorem dX1_ready_21 : decode cX1_ready 21 = .ok (.aload 4, 2) := by decide +kernel
theorem dX1_ready_23 : decode cX1_ready 23 = .ok (.putfield 27, 3) := by decide +kernel
theorem dX1_ready_26 : decode cX1_ready 26 = .ok (.aload_n 0, 1) := by decide +kernel
theorem dX1_ready_27 : decode cX1_ready 27 = .ok (.getfield 31, 3) := by decide +kernel
theorem dX1_ready_30 : decode cX1_ready 30 = .ok (.iconst (-1), 1) := by decide +kernel
theorem dX1_ready_31 : decode cX1_ready 31 = .ok (.invokestatic 65, 3) := by decide +kernel
theorem dX1_ready_34 : decode cX1_ready 34 = .ok (.aload_n 0, 1) := by decide +kernel
theorem dX1_ready_35 : decode cX1_ready 35 = .ok (.iconst 0, 1) := by decide +kernel
theorem dX1_ready_36 : decode cX1_ready 36 = .ok (.putfield 71, 3) := by decide +kernel
theorem dX1_ready_39 : decode cX1_ready 39 = .ok (.aload_n 0, 1) := by decide +kernel
theorem dX1_ready_40 : decode cX1_ready 40 = .ok (.iconst (-1), 1) := by decide +kernel
theorem dX1_ready_41 : decode cX1_ready 41 = .ok (.putfield 75, 3) := by decide +kernel
theorem dX1_ready_44 : decode cX1_ready 44 = .ok (.aload_n 0, 1) := by decide +kernel
theorem dX1_ready_45 : decode cX1_ready 45 = .ok (.iconst 0, 1) := by decide +kernel
theorem dX1_ready_46 : decode cX1_ready 46 = .ok (.putfield 78, 3) := by decide +kernel
theorem dX1_ready_49 : decode cX1_ready 49 = .ok (.aload_n 0, 1) := by decide +kernel
theorem dX1_ready_50 : decode cX1_ready 50 = .ok (.iconst 0, 1) := by decide +kernel
theorem dX1_ready_51 : decode cX1_ready 51 = .ok (.putfield 81, 3) := by decide +kernel
theorem dX1_ready_54 : decode cX1_ready 54 = .ok (.return_, 1) := by decide +kernel
theorem dX1_tellPlan_0 : decode cX1_tellPlan 0 = .ok (.iconst 0, 1) := by decide +kernel
theorem dX1_tellPlan_1 : decode cX1_tellPlan 1 = .ok (.istore_n 2, 1) := by decide +kernel
theorem dX1_tellPlan_2 : decode cX1_tellPlan 2 = .ok (.iload_n 2, 1) := by decide +kernel
theorem dX1_tellPlan_3 : decode cX1_tellPlan 3 = .ok (.bipush 60, 2) := by decide +kernel
theorem dX1_tellPlan_5 : decode cX1_tellPlan 5 = .ok (.if_icmp .ge 32, 3) := by decide +kernel
theorem dX1_tellPlan_8 : decode cX1_tellPlan 8 = .ok (.aload_n 0, 1) := by decide +kernel
theorem dX1_tellPlan_9 : decode cX1_tellPlan 9 = .ok (.getfield 31, 3) := by decide +kernel
theorem dX1_tellPlan_12 : decode cX1_tellPlan 12 = .ok (.iload_n 2, 1) := by decide +kernel
theorem dX1_tellPlan_13 : decode cX1_tellPlan 13 = .ok (.aload_n 1, 1) := by decide +kernel
theorem dX1_tellPlan_14 : decode cX1_tellPlan 14 = .ok (.iload_n 2, 1) := by decide +kernel
theorem dX1_tellPlan_15 : decode cX1_tellPlan 15 = .ok (.invokevirtual 84, 3) := by decide +kernel
theorem dX1_tellPlan_18 : decode cX1_tellPlan 18 = .ok (.ifCond .eq 11, 3) := by decide +kernel
theorem dX1_tellPlan_21 : decode cX1_tellPlan 21 = .ok (.aload_n 1, 1) := by decide +kernel
theorem dX1_tellPlan_22 : decode cX1_tellPlan 22 = .ok (.iload_n 2, 1) := by decide +kernel
theorem dX1_tellPlan_23 : decode cX1_tellPlan 23 = .ok (.invokevirtual 90, 3) := by decide +kernel
theorem dX1_tellPlan_26 : decode cX1_tellPlan 26 = .ok (.goto 4, 3) := by decide +kernel
theorem dX1_tellPlan_29 : decode cX1_tellPlan 29 = .ok (.iconst (-1), 1) := by decide +kernel
theorem dX1_tellPlan_30 : decode cX1_tellPlan 30 = .ok (.iastore, 1) := by decide +kernel
theorem dX1_tellPlan_31 : decode cX1_tellPlan 31 = .ok (.iinc 2 1, 3) := by decide +kernel
theorem dX1_tellPlan_34 : decode cX1_tellPlan 34 = .ok (.goto (-32), 3) := by decide +kernel
theorem dX1_tellPlan_37 : decode cX1_tellPlan 37 = .ok (.return_, 1) := by decide +kernel
theorem dX1_pass_0 : decode cX1_pass 0 = .ok (.aload_n 0, 1) := by decide +kernel
theorem dX1_pass_1 : decode cX1_pass 1 = .ok (.invokevirtual 94, 3) := by decide +kernel
theorem dX1_pass_4 : decode cX1_pass 4 = .ok (.iconst 0, 1) := by decide +kernel
theorem dX1_pass_5 : decode cX1_pass 5 = .ok (.istore 4, 2) := by decide +kernel
theorem dX1_pass_7 : decode cX1_pass 7 = .ok (.iload 4, 2) := by decide +kernel
theorem dX1_pass_9 : decode cX1_pass 9 = .ok (.iload_n 1, 1) := by decide +kernel
theorem dX1_pass_10 : decode cX1_pass 10 = .ok (.if_icmp .ge 112, 3) := by decide +kernel
theorem dX1_pass_13 : decode cX1_pass 13 = .ok (.iload 4, 2) := by decide +kernel
theorem dX1_pass_15 : decode cX1_pass 15 = .ok (.bipush 60, 2) := by decide +kernel
theorem dX1_pass_17 : decode cX1_pass 17 = .ok (.if_icmp .ge 105, 3) := by decide +kernel
theorem dX1_pass_20 : decode cX1_pass 20 = .ok (.aload_n 0, 1) := by decide +kernel
theorem dX1_pass_21 : decode cX1_pass 21 = .ok (.getfield 97, 3) := by decide +kernel
theorem dX1_pass_24 : decode cX1_pass 24 = .ok (.lload_n 2, 1) := by decide +kernel
theorem dX1_pass_25 : decode cX1_pass 25 = .ok (.lcmp, 1) := by decide +kernel
theorem dX1_pass_26 : decode cX1_pass 26 = .ok (.ifCond .ge 96, 3) := by decide +kernel
theorem dX1_pass_29 : decode cX1_pass 29 = .ok (.aload_n 0, 1) := by decide +kernel
theorem dX1_pass_30 : decode cX1_pass 30 = .ok (.iconst 0, 1) := by decide +kernel
theorem dX1_pass_31 : decode cX1_pass 31 = .ok (.iload 4, 2) := by decide +kernel
theorem dX1_pass_33 : decode cX1_pass 33 = .ok (.invokevirtual 101, 3) := by decide +kernel
theorem dX1_pass_36 : decode cX1_pass 36 = .ok (.aload_n 0, 1) := by decide +kernel
theorem dX1_pass_37 : decode cX1_pass 37 = .ok (.iconst 1, 1) := by decide +kernel
theorem dX1_pass_38 : decode cX1_pass 38 = .ok (.iload 4, 2) := by decide +kernel
theorem dX1_pass_40 : decode cX1_pass 40 = .ok (.invokevirtual 101, 3) := by decide +kernel
theorem dX1_pass_43 : decode cX1_pass 43 = .ok (.aload_n 0, 1) := by decide +kernel
theorem dX1_pass_44 : decode cX1_pass 44 = .ok (.aload_n 0, 1) := by decide +kernel
theorem dX1_pass_45 : decode cX1_pass 45 = .ok (.getfield 71, 3) := by decide +kernel
theorem dX1_pass_48 : decode cX1_pass 48 = .ok (.ifCond .eq 12, 3) := by decide +kernel
theorem dX1_pass_51 : decode cX1_pass 51 = .ok (.aload_n 0, 1) := by decide +kernel
theorem dX1_pass_52 : decode cX1_pass 52 = .ok (.iload 4, 2) := by decide +kernel
theorem dX1_pass_54 : decode cX1_pass 54 = .ok (.invokevirtual 105, 3) := by decide +kernel
theorem dX1_pass_57 : decode cX1_pass 57 = .ok (.goto 10, 3) := by decide +kernel
theorem dX1_pass_60 : decode cX1_pass 60 = .ok (.aload_n 0, 1) := by decide +kernel
theorem dX1_pass_61 : decode cX1_pass 61 = .ok (.getfield 31, 3) := by decide +kernel
theorem dX1_pass_64 : decode cX1_pass 64 = .ok (.iload 4, 2) := by decide +kernel
theorem dX1_pass_66 : decode cX1_pass 66 = .ok (.iaload, 1) := by decide +kernel
theorem dX1_pass_67 : decode cX1_pass 67 = .ok (.iload 4, 2) := by decide +kernel
theorem dX1_pass_69 : decode cX1_pass 69 = .ok (.invokevirtual 108, 3) := by decide +kernel
theorem dX1_pass_72 : decode cX1_pass 72 = .ok (.aload_n 0, 1) := by decide +kernel
theorem dX1_pass_73 : decode cX1_pass 73 = .ok (.iload 4, 2) := by decide +kernel
theorem dX1_pass_75 : decode cX1_pass 75 = .ok (.invokevirtual 111, 3) := by decide +kernel
theorem dX1_pass_78 : decode cX1_pass 78 = .ok (.aload_n 0, 1) := by decide +kernel
theorem dX1_pass_79 : decode cX1_pass 79 = .ok (.aload_n 0, 1) := by decide +kernel
theorem dX1_pass_80 : decode cX1_pass 80 = .ok (.getfield 78, 3) := by decide +kernel
theorem dX1_pass_83 : decode cX1_pass 83 = .ok (.aload_n 0, 1) := by decide +kernel
theorem dX1_pass_84 : decode cX1_pass 84 = .ok (.getfield 81, 3) := by decide +kernel
theorem dX1_pass_87 : decode cX1_pass 87 = .ok (.iconst 0, 1) := by decide +kernel
theorem dX1_pass_88 : decode cX1_pass 88 = .ok (.invokevirtual 115, 3) := by decide +kernel
theorem dX1_pass_91 : decode cX1_pass 91 = .ok (.aload_n 0, 1) := by decide +kernel
theorem dX1_pass_92 : decode cX1_pass 92 = .ok (.dup, 1) := by decide +kernel
theorem dX1_pass_93 : decode cX1_pass 93 = .ok (.getfield 97, 3) := by decide +kernel
theorem dX1_pass_96 : decode cX1_pass 96 = .ok (.aload_n 0, 1) := by decide +kernel
theorem dX1_pass_97 : decode cX1_pass 97 = .ok (.iconst 0, 1) := by decide +kernel
theorem dX1_pass_98 : decode cX1_pass 98 = .ok (.iload 4, 2) := by decide +kernel
theorem dX1_pass_100 : decode cX1_pass 100 = .ok (.invokevirtual 119, 3) := by decide +kernel
theorem dX1_pass_103 : decode cX1_pass 103 = .ok (.aload_n 0, 1) := by decide +kernel
theorem dX1_pass_104 : decode cX1_pass 104 = .ok (.iconst 1, 1) := by decide +kernel
theorem dX1_pass_105 : decode cX1_pass 105 = .ok (.iload 4, 2) := by decide +kernel
theorem dX1_pass_107 : decode cX1_pass 107 = .ok (.invokevirtual 119, 3) := by decide +kernel
theorem dX1_pass_110 : decode cX1_pass 110 = .ok (.iadd, 1) := by decide +kernel
theorem dX1_pass_111 : decode cX1_pass 111 = .ok (.i2l, 1) := by decide +kernel
theorem dX1_pass_112 : decode cX1_pass 112 = .ok (.ladd, 1) := by decide +kernel
theorem dX1_pass_113 : decode cX1_pass 113 = .ok (.putfield 97, 3) := by decide +kernel
theorem dX1_pass_116 : decode cX1_pass 116 = .ok (.iinc 4 1, 3) := by decide +kernel
theorem dX1_pass_119 : decode cX1_pass 119 = .ok (.goto (-112), 3) := by decide +kernel
theorem dX1_pass_122 : decode cX1_pass 122 = .ok (.return_, 1) := by decide +kernel
theorem dX1_firstFaultOfPlan_0 : decode cX1_firstFaultOfPlan 0 = .ok (.aload_n 0, 1) := by decide +kernel
theorem dX1_firstFaultOfPlan_1 : decode cX1_firstFaultOfPlan 1 = .ok (.invokevirtual 94, 3) := by decide +kernel
theorem dX1_firstFaultOfPlan_4 : decode cX1_firstFaultOfPlan 4 = .ok (.iconst 0, 1) := by decide +kernel
theorem dX1_firstFaultOfPlan_5 : decode cX1_firstFaultOfPlan 5 = .ok (.istore_n 1, 1) := by decide +kernel
theorem dX1_firstFaultOfPlan_6 : decode cX1_firstFaultOfPlan 6 = .ok (.iload_n 1, 1) := by decide +kernel
theorem dX1_firstFaultOfPlan_7 : decode cX1_firstFaultOfPlan 7 = .ok (.bipush 60, 2) := by decide +kernel
theorem dX1_firstFaultOfPlan_9 : decode cX1_firstFaultOfPlan 9 = .ok (.if_icmp .ge 51, 3) := by decide +kernel
theorem dX1_firstFaultOfPlan_12 : decode cX1_firstFaultOfPlan 12 = .ok (.aload_n 0, 1) := by decide +kernel
theorem dX1_firstFaultOfPlan_13 : decode cX1_firstFaultOfPlan 13 = .ok (.getfield 31, 3) := by decide +kernel
theorem dX1_firstFaultOfPlan_16 : decode cX1_firstFaultOfPlan 16 = .ok (.iload_n 1, 1) := by decide +kernel
theorem dX1_firstFaultOfPlan_17 : decode cX1_firstFaultOfPlan 17 = .ok (.iaload, 1) := by decide +kernel
theorem dX1_firstFaultOfPlan_18 : decode cX1_firstFaultOfPlan 18 = .ok (.iconst (-1), 1) := by decide +kernel
theorem dX1_firstFaultOfPlan_19 : decode cX1_firstFaultOfPlan 19 = .ok (.if_icmp .eq 19, 3) := by decide +kernel
theorem dX1_firstFaultOfPlan_22 : decode cX1_firstFaultOfPlan 22 = .ok (.aload_n 0, 1) := by decide +kernel
theorem dX1_firstFaultOfPlan_23 : decode cX1_firstFaultOfPlan 23 = .ok (.aload_n 0, 1) := by decide +kernel
theorem dX1_firstFaultOfPlan_24 : decode cX1_firstFaultOfPlan 24 = .ok (.getfield 31, 3) := by decide +kernel
theorem dX1_firstFaultOfPlan_27 : decode cX1_firstFaultOfPlan 27 = .ok (.iload_n 1, 1) := by decide +kernel
theorem dX1_firstFaultOfPlan_28 : decode cX1_firstFaultOfPlan 28 = .ok (.iaload, 1) := by decide +kernel
theorem dX1_firstFaultOfPlan_29 : decode cX1_firstFaultOfPlan 29 = .ok (.iload_n 1, 1) := by decide +kernel
theorem dX1_firstFaultOfPlan_30 : decode cX1_firstFaultOfPlan 30 = .ok (.invokevirtual 122, 3) := by decide +kernel
theorem dX1_firstFaultOfPlan_33 : decode cX1_firstFaultOfPlan 33 = .ok (.ifCond .ne 5, 3) := by decide +kernel
theorem dX1_firstFaultOfPlan_36 : decode cX1_firstFaultOfPlan 36 = .ok (.iload_n 1, 1) := by decide +kernel
theorem dX1_firstFaultOfPlan_37 : decode cX1_firstFaultOfPlan 37 = .ok (.ireturn, 1) := by decide +kernel
theorem dX1_firstFaultOfPlan_38 : decode cX1_firstFaultOfPlan 38 = .ok (.aload_n 0, 1) := by decide +kernel
theorem dX1_firstFaultOfPlan_39 : decode cX1_firstFaultOfPlan 39 = .ok (.aload_n 0, 1) := by decide +kernel
theorem dX1_firstFaultOfPlan_40 : decode cX1_firstFaultOfPlan 40 = .ok (.getfield 31, 3) := by decide +kernel
theorem dX1_firstFaultOfPlan_43 : decode cX1_firstFaultOfPlan 43 = .ok (.iload_n 1, 1) := by decide +kernel
theorem dX1_firstFaultOfPlan_44 : decode cX1_firstFaultOfPlan 44 = .ok (.iaload, 1) := by decide +kernel
theorem dX1_firstFaultOfPlan_45 : decode cX1_firstFaultOfPlan 45 = .ok (.iload_n 1, 1) := by decide +kernel
theorem dX1_firstFaultOfPlan_46 : decode cX1_firstFaultOfPlan 46 = .ok (.invokevirtual 108, 3) := by decide +kernel
theorem dX1_firstFaultOfPlan_49 : decode cX1_firstFaultOfPlan 49 = .ok (.aload_n 0, 1) := by decide +kernel
theorem dX1_firstFaultOfPlan_50 : decode cX1_firstFaultOfPlan 50 = .ok (.iload_n 1, 1) := by decide +kernel
theorem dX1_firstFaultOfPlan_51 : decode cX1_firstFaultOfPlan 51 = .ok (.invokevirtual 111, 3) := by decide +kernel
theorem dX1_firstFaultOfPlan_54 : decode cX1_firstFaultOfPlan 54 = .ok (.iinc 1 1, 3) := by decide +kernel
theorem dX1_firstFaultOfPlan_57 : decode cX1_firstFaultOfPlan 57 = .ok (.goto (-51), 3) := by decide +kernel
theorem dX1_firstFaultOfPlan_60 : decode cX1_firstFaultOfPlan 60 = .ok (.iconst (-1), 1) := by decide +kernel
theorem dX1_firstFaultOfPlan_61 : decode cX1_firstFaultOfPlan 61 = .ok (.ireturn, 1) := by decide +kernel
theorem dX1_waysAsBits_0 : decode cX1_waysAsBits 0 = .ok (.iconst 0, 1) := by decide +kernel
theorem dX1_waysAsBits_1 : decode cX1_waysAsBits 1 = .ok (.istore_n 1, 1) := by decide +kernel
theorem dX1_waysAsBits_2 : decode cX1_waysAsBits 2 = .ok (.iconst 0, 1) := by decide +kernel
theorem dX1_waysAsBits_3 : decode cX1_waysAsBits 3 = .ok (.istore_n 2, 1) := by decide +kernel
theorem dX1_waysAsBits_4 : decode cX1_waysAsBits 4 = .ok (.iload_n 2, 1) := by decide +kernel
theorem dX1_waysAsBits_5 : decode cX1_waysAsBits 5 = .ok (.aload_n 0, 1) := by decide +kernel
theorem dX1_waysAsBits_6 : decode cX1_waysAsBits 6 = .ok (.getfield 61, 3) := by decide +kernel
theorem dX1_waysAsBits_9 : decode cX1_waysAsBits 9 = .ok (.if_icmp .ge 20, 3) := by decide +kernel
theorem dX1_waysAsBits_12 : decode cX1_waysAsBits 12 = .ok (.iload_n 1, 1) := by decide +kernel
theorem dX1_waysAsBits_13 : decode cX1_waysAsBits 13 = .ok (.aload_n 0, 1) := by decide +kernel
theorem dX1_waysAsBits_14 : decode cX1_waysAsBits 14 = .ok (.getfield 35, 3) := by decide +kernel
theorem dX1_waysAsBits_17 : decode cX1_waysAsBits 17 = .ok (.iload_n 2, 1) := by decide +kernel
theorem dX1_waysAsBits_18 : decode cX1_waysAsBits 18 = .ok (.iaload, 1) := by decide +kernel
theorem dX1_waysAsBits_19 : decode cX1_waysAsBits 19 = .ok (.iload_n 2, 1) := by decide +kernel
theorem dX1_waysAsBits_20 : decode cX1_waysAsBits 20 = .ok (.ishl, 1) := by decide +kernel
theorem dX1_waysAsBits_21 : decode cX1_waysAsBits 21 = .ok (.ior, 1) := by decide +kernel
theorem dX1_waysAsBits_22 : decode cX1_waysAsBits 22 = .ok (.istore_n 1, 1) := by decide +kernel
theorem dX1_waysAsBits_23 : decode cX1_waysAsBits 23 = .ok (.iinc 2 1, 3) := by decide +kernel
theorem dX1_waysAsBits_26 : decode cX1_waysAsBits 26 = .ok (.goto (-22), 3) := by decide +kernel
theorem dX1_waysAsBits_29 : decode cX1_waysAsBits 29 = .ok (.iload_n 1, 1) := by decide +kernel
theorem dX1_waysAsBits_30 : decode cX1_waysAsBits 30 = .ok (.ireturn, 1) := by decide +kernel
theorem dX1_begin_0 : decode cX1_begin 0 = .ok (.aload_n 0, 1) := by decide +kernel
theorem dX1_begin_1 : decode cX1_begin 1 = .ok (.getfield 38, 3) := by decide +kernel
theorem dX1_begin_4 : decode cX1_begin 4 = .ok (.iconst 0, 1) := by decide +kernel
theorem dX1_begin_5 : decode cX1_begin 5 = .ok (.invokestatic 65, 3) := by decide +kernel
theorem dX1_begin_8 : decode cX1_begin 8 = .ok (.aload_n 0, 1) := by decide +kernel
theorem dX1_begin_9 : decode cX1_begin 9 = .ok (.getfield 41, 3) := by decide +kernel
theorem dX1_begin_12 : decode cX1_begin 12 = .ok (.iconst 0, 1) := by decide +kernel
theorem dX1_begin_13 : decode cX1_begin 13 = .ok (.invokestatic 65, 3) := by decide +kernel
theorem dX1_begin_16 : decode cX1_begin 16 = .ok (.aload_n 0, 1) := by decide +kernel
theorem dX1_begin_17 : decode cX1_begin 17 = .ok (.getfield 44, 3) := by decide +kernel
theorem dX1_begin_20 : decode cX1_begin 20 = .ok (.iconst 0, 1) := by decide +kernel
theorem dX1_begin_21 : decode cX1_begin 21 = .ok (.invokestatic 65, 3) := by decide +kernel
theorem dX1_begin_24 : decode cX1_begin 24 = .ok (.aload_n 0, 1) := by decide +kernel
theorem dX1_begin_25 : decode cX1_begin 25 = .ok (.getfield 47, 3) := by decide +kernel
theorem dX1_begin_28 : decode cX1_begin 28 = .ok (.iconst 0, 1) := by decide +kernel
theorem dX1_begin_29 : decode cX1_begin 29 = .ok (.invokestatic 65, 3) := by decide +kernel
theorem dX1_begin_32 : decode cX1_begin 32 = .ok (.iconst 0, 1) := by decide +kernel
theorem dX1_begin_33 : decode cX1_begin 33 = .ok (.istore_n 1, 1) := by decide +kernel
theorem dX1_begin_34 : decode cX1_begin 34 = .ok (.iload_n 1, 1) := by decide +kernel
theorem dX1_begin_35 : decode cX1_begin 35 = .ok (.aload_n 0, 1) := by decide +kernel
theorem dX1_begin_36 : decode cX1_begin 36 = .ok (.getfield 61, 3) := by decide +kernel
theorem dX1_begin_39 : decode cX1_begin 39 = .ok (.if_icmp .ge 39, 3) := by decide +kernel
theorem dX1_begin_42 : decode cX1_begin 42 = .ok (.aload_n 0, 1) := by decide +kernel
theorem dX1_begin_43 : decode cX1_begin 43 = .ok (.getfield 35, 3) := by decide +kernel
theorem dX1_begin_46 : decode cX1_begin 46 = .ok (.iload_n 1, 1) := by decide +kernel
theorem dX1_begin_47 : decode cX1_begin 47 = .ok (.aload_n 0, 1) := by decide +kernel
theorem dX1_begin_48 : decode cX1_begin 48 = .ok (.getfield 11, 3) := by decide +kernel
theorem dX1_begin_51 : decode cX1_begin 51 = .ok (.iload_n 1, 1) := by decide +kernel
theorem dX1_begin_52 : decode cX1_begin 52 = .ok (.aaload, 1) := by decide +kernel
theorem dX1_begin_53 : decode cX1_begin 53 = .ok (.getfield 126, 3) := by decide +kernel
theorem dX1_begin_56 : decode cX1_begin 56 = .ok (.iastore, 1) := by decide +kernel
theorem dX1_begin_57 : decode cX1_begin 57 = .ok (.aload_n 0, 1) := by decide +kernel
theorem dX1_begin_58 : decode cX1_begin 58 = .ok (.getfield 47, 3) := by decide +kernel
theorem dX1_begin_61 : decode cX1_begin 61 = .ok (.aload_n 0, 1) := by decide +kernel
theorem dX1_begin_62 : decode cX1_begin 62 = .ok (.getfield 35, 3) := by decide +kernel
theorem dX1_begin_65 : decode cX1_begin 65 = .ok (.iload_n 1, 1) := by decide +kernel
theorem dX1_begin_66 : decode cX1_begin 66 = .ok (.iaload, 1) := by decide +kernel
theorem dX1_begin_67 : decode cX1_begin 67 = .ok (.dup2, 1) := by decide +kernel
theorem dX1_begin_68 : decode cX1_begin 68 = .ok (.iaload, 1) := by decide +kernel
theorem dX1_begin_69 : decode cX1_begin 69 = .ok (.iconst 1, 1) := by decide +kernel
theorem dX1_begin_70 : decode cX1_begin 70 = .ok (.iadd, 1) := by decide +kernel
theorem dX1_begin_71 : decode cX1_begin 71 = .ok (.iastore, 1) := by decide +kernel
theorem dX1_begin_72 : decode cX1_begin 72 = .ok (.iinc 1 1, 3) := by decide +kernel
theorem dX1_begin_75 : decode cX1_begin 75 = .ok (.goto (-41), 3) := by decide +kernel
theorem dX1_begin_78 : decode cX1_begin 78 = .ok (.aload_n 0, 1) := by decide +kernel
theorem dX1_begin_79 : decode cX1_begin 79 = .ok (.lconst 0, 1) := by decide +kernel
theorem dX1_begin_80 : decode cX1_begin 80 = .ok (.putfield 97, 3) := by decide +kernel
theorem dX1_begin_83 : decode cX1_begin 83 = .ok (.aload_n 0, 1) := by decide +kernel
theorem dX1_begin_84 : decode cX1_begin 84 = .ok (.iconst 0, 1) := by decide +kernel
theorem dX1_begin_85 : decode cX1_begin 85 = .ok (.putfield 129, 3) := by decide +kernel
theorem dX1_begin_88 : decode cX1_begin 88 = .ok (.aload_n 0, 1) := by decide +kernel
theorem dX1_begin_89 : decode cX1_begin 89 = .ok (.iconst 0, 1) := by decide +kernel
theorem dX1_begin_90 : decode cX1_begin 90 = .ok (.putfield 132, 3) := by decide +kernel
theorem dX1_begin_93 : decode cX1_begin 93 = .ok (.return_, 1) := by decide +kernel
theorem dX1_arrive_0 : decode cX1_arrive 0 = .ok (.iload_n 1, 1) := by decide +kernel
theorem dX1_arrive_1 : decode cX1_arrive 1 = .ok (.iload_n 2, 1) := by decide +kernel
theorem dX1_arrive_2 : decode cX1_arrive 2 = .ok (.invokestatic 135, 3) := by decide +kernel
theorem dX1_arrive_5 : decode cX1_arrive 5 = .ok (.istore_n 3, 1) := by decide +kernel
theorem dX1_arrive_6 : decode cX1_arrive 6 = .ok (.aload_n 0, 1) := by decide +kernel
theorem dX1_arrive_7 : decode cX1_arrive 7 = .ok (.iconst 2, 1) := by decide +kernel
theorem dX1_arrive_8 : decode cX1_arrive 8 = .ok (.iload_n 1, 1) := by decide +kernel
theorem dX1_arrive_9 : decode cX1_arrive 9 = .ok (.iload_n 2, 1) := by decide +kernel
theorem dX1_arrive_10 : decode cX1_arrive 10 = .ok (.invokevirtual 138, 3) := by decide +kernel
theorem dX1_arrive_13 : decode cX1_arrive 13 = .ok (.bipush (-99), 2) := by decide +kernel
theorem dX1_arrive_15 : decode cX1_arrive 15 = .ok (.bipush 99, 2) := by decide +kernel
theorem dX1_arrive_17 : decode cX1_arrive 17 = .ok (.invokestatic 142, 3) := by decide +kernel
theorem dX1_arrive_20 : decode cX1_arrive 20 = .ok (.istore 4, 2) := by decide +kernel
theorem dX1_arrive_22 : decode cX1_arrive 22 = .ok (.iconst 0, 1) := by decide +kernel
theorem dX1_arrive_23 : decode cX1_arrive 23 = .ok (.aload_n 0, 1) := by decide +kernel
theorem dX1_arrive_24 : decode cX1_arrive 24 = .ok (.getfield 20, 3) := by decide +kernel
theorem dX1_arrive_27 : decode cX1_arrive 27 = .ok (.getfield 145, 3) := by decide +kernel
theorem dX1_arrive_30 : decode cX1_arrive 30 = .ok (.iload_n 3, 1) := by decide +kernel
theorem dX1_arrive_31 : decode cX1_arrive 31 = .ok (.iaload, 1) := by decide +kernel
theorem dX1_arrive_32 : decode cX1_arrive 32 = .ok (.iload 4, 2) := by decide +kernel
theorem dX1_arrive_34 : decode cX1_arrive 34 = .ok (.iadd, 1) := by decide +kernel
theorem dX1_arrive_35 : decode cX1_arrive 35 = .ok (.invokestatic 148, 3) := by decide +kernel
theorem dX1_arrive_38 : decode cX1_arrive 38 = .ok (.istore 5, 2) := by decide +kernel
theorem dX1_arrive_40 : decode cX1_arrive 40 = .ok (.aload_n 0, 1) := by decide +kernel
theorem dX1_arrive_41 : decode cX1_arrive 41 = .ok (.getfield 41, 3) := by decide +kernel
theorem dX1_arrive_44 : decode cX1_arrive 44 = .ok (.iload_n 1, 1) := by decide +kernel
theorem dX1_arrive_45 : decode cX1_arrive 45 = .ok (.dup2, 1) := by decide +kernel
theorem dX1_arrive_46 : decode cX1_arrive 46 = .ok (.iaload, 1) := by decide +kernel
theorem dX1_arrive_47 : decode cX1_arrive 47 = .ok (.iload 5, 2) := by decide +kernel
theorem dX1_arrive_49 : decode cX1_arrive 49 = .ok (.iadd, 1) := by decide +kernel
theorem dX1_arrive_50 : decode cX1_arrive 50 = .ok (.iastore, 1) := by decide +kernel
theorem dX1_arrive_51 : decode cX1_arrive 51 = .ok (.aload_n 0, 1) := by decide +kernel
theorem dX1_arrive_52 : decode cX1_arrive 52 = .ok (.getfield 44, 3) := by decide +kernel
theorem dX1_arrive_55 : decode cX1_arrive 55 = .ok (.iload_n 1, 1) := by decide +kernel
theorem dX1_arrive_56 : decode cX1_arrive 56 = .ok (.dup2, 1) := by decide +kernel
theorem dX1_arrive_57 : decode cX1_arrive 57 = .ok (.iaload, 1) := by decide +kernel
theorem dX1_arrive_58 : decode cX1_arrive 58 = .ok (.iload 5, 2) := by decide +kernel
theorem dX1_arrive_60 : decode cX1_arrive 60 = .ok (.aload_n 0, 1) := by decide +kernel
theorem dX1_arrive_61 : decode cX1_arrive 61 = .ok (.getfield 20, 3) := by decide +kernel
theorem dX1_arrive_64 : decode cX1_arrive 64 = .ok (.getfield 151, 3) := by decide +kernel
theorem dX1_arrive_67 : decode cX1_arrive 67 = .ok (.iload_n 3, 1) := by decide +kernel
theorem dX1_arrive_68 : decode cX1_arrive 68 = .ok (.iaload, 1) := by decide +kernel
theorem dX1_arrive_69 : decode cX1_arrive 69 = .ok (.invokestatic 55, 3) := by decide +kernel
theorem dX1_arrive_72 : decode cX1_arrive 72 = .ok (.iadd, 1) := by decide +kernel
theorem dX1_arrive_73 : decode cX1_arrive 73 = .ok (.iastore, 1) := by decide +kernel
theorem dX1_arrive_74 : decode cX1_arrive 74 = .ok (.return_, 1) := by decide +kernel
theorem dX1_turn_0 : decode cX1_turn 0 = .ok (.aload_n 0, 1) := by decide +kernel
theorem dX1_turn_1 : decode cX1_turn 1 = .ok (.iload_n 1, 1) := by decide +kernel
theorem dX1_turn_2 : decode cX1_turn 2 = .ok (.iload_n 2, 1) := by decide +kernel
theorem dX1_turn_3 : decode cX1_turn 3 = .ok (.invokevirtual 122, 3) := by decide +kernel
theorem dX1_turn_6 : decode cX1_turn 6 = .ok (.ifCond .ne 4, 3) := by decide +kernel
theorem dX1_turn_9 : decode cX1_turn 9 = .ok (.return_, 1) := by decide +kernel
theorem dX1_turn_10 : decode cX1_turn 10 = .ok (.aload_n 0, 1) := by decide +kernel
theorem dX1_turn_11 : decode cX1_turn 11 = .ok (.getfield 47, 3) := by decide +kernel
theorem dX1_turn_14 : decode cX1_turn 14 = .ok (.aload_n 0, 1) := by decide +kernel
theorem dX1_turn_15 : decode cX1_turn 15 = .ok (.getfield 35, 3) := by decide +kernel
theorem dX1_turn_18 : decode cX1_turn 18 = .ok (.iload_n 1, 1) := by decide +kernel
theorem dX1_turn_19 : decode cX1_turn 19 = .ok (.iaload, 1) := by decide +kernel
theorem dX1_turn_20 : decode cX1_turn 20 = .ok (.dup2, 1) := by decide +kernel
theorem dX1_turn_21 : decode cX1_turn 21 = .ok (.iaload, 1) := by decide +kernel
theorem dX1_turn_22 : decode cX1_turn 22 = .ok (.iconst 1, 1) := by decide +kernel
theorem dX1_turn_23 : decode cX1_turn 23 = .ok (.isub, 1) := by decide +kernel
theorem dX1_turn_24 : decode cX1_turn 24 = .ok (.iastore, 1) := by decide +kernel
theorem dX1_turn_25 : decode cX1_turn 25 = .ok (.aload_n 0, 1) := by decide +kernel
theorem dX1_turn_26 : decode cX1_turn 26 = .ok (.getfield 35, 3) := by decide +kernel
theorem dX1_turn_29 : decode cX1_turn 29 = .ok (.iload_n 1, 1) := by decide +kernel
theorem dX1_turn_30 : decode cX1_turn 30 = .ok (.iconst 1, 1) := by decide +kernel
theorem dX1_turn_31 : decode cX1_turn 31 = .ok (.aload_n 0, 1) := by decide +kernel
theorem dX1_turn_32 : decode cX1_turn 32 = .ok (.getfield 35, 3) := by decide +kernel
theorem dX1_turn_35 : decode cX1_turn 35 = .ok (.iload_n 1, 1) := by decide +kernel
theorem dX1_turn_36 : decode cX1_turn 36 = .ok (.iaload, 1) := by decide +kernel
theorem dX1_turn_37 : decode cX1_turn 37 = .ok (.isub, 1) := by decide +kernel
theorem dX1_turn_38 : decode cX1_turn 38 = .ok (.iastore, 1) := by decide +kernel
theorem dX1_turn_39 : decode cX1_turn 39 = .ok (.aload_n 0, 1) := by decide +kernel
theorem dX1_turn_40 : decode cX1_turn 40 = .ok (.getfield 47, 3) := by decide +kernel
theorem dX1_turn_43 : decode cX1_turn 43 = .ok (.aload_n 0, 1) := by decide +kernel
theorem dX1_turn_44 : decode cX1_turn 44 = .ok (.getfield 35, 3) := by decide +kernel
theorem dX1_turn_47 : decode cX1_turn 47 = .ok (.iload_n 1, 1) := by decide +kernel
theorem dX1_turn_48 : decode cX1_turn 48 = .ok (.iaload, 1) := by decide +kernel
theorem dX1_turn_49 : decode cX1_turn 49 = .ok (.dup2, 1) := by decide +kernel
theorem dX1_turn_50 : decode cX1_turn 50 = .ok (.iaload, 1) := by decide +kernel
theorem dX1_turn_51 : decode cX1_turn 51 = .ok (.iconst 1, 1) := by decide +kernel
theorem dX1_turn_52 : decode cX1_turn 52 = .ok (.iadd, 1) := by decide +kernel
theorem dX1_turn_53 : decode cX1_turn 53 = .ok (.iastore, 1) := by decide +kernel
theorem dX1_turn_54 : decode cX1_turn 54 = .ok (.aload_n 0, 1) := by decide +kernel
theorem dX1_turn_55 : decode cX1_turn 55 = .ok (.getfield 38, 3) := by decide +kernel
theorem dX1_turn_58 : decode cX1_turn 58 = .ok (.iload_n 1, 1) := by decide +kernel
theorem dX1_turn_59 : decode cX1_turn 59 = .ok (.aload_n 0, 1) := by decide +kernel
theorem dX1_turn_60 : decode cX1_turn 60 = .ok (.getfield 11, 3) := by decide +kernel
theorem dX1_turn_63 : decode cX1_turn 63 = .ok (.iload_n 1, 1) := by decide +kernel
theorem dX1_turn_64 : decode cX1_turn 64 = .ok (.aaload, 1) := by decide +kernel
theorem dX1_turn_65 : decode cX1_turn 65 = .ok (.aload_n 0, 1) := by decide +kernel
theorem dX1_turn_66 : decode cX1_turn 66 = .ok (.getfield 20, 3) := by decide +kernel
theorem dX1_turn_69 : decode cX1_turn 69 = .ok (.getfield 152, 3) := by decide +kernel
theorem dX1_turn_72 : decode cX1_turn 72 = .ok (.invokevirtual 155, 3) := by decide +kernel
theorem dX1_turn_75 : decode cX1_turn 75 = .ok (.iastore, 1) := by decide +kernel
theorem dX1_turn_76 : decode cX1_turn 76 = .ok (.aload_n 0, 1) := by decide +kernel
theorem dX1_turn_77 : decode cX1_turn 77 = .ok (.dup, 1) := by decide +kernel
theorem dX1_turn_78 : decode cX1_turn 78 = .ok (.getfield 129, 3) := by decide +kernel
theorem dX1_turn_81 : decode cX1_turn 81 = .ok (.iconst 1, 1) := by decide +kernel
theorem dX1_turn_82 : decode cX1_turn 82 = .ok (.iadd, 1) := by decide +kernel
theorem dX1_turn_83 : decode cX1_turn 83 = .ok (.putfield 129, 3) := by decide +kernel
theorem dX1_turn_86 : decode cX1_turn 86 = .ok (.return_, 1) := by decide +kernel
theorem dX1_laneByRule_0 : decode cX1_laneByRule 0 = .ok (.aload_n 0, 1) := by decide +kernel
theorem dX1_laneByRule_1 : decode cX1_laneByRule 1 = .ok (.iconst 0, 1) := by decide +kernel
theorem dX1_laneByRule_2 : decode cX1_laneByRule 2 = .ok (.iconst 0, 1) := by decide +kernel
theorem dX1_laneByRule_3 : decode cX1_laneByRule 3 = .ok (.iload_n 1, 1) := by decide +kernel
theorem dX1_laneByRule_4 : decode cX1_laneByRule 4 = .ok (.invokevirtual 138, 3) := by decide +kernel
theorem dX1_laneByRule_7 : decode cX1_laneByRule 7 = .ok (.istore_n 2, 1) := by decide +kernel
theorem dX1_laneByRule_8 : decode cX1_laneByRule 8 = .ok (.aload_n 0, 1) := by decide +kernel
theorem dX1_laneByRule_9 : decode cX1_laneByRule 9 = .ok (.iconst 0, 1) := by decide +kernel
theorem dX1_laneByRule_10 : decode cX1_laneByRule 10 = .ok (.iconst 1, 1) := by decide +kernel
theorem dX1_laneByRule_11 : decode cX1_laneByRule 11 = .ok (.iload_n 1, 1) := by decide +kernel
theorem dX1_laneByRule_12 : decode cX1_laneByRule 12 = .ok (.invokevirtual 138, 3) := by decide +kernel
theorem dX1_laneByRule_15 : decode cX1_laneByRule 15 = .ok (.istore_n 3, 1) := by decide +kernel
theorem dX1_laneByRule_16 : decode cX1_laneByRule 16 = .ok (.iload_n 3, 1) := by decide +kernel
theorem dX1_laneByRule_17 : decode cX1_laneByRule 17 = .ok (.iload_n 2, 1) := by decide +kernel
theorem dX1_laneByRule_18 : decode cX1_laneByRule 18 = .ok (.if_icmp .le 7, 3) := by decide +kernel
theorem dX1_laneByRule_21 : decode cX1_laneByRule 21 = .ok (.iconst 1, 1) := by decide +kernel
theorem dX1_laneByRule_22 : decode cX1_laneByRule 22 = .ok (.goto 4, 3) := by decide +kernel
theorem dX1_laneByRule_25 : decode cX1_laneByRule 25 = .ok (.iconst 0, 1) := by decide +kernel
theorem dX1_laneByRule_26 : decode cX1_laneByRule 26 = .ok (.istore 4, 2) := by decide +kernel
theorem dX1_laneByRule_28 : decode cX1_laneByRule 28 = .ok (.iload_n 2, 1) := by decide +kernel
theorem dX1_laneByRule_29 : decode cX1_laneByRule 29 = .ok (.iload_n 3, 1) := by decide +kernel
theorem dX1_laneByRule_30 : decode cX1_laneByRule 30 = .ok (.invokestatic 148, 3) := by decide +kernel
theorem dX1_laneByRule_33 : decode cX1_laneByRule 33 = .ok (.ifCond .le 16, 3) := by decide +kernel
theorem dX1_laneByRule_36 : decode cX1_laneByRule 36 = .ok (.aload_n 0, 1) := by decide +kernel
theorem dX1_laneByRule_37 : decode cX1_laneByRule 37 = .ok (.getfield 47, 3) := by decide +kernel
theorem dX1_laneByRule_40 : decode cX1_laneByRule 40 = .ok (.iconst 1, 1) := by decide +kernel
theorem dX1_laneByRule_41 : decode cX1_laneByRule 41 = .ok (.iload 4, 2) := by decide +kernel
theorem dX1_laneByRule_43 : decode cX1_laneByRule 43 = .ok (.isub, 1) := by decide +kernel
theorem dX1_laneByRule_44 : decode cX1_laneByRule 44 = .ok (.iaload, 1) := by decide +kernel
theorem dX1_laneByRule_45 : decode cX1_laneByRule 45 = .ok (.iconst 2, 1) := by decide +kernel
theorem dX1_laneByRule_46 : decode cX1_laneByRule 46 = .ok (.if_icmp .ge 5, 3) := by decide +kernel
theorem dX1_laneByRule_49 : decode cX1_laneByRule 49 = .ok (.iconst (-1), 1) := by decide +kernel
theorem dX1_laneByRule_50 : decode cX1_laneByRule 50 = .ok (.ireturn, 1) := by decide +kernel
theorem dX1_laneByRule_51 : decode cX1_laneByRule 51 = .ok (.aload_n 0, 1) := by decide +kernel
theorem dX1_laneByRule_52 : decode cX1_laneByRule 52 = .ok (.getfield 61, 3) := by decide +kernel
theorem dX1_laneByRule_55 : decode cX1_laneByRule 55 = .ok (.iconst 1, 1) := by decide +kernel
theorem dX1_laneByRule_56 : decode cX1_laneByRule 56 = .ok (.isub, 1) := by decide +kernel
theorem dX1_laneByRule_57 : decode cX1_laneByRule 57 = .ok (.istore 5, 2) := by decide +kernel
theorem dX1_laneByRule_59 : decode cX1_laneByRule 59 = .ok (.iload 5, 2) := by decide +kernel
theorem dX1_laneByRule_61 : decode cX1_laneByRule 61 = .ok (.ifCond .lt 34, 3) := by decide +kernel
theorem dX1_laneByRule_64 : decode cX1_laneByRule 64 = .ok (.aload_n 0, 1) := by decide +kernel
theorem dX1_laneByRule_65 : decode cX1_laneByRule 65 = .ok (.getfield 35, 3) := by decide +kernel
theorem dX1_laneByRule_68 : decode cX1_laneByRule 68 = .ok (.iload 5, 2) := by decide +kernel
theorem dX1_laneByRule_70 : decode cX1_laneByRule 70 = .ok (.iaload, 1) := by decide +kernel
theorem dX1_laneByRule_71 : decode cX1_laneByRule 71 = .ok (.iload 4, 2) := by decide +kernel
theorem dX1_laneByRule_73 : decode cX1_laneByRule 73 = .ok (.if_icmp .eq 16, 3) := by decide +kernel
theorem dX1_laneByRule_76 : decode cX1_laneByRule 76 = .ok (.aload_n 0, 1) := by decide +kernel
theorem dX1_laneByRule_77 : decode cX1_laneByRule 77 = .ok (.iload 5, 2) := by decide +kernel
theorem dX1_laneByRule_79 : decode cX1_laneByRule 79 = .ok (.iload_n 1, 1) := by decide +kernel
theorem dX1_laneByRule_80 : decode cX1_laneByRule 80 = .ok (.invokevirtual 122, 3) := by decide +kernel
theorem dX1_laneByRule_83 : decode cX1_laneByRule 83 = .ok (.ifCond .eq 6, 3) := by decide +kernel
theorem dX1_laneByRule_86 : decode cX1_laneByRule 86 = .ok (.iload 5, 2) := by decide +kernel
theorem dX1_laneByRule_88 : decode cX1_laneByRule 88 = .ok (.ireturn, 1) := by decide +kernel
theorem dX1_laneByRule_89 : decode cX1_laneByRule 89 = .ok (.iinc 5 (-1), 3) := by decide +kernel
theorem dX1_laneByRule_92 : decode cX1_laneByRule 92 = .ok (.goto (-33), 3) := by decide +kernel
theorem dX1_laneByRule_95 : decode cX1_laneByRule 95 = .ok (.iconst (-1), 1) := by decide +kernel
theorem dX1_laneByRule_96 : decode cX1_laneByRule 96 = .ok (.ireturn, 1) := by decide +kernel
theorem dX1_canTurn_0 : decode cX1_canTurn 0 = .ok (.iload_n 1, 1) := by decide +kernel
theorem dX1_canTurn_1 : decode cX1_canTurn 1 = .ok (.iconst 0, 1) := by decide +kernel
theorem dX1_canTurn_2 : decode cX1_canTurn 2 = .ok (.aload_n 0, 1) := by decide +kernel
theorem dX1_canTurn_3 : decode cX1_canTurn 3 = .ok (.getfield 61, 3) := by decide +kernel
theorem dX1_canTurn_6 : decode cX1_canTurn 6 = .ok (.iconst 1, 1) := by decide +kernel
theorem dX1_canTurn_7 : decode cX1_canTurn 7 = .ok (.isub, 1) := by decide +kernel
theorem dX1_canTurn_8 : decode cX1_canTurn 8 = .ok (.invokestatic 157, 3) := by decide +kernel
theorem dX1_canTurn_11 : decode cX1_canTurn 11 = .ok (.ifCond .eq 29, 3) := by decide +kernel
theorem dX1_canTurn_14 : decode cX1_canTurn 14 = .ok (.aload_n 0, 1) := by decide +kernel
theorem dX1_canTurn_15 : decode cX1_canTurn 15 = .ok (.getfield 38, 3) := by decide +kernel
theorem dX1_canTurn_18 : decode cX1_canTurn 18 = .ok (.iload_n 1, 1) := by decide +kernel
theorem dX1_canTurn_19 : decode cX1_canTurn 19 = .ok (.iaload, 1) := by decide +kernel
theorem dX1_canTurn_20 : decode cX1_canTurn 20 = .ok (.ifCond .ne 20, 3) := by decide +kernel
theorem dX1_canTurn_23 : decode cX1_canTurn 23 = .ok (.aload_n 0, 1) := by decide +kernel
theorem dX1_canTurn_24 : decode cX1_canTurn 24 = .ok (.getfield 11, 3) := by decide +kernel
theorem dX1_canTurn_27 : decode cX1_canTurn 27 = .ok (.iload_n 1, 1) := by decide +kernel
theorem dX1_canTurn_28 : decode cX1_canTurn 28 = .ok (.aaload, 1) := by decide +kernel
theorem dX1_canTurn_29 : decode cX1_canTurn 29 = .ok (.iload_n 2, 1) := by decide +kernel
theorem dX1_canTurn_30 : decode cX1_canTurn 30 = .ok (.invokevirtual 161, 3) := by decide +kernel
theorem dX1_canTurn_33 : decode cX1_canTurn 33 = .ok (.ifCond .eq 7, 3) := by decide +kernel
theorem dX1_canTurn_36 : decode cX1_canTurn 36 = .ok (.iconst 1, 1) := by decide +kernel
theorem dX1_canTurn_37 : decode cX1_canTurn 37 = .ok (.goto 4, 3) := by decide +kernel
theorem dX1_canTurn_40 : decode cX1_canTurn 40 = .ok (.iconst 0, 1) := by decide +kernel
theorem dX1_canTurn_41 : decode cX1_canTurn 41 = .ok (.ireturn, 1) := by decide +kernel
theorem dX1_carryAll_0 : decode cX1_carryAll 0 = .ok (.aload_n 0, 1) := by decide +kernel
theorem dX1_carryAll_1 : decode cX1_carryAll 1 = .ok (.getfield 41, 3) := by decide +kernel
theorem dX1_carryAll_4 : decode cX1_carryAll 4 = .ok (.iconst 0, 1) := by decide +kernel
theorem dX1_carryAll_5 : decode cX1_carryAll 5 = .ok (.iaload, 1) := by decide +kernel
theorem dX1_carryAll_6 : decode cX1_carryAll 6 = .ok (.istore_n 2, 1) := by decide +kernel
theorem dX1_carryAll_7 : decode cX1_carryAll 7 = .ok (.aload_n 0, 1) := by decide +kernel
theorem dX1_carryAll_8 : decode cX1_carryAll 8 = .ok (.getfield 41, 3) := by decide +kernel
theorem dX1_carryAll_11 : decode cX1_carryAll 11 = .ok (.iconst 1, 1) := by decide +kernel
theorem dX1_carryAll_12 : decode cX1_carryAll 12 = .ok (.iaload, 1) := by decide +kernel
theorem dX1_carryAll_13 : decode cX1_carryAll 13 = .ok (.istore_n 3, 1) := by decide +kernel
theorem dX1_carryAll_14 : decode cX1_carryAll 14 = .ok (.iconst 0, 1) := by decide +kernel
theorem dX1_carryAll_15 : decode cX1_carryAll 15 = .ok (.istore 4, 2) := by decide +kernel
theorem dX1_carryAll_17 : decode cX1_carryAll 17 = .ok (.iload 4, 2) := by decide +kernel
theorem dX1_carryAll_19 : decode cX1_carryAll 19 = .ok (.aload_n 0, 1) := by decide +kernel
theorem dX1_carryAll_20 : decode cX1_carryAll 20 = .ok (.getfield 61, 3) := by decide +kernel
theorem dX1_carryAll_23 : decode cX1_carryAll 23 = .ok (.if_icmp .ge 105, 3) := by decide +kernel
theorem dX1_carryAll_26 : decode cX1_carryAll 26 = .ok (.aload_n 0, 1) := by decide +kernel
theorem dX1_carryAll_27 : decode cX1_carryAll 27 = .ok (.getfield 38, 3) := by decide +kernel
theorem dX1_carryAll_30 : decode cX1_carryAll 30 = .ok (.iload 4, 2) := by decide +kernel
theorem dX1_carryAll_32 : decode cX1_carryAll 32 = .ok (.iaload, 1) := by decide +kernel
theorem dX1_carryAll_33 : decode cX1_carryAll 33 = .ok (.ifCond .le 17, 3) := by decide +kernel
theorem dX1_carryAll_36 : decode cX1_carryAll 36 = .ok (.aload_n 0, 1) := by decide +kernel
theorem dX1_carryAll_37 : decode cX1_carryAll 37 = .ok (.getfield 38, 3) := by decide +kernel
theorem dX1_carryAll_40 : decode cX1_carryAll 40 = .ok (.iload 4, 2) := by decide +kernel
theorem dX1_carryAll_42 : decode cX1_carryAll 42 = .ok (.dup2, 1) := by decide +kernel
theorem dX1_carryAll_43 : decode cX1_carryAll 43 = .ok (.iaload, 1) := by decide +kernel
theorem dX1_carryAll_44 : decode cX1_carryAll 44 = .ok (.iconst 1, 1) := by decide +kernel
theorem dX1_carryAll_45 : decode cX1_carryAll 45 = .ok (.isub, 1) := by decide +kernel
theorem dX1_carryAll_46 : decode cX1_carryAll 46 = .ok (.iastore, 1) := by decide +kernel
theorem dX1_carryAll_47 : decode cX1_carryAll 47 = .ok (.goto 75, 3) := by decide +kernel
theorem dX1_carryAll_50 : decode cX1_carryAll 50 = .ok (.iload 4, 2) := by decide +kernel
theorem dX1_carryAll_52 : decode cX1_carryAll 52 = .ok (.aload_n 0, 1) := by decide +kernel
theorem dX1_carryAll_53 : decode cX1_carryAll 53 = .ok (.getfield 75, 3) := by decide +kernel
theorem dX1_carryAll_56 : decode cX1_carryAll 56 = .ok (.if_icmp .eq 66, 3) := by decide +kernel
theorem dX1_carryAll_59 : decode cX1_carryAll 59 = .ok (.aload_n 0, 1) := by decide +kernel
theorem dX1_carryAll_60 : decode cX1_carryAll 60 = .ok (.getfield 20, 3) := by decide +kernel
theorem dX1_carryAll_63 : decode cX1_carryAll 63 = .ok (.iload 4, 2) := by decide +kernel
theorem dX1_carryAll_65 : decode cX1_carryAll 65 = .ok (.iload_n 1, 1) := by decide +kernel
theorem dX1_carryAll_66 : decode cX1_carryAll 66 = .ok (.invokevirtual 164, 3) := by decide +kernel
theorem dX1_carryAll_69 : decode cX1_carryAll 69 = .ok (.ifCond .ne 53, 3) := by decide +kernel
theorem dX1_carryAll_72 : decode cX1_carryAll 72 = .ok (.aload_n 0, 1) := by decide +kernel
theorem dX1_carryAll_73 : decode cX1_carryAll 73 = .ok (.getfield 35, 3) := by decide +kernel
theorem dX1_carryAll_76 : decode cX1_carryAll 76 = .ok (.iload 4, 2) := by decide +kernel
theorem dX1_carryAll_78 : decode cX1_carryAll 78 = .ok (.iaload, 1) := by decide +kernel
theorem dX1_carryAll_79 : decode cX1_carryAll 79 = .ok (.ifCond .ne 7, 3) := by decide +kernel
theorem dX1_carryAll_82 : decode cX1_carryAll 82 = .ok (.iload_n 2, 1) := by decide +kernel
theorem dX1_carryAll_83 : decode cX1_carryAll 83 = .ok (.goto 4, 3) := by decide +kernel
theorem dX1_carryAll_86 : decode cX1_carryAll 86 = .ok (.iload_n 3, 1) := by decide +kernel
theorem dX1_carryAll_87 : decode cX1_carryAll 87 = .ok (.istore 5, 2) := by decide +kernel
theorem dX1_carryAll_89 : decode cX1_carryAll 89 = .ok (.aload_n 0, 1) := by decide +kernel
theorem dX1_carryAll_90 : decode cX1_carryAll 90 = .ok (.aload_n 0, 1) := by decide +kernel
theorem dX1_carryAll_91 : decode cX1_carryAll 91 = .ok (.getfield 35, 3) := by decide +kernel
theorem dX1_carryAll_94 : decode cX1_carryAll 94 = .ok (.iload 4, 2) := by decide +kernel
theorem dX1_carryAll_96 : decode cX1_carryAll 96 = .ok (.iaload, 1) := by decide +kernel
theorem dX1_carryAll_97 : decode cX1_carryAll 97 = .ok (.aload_n 0, 1) := by decide +kernel
theorem dX1_carryAll_98 : decode cX1_carryAll 98 = .ok (.getfield 11, 3) := by decide +kernel
theorem dX1_carryAll_101 : decode cX1_carryAll 101 = .ok (.iload 4, 2) := by decide +kernel
theorem dX1_carryAll_103 : decode cX1_carryAll 103 = .ok (.aaload, 1) := by decide +kernel
theorem dX1_carryAll_104 : decode cX1_carryAll 104 = .ok (.iload 5, 2) := by decide +kernel
theorem dX1_carryAll_106 : decode cX1_carryAll 106 = .ok (.invokevirtual 167, 3) := by decide +kernel
theorem dX1_carryAll_109 : decode cX1_carryAll 109 = .ok (.aload_n 0, 1) := by decide +kernel
theorem dX1_carryAll_110 : decode cX1_carryAll 110 = .ok (.getfield 11, 3) := by decide +kernel
theorem dX1_carryAll_113 : decode cX1_carryAll 113 = .ok (.iload 4, 2) := by decide +kernel
theorem dX1_carryAll_115 : decode cX1_carryAll 115 = .ok (.aaload, 1) := by decide +kernel
theorem dX1_carryAll_116 : decode cX1_carryAll 116 = .ok (.invokevirtual 170, 3) := by decide +kernel
theorem dX1_carryAll_119 : decode cX1_carryAll 119 = .ok (.invokevirtual 115, 3) := by decide +kernel
theorem dX1_carryAll_122 : decode cX1_carryAll 122 = .ok (.iinc 4 1, 3) := by decide +kernel
theorem dX1_carryAll_125 : decode cX1_carryAll 125 = .ok (.goto (-108), 3) := by decide +kernel
theorem dX1_carryAll_128 : decode cX1_carryAll 128 = .ok (.return_, 1) := by decide +kernel
theorem dX1_take_0 : decode cX1_take 0 = .ok (.iload_n 2, 1) := by decide +kernel
theorem dX1_take_1 : decode cX1_take 1 = .ok (.iload_n 3, 1) := by decide +kernel
theorem dX1_take_2 : decode cX1_take 2 = .ok (.ifCond .eq 12, 3) := by decide +kernel
theorem dX1_take_5 : decode cX1_take 5 = .ok (.aload_n 0, 1) := by decide +kernel
theorem dX1_take_6 : decode cX1_take 6 = .ok (.getfield 44, 3) := by decide +kernel
theorem dX1_take_9 : decode cX1_take 9 = .ok (.iload_n 1, 1) := by decide +kernel
theorem dX1_take_10 : decode cX1_take 10 = .ok (.iaload, 1) := by decide +kernel
theorem dX1_take_11 : decode cX1_take 11 = .ok (.goto 9, 3) := by decide +kernel
theorem dX1_take_14 : decode cX1_take 14 = .ok (.aload_n 0, 1) := by decide +kernel
theorem dX1_take_15 : decode cX1_take 15 = .ok (.getfield 41, 3) := by decide +kernel
theorem dX1_take_18 : decode cX1_take 18 = .ok (.iload_n 1, 1) := by decide +kernel
theorem dX1_take_19 : decode cX1_take 19 = .ok (.iaload, 1) := by decide +kernel
theorem dX1_take_20 : decode cX1_take 20 = .ok (.invokestatic 55, 3) := by decide +kernel
theorem dX1_take_23 : decode cX1_take 23 = .ok (.istore 4, 2) := by decide +kernel
theorem dX1_take_25 : decode cX1_take 25 = .ok (.iload_n 3, 1) := by decide +kernel
theorem dX1_take_26 : decode cX1_take 26 = .ok (.ifCond .eq 7, 3) := by decide +kernel
theorem dX1_take_29 : decode cX1_take 29 = .ok (.iconst 0, 1) := by decide +kernel
theorem dX1_take_30 : decode cX1_take 30 = .ok (.goto 21, 3) := by decide +kernel
theorem dX1_take_33 : decode cX1_take 33 = .ok (.iload 4, 2) := by decide +kernel
theorem dX1_take_35 : decode cX1_take 35 = .ok (.aload_n 0, 1) := by decide +kernel
theorem dX1_take_36 : decode cX1_take 36 = .ok (.getfield 41, 3) := by decide +kernel
theorem dX1_take_39 : decode cX1_take 39 = .ok (.iload_n 1, 1) := by decide +kernel
theorem dX1_take_40 : decode cX1_take 40 = .ok (.iaload, 1) := by decide +kernel
theorem dX1_take_41 : decode cX1_take 41 = .ok (.aload_n 0, 1) := by decide +kernel
theorem dX1_take_42 : decode cX1_take 42 = .ok (.getfield 44, 3) := by decide +kernel
theorem dX1_take_45 : decode cX1_take 45 = .ok (.iload_n 1, 1) := by decide +kernel
theorem dX1_take_46 : decode cX1_take 46 = .ok (.iaload, 1) := by decide +kernel
theorem dX1_take_47 : decode cX1_take 47 = .ok (.isub, 1) := by decide +kernel
theorem dX1_take_48 : decode cX1_take 48 = .ok (.invokestatic 55, 3) := by decide +kernel
theorem dX1_take_51 : decode cX1_take 51 = .ok (.istore 5, 2) := by decide +kernel
theorem dX1_take_53 : decode cX1_take 53 = .ok (.aload_n 0, 1) := by decide +kernel
theorem dX1_take_54 : decode cX1_take 54 = .ok (.getfield 41, 3) := by decide +kernel
theorem dX1_take_57 : decode cX1_take 57 = .ok (.iload_n 1, 1) := by decide +kernel
theorem dX1_take_58 : decode cX1_take 58 = .ok (.dup2, 1) := by decide +kernel
theorem dX1_take_59 : decode cX1_take 59 = .ok (.iaload, 1) := by decide +kernel
theorem dX1_take_60 : decode cX1_take 60 = .ok (.iload 4, 2) := by decide +kernel
theorem dX1_take_62 : decode cX1_take 62 = .ok (.isub, 1) := by decide +kernel
theorem dX1_take_63 : decode cX1_take 63 = .ok (.iastore, 1) := by decide +kernel
theorem dX1_take_64 : decode cX1_take 64 = .ok (.aload_n 0, 1) := by decide +kernel
theorem dX1_take_65 : decode cX1_take 65 = .ok (.getfield 44, 3) := by decide +kernel
theorem dX1_take_68 : decode cX1_take 68 = .ok (.iload_n 1, 1) := by decide +kernel
theorem dX1_take_69 : decode cX1_take 69 = .ok (.dup2, 1) := by decide +kernel
theorem dX1_take_70 : decode cX1_take 70 = .ok (.iaload, 1) := by decide +kernel
theorem dX1_take_71 : decode cX1_take 71 = .ok (.iload 4, 2) := by decide +kernel
theorem dX1_take_73 : decode cX1_take 73 = .ok (.iload 5, 2) := by decide +kernel
theorem dX1_take_75 : decode cX1_take 75 = .ok (.isub, 1) := by decide +kernel
theorem dX1_take_76 : decode cX1_take 76 = .ok (.isub, 1) := by decide +kernel
theorem dX1_take_77 : decode cX1_take 77 = .ok (.iastore, 1) := by decide +kernel
theorem dX1_take_78 : decode cX1_take 78 = .ok (.aload_n 0, 1) := by decide +kernel
theorem dX1_take_79 : decode cX1_take 79 = .ok (.dup, 1) := by decide +kernel
theorem dX1_take_80 : decode cX1_take 80 = .ok (.getfield 132, 3) := by decide +kernel
theorem dX1_take_83 : decode cX1_take 83 = .ok (.iload 4, 2) := by decide +kernel
theorem dX1_take_85 : decode cX1_take 85 = .ok (.iadd, 1) := by decide +kernel
theorem dX1_take_86 : decode cX1_take 86 = .ok (.putfield 132, 3) := by decide +kernel
theorem dX1_take_89 : decode cX1_take 89 = .ok (.return_, 1) := by decide +kernel
theorem dX1_painOf_0 : decode cX1_painOf 0 = .ok (.aload_n 0, 1) := by decide +kernel
theorem dX1_painOf_1 : decode cX1_painOf 1 = .ok (.iconst 1, 1) := by decide +kernel
theorem dX1_painOf_2 : decode cX1_painOf 2 = .ok (.iload_n 1, 1) := by decide +kernel
theorem dX1_painOf_3 : decode cX1_painOf 3 = .ok (.iload_n 2, 1) := by decide +kernel
theorem dX1_painOf_4 : decode cX1_painOf 4 = .ok (.invokevirtual 138, 3) := by decide +kernel
theorem dX1_painOf_7 : decode cX1_painOf 7 = .ok (.iconst 0, 1) := by decide +kernel
theorem dX1_painOf_8 : decode cX1_painOf 8 = .ok (.bipush 99, 2) := by decide +kernel
theorem dX1_painOf_10 : decode cX1_painOf 10 = .ok (.invokestatic 142, 3) := by decide +kernel
theorem dX1_painOf_13 : decode cX1_painOf 13 = .ok (.aload_n 0, 1) := by decide +kernel
theorem dX1_painOf_14 : decode cX1_painOf 14 = .ok (.getfield 41, 3) := by decide +kernel
theorem dX1_painOf_17 : decode cX1_painOf 17 = .ok (.iload_n 1, 1) := by decide +kernel
theorem dX1_painOf_18 : decode cX1_painOf 18 = .ok (.iaload, 1) := by decide +kernel
theorem dX1_painOf_19 : decode cX1_painOf 19 = .ok (.imul, 1) := by decide +kernel
theorem dX1_painOf_20 : decode cX1_painOf 20 = .ok (.ireturn, 1) := by decide +kernel
theorem dX1_value_0 : decode cX1_value 0 = .ok (.aload_n 0, 1) := by decide +kernel
theorem dX1_value_1 : decode cX1_value 1 = .ok (.getfield 52, 3) := by decide +kernel
theorem dX1_value_4 : decode cX1_value 4 = .ok (.iconst 0, 1) := by decide +kernel
theorem dX1_value_5 : decode cX1_value 5 = .ok (.aload_n 0, 1) := by decide +kernel
theorem dX1_value_6 : decode cX1_value 6 = .ok (.getfield 41, 3) := by decide +kernel
theorem dX1_value_9 : decode cX1_value 9 = .ok (.iload_n 2, 1) := by decide +kernel
theorem dX1_value_10 : decode cX1_value 10 = .ok (.iaload, 1) := by decide +kernel
theorem dX1_value_11 : decode cX1_value 11 = .ok (.iastore, 1) := by decide +kernel
theorem dX1_value_12 : decode cX1_value 12 = .ok (.aload_n 0, 1) := by decide +kernel
theorem dX1_value_13 : decode cX1_value 13 = .ok (.getfield 52, 3) := by decide +kernel
theorem dX1_value_16 : decode cX1_value 16 = .ok (.iconst 1, 1) := by decide +kernel
theorem dX1_value_17 : decode cX1_value 17 = .ok (.aload_n 0, 1) := by decide +kernel
theorem dX1_value_18 : decode cX1_value 18 = .ok (.getfield 47, 3) := by decide +kernel
theorem dX1_value_21 : decode cX1_value 21 = .ok (.iload_n 2, 1) := by decide +kernel
theorem dX1_value_22 : decode cX1_value 22 = .ok (.iaload, 1) := by decide +kernel
theorem dX1_value_23 : decode cX1_value 23 = .ok (.iastore, 1) := by decide +kernel
theorem dX1_value_24 : decode cX1_value 24 = .ok (.aload_n 0, 1) := by decide +kernel
theorem dX1_value_25 : decode cX1_value 25 = .ok (.getfield 52, 3) := by decide +kernel
theorem dX1_value_28 : decode cX1_value 28 = .ok (.iconst 2, 1) := by decide +kernel
theorem dX1_value_29 : decode cX1_value 29 = .ok (.iload_n 3, 1) := by decide +kernel
theorem dX1_value_30 : decode cX1_value 30 = .ok (.iastore, 1) := by decide +kernel
theorem dX1_value_31 : decode cX1_value 31 = .ok (.aload_n 0, 1) := by decide +kernel
theorem dX1_value_32 : decode cX1_value 32 = .ok (.getfield 52, 3) := by decide +kernel
theorem dX1_value_35 : decode cX1_value 35 = .ok (.iconst 3, 1) := by decide +kernel
theorem dX1_value_36 : decode cX1_value 36 = .ok (.iload_n 2, 1) := by decide +kernel
theorem dX1_value_37 : decode cX1_value 37 = .ok (.iastore, 1) := by decide +kernel
theorem dX1_value_38 : decode cX1_value 38 = .ok (.aload_n 0, 1) := by decide +kernel
theorem dX1_value_39 : decode cX1_value 39 = .ok (.getfield 52, 3) := by decide +kernel
theorem dX1_value_42 : decode cX1_value 42 = .ok (.iconst 4, 1) := by decide +kernel
theorem dX1_value_43 : decode cX1_value 43 = .ok (.aload_n 0, 1) := by decide +kernel
theorem dX1_value_44 : decode cX1_value 44 = .ok (.getfield 44, 3) := by decide +kernel
theorem dX1_value_47 : decode cX1_value 47 = .ok (.iload_n 2, 1) := by decide +kernel
theorem dX1_value_48 : decode cX1_value 48 = .ok (.iaload, 1) := by decide +kernel
theorem dX1_value_49 : decode cX1_value 49 = .ok (.iastore, 1) := by decide +kernel
theorem dX1_value_50 : decode cX1_value 50 = .ok (.aload_n 0, 1) := by decide +kernel
theorem dX1_value_51 : decode cX1_value 51 = .ok (.getfield 52, 3) := by decide +kernel
theorem dX1_value_54 : decode cX1_value 54 = .ok (.iconst 5, 1) := by decide +kernel
theorem dX1_value_55 : decode cX1_value 55 = .ok (.aload_n 0, 1) := by decide +kernel
theorem dX1_value_56 : decode cX1_value 56 = .ok (.getfield 20, 3) := by decide +kernel
theorem dX1_value_59 : decode cX1_value 59 = .ok (.getfield 152, 3) := by decide +kernel
theorem dX1_value_62 : decode cX1_value 62 = .ok (.iastore, 1) := by decide +kernel
theorem dX1_value_63 : decode cX1_value 63 = .ok (.aload_n 0, 1) := by decide +kernel
theorem dX1_value_64 : decode cX1_value 64 = .ok (.getfield 27, 3) := by decide +kernel
theorem dX1_value_67 : decode cX1_value 67 = .ok (.iload_n 1, 1) := by decide +kernel
theorem dX1_value_68 : decode cX1_value 68 = .ok (.aload_n 0, 1) := by decide +kernel
theorem dX1_value_69 : decode cX1_value 69 = .ok (.getfield 52, 3) := by decide +kernel
theorem dX1_value_72 : decode cX1_value 72 = .ok (.invokevirtual 174, 3) := by decide +kernel
theorem dX1_value_75 : decode cX1_value 75 = .ok (.ireturn, 1) := by decide +kernel
theorem dX1_within_0 : decode cX1_within 0 = .ok (.iload_n 1, 1) := by decide +kernel
theorem dX1_within_1 : decode cX1_within 1 = .ok (.iload_n 2, 1) := by decide +kernel
theorem dX1_within_2 : decode cX1_within 2 = .ok (.iload_n 0, 1) := by decide +kernel
theorem dX1_within_3 : decode cX1_within 3 = .ok (.invokestatic 55, 3) := by decide +kernel
theorem dX1_within_6 : decode cX1_within 6 = .ok (.invokestatic 148, 3) := by decide +kernel
theorem dX1_within_9 : decode cX1_within 9 = .ok (.ireturn, 1) := by decide +kernel
theorem dX2_init_0 : decode cX2_init 0 = .ok (.aload_n 0, 1) := by decide +kernel
theorem dX2_init_1 : decode cX2_init 1 = .ok (.iload_n 1, 1) := by decide +kernel
theorem dX2_init_2 : decode cX2_init 2 = .ok (.iload_n 2, 1) := by decide +kernel
theorem dX2_init_3 : decode cX2_init 3 = .ok (.iload_n 3, 1) := by decide +kernel
theorem dX2_init_4 : decode cX2_init 4 = .ok (.invokespecial 1, 3) := by decide +kernel
theorem dX2_init_7 : decode cX2_init 7 = .ok (.return_, 1) := by decide +kernel
theorem dX2_mayTurn_0 : decode cX2_mayTurn 0 = .ok (.iconst 0, 1) := by decide +kernel
theorem dX2_mayTurn_1 : decode cX2_mayTurn 1 = .ok (.ireturn, 1) := by decide +kernel
theorem dX3_init_0 : decode cX3_init 0 = .ok (.aload_n 0, 1) := by decide +kernel
theorem dX3_init_1 : decode cX3_init 1 = .ok (.invokespecial 1, 3) := by decide +kernel
theorem dX3_init_4 : decode cX3_init 4 = .ok (.aload_n 0, 1) := by decide +kernel
theorem dX3_init_5 : decode cX3_init 5 = .ok (.iload_n 1, 1) := by decide +kernel
theorem dX3_init_6 : decode cX3_init 6 = .ok (.putfield 7, 3) := by decide +kernel
theorem dX3_init_9 : decode cX3_init 9 = .ok (.aload_n 0, 1) := by decide +kernel
theorem dX3_init_10 : decode cX3_init 10 = .ok (.iload_n 2, 1) := by decide +kernel
theorem dX3_init_11 : decode cX3_init 11 = .ok (.putfield 13, 3) := by decide +kernel
theorem dX3_init_14 : decode cX3_init 14 = .ok (.aload_n 0, 1) := by decide +kernel
theorem dX3_init_15 : decode cX3_init 15 = .ok (.iload_n 3, 1) := by decide +kernel
theorem dX3_init_16 : decode cX3_init 16 = .ok (.putfield 16, 3) := by decide +kernel
theorem dX3_init_19 : decode cX3_init 19 = .ok (.return_, 1) := by decide +kernel
theorem dX3_carries_0 : decode cX3_carries 0 = .ok (.aload_n 0, 1) := by decide +kernel
theorem dX3_carries_1 : decode cX3_carries 1 = .ok (.getfield 13, 3) := by decide +kernel
theorem dX3_carries_4 : decode cX3_carries 4 = .ok (.ireturn, 1) := by decide +kernel
theorem dX3_takesBusesAlone_0 : decode cX3_takesBusesAlone 0 = .ok (.iconst 0, 1) := by decide +kernel
theorem dX3_takesBusesAlone_1 : decode cX3_takesBusesAlone 1 = .ok (.ireturn, 1) := by decide +kernel
theorem dX3_mayTurn_0 : decode cX3_mayTurn 0 = .ok (.iconst 1, 1) := by decide +kernel
theorem dX3_mayTurn_1 : decode cX3_mayTurn 1 = .ok (.ireturn, 1) := by decide +kernel
theorem dX3_rests_0 : decode cX3_rests 0 = .ok (.iload_n 1, 1) := by decide +kernel
theorem dX3_rests_1 : decode cX3_rests 1 = .ok (.ireturn, 1) := by decide +kernel
theorem dX4_init_0 : decode cX4_init 0 = .ok (.aload_n 0, 1) := by decide +kernel
theorem dX4_init_1 : decode cX4_init 1 = .ok (.invokespecial 3, 3) := by decide +kernel
theorem dX4_init_4 : decode cX4_init 4 = .ok (.aload_n 0, 1) := by decide +kernel
theorem dX4_init_5 : decode cX4_init 5 = .ok (.sipush 160, 3) := by decide +kernel
theorem dX4_init_8 : decode cX4_init 8 = .ok (.newarray .int, 2) := by decide +kernel
theorem dX4_init_10 : decode cX4_init 10 = .ok (.putfield 9, 3) := by decide +kernel
theorem dX4_init_13 : decode cX4_init 13 = .ok (.aload_n 0, 1) := by decide +kernel
theorem dX4_init_14 : decode cX4_init 14 = .ok (.sipush 161, 3) := by decide +kernel
theorem dX4_init_17 : decode cX4_init 17 = .ok (.newarray .int, 2) := by decide +kernel
theorem dX4_init_19 : decode cX4_init 19 = .ok (.putfield 15, 3) := by decide +kernel
theorem dX4_init_22 : decode cX4_init 22 = .ok (.aload_n 0, 1) := by decide +kernel
theorem dX4_init_23 : decode cX4_init 23 = .ok (.sipush 161, 3) := by decide +kernel
theorem dX4_init_26 : decode cX4_init 26 = .ok (.newarray .int, 2) := by decide +kernel
theorem dX4_init_28 : decode cX4_init 28 = .ok (.putfield 18, 3) := by decide +kernel
theorem dX4_init_31 : decode cX4_init 31 = .ok (.aload_n 0, 1) := by decide +kernel
theorem dX4_init_32 : decode cX4_init 32 = .ok (.sipush 161, 3) := by decide +kernel
theorem dX4_init_35 : decode cX4_init 35 = .ok (.newarray .int, 2) := by decide +kernel
theorem dX4_init_37 : decode cX4_init 37 = .ok (.putfield 21, 3) := by decide +kernel
theorem dX4_init_40 : decode cX4_init 40 = .ok (.aload_n 0, 1) := by decide +kernel
theorem dX4_init_41 : decode cX4_init 41 = .ok (.new 24, 3) := by decide +kernel
theorem dX4_init_44 : decode cX4_init 44 = .ok (.dup, 1) := by decide +kernel
theorem dX4_init_45 : decode cX4_init 45 = .ok (.invokespecial 26, 3) := by decide +kernel
theorem dX4_init_48 : decode cX4_init 48 = .ok (.putfield 27, 3) := by decide +kernel
theorem dX4_init_51 : decode cX4_init 51 = .ok (.return_, 1) := by decide +kernel
theorem dX4_lay_0 : decode cX4_lay 0 = .ok (.aload_n 0, 1) := by decide +kernel
theorem dX4_lay_1 : decode cX4_lay 1 = .ok (.iconst 0, 1) := by decide +kernel
theorem dX4_lay_2 : decode cX4_lay 2 = .ok (.putfield 31, 3) := by decide +kernel
theorem dX4_lay_5 : decode cX4_lay 5 = .ok (.iconst 0, 1) := by decide +kernel
theorem dX4_lay_6 : decode cX4_lay 6 = .ok (.istore_n 2, 1) := by decide +kernel
theorem dX4_lay_7 : decode cX4_lay 7 = .ok (.iload_n 2, 1) := by decide +kernel
theorem dX4_lay_8 : decode cX4_lay 8 = .ok (.aload_n 1, 1) := by decide +kernel
theorem dX4_lay_9 : decode cX4_lay 9 = .ok (.invokevirtual 35, 3) := by decide +kernel
theorem dX4_lay_12 : decode cX4_lay 12 = .ok (.if_icmp .ge 18, 3) := by decide +kernel
theorem dX4_lay_15 : decode cX4_lay 15 = .ok (.aload_n 0, 1) := by decide +kernel
theorem dX4_lay_16 : decode cX4_lay 16 = .ok (.aload_n 1, 1) := by decide +kernel
theorem dX4_lay_17 : decode cX4_lay 17 = .ok (.iload_n 2, 1) := by decide +kernel
theorem dX4_lay_18 : decode cX4_lay 18 = .ok (.invokevirtual 41, 3) := by decide +kernel
theorem dX4_lay_21 : decode cX4_lay 21 = .ok (.invokevirtual 45, 3) := by decide +kernel
theorem dX4_lay_24 : decode cX4_lay 24 = .ok (.iinc 2 1, 3) := by decide +kernel
theorem dX4_lay_27 : decode cX4_lay 27 = .ok (.goto (-20), 3) := by decide +kernel
theorem dX4_lay_30 : decode cX4_lay 30 = .ok (.return_, 1) := by decide +kernel
theorem dX4_append_0 : decode cX4_append 0 = .ok (.aload_n 0, 1) := by decide +kernel
theorem dX4_append_1 : decode cX4_append 1 = .ok (.getfield 31, 3) := by decide +kernel
theorem dX4_append_4 : decode cX4_append 4 = .ok (.sipush 160, 3) := by decide +kernel
theorem dX4_append_7 : decode cX4_append 7 = .ok (.if_icmp .ge 23, 3) := by decide +kernel
theorem dX4_append_10 : decode cX4_append 10 = .ok (.aload_n 0, 1) := by decide +kernel
theorem dX4_append_11 : decode cX4_append 11 = .ok (.getfield 9, 3) := by decide +kernel
theorem dX4_append_14 : decode cX4_append 14 = .ok (.aload_n 0, 1) := by decide +kernel
theorem dX4_append_15 : decode cX4_append 15 = .ok (.getfield 31, 3) := by decide +kernel
theorem dX4_append_18 : decode cX4_append 18 = .ok (.iload_n 1, 1) := by decide +kernel
theorem dX4_append_19 : decode cX4_append 19 = .ok (.iastore, 1) := by decide +kernel
theorem dX4_append_20 : decode cX4_append 20 = .ok (.aload_n 0, 1) := by decide +kernel
theorem dX4_append_21 : decode cX4_append 21 = .ok (.dup, 1) := by decide +kernel
theorem dX4_append_22 : decode cX4_append 22 = .ok (.getfield 31, 3) := by decide +kernel
theorem dX4_append_25 : decode cX4_append 25 = .ok (.iconst 1, 1) := by decide +kernel
theorem dX4_append_26 : decode cX4_append 26 = .ok (.iadd, 1) := by decide +kernel
theorem dX4_append_27 : decode cX4_append 27 = .ok (.putfield 31, 3) := by decide +kernel
theorem dX4_append_30 : decode cX4_append 30 = .ok (.return_, 1) := by decide +kernel
theorem dX4_read_0 : decode cX4_read 0 = .ok (.aload_n 0, 1) := by decide +kernel
theorem dX4_read_1 : decode cX4_read 1 = .ok (.invokevirtual 49, 3) := by decide +kernel
theorem dX4_read_4 : decode cX4_read 4 = .ok (.aload_n 0, 1) := by decide +kernel
theorem dX4_read_5 : decode cX4_read 5 = .ok (.aload_n 1, 1) := by decide +kernel
theorem dX4_read_6 : decode cX4_read 6 = .ok (.putfield 27, 3) := by decide +kernel
theorem dX4_read_9 : decode cX4_read 9 = .ok (.aload_n 0, 1) := by decide +kernel
theorem dX4_read_10 : decode cX4_read 10 = .ok (.iconst 0, 1) := by decide +kernel
theorem dX4_read_11 : decode cX4_read 11 = .ok (.putfield 52, 3) := by decide +kernel
theorem dX4_read_14 : decode cX4_read 14 = .ok (.aload_n 0, 1) := by decide +kernel
theorem dX4_read_15 : decode cX4_read 15 = .ok (.iconst 0, 1) := by decide +kernel
theorem dX4_read_16 : decode cX4_read 16 = .ok (.putfield 55, 3) := by decide +kernel
theorem dX4_read_19 : decode cX4_read 19 = .ok (.aload_n 0, 1) := by decide +kernel
theorem dX4_read_20 : decode cX4_read 20 = .ok (.iconst 0, 1) := by decide +kernel
theorem dX4_read_21 : decode cX4_read 21 = .ok (.invokevirtual 58, 3) := by decide +kernel
theorem dX4_read_24 : decode cX4_read 24 = .ok (.ifCond .eq 30, 3) := by decide +kernel
theorem dX4_read_27 : decode cX4_read 27 = .ok (.aload_n 0, 1) := by decide +kernel
theorem dX4_read_28 : decode cX4_read 28 = .ok (.iconst 1, 1) := by decide +kernel
theorem dX4_read_29 : decode cX4_read 29 = .ok (.invokevirtual 58, 3) := by decide +kernel
theorem dX4_read_32 : decode cX4_read 32 = .ok (.ifCond .eq 22, 3) := by decide +kernel
theorem dX4_read_35 : decode cX4_read 35 = .ok (.aload_n 0, 1) := by decide +kernel
theorem dX4_read_36 : decode cX4_read 36 = .ok (.iconst 2, 1) := by decide +kernel
theorem dX4_read_37 : decode cX4_read 37 = .ok (.invokevirtual 58, 3) := by decide +kernel
theorem dX4_read_40 : decode cX4_read 40 = .ok (.ifCond .eq 14, 3) := by decide +kernel
theorem dX4_read_43 : decode cX4_read 43 = .ok (.aload_n 0, 1) := by decide +kernel
theorem dX4_read_44 : decode cX4_read 44 = .ok (.invokevirtual 62, 3) := by decide +kernel
theorem dX4_read_47 : decode cX4_read 47 = .ok (.ifCond .ne 7, 3) := by decide +kernel
theorem dX4_read_50 : decode cX4_read 50 = .ok (.iconst 1, 1) := by decide +kernel
theorem dX4_read_51 : decode cX4_read 51 = .ok (.goto 4, 3) := by decide +kernel
theorem dX4_read_54 : decode cX4_read 54 = .ok (.iconst 0, 1) := by decide +kernel
theorem dX4_read_55 : decode cX4_read 55 = .ok (.istore_n 2, 1) := by decide +kernel
theorem dX4_read_56 : decode cX4_read 56 = .ok (.iload_n 2, 1) := by decide +kernel
theorem dX4_read_57 : decode cX4_read 57 = .ok (.ifCond .eq 7, 3) := by decide +kernel
theorem dX4_read_60 : decode cX4_read 60 = .ok (.iconst (-1), 1) := by decide +kernel
theorem dX4_read_61 : decode cX4_read 61 = .ok (.goto 12, 3) := by decide +kernel
theorem dX4_read_64 : decode cX4_read 64 = .ok (.aload_n 0, 1) := by decide +kernel
theorem dX4_read_65 : decode cX4_read 65 = .ok (.getfield 18, 3) := by decide +kernel
theorem dX4_read_68 : decode cX4_read 68 = .ok (.aload_n 0, 1) := by decide +kernel
theorem dX4_read_69 : decode cX4_read 69 = .ok (.getfield 55, 3) := by decide +kernel
theorem dX4_read_72 : decode cX4_read 72 = .ok (.iaload, 1) := by decide +kernel
theorem dX4_read_73 : decode cX4_read 73 = .ok (.ireturn, 1) := by decide +kernel
theorem dX4_split_0 : decode cX4_split 0 = .ok (.iconst 0, 1) := by decide +kernel
theorem dX4_split_1 : decode cX4_split 1 = .ok (.istore_n 1, 1) := by decide +kernel
theorem dX4_split_2 : decode cX4_split 2 = .ok (.iconst 0, 1) := by decide +kernel
theorem dX4_split_3 : decode cX4_split 3 = .ok (.istore_n 2, 1) := by decide +kernel
theorem dX4_split_4 : decode cX4_split 4 = .ok (.iconst 0, 1) := by decide +kernel
theorem dX4_split_5 : decode cX4_split 5 = .ok (.istore_n 3, 1) := by decide +kernel
theorem dX4_split_6 : decode cX4_split 6 = .ok (.iload_n 3, 1) := by decide +kernel
theorem dX4_split_7 : decode cX4_split 7 = .ok (.sipush 160, 3) := by decide +kernel
theorem dX4_split_10 : decode cX4_split 10 = .ok (.if_icmp .ge 57, 3) := by decide +kernel
theorem dX4_split_13 : decode cX4_split 13 = .ok (.iload_n 1, 1) := by decide +kernel
theorem dX4_split_14 : decode cX4_split 14 = .ok (.aload_n 0, 1) := by decide +kernel
theorem dX4_split_15 : decode cX4_split 15 = .ok (.getfield 31, 3) := by decide +kernel
theorem dX4_split_18 : decode cX4_split 18 = .ok (.if_icmp .ge 49, 3) := by decide +kernel
theorem dX4_split_21 : decode cX4_split 21 = .ok (.aload_n 0, 1) := by decide +kernel
theorem dX4_split_22 : decode cX4_split 22 = .ok (.iload_n 1, 1) := by decide +kernel
theorem dX4_split_23 : decode cX4_split 23 = .ok (.invokevirtual 65, 3) := by decide +kernel
theorem dX4_split_26 : decode cX4_split 26 = .ok (.istore 4, 2) := by decide +kernel
theorem dX4_split_28 : decode cX4_split 28 = .ok (.aload_n 0, 1) := by decide +kernel
theorem dX4_split_29 : decode cX4_split 29 = .ok (.getfield 9, 3) := by decide +kernel
theorem dX4_split_32 : decode cX4_split 32 = .ok (.iload_n 1, 1) := by decide +kernel
theorem dX4_split_33 : decode cX4_split 33 = .ok (.iaload, 1) := by decide +kernel
theorem dX4_split_34 : decode cX4_split 34 = .ok (.invokestatic 69, 3) := by decide +kernel
theorem dX4_split_37 : decode cX4_split 37 = .ok (.ifCond .ne 21, 3) := by decide +kernel
theorem dX4_split_40 : decode cX4_split 40 = .ok (.aload_n 0, 1) := by decide +kernel
theorem dX4_split_41 : decode cX4_split 41 = .ok (.getfield 18, 3) := by decide +kernel
theorem dX4_split_44 : decode cX4_split 44 = .ok (.iload_n 2, 1) := by decide +kernel
theorem dX4_split_45 : decode cX4_split 45 = .ok (.iload_n 1, 1) := by decide +kernel
theorem dX4_split_46 : decode cX4_split 46 = .ok (.iastore, 1) := by decide +kernel
theorem dX4_split_47 : decode cX4_split 47 = .ok (.aload_n 0, 1) := by decide +kernel
theorem dX4_split_48 : decode cX4_split 48 = .ok (.iload_n 2, 1) := by decide +kernel
theorem dX4_split_49 : decode cX4_split 49 = .ok (.iload_n 1, 1) := by decide +kernel
theorem dX4_split_50 : decode cX4_split 50 = .ok (.iload 4, 2) := by decide +kernel
theorem dX4_split_52 : decode cX4_split 52 = .ok (.invokevirtual 72, 3) := by decide +kernel
theorem dX4_split_55 : decode cX4_split 55 = .ok (.iinc 2 1, 3) := by decide +kernel
theorem dX4_split_58 : decode cX4_split 58 = .ok (.iload 4, 2) := by decide +kernel
theorem dX4_split_60 : decode cX4_split 60 = .ok (.istore_n 1, 1) := by decide +kernel
theorem dX4_split_61 : decode cX4_split 61 = .ok (.iinc 3 1, 3) := by decide +kernel
theorem dX4_split_64 : decode cX4_split 64 = .ok (.goto (-58), 3) := by decide +kernel
theorem dX4_split_67 : decode cX4_split 67 = .ok (.aload_n 0, 1) := by decide +kernel
theorem dX4_split_68 : decode cX4_split 68 = .ok (.getfield 18, 3) := by decide +kernel
theorem dX4_split_71 : decode cX4_split 71 = .ok (.iload_n 2, 1) := by decide +kernel
theorem dX4_split_72 : decode cX4_split 72 = .ok (.aload_n 0, 1) := by decide +kernel
theorem dX4_split_73 : decode cX4_split 73 = .ok (.getfield 31, 3) := by decide +kernel
theorem dX4_split_76 : decode cX4_split 76 = .ok (.iastore, 1) := by decide +kernel
theorem dX4_split_77 : decode cX4_split 77 = .ok (.aload_n 0, 1) := by decide +kernel
theorem dX4_split_78 : decode cX4_split 78 = .ok (.getfield 15, 3) := by decide +kernel
theorem dX4_split_81 : decode cX4_split 81 = .ok (.iload_n 2, 1) := by decide +kernel
theorem dX4_split_82 : decode cX4_split 82 = .ok (.iconst 0, 1) := by decide +kernel
theorem dX4_split_83 : decode cX4_split 83 = .ok (.iastore, 1) := by decide +kernel
theorem dX4_split_84 : decode cX4_split 84 = .ok (.return_, 1) := by decide +kernel
theorem dX4_endOfToken_0 : decode cX4_endOfToken 0 = .ok (.iload_n 1, 1) := by decide +kernel
theorem dX4_endOfToken_1 : decode cX4_endOfToken 1 = .ok (.iconst 1, 1) := by decide +kernel
theorem dX4_endOfToken_2 : decode cX4_endOfToken 2 = .ok (.iadd, 1) := by decide +kernel
theorem dX4_endOfToken_3 : decode cX4_endOfToken 3 = .ok (.istore_n 2, 1) := by decide +kernel
theorem dX4_endOfToken_4 : decode cX4_endOfToken 4 = .ok (.iload_n 2, 1) := by decide +kernel
theorem dX4_endOfToken_5 : decode cX4_endOfToken 5 = .ok (.aload_n 0, 1) := by decide +kernel
theorem dX4_endOfToken_6 : decode cX4_endOfToken 6 = .ok (.getfield 31, 3) := by decide +kernel
theorem dX4_endOfToken_9 : decode cX4_endOfToken 9 = .ok (.if_icmp .ge 27, 3) := by decide +kernel
theorem dX4_endOfToken_12 : decode cX4_endOfToken 12 = .ok (.aload_n 0, 1) := by decide +kernel
theorem dX4_endOfToken_13 : decode cX4_endOfToken 13 = .ok (.getfield 9, 3) := by decide +kernel
theorem dX4_endOfToken_16 : decode cX4_endOfToken 16 = .ok (.iload_n 1, 1) := by decide +kernel
theorem dX4_endOfToken_17 : decode cX4_endOfToken 17 = .ok (.iaload, 1) := by decide +kernel
theorem dX4_endOfToken_18 : decode cX4_endOfToken 18 = .ok (.aload_n 0, 1) := by decide +kernel
theorem dX4_endOfToken_19 : decode cX4_endOfToken 19 = .ok (.getfield 9, 3) := by decide +kernel
theorem dX4_endOfToken_22 : decode cX4_endOfToken 22 = .ok (.iload_n 2, 1) := by decide +kernel
theorem dX4_endOfToken_23 : decode cX4_endOfToken 23 = .ok (.iaload, 1) := by decide +kernel
theorem dX4_endOfToken_24 : decode cX4_endOfToken 24 = .ok (.invokestatic 76, 3) := by decide +kernel
theorem dX4_endOfToken_27 : decode cX4_endOfToken 27 = .ok (.ifCond .eq 9, 3) := by decide +kernel
theorem dX4_endOfToken_30 : decode cX4_endOfToken 30 = .ok (.iinc 2 1, 3) := by decide +kernel
theorem dX4_endOfToken_33 : decode cX4_endOfToken 33 = .ok (.goto (-29), 3) := by decide +kernel
theorem dX4_endOfToken_36 : decode cX4_endOfToken 36 = .ok (.iload_n 2, 1) := by decide +kernel
theorem dX4_endOfToken_37 : decode cX4_endOfToken 37 = .ok (.ireturn, 1) := by decide +kernel
theorem dX4_isOneWord_0 : decode cX4_isOneWord 0 = .ok (.iload_n 0, 1) := by decide +kernel
theorem dX4_isOneWord_1 : decode cX4_isOneWord 1 = .ok (.invokestatic 80, 3) := by decide +kernel
theorem dX4_isOneWord_4 : decode cX4_isOneWord 4 = .ok (.ifCond .eq 10, 3) := by decide +kernel
theorem dX4_isOneWord_7 : decode cX4_isOneWord 7 = .ok (.iload_n 1, 1) := by decide +kernel
theorem dX4_isOneWord_8 : decode cX4_isOneWord 8 = .ok (.invokestatic 80, 3) := by decide +kernel
theorem dX4_isOneWord_11 : decode cX4_isOneWord 11 = .ok (.ifCond .ne 17, 3) := by decide +kernel
theorem dX4_isOneWord_14 : decode cX4_isOneWord 14 = .ok (.iload_n 0, 1) := by decide +kernel
theorem dX4_isOneWord_15 : decode cX4_isOneWord 15 = .ok (.invokestatic 83, 3) := by decide +kernel
theorem dX4_isOneWord_18 : decode cX4_isOneWord 18 = .ok (.ifCond .eq 14, 3) := by decide +kernel
theorem dX4_isOneWord_21 : decode cX4_isOneWord 21 = .ok (.iload_n 1, 1) := by decide +kernel
theorem dX4_isOneWord_22 : decode cX4_isOneWord 22 = .ok (.invokestatic 83, 3) := by decide +kernel
theorem dX4_isOneWord_25 : decode cX4_isOneWord 25 = .ok (.ifCond .eq 7, 3) := by decide +kernel
theorem dX4_isOneWord_28 : decode cX4_isOneWord 28 = .ok (.iconst 1, 1) := by decide +kernel
theorem dX4_isOneWord_29 : decode cX4_isOneWord 29 = .ok (.goto 4, 3) := by decide +kernel
theorem dX4_isOneWord_32 : decode cX4_isOneWord 32 = .ok (.iconst 0, 1) := by decide +kernel
theorem dX4_isOneWord_33 : decode cX4_isOneWord 33 = .ok (.ireturn, 1) := by decide +kernel
theorem dX4_takeToken_0 : decode cX4_takeToken 0 = .ok (.aload_n 0, 1) := by decide +kernel
theorem dX4_takeToken_1 : decode cX4_takeToken 1 = .ok (.getfield 9, 3) := by decide +kernel
theorem dX4_takeToken_4 : decode cX4_takeToken 4 = .ok (.iload_n 2, 1) := by decide +kernel
theorem dX4_takeToken_5 : decode cX4_takeToken 5 = .ok (.iaload, 1) := by decide +kernel
theorem dX4_takeToken_6 : decode cX4_takeToken 6 = .ok (.invokestatic 80, 3) := by decide +kernel
theorem dX4_takeToken_9 : decode cX4_takeToken 9 = .ok (.ifCond .eq 13, 3) := by decide +kernel
theorem dX4_takeToken_12 : decode cX4_takeToken 12 = .ok (.aload_n 0, 1) := by decide +kernel
theorem dX4_takeToken_13 : decode cX4_takeToken 13 = .ok (.iload_n 1, 1) := by decide +kernel
theorem dX4_takeToken_14 : decode cX4_takeToken 14 = .ok (.iload_n 2, 1) := by decide +kernel
theorem dX4_takeToken_15 : decode cX4_takeToken 15 = .ok (.iload_n 3, 1) := by decide +kernel
theorem dX4_takeToken_16 : decode cX4_takeToken 16 = .ok (.invokevirtual 86, 3) := by decide +kernel
theorem dX4_takeToken_19 : decode cX4_takeToken 19 = .ok (.goto 53, 3) := by decide +kernel
theorem dX4_takeToken_22 : decode cX4_takeToken 22 = .ok (.aload_n 0, 1) := by decide +kernel
theorem dX4_takeToken_23 : decode cX4_takeToken 23 = .ok (.getfield 9, 3) := by decide +kernel
theorem dX4_takeToken_26 : decode cX4_takeToken 26 = .ok (.iload_n 2, 1) := by decide +kernel
theorem dX4_takeToken_27 : decode cX4_takeToken 27 = .ok (.iaload, 1) := by decide +kernel
theorem dX4_takeToken_28 : decode cX4_takeToken 28 = .ok (.invokestatic 83, 3) := by decide +kernel
theorem dX4_takeToken_31 : decode cX4_takeToken 31 = .ok (.ifCond .eq 13, 3) := by decide +kernel
theorem dX4_takeToken_34 : decode cX4_takeToken 34 = .ok (.aload_n 0, 1) := by decide +kernel
theorem dX4_takeToken_35 : decode cX4_takeToken 35 = .ok (.iload_n 1, 1) := by decide +kernel
theorem dX4_takeToken_36 : decode cX4_takeToken 36 = .ok (.iload_n 2, 1) := by decide +kernel
theorem dX4_takeToken_37 : decode cX4_takeToken 37 = .ok (.iload_n 3, 1) := by decide +kernel
theorem dX4_takeToken_38 : decode cX4_takeToken 38 = .ok (.invokevirtual 89, 3) := by decide +kernel
theorem dX4_takeToken_41 : decode cX4_takeToken 41 = .ok (.goto 31, 3) := by decide +kernel
theorem dX4_takeToken_44 : decode cX4_takeToken 44 = .ok (.aload_n 0, 1) := by decide +kernel
theorem dX4_takeToken_45 : decode cX4_takeToken 45 = .ok (.getfield 15, 3) := by decide +kernel
theorem dX4_takeToken_48 : decode cX4_takeToken 48 = .ok (.iload_n 1, 1) := by decide +kernel
theorem dX4_takeToken_49 : decode cX4_takeToken 49 = .ok (.aload_n 0, 1) := by decide +kernel
theorem dX4_takeToken_50 : decode cX4_takeToken 50 = .ok (.getfield 9, 3) := by decide +kernel
theorem dX4_takeToken_53 : decode cX4_takeToken 53 = .ok (.iload_n 2, 1) := by decide +kernel
theorem dX4_takeToken_54 : decode cX4_takeToken 54 = .ok (.iaload, 1) := by decide +kernel
theorem dX4_takeToken_55 : decode cX4_takeToken 55 = .ok (.invokestatic 92, 3) := by decide +kernel
theorem dX4_takeToken_58 : decode cX4_takeToken 58 = .ok (.ifCond .eq 12, 3) := by decide +kernel
theorem dX4_takeToken_61 : decode cX4_takeToken 61 = .ok (.aload_n 0, 1) := by decide +kernel
theorem dX4_takeToken_62 : decode cX4_takeToken 62 = .ok (.getfield 9, 3) := by decide +kernel
theorem dX4_takeToken_65 : decode cX4_takeToken 65 = .ok (.iload_n 2, 1) := by decide +kernel
theorem dX4_takeToken_66 : decode cX4_takeToken 66 = .ok (.iaload, 1) := by decide +kernel
theorem dX4_takeToken_67 : decode cX4_takeToken 67 = .ok (.goto 4, 3) := by decide +kernel
theorem dX4_takeToken_70 : decode cX4_takeToken 70 = .ok (.iconst 1, 1) := by decide +kernel
theorem dX4_takeToken_71 : decode cX4_takeToken 71 = .ok (.iastore, 1) := by decide +kernel
theorem dX4_takeToken_72 : decode cX4_takeToken 72 = .ok (.return_, 1) := by decide +kernel
theorem dX4_takeWord_0 : decode cX4_takeWord 0 = .ok (.aload_n 0, 1) := by decide +kernel
theorem dX4_takeWord_1 : decode cX4_takeWord 1 = .ok (.getfield 15, 3) := by decide +kernel
theorem dX4_takeWord_4 : decode cX4_takeWord 4 = .ok (.iload_n 1, 1) := by decide +kernel
theorem dX4_takeWord_5 : decode cX4_takeWord 5 = .ok (.iconst 1, 1) := by decide +kernel
theorem dX4_takeWord_6 : decode cX4_takeWord 6 = .ok (.iastore, 1) := by decide +kernel
theorem dX4_takeWord_7 : decode cX4_takeWord 7 = .ok (.iconst 0, 1) := by decide +kernel
theorem dX4_takeWord_8 : decode cX4_takeWord 8 = .ok (.istore 4, 2) := by decide +kernel
theorem dX4_takeWord_10 : decode cX4_takeWord 10 = .ok (.iload 4, 2) := by decide +kernel
theorem dX4_takeWord_12 : decode cX4_takeWord 12 = .ok (.bipush 12, 2) := by decide +kernel
theorem dX4_takeWord_14 : decode cX4_takeWord 14 = .ok (.if_icmp .ge 57, 3) := by decide +kernel
theorem dX4_takeWord_17 : decode cX4_takeWord 17 = .ok (.aload_n 0, 1) := by decide +kernel
theorem dX4_takeWord_18 : decode cX4_takeWord 18 = .ok (.iload 4, 2) := by decide +kernel
theorem dX4_takeWord_20 : decode cX4_takeWord 20 = .ok (.invokestatic 95, 3) := by decide +kernel
theorem dX4_takeWord_23 : decode cX4_takeWord 23 = .ok (.iload_n 2, 1) := by decide +kernel
theorem dX4_takeWord_24 : decode cX4_takeWord 24 = .ok (.iload_n 3, 1) := by decide +kernel
theorem dX4_takeWord_25 : decode cX4_takeWord 25 = .ok (.invokevirtual 99, 3) := by decide +kernel
theorem dX4_takeWord_28 : decode cX4_takeWord 28 = .ok (.ifCond .eq 37, 3) := by decide +kernel
theorem dX4_takeWord_31 : decode cX4_takeWord 31 = .ok (.aload_n 0, 1) := by decide +kernel
theorem dX4_takeWord_32 : decode cX4_takeWord 32 = .ok (.getfield 15, 3) := by decide +kernel
theorem dX4_takeWord_35 : decode cX4_takeWord 35 = .ok (.iload_n 1, 1) := by decide +kernel
theorem dX4_takeWord_36 : decode cX4_takeWord 36 = .ok (.iload 4, 2) := by decide +kernel
theorem dX4_takeWord_38 : decode cX4_takeWord 38 = .ok (.bipush 6, 2) := by decide +kernel
theorem dX4_takeWord_40 : decode cX4_takeWord 40 = .ok (.if_icmp .ge 7, 3) := by decide +kernel
theorem dX4_takeWord_43 : decode cX4_takeWord 43 = .ok (.iconst 3, 1) := by decide +kernel
theorem dX4_takeWord_44 : decode cX4_takeWord 44 = .ok (.goto 10, 3) := by decide +kernel
theorem dX4_takeWord_47 : decode cX4_takeWord 47 = .ok (.iconst 4, 1) := by decide +kernel
theorem dX4_takeWord_48 : decode cX4_takeWord 48 = .ok (.iload 4, 2) := by decide +kernel
theorem dX4_takeWord_50 : decode cX4_takeWord 50 = .ok (.iadd, 1) := by decide +kernel
theorem dX4_takeWord_51 : decode cX4_takeWord 51 = .ok (.bipush 6, 2) := by decide +kernel
theorem dX4_takeWord_53 : decode cX4_takeWord 53 = .ok (.isub, 1) := by decide +kernel
theorem dX4_takeWord_54 : decode cX4_takeWord 54 = .ok (.iastore, 1) := by decide +kernel
theorem dX4_takeWord_55 : decode cX4_takeWord 55 = .ok (.aload_n 0, 1) := by decide +kernel
theorem dX4_takeWord_56 : decode cX4_takeWord 56 = .ok (.getfield 21, 3) := by decide +kernel
theorem dX4_takeWord_59 : decode cX4_takeWord 59 = .ok (.iload_n 1, 1) := by decide +kernel
theorem dX4_takeWord_60 : decode cX4_takeWord 60 = .ok (.iconst (-1), 1) := by decide +kernel
theorem dX4_takeWord_61 : decode cX4_takeWord 61 = .ok (.iload 4, 2) := by decide +kernel
theorem dX4_takeWord_63 : decode cX4_takeWord 63 = .ok (.isub, 1) := by decide +kernel
theorem dX4_takeWord_64 : decode cX4_takeWord 64 = .ok (.iastore, 1) := by decide +kernel
theorem dX4_takeWord_65 : decode cX4_takeWord 65 = .ok (.iinc 4 1, 3) := by decide +kernel
theorem dX4_takeWord_68 : decode cX4_takeWord 68 = .ok (.goto (-58), 3) := by decide +kernel
theorem dX4_takeWord_71 : decode cX4_takeWord 71 = .ok (.return_, 1) := by decide +kernel
theorem dX4_takeNumber_0 : decode cX4_takeNumber 0 = .ok (.iconst 0, 1) := by decide +kernel
theorem dX4_takeNumber_1 : decode cX4_takeNumber 1 = .ok (.istore 4, 2) := by decide +kernel
theorem dX4_takeNumber_3 : decode cX4_takeNumber 3 = .ok (.iload_n 2, 1) := by decide +kernel
theorem dX4_takeNumber_4 : decode cX4_takeNumber 4 = .ok (.istore 5, 2) := by decide +kernel
theorem dX4_takeNumber_6 : decode cX4_takeNumber 6 = .ok (.iload 5, 2) := by decide +kernel
theorem dX4_takeNumber_8 : decode cX4_takeNumber 8 = .ok (.iload_n 3, 1) := by decide +kernel
theorem dX4_takeNumber_9 : decode cX4_takeNumber 9 = .ok (.if_icmp .ge 27, 3) := by decide +kernel
theorem dX4_takeNumber_12 : decode cX4_takeNumber 12 = .ok (.bipush 10, 2) := by decide +kernel
theorem dX4_takeNumber_14 : decode cX4_takeNumber 14 = .ok (.iload 4, 2) := by decide +kernel
theorem dX4_takeNumber_16 : decode cX4_takeNumber 16 = .ok (.imul, 1) := by decide +kernel
theorem dX4_takeNumber_17 : decode cX4_takeNumber 17 = .ok (.aload_n 0, 1) := by decide +kernel
theorem dX4_takeNumber_18 : decode cX4_takeNumber 18 = .ok (.getfield 9, 3) := by decide +kernel
theorem dX4_takeNumber_21 : decode cX4_takeNumber 21 = .ok (.iload 5, 2) := by decide +kernel
theorem dX4_takeNumber_23 : decode cX4_takeNumber 23 = .ok (.iaload, 1) := by decide +kernel
theorem dX4_takeNumber_24 : decode cX4_takeNumber 24 = .ok (.iadd, 1) := by decide +kernel
theorem dX4_takeNumber_25 : decode cX4_takeNumber 25 = .ok (.bipush 48, 2) := by decide +kernel
theorem dX4_takeNumber_27 : decode cX4_takeNumber 27 = .ok (.isub, 1) := by decide +kernel
theorem dX4_takeNumber_28 : decode cX4_takeNumber 28 = .ok (.istore 4, 2) := by decide +kernel
theorem dX4_takeNumber_30 : decode cX4_takeNumber 30 = .ok (.iinc 5 1, 3) := by decide +kernel
theorem dX4_takeNumber_33 : decode cX4_takeNumber 33 = .ok (.goto (-27), 3) := by decide +kernel
theorem dX4_takeNumber_36 : decode cX4_takeNumber 36 = .ok (.aload_n 0, 1) := by decide +kernel
theorem dX4_takeNumber_37 : decode cX4_takeNumber 37 = .ok (.getfield 15, 3) := by decide +kernel
theorem dX4_takeNumber_40 : decode cX4_takeNumber 40 = .ok (.iload_n 1, 1) := by decide +kernel
theorem dX4_takeNumber_41 : decode cX4_takeNumber 41 = .ok (.iload_n 3, 1) := by decide +kernel
theorem dX4_takeNumber_42 : decode cX4_takeNumber 42 = .ok (.iload_n 2, 1) := by decide +kernel
theorem dX4_takeNumber_43 : decode cX4_takeNumber 43 = .ok (.isub, 1) := by decide +kernel
theorem dX4_takeNumber_44 : decode cX4_takeNumber 44 = .ok (.iconst 4, 1) := by decide +kernel
theorem dX4_takeNumber_45 : decode cX4_takeNumber 45 = .ok (.if_icmp .le 7, 3) := by decide +kernel
theorem dX4_takeNumber_48 : decode cX4_takeNumber 48 = .ok (.iconst 1, 1) := by decide +kernel
theorem dX4_takeNumber_49 : decode cX4_takeNumber 49 = .ok (.goto 4, 3) := by decide +kernel
theorem dX4_takeNumber_52 : decode cX4_takeNumber 52 = .ok (.iconst 2, 1) := by decide +kernel
theorem dX4_takeNumber_53 : decode cX4_takeNumber 53 = .ok (.iastore, 1) := by decide +kernel
theorem dX4_takeNumber_54 : decode cX4_takeNumber 54 = .ok (.aload_n 0, 1) := by decide +kernel
theorem dX4_takeNumber_55 : decode cX4_takeNumber 55 = .ok (.getfield 21, 3) := by decide +kernel
theorem dX4_takeNumber_58 : decode cX4_takeNumber 58 = .ok (.iload_n 1, 1) := by decide +kernel
theorem dX4_takeNumber_59 : decode cX4_takeNumber 59 = .ok (.iload 4, 2) := by decide +kernel
theorem dX4_takeNumber_61 : decode cX4_takeNumber 61 = .ok (.iastore, 1) := by decide +kernel
theorem dX4_takeNumber_62 : decode cX4_takeNumber 62 = .ok (.return_, 1) := by decide +kernel
theorem dX4_isWord_0 : decode cX4_isWord 0 = .ok (.aload_n 1, 1) := by decide +kernel
theorem dX4_isWord_1 : decode cX4_isWord 1 = .ok (.invokevirtual 35, 3) := by decide +kernel
theorem dX4_isWord_4 : decode cX4_isWord 4 = .ok (.iload_n 3, 1) := by decide +kernel
theorem dX4_isWord_5 : decode cX4_isWord 5 = .ok (.iload_n 2, 1) := by decide +kernel
theorem dX4_isWord_6 : decode cX4_isWord 6 = .ok (.isub, 1) := by decide +kernel
theorem dX4_isWord_7 : decode cX4_isWord 7 = .ok (.if_icmp .ne 7, 3) := by decide +kernel
theorem dX4_isWord_10 : decode cX4_isWord 10 = .ok (.iconst 1, 1) := by decide +kernel
theorem dX4_isWord_11 : decode cX4_isWord 11 = .ok (.goto 4, 3) := by decide +kernel
theorem dX4_isWord_14 : decode cX4_isWord 14 = .ok (.iconst 0, 1) := by decide +kernel
theorem dX4_isWord_15 : decode cX4_isWord 15 = .ok (.istore 4, 2) := by decide +kernel
theorem dX4_isWord_17 : decode cX4_isWord 17 = .ok (.iconst 0, 1) := by decide +kernel
theorem dX4_isWord_18 : decode cX4_isWord 18 = .ok (.istore 5, 2) := by decide +kernel
theorem dX4_isWord_20 : decode cX4_isWord 20 = .ok (.iload 4, 2) := by decide +kernel
theorem dX4_isWord_22 : decode cX4_isWord 22 = .ok (.ifCond .eq 43, 3) := by decide +kernel
theorem dX4_isWord_25 : decode cX4_isWord 25 = .ok (.iload 5, 2) := by decide +kernel
theorem dX4_isWord_27 : decode cX4_isWord 27 = .ok (.aload_n 1, 1) := by decide +kernel
theorem dX4_isWord_28 : decode cX4_isWord 28 = .ok (.invokevirtual 35, 3) := by decide +kernel
theorem dX4_isWord_31 : decode cX4_isWord 31 = .ok (.if_icmp .ge 34, 3) := by decide +kernel
theorem dX4_isWord_34 : decode cX4_isWord 34 = .ok (.aload_n 1, 1) := by decide +kernel
theorem dX4_isWord_35 : decode cX4_isWord 35 = .ok (.iload 5, 2) := by decide +kernel
theorem dX4_isWord_37 : decode cX4_isWord 37 = .ok (.invokevirtual 41, 3) := by decide +kernel
theorem dX4_isWord_40 : decode cX4_isWord 40 = .ok (.aload_n 0, 1) := by decide +kernel
theorem dX4_isWord_41 : decode cX4_isWord 41 = .ok (.getfield 9, 3) := by decide +kernel
theorem dX4_isWord_44 : decode cX4_isWord 44 = .ok (.iload_n 2, 1) := by decide +kernel
theorem dX4_isWord_45 : decode cX4_isWord 45 = .ok (.iload 5, 2) := by decide +kernel
theorem dX4_isWord_47 : decode cX4_isWord 47 = .ok (.iadd, 1) := by decide +kernel
theorem dX4_isWord_48 : decode cX4_isWord 48 = .ok (.iaload, 1) := by decide +kernel
theorem dX4_isWord_49 : decode cX4_isWord 49 = .ok (.if_icmp .ne 7, 3) := by decide +kernel
theorem dX4_isWord_52 : decode cX4_isWord 52 = .ok (.iconst 1, 1) := by decide +kernel
theorem dX4_isWord_53 : decode cX4_isWord 53 = .ok (.goto 4, 3) := by decide +kernel
theorem dX4_isWord_56 : decode cX4_isWord 56 = .ok (.iconst 0, 1) := by decide +kernel
theorem dX4_isWord_57 : decode cX4_isWord 57 = .ok (.istore 4, 2) := by decide +kernel
theorem dX4_isWord_59 : decode cX4_isWord 59 = .ok (.iinc 5 1, 3) := by decide +kernel
theorem dX4_isWord_62 : decode cX4_isWord 62 = .ok (.goto (-42), 3) := by decide +kernel
theorem dX4_isWord_65 : decode cX4_isWord 65 = .ok (.iload 4, 2) := by decide +kernel
theorem dX4_isWord_67 : decode cX4_isWord 67 = .ok (.ireturn, 1) := by decide +kernel
theorem dX4_wordOf_0 : decode cX4_wordOf 0 = .ok (.iload_n 0, 1) := by decide +kernel
theorem dX4_wordOf_1 : decode cX4_wordOf 1 = .ok (.tableswitch 92 0 10 #[59, 62, 65, 68, 71, 74, 77, 80, 83, 86, 89], 59) := by decide +kernel
theorem dX4_wordOf_60 : decode cX4_wordOf 60 = .ok (.ldc 103, 2) := by decide +kernel
theorem dX4_wordOf_62 : decode cX4_wordOf 62 = .ok (.areturn, 1) := by decide +kernel
theorem dX4_wordOf_63 : decode cX4_wordOf 63 = .ok (.ldc 105, 2) := by decide +kernel
theorem dX4_wordOf_65 : decode cX4_wordOf 65 = .ok (.areturn, 1) := by decide +kernel
theorem dX4_wordOf_66 : decode cX4_wordOf 66 = .ok (.ldc 107, 2) := by decide +kernel
theorem dX4_wordOf_68 : decode cX4_wordOf 68 = .ok (.areturn, 1) := by decide +kernel
theorem dX4_wordOf_69 : decode cX4_wordOf 69 = .ok (.ldc 109, 2) := by decide +kernel
theorem dX4_wordOf_71 : decode cX4_wordOf 71 = .ok (.areturn, 1) := by decide +kernel
theorem dX4_wordOf_72 : decode cX4_wordOf 72 = .ok (.ldc 111, 2) := by decide +kernel
theorem dX4_wordOf_74 : decode cX4_wordOf 74 = .ok (.areturn, 1) := by decide +kernel
theorem dX4_wordOf_75 : decode cX4_wordOf 75 = .ok (.ldc 113, 2) := by decide +kernel
theorem dX4_wordOf_77 : decode cX4_wordOf 77 = .ok (.areturn, 1) := by decide +kernel
theorem dX4_wordOf_78 : decode cX4_wordOf 78 = .ok (.ldc 115, 2) := by decide +kernel
theorem dX4_wordOf_80 : decode cX4_wordOf 80 = .ok (.areturn, 1) := by decide +kernel
theorem dX4_wordOf_81 : decode cX4_wordOf 81 = .ok (.ldc 117, 2) := by decide +kernel
theorem dX4_wordOf_83 : decode cX4_wordOf 83 = .ok (.areturn, 1) := by decide +kernel
theorem dX4_wordOf_84 : decode cX4_wordOf 84 = .ok (.ldc 119, 2) := by decide +kernel
theorem dX4_wordOf_86 : decode cX4_wordOf 86 = .ok (.areturn, 1) := by decide +kernel
theorem dX4_wordOf_87 : decode cX4_wordOf 87 = .ok (.ldc 121, 2) := by decide +kernel
theorem dX4_wordOf_89 : decode cX4_wordOf 89 = .ok (.areturn, 1) := by decide +kernel
theorem dX4_wordOf_90 : decode cX4_wordOf 90 = .ok (.ldc 123, 2) := by decide +kernel
theorem dX4_wordOf_92 : decode cX4_wordOf 92 = .ok (.areturn, 1) := by decide +kernel
theorem dX4_wordOf_93 : decode cX4_wordOf 93 = .ok (.ldc 125, 2) := by decide +kernel
theorem dX4_wordOf_95 : decode cX4_wordOf 95 = .ok (.areturn, 1) := by decide +kernel
theorem dX4_isBlank_0 : decode cX4_isBlank 0 = .ok (.iload_n 0, 1) := by decide +kernel
theorem dX4_isBlank_1 : decode cX4_isBlank 1 = .ok (.bipush 32, 2) := by decide +kernel
theorem dX4_isBlank_3 : decode cX4_isBlank 3 = .ok (.if_icmp .eq 9, 3) := by decide +kernel
theorem dX4_isBlank_6 : decode cX4_isBlank 6 = .ok (.iload_n 0, 1) := by decide +kernel
theorem dX4_isBlank_7 : decode cX4_isBlank 7 = .ok (.bipush 10, 2) := by decide +kernel
theorem dX4_isBlank_9 : decode cX4_isBlank 9 = .ok (.if_icmp .ne 7, 3) := by decide +kernel
theorem dX4_isBlank_12 : decode cX4_isBlank 12 = .ok (.iconst 1, 1) := by decide +kernel
theorem dX4_isBlank_13 : decode cX4_isBlank 13 = .ok (.goto 4, 3) := by decide +kernel
theorem dX4_isBlank_16 : decode cX4_isBlank 16 = .ok (.iconst 0, 1) := by decide +kernel
theorem dX4_isBlank_17 : decode cX4_isBlank 17 = .ok (.ireturn, 1) := by decide +kernel
theorem dX4_isLetter_0 : decode cX4_isLetter 0 = .ok (.bipush 97, 2) := by decide +kernel
theorem dX4_isLetter_2 : decode cX4_isLetter 2 = .ok (.iload_n 0, 1) := by decide +kernel
theorem dX4_isLetter_3 : decode cX4_isLetter 3 = .ok (.if_icmp .gt 13, 3) := by decide +kernel
theorem dX4_isLetter_6 : decode cX4_isLetter 6 = .ok (.iload_n 0, 1) := by decide +kernel
theorem dX4_isLetter_7 : decode cX4_isLetter 7 = .ok (.bipush 122, 2) := by decide +kernel
theorem dX4_isLetter_9 : decode cX4_isLetter 9 = .ok (.if_icmp .gt 7, 3) := by decide +kernel
theorem dX4_isLetter_12 : decode cX4_isLetter 12 = .ok (.iconst 1, 1) := by decide +kernel
theorem dX4_isLetter_13 : decode cX4_isLetter 13 = .ok (.goto 4, 3) := by decide +kernel
theorem dX4_isLetter_16 : decode cX4_isLetter 16 = .ok (.iconst 0, 1) := by decide +kernel
theorem dX4_isLetter_17 : decode cX4_isLetter 17 = .ok (.ireturn, 1) := by decide +kernel
theorem dX4_isDigit_0 : decode cX4_isDigit 0 = .ok (.bipush 48, 2) := by decide +kernel
theorem dX4_isDigit_2 : decode cX4_isDigit 2 = .ok (.iload_n 0, 1) := by decide +kernel
theorem dX4_isDigit_3 : decode cX4_isDigit 3 = .ok (.if_icmp .gt 13, 3) := by decide +kernel
theorem dX4_isDigit_6 : decode cX4_isDigit 6 = .ok (.iload_n 0, 1) := by decide +kernel
theorem dX4_isDigit_7 : decode cX4_isDigit 7 = .ok (.bipush 57, 2) := by decide +kernel
theorem dX4_isDigit_9 : decode cX4_isDigit 9 = .ok (.if_icmp .gt 7, 3) := by decide +kernel
theorem dX4_isDigit_12 : decode cX4_isDigit 12 = .ok (.iconst 1, 1) := by decide +kernel
theorem dX4_isDigit_13 : decode cX4_isDigit 13 = .ok (.goto 4, 3) := by decide +kernel
theorem dX4_isDigit_16 : decode cX4_isDigit 16 = .ok (.iconst 0, 1) := by decide +kernel
theorem dX4_isDigit_17 : decode cX4_isDigit 17 = .ok (.ireturn, 1) := by decide +kernel
theorem dX4_isSign_0 : decode cX4_isSign 0 = .ok (.ldc 127, 2) := by decide +kernel
theorem dX4_isSign_2 : decode cX4_isSign 2 = .ok (.iload_n 0, 1) := by decide +kernel
theorem dX4_isSign_3 : decode cX4_isSign 3 = .ok (.i2c, 1) := by decide +kernel
theorem dX4_isSign_4 : decode cX4_isSign 4 = .ok (.invokevirtual 129, 3) := by decide +kernel
theorem dX4_isSign_7 : decode cX4_isSign 7 = .ok (.ifCond .lt 7, 3) := by decide +kernel
theorem dX4_isSign_10 : decode cX4_isSign 10 = .ok (.iconst 1, 1) := by decide +kernel
theorem dX4_isSign_11 : decode cX4_isSign 11 = .ok (.goto 4, 3) := by decide +kernel
theorem dX4_isSign_14 : decode cX4_isSign 14 = .ok (.iconst 0, 1) := by decide +kernel
theorem dX4_isSign_15 : decode cX4_isSign 15 = .ok (.ireturn, 1) := by decide +kernel
theorem dX4_readPart_0 : decode cX4_readPart 0 = .ok (.aload_n 0, 1) := by decide +kernel
theorem dX4_readPart_1 : decode cX4_readPart 1 = .ok (.iconst 4, 1) := by decide +kernel
theorem dX4_readPart_2 : decode cX4_readPart 2 = .ok (.iload_n 1, 1) := by decide +kernel
theorem dX4_readPart_3 : decode cX4_readPart 3 = .ok (.iadd, 1) := by decide +kernel
theorem dX4_readPart_4 : decode cX4_readPart 4 = .ok (.invokevirtual 132, 3) := by decide +kernel
theorem dX4_readPart_7 : decode cX4_readPart 7 = .ok (.ifCond .eq 20, 3) := by decide +kernel
theorem dX4_readPart_10 : decode cX4_readPart 10 = .ok (.aload_n 0, 1) := by decide +kernel
theorem dX4_readPart_11 : decode cX4_readPart 11 = .ok (.iconst 0, 1) := by decide +kernel
theorem dX4_readPart_12 : decode cX4_readPart 12 = .ok (.invokevirtual 135, 3) := by decide +kernel
theorem dX4_readPart_15 : decode cX4_readPart 15 = .ok (.ifCond .eq 12, 3) := by decide +kernel
theorem dX4_readPart_18 : decode cX4_readPart 18 = .ok (.aload_n 0, 1) := by decide +kernel
theorem dX4_readPart_19 : decode cX4_readPart 19 = .ok (.bipush 59, 2) := by decide +kernel
theorem dX4_readPart_21 : decode cX4_readPart 21 = .ok (.invokevirtual 132, 3) := by decide +kernel
theorem dX4_readPart_24 : decode cX4_readPart 24 = .ok (.ifCond .ne 5, 3) := by decide +kernel
theorem dX4_readPart_27 : decode cX4_readPart 27 = .ok (.iconst 0, 1) := by decide +kernel
theorem dX4_readPart_28 : decode cX4_readPart 28 = .ok (.ireturn, 1) := by decide +kernel
theorem dX4_readPart_29 : decode cX4_readPart 29 = .ok (.aload_n 0, 1) := by decide +kernel
theorem dX4_readPart_30 : decode cX4_readPart 30 = .ok (.getfield 27, 3) := by decide +kernel
theorem dX4_readPart_33 : decode cX4_readPart 33 = .ok (.getfield 138, 3) := by decide +kernel
theorem dX4_readPart_36 : decode cX4_readPart 36 = .ok (.iload_n 1, 1) := by decide +kernel
theorem dX4_readPart_37 : decode cX4_readPart 37 = .ok (.aload_n 0, 1) := by decide +kernel
theorem dX4_readPart_38 : decode cX4_readPart 38 = .ok (.getfield 52, 3) := by decide +kernel
theorem dX4_readPart_41 : decode cX4_readPart 41 = .ok (.iastore, 1) := by decide +kernel
theorem dX4_readPart_42 : decode cX4_readPart 42 = .ok (.iconst 1, 1) := by decide +kernel
theorem dX4_readPart_43 : decode cX4_readPart 43 = .ok (.ireturn, 1) := by decide +kernel
theorem dX4_readOr_0 : decode cX4_readOr 0 = .ok (.aload_n 0, 1) := by decide +kernel
theorem dX4_readOr_1 : decode cX4_readOr 1 = .ok (.iload_n 1, 1) := by decide +kernel
theorem dX4_readOr_2 : decode cX4_readOr 2 = .ok (.invokevirtual 141, 3) := by decide +kernel
theorem dX4_readOr_5 : decode cX4_readOr 5 = .ok (.istore_n 2, 1) := by decide +kernel
theorem dX4_readOr_6 : decode cX4_readOr 6 = .ok (.iconst 0, 1) := by decide +kernel
theorem dX4_readOr_7 : decode cX4_readOr 7 = .ok (.istore_n 3, 1) := by decide +kernel
theorem dX4_readOr_8 : decode cX4_readOr 8 = .ok (.iload_n 3, 1) := by decide +kernel
theorem dX4_readOr_9 : decode cX4_readOr 9 = .ok (.sipush 160, 3) := by decide +kernel
theorem dX4_readOr_12 : decode cX4_readOr 12 = .ok (.if_icmp .ge 34, 3) := by decide +kernel
theorem dX4_readOr_15 : decode cX4_readOr 15 = .ok (.iload_n 2, 1) := by decide +kernel
theorem dX4_readOr_16 : decode cX4_readOr 16 = .ok (.ifCond .eq 30, 3) := by decide +kernel
theorem dX4_readOr_19 : decode cX4_readOr 19 = .ok (.aload_n 0, 1) := by decide +kernel
theorem dX4_readOr_20 : decode cX4_readOr 20 = .ok (.bipush 7, 2) := by decide +kernel
theorem dX4_readOr_22 : decode cX4_readOr 22 = .ok (.invokevirtual 132, 3) := by decide +kernel
theorem dX4_readOr_25 : decode cX4_readOr 25 = .ok (.ifCond .eq 21, 3) := by decide +kernel
theorem dX4_readOr_28 : decode cX4_readOr 28 = .ok (.aload_n 0, 1) := by decide +kernel
theorem dX4_readOr_29 : decode cX4_readOr 29 = .ok (.iload_n 1, 1) := by decide +kernel
theorem dX4_readOr_30 : decode cX4_readOr 30 = .ok (.invokevirtual 141, 3) := by decide +kernel
theorem dX4_readOr_33 : decode cX4_readOr 33 = .ok (.istore_n 2, 1) := by decide +kernel
theorem dX4_readOr_34 : decode cX4_readOr 34 = .ok (.aload_n 0, 1) := by decide +kernel
theorem dX4_readOr_35 : decode cX4_readOr 35 = .ok (.bipush (-9), 2) := by decide +kernel
theorem dX4_readOr_37 : decode cX4_readOr 37 = .ok (.invokevirtual 144, 3) := by decide +kernel
theorem dX4_readOr_40 : decode cX4_readOr 40 = .ok (.iinc 3 1, 3) := by decide +kernel
theorem dX4_readOr_43 : decode cX4_readOr 43 = .ok (.goto (-35), 3) := by decide +kernel
theorem dX4_readOr_46 : decode cX4_readOr 46 = .ok (.iload_n 2, 1) := by decide +kernel
theorem dX4_readOr_47 : decode cX4_readOr 47 = .ok (.ireturn, 1) := by decide +kernel
theorem dX4_readAnd_0 : decode cX4_readAnd 0 = .ok (.aload_n 0, 1) := by decide +kernel
theorem dX4_readAnd_1 : decode cX4_readAnd 1 = .ok (.iload_n 1, 1) := by decide +kernel
theorem dX4_readAnd_2 : decode cX4_readAnd 2 = .ok (.invokevirtual 147, 3) := by decide +kernel
theorem dX4_readAnd_5 : decode cX4_readAnd 5 = .ok (.istore_n 2, 1) := by decide +kernel
theorem dX4_readAnd_6 : decode cX4_readAnd 6 = .ok (.iconst 0, 1) := by decide +kernel
theorem dX4_readAnd_7 : decode cX4_readAnd 7 = .ok (.istore_n 3, 1) := by decide +kernel
theorem dX4_readAnd_8 : decode cX4_readAnd 8 = .ok (.iload_n 3, 1) := by decide +kernel
theorem dX4_readAnd_9 : decode cX4_readAnd 9 = .ok (.sipush 160, 3) := by decide +kernel
theorem dX4_readAnd_12 : decode cX4_readAnd 12 = .ok (.if_icmp .ge 34, 3) := by decide +kernel
theorem dX4_readAnd_15 : decode cX4_readAnd 15 = .ok (.iload_n 2, 1) := by decide +kernel
theorem dX4_readAnd_16 : decode cX4_readAnd 16 = .ok (.ifCond .eq 30, 3) := by decide +kernel
theorem dX4_readAnd_19 : decode cX4_readAnd 19 = .ok (.aload_n 0, 1) := by decide +kernel
theorem dX4_readAnd_20 : decode cX4_readAnd 20 = .ok (.bipush 8, 2) := by decide +kernel
theorem dX4_readAnd_22 : decode cX4_readAnd 22 = .ok (.invokevirtual 132, 3) := by decide +kernel
theorem dX4_readAnd_25 : decode cX4_readAnd 25 = .ok (.ifCond .eq 21, 3) := by decide +kernel
theorem dX4_readAnd_28 : decode cX4_readAnd 28 = .ok (.aload_n 0, 1) := by decide +kernel
theorem dX4_readAnd_29 : decode cX4_readAnd 29 = .ok (.iload_n 1, 1) := by decide +kernel
theorem dX4_readAnd_30 : decode cX4_readAnd 30 = .ok (.invokevirtual 147, 3) := by decide +kernel
theorem dX4_readAnd_33 : decode cX4_readAnd 33 = .ok (.istore_n 2, 1) := by decide +kernel
theorem dX4_readAnd_34 : decode cX4_readAnd 34 = .ok (.aload_n 0, 1) := by decide +kernel
theorem dX4_readAnd_35 : decode cX4_readAnd 35 = .ok (.bipush (-10), 2) := by decide +kernel
theorem dX4_readAnd_37 : decode cX4_readAnd 37 = .ok (.invokevirtual 144, 3) := by decide +kernel
theorem dX4_readAnd_40 : decode cX4_readAnd 40 = .ok (.iinc 3 1, 3) := by decide +kernel
theorem dX4_readAnd_43 : decode cX4_readAnd 43 = .ok (.goto (-35), 3) := by decide +kernel
theorem dX4_readAnd_46 : decode cX4_readAnd 46 = .ok (.iload_n 2, 1) := by decide +kernel
theorem dX4_readAnd_47 : decode cX4_readAnd 47 = .ok (.ireturn, 1) := by decide +kernel
theorem dX4_readNot_0 : decode cX4_readNot 0 = .ok (.aload_n 0, 1) := by decide +kernel
theorem dX4_readNot_1 : decode cX4_readNot 1 = .ok (.invokevirtual 62, 3) := by decide +kernel
theorem dX4_readNot_4 : decode cX4_readNot 4 = .ok (.bipush 9, 2) := by decide +kernel
theorem dX4_readNot_6 : decode cX4_readNot 6 = .ok (.if_icmp .eq 9, 3) := by decide +kernel
theorem dX4_readNot_9 : decode cX4_readNot 9 = .ok (.aload_n 0, 1) := by decide +kernel
theorem dX4_readNot_10 : decode cX4_readNot 10 = .ok (.iload_n 1, 1) := by decide +kernel
theorem dX4_readNot_11 : decode cX4_readNot 11 = .ok (.invokevirtual 150, 3) := by decide +kernel
theorem dX4_readNot_14 : decode cX4_readNot 14 = .ok (.ireturn, 1) := by decide +kernel
theorem dX4_readNot_15 : decode cX4_readNot 15 = .ok (.iload_n 1, 1) := by decide +kernel
theorem dX4_readNot_16 : decode cX4_readNot 16 = .ok (.iconst 5, 1) := by decide +kernel
theorem dX4_readNot_17 : decode cX4_readNot 17 = .ok (.if_icmp .lt 5, 3) := by decide +kernel
theorem dX4_readNot_20 : decode cX4_readNot 20 = .ok (.iconst 0, 1) := by decide +kernel
theorem dX4_readNot_21 : decode cX4_readNot 21 = .ok (.ireturn, 1) := by decide +kernel
theorem dX4_readNot_22 : decode cX4_readNot 22 = .ok (.aload_n 0, 1) := by decide +kernel
theorem dX4_readNot_23 : decode cX4_readNot 23 = .ok (.dup, 1) := by decide +kernel
theorem dX4_readNot_24 : decode cX4_readNot 24 = .ok (.getfield 55, 3) := by decide +kernel
theorem dX4_readNot_27 : decode cX4_readNot 27 = .ok (.iconst 1, 1) := by decide +kernel
theorem dX4_readNot_28 : decode cX4_readNot 28 = .ok (.iadd, 1) := by decide +kernel
theorem dX4_readNot_29 : decode cX4_readNot 29 = .ok (.putfield 55, 3) := by decide +kernel
theorem dX4_readNot_32 : decode cX4_readNot 32 = .ok (.aload_n 0, 1) := by decide +kernel
theorem dX4_readNot_33 : decode cX4_readNot 33 = .ok (.iload_n 1, 1) := by decide +kernel
theorem dX4_readNot_34 : decode cX4_readNot 34 = .ok (.iconst 1, 1) := by decide +kernel
theorem dX4_readNot_35 : decode cX4_readNot 35 = .ok (.iadd, 1) := by decide +kernel
theorem dX4_readNot_36 : decode cX4_readNot 36 = .ok (.invokevirtual 147, 3) := by decide +kernel
theorem dX4_readNot_39 : decode cX4_readNot 39 = .ok (.istore_n 2, 1) := by decide +kernel
theorem dX4_readNot_40 : decode cX4_readNot 40 = .ok (.aload_n 0, 1) := by decide +kernel
theorem dX4_readNot_41 : decode cX4_readNot 41 = .ok (.bipush (-7), 2) := by decide +kernel
theorem dX4_readNot_43 : decode cX4_readNot 43 = .ok (.invokevirtual 144, 3) := by decide +kernel
theorem dX4_readNot_46 : decode cX4_readNot 46 = .ok (.iload_n 2, 1) := by decide +kernel
theorem dX4_readNot_47 : decode cX4_readNot 47 = .ok (.ireturn, 1) := by decide +kernel
theorem dX4_readCompared_0 : decode cX4_readCompared 0 = .ok (.aload_n 0, 1) := by decide +kernel
theorem dX4_readCompared_1 : decode cX4_readCompared 1 = .ok (.iload_n 1, 1) := by decide +kernel
theorem dX4_readCompared_2 : decode cX4_readCompared 2 = .ok (.invokevirtual 153, 3) := by decide +kernel
theorem dX4_readCompared_5 : decode cX4_readCompared 5 = .ok (.ifCond .ne 5, 3) := by decide +kernel
theorem dX4_readCompared_8 : decode cX4_readCompared 8 = .ok (.iconst 0, 1) := by decide +kernel
theorem dX4_readCompared_9 : decode cX4_readCompared 9 = .ok (.ireturn, 1) := by decide +kernel
theorem dX4_readCompared_10 : decode cX4_readCompared 10 = .ok (.aload_n 0, 1) := by decide +kernel
theorem dX4_readCompared_11 : decode cX4_readCompared 11 = .ok (.invokevirtual 62, 3) := by decide +kernel
theorem dX4_readCompared_14 : decode cX4_readCompared 14 = .ok (.bipush 60, 2) := by decide +kernel
theorem dX4_readCompared_16 : decode cX4_readCompared 16 = .ok (.if_icmp .ne 8, 3) := by decide +kernel
theorem dX4_readCompared_19 : decode cX4_readCompared 19 = .ok (.bipush (-11), 2) := by decide +kernel
theorem dX4_readCompared_21 : decode cX4_readCompared 21 = .ok (.goto 5, 3) := by decide +kernel
theorem dX4_readCompared_24 : decode cX4_readCompared 24 = .ok (.bipush (-12), 2) := by decide +kernel
theorem dX4_readCompared_26 : decode cX4_readCompared 26 = .ok (.istore_n 2, 1) := by decide +kernel
theorem dX4_readCompared_27 : decode cX4_readCompared 27 = .ok (.aload_n 0, 1) := by decide +kernel
theorem dX4_readCompared_28 : decode cX4_readCompared 28 = .ok (.bipush 60, 2) := by decide +kernel
theorem dX4_readCompared_30 : decode cX4_readCompared 30 = .ok (.invokevirtual 132, 3) := by decide +kernel
theorem dX4_readCompared_33 : decode cX4_readCompared 33 = .ok (.ifCond .ne 14, 3) := by decide +kernel
theorem dX4_readCompared_36 : decode cX4_readCompared 36 = .ok (.aload_n 0, 1) := by decide +kernel
theorem dX4_readCompared_37 : decode cX4_readCompared 37 = .ok (.bipush 61, 2) := by decide +kernel
theorem dX4_readCompared_39 : decode cX4_readCompared 39 = .ok (.invokevirtual 132, 3) := by decide +kernel
theorem dX4_readCompared_42 : decode cX4_readCompared 42 = .ok (.ifCond .ne 5, 3) := by decide +kernel
theorem dX4_readCompared_45 : decode cX4_readCompared 45 = .ok (.iconst 1, 1) := by decide +kernel
theorem dX4_readCompared_46 : decode cX4_readCompared 46 = .ok (.ireturn, 1) := by decide +kernel
theorem dX4_readCompared_47 : decode cX4_readCompared 47 = .ok (.aload_n 0, 1) := by decide +kernel
theorem dX4_readCompared_48 : decode cX4_readCompared 48 = .ok (.iload_n 1, 1) := by decide +kernel
theorem dX4_readCompared_49 : decode cX4_readCompared 49 = .ok (.invokevirtual 153, 3) := by decide +kernel
theorem dX4_readCompared_52 : decode cX4_readCompared 52 = .ok (.istore_n 3, 1) := by decide +kernel
theorem dX4_readCompared_53 : decode cX4_readCompared 53 = .ok (.aload_n 0, 1) := by decide +kernel
theorem dX4_readCompared_54 : decode cX4_readCompared 54 = .ok (.iload_n 2, 1) := by decide +kernel
theorem dX4_readCompared_55 : decode cX4_readCompared 55 = .ok (.invokevirtual 144, 3) := by decide +kernel
theorem dX4_readCompared_58 : decode cX4_readCompared 58 = .ok (.iload_n 3, 1) := by decide +kernel
theorem dX4_readCompared_59 : decode cX4_readCompared 59 = .ok (.ireturn, 1) := by decide +kernel
theorem dX4_readSum_0 : decode cX4_readSum 0 = .ok (.aload_n 0, 1) := by decide +kernel
theorem dX4_readSum_1 : decode cX4_readSum 1 = .ok (.iload_n 1, 1) := by decide +kernel
theorem dX4_readSum_2 : decode cX4_readSum 2 = .ok (.invokevirtual 156, 3) := by decide +kernel
theorem dX4_readSum_5 : decode cX4_readSum 5 = .ok (.istore_n 2, 1) := by decide +kernel
theorem dX4_readSum_6 : decode cX4_readSum 6 = .ok (.iconst 0, 1) := by decide +kernel
theorem dX4_readSum_7 : decode cX4_readSum 7 = .ok (.istore_n 3, 1) := by decide +kernel
theorem dX4_readSum_8 : decode cX4_readSum 8 = .ok (.iload_n 3, 1) := by decide +kernel
theorem dX4_readSum_9 : decode cX4_readSum 9 = .ok (.sipush 160, 3) := by decide +kernel
theorem dX4_readSum_12 : decode cX4_readSum 12 = .ok (.if_icmp .ge 71, 3) := by decide +kernel
theorem dX4_readSum_15 : decode cX4_readSum 15 = .ok (.iload_n 2, 1) := by decide +kernel
theorem dX4_readSum_16 : decode cX4_readSum 16 = .ok (.ifCond .eq 67, 3) := by decide +kernel
theorem dX4_readSum_19 : decode cX4_readSum 19 = .ok (.aload_n 0, 1) := by decide +kernel
theorem dX4_readSum_20 : decode cX4_readSum 20 = .ok (.invokevirtual 62, 3) := by decide +kernel
theorem dX4_readSum_23 : decode cX4_readSum 23 = .ok (.bipush 43, 2) := by decide +kernel
theorem dX4_readSum_25 : decode cX4_readSum 25 = .ok (.if_icmp .eq 12, 3) := by decide +kernel
theorem dX4_readSum_28 : decode cX4_readSum 28 = .ok (.aload_n 0, 1) := by decide +kernel
theorem dX4_readSum_29 : decode cX4_readSum 29 = .ok (.invokevirtual 62, 3) := by decide +kernel
theorem dX4_readSum_32 : decode cX4_readSum 32 = .ok (.bipush 45, 2) := by decide +kernel
theorem dX4_readSum_34 : decode cX4_readSum 34 = .ok (.if_icmp .ne 49, 3) := by decide +kernel
theorem dX4_readSum_37 : decode cX4_readSum 37 = .ok (.aload_n 0, 1) := by decide +kernel
theorem dX4_readSum_38 : decode cX4_readSum 38 = .ok (.invokevirtual 62, 3) := by decide +kernel
theorem dX4_readSum_41 : decode cX4_readSum 41 = .ok (.bipush 43, 2) := by decide +kernel
theorem dX4_readSum_43 : decode cX4_readSum 43 = .ok (.if_icmp .ne 8, 3) := by decide +kernel
theorem dX4_readSum_46 : decode cX4_readSum 46 = .ok (.bipush (-13), 2) := by decide +kernel
theorem dX4_readSum_48 : decode cX4_readSum 48 = .ok (.goto 5, 3) := by decide +kernel
theorem dX4_readSum_51 : decode cX4_readSum 51 = .ok (.bipush (-14), 2) := by decide +kernel
theorem dX4_readSum_53 : decode cX4_readSum 53 = .ok (.istore 4, 2) := by decide +kernel
theorem dX4_readSum_55 : decode cX4_readSum 55 = .ok (.aload_n 0, 1) := by decide +kernel
theorem dX4_readSum_56 : decode cX4_readSum 56 = .ok (.dup, 1) := by decide +kernel
theorem dX4_readSum_57 : decode cX4_readSum 57 = .ok (.getfield 55, 3) := by decide +kernel
theorem dX4_readSum_60 : decode cX4_readSum 60 = .ok (.iconst 1, 1) := by decide +kernel
theorem dX4_readSum_61 : decode cX4_readSum 61 = .ok (.iadd, 1) := by decide +kernel
theorem dX4_readSum_62 : decode cX4_readSum 62 = .ok (.putfield 55, 3) := by decide +kernel
theorem dX4_readSum_65 : decode cX4_readSum 65 = .ok (.aload_n 0, 1) := by decide +kernel
theorem dX4_readSum_66 : decode cX4_readSum 66 = .ok (.iload_n 1, 1) := by decide +kernel
theorem dX4_readSum_67 : decode cX4_readSum 67 = .ok (.invokevirtual 156, 3) := by decide +kernel
theorem dX4_readSum_70 : decode cX4_readSum 70 = .ok (.istore_n 2, 1) := by decide +kernel
theorem dX4_readSum_71 : decode cX4_readSum 71 = .ok (.aload_n 0, 1) := by decide +kernel
theorem dX4_readSum_72 : decode cX4_readSum 72 = .ok (.iload 4, 2) := by decide +kernel
theorem dX4_readSum_74 : decode cX4_readSum 74 = .ok (.invokevirtual 144, 3) := by decide +kernel
theorem dX4_readSum_77 : decode cX4_readSum 77 = .ok (.iinc 3 1, 3) := by decide +kernel
theorem dX4_readSum_80 : decode cX4_readSum 80 = .ok (.goto (-72), 3) := by decide +kernel
theorem dX4_readSum_83 : decode cX4_readSum 83 = .ok (.iload_n 2, 1) := by decide +kernel
theorem dX4_readSum_84 : decode cX4_readSum 84 = .ok (.ireturn, 1) := by decide +kernel
theorem dX4_readTerm_0 : decode cX4_readTerm 0 = .ok (.aload_n 0, 1) := by decide +kernel
theorem dX4_readTerm_1 : decode cX4_readTerm 1 = .ok (.iload_n 1, 1) := by decide +kernel
theorem dX4_readTerm_2 : decode cX4_readTerm 2 = .ok (.invokevirtual 159, 3) := by decide +kernel
theorem dX4_readTerm_5 : decode cX4_readTerm 5 = .ok (.istore_n 2, 1) := by decide +kernel
theorem dX4_readTerm_6 : decode cX4_readTerm 6 = .ok (.iconst 0, 1) := by decide +kernel
theorem dX4_readTerm_7 : decode cX4_readTerm 7 = .ok (.istore_n 3, 1) := by decide +kernel
theorem dX4_readTerm_8 : decode cX4_readTerm 8 = .ok (.iload_n 3, 1) := by decide +kernel
theorem dX4_readTerm_9 : decode cX4_readTerm 9 = .ok (.sipush 160, 3) := by decide +kernel
theorem dX4_readTerm_12 : decode cX4_readTerm 12 = .ok (.if_icmp .ge 34, 3) := by decide +kernel
theorem dX4_readTerm_15 : decode cX4_readTerm 15 = .ok (.iload_n 2, 1) := by decide +kernel
theorem dX4_readTerm_16 : decode cX4_readTerm 16 = .ok (.ifCond .eq 30, 3) := by decide +kernel
theorem dX4_readTerm_19 : decode cX4_readTerm 19 = .ok (.aload_n 0, 1) := by decide +kernel
theorem dX4_readTerm_20 : decode cX4_readTerm 20 = .ok (.bipush 42, 2) := by decide +kernel
theorem dX4_readTerm_22 : decode cX4_readTerm 22 = .ok (.invokevirtual 132, 3) := by decide +kernel
theorem dX4_readTerm_25 : decode cX4_readTerm 25 = .ok (.ifCond .eq 21, 3) := by decide +kernel
theorem dX4_readTerm_28 : decode cX4_readTerm 28 = .ok (.aload_n 0, 1) := by decide +kernel
theorem dX4_readTerm_29 : decode cX4_readTerm 29 = .ok (.iload_n 1, 1) := by decide +kernel
theorem dX4_readTerm_30 : decode cX4_readTerm 30 = .ok (.invokevirtual 159, 3) := by decide +kernel
theorem dX4_readTerm_33 : decode cX4_readTerm 33 = .ok (.istore_n 2, 1) := by decide +kernel
theorem dX4_readTerm_34 : decode cX4_readTerm 34 = .ok (.aload_n 0, 1) := by decide +kernel
theorem dX4_readTerm_35 : decode cX4_readTerm 35 = .ok (.bipush (-15), 2) := by decide +kernel
theorem dX4_readTerm_37 : decode cX4_readTerm 37 = .ok (.invokevirtual 144, 3) := by decide +kernel
theorem dX4_readTerm_40 : decode cX4_readTerm 40 = .ok (.iinc 3 1, 3) := by decide +kernel
theorem dX4_readTerm_43 : decode cX4_readTerm 43 = .ok (.goto (-35), 3) := by decide +kernel
theorem dX4_readTerm_46 : decode cX4_readTerm 46 = .ok (.iload_n 2, 1) := by decide +kernel
theorem dX4_readTerm_47 : decode cX4_readTerm 47 = .ok (.ireturn, 1) := by decide +kernel
theorem dX4_readOne_0 : decode cX4_readOne 0 = .ok (.aload_n 0, 1) := by decide +kernel
theorem dX4_readOne_1 : decode cX4_readOne 1 = .ok (.invokevirtual 62, 3) := by decide +kernel
theorem dX4_readOne_4 : decode cX4_readOne 4 = .ok (.iconst 2, 1) := by decide +kernel
theorem dX4_readOne_5 : decode cX4_readOne 5 = .ok (.if_icmp .eq 11, 3) := by decide +kernel
theorem dX4_readOne_8 : decode cX4_readOne 8 = .ok (.aload_n 0, 1) := by decide +kernel
theorem dX4_readOne_9 : decode cX4_readOne 9 = .ok (.invokevirtual 62, 3) := by decide +kernel
theorem dX4_readOne_12 : decode cX4_readOne 12 = .ok (.iconst 3, 1) := by decide +kernel
theorem dX4_readOne_13 : decode cX4_readOne 13 = .ok (.if_icmp .ne 28, 3) := by decide +kernel
theorem dX4_readOne_16 : decode cX4_readOne 16 = .ok (.aload_n 0, 1) := by decide +kernel
theorem dX4_readOne_17 : decode cX4_readOne 17 = .ok (.aload_n 0, 1) := by decide +kernel
theorem dX4_readOne_18 : decode cX4_readOne 18 = .ok (.getfield 21, 3) := by decide +kernel
theorem dX4_readOne_21 : decode cX4_readOne 21 = .ok (.aload_n 0, 1) := by decide +kernel
theorem dX4_readOne_22 : decode cX4_readOne 22 = .ok (.getfield 55, 3) := by decide +kernel
theorem dX4_readOne_25 : decode cX4_readOne 25 = .ok (.iaload, 1) := by decide +kernel
theorem dX4_readOne_26 : decode cX4_readOne 26 = .ok (.invokevirtual 144, 3) := by decide +kernel
theorem dX4_readOne_29 : decode cX4_readOne 29 = .ok (.aload_n 0, 1) := by decide +kernel
theorem dX4_readOne_30 : decode cX4_readOne 30 = .ok (.dup, 1) := by decide +kernel
theorem dX4_readOne_31 : decode cX4_readOne 31 = .ok (.getfield 55, 3) := by decide +kernel
theorem dX4_readOne_34 : decode cX4_readOne 34 = .ok (.iconst 1, 1) := by decide +kernel
theorem dX4_readOne_35 : decode cX4_readOne 35 = .ok (.iadd, 1) := by decide +kernel
theorem dX4_readOne_36 : decode cX4_readOne 36 = .ok (.putfield 55, 3) := by decide +kernel
theorem dX4_readOne_39 : decode cX4_readOne 39 = .ok (.iconst 1, 1) := by decide +kernel
theorem dX4_readOne_40 : decode cX4_readOne 40 = .ok (.ireturn, 1) := by decide +kernel
theorem dX4_readOne_41 : decode cX4_readOne 41 = .ok (.iload_n 1, 1) := by decide +kernel
theorem dX4_readOne_42 : decode cX4_readOne 42 = .ok (.iconst 5, 1) := by decide +kernel
theorem dX4_readOne_43 : decode cX4_readOne 43 = .ok (.if_icmp .lt 5, 3) := by decide +kernel
theorem dX4_readOne_46 : decode cX4_readOne 46 = .ok (.iconst 0, 1) := by decide +kernel
theorem dX4_readOne_47 : decode cX4_readOne 47 = .ok (.ireturn, 1) := by decide +kernel
theorem dX4_readOne_48 : decode cX4_readOne 48 = .ok (.aload_n 0, 1) := by decide +kernel
theorem dX4_readOne_49 : decode cX4_readOne 49 = .ok (.bipush 40, 2) := by decide +kernel
theorem dX4_readOne_51 : decode cX4_readOne 51 = .ok (.invokevirtual 132, 3) := by decide +kernel
theorem dX4_readOne_54 : decode cX4_readOne 54 = .ok (.ifCond .eq 28, 3) := by decide +kernel
theorem dX4_readOne_57 : decode cX4_readOne 57 = .ok (.aload_n 0, 1) := by decide +kernel
theorem dX4_readOne_58 : decode cX4_readOne 58 = .ok (.iload_n 1, 1) := by decide +kernel
theorem dX4_readOne_59 : decode cX4_readOne 59 = .ok (.iconst 1, 1) := by decide +kernel
theorem dX4_readOne_60 : decode cX4_readOne 60 = .ok (.iadd, 1) := by decide +kernel
theorem dX4_readOne_61 : decode cX4_readOne 61 = .ok (.invokevirtual 135, 3) := by decide +kernel
theorem dX4_readOne_64 : decode cX4_readOne 64 = .ok (.ifCond .eq 16, 3) := by decide +kernel
theorem dX4_readOne_67 : decode cX4_readOne 67 = .ok (.aload_n 0, 1) := by decide +kernel
theorem dX4_readOne_68 : decode cX4_readOne 68 = .ok (.bipush 41, 2) := by decide +kernel
theorem dX4_readOne_70 : decode cX4_readOne 70 = .ok (.invokevirtual 132, 3) := by decide +kernel
theorem dX4_readOne_73 : decode cX4_readOne 73 = .ok (.ifCond .eq 7, 3) := by decide +kernel
theorem dX4_readOne_76 : decode cX4_readOne 76 = .ok (.iconst 1, 1) := by decide +kernel
theorem dX4_readOne_77 : decode cX4_readOne 77 = .ok (.goto 4, 3) := by decide +kernel
theorem dX4_readOne_80 : decode cX4_readOne 80 = .ok (.iconst 0, 1) := by decide +kernel
theorem dX4_readOne_81 : decode cX4_readOne 81 = .ok (.ireturn, 1) := by decide +kernel
theorem dX4_readOne_82 : decode cX4_readOne 82 = .ok (.aload_n 0, 1) := by decide +kernel
theorem dX4_readOne_83 : decode cX4_readOne 83 = .ok (.bipush 45, 2) := by decide +kernel
theorem dX4_readOne_85 : decode cX4_readOne 85 = .ok (.invokevirtual 132, 3) := by decide +kernel
theorem dX4_readOne_88 : decode cX4_readOne 88 = .ok (.ifCond .ne 5, 3) := by decide +kernel
theorem dX4_readOne_91 : decode cX4_readOne 91 = .ok (.iconst 0, 1) := by decide +kernel
theorem dX4_readOne_92 : decode cX4_readOne 92 = .ok (.ireturn, 1) := by decide +kernel
theorem dX4_readOne_93 : decode cX4_readOne 93 = .ok (.aload_n 0, 1) := by decide +kernel
theorem dX4_readOne_94 : decode cX4_readOne 94 = .ok (.iload_n 1, 1) := by decide +kernel
theorem dX4_readOne_95 : decode cX4_readOne 95 = .ok (.iconst 1, 1) := by decide +kernel
theorem dX4_readOne_96 : decode cX4_readOne 96 = .ok (.iadd, 1) := by decide +kernel
theorem dX4_readOne_97 : decode cX4_readOne 97 = .ok (.invokevirtual 159, 3) := by decide +kernel
theorem dX4_readOne_100 : decode cX4_readOne 100 = .ok (.istore_n 2, 1) := by decide +kernel
theorem dX4_readOne_101 : decode cX4_readOne 101 = .ok (.aload_n 0, 1) := by decide +kernel
theorem dX4_readOne_102 : decode cX4_readOne 102 = .ok (.bipush (-8), 2) := by decide +kernel
theorem dX4_readOne_104 : decode cX4_readOne 104 = .ok (.invokevirtual 144, 3) := by decide +kernel
theorem dX4_readOne_107 : decode cX4_readOne 107 = .ok (.iload_n 2, 1) := by decide +kernel
theorem dX4_readOne_108 : decode cX4_readOne 108 = .ok (.ireturn, 1) := by decide +kernel
theorem dX4_token_0 : decode cX4_token 0 = .ok (.aload_n 0, 1) := by decide +kernel
theorem dX4_token_1 : decode cX4_token 1 = .ok (.getfield 55, 3) := by decide +kernel
theorem dX4_token_4 : decode cX4_token 4 = .ok (.aload_n 0, 1) := by decide +kernel
theorem dX4_token_5 : decode cX4_token 5 = .ok (.getfield 15, 3) := by decide +kernel
theorem dX4_token_8 : decode cX4_token 8 = .ok (.arraylength, 1) := by decide +kernel
theorem dX4_token_9 : decode cX4_token 9 = .ok (.if_icmp .ge 15, 3) := by decide +kernel
theorem dX4_token_12 : decode cX4_token 12 = .ok (.aload_n 0, 1) := by decide +kernel
theorem dX4_token_13 : decode cX4_token 13 = .ok (.getfield 15, 3) := by decide +kernel
theorem dX4_token_16 : decode cX4_token 16 = .ok (.aload_n 0, 1) := by decide +kernel
theorem dX4_token_17 : decode cX4_token 17 = .ok (.getfield 55, 3) := by decide +kernel
theorem dX4_token_20 : decode cX4_token 20 = .ok (.iaload, 1) := by decide +kernel
theorem dX4_token_21 : decode cX4_token 21 = .ok (.goto 4, 3) := by decide +kernel
theorem dX4_token_24 : decode cX4_token 24 = .ok (.iconst 0, 1) := by decide +kernel
theorem dX4_token_25 : decode cX4_token 25 = .ok (.ireturn, 1) := by decide +kernel
theorem dX4_pass_0 : decode cX4_pass 0 = .ok (.aload_n 0, 1) := by decide +kernel
theorem dX4_pass_1 : decode cX4_pass 1 = .ok (.invokevirtual 62, 3) := by decide +kernel
theorem dX4_pass_4 : decode cX4_pass 4 = .ok (.iload_n 1, 1) := by decide +kernel
theorem dX4_pass_5 : decode cX4_pass 5 = .ok (.if_icmp .eq 5, 3) := by decide +kernel
theorem dX4_pass_8 : decode cX4_pass 8 = .ok (.iconst 0, 1) := by decide +kernel
theorem dX4_pass_9 : decode cX4_pass 9 = .ok (.ireturn, 1) := by decide +kernel
theorem dX4_pass_10 : decode cX4_pass 10 = .ok (.aload_n 0, 1) := by decide +kernel
theorem dX4_pass_11 : decode cX4_pass 11 = .ok (.dup, 1) := by decide +kernel
theorem dX4_pass_12 : decode cX4_pass 12 = .ok (.getfield 55, 3) := by decide +kernel
theorem dX4_pass_15 : decode cX4_pass 15 = .ok (.iconst 1, 1) := by decide +kernel
theorem dX4_pass_16 : decode cX4_pass 16 = .ok (.iadd, 1) := by decide +kernel
theorem dX4_pass_17 : decode cX4_pass 17 = .ok (.putfield 55, 3) := by decide +kernel
theorem dX4_pass_20 : decode cX4_pass 20 = .ok (.iconst 1, 1) := by decide +kernel
theorem dX4_pass_21 : decode cX4_pass 21 = .ok (.ireturn, 1) := by decide +kernel
theorem dX4_put_0 : decode cX4_put 0 = .ok (.aload_n 0, 1) := by decide +kernel
theorem dX4_put_1 : decode cX4_put 1 = .ok (.getfield 52, 3) := by decide +kernel
theorem dX4_put_4 : decode cX4_put 4 = .ok (.aload_n 0, 1) := by decide +kernel
theorem dX4_put_5 : decode cX4_put 5 = .ok (.getfield 27, 3) := by decide +kernel
theorem dX4_put_8 : decode cX4_put 8 = .ok (.getfield 162, 3) := by decide +kernel
theorem dX4_put_11 : decode cX4_put 11 = .ok (.arraylength, 1) := by decide +kernel
theorem dX4_put_12 : decode cX4_put 12 = .ok (.if_icmp .ge 26, 3) := by decide +kernel
theorem dX4_put_15 : decode cX4_put 15 = .ok (.aload_n 0, 1) := by decide +kernel
theorem dX4_put_16 : decode cX4_put 16 = .ok (.getfield 27, 3) := by decide +kernel
theorem dX4_put_19 : decode cX4_put 19 = .ok (.getfield 162, 3) := by decide +kernel
theorem dX4_put_22 : decode cX4_put 22 = .ok (.aload_n 0, 1) := by decide +kernel
theorem dX4_put_23 : decode cX4_put 23 = .ok (.getfield 52, 3) := by decide +kernel
theorem dX4_put_26 : decode cX4_put 26 = .ok (.iload_n 1, 1) := by decide +kernel
theorem dX4_put_27 : decode cX4_put 27 = .ok (.iastore, 1) := by decide +kernel
theorem dX4_put_28 : decode cX4_put 28 = .ok (.aload_n 0, 1) := by decide +kernel
theorem dX4_put_29 : decode cX4_put 29 = .ok (.dup, 1) := by decide +kernel
theorem dX4_put_30 : decode cX4_put 30 = .ok (.getfield 52, 3) := by decide +kernel
theorem dX4_put_33 : decode cX4_put 33 = .ok (.iconst 1, 1) := by decide +kernel
theorem dX4_put_34 : decode cX4_put 34 = .ok (.iadd, 1) := by decide +kernel
theorem dX4_put_35 : decode cX4_put 35 = .ok (.putfield 52, 3) := by decide +kernel
theorem dX4_put_38 : decode cX4_put 38 = .ok (.return_, 1) := by decide +kernel
theorem dX5_init_0 : decode cX5_init 0 = .ok (.aload_n 0, 1) := by decide +kernel
theorem dX5_init_1 : decode cX5_init 1 = .ok (.invokespecial 3, 3) := by decide +kernel
theorem dX5_init_4 : decode cX5_init 4 = .ok (.aload_n 0, 1) := by decide +kernel
theorem dX5_init_5 : decode cX5_init 5 = .ok (.bipush 120, 2) := by decide +kernel
theorem dX5_init_7 : decode cX5_init 7 = .ok (.newarray .int, 2) := by decide +kernel
theorem dX5_init_9 : decode cX5_init 9 = .ok (.putfield 9, 3) := by decide +kernel
theorem dX5_init_12 : decode cX5_init 12 = .ok (.aload_n 0, 1) := by decide +kernel
theorem dX5_init_13 : decode cX5_init 13 = .ok (.bipush 120, 2) := by decide +kernel
theorem dX5_init_15 : decode cX5_init 15 = .ok (.newarray .int, 2) := by decide +kernel
theorem dX5_init_17 : decode cX5_init 17 = .ok (.putfield 15, 3) := by decide +kernel
theorem dX5_init_20 : decode cX5_init 20 = .ok (.aload_n 0, 1) := by decide +kernel
theorem dX5_init_21 : decode cX5_init 21 = .ok (.iconst 2, 1) := by decide +kernel
theorem dX5_init_22 : decode cX5_init 22 = .ok (.putfield 18, 3) := by decide +kernel
theorem dX5_init_25 : decode cX5_init 25 = .ok (.aload_n 0, 1) := by decide +kernel
theorem dX5_init_26 : decode cX5_init 26 = .ok (.iconst (-1), 1) := by decide +kernel
theorem dX5_init_27 : decode cX5_init 27 = .ok (.putfield 22, 3) := by decide +kernel
theorem dX5_init_30 : decode cX5_init 30 = .ok (.return_, 1) := by decide +kernel
theorem dX5_become_0 : decode cX5_become 0 = .ok (.aload_n 1, 1) := by decide +kernel
theorem dX5_become_1 : decode cX5_become 1 = .ok (.getfield 9, 3) := by decide +kernel
theorem dX5_become_4 : decode cX5_become 4 = .ok (.iconst 0, 1) := by decide +kernel
theorem dX5_become_5 : decode cX5_become 5 = .ok (.aload_n 0, 1) := by decide +kernel
theorem dX5_become_6 : decode cX5_become 6 = .ok (.getfield 9, 3) := by decide +kernel
theorem dX5_become_9 : decode cX5_become 9 = .ok (.iconst 0, 1) := by decide +kernel
theorem dX5_become_10 : decode cX5_become 10 = .ok (.aload_n 0, 1) := by decide +kernel
theorem dX5_become_11 : decode cX5_become 11 = .ok (.getfield 9, 3) := by decide +kernel
theorem dX5_become_14 : decode cX5_become 14 = .ok (.arraylength, 1) := by decide +kernel
theorem dX5_become_15 : decode cX5_become 15 = .ok (.invokestatic 25, 3) := by decide +kernel
theorem dX5_become_18 : decode cX5_become 18 = .ok (.aload_n 1, 1) := by decide +kernel
theorem dX5_become_19 : decode cX5_become 19 = .ok (.getfield 15, 3) := by decide +kernel
theorem dX5_become_22 : decode cX5_become 22 = .ok (.iconst 0, 1) := by decide +kernel
theorem dX5_become_23 : decode cX5_become 23 = .ok (.aload_n 0, 1) := by decide +kernel
theorem dX5_become_24 : decode cX5_become 24 = .ok (.getfield 15, 3) := by decide +kernel
theorem dX5_become_27 : decode cX5_become 27 = .ok (.iconst 0, 1) := by decide +kernel
theorem dX5_become_28 : decode cX5_become 28 = .ok (.aload_n 0, 1) := by decide +kernel
theorem dX5_become_29 : decode cX5_become 29 = .ok (.getfield 15, 3) := by decide +kernel
theorem dX5_become_32 : decode cX5_become 32 = .ok (.arraylength, 1) := by decide +kernel
theorem dX5_become_33 : decode cX5_become 33 = .ok (.invokestatic 25, 3) := by decide +kernel
theorem dX5_become_36 : decode cX5_become 36 = .ok (.aload_n 0, 1) := by decide +kernel
theorem dX5_become_37 : decode cX5_become 37 = .ok (.aload_n 1, 1) := by decide +kernel
theorem dX5_become_38 : decode cX5_become 38 = .ok (.getfield 18, 3) := by decide +kernel
theorem dX5_become_41 : decode cX5_become 41 = .ok (.putfield 18, 3) := by decide +kernel
theorem dX5_become_44 : decode cX5_become 44 = .ok (.aload_n 0, 1) := by decide +kernel
theorem dX5_become_45 : decode cX5_become 45 = .ok (.aload_n 1, 1) := by decide +kernel
theorem dX5_become_46 : decode cX5_become 46 = .ok (.getfield 22, 3) := by decide +kernel
theorem dX5_become_49 : decode cX5_become 49 = .ok (.putfield 22, 3) := by decide +kernel
theorem dX5_become_52 : decode cX5_become 52 = .ok (.aload_n 0, 1) := by decide +kernel
theorem dX5_become_53 : decode cX5_become 53 = .ok (.aload_n 1, 1) := by decide +kernel
theorem dX5_become_54 : decode cX5_become 54 = .ok (.getfield 31, 3) := by decide +kernel
theorem dX5_become_57 : decode cX5_become 57 = .ok (.putfield 31, 3) := by decide +kernel
theorem dX5_become_60 : decode cX5_become 60 = .ok (.aload_n 0, 1) := by decide +kernel
theorem dX5_become_61 : decode cX5_become 61 = .ok (.aload_n 1, 1) := by decide +kernel
theorem dX5_become_62 : decode cX5_become 62 = .ok (.getfield 34, 3) := by decide +kernel
theorem dX5_become_65 : decode cX5_become 65 = .ok (.putfield 34, 3) := by decide +kernel
theorem dX5_become_68 : decode cX5_become 68 = .ok (.aload_n 0, 1) := by decide +kernel
theorem dX5_become_69 : decode cX5_become 69 = .ok (.aload_n 1, 1) := by decide +kernel
theorem dX5_become_70 : decode cX5_become 70 = .ok (.getfield 37, 3) := by decide +kernel
theorem dX5_become_73 : decode cX5_become 73 = .ok (.putfield 37, 3) := by decide +kernel
theorem dX5_become_76 : decode cX5_become 76 = .ok (.return_, 1) := by decide +kernel
theorem dX5_stops_0 : decode cX5_stops 0 = .ok (.iload_n 1, 1) := by decide +kernel
theorem dX5_stops_1 : decode cX5_stops 1 = .ok (.aload_n 0, 1) := by decide +kernel
theorem dX5_stops_2 : decode cX5_stops 2 = .ok (.getfield 22, 3) := by decide +kernel
theorem dX5_stops_5 : decode cX5_stops 5 = .ok (.if_icmp .ne 22, 3) := by decide +kernel
theorem dX5_stops_8 : decode cX5_stops 8 = .ok (.iload_n 2, 1) := by decide +kernel
theorem dX5_stops_9 : decode cX5_stops 9 = .ok (.aload_n 0, 1) := by decide +kernel
theorem dX5_stops_10 : decode cX5_stops 10 = .ok (.getfield 31, 3) := by decide +kernel
theorem dX5_stops_13 : decode cX5_stops 13 = .ok (.aload_n 0, 1) := by decide +kernel
theorem dX5_stops_14 : decode cX5_stops 14 = .ok (.getfield 34, 3) := by decide +kernel
theorem dX5_stops_17 : decode cX5_stops 17 = .ok (.invokestatic 40, 3) := by decide +kernel
theorem dX5_stops_20 : decode cX5_stops 20 = .ok (.ifCond .eq 7, 3) := by decide +kernel
theorem dX5_stops_23 : decode cX5_stops 23 = .ok (.iconst 1, 1) := by decide +kernel
theorem dX5_stops_24 : decode cX5_stops 24 = .ok (.goto 4, 3) := by decide +kernel
theorem dX5_stops_27 : decode cX5_stops 27 = .ok (.iconst 0, 1) := by decide +kernel
theorem dX5_stops_28 : decode cX5_stops 28 = .ok (.ireturn, 1) := by decide +kernel
theorem dX5_allComers_0 : decode cX5_allComers 0 = .ok (.iconst 0, 1) := by decide +kernel
theorem dX5_allComers_1 : decode cX5_allComers 1 = .ok (.istore_n 2, 1) := by decide +kernel
theorem dX5_allComers_2 : decode cX5_allComers 2 = .ok (.iconst 0, 1) := by decide +kernel
theorem dX5_allComers_3 : decode cX5_allComers 3 = .ok (.istore_n 3, 1) := by decide +kernel
theorem dX5_allComers_4 : decode cX5_allComers 4 = .ok (.iload_n 3, 1) := by decide +kernel
theorem dX5_allComers_5 : decode cX5_allComers 5 = .ok (.bipush 60, 2) := by decide +kernel
theorem dX5_allComers_7 : decode cX5_allComers 7 = .ok (.if_icmp .ge 22, 3) := by decide +kernel
theorem dX5_allComers_10 : decode cX5_allComers 10 = .ok (.iload_n 2, 1) := by decide +kernel
theorem dX5_allComers_11 : decode cX5_allComers 11 = .ok (.aload_n 0, 1) := by decide +kernel
theorem dX5_allComers_12 : decode cX5_allComers 12 = .ok (.getfield 9, 3) := by decide +kernel
theorem dX5_allComers_15 : decode cX5_allComers 15 = .ok (.iload_n 1, 1) := by decide +kernel
theorem dX5_allComers_16 : decode cX5_allComers 16 = .ok (.iload_n 3, 1) := by decide +kernel
theorem dX5_allComers_17 : decode cX5_allComers 17 = .ok (.invokestatic 44, 3) := by decide +kernel
theorem dX5_allComers_20 : decode cX5_allComers 20 = .ok (.iaload, 1) := by decide +kernel
theorem dX5_allComers_21 : decode cX5_allComers 21 = .ok (.iadd, 1) := by decide +kernel
theorem dX5_allComers_22 : decode cX5_allComers 22 = .ok (.istore_n 2, 1) := by decide +kernel
theorem dX5_allComers_23 : decode cX5_allComers 23 = .ok (.iinc 3 1, 3) := by decide +kernel
theorem dX5_allComers_26 : decode cX5_allComers 26 = .ok (.goto (-22), 3) := by decide +kernel
theorem dX5_allComers_29 : decode cX5_allComers 29 = .ok (.iload_n 2, 1) := by decide +kernel
theorem dX5_allComers_30 : decode cX5_allComers 30 = .ok (.ireturn, 1) := by decide +kernel
theorem dX6_init_0 : decode cX6_init 0 = .ok (.aload_n 0, 1) := by decide +kernel
theorem dX6_init_1 : decode cX6_init 1 = .ok (.invokespecial 3, 3) := by decide +kernel
theorem dX6_init_4 : decode cX6_init 4 = .ok (.aload_n 0, 1) := by decide +kernel
theorem dX6_init_5 : decode cX6_init 5 = .ok (.iconst (-1), 1) := by decide +kernel
theorem dX6_init_6 : decode cX6_init 6 = .ok (.putfield 9, 3) := by decide +kernel
theorem dX6_init_9 : decode cX6_init 9 = .ok (.aload_n 0, 1) := by decide +kernel
theorem dX6_init_10 : decode cX6_init 10 = .ok (.bipush 60, 2) := by decide +kernel
theorem dX6_init_12 : decode cX6_init 12 = .ok (.newarray .int, 2) := by decide +kernel
theorem dX6_init_14 : decode cX6_init 14 = .ok (.putfield 15, 3) := by decide +kernel
theorem dX6_init_17 : decode cX6_init 17 = .ok (.return_, 1) := by decide +kernel
theorem dX6_isMissing_0 : decode cX6_isMissing 0 = .ok (.aload_n 0, 1) := by decide +kernel
theorem dX6_isMissing_1 : decode cX6_isMissing 1 = .ok (.getfield 9, 3) := by decide +kernel
theorem dX6_isMissing_4 : decode cX6_isMissing 4 = .ok (.iconst (-1), 1) := by decide +kernel
theorem dX6_isMissing_5 : decode cX6_isMissing 5 = .ok (.if_icmp .ne 7, 3) := by decide +kernel
theorem dX6_isMissing_8 : decode cX6_isMissing 8 = .ok (.iconst 1, 1) := by decide +kernel
theorem dX6_isMissing_9 : decode cX6_isMissing 9 = .ok (.goto 4, 3) := by decide +kernel
theorem dX6_isMissing_12 : decode cX6_isMissing 12 = .ok (.iconst 0, 1) := by decide +kernel
theorem dX6_isMissing_13 : decode cX6_isMissing 13 = .ok (.ireturn, 1) := by decide +kernel
theorem dX6_lay_0 : decode cX6_lay 0 = .ok (.aload_n 0, 1) := by decide +kernel
theorem dX6_lay_1 : decode cX6_lay 1 = .ok (.iload_n 1, 1) := by decide +kernel
theorem dX6_lay_2 : decode cX6_lay 2 = .ok (.putfield 9, 3) := by decide +kernel
theorem dX6_lay_5 : decode cX6_lay 5 = .ok (.aload_n 0, 1) := by decide +kernel
theorem dX6_lay_6 : decode cX6_lay 6 = .ok (.iload_n 2, 1) := by decide +kernel
theorem dX6_lay_7 : decode cX6_lay 7 = .ok (.putfield 19, 3) := by decide +kernel
theorem dX6_lay_10 : decode cX6_lay 10 = .ok (.aload_n 0, 1) := by decide +kernel
theorem dX6_lay_11 : decode cX6_lay 11 = .ok (.getfield 15, 3) := by decide +kernel
theorem dX6_lay_14 : decode cX6_lay 14 = .ok (.iconst 0, 1) := by decide +kernel
theorem dX6_lay_15 : decode cX6_lay 15 = .ok (.invokestatic 22, 3) := by decide +kernel
theorem dX6_lay_18 : decode cX6_lay 18 = .ok (.return_, 1) := by decide +kernel
theorem dX6_has_0 : decode cX6_has 0 = .ok (.iconst 0, 1) := by decide +kernel
theorem dX6_has_1 : decode cX6_has 1 = .ok (.iload_n 1, 1) := by decide +kernel
theorem dX6_has_2 : decode cX6_has 2 = .ok (.if_icmp .gt 15, 3) := by decide +kernel
theorem dX6_has_5 : decode cX6_has 5 = .ok (.iload_n 1, 1) := by decide +kernel
theorem dX6_has_6 : decode cX6_has 6 = .ok (.aload_n 0, 1) := by decide +kernel
theorem dX6_has_7 : decode cX6_has 7 = .ok (.getfield 19, 3) := by decide +kernel
theorem dX6_has_10 : decode cX6_has 10 = .ok (.if_icmp .ge 7, 3) := by decide +kernel
theorem dX6_has_13 : decode cX6_has 13 = .ok (.iconst 1, 1) := by decide +kernel
theorem dX6_has_14 : decode cX6_has 14 = .ok (.goto 4, 3) := by decide +kernel
theorem dX6_has_17 : decode cX6_has 17 = .ok (.iconst 0, 1) := by decide +kernel
theorem dX6_has_18 : decode cX6_has 18 = .ok (.ireturn, 1) := by decide +kernel
theorem dX6_hasAll_0 : decode cX6_hasAll 0 = .ok (.iconst 0, 1) := by decide +kernel
theorem dX6_hasAll_1 : decode cX6_hasAll 1 = .ok (.iload_n 1, 1) := by decide +kernel
theorem dX6_hasAll_2 : decode cX6_hasAll 2 = .ok (.if_icmp .gt 30, 3) := by decide +kernel
theorem dX6_hasAll_5 : decode cX6_hasAll 5 = .ok (.iload_n 1, 1) := by decide +kernel
theorem dX6_hasAll_6 : decode cX6_hasAll 6 = .ok (.aload_n 0, 1) := by decide +kernel
theorem dX6_hasAll_7 : decode cX6_hasAll 7 = .ok (.getfield 19, 3) := by decide +kernel
theorem dX6_hasAll_10 : decode cX6_hasAll 10 = .ok (.if_icmp .gt 22, 3) := by decide +kernel
theorem dX6_hasAll_13 : decode cX6_hasAll 13 = .ok (.iconst 0, 1) := by decide +kernel
theorem dX6_hasAll_14 : decode cX6_hasAll 14 = .ok (.iload_n 2, 1) := by decide +kernel
theorem dX6_hasAll_15 : decode cX6_hasAll 15 = .ok (.if_icmp .gt 17, 3) := by decide +kernel
theorem dX6_hasAll_18 : decode cX6_hasAll 18 = .ok (.iload_n 2, 1) := by decide +kernel
theorem dX6_hasAll_19 : decode cX6_hasAll 19 = .ok (.aload_n 0, 1) := by decide +kernel
theorem dX6_hasAll_20 : decode cX6_hasAll 20 = .ok (.getfield 19, 3) := by decide +kernel
theorem dX6_hasAll_23 : decode cX6_hasAll 23 = .ok (.iload_n 1, 1) := by decide +kernel
theorem dX6_hasAll_24 : decode cX6_hasAll 24 = .ok (.isub, 1) := by decide +kernel
theorem dX6_hasAll_25 : decode cX6_hasAll 25 = .ok (.if_icmp .gt 7, 3) := by decide +kernel
theorem dX6_hasAll_28 : decode cX6_hasAll 28 = .ok (.iconst 1, 1) := by decide +kernel
theorem dX6_hasAll_29 : decode cX6_hasAll 29 = .ok (.goto 4, 3) := by decide +kernel
theorem dX6_hasAll_32 : decode cX6_hasAll 32 = .ok (.iconst 0, 1) := by decide +kernel
theorem dX6_hasAll_33 : decode cX6_hasAll 33 = .ok (.ireturn, 1) := by decide +kernel
theorem dX6_at_0 : decode cX6_at 0 = .ok (.aload_n 0, 1) := by decide +kernel
theorem dX6_at_1 : decode cX6_at 1 = .ok (.iload_n 1, 1) := by decide +kernel
theorem dX6_at_2 : decode cX6_at 2 = .ok (.invokevirtual 28, 3) := by decide +kernel
theorem dX6_at_5 : decode cX6_at 5 = .ok (.ifCond .eq 12, 3) := by decide +kernel
theorem dX6_at_8 : decode cX6_at 8 = .ok (.aload_n 0, 1) := by decide +kernel
theorem dX6_at_9 : decode cX6_at 9 = .ok (.getfield 15, 3) := by decide +kernel
theorem dX6_at_12 : decode cX6_at 12 = .ok (.iload_n 1, 1) := by decide +kernel
theorem dX6_at_13 : decode cX6_at 13 = .ok (.iaload, 1) := by decide +kernel
theorem dX6_at_14 : decode cX6_at 14 = .ok (.goto 4, 3) := by decide +kernel
theorem dX6_at_17 : decode cX6_at 17 = .ok (.iconst 0, 1) := by decide +kernel
theorem dX6_at_18 : decode cX6_at 18 = .ok (.ireturn, 1) := by decide +kernel
theorem dX6_put_0 : decode cX6_put 0 = .ok (.aload_n 0, 1) := by decide +kernel
theorem dX6_put_1 : decode cX6_put 1 = .ok (.iload_n 1, 1) := by decide +kernel
theorem dX6_put_2 : decode cX6_put 2 = .ok (.invokevirtual 28, 3) := by decide +kernel
theorem dX6_put_5 : decode cX6_put 5 = .ok (.ifCond .eq 35, 3) := by decide +kernel
theorem dX6_put_8 : decode cX6_put 8 = .ok (.aload_n 0, 1) := by decide +kernel
theorem dX6_put_9 : decode cX6_put 9 = .ok (.getfield 15, 3) := by decide +kernel
theorem dX6_put_12 : decode cX6_put 12 = .ok (.iload_n 1, 1) := by decide +kernel
theorem dX6_put_13 : decode cX6_put 13 = .ok (.aload_n 0, 1) := by decide +kernel
theorem dX6_put_14 : decode cX6_put 14 = .ok (.getfield 9, 3) := by decide +kernel
theorem dX6_put_17 : decode cX6_put 17 = .ok (.ifCond .ne 8, 3) := by decide +kernel
theorem dX6_put_20 : decode cX6_put 20 = .ok (.iload_n 2, 1) := by decide +kernel
theorem dX6_put_21 : decode cX6_put 21 = .ok (.i2b, 1) := by decide +kernel
theorem dX6_put_22 : decode cX6_put 22 = .ok (.goto 17, 3) := by decide +kernel
theorem dX6_put_25 : decode cX6_put 25 = .ok (.aload_n 0, 1) := by decide +kernel
theorem dX6_put_26 : decode cX6_put 26 = .ok (.getfield 9, 3) := by decide +kernel
theorem dX6_put_29 : decode cX6_put 29 = .ok (.iconst 1, 1) := by decide +kernel
theorem dX6_put_30 : decode cX6_put 30 = .ok (.if_icmp .ne 8, 3) := by decide +kernel
theorem dX6_put_33 : decode cX6_put 33 = .ok (.iload_n 2, 1) := by decide +kernel
theorem dX6_put_34 : decode cX6_put 34 = .ok (.i2s, 1) := by decide +kernel
theorem dX6_put_35 : decode cX6_put 35 = .ok (.goto 4, 3) := by decide +kernel
theorem dX6_put_38 : decode cX6_put 38 = .ok (.iload_n 2, 1) := by decide +kernel
theorem dX6_put_39 : decode cX6_put 39 = .ok (.iastore, 1) := by decide +kernel
theorem dX6_put_40 : decode cX6_put 40 = .ok (.return_, 1) := by decide +kernel
theorem dX7_init_0 : decode cX7_init 0 = .ok (.aload_n 0, 1) := by decide +kernel
theorem dX7_init_1 : decode cX7_init 1 = .ok (.iload_n 1, 1) := by decide +kernel
theorem dX7_init_2 : decode cX7_init 2 = .ok (.iload_n 2, 1) := by decide +kernel
theorem dX7_init_3 : decode cX7_init 3 = .ok (.iload_n 3, 1) := by decide +kernel
theorem dX7_init_4 : decode cX7_init 4 = .ok (.invokespecial 1, 3) := by decide +kernel
theorem dX7_init_7 : decode cX7_init 7 = .ok (.return_, 1) := by decide +kernel
theorem dX7_carries_0 : decode cX7_carries 0 = .ok (.aload_n 0, 1) := by decide +kernel
theorem dX7_carries_1 : decode cX7_carries 1 = .ok (.iload_n 1, 1) := by decide +kernel
theorem dX7_carries_2 : decode cX7_carries 2 = .ok (.invokespecial 7, 3) := by decide +kernel
theorem dX7_carries_5 : decode cX7_carries 5 = .ok (.iconst 1, 1) := by decide +kernel
theorem dX7_carries_6 : decode cX7_carries 6 = .ok (.iadd, 1) := by decide +kernel
theorem dX7_carries_7 : decode cX7_carries 7 = .ok (.iconst 2, 1) := by decide +kernel
theorem dX7_carries_8 : decode cX7_carries 8 = .ok (.idiv, 1) := by decide +kernel
theorem dX7_carries_9 : decode cX7_carries 9 = .ok (.ireturn, 1) := by decide +kernel
theorem dX8_init_0 : decode cX8_init 0 = .ok (.aload_n 0, 1) := by decide +kernel
theorem dX8_init_1 : decode cX8_init 1 = .ok (.iload_n 1, 1) := by decide +kernel
theorem dX8_init_2 : decode cX8_init 2 = .ok (.iload_n 2, 1) := by decide +kernel
theorem dX8_init_3 : decode cX8_init 3 = .ok (.iload_n 3, 1) := by decide +kernel
theorem dX8_init_4 : decode cX8_init 4 = .ok (.invokespecial 1, 3) := by decide +kernel
theorem dX8_init_7 : decode cX8_init 7 = .ok (.return_, 1) := by decide +kernel
theorem dX8_carries_0 : decode cX8_carries 0 = .ok (.iconst 0, 1) := by decide +kernel
theorem dX8_carries_1 : decode cX8_carries 1 = .ok (.aload_n 0, 1) := by decide +kernel
theorem dX8_carries_2 : decode cX8_carries 2 = .ok (.iload_n 1, 1) := by decide +kernel
theorem dX8_carries_3 : decode cX8_carries 3 = .ok (.invokespecial 7, 3) := by decide +kernel
theorem dX8_carries_6 : decode cX8_carries 6 = .ok (.iload_n 1, 1) := by decide +kernel
theorem dX8_carries_7 : decode cX8_carries 7 = .ok (.bipush 10, 2) := by decide +kernel
theorem dX8_carries_9 : decode cX8_carries 9 = .ok (.idiv, 1) := by decide +kernel
theorem dX8_carries_10 : decode cX8_carries 10 = .ok (.isub, 1) := by decide +kernel
theorem dX8_carries_11 : decode cX8_carries 11 = .ok (.invokestatic 11, 3) := by decide +kernel
theorem dX8_carries_14 : decode cX8_carries 14 = .ok (.ireturn, 1) := by decide +kernel
theorem dX8_mayTurn_0 : decode cX8_mayTurn 0 = .ok (.iload_n 1, 1) := by decide +kernel
theorem dX8_mayTurn_1 : decode cX8_mayTurn 1 = .ok (.iconst 5, 1) := by decide +kernel
theorem dX8_mayTurn_2 : decode cX8_mayTurn 2 = .ok (.irem, 1) := by decide +kernel
theorem dX8_mayTurn_3 : decode cX8_mayTurn 3 = .ok (.ifCond .ne 7, 3) := by decide +kernel
theorem dX8_mayTurn_6 : decode cX8_mayTurn 6 = .ok (.iconst 1, 1) := by decide +kernel
theorem dX8_mayTurn_7 : decode cX8_mayTurn 7 = .ok (.goto 4, 3) := by decide +kernel
theorem dX8_mayTurn_10 : decode cX8_mayTurn 10 = .ok (.iconst 0, 1) := by decide +kernel
theorem dX8_mayTurn_11 : decode cX8_mayTurn 11 = .ok (.ireturn, 1) := by decide +kernel
theorem dX8_rests_0 : decode cX8_rests 0 = .ok (.iconst 2, 1) := by decide +kernel
theorem dX8_rests_1 : decode cX8_rests 1 = .ok (.aload_n 0, 1) := by decide +kernel
theorem dX8_rests_2 : decode cX8_rests 2 = .ok (.iload_n 1, 1) := by decide +kernel
theorem dX8_rests_3 : decode cX8_rests 3 = .ok (.invokespecial 17, 3) := by decide +kernel
theorem dX8_rests_6 : decode cX8_rests 6 = .ok (.imul, 1) := by decide +kernel
theorem dX8_rests_7 : decode cX8_rests 7 = .ok (.ireturn, 1) := by decide +kernel
theorem dX9_init_0 : decode cX9_init 0 = .ok (.aload_n 0, 1) := by decide +kernel
theorem dX9_init_1 : decode cX9_init 1 = .ok (.invokespecial 3, 3) := by decide +kernel
theorem dX9_init_4 : decode cX9_init 4 = .ok (.aload_n 0, 1) := by decide +kernel
theorem dX9_init_5 : decode cX9_init 5 = .ok (.sipush 160, 3) := by decide +kernel
theorem dX9_init_8 : decode cX9_init 8 = .ok (.newarray .int, 2) := by decide +kernel
theorem dX9_init_10 : decode cX9_init 10 = .ok (.putfield 9, 3) := by decide +kernel
theorem dX9_init_13 : decode cX9_init 13 = .ok (.aload_n 0, 1) := by decide +kernel
theorem dX9_init_14 : decode cX9_init 14 = .ok (.iconst 3, 1) := by decide +kernel
theorem dX9_init_15 : decode cX9_init 15 = .ok (.newarray .int, 2) := by decide +kernel
theorem dX9_init_17 : decode cX9_init 17 = .ok (.putfield 15, 3) := by decide +kernel
theorem dX9_init_20 : decode cX9_init 20 = .ok (.aload_n 0, 1) := by decide +kernel
theorem dX9_init_21 : decode cX9_init 21 = .ok (.sipush 160, 3) := by decide +kernel
theorem dX9_init_24 : decode cX9_init 24 = .ok (.newarray .int, 2) := by decide +kernel
theorem dX9_init_26 : decode cX9_init 26 = .ok (.putfield 18, 3) := by decide +kernel
theorem dX9_init_29 : decode cX9_init 29 = .ok (.return_, 1) := by decide +kernel
theorem dX9_value_0 : decode cX9_value 0 = .ok (.iconst 0, 1) := by decide +kernel
theorem dX9_value_1 : decode cX9_value 1 = .ok (.istore_n 3, 1) := by decide +kernel
theorem dX9_value_2 : decode cX9_value 2 = .ok (.iload_n 1, 1) := by decide +kernel
theorem dX9_value_3 : decode cX9_value 3 = .ok (.ifCond .ne 7, 3) := by decide +kernel
theorem dX9_value_6 : decode cX9_value 6 = .ok (.iconst 0, 1) := by decide +kernel
theorem dX9_value_7 : decode cX9_value 7 = .ok (.goto 11, 3) := by decide +kernel
theorem dX9_value_10 : decode cX9_value 10 = .ok (.aload_n 0, 1) := by decide +kernel
theorem dX9_value_11 : decode cX9_value 11 = .ok (.getfield 15, 3) := by decide +kernel
theorem dX9_value_14 : decode cX9_value 14 = .ok (.iload_n 1, 1) := by decide +kernel
theorem dX9_value_15 : decode cX9_value 15 = .ok (.iconst 1, 1) := by decide +kernel
theorem dX9_value_16 : decode cX9_value 16 = .ok (.isub, 1) := by decide +kernel
theorem dX9_value_17 : decode cX9_value 17 = .ok (.iaload, 1) := by decide +kernel
theorem dX9_value_18 : decode cX9_value 18 = .ok (.istore 4, 2) := by decide +kernel
theorem dX9_value_20 : decode cX9_value 20 = .ok (.iload 4, 2) := by decide +kernel
theorem dX9_value_22 : decode cX9_value 22 = .ok (.aload_n 0, 1) := by decide +kernel
theorem dX9_value_23 : decode cX9_value 23 = .ok (.getfield 15, 3) := by decide +kernel
theorem dX9_value_26 : decode cX9_value 26 = .ok (.iload_n 1, 1) := by decide +kernel
theorem dX9_value_27 : decode cX9_value 27 = .ok (.iaload, 1) := by decide +kernel
theorem dX9_value_28 : decode cX9_value 28 = .ok (.if_icmp .ge 132, 3) := by decide +kernel
theorem dX9_value_31 : decode cX9_value 31 = .ok (.aload_n 0, 1) := by decide +kernel
theorem dX9_value_32 : decode cX9_value 32 = .ok (.getfield 9, 3) := by decide +kernel
theorem dX9_value_35 : decode cX9_value 35 = .ok (.iload 4, 2) := by decide +kernel
theorem dX9_value_37 : decode cX9_value 37 = .ok (.iaload, 1) := by decide +kernel
theorem dX9_value_38 : decode cX9_value 38 = .ok (.istore 5, 2) := by decide +kernel
theorem dX9_value_40 : decode cX9_value 40 = .ok (.iload 5, 2) := by decide +kernel
theorem dX9_value_42 : decode cX9_value 42 = .ok (.bipush (-6), 2) := by decide +kernel
theorem dX9_value_44 : decode cX9_value 44 = .ok (.if_icmp .lt 40, 3) := by decide +kernel
theorem dX9_value_47 : decode cX9_value 47 = .ok (.iload_n 3, 1) := by decide +kernel
theorem dX9_value_48 : decode cX9_value 48 = .ok (.aload_n 0, 1) := by decide +kernel
theorem dX9_value_49 : decode cX9_value 49 = .ok (.getfield 18, 3) := by decide +kernel
theorem dX9_value_52 : decode cX9_value 52 = .ok (.arraylength, 1) := by decide +kernel
theorem dX9_value_53 : decode cX9_value 53 = .ok (.if_icmp .ge 101, 3) := by decide +kernel
theorem dX9_value_56 : decode cX9_value 56 = .ok (.aload_n 0, 1) := by decide +kernel
theorem dX9_value_57 : decode cX9_value 57 = .ok (.getfield 18, 3) := by decide +kernel
theorem dX9_value_60 : decode cX9_value 60 = .ok (.iload_n 3, 1) := by decide +kernel
theorem dX9_value_61 : decode cX9_value 61 = .ok (.iload 5, 2) := by decide +kernel
theorem dX9_value_63 : decode cX9_value 63 = .ok (.ifCond .lt 8, 3) := by decide +kernel
theorem dX9_value_66 : decode cX9_value 66 = .ok (.iload 5, 2) := by decide +kernel
theorem dX9_value_68 : decode cX9_value 68 = .ok (.goto 9, 3) := by decide +kernel
theorem dX9_value_71 : decode cX9_value 71 = .ok (.aload_n 2, 1) := by decide +kernel
theorem dX9_value_72 : decode cX9_value 72 = .ok (.iconst (-1), 1) := by decide +kernel
theorem dX9_value_73 : decode cX9_value 73 = .ok (.iload 5, 2) := by decide +kernel
theorem dX9_value_75 : decode cX9_value 75 = .ok (.isub, 1) := by decide +kernel
theorem dX9_value_76 : decode cX9_value 76 = .ok (.iaload, 1) := by decide +kernel
theorem dX9_value_77 : decode cX9_value 77 = .ok (.iastore, 1) := by decide +kernel
theorem dX9_value_78 : decode cX9_value 78 = .ok (.iinc 3 1, 3) := by decide +kernel
theorem dX9_value_81 : decode cX9_value 81 = .ok (.goto 73, 3) := by decide +kernel
theorem dX9_value_84 : decode cX9_value 84 = .ok (.iload 5, 2) := by decide +kernel
theorem dX9_value_86 : decode cX9_value 86 = .ok (.bipush (-8), 2) := by decide +kernel
theorem dX9_value_88 : decode cX9_value 88 = .ok (.if_icmp .lt 31, 3) := by decide +kernel
theorem dX9_value_91 : decode cX9_value 91 = .ok (.iload_n 3, 1) := by decide +kernel
theorem dX9_value_92 : decode cX9_value 92 = .ok (.ifCond .le 62, 3) := by decide +kernel
theorem dX9_value_95 : decode cX9_value 95 = .ok (.aload_n 0, 1) := by decide +kernel
theorem dX9_value_96 : decode cX9_value 96 = .ok (.getfield 18, 3) := by decide +kernel
theorem dX9_value_99 : decode cX9_value 99 = .ok (.iload_n 3, 1) := by decide +kernel
theorem dX9_value_100 : decode cX9_value 100 = .ok (.iconst 1, 1) := by decide +kernel
theorem dX9_value_101 : decode cX9_value 101 = .ok (.isub, 1) := by decide +kernel
theorem dX9_value_102 : decode cX9_value 102 = .ok (.iload 5, 2) := by decide +kernel
theorem dX9_value_104 : decode cX9_value 104 = .ok (.aload_n 0, 1) := by decide +kernel
theorem dX9_value_105 : decode cX9_value 105 = .ok (.getfield 18, 3) := by decide +kernel
theorem dX9_value_108 : decode cX9_value 108 = .ok (.iload_n 3, 1) := by decide +kernel
theorem dX9_value_109 : decode cX9_value 109 = .ok (.iconst 1, 1) := by decide +kernel
theorem dX9_value_110 : decode cX9_value 110 = .ok (.isub, 1) := by decide +kernel
theorem dX9_value_111 : decode cX9_value 111 = .ok (.iaload, 1) := by decide +kernel
theorem dX9_value_112 : decode cX9_value 112 = .ok (.invokestatic 21, 3) := by decide +kernel
theorem dX9_value_115 : decode cX9_value 115 = .ok (.iastore, 1) := by decide +kernel
theorem dX9_value_116 : decode cX9_value 116 = .ok (.goto 38, 3) := by decide +kernel
theorem dX9_value_119 : decode cX9_value 119 = .ok (.iload_n 3, 1) := by decide +kernel
theorem dX9_value_120 : decode cX9_value 120 = .ok (.iconst 1, 1) := by decide +kernel
theorem dX9_value_121 : decode cX9_value 121 = .ok (.if_icmp .le 33, 3) := by decide +kernel
theorem dX9_value_124 : decode cX9_value 124 = .ok (.iinc 3 (-1), 3) := by decide +kernel
theorem dX9_value_127 : decode cX9_value 127 = .ok (.aload_n 0, 1) := by decide +kernel
theorem dX9_value_128 : decode cX9_value 128 = .ok (.getfield 18, 3) := by decide +kernel
theorem dX9_value_131 : decode cX9_value 131 = .ok (.iload_n 3, 1) := by decide +kernel
theorem dX9_value_132 : decode cX9_value 132 = .ok (.iconst 1, 1) := by decide +kernel
theorem dX9_value_133 : decode cX9_value 133 = .ok (.isub, 1) := by decide +kernel
theorem dX9_value_134 : decode cX9_value 134 = .ok (.iload 5, 2) := by decide +kernel
theorem dX9_value_136 : decode cX9_value 136 = .ok (.aload_n 0, 1) := by decide +kernel
theorem dX9_value_137 : decode cX9_value 137 = .ok (.getfield 18, 3) := by decide +kernel
theorem dX9_value_140 : decode cX9_value 140 = .ok (.iload_n 3, 1) := by decide +kernel
theorem dX9_value_141 : decode cX9_value 141 = .ok (.iconst 1, 1) := by decide +kernel
theorem dX9_value_142 : decode cX9_value 142 = .ok (.isub, 1) := by decide +kernel
theorem dX9_value_143 : decode cX9_value 143 = .ok (.iaload, 1) := by decide +kernel
theorem dX9_value_144 : decode cX9_value 144 = .ok (.aload_n 0, 1) := by decide +kernel
theorem dX9_value_145 : decode cX9_value 145 = .ok (.getfield 18, 3) := by decide +kernel
theorem dX9_value_148 : decode cX9_value 148 = .ok (.iload_n 3, 1) := by decide +kernel
theorem dX9_value_149 : decode cX9_value 149 = .ok (.iaload, 1) := by decide +kernel
theorem dX9_value_150 : decode cX9_value 150 = .ok (.invokestatic 25, 3) := by decide +kernel
theorem dX9_value_153 : decode cX9_value 153 = .ok (.iastore, 1) := by decide +kernel
theorem dX9_value_154 : decode cX9_value 154 = .ok (.iinc 4 1, 3) := by decide +kernel
theorem dX9_value_157 : decode cX9_value 157 = .ok (.goto (-137), 3) := by decide +kernel
theorem dX9_value_160 : decode cX9_value 160 = .ok (.iload_n 3, 1) := by decide +kernel
theorem dX9_value_161 : decode cX9_value 161 = .ok (.ifCond .le 12, 3) := by decide +kernel
theorem dX9_value_164 : decode cX9_value 164 = .ok (.aload_n 0, 1) := by decide +kernel
theorem dX9_value_165 : decode cX9_value 165 = .ok (.getfield 18, 3) := by decide +kernel
theorem dX9_value_168 : decode cX9_value 168 = .ok (.iconst 0, 1) := by decide +kernel
theorem dX9_value_169 : decode cX9_value 169 = .ok (.iaload, 1) := by decide +kernel
theorem dX9_value_170 : decode cX9_value 170 = .ok (.goto 4, 3) := by decide +kernel
theorem dX9_value_173 : decode cX9_value 173 = .ok (.iconst 0, 1) := by decide +kernel
theorem dX9_value_174 : decode cX9_value 174 = .ok (.ireturn, 1) := by decide +kernel
theorem dX9_ofOne_0 : decode cX9_ofOne 0 = .ok (.iload_n 0, 1) := by decide +kernel
theorem dX9_ofOne_1 : decode cX9_ofOne 1 = .ok (.bipush (-7), 2) := by decide +kernel
theorem dX9_ofOne_3 : decode cX9_ofOne 3 = .ok (.if_icmp .eq 8, 3) := by decide +kernel
theorem dX9_ofOne_6 : decode cX9_ofOne 6 = .ok (.iload_n 1, 1) := by decide +kernel
theorem dX9_ofOne_7 : decode cX9_ofOne 7 = .ok (.ineg, 1) := by decide +kernel
theorem dX9_ofOne_8 : decode cX9_ofOne 8 = .ok (.goto 12, 3) := by decide +kernel
theorem dX9_ofOne_11 : decode cX9_ofOne 11 = .ok (.iload_n 1, 1) := by decide +kernel
theorem dX9_ofOne_12 : decode cX9_ofOne 12 = .ok (.ifCond .ne 7, 3) := by decide +kernel
theorem dX9_ofOne_15 : decode cX9_ofOne 15 = .ok (.iconst 1, 1) := by decide +kernel
theorem dX9_ofOne_16 : decode cX9_ofOne 16 = .ok (.goto 4, 3) := by decide +kernel
theorem dX9_ofOne_19 : decode cX9_ofOne 19 = .ok (.iconst 0, 1) := by decide +kernel
theorem dX9_ofOne_20 : decode cX9_ofOne 20 = .ok (.ireturn, 1) := by decide +kernel
theorem dX9_ofTwo_0 : decode cX9_ofTwo 0 = .ok (.iload_n 0, 1) := by decide +kernel
theorem dX9_ofTwo_1 : decode cX9_ofTwo 1 = .ok (.tableswitch 97 (-14) (-9) #[93, 89, 78, 67, 53, 39], 39) := by decide +kernel
theorem dX9_ofTwo_40 : decode cX9_ofTwo 40 = .ok (.iload_n 1, 1) := by decide +kernel
theorem dX9_ofTwo_41 : decode cX9_ofTwo 41 = .ok (.ifCond .ne 7, 3) := by decide +kernel
theorem dX9_ofTwo_44 : decode cX9_ofTwo 44 = .ok (.iload_n 2, 1) := by decide +kernel
theorem dX9_ofTwo_45 : decode cX9_ofTwo 45 = .ok (.ifCond .eq 7, 3) := by decide +kernel
theorem dX9_ofTwo_48 : decode cX9_ofTwo 48 = .ok (.iconst 1, 1) := by decide +kernel
theorem dX9_ofTwo_49 : decode cX9_ofTwo 49 = .ok (.goto 4, 3) := by decide +kernel
theorem dX9_ofTwo_52 : decode cX9_ofTwo 52 = .ok (.iconst 0, 1) := by decide +kernel
theorem dX9_ofTwo_53 : decode cX9_ofTwo 53 = .ok (.ireturn, 1) := by decide +kernel
theorem dX9_ofTwo_54 : decode cX9_ofTwo 54 = .ok (.iload_n 1, 1) := by decide +kernel
theorem dX9_ofTwo_55 : decode cX9_ofTwo 55 = .ok (.ifCond .eq 11, 3) := by decide +kernel
theorem dX9_ofTwo_58 : decode cX9_ofTwo 58 = .ok (.iload_n 2, 1) := by decide +kernel
theorem dX9_ofTwo_59 : decode cX9_ofTwo 59 = .ok (.ifCond .eq 7, 3) := by decide +kernel
theorem dX9_ofTwo_62 : decode cX9_ofTwo 62 = .ok (.iconst 1, 1) := by decide +kernel
theorem dX9_ofTwo_63 : decode cX9_ofTwo 63 = .ok (.goto 4, 3) := by decide +kernel
theorem dX9_ofTwo_66 : decode cX9_ofTwo 66 = .ok (.iconst 0, 1) := by decide +kernel
theorem dX9_ofTwo_67 : decode cX9_ofTwo 67 = .ok (.ireturn, 1) := by decide +kernel
theorem dX9_ofTwo_68 : decode cX9_ofTwo 68 = .ok (.iload_n 1, 1) := by decide +kernel
theorem dX9_ofTwo_69 : decode cX9_ofTwo 69 = .ok (.iload_n 2, 1) := by decide +kernel
theorem dX9_ofTwo_70 : decode cX9_ofTwo 70 = .ok (.if_icmp .ge 7, 3) := by decide +kernel
theorem dX9_ofTwo_73 : decode cX9_ofTwo 73 = .ok (.iconst 1, 1) := by decide +kernel
theorem dX9_ofTwo_74 : decode cX9_ofTwo 74 = .ok (.goto 4, 3) := by decide +kernel
theorem dX9_ofTwo_77 : decode cX9_ofTwo 77 = .ok (.iconst 0, 1) := by decide +kernel
theorem dX9_ofTwo_78 : decode cX9_ofTwo 78 = .ok (.ireturn, 1) := by decide +kernel
