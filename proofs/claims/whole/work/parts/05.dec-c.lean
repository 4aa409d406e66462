theorem dX7_init_0 : decode cX7_init 0 = .ok (.aload_n 0, 1) := by decide +kernel
theorem dX7_init_1 : decode cX7_init 1 = .ok (.invokespecial 1, 3) := by decide +kernel
theorem dX7_init_4 : decode cX7_init 4 = .ok (.aload_n 0, 1) := by decide +kernel
theorem dX7_init_5 : decode cX7_init 5 = .ok (.bipush 70, 2) := by decide +kernel
theorem dX7_init_7 : decode cX7_init 7 = .ok (.newarray .int, 2) := by decide +kernel
theorem dX7_init_9 : decode cX7_init 9 = .ok (.putfield 7, 3) := by decide +kernel
theorem dX7_init_12 : decode cX7_init 12 = .ok (.aload_n 0, 1) := by decide +kernel
theorem dX7_init_13 : decode cX7_init 13 = .ok (.bipush 55, 2) := by decide +kernel
theorem dX7_init_15 : decode cX7_init 15 = .ok (.newarray .int, 2) := by decide +kernel
theorem dX7_init_17 : decode cX7_init 17 = .ok (.putfield 13, 3) := by decide +kernel
theorem dX7_init_20 : decode cX7_init 20 = .ok (.aload_n 0, 1) := by decide +kernel
theorem dX7_init_21 : decode cX7_init 21 = .ok (.bipush 70, 2) := by decide +kernel
theorem dX7_init_23 : decode cX7_init 23 = .ok (.newarray .int, 2) := by decide +kernel
theorem dX7_init_25 : decode cX7_init 25 = .ok (.putfield 16, 3) := by decide +kernel
theorem dX7_init_28 : decode cX7_init 28 = .ok (.aload_n 0, 1) := by decide +kernel
theorem dX7_init_29 : decode cX7_init 29 = .ok (.bipush 55, 2) := by decide +kernel
theorem dX7_init_31 : decode cX7_init 31 = .ok (.newarray .int, 2) := by decide +kernel
theorem dX7_init_33 : decode cX7_init 33 = .ok (.putfield 19, 3) := by decide +kernel
theorem dX7_init_36 : decode cX7_init 36 = .ok (.aload_n 0, 1) := by decide +kernel
theorem dX7_init_37 : decode cX7_init 37 = .ok (.bipush 55, 2) := by decide +kernel
theorem dX7_init_39 : decode cX7_init 39 = .ok (.newarray .int, 2) := by decide +kernel
theorem dX7_init_41 : decode cX7_init 41 = .ok (.putfield 22, 3) := by decide +kernel
theorem dX7_init_44 : decode cX7_init 44 = .ok (.aload_n 0, 1) := by decide +kernel
theorem dX7_init_45 : decode cX7_init 45 = .ok (.sipush 770, 3) := by decide +kernel
theorem dX7_init_48 : decode cX7_init 48 = .ok (.newarray .int, 2) := by decide +kernel
theorem dX7_init_50 : decode cX7_init 50 = .ok (.putfield 25, 3) := by decide +kernel
theorem dX7_init_53 : decode cX7_init 53 = .ok (.aload_n 0, 1) := by decide +kernel
theorem dX7_init_54 : decode cX7_init 54 = .ok (.bipush 110, 2) := by decide +kernel
theorem dX7_init_56 : decode cX7_init 56 = .ok (.newarray .int, 2) := by decide +kernel
theorem dX7_init_58 : decode cX7_init 58 = .ok (.putfield 28, 3) := by decide +kernel
theorem dX7_init_61 : decode cX7_init 61 = .ok (.aload_n 0, 1) := by decide +kernel
theorem dX7_init_62 : decode cX7_init 62 = .ok (.iconst 2, 1) := by decide +kernel
theorem dX7_init_63 : decode cX7_init 63 = .ok (.newarray .boolean, 2) := by decide +kernel
theorem dX7_init_65 : decode cX7_init 65 = .ok (.putfield 31, 3) := by decide +kernel
theorem dX7_init_68 : decode cX7_init 68 = .ok (.aload_n 0, 1) := by decide +kernel
theorem dX7_init_69 : decode cX7_init 69 = .ok (.bipush 6, 2) := by decide +kernel
theorem dX7_init_71 : decode cX7_init 71 = .ok (.newarray .int, 2) := by decide +kernel
theorem dX7_init_73 : decode cX7_init 73 = .ok (.putfield 35, 3) := by decide +kernel
theorem dX7_init_76 : decode cX7_init 76 = .ok (.aload_n 0, 1) := by decide +kernel
theorem dX7_init_77 : decode cX7_init 77 = .ok (.bipush 6, 2) := by decide +kernel
theorem dX7_init_79 : decode cX7_init 79 = .ok (.newarray .int, 2) := by decide +kernel
theorem dX7_init_81 : decode cX7_init 81 = .ok (.putfield 38, 3) := by decide +kernel
theorem dX7_init_84 : decode cX7_init 84 = .ok (.aload_n 0, 1) := by decide +kernel
theorem dX7_init_85 : decode cX7_init 85 = .ok (.bipush 6, 2) := by decide +kernel
theorem dX7_init_87 : decode cX7_init 87 = .ok (.newarray .int, 2) := by decide +kernel
theorem dX7_init_89 : decode cX7_init 89 = .ok (.putfield 41, 3) := by decide +kernel
theorem dX7_init_92 : decode cX7_init 92 = .ok (.aload_n 0, 1) := by decide +kernel
theorem dX7_init_93 : decode cX7_init 93 = .ok (.bipush (-9), 2) := by decide +kernel
theorem dX7_init_95 : decode cX7_init 95 = .ok (.putfield 44, 3) := by decide +kernel
theorem dX7_init_98 : decode cX7_init 98 = .ok (.aload_n 0, 1) := by decide +kernel
theorem dX7_init_99 : decode cX7_init 99 = .ok (.getfield 19, 3) := by decide +kernel
theorem dX7_init_102 : decode cX7_init 102 = .ok (.invokestatic 48, 3) := by decide +kernel
theorem dX7_init_105 : decode cX7_init 105 = .ok (.return_, 1) := by decide +kernel
theorem dX7_in_0 : decode cX7_in 0 = .ok (.lload_n 0, 1) := by decide +kernel
theorem dX7_in_1 : decode cX7_in 1 = .ok (.lload_n 2, 1) := by decide +kernel
theorem dX7_in_2 : decode cX7_in 2 = .ok (.lcmp, 1) := by decide +kernel
theorem dX7_in_3 : decode cX7_in 3 = .ok (.ifCond .lt 14, 3) := by decide +kernel
theorem dX7_in_6 : decode cX7_in 6 = .ok (.lload_n 0, 1) := by decide +kernel
theorem dX7_in_7 : decode cX7_in 7 = .ok (.lload 4, 2) := by decide +kernel
theorem dX7_in_9 : decode cX7_in 9 = .ok (.lcmp, 1) := by decide +kernel
theorem dX7_in_10 : decode cX7_in 10 = .ok (.ifCond .gt 7, 3) := by decide +kernel
theorem dX7_in_13 : decode cX7_in 13 = .ok (.iconst 1, 1) := by decide +kernel
theorem dX7_in_14 : decode cX7_in 14 = .ok (.goto 4, 3) := by decide +kernel
theorem dX7_in_17 : decode cX7_in 17 = .ok (.iconst 0, 1) := by decide +kernel
theorem dX7_in_18 : decode cX7_in 18 = .ok (.ireturn, 1) := by decide +kernel
theorem dX7_has_0 : decode cX7_has 0 = .ok (.iload_n 0, 1) := by decide +kernel
theorem dX7_has_1 : decode cX7_has 1 = .ok (.iload_n 1, 1) := by decide +kernel
theorem dX7_has_2 : decode cX7_has 2 = .ok (.ishr, 1) := by decide +kernel
theorem dX7_has_3 : decode cX7_has 3 = .ok (.iconst 1, 1) := by decide +kernel
theorem dX7_has_4 : decode cX7_has 4 = .ok (.iand, 1) := by decide +kernel
theorem dX7_has_5 : decode cX7_has 5 = .ok (.iconst 1, 1) := by decide +kernel
theorem dX7_has_6 : decode cX7_has 6 = .ok (.if_icmp .ne 7, 3) := by decide +kernel
theorem dX7_has_9 : decode cX7_has 9 = .ok (.iconst 1, 1) := by decide +kernel
theorem dX7_has_10 : decode cX7_has 10 = .ok (.goto 4, 3) := by decide +kernel
theorem dX7_has_13 : decode cX7_has 13 = .ok (.iconst 0, 1) := by decide +kernel
theorem dX7_has_14 : decode cX7_has 14 = .ok (.ireturn, 1) := by decide +kernel
theorem dX7_ones_0 : decode cX7_ones 0 = .ok (.iconst 0, 1) := by decide +kernel
theorem dX7_ones_1 : decode cX7_ones 1 = .ok (.istore_n 1, 1) := by decide +kernel
theorem dX7_ones_2 : decode cX7_ones 2 = .ok (.iconst 0, 1) := by decide +kernel
theorem dX7_ones_3 : decode cX7_ones 3 = .ok (.istore_n 2, 1) := by decide +kernel
theorem dX7_ones_4 : decode cX7_ones 4 = .ok (.iload_n 2, 1) := by decide +kernel
theorem dX7_ones_5 : decode cX7_ones 5 = .ok (.bipush 12, 2) := by decide +kernel
theorem dX7_ones_7 : decode cX7_ones 7 = .ok (.if_icmp .ge 17, 3) := by decide +kernel
theorem dX7_ones_10 : decode cX7_ones 10 = .ok (.iload_n 1, 1) := by decide +kernel
theorem dX7_ones_11 : decode cX7_ones 11 = .ok (.iload_n 0, 1) := by decide +kernel
theorem dX7_ones_12 : decode cX7_ones 12 = .ok (.iload_n 2, 1) := by decide +kernel
theorem dX7_ones_13 : decode cX7_ones 13 = .ok (.ishr, 1) := by decide +kernel
theorem dX7_ones_14 : decode cX7_ones 14 = .ok (.iconst 1, 1) := by decide +kernel
theorem dX7_ones_15 : decode cX7_ones 15 = .ok (.iand, 1) := by decide +kernel
theorem dX7_ones_16 : decode cX7_ones 16 = .ok (.iadd, 1) := by decide +kernel
theorem dX7_ones_17 : decode cX7_ones 17 = .ok (.istore_n 1, 1) := by decide +kernel
theorem dX7_ones_18 : decode cX7_ones 18 = .ok (.iinc 2 1, 3) := by decide +kernel
theorem dX7_ones_21 : decode cX7_ones 21 = .ok (.goto (-17), 3) := by decide +kernel
theorem dX7_ones_24 : decode cX7_ones 24 = .ok (.iload_n 1, 1) := by decide +kernel
theorem dX7_ones_25 : decode cX7_ones 25 = .ok (.ireturn, 1) := by decide +kernel
theorem dX7_power_0 : decode cX7_power 0 = .ok (.iconst 1, 1) := by decide +kernel
theorem dX7_power_1 : decode cX7_power 1 = .ok (.istore_n 2, 1) := by decide +kernel
theorem dX7_power_2 : decode cX7_power 2 = .ok (.iconst 0, 1) := by decide +kernel
theorem dX7_power_3 : decode cX7_power 3 = .ok (.istore_n 3, 1) := by decide +kernel
theorem dX7_power_4 : decode cX7_power 4 = .ok (.iload_n 3, 1) := by decide +kernel
theorem dX7_power_5 : decode cX7_power 5 = .ok (.iload_n 1, 1) := by decide +kernel
theorem dX7_power_6 : decode cX7_power 6 = .ok (.if_icmp .ge 13, 3) := by decide +kernel
theorem dX7_power_9 : decode cX7_power 9 = .ok (.iload_n 2, 1) := by decide +kernel
theorem dX7_power_10 : decode cX7_power 10 = .ok (.iload_n 0, 1) := by decide +kernel
theorem dX7_power_11 : decode cX7_power 11 = .ok (.imul, 1) := by decide +kernel
theorem dX7_power_12 : decode cX7_power 12 = .ok (.istore_n 2, 1) := by decide +kernel
theorem dX7_power_13 : decode cX7_power 13 = .ok (.iinc 3 1, 3) := by decide +kernel
theorem dX7_power_16 : decode cX7_power 16 = .ok (.goto (-12), 3) := by decide +kernel
theorem dX7_power_19 : decode cX7_power 19 = .ok (.iload_n 2, 1) := by decide +kernel
theorem dX7_power_20 : decode cX7_power 20 = .ok (.ireturn, 1) := by decide +kernel
theorem dX7_max_0 : decode cX7_max 0 = .ok (.iload_n 0, 1) := by decide +kernel
theorem dX7_max_1 : decode cX7_max 1 = .ok (.iload_n 1, 1) := by decide +kernel
theorem dX7_max_2 : decode cX7_max 2 = .ok (.if_icmp .le 7, 3) := by decide +kernel
theorem dX7_max_5 : decode cX7_max 5 = .ok (.iload_n 0, 1) := by decide +kernel
theorem dX7_max_6 : decode cX7_max 6 = .ok (.goto 4, 3) := by decide +kernel
theorem dX7_max_9 : decode cX7_max 9 = .ok (.iload_n 1, 1) := by decide +kernel
theorem dX7_max_10 : decode cX7_max 10 = .ok (.ireturn, 1) := by decide +kernel
theorem dX7_min_0 : decode cX7_min 0 = .ok (.iload_n 0, 1) := by decide +kernel
theorem dX7_min_1 : decode cX7_min 1 = .ok (.iload_n 1, 1) := by decide +kernel
theorem dX7_min_2 : decode cX7_min 2 = .ok (.if_icmp .ge 7, 3) := by decide +kernel
theorem dX7_min_5 : decode cX7_min 5 = .ok (.iload_n 0, 1) := by decide +kernel
theorem dX7_min_6 : decode cX7_min 6 = .ok (.goto 4, 3) := by decide +kernel
theorem dX7_min_9 : decode cX7_min 9 = .ok (.iload_n 1, 1) := by decide +kernel
theorem dX7_min_10 : decode cX7_min 10 = .ok (.ireturn, 1) := by decide +kernel
theorem dX7_layFirst_0 : decode cX7_layFirst 0 = .ok (.iconst 0, 1) := by decide +kernel
theorem dX7_layFirst_1 : decode cX7_layFirst 1 = .ok (.istore_n 1, 1) := by decide +kernel
theorem dX7_layFirst_2 : decode cX7_layFirst 2 = .ok (.iload_n 1, 1) := by decide +kernel
theorem dX7_layFirst_3 : decode cX7_layFirst 3 = .ok (.bipush 55, 2) := by decide +kernel
theorem dX7_layFirst_5 : decode cX7_layFirst 5 = .ok (.if_icmp .ge 13, 3) := by decide +kernel
theorem dX7_layFirst_8 : decode cX7_layFirst 8 = .ok (.aload_n 0, 1) := by decide +kernel
theorem dX7_layFirst_9 : decode cX7_layFirst 9 = .ok (.iload_n 1, 1) := by decide +kernel
theorem dX7_layFirst_10 : decode cX7_layFirst 10 = .ok (.iconst 0, 1) := by decide +kernel
theorem dX7_layFirst_11 : decode cX7_layFirst 11 = .ok (.iastore, 1) := by decide +kernel
theorem dX7_layFirst_12 : decode cX7_layFirst 12 = .ok (.iinc 1 1, 3) := by decide +kernel
theorem dX7_layFirst_15 : decode cX7_layFirst 15 = .ok (.goto (-13), 3) := by decide +kernel
theorem dX7_layFirst_18 : decode cX7_layFirst 18 = .ok (.iconst 0, 1) := by decide +kernel
theorem dX7_layFirst_19 : decode cX7_layFirst 19 = .ok (.istore_n 1, 1) := by decide +kernel
theorem dX7_layFirst_20 : decode cX7_layFirst 20 = .ok (.iload_n 1, 1) := by decide +kernel
theorem dX7_layFirst_21 : decode cX7_layFirst 21 = .ok (.iconst 2, 1) := by decide +kernel
theorem dX7_layFirst_22 : decode cX7_layFirst 22 = .ok (.if_icmp .ge 68, 3) := by decide +kernel
theorem dX7_layFirst_25 : decode cX7_layFirst 25 = .ok (.iconst 0, 1) := by decide +kernel
theorem dX7_layFirst_26 : decode cX7_layFirst 26 = .ok (.istore_n 2, 1) := by decide +kernel
theorem dX7_layFirst_27 : decode cX7_layFirst 27 = .ok (.iload_n 2, 1) := by decide +kernel
theorem dX7_layFirst_28 : decode cX7_layFirst 28 = .ok (.iconst 5, 1) := by decide +kernel
theorem dX7_layFirst_29 : decode cX7_layFirst 29 = .ok (.if_icmp .ge 18, 3) := by decide +kernel
theorem dX7_layFirst_32 : decode cX7_layFirst 32 = .ok (.aload_n 0, 1) := by decide +kernel
theorem dX7_layFirst_33 : decode cX7_layFirst 33 = .ok (.bipush 16, 2) := by decide +kernel
theorem dX7_layFirst_35 : decode cX7_layFirst 35 = .ok (.iload_n 1, 1) := by decide +kernel
theorem dX7_layFirst_36 : decode cX7_layFirst 36 = .ok (.imul, 1) := by decide +kernel
theorem dX7_layFirst_37 : decode cX7_layFirst 37 = .ok (.iload_n 2, 1) := by decide +kernel
theorem dX7_layFirst_38 : decode cX7_layFirst 38 = .ok (.iadd, 1) := by decide +kernel
theorem dX7_layFirst_39 : decode cX7_layFirst 39 = .ok (.iconst 1, 1) := by decide +kernel
theorem dX7_layFirst_40 : decode cX7_layFirst 40 = .ok (.iastore, 1) := by decide +kernel
theorem dX7_layFirst_41 : decode cX7_layFirst 41 = .ok (.iinc 2 1, 3) := by decide +kernel
theorem dX7_layFirst_44 : decode cX7_layFirst 44 = .ok (.goto (-17), 3) := by decide +kernel
theorem dX7_layFirst_47 : decode cX7_layFirst 47 = .ok (.aload_n 0, 1) := by decide +kernel
theorem dX7_layFirst_48 : decode cX7_layFirst 48 = .ok (.bipush 16, 2) := by decide +kernel
theorem dX7_layFirst_50 : decode cX7_layFirst 50 = .ok (.iload_n 1, 1) := by decide +kernel
theorem dX7_layFirst_51 : decode cX7_layFirst 51 = .ok (.imul, 1) := by decide +kernel
theorem dX7_layFirst_52 : decode cX7_layFirst 52 = .ok (.bipush 12, 2) := by decide +kernel
theorem dX7_layFirst_54 : decode cX7_layFirst 54 = .ok (.iadd, 1) := by decide +kernel
theorem dX7_layFirst_55 : decode cX7_layFirst 55 = .ok (.iconst 1, 1) := by decide +kernel
theorem dX7_layFirst_56 : decode cX7_layFirst 56 = .ok (.iastore, 1) := by decide +kernel
theorem dX7_layFirst_57 : decode cX7_layFirst 57 = .ok (.aload_n 0, 1) := by decide +kernel
theorem dX7_layFirst_58 : decode cX7_layFirst 58 = .ok (.bipush 16, 2) := by decide +kernel
theorem dX7_layFirst_60 : decode cX7_layFirst 60 = .ok (.iload_n 1, 1) := by decide +kernel
theorem dX7_layFirst_61 : decode cX7_layFirst 61 = .ok (.imul, 1) := by decide +kernel
theorem dX7_layFirst_62 : decode cX7_layFirst 62 = .ok (.bipush 13, 2) := by decide +kernel
theorem dX7_layFirst_64 : decode cX7_layFirst 64 = .ok (.iadd, 1) := by decide +kernel
theorem dX7_layFirst_65 : decode cX7_layFirst 65 = .ok (.iconst 1, 1) := by decide +kernel
theorem dX7_layFirst_66 : decode cX7_layFirst 66 = .ok (.iastore, 1) := by decide +kernel
theorem dX7_layFirst_67 : decode cX7_layFirst 67 = .ok (.aload_n 0, 1) := by decide +kernel
theorem dX7_layFirst_68 : decode cX7_layFirst 68 = .ok (.bipush 16, 2) := by decide +kernel
theorem dX7_layFirst_70 : decode cX7_layFirst 70 = .ok (.iload_n 1, 1) := by decide +kernel
theorem dX7_layFirst_71 : decode cX7_layFirst 71 = .ok (.imul, 1) := by decide +kernel
theorem dX7_layFirst_72 : decode cX7_layFirst 72 = .ok (.bipush 14, 2) := by decide +kernel
theorem dX7_layFirst_74 : decode cX7_layFirst 74 = .ok (.iadd, 1) := by decide +kernel
theorem dX7_layFirst_75 : decode cX7_layFirst 75 = .ok (.iconst 1, 1) := by decide +kernel
theorem dX7_layFirst_76 : decode cX7_layFirst 76 = .ok (.iastore, 1) := by decide +kernel
theorem dX7_layFirst_77 : decode cX7_layFirst 77 = .ok (.aload_n 0, 1) := by decide +kernel
theorem dX7_layFirst_78 : decode cX7_layFirst 78 = .ok (.bipush 32, 2) := by decide +kernel
theorem dX7_layFirst_80 : decode cX7_layFirst 80 = .ok (.iload_n 1, 1) := by decide +kernel
theorem dX7_layFirst_81 : decode cX7_layFirst 81 = .ok (.iadd, 1) := by decide +kernel
theorem dX7_layFirst_82 : decode cX7_layFirst 82 = .ok (.iconst 1, 1) := by decide +kernel
theorem dX7_layFirst_83 : decode cX7_layFirst 83 = .ok (.iastore, 1) := by decide +kernel
theorem dX7_layFirst_84 : decode cX7_layFirst 84 = .ok (.iinc 1 1, 3) := by decide +kernel
theorem dX7_layFirst_87 : decode cX7_layFirst 87 = .ok (.goto (-67), 3) := by decide +kernel
theorem dX7_layFirst_90 : decode cX7_layFirst 90 = .ok (.return_, 1) := by decide +kernel
theorem dX7_lay_0 : decode cX7_lay 0 = .ok (.iconst 0, 1) := by decide +kernel
theorem dX7_lay_1 : decode cX7_lay 1 = .ok (.istore_n 2, 1) := by decide +kernel
theorem dX7_lay_2 : decode cX7_lay 2 = .ok (.iload_n 2, 1) := by decide +kernel
theorem dX7_lay_3 : decode cX7_lay 3 = .ok (.bipush 55, 2) := by decide +kernel
theorem dX7_lay_5 : decode cX7_lay 5 = .ok (.if_icmp .ge 15, 3) := by decide +kernel
theorem dX7_lay_8 : decode cX7_lay 8 = .ok (.aload_n 1, 1) := by decide +kernel
theorem dX7_lay_9 : decode cX7_lay 9 = .ok (.iload_n 2, 1) := by decide +kernel
theorem dX7_lay_10 : decode cX7_lay 10 = .ok (.aload_n 0, 1) := by decide +kernel
theorem dX7_lay_11 : decode cX7_lay 11 = .ok (.iload_n 2, 1) := by decide +kernel
theorem dX7_lay_12 : decode cX7_lay 12 = .ok (.iaload, 1) := by decide +kernel
theorem dX7_lay_13 : decode cX7_lay 13 = .ok (.iastore, 1) := by decide +kernel
theorem dX7_lay_14 : decode cX7_lay 14 = .ok (.iinc 2 1, 3) := by decide +kernel
theorem dX7_lay_17 : decode cX7_lay 17 = .ok (.goto (-15), 3) := by decide +kernel
theorem dX7_lay_20 : decode cX7_lay 20 = .ok (.return_, 1) := by decide +kernel
theorem dX7_noEnd_0 : decode cX7_noEnd 0 = .ok (.iload_n 0, 1) := by decide +kernel
theorem dX7_noEnd_1 : decode cX7_noEnd 1 = .ok (.i2l, 1) := by decide +kernel
theorem dX7_noEnd_2 : decode cX7_noEnd 2 = .ok (.lconst 0, 1) := by decide +kernel
theorem dX7_noEnd_3 : decode cX7_noEnd 3 = .ok (.lconst 1, 1) := by decide +kernel
theorem dX7_noEnd_4 : decode cX7_noEnd 4 = .ok (.invokestatic 55, 3) := by decide +kernel
theorem dX7_noEnd_7 : decode cX7_noEnd 7 = .ok (.ifCond .ne 7, 3) := by decide +kernel
theorem dX7_noEnd_10 : decode cX7_noEnd 10 = .ok (.iconst 1, 1) := by decide +kernel
theorem dX7_noEnd_11 : decode cX7_noEnd 11 = .ok (.goto 4, 3) := by decide +kernel
theorem dX7_noEnd_14 : decode cX7_noEnd 14 = .ok (.iconst 0, 1) := by decide +kernel
theorem dX7_noEnd_15 : decode cX7_noEnd 15 = .ok (.ireturn, 1) := by decide +kernel
theorem dX7_bothUp_0 : decode cX7_bothUp 0 = .ok (.aload_n 0, 1) := by decide +kernel
theorem dX7_bothUp_1 : decode cX7_bothUp 1 = .ok (.iload_n 1, 1) := by decide +kernel
theorem dX7_bothUp_2 : decode cX7_bothUp 2 = .ok (.iconst 5, 1) := by decide +kernel
theorem dX7_bothUp_3 : decode cX7_bothUp 3 = .ok (.iadd, 1) := by decide +kernel
theorem dX7_bothUp_4 : decode cX7_bothUp 4 = .ok (.iaload, 1) := by decide +kernel
theorem dX7_bothUp_5 : decode cX7_bothUp 5 = .ok (.iconst 2, 1) := by decide +kernel
theorem dX7_bothUp_6 : decode cX7_bothUp 6 = .ok (.if_icmp .ne 17, 3) := by decide +kernel
theorem dX7_bothUp_9 : decode cX7_bothUp 9 = .ok (.aload_n 0, 1) := by decide +kernel
theorem dX7_bothUp_10 : decode cX7_bothUp 10 = .ok (.iload_n 1, 1) := by decide +kernel
theorem dX7_bothUp_11 : decode cX7_bothUp 11 = .ok (.bipush 11, 2) := by decide +kernel
theorem dX7_bothUp_13 : decode cX7_bothUp 13 = .ok (.iadd, 1) := by decide +kernel
theorem dX7_bothUp_14 : decode cX7_bothUp 14 = .ok (.iaload, 1) := by decide +kernel
theorem dX7_bothUp_15 : decode cX7_bothUp 15 = .ok (.iconst 2, 1) := by decide +kernel
theorem dX7_bothUp_16 : decode cX7_bothUp 16 = .ok (.if_icmp .ne 7, 3) := by decide +kernel
theorem dX7_bothUp_19 : decode cX7_bothUp 19 = .ok (.iconst 1, 1) := by decide +kernel
theorem dX7_bothUp_20 : decode cX7_bothUp 20 = .ok (.goto 4, 3) := by decide +kernel
theorem dX7_bothUp_23 : decode cX7_bothUp 23 = .ok (.iconst 0, 1) := by decide +kernel
theorem dX7_bothUp_24 : decode cX7_bothUp 24 = .ok (.ireturn, 1) := by decide +kernel
theorem dX7_paceOn_0 : decode cX7_paceOn 0 = .ok (.aload_n 0, 1) := by decide +kernel
theorem dX7_paceOn_1 : decode cX7_paceOn 1 = .ok (.iload_n 1, 1) := by decide +kernel
theorem dX7_paceOn_2 : decode cX7_paceOn 2 = .ok (.iconst 5, 1) := by decide +kernel
theorem dX7_paceOn_3 : decode cX7_paceOn 3 = .ok (.iadd, 1) := by decide +kernel
theorem dX7_paceOn_4 : decode cX7_paceOn 4 = .ok (.iaload, 1) := by decide +kernel
theorem dX7_paceOn_5 : decode cX7_paceOn 5 = .ok (.iconst 2, 1) := by decide +kernel
theorem dX7_paceOn_6 : decode cX7_paceOn 6 = .ok (.if_icmp .eq 8, 3) := by decide +kernel
theorem dX7_paceOn_9 : decode cX7_paceOn 9 = .ok (.bipush 9, 2) := by decide +kernel
theorem dX7_paceOn_11 : decode cX7_paceOn 11 = .ok (.goto 17, 3) := by decide +kernel
theorem dX7_paceOn_14 : decode cX7_paceOn 14 = .ok (.aload_n 0, 1) := by decide +kernel
theorem dX7_paceOn_15 : decode cX7_paceOn 15 = .ok (.iload_n 1, 1) := by decide +kernel
theorem dX7_paceOn_16 : decode cX7_paceOn 16 = .ok (.iconst 3, 1) := by decide +kernel
theorem dX7_paceOn_17 : decode cX7_paceOn 17 = .ok (.iadd, 1) := by decide +kernel
theorem dX7_paceOn_18 : decode cX7_paceOn 18 = .ok (.iaload, 1) := by decide +kernel
theorem dX7_paceOn_19 : decode cX7_paceOn 19 = .ok (.aload_n 0, 1) := by decide +kernel
theorem dX7_paceOn_20 : decode cX7_paceOn 20 = .ok (.iload_n 1, 1) := by decide +kernel
theorem dX7_paceOn_21 : decode cX7_paceOn 21 = .ok (.bipush 13, 2) := by decide +kernel
theorem dX7_paceOn_23 : decode cX7_paceOn 23 = .ok (.iadd, 1) := by decide +kernel
theorem dX7_paceOn_24 : decode cX7_paceOn 24 = .ok (.iaload, 1) := by decide +kernel
theorem dX7_paceOn_25 : decode cX7_paceOn 25 = .ok (.invokestatic 59, 3) := by decide +kernel
theorem dX7_paceOn_28 : decode cX7_paceOn 28 = .ok (.ireturn, 1) := by decide +kernel
theorem dX7_limitOn_0 : decode cX7_limitOn 0 = .ok (.aload_n 0, 1) := by decide +kernel
theorem dX7_limitOn_1 : decode cX7_limitOn 1 = .ok (.iload_n 1, 1) := by decide +kernel
theorem dX7_limitOn_2 : decode cX7_limitOn 2 = .ok (.bipush 14, 2) := by decide +kernel
theorem dX7_limitOn_4 : decode cX7_limitOn 4 = .ok (.iadd, 1) := by decide +kernel
theorem dX7_limitOn_5 : decode cX7_limitOn 5 = .ok (.iaload, 1) := by decide +kernel
theorem dX7_limitOn_6 : decode cX7_limitOn 6 = .ok (.aload_n 0, 1) := by decide +kernel
theorem dX7_limitOn_7 : decode cX7_limitOn 7 = .ok (.iload_n 1, 1) := by decide +kernel
theorem dX7_limitOn_8 : decode cX7_limitOn 8 = .ok (.iconst 4, 1) := by decide +kernel
theorem dX7_limitOn_9 : decode cX7_limitOn 9 = .ok (.iadd, 1) := by decide +kernel
theorem dX7_limitOn_10 : decode cX7_limitOn 10 = .ok (.iaload, 1) := by decide +kernel
theorem dX7_limitOn_11 : decode cX7_limitOn 11 = .ok (.aload_n 0, 1) := by decide +kernel
theorem dX7_limitOn_12 : decode cX7_limitOn 12 = .ok (.iload_n 1, 1) := by decide +kernel
theorem dX7_limitOn_13 : decode cX7_limitOn 13 = .ok (.bipush 12, 2) := by decide +kernel
theorem dX7_limitOn_15 : decode cX7_limitOn 15 = .ok (.iadd, 1) := by decide +kernel
theorem dX7_limitOn_16 : decode cX7_limitOn 16 = .ok (.iaload, 1) := by decide +kernel
theorem dX7_limitOn_17 : decode cX7_limitOn 17 = .ok (.invokestatic 59, 3) := by decide +kernel
theorem dX7_limitOn_20 : decode cX7_limitOn 20 = .ok (.aload_n 0, 1) := by decide +kernel
theorem dX7_limitOn_21 : decode cX7_limitOn 21 = .ok (.iload_n 1, 1) := by decide +kernel
theorem dX7_limitOn_22 : decode cX7_limitOn 22 = .ok (.invokestatic 63, 3) := by decide +kernel
theorem dX7_limitOn_25 : decode cX7_limitOn 25 = .ok (.ifCond .eq 7, 3) := by decide +kernel
theorem dX7_limitOn_28 : decode cX7_limitOn 28 = .ok (.iconst 0, 1) := by decide +kernel
theorem dX7_limitOn_29 : decode cX7_limitOn 29 = .ok (.goto 5, 3) := by decide +kernel
theorem dX7_limitOn_32 : decode cX7_limitOn 32 = .ok (.bipush 9, 2) := by decide +kernel
theorem dX7_limitOn_34 : decode cX7_limitOn 34 = .ok (.invokestatic 59, 3) := by decide +kernel
theorem dX7_limitOn_37 : decode cX7_limitOn 37 = .ok (.imul, 1) := by decide +kernel
theorem dX7_limitOn_38 : decode cX7_limitOn 38 = .ok (.ireturn, 1) := by decide +kernel
theorem dX7_isStill_0 : decode cX7_isStill 0 = .ok (.aload_n 0, 1) := by decide +kernel
theorem dX7_isStill_1 : decode cX7_isStill 1 = .ok (.iload_n 1, 1) := by decide +kernel
theorem dX7_isStill_2 : decode cX7_isStill 2 = .ok (.bipush 15, 2) := by decide +kernel
theorem dX7_isStill_4 : decode cX7_isStill 4 = .ok (.iadd, 1) := by decide +kernel
theorem dX7_isStill_5 : decode cX7_isStill 5 = .ok (.iaload, 1) := by decide +kernel
theorem dX7_isStill_6 : decode cX7_isStill 6 = .ok (.iconst 1, 1) := by decide +kernel
theorem dX7_isStill_7 : decode cX7_isStill 7 = .ok (.if_icmp .ne 24, 3) := by decide +kernel
theorem dX7_isStill_10 : decode cX7_isStill 10 = .ok (.aload_n 0, 1) := by decide +kernel
theorem dX7_isStill_11 : decode cX7_isStill 11 = .ok (.iload_n 1, 1) := by decide +kernel
theorem dX7_isStill_12 : decode cX7_isStill 12 = .ok (.invokestatic 63, 3) := by decide +kernel
theorem dX7_isStill_15 : decode cX7_isStill 15 = .ok (.ifCond .eq 16, 3) := by decide +kernel
theorem dX7_isStill_18 : decode cX7_isStill 18 = .ok (.aload_n 0, 1) := by decide +kernel
theorem dX7_isStill_19 : decode cX7_isStill 19 = .ok (.iload_n 1, 1) := by decide +kernel
theorem dX7_isStill_20 : decode cX7_isStill 20 = .ok (.bipush 6, 2) := by decide +kernel
theorem dX7_isStill_22 : decode cX7_isStill 22 = .ok (.iadd, 1) := by decide +kernel
theorem dX7_isStill_23 : decode cX7_isStill 23 = .ok (.iaload, 1) := by decide +kernel
theorem dX7_isStill_24 : decode cX7_isStill 24 = .ok (.ifCond .ne 7, 3) := by decide +kernel
theorem dX7_isStill_27 : decode cX7_isStill 27 = .ok (.iconst 1, 1) := by decide +kernel
theorem dX7_isStill_28 : decode cX7_isStill 28 = .ok (.goto 4, 3) := by decide +kernel
theorem dX7_isStill_31 : decode cX7_isStill 31 = .ok (.iconst 0, 1) := by decide +kernel
theorem dX7_isStill_32 : decode cX7_isStill 32 = .ok (.ireturn, 1) := by decide +kernel
theorem dX7_trusts_0 : decode cX7_trusts 0 = .ok (.aload_n 0, 1) := by decide +kernel
theorem dX7_trusts_1 : decode cX7_trusts 1 = .ok (.iload_n 1, 1) := by decide +kernel
theorem dX7_trusts_2 : decode cX7_trusts 2 = .ok (.bipush 7, 2) := by decide +kernel
theorem dX7_trusts_4 : decode cX7_trusts 4 = .ok (.iadd, 1) := by decide +kernel
theorem dX7_trusts_5 : decode cX7_trusts 5 = .ok (.iaload, 1) := by decide +kernel
theorem dX7_trusts_6 : decode cX7_trusts 6 = .ok (.iconst 1, 1) := by decide +kernel
theorem dX7_trusts_7 : decode cX7_trusts 7 = .ok (.if_icmp .ne 24, 3) := by decide +kernel
theorem dX7_trusts_10 : decode cX7_trusts 10 = .ok (.aload_n 0, 1) := by decide +kernel
theorem dX7_trusts_11 : decode cX7_trusts 11 = .ok (.iload_n 1, 1) := by decide +kernel
theorem dX7_trusts_12 : decode cX7_trusts 12 = .ok (.invokestatic 63, 3) := by decide +kernel
theorem dX7_trusts_15 : decode cX7_trusts 15 = .ok (.ifCond .eq 16, 3) := by decide +kernel
theorem dX7_trusts_18 : decode cX7_trusts 18 = .ok (.aload_n 0, 1) := by decide +kernel
theorem dX7_trusts_19 : decode cX7_trusts 19 = .ok (.iload_n 1, 1) := by decide +kernel
theorem dX7_trusts_20 : decode cX7_trusts 20 = .ok (.bipush 6, 2) := by decide +kernel
theorem dX7_trusts_22 : decode cX7_trusts 22 = .ok (.iadd, 1) := by decide +kernel
theorem dX7_trusts_23 : decode cX7_trusts 23 = .ok (.iaload, 1) := by decide +kernel
theorem dX7_trusts_24 : decode cX7_trusts 24 = .ok (.ifCond .ne 7, 3) := by decide +kernel
theorem dX7_trusts_27 : decode cX7_trusts 27 = .ok (.iconst 1, 1) := by decide +kernel
theorem dX7_trusts_28 : decode cX7_trusts 28 = .ok (.goto 4, 3) := by decide +kernel
theorem dX7_trusts_31 : decode cX7_trusts 31 = .ok (.iconst 0, 1) := by decide +kernel
theorem dX7_trusts_32 : decode cX7_trusts 32 = .ok (.ireturn, 1) := by decide +kernel
theorem dX7_useTold_0 : decode cX7_useTold 0 = .ok (.aload_n 0, 1) := by decide +kernel
theorem dX7_useTold_1 : decode cX7_useTold 1 = .ok (.iload_n 1, 1) := by decide +kernel
theorem dX7_useTold_2 : decode cX7_useTold 2 = .ok (.iconst 3, 1) := by decide +kernel
theorem dX7_useTold_3 : decode cX7_useTold 3 = .ok (.iadd, 1) := by decide +kernel
theorem dX7_useTold_4 : decode cX7_useTold 4 = .ok (.aload_n 0, 1) := by decide +kernel
theorem dX7_useTold_5 : decode cX7_useTold 5 = .ok (.iload_n 1, 1) := by decide +kernel
theorem dX7_useTold_6 : decode cX7_useTold 6 = .ok (.iconst 0, 1) := by decide +kernel
theorem dX7_useTold_7 : decode cX7_useTold 7 = .ok (.iadd, 1) := by decide +kernel
theorem dX7_useTold_8 : decode cX7_useTold 8 = .ok (.iaload, 1) := by decide +kernel
theorem dX7_useTold_9 : decode cX7_useTold 9 = .ok (.iastore, 1) := by decide +kernel
theorem dX7_useTold_10 : decode cX7_useTold 10 = .ok (.aload_n 0, 1) := by decide +kernel
theorem dX7_useTold_11 : decode cX7_useTold 11 = .ok (.iload_n 1, 1) := by decide +kernel
theorem dX7_useTold_12 : decode cX7_useTold 12 = .ok (.iconst 4, 1) := by decide +kernel
theorem dX7_useTold_13 : decode cX7_useTold 13 = .ok (.iadd, 1) := by decide +kernel
theorem dX7_useTold_14 : decode cX7_useTold 14 = .ok (.aload_n 0, 1) := by decide +kernel
theorem dX7_useTold_15 : decode cX7_useTold 15 = .ok (.iload_n 1, 1) := by decide +kernel
theorem dX7_useTold_16 : decode cX7_useTold 16 = .ok (.iconst 1, 1) := by decide +kernel
theorem dX7_useTold_17 : decode cX7_useTold 17 = .ok (.iadd, 1) := by decide +kernel
theorem dX7_useTold_18 : decode cX7_useTold 18 = .ok (.iaload, 1) := by decide +kernel
theorem dX7_useTold_19 : decode cX7_useTold 19 = .ok (.iastore, 1) := by decide +kernel
theorem dX7_useTold_20 : decode cX7_useTold 20 = .ok (.return_, 1) := by decide +kernel
theorem dX7_fall_0 : decode cX7_fall 0 = .ok (.aload_n 0, 1) := by decide +kernel
theorem dX7_fall_1 : decode cX7_fall 1 = .ok (.iload_n 1, 1) := by decide +kernel
theorem dX7_fall_2 : decode cX7_fall 2 = .ok (.iconst 5, 1) := by decide +kernel
theorem dX7_fall_3 : decode cX7_fall 3 = .ok (.iadd, 1) := by decide +kernel
theorem dX7_fall_4 : decode cX7_fall 4 = .ok (.iconst 0, 1) := by decide +kernel
theorem dX7_fall_5 : decode cX7_fall 5 = .ok (.iastore, 1) := by decide +kernel
theorem dX7_fall_6 : decode cX7_fall 6 = .ok (.aload_n 0, 1) := by decide +kernel
theorem dX7_fall_7 : decode cX7_fall 7 = .ok (.iload_n 1, 1) := by decide +kernel
theorem dX7_fall_8 : decode cX7_fall 8 = .ok (.bipush 6, 2) := by decide +kernel
theorem dX7_fall_10 : decode cX7_fall 10 = .ok (.iadd, 1) := by decide +kernel
theorem dX7_fall_11 : decode cX7_fall 11 = .ok (.iconst 0, 1) := by decide +kernel
theorem dX7_fall_12 : decode cX7_fall 12 = .ok (.iastore, 1) := by decide +kernel
theorem dX7_fall_13 : decode cX7_fall 13 = .ok (.aload_n 0, 1) := by decide +kernel
theorem dX7_fall_14 : decode cX7_fall 14 = .ok (.iload_n 1, 1) := by decide +kernel
theorem dX7_fall_15 : decode cX7_fall 15 = .ok (.invokestatic 67, 3) := by decide +kernel
theorem dX7_fall_18 : decode cX7_fall 18 = .ok (.return_, 1) := by decide +kernel
theorem dX7_hear_0 : decode cX7_hear 0 = .ok (.aload_n 0, 1) := by decide +kernel
theorem dX7_hear_1 : decode cX7_hear 1 = .ok (.iload_n 1, 1) := by decide +kernel
theorem dX7_hear_2 : decode cX7_hear 2 = .ok (.bipush 8, 2) := by decide +kernel
theorem dX7_hear_4 : decode cX7_hear 4 = .ok (.iadd, 1) := by decide +kernel
theorem dX7_hear_5 : decode cX7_hear 5 = .ok (.iconst 0, 1) := by decide +kernel
theorem dX7_hear_6 : decode cX7_hear 6 = .ok (.iastore, 1) := by decide +kernel
theorem dX7_hear_7 : decode cX7_hear 7 = .ok (.iconst 0, 1) := by decide +kernel
theorem dX7_hear_8 : decode cX7_hear 8 = .ok (.istore_n 3, 1) := by decide +kernel
theorem dX7_hear_9 : decode cX7_hear 9 = .ok (.iload_n 3, 1) := by decide +kernel
theorem dX7_hear_10 : decode cX7_hear 10 = .ok (.iconst 5, 1) := by decide +kernel
theorem dX7_hear_11 : decode cX7_hear 11 = .ok (.if_icmp .ge 24, 3) := by decide +kernel
theorem dX7_hear_14 : decode cX7_hear 14 = .ok (.aload_n 0, 1) := by decide +kernel
theorem dX7_hear_15 : decode cX7_hear 15 = .ok (.iload_n 1, 1) := by decide +kernel
theorem dX7_hear_16 : decode cX7_hear 16 = .ok (.bipush 11, 2) := by decide +kernel
theorem dX7_hear_18 : decode cX7_hear 18 = .ok (.iadd, 1) := by decide +kernel
theorem dX7_hear_19 : decode cX7_hear 19 = .ok (.iload_n 3, 1) := by decide +kernel
theorem dX7_hear_20 : decode cX7_hear 20 = .ok (.iadd, 1) := by decide +kernel
theorem dX7_hear_21 : decode cX7_hear 21 = .ok (.aload_n 0, 1) := by decide +kernel
theorem dX7_hear_22 : decode cX7_hear 22 = .ok (.iload_n 2, 1) := by decide +kernel
theorem dX7_hear_23 : decode cX7_hear 23 = .ok (.iconst 1, 1) := by decide +kernel
theorem dX7_hear_24 : decode cX7_hear 24 = .ok (.iadd, 1) := by decide +kernel
theorem dX7_hear_25 : decode cX7_hear 25 = .ok (.iload_n 3, 1) := by decide +kernel
theorem dX7_hear_26 : decode cX7_hear 26 = .ok (.iadd, 1) := by decide +kernel
theorem dX7_hear_27 : decode cX7_hear 27 = .ok (.iaload, 1) := by decide +kernel
theorem dX7_hear_28 : decode cX7_hear 28 = .ok (.iastore, 1) := by decide +kernel
theorem dX7_hear_29 : decode cX7_hear 29 = .ok (.iinc 3 1, 3) := by decide +kernel
theorem dX7_hear_32 : decode cX7_hear 32 = .ok (.goto (-23), 3) := by decide +kernel
theorem dX7_hear_35 : decode cX7_hear 35 = .ok (.aload_n 0, 1) := by decide +kernel
theorem dX7_hear_36 : decode cX7_hear 36 = .ok (.iload_n 2, 1) := by decide +kernel
theorem dX7_hear_37 : decode cX7_hear 37 = .ok (.iconst 1, 1) := by decide +kernel
theorem dX7_hear_38 : decode cX7_hear 38 = .ok (.iadd, 1) := by decide +kernel
theorem dX7_hear_39 : decode cX7_hear 39 = .ok (.iaload, 1) := by decide +kernel
theorem dX7_hear_40 : decode cX7_hear 40 = .ok (.istore_n 3, 1) := by decide +kernel
theorem dX7_hear_41 : decode cX7_hear 41 = .ok (.aload_n 0, 1) := by decide +kernel
theorem dX7_hear_42 : decode cX7_hear 42 = .ok (.iload_n 1, 1) := by decide +kernel
theorem dX7_hear_43 : decode cX7_hear 43 = .ok (.iconst 5, 1) := by decide +kernel
theorem dX7_hear_44 : decode cX7_hear 44 = .ok (.iadd, 1) := by decide +kernel
theorem dX7_hear_45 : decode cX7_hear 45 = .ok (.iaload, 1) := by decide +kernel
theorem dX7_hear_46 : decode cX7_hear 46 = .ok (.istore 4, 2) := by decide +kernel
theorem dX7_hear_48 : decode cX7_hear 48 = .ok (.iload_n 3, 1) := by decide +kernel
theorem dX7_hear_49 : decode cX7_hear 49 = .ok (.ifCond .ne 26, 3) := by decide +kernel
theorem dX7_hear_52 : decode cX7_hear 52 = .ok (.iload 4, 2) := by decide +kernel
theorem dX7_hear_54 : decode cX7_hear 54 = .ok (.iconst 2, 1) := by decide +kernel
theorem dX7_hear_55 : decode cX7_hear 55 = .ok (.if_icmp .ne 11, 3) := by decide +kernel
theorem dX7_hear_58 : decode cX7_hear 58 = .ok (.aload_n 0, 1) := by decide +kernel
theorem dX7_hear_59 : decode cX7_hear 59 = .ok (.iload_n 1, 1) := by decide +kernel
theorem dX7_hear_60 : decode cX7_hear 60 = .ok (.invokestatic 71, 3) := by decide +kernel
theorem dX7_hear_63 : decode cX7_hear 63 = .ok (.goto 43, 3) := by decide +kernel
theorem dX7_hear_66 : decode cX7_hear 66 = .ok (.aload_n 0, 1) := by decide +kernel
theorem dX7_hear_67 : decode cX7_hear 67 = .ok (.iload_n 1, 1) := by decide +kernel
theorem dX7_hear_68 : decode cX7_hear 68 = .ok (.iconst 5, 1) := by decide +kernel
theorem dX7_hear_69 : decode cX7_hear 69 = .ok (.iadd, 1) := by decide +kernel
theorem dX7_hear_70 : decode cX7_hear 70 = .ok (.iconst 1, 1) := by decide +kernel
theorem dX7_hear_71 : decode cX7_hear 71 = .ok (.iastore, 1) := by decide +kernel
theorem dX7_hear_72 : decode cX7_hear 72 = .ok (.goto 34, 3) := by decide +kernel
theorem dX7_hear_75 : decode cX7_hear 75 = .ok (.iload_n 3, 1) := by decide +kernel
theorem dX7_hear_76 : decode cX7_hear 76 = .ok (.iconst 1, 1) := by decide +kernel
theorem dX7_hear_77 : decode cX7_hear 77 = .ok (.if_icmp .ne 12, 3) := by decide +kernel
theorem dX7_hear_80 : decode cX7_hear 80 = .ok (.aload_n 0, 1) := by decide +kernel
theorem dX7_hear_81 : decode cX7_hear 81 = .ok (.iload_n 1, 1) := by decide +kernel
theorem dX7_hear_82 : decode cX7_hear 82 = .ok (.iconst 5, 1) := by decide +kernel
theorem dX7_hear_83 : decode cX7_hear 83 = .ok (.iadd, 1) := by decide +kernel
theorem dX7_hear_84 : decode cX7_hear 84 = .ok (.iconst 2, 1) := by decide +kernel
theorem dX7_hear_85 : decode cX7_hear 85 = .ok (.iastore, 1) := by decide +kernel
theorem dX7_hear_86 : decode cX7_hear 86 = .ok (.goto 20, 3) := by decide +kernel
theorem dX7_hear_89 : decode cX7_hear 89 = .ok (.aload_n 0, 1) := by decide +kernel
theorem dX7_hear_90 : decode cX7_hear 90 = .ok (.iload_n 1, 1) := by decide +kernel
theorem dX7_hear_91 : decode cX7_hear 91 = .ok (.iconst 5, 1) := by decide +kernel
theorem dX7_hear_92 : decode cX7_hear 92 = .ok (.iadd, 1) := by decide +kernel
theorem dX7_hear_93 : decode cX7_hear 93 = .ok (.iload 4, 2) := by decide +kernel
theorem dX7_hear_95 : decode cX7_hear 95 = .ok (.iconst 1, 1) := by decide +kernel
theorem dX7_hear_96 : decode cX7_hear 96 = .ok (.if_icmp .ne 7, 3) := by decide +kernel
theorem dX7_hear_99 : decode cX7_hear 99 = .ok (.iconst 2, 1) := by decide +kernel
theorem dX7_hear_100 : decode cX7_hear 100 = .ok (.goto 5, 3) := by decide +kernel
theorem dX7_hear_103 : decode cX7_hear 103 = .ok (.iload 4, 2) := by decide +kernel
theorem dX7_hear_105 : decode cX7_hear 105 = .ok (.iastore, 1) := by decide +kernel
theorem dX7_hear_106 : decode cX7_hear 106 = .ok (.aload_n 0, 1) := by decide +kernel
theorem dX7_hear_107 : decode cX7_hear 107 = .ok (.iload_n 1, 1) := by decide +kernel
theorem dX7_hear_108 : decode cX7_hear 108 = .ok (.bipush 10, 2) := by decide +kernel
theorem dX7_hear_110 : decode cX7_hear 110 = .ok (.iadd, 1) := by decide +kernel
theorem dX7_hear_111 : decode cX7_hear 111 = .ok (.aload_n 0, 1) := by decide +kernel
theorem dX7_hear_112 : decode cX7_hear 112 = .ok (.iload_n 2, 1) := by decide +kernel
theorem dX7_hear_113 : decode cX7_hear 113 = .ok (.bipush 6, 2) := by decide +kernel
theorem dX7_hear_115 : decode cX7_hear 115 = .ok (.iadd, 1) := by decide +kernel
theorem dX7_hear_116 : decode cX7_hear 116 = .ok (.iaload, 1) := by decide +kernel
theorem dX7_hear_117 : decode cX7_hear 117 = .ok (.iconst 1, 1) := by decide +kernel
theorem dX7_hear_118 : decode cX7_hear 118 = .ok (.if_icmp .ne 7, 3) := by decide +kernel
theorem dX7_hear_121 : decode cX7_hear 121 = .ok (.iconst 1, 1) := by decide +kernel
theorem dX7_hear_122 : decode cX7_hear 122 = .ok (.goto 9, 3) := by decide +kernel
theorem dX7_hear_125 : decode cX7_hear 125 = .ok (.aload_n 0, 1) := by decide +kernel
theorem dX7_hear_126 : decode cX7_hear 126 = .ok (.iload_n 1, 1) := by decide +kernel
theorem dX7_hear_127 : decode cX7_hear 127 = .ok (.bipush 10, 2) := by decide +kernel
theorem dX7_hear_129 : decode cX7_hear 129 = .ok (.iadd, 1) := by decide +kernel
theorem dX7_hear_130 : decode cX7_hear 130 = .ok (.iaload, 1) := by decide +kernel
theorem dX7_hear_131 : decode cX7_hear 131 = .ok (.iastore, 1) := by decide +kernel
theorem dX7_hear_132 : decode cX7_hear 132 = .ok (.aload_n 0, 1) := by decide +kernel
theorem dX7_hear_133 : decode cX7_hear 133 = .ok (.iload_n 2, 1) := by decide +kernel
theorem dX7_hear_134 : decode cX7_hear 134 = .ok (.bipush 7, 2) := by decide +kernel
theorem dX7_hear_136 : decode cX7_hear 136 = .ok (.iadd, 1) := by decide +kernel
theorem dX7_hear_137 : decode cX7_hear 137 = .ok (.iaload, 1) := by decide +kernel
theorem dX7_hear_138 : decode cX7_hear 138 = .ok (.iconst 1, 1) := by decide +kernel
theorem dX7_hear_139 : decode cX7_hear 139 = .ok (.if_icmp .ne 25, 3) := by decide +kernel
theorem dX7_hear_142 : decode cX7_hear 142 = .ok (.aload_n 0, 1) := by decide +kernel
theorem dX7_hear_143 : decode cX7_hear 143 = .ok (.iload_n 1, 1) := by decide +kernel
theorem dX7_hear_144 : decode cX7_hear 144 = .ok (.bipush 6, 2) := by decide +kernel
theorem dX7_hear_146 : decode cX7_hear 146 = .ok (.iadd, 1) := by decide +kernel
theorem dX7_hear_147 : decode cX7_hear 147 = .ok (.iaload, 1) := by decide +kernel
theorem dX7_hear_148 : decode cX7_hear 148 = .ok (.iconst 1, 1) := by decide +kernel
theorem dX7_hear_149 : decode cX7_hear 149 = .ok (.if_icmp .ne 15, 3) := by decide +kernel
theorem dX7_hear_152 : decode cX7_hear 152 = .ok (.aload_n 0, 1) := by decide +kernel
theorem dX7_hear_153 : decode cX7_hear 153 = .ok (.iload_n 1, 1) := by decide +kernel
theorem dX7_hear_154 : decode cX7_hear 154 = .ok (.bipush 6, 2) := by decide +kernel
theorem dX7_hear_156 : decode cX7_hear 156 = .ok (.iadd, 1) := by decide +kernel
theorem dX7_hear_157 : decode cX7_hear 157 = .ok (.iconst 0, 1) := by decide +kernel
theorem dX7_hear_158 : decode cX7_hear 158 = .ok (.iastore, 1) := by decide +kernel
theorem dX7_hear_159 : decode cX7_hear 159 = .ok (.aload_n 0, 1) := by decide +kernel
theorem dX7_hear_160 : decode cX7_hear 160 = .ok (.iload_n 1, 1) := by decide +kernel
theorem dX7_hear_161 : decode cX7_hear 161 = .ok (.invokestatic 67, 3) := by decide +kernel
theorem dX7_hear_164 : decode cX7_hear 164 = .ok (.return_, 1) := by decide +kernel
theorem dX7_take_0 : decode cX7_take 0 = .ok (.iconst 1, 1) := by decide +kernel
theorem dX7_take_1 : decode cX7_take 1 = .ok (.iload_n 2, 1) := by decide +kernel
theorem dX7_take_2 : decode cX7_take 2 = .ok (.isub, 1) := by decide +kernel
theorem dX7_take_3 : decode cX7_take 3 = .ok (.istore_n 3, 1) := by decide +kernel
theorem dX7_take_4 : decode cX7_take 4 = .ok (.bipush 34, 2) := by decide +kernel
theorem dX7_take_6 : decode cX7_take 6 = .ok (.bipush 9, 2) := by decide +kernel
theorem dX7_take_8 : decode cX7_take 8 = .ok (.iload_n 3, 1) := by decide +kernel
theorem dX7_take_9 : decode cX7_take 9 = .ok (.imul, 1) := by decide +kernel
theorem dX7_take_10 : decode cX7_take 10 = .ok (.iadd, 1) := by decide +kernel
theorem dX7_take_11 : decode cX7_take 11 = .ok (.istore 4, 2) := by decide +kernel
theorem dX7_take_13 : decode cX7_take 13 = .ok (.iconst 0, 1) := by decide +kernel
theorem dX7_take_14 : decode cX7_take 14 = .ok (.istore 5, 2) := by decide +kernel
theorem dX7_take_16 : decode cX7_take 16 = .ok (.aload_n 1, 1) := by decide +kernel
theorem dX7_take_17 : decode cX7_take 17 = .ok (.iload 4, 2) := by decide +kernel
theorem dX7_take_19 : decode cX7_take 19 = .ok (.iaload, 1) := by decide +kernel
theorem dX7_take_20 : decode cX7_take 20 = .ok (.iconst 1, 1) := by decide +kernel
theorem dX7_take_21 : decode cX7_take 21 = .ok (.if_icmp .ne 73, 3) := by decide +kernel
theorem dX7_take_24 : decode cX7_take 24 = .ok (.aload_n 1, 1) := by decide +kernel
theorem dX7_take_25 : decode cX7_take 25 = .ok (.iload 4, 2) := by decide +kernel
theorem dX7_take_27 : decode cX7_take 27 = .ok (.iconst 0, 1) := by decide +kernel
theorem dX7_take_28 : decode cX7_take 28 = .ok (.iastore, 1) := by decide +kernel
theorem dX7_take_29 : decode cX7_take 29 = .ok (.aload_n 1, 1) := by decide +kernel
theorem dX7_take_30 : decode cX7_take 30 = .ok (.bipush 32, 2) := by decide +kernel
theorem dX7_take_32 : decode cX7_take 32 = .ok (.iload_n 3, 1) := by decide +kernel
theorem dX7_take_33 : decode cX7_take 33 = .ok (.iadd, 1) := by decide +kernel
theorem dX7_take_34 : decode cX7_take 34 = .ok (.iaload, 1) := by decide +kernel
theorem dX7_take_35 : decode cX7_take 35 = .ok (.iconst 1, 1) := by decide +kernel
theorem dX7_take_36 : decode cX7_take 36 = .ok (.if_icmp .ne 17, 3) := by decide +kernel
theorem dX7_take_39 : decode cX7_take 39 = .ok (.aload_n 1, 1) := by decide +kernel
theorem dX7_take_40 : decode cX7_take 40 = .ok (.iload 4, 2) := by decide +kernel
theorem dX7_take_42 : decode cX7_take 42 = .ok (.bipush 8, 2) := by decide +kernel
theorem dX7_take_44 : decode cX7_take 44 = .ok (.iadd, 1) := by decide +kernel
theorem dX7_take_45 : decode cX7_take 45 = .ok (.iaload, 1) := by decide +kernel
theorem dX7_take_46 : decode cX7_take 46 = .ok (.ifCond .ne 7, 3) := by decide +kernel
theorem dX7_take_49 : decode cX7_take 49 = .ok (.iconst 1, 1) := by decide +kernel
theorem dX7_take_50 : decode cX7_take 50 = .ok (.goto 4, 3) := by decide +kernel
theorem dX7_take_53 : decode cX7_take 53 = .ok (.iconst 0, 1) := by decide +kernel
theorem dX7_take_54 : decode cX7_take 54 = .ok (.istore 5, 2) := by decide +kernel
theorem dX7_take_56 : decode cX7_take 56 = .ok (.aload_n 1, 1) := by decide +kernel
theorem dX7_take_57 : decode cX7_take 57 = .ok (.bipush 32, 2) := by decide +kernel
theorem dX7_take_59 : decode cX7_take 59 = .ok (.iload_n 3, 1) := by decide +kernel
theorem dX7_take_60 : decode cX7_take 60 = .ok (.iadd, 1) := by decide +kernel
theorem dX7_take_61 : decode cX7_take 61 = .ok (.iaload, 1) := by decide +kernel
theorem dX7_take_62 : decode cX7_take 62 = .ok (.iconst 1, 1) := by decide +kernel
theorem dX7_take_63 : decode cX7_take 63 = .ok (.if_icmp .ne 31, 3) := by decide +kernel
theorem dX7_take_66 : decode cX7_take 66 = .ok (.aload_n 0, 1) := by decide +kernel
theorem dX7_take_67 : decode cX7_take 67 = .ok (.getfield 44, 3) := by decide +kernel
theorem dX7_take_70 : decode cX7_take 70 = .ok (.iload_n 2, 1) := by decide +kernel
theorem dX7_take_71 : decode cX7_take 71 = .ok (.if_icmp .ne 23, 3) := by decide +kernel
theorem dX7_take_74 : decode cX7_take 74 = .ok (.aload_n 0, 1) := by decide +kernel
theorem dX7_take_75 : decode cX7_take 75 = .ok (.getfield 74, 3) := by decide +kernel
theorem dX7_take_78 : decode cX7_take 78 = .ok (.ifCond .le 16, 3) := by decide +kernel
theorem dX7_take_81 : decode cX7_take 81 = .ok (.iconst 0, 1) := by decide +kernel
theorem dX7_take_82 : decode cX7_take 82 = .ok (.istore 5, 2) := by decide +kernel
theorem dX7_take_84 : decode cX7_take 84 = .ok (.aload_n 0, 1) := by decide +kernel
theorem dX7_take_85 : decode cX7_take 85 = .ok (.dup, 1) := by decide +kernel
theorem dX7_take_86 : decode cX7_take 86 = .ok (.getfield 74, 3) := by decide +kernel
theorem dX7_take_89 : decode cX7_take 89 = .ok (.iconst 1, 1) := by decide +kernel
theorem dX7_take_90 : decode cX7_take 90 = .ok (.isub, 1) := by decide +kernel
theorem dX7_take_91 : decode cX7_take 91 = .ok (.putfield 74, 3) := by decide +kernel
theorem dX7_take_94 : decode cX7_take 94 = .ok (.iload 5, 2) := by decide +kernel
theorem dX7_take_96 : decode cX7_take 96 = .ok (.ifCond .eq 16, 3) := by decide +kernel
theorem dX7_take_99 : decode cX7_take 99 = .ok (.aload_n 1, 1) := by decide +kernel
theorem dX7_take_100 : decode cX7_take 100 = .ok (.bipush 16, 2) := by decide +kernel
theorem dX7_take_102 : decode cX7_take 102 = .ok (.iload_n 2, 1) := by decide +kernel
theorem dX7_take_103 : decode cX7_take 103 = .ok (.imul, 1) := by decide +kernel
theorem dX7_take_104 : decode cX7_take 104 = .ok (.iload 4, 2) := by decide +kernel
theorem dX7_take_106 : decode cX7_take 106 = .ok (.invokestatic 77, 3) := by decide +kernel
theorem dX7_take_109 : decode cX7_take 109 = .ok (.goto 16, 3) := by decide +kernel
theorem dX7_take_112 : decode cX7_take 112 = .ok (.aload_n 1, 1) := by decide +kernel
theorem dX7_take_113 : decode cX7_take 113 = .ok (.bipush 16, 2) := by decide +kernel
theorem dX7_take_115 : decode cX7_take 115 = .ok (.iload_n 2, 1) := by decide +kernel
theorem dX7_take_116 : decode cX7_take 116 = .ok (.imul, 1) := by decide +kernel
theorem dX7_take_117 : decode cX7_take 117 = .ok (.bipush 8, 2) := by decide +kernel
theorem dX7_take_119 : decode cX7_take 119 = .ok (.iadd, 1) := by decide +kernel
theorem dX7_take_120 : decode cX7_take 120 = .ok (.dup2, 1) := by decide +kernel
theorem dX7_take_121 : decode cX7_take 121 = .ok (.iaload, 1) := by decide +kernel
theorem dX7_take_122 : decode cX7_take 122 = .ok (.iconst 1, 1) := by decide +kernel
theorem dX7_take_123 : decode cX7_take 123 = .ok (.iadd, 1) := by decide +kernel
theorem dX7_take_124 : decode cX7_take 124 = .ok (.iastore, 1) := by decide +kernel
theorem dX7_take_125 : decode cX7_take 125 = .ok (.return_, 1) := by decide +kernel
theorem dX7_sendOn_0 : decode cX7_sendOn 0 = .ok (.bipush 16, 2) := by decide +kernel
theorem dX7_sendOn_2 : decode cX7_sendOn 2 = .ok (.iload_n 2, 1) := by decide +kernel
theorem dX7_sendOn_3 : decode cX7_sendOn 3 = .ok (.imul, 1) := by decide +kernel
theorem dX7_sendOn_4 : decode cX7_sendOn 4 = .ok (.istore_n 3, 1) := by decide +kernel
theorem dX7_sendOn_5 : decode cX7_sendOn 5 = .ok (.bipush 34, 2) := by decide +kernel
theorem dX7_sendOn_7 : decode cX7_sendOn 7 = .ok (.bipush 9, 2) := by decide +kernel
theorem dX7_sendOn_9 : decode cX7_sendOn 9 = .ok (.iload_n 2, 1) := by decide +kernel
theorem dX7_sendOn_10 : decode cX7_sendOn 10 = .ok (.imul, 1) := by decide +kernel
theorem dX7_sendOn_11 : decode cX7_sendOn 11 = .ok (.iadd, 1) := by decide +kernel
theorem dX7_sendOn_12 : decode cX7_sendOn 12 = .ok (.istore 4, 2) := by decide +kernel
theorem dX7_sendOn_14 : decode cX7_sendOn 14 = .ok (.aload_n 1, 1) := by decide +kernel
theorem dX7_sendOn_15 : decode cX7_sendOn 15 = .ok (.iload 4, 2) := by decide +kernel
theorem dX7_sendOn_17 : decode cX7_sendOn 17 = .ok (.iconst 1, 1) := by decide +kernel
theorem dX7_sendOn_18 : decode cX7_sendOn 18 = .ok (.iastore, 1) := by decide +kernel
theorem dX7_sendOn_19 : decode cX7_sendOn 19 = .ok (.aload_n 1, 1) := by decide +kernel
theorem dX7_sendOn_20 : decode cX7_sendOn 20 = .ok (.iload 4, 2) := by decide +kernel
theorem dX7_sendOn_22 : decode cX7_sendOn 22 = .ok (.iconst 1, 1) := by decide +kernel
theorem dX7_sendOn_23 : decode cX7_sendOn 23 = .ok (.iadd, 1) := by decide +kernel
theorem dX7_sendOn_24 : decode cX7_sendOn 24 = .ok (.aload_n 1, 1) := by decide +kernel
theorem dX7_sendOn_25 : decode cX7_sendOn 25 = .ok (.iload_n 3, 1) := by decide +kernel
theorem dX7_sendOn_26 : decode cX7_sendOn 26 = .ok (.iconst 5, 1) := by decide +kernel
theorem dX7_sendOn_27 : decode cX7_sendOn 27 = .ok (.iadd, 1) := by decide +kernel
theorem dX7_sendOn_28 : decode cX7_sendOn 28 = .ok (.iaload, 1) := by decide +kernel
theorem dX7_sendOn_29 : decode cX7_sendOn 29 = .ok (.iastore, 1) := by decide +kernel
theorem dX7_sendOn_30 : decode cX7_sendOn 30 = .ok (.aload_n 1, 1) := by decide +kernel
theorem dX7_sendOn_31 : decode cX7_sendOn 31 = .ok (.iload 4, 2) := by decide +kernel
theorem dX7_sendOn_33 : decode cX7_sendOn 33 = .ok (.iconst 2, 1) := by decide +kernel
theorem dX7_sendOn_34 : decode cX7_sendOn 34 = .ok (.iadd, 1) := by decide +kernel
theorem dX7_sendOn_35 : decode cX7_sendOn 35 = .ok (.aload_n 1, 1) := by decide +kernel
theorem dX7_sendOn_36 : decode cX7_sendOn 36 = .ok (.iload_n 3, 1) := by decide +kernel
theorem dX7_sendOn_37 : decode cX7_sendOn 37 = .ok (.iconst 0, 1) := by decide +kernel
theorem dX7_sendOn_38 : decode cX7_sendOn 38 = .ok (.iadd, 1) := by decide +kernel
theorem dX7_sendOn_39 : decode cX7_sendOn 39 = .ok (.iaload, 1) := by decide +kernel
theorem dX7_sendOn_40 : decode cX7_sendOn 40 = .ok (.iastore, 1) := by decide +kernel
theorem dX7_sendOn_41 : decode cX7_sendOn 41 = .ok (.aload_n 1, 1) := by decide +kernel
theorem dX7_sendOn_42 : decode cX7_sendOn 42 = .ok (.iload 4, 2) := by decide +kernel
theorem dX7_sendOn_44 : decode cX7_sendOn 44 = .ok (.iconst 3, 1) := by decide +kernel
theorem dX7_sendOn_45 : decode cX7_sendOn 45 = .ok (.iadd, 1) := by decide +kernel
theorem dX7_sendOn_46 : decode cX7_sendOn 46 = .ok (.aload_n 1, 1) := by decide +kernel
theorem dX7_sendOn_47 : decode cX7_sendOn 47 = .ok (.iload_n 3, 1) := by decide +kernel
theorem dX7_sendOn_48 : decode cX7_sendOn 48 = .ok (.iconst 1, 1) := by decide +kernel
theorem dX7_sendOn_49 : decode cX7_sendOn 49 = .ok (.iadd, 1) := by decide +kernel
theorem dX7_sendOn_50 : decode cX7_sendOn 50 = .ok (.iaload, 1) := by decide +kernel
theorem dX7_sendOn_51 : decode cX7_sendOn 51 = .ok (.iastore, 1) := by decide +kernel
theorem dX7_sendOn_52 : decode cX7_sendOn 52 = .ok (.aload_n 1, 1) := by decide +kernel
theorem dX7_sendOn_53 : decode cX7_sendOn 53 = .ok (.iload 4, 2) := by decide +kernel
theorem dX7_sendOn_55 : decode cX7_sendOn 55 = .ok (.iconst 4, 1) := by decide +kernel
theorem dX7_sendOn_56 : decode cX7_sendOn 56 = .ok (.iadd, 1) := by decide +kernel
theorem dX7_sendOn_57 : decode cX7_sendOn 57 = .ok (.aload_n 1, 1) := by decide +kernel
theorem dX7_sendOn_58 : decode cX7_sendOn 58 = .ok (.iload_n 3, 1) := by decide +kernel
theorem dX7_sendOn_59 : decode cX7_sendOn 59 = .ok (.iconst 2, 1) := by decide +kernel
theorem dX7_sendOn_60 : decode cX7_sendOn 60 = .ok (.iadd, 1) := by decide +kernel
theorem dX7_sendOn_61 : decode cX7_sendOn 61 = .ok (.iaload, 1) := by decide +kernel
theorem dX7_sendOn_62 : decode cX7_sendOn 62 = .ok (.iastore, 1) := by decide +kernel
theorem dX7_sendOn_63 : decode cX7_sendOn 63 = .ok (.aload_n 1, 1) := by decide +kernel
theorem dX7_sendOn_64 : decode cX7_sendOn 64 = .ok (.iload 4, 2) := by decide +kernel
theorem dX7_sendOn_66 : decode cX7_sendOn 66 = .ok (.iconst 5, 1) := by decide +kernel
theorem dX7_sendOn_67 : decode cX7_sendOn 67 = .ok (.iadd, 1) := by decide +kernel
theorem dX7_sendOn_68 : decode cX7_sendOn 68 = .ok (.aload_n 1, 1) := by decide +kernel
theorem dX7_sendOn_69 : decode cX7_sendOn 69 = .ok (.iload_n 3, 1) := by decide +kernel
theorem dX7_sendOn_70 : decode cX7_sendOn 70 = .ok (.bipush 7, 2) := by decide +kernel
theorem dX7_sendOn_72 : decode cX7_sendOn 72 = .ok (.iadd, 1) := by decide +kernel
theorem dX7_sendOn_73 : decode cX7_sendOn 73 = .ok (.iaload, 1) := by decide +kernel
theorem dX7_sendOn_74 : decode cX7_sendOn 74 = .ok (.iastore, 1) := by decide +kernel
theorem dX7_sendOn_75 : decode cX7_sendOn 75 = .ok (.aload_n 1, 1) := by decide +kernel
theorem dX7_sendOn_76 : decode cX7_sendOn 76 = .ok (.iload 4, 2) := by decide +kernel
theorem dX7_sendOn_78 : decode cX7_sendOn 78 = .ok (.bipush 6, 2) := by decide +kernel
theorem dX7_sendOn_80 : decode cX7_sendOn 80 = .ok (.iadd, 1) := by decide +kernel
theorem dX7_sendOn_81 : decode cX7_sendOn 81 = .ok (.aload_n 1, 1) := by decide +kernel
theorem dX7_sendOn_82 : decode cX7_sendOn 82 = .ok (.iload_n 3, 1) := by decide +kernel
theorem dX7_sendOn_83 : decode cX7_sendOn 83 = .ok (.bipush 6, 2) := by decide +kernel
theorem dX7_sendOn_85 : decode cX7_sendOn 85 = .ok (.iadd, 1) := by decide +kernel
theorem dX7_sendOn_86 : decode cX7_sendOn 86 = .ok (.iaload, 1) := by decide +kernel
theorem dX7_sendOn_87 : decode cX7_sendOn 87 = .ok (.iastore, 1) := by decide +kernel
theorem dX7_sendOn_88 : decode cX7_sendOn 88 = .ok (.aload_n 1, 1) := by decide +kernel
theorem dX7_sendOn_89 : decode cX7_sendOn 89 = .ok (.iload 4, 2) := by decide +kernel
theorem dX7_sendOn_91 : decode cX7_sendOn 91 = .ok (.bipush 7, 2) := by decide +kernel
theorem dX7_sendOn_93 : decode cX7_sendOn 93 = .ok (.iadd, 1) := by decide +kernel
theorem dX7_sendOn_94 : decode cX7_sendOn 94 = .ok (.aload_n 1, 1) := by decide +kernel
theorem dX7_sendOn_95 : decode cX7_sendOn 95 = .ok (.iload_n 3, 1) := by decide +kernel
theorem dX7_sendOn_96 : decode cX7_sendOn 96 = .ok (.bipush 10, 2) := by decide +kernel
theorem dX7_sendOn_98 : decode cX7_sendOn 98 = .ok (.iadd, 1) := by decide +kernel
theorem dX7_sendOn_99 : decode cX7_sendOn 99 = .ok (.iaload, 1) := by decide +kernel
theorem dX7_sendOn_100 : decode cX7_sendOn 100 = .ok (.iastore, 1) := by decide +kernel
theorem dX7_sendOn_101 : decode cX7_sendOn 101 = .ok (.aload_n 1, 1) := by decide +kernel
theorem dX7_sendOn_102 : decode cX7_sendOn 102 = .ok (.iload 4, 2) := by decide +kernel
theorem dX7_sendOn_104 : decode cX7_sendOn 104 = .ok (.bipush 8, 2) := by decide +kernel
theorem dX7_sendOn_106 : decode cX7_sendOn 106 = .ok (.iadd, 1) := by decide +kernel
theorem dX7_sendOn_107 : decode cX7_sendOn 107 = .ok (.aload_n 0, 1) := by decide +kernel
theorem dX7_sendOn_108 : decode cX7_sendOn 108 = .ok (.getfield 81, 3) := by decide +kernel
theorem dX7_sendOn_111 : decode cX7_sendOn 111 = .ok (.bipush 6, 2) := by decide +kernel
theorem dX7_sendOn_113 : decode cX7_sendOn 113 = .ok (.if_icmp .ge 21, 3) := by decide +kernel
theorem dX7_sendOn_116 : decode cX7_sendOn 116 = .ok (.aload_n 0, 1) := by decide +kernel
theorem dX7_sendOn_117 : decode cX7_sendOn 117 = .ok (.getfield 84, 3) := by decide +kernel
theorem dX7_sendOn_120 : decode cX7_sendOn 120 = .ok (.aload_n 0, 1) := by decide +kernel
theorem dX7_sendOn_121 : decode cX7_sendOn 121 = .ok (.getfield 81, 3) := by decide +kernel
theorem dX7_sendOn_124 : decode cX7_sendOn 124 = .ok (.invokestatic 87, 3) := by decide +kernel
theorem dX7_sendOn_127 : decode cX7_sendOn 127 = .ok (.ifCond .eq 7, 3) := by decide +kernel
theorem dX7_sendOn_130 : decode cX7_sendOn 130 = .ok (.iconst 1, 1) := by decide +kernel
theorem dX7_sendOn_131 : decode cX7_sendOn 131 = .ok (.goto 4, 3) := by decide +kernel
theorem dX7_sendOn_134 : decode cX7_sendOn 134 = .ok (.iconst 0, 1) := by decide +kernel
theorem dX7_sendOn_135 : decode cX7_sendOn 135 = .ok (.iastore, 1) := by decide +kernel
theorem dX7_sendOn_136 : decode cX7_sendOn 136 = .ok (.aload_n 0, 1) := by decide +kernel
theorem dX7_sendOn_137 : decode cX7_sendOn 137 = .ok (.aload_n 0, 1) := by decide +kernel
theorem dX7_sendOn_138 : decode cX7_sendOn 138 = .ok (.getfield 81, 3) := by decide +kernel
theorem dX7_sendOn_141 : decode cX7_sendOn 141 = .ok (.bipush 6, 2) := by decide +kernel
theorem dX7_sendOn_143 : decode cX7_sendOn 143 = .ok (.if_icmp .ge 12, 3) := by decide +kernel
theorem dX7_sendOn_146 : decode cX7_sendOn 146 = .ok (.aload_n 0, 1) := by decide +kernel
theorem dX7_sendOn_147 : decode cX7_sendOn 147 = .ok (.getfield 81, 3) := by decide +kernel
theorem dX7_sendOn_150 : decode cX7_sendOn 150 = .ok (.iconst 1, 1) := by decide +kernel
theorem dX7_sendOn_151 : decode cX7_sendOn 151 = .ok (.iadd, 1) := by decide +kernel
theorem dX7_sendOn_152 : decode cX7_sendOn 152 = .ok (.goto 5, 3) := by decide +kernel
theorem dX7_sendOn_155 : decode cX7_sendOn 155 = .ok (.bipush 6, 2) := by decide +kernel
theorem dX7_sendOn_157 : decode cX7_sendOn 157 = .ok (.putfield 81, 3) := by decide +kernel
theorem dX7_sendOn_160 : decode cX7_sendOn 160 = .ok (.aload_n 1, 1) := by decide +kernel
theorem dX7_sendOn_161 : decode cX7_sendOn 161 = .ok (.iload_n 3, 1) := by decide +kernel
theorem dX7_sendOn_162 : decode cX7_sendOn 162 = .ok (.bipush 10, 2) := by decide +kernel
theorem dX7_sendOn_164 : decode cX7_sendOn 164 = .ok (.iadd, 1) := by decide +kernel
theorem dX7_sendOn_165 : decode cX7_sendOn 165 = .ok (.iconst 0, 1) := by decide +kernel
theorem dX7_sendOn_166 : decode cX7_sendOn 166 = .ok (.iastore, 1) := by decide +kernel
theorem dX7_sendOn_167 : decode cX7_sendOn 167 = .ok (.aload_n 1, 1) := by decide +kernel
theorem dX7_sendOn_168 : decode cX7_sendOn 168 = .ok (.iload_n 3, 1) := by decide +kernel
theorem dX7_sendOn_169 : decode cX7_sendOn 169 = .ok (.bipush 9, 2) := by decide +kernel
theorem dX7_sendOn_171 : decode cX7_sendOn 171 = .ok (.iadd, 1) := by decide +kernel
theorem dX7_sendOn_172 : decode cX7_sendOn 172 = .ok (.aload_n 1, 1) := by decide +kernel
theorem dX7_sendOn_173 : decode cX7_sendOn 173 = .ok (.iload_n 3, 1) := by decide +kernel
theorem dX7_sendOn_174 : decode cX7_sendOn 174 = .ok (.invokestatic 91, 3) := by decide +kernel
theorem dX7_sendOn_177 : decode cX7_sendOn 177 = .ok (.iastore, 1) := by decide +kernel
theorem dX7_sendOn_178 : decode cX7_sendOn 178 = .ok (.aload_n 1, 1) := by decide +kernel
theorem dX7_sendOn_179 : decode cX7_sendOn 179 = .ok (.bipush 53, 2) := by decide +kernel
theorem dX7_sendOn_181 : decode cX7_sendOn 181 = .ok (.dup2, 1) := by decide +kernel
theorem dX7_sendOn_182 : decode cX7_sendOn 182 = .ok (.iaload, 1) := by decide +kernel
theorem dX7_sendOn_183 : decode cX7_sendOn 183 = .ok (.iconst 1, 1) := by decide +kernel
theorem dX7_sendOn_184 : decode cX7_sendOn 184 = .ok (.iadd, 1) := by decide +kernel
theorem dX7_sendOn_185 : decode cX7_sendOn 185 = .ok (.iastore, 1) := by decide +kernel
theorem dX7_sendOn_186 : decode cX7_sendOn 186 = .ok (.return_, 1) := by decide +kernel
theorem dX7_tick_0 : decode cX7_tick 0 = .ok (.aload_n 1, 1) := by decide +kernel
theorem dX7_tick_1 : decode cX7_tick 1 = .ok (.bipush 52, 2) := by decide +kernel
theorem dX7_tick_3 : decode cX7_tick 3 = .ok (.dup2, 1) := by decide +kernel
theorem dX7_tick_4 : decode cX7_tick 4 = .ok (.iaload, 1) := by decide +kernel
theorem dX7_tick_5 : decode cX7_tick 5 = .ok (.iconst 1, 1) := by decide +kernel
theorem dX7_tick_6 : decode cX7_tick 6 = .ok (.iadd, 1) := by decide +kernel
theorem dX7_tick_7 : decode cX7_tick 7 = .ok (.iastore, 1) := by decide +kernel
theorem dX7_tick_8 : decode cX7_tick 8 = .ok (.aload_n 0, 1) := by decide +kernel
theorem dX7_tick_9 : decode cX7_tick 9 = .ok (.aload_n 1, 1) := by decide +kernel
theorem dX7_tick_10 : decode cX7_tick 10 = .ok (.iconst 0, 1) := by decide +kernel
theorem dX7_tick_11 : decode cX7_tick 11 = .ok (.invokevirtual 95, 3) := by decide +kernel
theorem dX7_tick_14 : decode cX7_tick 14 = .ok (.aload_n 0, 1) := by decide +kernel
theorem dX7_tick_15 : decode cX7_tick 15 = .ok (.aload_n 1, 1) := by decide +kernel
theorem dX7_tick_16 : decode cX7_tick 16 = .ok (.iconst 1, 1) := by decide +kernel
theorem dX7_tick_17 : decode cX7_tick 17 = .ok (.invokevirtual 95, 3) := by decide +kernel
theorem dX7_tick_20 : decode cX7_tick 20 = .ok (.iconst 0, 1) := by decide +kernel
theorem dX7_tick_21 : decode cX7_tick 21 = .ok (.istore_n 2, 1) := by decide +kernel
theorem dX7_tick_22 : decode cX7_tick 22 = .ok (.iload_n 2, 1) := by decide +kernel
theorem dX7_tick_23 : decode cX7_tick 23 = .ok (.iconst 2, 1) := by decide +kernel
theorem dX7_tick_24 : decode cX7_tick 24 = .ok (.if_icmp .ge 56, 3) := by decide +kernel
theorem dX7_tick_27 : decode cX7_tick 27 = .ok (.bipush 16, 2) := by decide +kernel
theorem dX7_tick_29 : decode cX7_tick 29 = .ok (.iload_n 2, 1) := by decide +kernel
theorem dX7_tick_30 : decode cX7_tick 30 = .ok (.imul, 1) := by decide +kernel
theorem dX7_tick_31 : decode cX7_tick 31 = .ok (.istore_n 3, 1) := by decide +kernel
theorem dX7_tick_32 : decode cX7_tick 32 = .ok (.aload_n 1, 1) := by decide +kernel
theorem dX7_tick_33 : decode cX7_tick 33 = .ok (.iload_n 3, 1) := by decide +kernel
theorem dX7_tick_34 : decode cX7_tick 34 = .ok (.iconst 5, 1) := by decide +kernel
theorem dX7_tick_35 : decode cX7_tick 35 = .ok (.iadd, 1) := by decide +kernel
theorem dX7_tick_36 : decode cX7_tick 36 = .ok (.iaload, 1) := by decide +kernel
theorem dX7_tick_37 : decode cX7_tick 37 = .ok (.ifCond .eq 37, 3) := by decide +kernel
theorem dX7_tick_40 : decode cX7_tick 40 = .ok (.aload_n 1, 1) := by decide +kernel
theorem dX7_tick_41 : decode cX7_tick 41 = .ok (.iload_n 3, 1) := by decide +kernel
theorem dX7_tick_42 : decode cX7_tick 42 = .ok (.invokestatic 98, 3) := by decide +kernel
theorem dX7_tick_45 : decode cX7_tick 45 = .ok (.ifCond .ne 29, 3) := by decide +kernel
theorem dX7_tick_48 : decode cX7_tick 48 = .ok (.aload_n 1, 1) := by decide +kernel
theorem dX7_tick_49 : decode cX7_tick 49 = .ok (.iload_n 3, 1) := by decide +kernel
theorem dX7_tick_50 : decode cX7_tick 50 = .ok (.bipush 8, 2) := by decide +kernel
theorem dX7_tick_52 : decode cX7_tick 52 = .ok (.iadd, 1) := by decide +kernel
theorem dX7_tick_53 : decode cX7_tick 53 = .ok (.iaload, 1) := by decide +kernel
theorem dX7_tick_54 : decode cX7_tick 54 = .ok (.aload_n 1, 1) := by decide +kernel
theorem dX7_tick_55 : decode cX7_tick 55 = .ok (.iload_n 3, 1) := by decide +kernel
theorem dX7_tick_56 : decode cX7_tick 56 = .ok (.invokestatic 101, 3) := by decide +kernel
theorem dX7_tick_59 : decode cX7_tick 59 = .ok (.if_icmp .lt 15, 3) := by decide +kernel
theorem dX7_tick_62 : decode cX7_tick 62 = .ok (.aload_n 1, 1) := by decide +kernel
theorem dX7_tick_63 : decode cX7_tick 63 = .ok (.iload_n 3, 1) := by decide +kernel
theorem dX7_tick_64 : decode cX7_tick 64 = .ok (.invokestatic 71, 3) := by decide +kernel
theorem dX7_tick_67 : decode cX7_tick 67 = .ok (.aload_n 1, 1) := by decide +kernel
theorem dX7_tick_68 : decode cX7_tick 68 = .ok (.iload_n 3, 1) := by decide +kernel
theorem dX7_tick_69 : decode cX7_tick 69 = .ok (.bipush 11, 2) := by decide +kernel
theorem dX7_tick_71 : decode cX7_tick 71 = .ok (.iadd, 1) := by decide +kernel
theorem dX7_tick_72 : decode cX7_tick 72 = .ok (.iconst 0, 1) := by decide +kernel
theorem dX7_tick_73 : decode cX7_tick 73 = .ok (.iastore, 1) := by decide +kernel
theorem dX7_tick_74 : decode cX7_tick 74 = .ok (.iinc 2 1, 3) := by decide +kernel
theorem dX7_tick_77 : decode cX7_tick 77 = .ok (.goto (-55), 3) := by decide +kernel
theorem dX7_tick_80 : decode cX7_tick 80 = .ok (.iconst 0, 1) := by decide +kernel
theorem dX7_tick_81 : decode cX7_tick 81 = .ok (.istore_n 2, 1) := by decide +kernel
theorem dX7_tick_82 : decode cX7_tick 82 = .ok (.iload_n 2, 1) := by decide +kernel
theorem dX7_tick_83 : decode cX7_tick 83 = .ok (.iconst 2, 1) := by decide +kernel
theorem dX7_tick_84 : decode cX7_tick 84 = .ok (.if_icmp .ge 65, 3) := by decide +kernel
theorem dX7_tick_87 : decode cX7_tick 87 = .ok (.bipush 16, 2) := by decide +kernel
theorem dX7_tick_89 : decode cX7_tick 89 = .ok (.iload_n 2, 1) := by decide +kernel
theorem dX7_tick_90 : decode cX7_tick 90 = .ok (.imul, 1) := by decide +kernel
theorem dX7_tick_91 : decode cX7_tick 91 = .ok (.istore_n 3, 1) := by decide +kernel
theorem dX7_tick_92 : decode cX7_tick 92 = .ok (.aload_n 1, 1) := by decide +kernel
theorem dX7_tick_93 : decode cX7_tick 93 = .ok (.iload_n 3, 1) := by decide +kernel
theorem dX7_tick_94 : decode cX7_tick 94 = .ok (.bipush 9, 2) := by decide +kernel
theorem dX7_tick_96 : decode cX7_tick 96 = .ok (.iadd, 1) := by decide +kernel
theorem dX7_tick_97 : decode cX7_tick 97 = .ok (.aload_n 1, 1) := by decide +kernel
theorem dX7_tick_98 : decode cX7_tick 98 = .ok (.iload_n 3, 1) := by decide +kernel
theorem dX7_tick_99 : decode cX7_tick 99 = .ok (.bipush 9, 2) := by decide +kernel
theorem dX7_tick_101 : decode cX7_tick 101 = .ok (.iadd, 1) := by decide +kernel
theorem dX7_tick_102 : decode cX7_tick 102 = .ok (.iaload, 1) := by decide +kernel
theorem dX7_tick_103 : decode cX7_tick 103 = .ok (.iconst 1, 1) := by decide +kernel
theorem dX7_tick_104 : decode cX7_tick 104 = .ok (.isub, 1) := by decide +kernel
theorem dX7_tick_105 : decode cX7_tick 105 = .ok (.iconst 0, 1) := by decide +kernel
theorem dX7_tick_106 : decode cX7_tick 106 = .ok (.invokestatic 59, 3) := by decide +kernel
theorem dX7_tick_109 : decode cX7_tick 109 = .ok (.iastore, 1) := by decide +kernel
theorem dX7_tick_110 : decode cX7_tick 110 = .ok (.aload_n 1, 1) := by decide +kernel
theorem dX7_tick_111 : decode cX7_tick 111 = .ok (.iload_n 3, 1) := by decide +kernel
theorem dX7_tick_112 : decode cX7_tick 112 = .ok (.bipush 10, 2) := by decide +kernel
theorem dX7_tick_114 : decode cX7_tick 114 = .ok (.iadd, 1) := by decide +kernel
theorem dX7_tick_115 : decode cX7_tick 115 = .ok (.iaload, 1) := by decide +kernel
theorem dX7_tick_116 : decode cX7_tick 116 = .ok (.iconst 1, 1) := by decide +kernel
theorem dX7_tick_117 : decode cX7_tick 117 = .ok (.if_icmp .eq 20, 3) := by decide +kernel
theorem dX7_tick_120 : decode cX7_tick 120 = .ok (.aload_n 1, 1) := by decide +kernel
theorem dX7_tick_121 : decode cX7_tick 121 = .ok (.iload_n 3, 1) := by decide +kernel
theorem dX7_tick_122 : decode cX7_tick 122 = .ok (.bipush 9, 2) := by decide +kernel
theorem dX7_tick_124 : decode cX7_tick 124 = .ok (.iadd, 1) := by decide +kernel
theorem dX7_tick_125 : decode cX7_tick 125 = .ok (.iaload, 1) := by decide +kernel
theorem dX7_tick_126 : decode cX7_tick 126 = .ok (.ifCond .ne 17, 3) := by decide +kernel
theorem dX7_tick_129 : decode cX7_tick 129 = .ok (.aload_n 1, 1) := by decide +kernel
theorem dX7_tick_130 : decode cX7_tick 130 = .ok (.iload_n 3, 1) := by decide +kernel
theorem dX7_tick_131 : decode cX7_tick 131 = .ok (.invokestatic 104, 3) := by decide +kernel
theorem dX7_tick_134 : decode cX7_tick 134 = .ok (.ifCond .ne 9, 3) := by decide +kernel
theorem dX7_tick_137 : decode cX7_tick 137 = .ok (.aload_n 0, 1) := by decide +kernel
theorem dX7_tick_138 : decode cX7_tick 138 = .ok (.aload_n 1, 1) := by decide +kernel
theorem dX7_tick_139 : decode cX7_tick 139 = .ok (.iload_n 2, 1) := by decide +kernel
theorem dX7_tick_140 : decode cX7_tick 140 = .ok (.invokevirtual 107, 3) := by decide +kernel
theorem dX7_tick_143 : decode cX7_tick 143 = .ok (.iinc 2 1, 3) := by decide +kernel
theorem dX7_tick_146 : decode cX7_tick 146 = .ok (.goto (-64), 3) := by decide +kernel
theorem dX7_tick_149 : decode cX7_tick 149 = .ok (.aload_n 1, 1) := by decide +kernel
theorem dX7_tick_150 : decode cX7_tick 150 = .ok (.bipush 54, 2) := by decide +kernel
theorem dX7_tick_152 : decode cX7_tick 152 = .ok (.dup2, 1) := by decide +kernel
theorem dX7_tick_153 : decode cX7_tick 153 = .ok (.iaload, 1) := by decide +kernel
theorem dX7_tick_154 : decode cX7_tick 154 = .ok (.aload_n 1, 1) := by decide +kernel
theorem dX7_tick_155 : decode cX7_tick 155 = .ok (.iconst 5, 1) := by decide +kernel
theorem dX7_tick_156 : decode cX7_tick 156 = .ok (.iaload, 1) := by decide +kernel
theorem dX7_tick_157 : decode cX7_tick 157 = .ok (.iconst 2, 1) := by decide +kernel
theorem dX7_tick_158 : decode cX7_tick 158 = .ok (.if_icmp .ne 15, 3) := by decide +kernel
theorem dX7_tick_161 : decode cX7_tick 161 = .ok (.aload_n 1, 1) := by decide +kernel
theorem dX7_tick_162 : decode cX7_tick 162 = .ok (.bipush 21, 2) := by decide +kernel
theorem dX7_tick_164 : decode cX7_tick 164 = .ok (.iaload, 1) := by decide +kernel
theorem dX7_tick_165 : decode cX7_tick 165 = .ok (.iconst 2, 1) := by decide +kernel
theorem dX7_tick_166 : decode cX7_tick 166 = .ok (.if_icmp .ne 7, 3) := by decide +kernel
theorem dX7_tick_169 : decode cX7_tick 169 = .ok (.iconst 1, 1) := by decide +kernel
theorem dX7_tick_170 : decode cX7_tick 170 = .ok (.goto 4, 3) := by decide +kernel
theorem dX7_tick_173 : decode cX7_tick 173 = .ok (.iconst 0, 1) := by decide +kernel
theorem dX7_tick_174 : decode cX7_tick 174 = .ok (.iadd, 1) := by decide +kernel
theorem dX7_tick_175 : decode cX7_tick 175 = .ok (.iastore, 1) := by decide +kernel
theorem dX7_tick_176 : decode cX7_tick 176 = .ok (.return_, 1) := by decide +kernel
theorem dX7_goFor_0 : decode cX7_goFor 0 = .ok (.iconst 0, 1) := by decide +kernel
theorem dX7_goFor_1 : decode cX7_goFor 1 = .ok (.istore_n 3, 1) := by decide +kernel
theorem dX7_goFor_2 : decode cX7_goFor 2 = .ok (.iload_n 3, 1) := by decide +kernel
theorem dX7_goFor_3 : decode cX7_goFor 3 = .ok (.iload_n 2, 1) := by decide +kernel
theorem dX7_goFor_4 : decode cX7_goFor 4 = .ok (.if_icmp .ge 14, 3) := by decide +kernel
theorem dX7_goFor_7 : decode cX7_goFor 7 = .ok (.aload_n 0, 1) := by decide +kernel
theorem dX7_goFor_8 : decode cX7_goFor 8 = .ok (.aload_n 1, 1) := by decide +kernel
theorem dX7_goFor_9 : decode cX7_goFor 9 = .ok (.invokevirtual 110, 3) := by decide +kernel
theorem dX7_goFor_12 : decode cX7_goFor 12 = .ok (.iinc 3 1, 3) := by decide +kernel
theorem dX7_goFor_15 : decode cX7_goFor 15 = .ok (.goto (-13), 3) := by decide +kernel
theorem dX7_goFor_18 : decode cX7_goFor 18 = .ok (.return_, 1) := by decide +kernel
theorem dX7_layTrial_0 : decode cX7_layTrial 0 = .ok (.aload_n 0, 1) := by decide +kernel
theorem dX7_layTrial_1 : decode cX7_layTrial 1 = .ok (.getfield 19, 3) := by decide +kernel
theorem dX7_layTrial_4 : decode cX7_layTrial 4 = .ok (.aload_n 0, 1) := by decide +kernel
theorem dX7_layTrial_5 : decode cX7_layTrial 5 = .ok (.getfield 22, 3) := by decide +kernel
theorem dX7_layTrial_8 : decode cX7_layTrial 8 = .ok (.invokestatic 113, 3) := by decide +kernel
theorem dX7_layTrial_11 : decode cX7_layTrial 11 = .ok (.aload_n 0, 1) := by decide +kernel
theorem dX7_layTrial_12 : decode cX7_layTrial 12 = .ok (.bipush (-9), 2) := by decide +kernel
theorem dX7_layTrial_14 : decode cX7_layTrial 14 = .ok (.putfield 44, 3) := by decide +kernel
theorem dX7_layTrial_17 : decode cX7_layTrial 17 = .ok (.aload_n 0, 1) := by decide +kernel
theorem dX7_layTrial_18 : decode cX7_layTrial 18 = .ok (.iconst 0, 1) := by decide +kernel
theorem dX7_layTrial_19 : decode cX7_layTrial 19 = .ok (.putfield 84, 3) := by decide +kernel
theorem dX7_layTrial_22 : decode cX7_layTrial 22 = .ok (.aload_n 0, 1) := by decide +kernel
theorem dX7_layTrial_23 : decode cX7_layTrial 23 = .ok (.bipush 6, 2) := by decide +kernel
theorem dX7_layTrial_25 : decode cX7_layTrial 25 = .ok (.putfield 81, 3) := by decide +kernel
theorem dX7_layTrial_28 : decode cX7_layTrial 28 = .ok (.return_, 1) := by decide +kernel
theorem dX7_setTx_0 : decode cX7_setTx 0 = .ok (.aload_n 0, 1) := by decide +kernel
theorem dX7_setTx_1 : decode cX7_setTx 1 = .ok (.iload_n 1, 1) := by decide +kernel
theorem dX7_setTx_2 : decode cX7_setTx 2 = .ok (.iconst 5, 1) := by decide +kernel
theorem dX7_setTx_3 : decode cX7_setTx 3 = .ok (.iadd, 1) := by decide +kernel
theorem dX7_setTx_4 : decode cX7_setTx 4 = .ok (.iaload, 1) := by decide +kernel
theorem dX7_setTx_5 : decode cX7_setTx 5 = .ok (.iconst 2, 1) := by decide +kernel
theorem dX7_setTx_6 : decode cX7_setTx 6 = .ok (.if_icmp .ne 7, 3) := by decide +kernel
theorem dX7_setTx_9 : decode cX7_setTx 9 = .ok (.iconst 1, 1) := by decide +kernel
theorem dX7_setTx_10 : decode cX7_setTx 10 = .ok (.goto 4, 3) := by decide +kernel
theorem dX7_setTx_13 : decode cX7_setTx 13 = .ok (.iconst 0, 1) := by decide +kernel
theorem dX7_setTx_14 : decode cX7_setTx 14 = .ok (.istore_n 3, 1) := by decide +kernel
theorem dX7_setTx_15 : decode cX7_setTx 15 = .ok (.aload_n 0, 1) := by decide +kernel
theorem dX7_setTx_16 : decode cX7_setTx 16 = .ok (.iload_n 1, 1) := by decide +kernel
theorem dX7_setTx_17 : decode cX7_setTx 17 = .ok (.iconst 0, 1) := by decide +kernel
theorem dX7_setTx_18 : decode cX7_setTx 18 = .ok (.iadd, 1) := by decide +kernel
theorem dX7_setTx_19 : decode cX7_setTx 19 = .ok (.iload_n 2, 1) := by decide +kernel
theorem dX7_setTx_20 : decode cX7_setTx 20 = .ok (.iastore, 1) := by decide +kernel
theorem dX7_setTx_21 : decode cX7_setTx 21 = .ok (.aload_n 0, 1) := by decide +kernel
theorem dX7_setTx_22 : decode cX7_setTx 22 = .ok (.iload_n 1, 1) := by decide +kernel
theorem dX7_setTx_23 : decode cX7_setTx 23 = .ok (.iconst 3, 1) := by decide +kernel
theorem dX7_setTx_24 : decode cX7_setTx 24 = .ok (.iadd, 1) := by decide +kernel
theorem dX7_setTx_25 : decode cX7_setTx 25 = .ok (.iload_n 3, 1) := by decide +kernel
theorem dX7_setTx_26 : decode cX7_setTx 26 = .ok (.ifCond .eq 15, 3) := by decide +kernel
theorem dX7_setTx_29 : decode cX7_setTx 29 = .ok (.aload_n 0, 1) := by decide +kernel
theorem dX7_setTx_30 : decode cX7_setTx 30 = .ok (.iload_n 1, 1) := by decide +kernel
theorem dX7_setTx_31 : decode cX7_setTx 31 = .ok (.iconst 3, 1) := by decide +kernel
theorem dX7_setTx_32 : decode cX7_setTx 32 = .ok (.iadd, 1) := by decide +kernel
theorem dX7_setTx_33 : decode cX7_setTx 33 = .ok (.iaload, 1) := by decide +kernel
theorem dX7_setTx_34 : decode cX7_setTx 34 = .ok (.iload_n 2, 1) := by decide +kernel
theorem dX7_setTx_35 : decode cX7_setTx 35 = .ok (.invokestatic 117, 3) := by decide +kernel
theorem dX7_setTx_38 : decode cX7_setTx 38 = .ok (.goto 4, 3) := by decide +kernel
theorem dX7_setTx_41 : decode cX7_setTx 41 = .ok (.iload_n 2, 1) := by decide +kernel
theorem dX7_setTx_42 : decode cX7_setTx 42 = .ok (.iastore, 1) := by decide +kernel
theorem dX7_setTx_43 : decode cX7_setTx 43 = .ok (.aload_n 0, 1) := by decide +kernel
theorem dX7_setTx_44 : decode cX7_setTx 44 = .ok (.iload_n 1, 1) := by decide +kernel
theorem dX7_setTx_45 : decode cX7_setTx 45 = .ok (.bipush 6, 2) := by decide +kernel
theorem dX7_setTx_47 : decode cX7_setTx 47 = .ok (.iadd, 1) := by decide +kernel
theorem dX7_setTx_48 : decode cX7_setTx 48 = .ok (.iload_n 3, 1) := by decide +kernel
theorem dX7_setTx_49 : decode cX7_setTx 49 = .ok (.ifCond .eq 7, 3) := by decide +kernel
theorem dX7_setTx_52 : decode cX7_setTx 52 = .ok (.iconst 1, 1) := by decide +kernel
theorem dX7_setTx_53 : decode cX7_setTx 53 = .ok (.goto 9, 3) := by decide +kernel
theorem dX7_setTx_56 : decode cX7_setTx 56 = .ok (.aload_n 0, 1) := by decide +kernel
theorem dX7_setTx_57 : decode cX7_setTx 57 = .ok (.iload_n 1, 1) := by decide +kernel
theorem dX7_setTx_58 : decode cX7_setTx 58 = .ok (.bipush 6, 2) := by decide +kernel
theorem dX7_setTx_60 : decode cX7_setTx 60 = .ok (.iadd, 1) := by decide +kernel
theorem dX7_setTx_61 : decode cX7_setTx 61 = .ok (.iaload, 1) := by decide +kernel
theorem dX7_setTx_62 : decode cX7_setTx 62 = .ok (.iastore, 1) := by decide +kernel
theorem dX7_setTx_63 : decode cX7_setTx 63 = .ok (.return_, 1) := by decide +kernel
theorem dX7_setRx_0 : decode cX7_setRx 0 = .ok (.aload_n 0, 1) := by decide +kernel
theorem dX7_setRx_1 : decode cX7_setRx 1 = .ok (.iload_n 1, 1) := by decide +kernel
theorem dX7_setRx_2 : decode cX7_setRx 2 = .ok (.iconst 5, 1) := by decide +kernel
theorem dX7_setRx_3 : decode cX7_setRx 3 = .ok (.iadd, 1) := by decide +kernel
theorem dX7_setRx_4 : decode cX7_setRx 4 = .ok (.iaload, 1) := by decide +kernel
theorem dX7_setRx_5 : decode cX7_setRx 5 = .ok (.iconst 2, 1) := by decide +kernel
theorem dX7_setRx_6 : decode cX7_setRx 6 = .ok (.if_icmp .ne 7, 3) := by decide +kernel
theorem dX7_setRx_9 : decode cX7_setRx 9 = .ok (.iconst 1, 1) := by decide +kernel
theorem dX7_setRx_10 : decode cX7_setRx 10 = .ok (.goto 4, 3) := by decide +kernel
theorem dX7_setRx_13 : decode cX7_setRx 13 = .ok (.iconst 0, 1) := by decide +kernel
theorem dX7_setRx_14 : decode cX7_setRx 14 = .ok (.istore_n 3, 1) := by decide +kernel
theorem dX7_setRx_15 : decode cX7_setRx 15 = .ok (.aload_n 0, 1) := by decide +kernel
theorem dX7_setRx_16 : decode cX7_setRx 16 = .ok (.iload_n 1, 1) := by decide +kernel
theorem dX7_setRx_17 : decode cX7_setRx 17 = .ok (.iconst 1, 1) := by decide +kernel
theorem dX7_setRx_18 : decode cX7_setRx 18 = .ok (.iadd, 1) := by decide +kernel
theorem dX7_setRx_19 : decode cX7_setRx 19 = .ok (.iload_n 2, 1) := by decide +kernel
theorem dX7_setRx_20 : decode cX7_setRx 20 = .ok (.iastore, 1) := by decide +kernel
theorem dX7_setRx_21 : decode cX7_setRx 21 = .ok (.aload_n 0, 1) := by decide +kernel
theorem dX7_setRx_22 : decode cX7_setRx 22 = .ok (.iload_n 1, 1) := by decide +kernel
theorem dX7_setRx_23 : decode cX7_setRx 23 = .ok (.iconst 4, 1) := by decide +kernel
theorem dX7_setRx_24 : decode cX7_setRx 24 = .ok (.iadd, 1) := by decide +kernel
theorem dX7_setRx_25 : decode cX7_setRx 25 = .ok (.iload_n 3, 1) := by decide +kernel
theorem dX7_setRx_26 : decode cX7_setRx 26 = .ok (.ifCond .eq 15, 3) := by decide +kernel
theorem dX7_setRx_29 : decode cX7_setRx 29 = .ok (.aload_n 0, 1) := by decide +kernel
theorem dX7_setRx_30 : decode cX7_setRx 30 = .ok (.iload_n 1, 1) := by decide +kernel
theorem dX7_setRx_31 : decode cX7_setRx 31 = .ok (.iconst 4, 1) := by decide +kernel
theorem dX7_setRx_32 : decode cX7_setRx 32 = .ok (.iadd, 1) := by decide +kernel
theorem dX7_setRx_33 : decode cX7_setRx 33 = .ok (.iaload, 1) := by decide +kernel
theorem dX7_setRx_34 : decode cX7_setRx 34 = .ok (.iload_n 2, 1) := by decide +kernel
theorem dX7_setRx_35 : decode cX7_setRx 35 = .ok (.invokestatic 59, 3) := by decide +kernel
theorem dX7_setRx_38 : decode cX7_setRx 38 = .ok (.goto 4, 3) := by decide +kernel
theorem dX7_setRx_41 : decode cX7_setRx 41 = .ok (.iload_n 2, 1) := by decide +kernel
theorem dX7_setRx_42 : decode cX7_setRx 42 = .ok (.iastore, 1) := by decide +kernel
theorem dX7_setRx_43 : decode cX7_setRx 43 = .ok (.aload_n 0, 1) := by decide +kernel
theorem dX7_setRx_44 : decode cX7_setRx 44 = .ok (.iload_n 1, 1) := by decide +kernel
theorem dX7_setRx_45 : decode cX7_setRx 45 = .ok (.bipush 6, 2) := by decide +kernel
theorem dX7_setRx_47 : decode cX7_setRx 47 = .ok (.iadd, 1) := by decide +kernel
theorem dX7_setRx_48 : decode cX7_setRx 48 = .ok (.iload_n 3, 1) := by decide +kernel
theorem dX7_setRx_49 : decode cX7_setRx 49 = .ok (.ifCond .eq 7, 3) := by decide +kernel
theorem dX7_setRx_52 : decode cX7_setRx 52 = .ok (.iconst 1, 1) := by decide +kernel
theorem dX7_setRx_53 : decode cX7_setRx 53 = .ok (.goto 9, 3) := by decide +kernel
theorem dX7_setRx_56 : decode cX7_setRx 56 = .ok (.aload_n 0, 1) := by decide +kernel
theorem dX7_setRx_57 : decode cX7_setRx 57 = .ok (.iload_n 1, 1) := by decide +kernel
theorem dX7_setRx_58 : decode cX7_setRx 58 = .ok (.bipush 6, 2) := by decide +kernel
theorem dX7_setRx_60 : decode cX7_setRx 60 = .ok (.iadd, 1) := by decide +kernel
theorem dX7_setRx_61 : decode cX7_setRx 61 = .ok (.iaload, 1) := by decide +kernel
theorem dX7_setRx_62 : decode cX7_setRx 62 = .ok (.iastore, 1) := by decide +kernel
theorem dX7_setRx_63 : decode cX7_setRx 63 = .ok (.return_, 1) := by decide +kernel
theorem dX7_mayPoll_0 : decode cX7_mayPoll 0 = .ok (.aload_n 0, 1) := by decide +kernel
theorem dX7_mayPoll_1 : decode cX7_mayPoll 1 = .ok (.iload_n 1, 1) := by decide +kernel
theorem dX7_mayPoll_2 : decode cX7_mayPoll 2 = .ok (.iconst 5, 1) := by decide +kernel
theorem dX7_mayPoll_3 : decode cX7_mayPoll 3 = .ok (.iadd, 1) := by decide +kernel
theorem dX7_mayPoll_4 : decode cX7_mayPoll 4 = .ok (.iaload, 1) := by decide +kernel
theorem dX7_mayPoll_5 : decode cX7_mayPoll 5 = .ok (.iconst 2, 1) := by decide +kernel
theorem dX7_mayPoll_6 : decode cX7_mayPoll 6 = .ok (.if_icmp .ne 16, 3) := by decide +kernel
theorem dX7_mayPoll_9 : decode cX7_mayPoll 9 = .ok (.aload_n 0, 1) := by decide +kernel
theorem dX7_mayPoll_10 : decode cX7_mayPoll 10 = .ok (.iload_n 1, 1) := by decide +kernel
theorem dX7_mayPoll_11 : decode cX7_mayPoll 11 = .ok (.bipush 6, 2) := by decide +kernel
theorem dX7_mayPoll_13 : decode cX7_mayPoll 13 = .ok (.iadd, 1) := by decide +kernel
theorem dX7_mayPoll_14 : decode cX7_mayPoll 14 = .ok (.iaload, 1) := by decide +kernel
theorem dX7_mayPoll_15 : decode cX7_mayPoll 15 = .ok (.ifCond .ne 7, 3) := by decide +kernel
theorem dX7_mayPoll_18 : decode cX7_mayPoll 18 = .ok (.iconst 1, 1) := by decide +kernel
theorem dX7_mayPoll_19 : decode cX7_mayPoll 19 = .ok (.goto 4, 3) := by decide +kernel
theorem dX7_mayPoll_22 : decode cX7_mayPoll 22 = .ok (.iconst 0, 1) := by decide +kernel
theorem dX7_mayPoll_23 : decode cX7_mayPoll 23 = .ok (.ireturn, 1) := by decide +kernel
theorem dX7_pollOn_0 : decode cX7_pollOn 0 = .ok (.aload_n 0, 1) := by decide +kernel
theorem dX7_pollOn_1 : decode cX7_pollOn 1 = .ok (.iload_n 1, 1) := by decide +kernel
theorem dX7_pollOn_2 : decode cX7_pollOn 2 = .ok (.bipush 6, 2) := by decide +kernel
theorem dX7_pollOn_4 : decode cX7_pollOn 4 = .ok (.iadd, 1) := by decide +kernel
theorem dX7_pollOn_5 : decode cX7_pollOn 5 = .ok (.iconst 1, 1) := by decide +kernel
theorem dX7_pollOn_6 : decode cX7_pollOn 6 = .ok (.iastore, 1) := by decide +kernel
theorem dX7_pollOn_7 : decode cX7_pollOn 7 = .ok (.aload_n 0, 1) := by decide +kernel
theorem dX7_pollOn_8 : decode cX7_pollOn 8 = .ok (.iload_n 1, 1) := by decide +kernel
theorem dX7_pollOn_9 : decode cX7_pollOn 9 = .ok (.bipush 8, 2) := by decide +kernel
theorem dX7_pollOn_11 : decode cX7_pollOn 11 = .ok (.iadd, 1) := by decide +kernel
theorem dX7_pollOn_12 : decode cX7_pollOn 12 = .ok (.iconst 0, 1) := by decide +kernel
theorem dX7_pollOn_13 : decode cX7_pollOn 13 = .ok (.iastore, 1) := by decide +kernel
theorem dX7_pollOn_14 : decode cX7_pollOn 14 = .ok (.aload_n 0, 1) := by decide +kernel
theorem dX7_pollOn_15 : decode cX7_pollOn 15 = .ok (.iload_n 1, 1) := by decide +kernel
theorem dX7_pollOn_16 : decode cX7_pollOn 16 = .ok (.bipush 9, 2) := by decide +kernel
theorem dX7_pollOn_18 : decode cX7_pollOn 18 = .ok (.iadd, 1) := by decide +kernel
theorem dX7_pollOn_19 : decode cX7_pollOn 19 = .ok (.iconst 0, 1) := by decide +kernel
theorem dX7_pollOn_20 : decode cX7_pollOn 20 = .ok (.iastore, 1) := by decide +kernel
theorem dX7_pollOn_21 : decode cX7_pollOn 21 = .ok (.return_, 1) := by decide +kernel
theorem dX7_write_0 : decode cX7_write 0 = .ok (.aload_n 0, 1) := by decide +kernel
theorem dX7_write_1 : decode cX7_write 1 = .ok (.iconst 0, 1) := by decide +kernel
theorem dX7_write_2 : decode cX7_write 2 = .ok (.putfield 52, 3) := by decide +kernel
theorem dX7_write_5 : decode cX7_write 5 = .ok (.iload_n 1, 1) := by decide +kernel
theorem dX7_write_6 : decode cX7_write 6 = .ok (.i2l, 1) := by decide +kernel
theorem dX7_write_7 : decode cX7_write 7 = .ok (.lconst 0, 1) := by decide +kernel
theorem dX7_write_8 : decode cX7_write 8 = .ok (.ldc2_w 120, 3) := by decide +kernel
theorem dX7_write_11 : decode cX7_write 11 = .ok (.invokestatic 55, 3) := by decide +kernel
theorem dX7_write_14 : decode cX7_write 14 = .ok (.ifCond .ne 6, 3) := by decide +kernel
theorem dX7_write_17 : decode cX7_write 17 = .ok (.bipush (-2), 2) := by decide +kernel
theorem dX7_write_19 : decode cX7_write 19 = .ok (.ireturn, 1) := by decide +kernel
theorem dX7_write_20 : decode cX7_write 20 = .ok (.aload_n 0, 1) := by decide +kernel
theorem dX7_write_21 : decode cX7_write 21 = .ok (.getfield 122, 3) := by decide +kernel
theorem dX7_write_24 : decode cX7_write 24 = .ok (.bipush 70, 2) := by decide +kernel
theorem dX7_write_26 : decode cX7_write 26 = .ok (.if_icmp .ne 6, 3) := by decide +kernel
theorem dX7_write_29 : decode cX7_write 29 = .ok (.bipush (-4), 2) := by decide +kernel
theorem dX7_write_31 : decode cX7_write 31 = .ok (.ireturn, 1) := by decide +kernel
theorem dX7_write_32 : decode cX7_write 32 = .ok (.aload_n 0, 1) := by decide +kernel
theorem dX7_write_33 : decode cX7_write 33 = .ok (.getfield 7, 3) := by decide +kernel
theorem dX7_write_36 : decode cX7_write 36 = .ok (.aload_n 0, 1) := by decide +kernel
theorem dX7_write_37 : decode cX7_write 37 = .ok (.getfield 122, 3) := by decide +kernel
theorem dX7_write_40 : decode cX7_write 40 = .ok (.iload_n 1, 1) := by decide +kernel
theorem dX7_write_41 : decode cX7_write 41 = .ok (.iastore, 1) := by decide +kernel
theorem dX7_write_42 : decode cX7_write 42 = .ok (.aload_n 0, 1) := by decide +kernel
theorem dX7_write_43 : decode cX7_write 43 = .ok (.dup, 1) := by decide +kernel
theorem dX7_write_44 : decode cX7_write 44 = .ok (.getfield 122, 3) := by decide +kernel
theorem dX7_write_47 : decode cX7_write 47 = .ok (.iconst 1, 1) := by decide +kernel
theorem dX7_write_48 : decode cX7_write 48 = .ok (.iadd, 1) := by decide +kernel
theorem dX7_write_49 : decode cX7_write 49 = .ok (.putfield 122, 3) := by decide +kernel
theorem dX7_write_52 : decode cX7_write 52 = .ok (.aload_n 0, 1) := by decide +kernel
theorem dX7_write_53 : decode cX7_write 53 = .ok (.getfield 122, 3) := by decide +kernel
theorem dX7_write_56 : decode cX7_write 56 = .ok (.ireturn, 1) := by decide +kernel
theorem dX7_wipe_0 : decode cX7_wipe 0 = .ok (.aload_n 0, 1) := by decide +kernel
theorem dX7_wipe_1 : decode cX7_wipe 1 = .ok (.iconst 0, 1) := by decide +kernel
theorem dX7_wipe_2 : decode cX7_wipe 2 = .ok (.putfield 52, 3) := by decide +kernel
theorem dX7_wipe_5 : decode cX7_wipe 5 = .ok (.aload_n 0, 1) := by decide +kernel
theorem dX7_wipe_6 : decode cX7_wipe 6 = .ok (.getfield 122, 3) := by decide +kernel
theorem dX7_wipe_9 : decode cX7_wipe 9 = .ok (.istore_n 1, 1) := by decide +kernel
theorem dX7_wipe_10 : decode cX7_wipe 10 = .ok (.aload_n 0, 1) := by decide +kernel
theorem dX7_wipe_11 : decode cX7_wipe 11 = .ok (.iconst 0, 1) := by decide +kernel
theorem dX7_wipe_12 : decode cX7_wipe 12 = .ok (.putfield 122, 3) := by decide +kernel
theorem dX7_wipe_15 : decode cX7_wipe 15 = .ok (.iload_n 1, 1) := by decide +kernel
theorem dX7_wipe_16 : decode cX7_wipe 16 = .ok (.ireturn, 1) := by decide +kernel
theorem dX7_figure_0 : decode cX7_figure 0 = .ok (.aload_n 0, 1) := by decide +kernel
theorem dX7_figure_1 : decode cX7_figure 1 = .ok (.getfield 125, 3) := by decide +kernel
theorem dX7_figure_4 : decode cX7_figure 4 = .ok (.aload_n 0, 1) := by decide +kernel
theorem dX7_figure_5 : decode cX7_figure 5 = .ok (.getfield 122, 3) := by decide +kernel
theorem dX7_figure_8 : decode cX7_figure 8 = .ok (.if_icmp .ge 18, 3) := by decide +kernel
theorem dX7_figure_11 : decode cX7_figure 11 = .ok (.aload_n 0, 1) := by decide +kernel
theorem dX7_figure_12 : decode cX7_figure 12 = .ok (.getfield 7, 3) := by decide +kernel
theorem dX7_figure_15 : decode cX7_figure 15 = .ok (.aload_n 0, 1) := by decide +kernel
theorem dX7_figure_16 : decode cX7_figure 16 = .ok (.getfield 125, 3) := by decide +kernel
theorem dX7_figure_19 : decode cX7_figure 19 = .ok (.iaload, 1) := by decide +kernel
theorem dX7_figure_20 : decode cX7_figure 20 = .ok (.bipush 48, 2) := by decide +kernel
theorem dX7_figure_22 : decode cX7_figure 22 = .ok (.isub, 1) := by decide +kernel
theorem dX7_figure_23 : decode cX7_figure 23 = .ok (.goto 5, 3) := by decide +kernel
theorem dX7_figure_26 : decode cX7_figure 26 = .ok (.bipush (-9), 2) := by decide +kernel
theorem dX7_figure_28 : decode cX7_figure 28 = .ok (.istore_n 3, 1) := by decide +kernel
theorem dX7_figure_29 : decode cX7_figure 29 = .ok (.iload_n 3, 1) := by decide +kernel
theorem dX7_figure_30 : decode cX7_figure 30 = .ok (.i2l, 1) := by decide +kernel
theorem dX7_figure_31 : decode cX7_figure 31 = .ok (.iload_n 1, 1) := by decide +kernel
theorem dX7_figure_32 : decode cX7_figure 32 = .ok (.i2l, 1) := by decide +kernel
theorem dX7_figure_33 : decode cX7_figure 33 = .ok (.iload_n 2, 1) := by decide +kernel
theorem dX7_figure_34 : decode cX7_figure 34 = .ok (.i2l, 1) := by decide +kernel
theorem dX7_figure_35 : decode cX7_figure 35 = .ok (.invokestatic 55, 3) := by decide +kernel
theorem dX7_figure_38 : decode cX7_figure 38 = .ok (.ifCond .ne 6, 3) := by decide +kernel
theorem dX7_figure_41 : decode cX7_figure 41 = .ok (.bipush (-9), 2) := by decide +kernel
theorem dX7_figure_43 : decode cX7_figure 43 = .ok (.ireturn, 1) := by decide +kernel
theorem dX7_figure_44 : decode cX7_figure 44 = .ok (.aload_n 0, 1) := by decide +kernel
theorem dX7_figure_45 : decode cX7_figure 45 = .ok (.dup, 1) := by decide +kernel
theorem dX7_figure_46 : decode cX7_figure 46 = .ok (.getfield 125, 3) := by decide +kernel
theorem dX7_figure_49 : decode cX7_figure 49 = .ok (.iconst 1, 1) := by decide +kernel
theorem dX7_figure_50 : decode cX7_figure 50 = .ok (.iadd, 1) := by decide +kernel
theorem dX7_figure_51 : decode cX7_figure 51 = .ok (.putfield 125, 3) := by decide +kernel
theorem dX7_figure_54 : decode cX7_figure 54 = .ok (.iload_n 3, 1) := by decide +kernel
theorem dX7_figure_55 : decode cX7_figure 55 = .ok (.ireturn, 1) := by decide +kernel
theorem dX7_readEvent_0 : decode cX7_readEvent 0 = .ok (.aload_n 0, 1) := by decide +kernel
theorem dX7_readEvent_1 : decode cX7_readEvent 1 = .ok (.getfield 7, 3) := by decide +kernel
theorem dX7_readEvent_4 : decode cX7_readEvent 4 = .ok (.aload_n 0, 1) := by decide +kernel
theorem dX7_readEvent_5 : decode cX7_readEvent 5 = .ok (.getfield 125, 3) := by decide +kernel
theorem dX7_readEvent_8 : decode cX7_readEvent 8 = .ok (.iaload, 1) := by decide +kernel
theorem dX7_readEvent_9 : decode cX7_readEvent 9 = .ok (.bipush 100, 2) := by decide +kernel
theorem dX7_readEvent_11 : decode cX7_readEvent 11 = .ok (.if_icmp .eq 17, 3) := by decide +kernel
theorem dX7_readEvent_14 : decode cX7_readEvent 14 = .ok (.aload_n 0, 1) := by decide +kernel
theorem dX7_readEvent_15 : decode cX7_readEvent 15 = .ok (.getfield 7, 3) := by decide +kernel
theorem dX7_readEvent_18 : decode cX7_readEvent 18 = .ok (.aload_n 0, 1) := by decide +kernel
theorem dX7_readEvent_19 : decode cX7_readEvent 19 = .ok (.getfield 125, 3) := by decide +kernel
theorem dX7_readEvent_22 : decode cX7_readEvent 22 = .ok (.iaload, 1) := by decide +kernel
theorem dX7_readEvent_23 : decode cX7_readEvent 23 = .ok (.bipush 119, 2) := by decide +kernel
theorem dX7_readEvent_25 : decode cX7_readEvent 25 = .ok (.if_icmp .ne 57, 3) := by decide +kernel
theorem dX7_readEvent_28 : decode cX7_readEvent 28 = .ok (.aload_n 0, 1) := by decide +kernel
theorem dX7_readEvent_29 : decode cX7_readEvent 29 = .ok (.getfield 7, 3) := by decide +kernel
theorem dX7_readEvent_32 : decode cX7_readEvent 32 = .ok (.aload_n 0, 1) := by decide +kernel
theorem dX7_readEvent_33 : decode cX7_readEvent 33 = .ok (.getfield 125, 3) := by decide +kernel
theorem dX7_readEvent_36 : decode cX7_readEvent 36 = .ok (.iaload, 1) := by decide +kernel
theorem dX7_readEvent_37 : decode cX7_readEvent 37 = .ok (.bipush 100, 2) := by decide +kernel
theorem dX7_readEvent_39 : decode cX7_readEvent 39 = .ok (.if_icmp .ne 8, 3) := by decide +kernel
theorem dX7_readEvent_42 : decode cX7_readEvent 42 = .ok (.bipush 10, 2) := by decide +kernel
theorem dX7_readEvent_44 : decode cX7_readEvent 44 = .ok (.goto 5, 3) := by decide +kernel
theorem dX7_readEvent_47 : decode cX7_readEvent 47 = .ok (.bipush 20, 2) := by decide +kernel
theorem dX7_readEvent_49 : decode cX7_readEvent 49 = .ok (.istore_n 1, 1) := by decide +kernel
theorem dX7_readEvent_50 : decode cX7_readEvent 50 = .ok (.aload_n 0, 1) := by decide +kernel
theorem dX7_readEvent_51 : decode cX7_readEvent 51 = .ok (.dup, 1) := by decide +kernel
theorem dX7_readEvent_52 : decode cX7_readEvent 52 = .ok (.getfield 125, 3) := by decide +kernel
theorem dX7_readEvent_55 : decode cX7_readEvent 55 = .ok (.iconst 1, 1) := by decide +kernel
theorem dX7_readEvent_56 : decode cX7_readEvent 56 = .ok (.iadd, 1) := by decide +kernel
theorem dX7_readEvent_57 : decode cX7_readEvent 57 = .ok (.putfield 125, 3) := by decide +kernel
theorem dX7_readEvent_60 : decode cX7_readEvent 60 = .ok (.aload_n 0, 1) := by decide +kernel
theorem dX7_readEvent_61 : decode cX7_readEvent 61 = .ok (.iconst 0, 1) := by decide +kernel
theorem dX7_readEvent_62 : decode cX7_readEvent 62 = .ok (.iconst 1, 1) := by decide +kernel
theorem dX7_readEvent_63 : decode cX7_readEvent 63 = .ok (.invokevirtual 128, 3) := by decide +kernel
theorem dX7_readEvent_66 : decode cX7_readEvent 66 = .ok (.istore_n 2, 1) := by decide +kernel
theorem dX7_readEvent_67 : decode cX7_readEvent 67 = .ok (.iload_n 2, 1) := by decide +kernel
theorem dX7_readEvent_68 : decode cX7_readEvent 68 = .ok (.bipush (-9), 2) := by decide +kernel
theorem dX7_readEvent_70 : decode cX7_readEvent 70 = .ok (.if_icmp .ne 8, 3) := by decide +kernel
theorem dX7_readEvent_73 : decode cX7_readEvent 73 = .ok (.bipush (-9), 2) := by decide +kernel
theorem dX7_readEvent_75 : decode cX7_readEvent 75 = .ok (.goto 6, 3) := by decide +kernel
theorem dX7_readEvent_78 : decode cX7_readEvent 78 = .ok (.iload_n 1, 1) := by decide +kernel
theorem dX7_readEvent_79 : decode cX7_readEvent 79 = .ok (.iload_n 2, 1) := by decide +kernel
theorem dX7_readEvent_80 : decode cX7_readEvent 80 = .ok (.iadd, 1) := by decide +kernel
theorem dX7_readEvent_81 : decode cX7_readEvent 81 = .ok (.ireturn, 1) := by decide +kernel
theorem dX7_readEvent_82 : decode cX7_readEvent 82 = .ok (.aload_n 0, 1) := by decide +kernel
theorem dX7_readEvent_83 : decode cX7_readEvent 83 = .ok (.iconst 1, 1) := by decide +kernel
theorem dX7_readEvent_84 : decode cX7_readEvent 84 = .ok (.bipush 9, 2) := by decide +kernel
theorem dX7_readEvent_86 : decode cX7_readEvent 86 = .ok (.invokevirtual 128, 3) := by decide +kernel
theorem dX7_readEvent_89 : decode cX7_readEvent 89 = .ok (.ireturn, 1) := by decide +kernel
theorem dX7_readLink_0 : decode cX7_readLink 0 = .ok (.aload_n 0, 1) := by decide +kernel
theorem dX7_readLink_1 : decode cX7_readLink 1 = .ok (.iconst 0, 1) := by decide +kernel
theorem dX7_readLink_2 : decode cX7_readLink 2 = .ok (.putfield 125, 3) := by decide +kernel
theorem dX7_readLink_5 : decode cX7_readLink 5 = .ok (.aload_n 0, 1) := by decide +kernel
theorem dX7_readLink_6 : decode cX7_readLink 6 = .ok (.iconst 0, 1) := by decide +kernel
theorem dX7_readLink_7 : decode cX7_readLink 7 = .ok (.putfield 131, 3) := by decide +kernel
theorem dX7_readLink_10 : decode cX7_readLink 10 = .ok (.aload_n 0, 1) := by decide +kernel
theorem dX7_readLink_11 : decode cX7_readLink 11 = .ok (.getfield 13, 3) := by decide +kernel
theorem dX7_readLink_14 : decode cX7_readLink 14 = .ok (.invokestatic 48, 3) := by decide +kernel
theorem dX7_readLink_17 : decode cX7_readLink 17 = .ok (.aload_n 0, 1) := by decide +kernel
theorem dX7_readLink_18 : decode cX7_readLink 18 = .ok (.getfield 122, 3) := by decide +kernel
theorem dX7_readLink_21 : decode cX7_readLink 21 = .ok (.ifCond .eq 14, 3) := by decide +kernel
theorem dX7_readLink_24 : decode cX7_readLink 24 = .ok (.aload_n 0, 1) := by decide +kernel
theorem dX7_readLink_25 : decode cX7_readLink 25 = .ok (.getfield 7, 3) := by decide +kernel
theorem dX7_readLink_28 : decode cX7_readLink 28 = .ok (.iconst 0, 1) := by decide +kernel
theorem dX7_readLink_29 : decode cX7_readLink 29 = .ok (.iaload, 1) := by decide +kernel
theorem dX7_readLink_30 : decode cX7_readLink 30 = .ok (.bipush 66, 2) := by decide +kernel
theorem dX7_readLink_32 : decode cX7_readLink 32 = .ok (.if_icmp .eq 5, 3) := by decide +kernel
theorem dX7_readLink_35 : decode cX7_readLink 35 = .ok (.iconst 0, 1) := by decide +kernel
theorem dX7_readLink_36 : decode cX7_readLink 36 = .ok (.ireturn, 1) := by decide +kernel
theorem dX7_readLink_37 : decode cX7_readLink 37 = .ok (.aload_n 0, 1) := by decide +kernel
theorem dX7_readLink_38 : decode cX7_readLink 38 = .ok (.iconst 1, 1) := by decide +kernel
theorem dX7_readLink_39 : decode cX7_readLink 39 = .ok (.putfield 125, 3) := by decide +kernel
theorem dX7_readLink_42 : decode cX7_readLink 42 = .ok (.iconst 0, 1) := by decide +kernel
theorem dX7_readLink_43 : decode cX7_readLink 43 = .ok (.istore_n 1, 1) := by decide +kernel
theorem dX7_readLink_44 : decode cX7_readLink 44 = .ok (.iload_n 1, 1) := by decide +kernel
theorem dX7_readLink_45 : decode cX7_readLink 45 = .ok (.bipush 6, 2) := by decide +kernel
theorem dX7_readLink_47 : decode cX7_readLink 47 = .ok (.if_icmp .ge 55, 3) := by decide +kernel
theorem dX7_readLink_50 : decode cX7_readLink 50 = .ok (.aload_n 0, 1) := by decide +kernel
theorem dX7_readLink_51 : decode cX7_readLink 51 = .ok (.iconst 1, 1) := by decide +kernel
theorem dX7_readLink_52 : decode cX7_readLink 52 = .ok (.iload_n 1, 1) := by decide +kernel
theorem dX7_readLink_53 : decode cX7_readLink 53 = .ok (.iconst 3, 1) := by decide +kernel
theorem dX7_readLink_54 : decode cX7_readLink 54 = .ok (.irem, 1) := by decide +kernel
theorem dX7_readLink_55 : decode cX7_readLink 55 = .ok (.iconst 2, 1) := by decide +kernel
theorem dX7_readLink_56 : decode cX7_readLink 56 = .ok (.if_icmp .ne 7, 3) := by decide +kernel
theorem dX7_readLink_59 : decode cX7_readLink 59 = .ok (.iconst 5, 1) := by decide +kernel
theorem dX7_readLink_60 : decode cX7_readLink 60 = .ok (.goto 5, 3) := by decide +kernel
theorem dX7_readLink_63 : decode cX7_readLink 63 = .ok (.bipush 9, 2) := by decide +kernel
theorem dX7_readLink_65 : decode cX7_readLink 65 = .ok (.invokevirtual 128, 3) := by decide +kernel
theorem dX7_readLink_68 : decode cX7_readLink 68 = .ok (.istore_n 2, 1) := by decide +kernel
theorem dX7_readLink_69 : decode cX7_readLink 69 = .ok (.iload_n 2, 1) := by decide +kernel
theorem dX7_readLink_70 : decode cX7_readLink 70 = .ok (.bipush (-9), 2) := by decide +kernel
theorem dX7_readLink_72 : decode cX7_readLink 72 = .ok (.if_icmp .ne 8, 3) := by decide +kernel
theorem dX7_readLink_75 : decode cX7_readLink 75 = .ok (.aload_n 0, 1) := by decide +kernel
theorem dX7_readLink_76 : decode cX7_readLink 76 = .ok (.getfield 125, 3) := by decide +kernel
theorem dX7_readLink_79 : decode cX7_readLink 79 = .ok (.ireturn, 1) := by decide +kernel
theorem dX7_readLink_80 : decode cX7_readLink 80 = .ok (.aload_n 0, 1) := by decide +kernel
theorem dX7_readLink_81 : decode cX7_readLink 81 = .ok (.getfield 13, 3) := by decide +kernel
theorem dX7_readLink_84 : decode cX7_readLink 84 = .ok (.bipush 16, 2) := by decide +kernel
theorem dX7_readLink_86 : decode cX7_readLink 86 = .ok (.iload_n 1, 1) := by decide +kernel
theorem dX7_readLink_87 : decode cX7_readLink 87 = .ok (.iconst 3, 1) := by decide +kernel
theorem dX7_readLink_88 : decode cX7_readLink 88 = .ok (.idiv, 1) := by decide +kernel
theorem dX7_readLink_89 : decode cX7_readLink 89 = .ok (.imul, 1) := by decide +kernel
theorem dX7_readLink_90 : decode cX7_readLink 90 = .ok (.iload_n 1, 1) := by decide +kernel
theorem dX7_readLink_91 : decode cX7_readLink 91 = .ok (.iconst 3, 1) := by decide +kernel
theorem dX7_readLink_92 : decode cX7_readLink 92 = .ok (.irem, 1) := by decide +kernel
theorem dX7_readLink_93 : decode cX7_readLink 93 = .ok (.iadd, 1) := by decide +kernel
theorem dX7_readLink_94 : decode cX7_readLink 94 = .ok (.iload_n 2, 1) := by decide +kernel
theorem dX7_readLink_95 : decode cX7_readLink 95 = .ok (.iastore, 1) := by decide +kernel
theorem dX7_readLink_96 : decode cX7_readLink 96 = .ok (.iinc 1 1, 3) := by decide +kernel
theorem dX7_readLink_99 : decode cX7_readLink 99 = .ok (.goto (-55), 3) := by decide +kernel
theorem dX7_readLink_102 : decode cX7_readLink 102 = .ok (.aload_n 0, 1) := by decide +kernel
theorem dX7_readLink_103 : decode cX7_readLink 103 = .ok (.getfield 13, 3) := by decide +kernel
theorem dX7_readLink_106 : decode cX7_readLink 106 = .ok (.iconst 0, 1) := by decide +kernel
theorem dX7_readLink_107 : decode cX7_readLink 107 = .ok (.invokestatic 67, 3) := by decide +kernel
theorem dX7_readLink_110 : decode cX7_readLink 110 = .ok (.aload_n 0, 1) := by decide +kernel
theorem dX7_readLink_111 : decode cX7_readLink 111 = .ok (.getfield 13, 3) := by decide +kernel
theorem dX7_readLink_114 : decode cX7_readLink 114 = .ok (.bipush 16, 2) := by decide +kernel
theorem dX7_readLink_116 : decode cX7_readLink 116 = .ok (.invokestatic 67, 3) := by decide +kernel
theorem dX7_readLink_119 : decode cX7_readLink 119 = .ok (.aload_n 0, 1) := by decide +kernel
theorem dX7_readLink_120 : decode cX7_readLink 120 = .ok (.getfield 125, 3) := by decide +kernel
theorem dX7_readLink_123 : decode cX7_readLink 123 = .ok (.aload_n 0, 1) := by decide +kernel
theorem dX7_readLink_124 : decode cX7_readLink 124 = .ok (.getfield 122, 3) := by decide +kernel
theorem dX7_readLink_127 : decode cX7_readLink 127 = .ok (.if_icmp .ge 42, 3) := by decide +kernel
theorem dX7_readLink_130 : decode cX7_readLink 130 = .ok (.aload_n 0, 1) := by decide +kernel
theorem dX7_readLink_131 : decode cX7_readLink 131 = .ok (.invokevirtual 134, 3) := by decide +kernel
theorem dX7_readLink_134 : decode cX7_readLink 134 = .ok (.istore_n 1, 1) := by decide +kernel
theorem dX7_readLink_135 : decode cX7_readLink 135 = .ok (.iload_n 1, 1) := by decide +kernel
theorem dX7_readLink_136 : decode cX7_readLink 136 = .ok (.bipush (-9), 2) := by decide +kernel
theorem dX7_readLink_138 : decode cX7_readLink 138 = .ok (.if_icmp .ne 8, 3) := by decide +kernel
theorem dX7_readLink_141 : decode cX7_readLink 141 = .ok (.aload_n 0, 1) := by decide +kernel
theorem dX7_readLink_142 : decode cX7_readLink 142 = .ok (.getfield 125, 3) := by decide +kernel
theorem dX7_readLink_145 : decode cX7_readLink 145 = .ok (.ireturn, 1) := by decide +kernel
theorem dX7_readLink_146 : decode cX7_readLink 146 = .ok (.aload_n 0, 1) := by decide +kernel
theorem dX7_readLink_147 : decode cX7_readLink 147 = .ok (.getfield 16, 3) := by decide +kernel
theorem dX7_readLink_150 : decode cX7_readLink 150 = .ok (.aload_n 0, 1) := by decide +kernel
theorem dX7_readLink_151 : decode cX7_readLink 151 = .ok (.getfield 131, 3) := by decide +kernel
theorem dX7_readLink_154 : decode cX7_readLink 154 = .ok (.iload_n 1, 1) := by decide +kernel
theorem dX7_readLink_155 : decode cX7_readLink 155 = .ok (.iastore, 1) := by decide +kernel
theorem dX7_readLink_156 : decode cX7_readLink 156 = .ok (.aload_n 0, 1) := by decide +kernel
theorem dX7_readLink_157 : decode cX7_readLink 157 = .ok (.dup, 1) := by decide +kernel
theorem dX7_readLink_158 : decode cX7_readLink 158 = .ok (.getfield 131, 3) := by decide +kernel
theorem dX7_readLink_161 : decode cX7_readLink 161 = .ok (.iconst 1, 1) := by decide +kernel
theorem dX7_readLink_162 : decode cX7_readLink 162 = .ok (.iadd, 1) := by decide +kernel
theorem dX7_readLink_163 : decode cX7_readLink 163 = .ok (.putfield 131, 3) := by decide +kernel
theorem dX7_readLink_166 : decode cX7_readLink 166 = .ok (.goto (-47), 3) := by decide +kernel
theorem dX7_readLink_169 : decode cX7_readLink 169 = .ok (.bipush (-9), 2) := by decide +kernel
theorem dX7_readLink_171 : decode cX7_readLink 171 = .ok (.ireturn, 1) := by decide +kernel
theorem dX7_fault_0 : decode cX7_fault 0 = .ok (.aload_n 0, 1) := by decide +kernel
theorem dX7_fault_1 : decode cX7_fault 1 = .ok (.iconst 0, 1) := by decide +kernel
theorem dX7_fault_2 : decode cX7_fault 2 = .ok (.putfield 52, 3) := by decide +kernel
theorem dX7_fault_5 : decode cX7_fault 5 = .ok (.aload_n 0, 1) := by decide +kernel
theorem dX7_fault_6 : decode cX7_fault 6 = .ok (.invokevirtual 138, 3) := by decide +kernel
theorem dX7_fault_9 : decode cX7_fault 9 = .ok (.ireturn, 1) := by decide +kernel
theorem dX7_link_0 : decode cX7_link 0 = .ok (.aload_n 0, 1) := by decide +kernel
theorem dX7_link_1 : decode cX7_link 1 = .ok (.iconst 0, 1) := by decide +kernel
theorem dX7_link_2 : decode cX7_link 2 = .ok (.putfield 52, 3) := by decide +kernel
theorem dX7_link_5 : decode cX7_link 5 = .ok (.aload_n 0, 1) := by decide +kernel
theorem dX7_link_6 : decode cX7_link 6 = .ok (.invokevirtual 138, 3) := by decide +kernel
theorem dX7_link_9 : decode cX7_link 9 = .ok (.bipush (-9), 2) := by decide +kernel
theorem dX7_link_11 : decode cX7_link 11 = .ok (.if_icmp .eq 6, 3) := by decide +kernel
theorem dX7_link_14 : decode cX7_link 14 = .ok (.bipush (-3), 2) := by decide +kernel
theorem dX7_link_16 : decode cX7_link 16 = .ok (.ireturn, 1) := by decide +kernel
theorem dX7_link_17 : decode cX7_link 17 = .ok (.aload_n 0, 1) := by decide +kernel
theorem dX7_link_18 : decode cX7_link 18 = .ok (.getfield 13, 3) := by decide +kernel
theorem dX7_link_21 : decode cX7_link 21 = .ok (.aload_n 0, 1) := by decide +kernel
theorem dX7_link_22 : decode cX7_link 22 = .ok (.getfield 19, 3) := by decide +kernel
theorem dX7_link_25 : decode cX7_link 25 = .ok (.invokestatic 113, 3) := by decide +kernel
theorem dX7_link_28 : decode cX7_link 28 = .ok (.aload_n 0, 1) := by decide +kernel
theorem dX7_link_29 : decode cX7_link 29 = .ok (.invokevirtual 141, 3) := by decide +kernel
theorem dX7_link_32 : decode cX7_link 32 = .ok (.iconst 0, 1) := by decide +kernel
theorem dX7_link_33 : decode cX7_link 33 = .ok (.istore_n 1, 1) := by decide +kernel
theorem dX7_link_34 : decode cX7_link 34 = .ok (.iload_n 1, 1) := by decide +kernel
theorem dX7_link_35 : decode cX7_link 35 = .ok (.aload_n 0, 1) := by decide +kernel
theorem dX7_link_36 : decode cX7_link 36 = .ok (.getfield 131, 3) := by decide +kernel
theorem dX7_link_39 : decode cX7_link 39 = .ok (.if_icmp .ge 78, 3) := by decide +kernel
theorem dX7_link_42 : decode cX7_link 42 = .ok (.aload_n 0, 1) := by decide +kernel
theorem dX7_link_43 : decode cX7_link 43 = .ok (.getfield 16, 3) := by decide +kernel
theorem dX7_link_46 : decode cX7_link 46 = .ok (.iload_n 1, 1) := by decide +kernel
theorem dX7_link_47 : decode cX7_link 47 = .ok (.iaload, 1) := by decide +kernel
theorem dX7_link_48 : decode cX7_link 48 = .ok (.istore_n 2, 1) := by decide +kernel
theorem dX7_link_49 : decode cX7_link 49 = .ok (.iload_n 2, 1) := by decide +kernel
theorem dX7_link_50 : decode cX7_link 50 = .ok (.bipush 10, 2) := by decide +kernel
theorem dX7_link_52 : decode cX7_link 52 = .ok (.if_icmp .ge 15, 3) := by decide +kernel
theorem dX7_link_55 : decode cX7_link 55 = .ok (.aload_n 0, 1) := by decide +kernel
theorem dX7_link_56 : decode cX7_link 56 = .ok (.aload_n 0, 1) := by decide +kernel
theorem dX7_link_57 : decode cX7_link 57 = .ok (.getfield 19, 3) := by decide +kernel
theorem dX7_link_60 : decode cX7_link 60 = .ok (.iload_n 2, 1) := by decide +kernel
theorem dX7_link_61 : decode cX7_link 61 = .ok (.invokevirtual 144, 3) := by decide +kernel
theorem dX7_link_64 : decode cX7_link 64 = .ok (.goto 47, 3) := by decide +kernel
theorem dX7_link_67 : decode cX7_link 67 = .ok (.iload_n 2, 1) := by decide +kernel
theorem dX7_link_68 : decode cX7_link 68 = .ok (.bipush 20, 2) := by decide +kernel
theorem dX7_link_70 : decode cX7_link 70 = .ok (.if_icmp .ge 25, 3) := by decide +kernel
theorem dX7_link_73 : decode cX7_link 73 = .ok (.aload_n 0, 1) := by decide +kernel
theorem dX7_link_74 : decode cX7_link 74 = .ok (.getfield 19, 3) := by decide +kernel
theorem dX7_link_77 : decode cX7_link 77 = .ok (.bipush 16, 2) := by decide +kernel
theorem dX7_link_79 : decode cX7_link 79 = .ok (.iload_n 2, 1) := by decide +kernel
theorem dX7_link_80 : decode cX7_link 80 = .ok (.bipush 10, 2) := by decide +kernel
theorem dX7_link_82 : decode cX7_link 82 = .ok (.isub, 1) := by decide +kernel
theorem dX7_link_83 : decode cX7_link 83 = .ok (.imul, 1) := by decide +kernel
theorem dX7_link_84 : decode cX7_link 84 = .ok (.bipush 7, 2) := by decide +kernel
theorem dX7_link_86 : decode cX7_link 86 = .ok (.iadd, 1) := by decide +kernel
theorem dX7_link_87 : decode cX7_link 87 = .ok (.dup2, 1) := by decide +kernel
theorem dX7_link_88 : decode cX7_link 88 = .ok (.iaload, 1) := by decide +kernel
theorem dX7_link_89 : decode cX7_link 89 = .ok (.iconst 1, 1) := by decide +kernel
theorem dX7_link_90 : decode cX7_link 90 = .ok (.ixor, 1) := by decide +kernel
theorem dX7_link_91 : decode cX7_link 91 = .ok (.iastore, 1) := by decide +kernel
theorem dX7_link_92 : decode cX7_link 92 = .ok (.goto 19, 3) := by decide +kernel
theorem dX7_link_95 : decode cX7_link 95 = .ok (.aload_n 0, 1) := by decide +kernel
theorem dX7_link_96 : decode cX7_link 96 = .ok (.getfield 19, 3) := by decide +kernel
theorem dX7_link_99 : decode cX7_link 99 = .ok (.bipush 32, 2) := by decide +kernel
theorem dX7_link_101 : decode cX7_link 101 = .ok (.iload_n 2, 1) := by decide +kernel
theorem dX7_link_102 : decode cX7_link 102 = .ok (.iadd, 1) := by decide +kernel
theorem dX7_link_103 : decode cX7_link 103 = .ok (.bipush 20, 2) := by decide +kernel
theorem dX7_link_105 : decode cX7_link 105 = .ok (.isub, 1) := by decide +kernel
theorem dX7_link_106 : decode cX7_link 106 = .ok (.dup2, 1) := by decide +kernel
theorem dX7_link_107 : decode cX7_link 107 = .ok (.iaload, 1) := by decide +kernel
theorem dX7_link_108 : decode cX7_link 108 = .ok (.iconst 1, 1) := by decide +kernel
theorem dX7_link_109 : decode cX7_link 109 = .ok (.ixor, 1) := by decide +kernel
theorem dX7_link_110 : decode cX7_link 110 = .ok (.iastore, 1) := by decide +kernel
theorem dX7_link_111 : decode cX7_link 111 = .ok (.iinc 1 1, 3) := by decide +kernel
theorem dX7_link_114 : decode cX7_link 114 = .ok (.goto (-80), 3) := by decide +kernel
theorem dX7_link_117 : decode cX7_link 117 = .ok (.aload_n 0, 1) := by decide +kernel
theorem dX7_link_118 : decode cX7_link 118 = .ok (.iconst 0, 1) := by decide +kernel
theorem dX7_link_119 : decode cX7_link 119 = .ok (.putfield 147, 3) := by decide +kernel
theorem dX7_link_122 : decode cX7_link 122 = .ok (.aload_n 0, 1) := by decide +kernel
theorem dX7_link_123 : decode cX7_link 123 = .ok (.getfield 31, 3) := by decide +kernel
theorem dX7_link_126 : decode cX7_link 126 = .ok (.iconst 0, 1) := by decide +kernel
theorem dX7_link_127 : decode cX7_link 127 = .ok (.iconst 0, 1) := by decide +kernel
theorem dX7_link_128 : decode cX7_link 128 = .ok (.bastore, 1) := by decide +kernel
theorem dX7_link_129 : decode cX7_link 129 = .ok (.aload_n 0, 1) := by decide +kernel
theorem dX7_link_130 : decode cX7_link 130 = .ok (.getfield 31, 3) := by decide +kernel
theorem dX7_link_133 : decode cX7_link 133 = .ok (.iconst 1, 1) := by decide +kernel
theorem dX7_link_134 : decode cX7_link 134 = .ok (.iconst 0, 1) := by decide +kernel
theorem dX7_link_135 : decode cX7_link 135 = .ok (.bastore, 1) := by decide +kernel
theorem dX7_link_136 : decode cX7_link 136 = .ok (.aload_n 0, 1) := by decide +kernel
theorem dX7_link_137 : decode cX7_link 137 = .ok (.getfield 19, 3) := by decide +kernel
theorem dX7_link_140 : decode cX7_link 140 = .ok (.bipush 52, 2) := by decide +kernel
theorem dX7_link_142 : decode cX7_link 142 = .ok (.iaload, 1) := by decide +kernel
theorem dX7_link_143 : decode cX7_link 143 = .ok (.ireturn, 1) := by decide +kernel
theorem dX7_noticed_0 : decode cX7_noticed 0 = .ok (.aload_n 0, 1) := by decide +kernel
theorem dX7_noticed_1 : decode cX7_noticed 1 = .ok (.invokevirtual 141, 3) := by decide +kernel
theorem dX7_noticed_4 : decode cX7_noticed 4 = .ok (.aload_n 0, 1) := by decide +kernel
theorem dX7_noticed_5 : decode cX7_noticed 5 = .ok (.getfield 22, 3) := by decide +kernel
theorem dX7_noticed_8 : decode cX7_noticed 8 = .ok (.bipush 32, 2) := by decide +kernel
theorem dX7_noticed_10 : decode cX7_noticed 10 = .ok (.iconst 0, 1) := by decide +kernel
theorem dX7_noticed_11 : decode cX7_noticed 11 = .ok (.iastore, 1) := by decide +kernel
theorem dX7_noticed_12 : decode cX7_noticed 12 = .ok (.aload_n 0, 1) := by decide +kernel
theorem dX7_noticed_13 : decode cX7_noticed 13 = .ok (.getfield 22, 3) := by decide +kernel
theorem dX7_noticed_16 : decode cX7_noticed 16 = .ok (.bipush 33, 2) := by decide +kernel
theorem dX7_noticed_18 : decode cX7_noticed 18 = .ok (.iconst 0, 1) := by decide +kernel
theorem dX7_noticed_19 : decode cX7_noticed 19 = .ok (.iastore, 1) := by decide +kernel
theorem dX7_noticed_20 : decode cX7_noticed 20 = .ok (.iconst 0, 1) := by decide +kernel
theorem dX7_noticed_21 : decode cX7_noticed 21 = .ok (.istore_n 2, 1) := by decide +kernel
theorem dX7_noticed_22 : decode cX7_noticed 22 = .ok (.iload_n 2, 1) := by decide +kernel
theorem dX7_noticed_23 : decode cX7_noticed 23 = .ok (.bipush 100, 2) := by decide +kernel
theorem dX7_noticed_25 : decode cX7_noticed 25 = .ok (.if_icmp .ge 33, 3) := by decide +kernel
theorem dX7_noticed_28 : decode cX7_noticed 28 = .ok (.aload_n 0, 1) := by decide +kernel
theorem dX7_noticed_29 : decode cX7_noticed 29 = .ok (.getfield 22, 3) := by decide +kernel
theorem dX7_noticed_32 : decode cX7_noticed 32 = .ok (.bipush 16, 2) := by decide +kernel
theorem dX7_noticed_34 : decode cX7_noticed 34 = .ok (.iload_n 1, 1) := by decide +kernel
theorem dX7_noticed_35 : decode cX7_noticed 35 = .ok (.imul, 1) := by decide +kernel
theorem dX7_noticed_36 : decode cX7_noticed 36 = .ok (.iconst 5, 1) := by decide +kernel
theorem dX7_noticed_37 : decode cX7_noticed 37 = .ok (.iadd, 1) := by decide +kernel
theorem dX7_noticed_38 : decode cX7_noticed 38 = .ok (.iaload, 1) := by decide +kernel
theorem dX7_noticed_39 : decode cX7_noticed 39 = .ok (.ifCond .ne 5, 3) := by decide +kernel
theorem dX7_noticed_42 : decode cX7_noticed 42 = .ok (.iload_n 2, 1) := by decide +kernel
theorem dX7_noticed_43 : decode cX7_noticed 43 = .ok (.ireturn, 1) := by decide +kernel
theorem dX7_noticed_44 : decode cX7_noticed 44 = .ok (.aload_n 0, 1) := by decide +kernel
theorem dX7_noticed_45 : decode cX7_noticed 45 = .ok (.aload_n 0, 1) := by decide +kernel
theorem dX7_noticed_46 : decode cX7_noticed 46 = .ok (.getfield 22, 3) := by decide +kernel
theorem dX7_noticed_49 : decode cX7_noticed 49 = .ok (.invokevirtual 110, 3) := by decide +kernel
theorem dX7_noticed_52 : decode cX7_noticed 52 = .ok (.iinc 2 1, 3) := by decide +kernel
theorem dX7_noticed_55 : decode cX7_noticed 55 = .ok (.goto (-33), 3) := by decide +kernel
theorem dX7_noticed_58 : decode cX7_noticed 58 = .ok (.bipush (-9), 2) := by decide +kernel
theorem dX7_noticed_60 : decode cX7_noticed 60 = .ok (.ireturn, 1) := by decide +kernel
theorem dX7_endures_0 : decode cX7_endures 0 = .ok (.aload_n 0, 1) := by decide +kernel
theorem dX7_endures_1 : decode cX7_endures 1 = .ok (.invokevirtual 141, 3) := by decide +kernel
theorem dX7_endures_4 : decode cX7_endures 4 = .ok (.aload_n 0, 1) := by decide +kernel
theorem dX7_endures_5 : decode cX7_endures 5 = .ok (.iload_n 1, 1) := by decide +kernel
theorem dX7_endures_6 : decode cX7_endures 6 = .ok (.putfield 44, 3) := by decide +kernel
theorem dX7_endures_9 : decode cX7_endures 9 = .ok (.aload_n 0, 1) := by decide +kernel
theorem dX7_endures_10 : decode cX7_endures 10 = .ok (.iload_n 2, 1) := by decide +kernel
theorem dX7_endures_11 : decode cX7_endures 11 = .ok (.putfield 74, 3) := by decide +kernel
theorem dX7_endures_14 : decode cX7_endures 14 = .ok (.iconst 1, 1) := by decide +kernel
theorem dX7_endures_15 : decode cX7_endures 15 = .ok (.istore_n 3, 1) := by decide +kernel
theorem dX7_endures_16 : decode cX7_endures 16 = .ok (.iconst 0, 1) := by decide +kernel
theorem dX7_endures_17 : decode cX7_endures 17 = .ok (.istore 4, 2) := by decide +kernel
theorem dX7_endures_19 : decode cX7_endures 19 = .ok (.iload 4, 2) := by decide +kernel
theorem dX7_endures_21 : decode cX7_endures 21 = .ok (.bipush 60, 2) := by decide +kernel
theorem dX7_endures_23 : decode cX7_endures 23 = .ok (.if_icmp .ge 41, 3) := by decide +kernel
theorem dX7_endures_26 : decode cX7_endures 26 = .ok (.iload_n 3, 1) := by decide +kernel
theorem dX7_endures_27 : decode cX7_endures 27 = .ok (.ifCond .eq 37, 3) := by decide +kernel
theorem dX7_endures_30 : decode cX7_endures 30 = .ok (.aload_n 0, 1) := by decide +kernel
theorem dX7_endures_31 : decode cX7_endures 31 = .ok (.aload_n 0, 1) := by decide +kernel
theorem dX7_endures_32 : decode cX7_endures 32 = .ok (.getfield 22, 3) := by decide +kernel
theorem dX7_endures_35 : decode cX7_endures 35 = .ok (.invokevirtual 110, 3) := by decide +kernel
theorem dX7_endures_38 : decode cX7_endures 38 = .ok (.aload_n 0, 1) := by decide +kernel
theorem dX7_endures_39 : decode cX7_endures 39 = .ok (.getfield 22, 3) := by decide +kernel
theorem dX7_endures_42 : decode cX7_endures 42 = .ok (.bipush 16, 2) := by decide +kernel
theorem dX7_endures_44 : decode cX7_endures 44 = .ok (.iload_n 1, 1) := by decide +kernel
theorem dX7_endures_45 : decode cX7_endures 45 = .ok (.imul, 1) := by decide +kernel
theorem dX7_endures_46 : decode cX7_endures 46 = .ok (.iconst 5, 1) := by decide +kernel
theorem dX7_endures_47 : decode cX7_endures 47 = .ok (.iadd, 1) := by decide +kernel
theorem dX7_endures_48 : decode cX7_endures 48 = .ok (.iaload, 1) := by decide +kernel
theorem dX7_endures_49 : decode cX7_endures 49 = .ok (.ifCond .eq 7, 3) := by decide +kernel
theorem dX7_endures_52 : decode cX7_endures 52 = .ok (.iconst 1, 1) := by decide +kernel
theorem dX7_endures_53 : decode cX7_endures 53 = .ok (.goto 4, 3) := by decide +kernel
theorem dX7_endures_56 : decode cX7_endures 56 = .ok (.iconst 0, 1) := by decide +kernel
theorem dX7_endures_57 : decode cX7_endures 57 = .ok (.istore_n 3, 1) := by decide +kernel
theorem dX7_endures_58 : decode cX7_endures 58 = .ok (.iinc 4 1, 3) := by decide +kernel
theorem dX7_endures_61 : decode cX7_endures 61 = .ok (.goto (-42), 3) := by decide +kernel
theorem dX7_endures_64 : decode cX7_endures 64 = .ok (.aload_n 0, 1) := by decide +kernel
theorem dX7_endures_65 : decode cX7_endures 65 = .ok (.bipush (-9), 2) := by decide +kernel
theorem dX7_endures_67 : decode cX7_endures 67 = .ok (.putfield 44, 3) := by decide +kernel
theorem dX7_endures_70 : decode cX7_endures 70 = .ok (.iload_n 3, 1) := by decide +kernel
theorem dX7_endures_71 : decode cX7_endures 71 = .ok (.ireturn, 1) := by decide +kernel
theorem dX7_endured_0 : decode cX7_endured 0 = .ok (.aload_n 0, 1) := by decide +kernel
theorem dX7_endured_1 : decode cX7_endured 1 = .ok (.getfield 19, 3) := by decide +kernel
theorem dX7_endured_4 : decode cX7_endured 4 = .ok (.bipush 16, 2) := by decide +kernel
theorem dX7_endured_6 : decode cX7_endured 6 = .ok (.iload_n 1, 1) := by decide +kernel
theorem dX7_endured_7 : decode cX7_endured 7 = .ok (.imul, 1) := by decide +kernel
theorem dX7_endured_8 : decode cX7_endured 8 = .ok (.iconst 5, 1) := by decide +kernel
theorem dX7_endured_9 : decode cX7_endured 9 = .ok (.iadd, 1) := by decide +kernel
theorem dX7_endured_10 : decode cX7_endured 10 = .ok (.iaload, 1) := by decide +kernel
theorem dX7_endured_11 : decode cX7_endured 11 = .ok (.ifCond .eq 12, 3) := by decide +kernel
theorem dX7_endured_14 : decode cX7_endured 14 = .ok (.aload_n 0, 1) := by decide +kernel
theorem dX7_endured_15 : decode cX7_endured 15 = .ok (.iload_n 1, 1) := by decide +kernel
theorem dX7_endured_16 : decode cX7_endured 16 = .ok (.iconst 0, 1) := by decide +kernel
theorem dX7_endured_17 : decode cX7_endured 17 = .ok (.invokevirtual 150, 3) := by decide +kernel
theorem dX7_endured_20 : decode cX7_endured 20 = .ok (.ifCond .ne 6, 3) := by decide +kernel
theorem dX7_endured_23 : decode cX7_endured 23 = .ok (.bipush (-9), 2) := by decide +kernel
theorem dX7_endured_25 : decode cX7_endured 25 = .ok (.ireturn, 1) := by decide +kernel
theorem dX7_endured_26 : decode cX7_endured 26 = .ok (.iconst 0, 1) := by decide +kernel
theorem dX7_endured_27 : decode cX7_endured 27 = .ok (.istore_n 2, 1) := by decide +kernel
theorem dX7_endured_28 : decode cX7_endured 28 = .ok (.iconst 1, 1) := by decide +kernel
theorem dX7_endured_29 : decode cX7_endured 29 = .ok (.istore_n 3, 1) := by decide +kernel
theorem dX7_endured_30 : decode cX7_endured 30 = .ok (.iload_n 3, 1) := by decide +kernel
theorem dX7_endured_31 : decode cX7_endured 31 = .ok (.bipush 6, 2) := by decide +kernel
theorem dX7_endured_33 : decode cX7_endured 33 = .ok (.if_icmp .ge 24, 3) := by decide +kernel
theorem dX7_endured_36 : decode cX7_endured 36 = .ok (.aload_n 0, 1) := by decide +kernel
theorem dX7_endured_37 : decode cX7_endured 37 = .ok (.iload_n 1, 1) := by decide +kernel
theorem dX7_endured_38 : decode cX7_endured 38 = .ok (.iload_n 3, 1) := by decide +kernel
theorem dX7_endured_39 : decode cX7_endured 39 = .ok (.invokevirtual 150, 3) := by decide +kernel
theorem dX7_endured_42 : decode cX7_endured 42 = .ok (.ifCond .eq 7, 3) := by decide +kernel
theorem dX7_endured_45 : decode cX7_endured 45 = .ok (.iload_n 3, 1) := by decide +kernel
theorem dX7_endured_46 : decode cX7_endured 46 = .ok (.goto 4, 3) := by decide +kernel
theorem dX7_endured_49 : decode cX7_endured 49 = .ok (.iload_n 2, 1) := by decide +kernel
theorem dX7_endured_50 : decode cX7_endured 50 = .ok (.istore_n 2, 1) := by decide +kernel
theorem dX7_endured_51 : decode cX7_endured 51 = .ok (.iinc 3 1, 3) := by decide +kernel
theorem dX7_endured_54 : decode cX7_endured 54 = .ok (.goto (-24), 3) := by decide +kernel
theorem dX7_endured_57 : decode cX7_endured 57 = .ok (.iload_n 2, 1) := by decide +kernel
theorem dX7_endured_58 : decode cX7_endured 58 = .ok (.ireturn, 1) := by decide +kernel
theorem dX7_end_0 : decode cX7_end 0 = .ok (.aload_n 0, 1) := by decide +kernel
theorem dX7_end_1 : decode cX7_end 1 = .ok (.iconst 0, 1) := by decide +kernel
theorem dX7_end_2 : decode cX7_end 2 = .ok (.putfield 52, 3) := by decide +kernel
theorem dX7_end_5 : decode cX7_end 5 = .ok (.iload_n 1, 1) := by decide +kernel
theorem dX7_end_6 : decode cX7_end 6 = .ok (.invokestatic 153, 3) := by decide +kernel
theorem dX7_end_9 : decode cX7_end 9 = .ok (.ifCond .eq 5, 3) := by decide +kernel
theorem dX7_end_12 : decode cX7_end 12 = .ok (.iconst (-1), 1) := by decide +kernel
theorem dX7_end_13 : decode cX7_end 13 = .ok (.ireturn, 1) := by decide +kernel
theorem dX7_end_14 : decode cX7_end 14 = .ok (.iload_n 2, 1) := by decide +kernel
theorem dX7_end_15 : decode cX7_end 15 = .ok (.i2l, 1) := by decide +kernel
theorem dX7_end_16 : decode cX7_end 16 = .ok (.lconst 0, 1) := by decide +kernel
theorem dX7_end_17 : decode cX7_end 17 = .ok (.ldc2_w 157, 3) := by decide +kernel
theorem dX7_end_20 : decode cX7_end 20 = .ok (.invokestatic 55, 3) := by decide +kernel
theorem dX7_end_23 : decode cX7_end 23 = .ok (.ifCond .eq 15, 3) := by decide +kernel
theorem dX7_end_26 : decode cX7_end 26 = .ok (.aload_n 0, 1) := by decide +kernel
theorem dX7_end_27 : decode cX7_end 27 = .ok (.getfield 19, 3) := by decide +kernel
theorem dX7_end_30 : decode cX7_end 30 = .ok (.bipush 16, 2) := by decide +kernel
theorem dX7_end_32 : decode cX7_end 32 = .ok (.iload_n 1, 1) := by decide +kernel
theorem dX7_end_33 : decode cX7_end 33 = .ok (.imul, 1) := by decide +kernel
theorem dX7_end_34 : decode cX7_end 34 = .ok (.iload_n 2, 1) := by decide +kernel
theorem dX7_end_35 : decode cX7_end 35 = .ok (.iadd, 1) := by decide +kernel
theorem dX7_end_36 : decode cX7_end 36 = .ok (.iaload, 1) := by decide +kernel
theorem dX7_end_37 : decode cX7_end 37 = .ok (.ireturn, 1) := by decide +kernel
theorem dX7_end_38 : decode cX7_end 38 = .ok (.iload_n 2, 1) := by decide +kernel
theorem dX7_end_39 : decode cX7_end 39 = .ok (.tableswitch 65 10 13 #[29, 41, 53, 59], 29) := by decide +kernel
theorem dX7_end_68 : decode cX7_end 68 = .ok (.aload_n 0, 1) := by decide +kernel
theorem dX7_end_69 : decode cX7_end 69 = .ok (.getfield 19, 3) := by decide +kernel
theorem dX7_end_72 : decode cX7_end 72 = .ok (.bipush 16, 2) := by decide +kernel
theorem dX7_end_74 : decode cX7_end 74 = .ok (.iload_n 1, 1) := by decide +kernel
theorem dX7_end_75 : decode cX7_end 75 = .ok (.imul, 1) := by decide +kernel
theorem dX7_end_76 : decode cX7_end 76 = .ok (.invokestatic 91, 3) := by decide +kernel
theorem dX7_end_79 : decode cX7_end 79 = .ok (.ireturn, 1) := by decide +kernel
theorem dX7_end_80 : decode cX7_end 80 = .ok (.aload_n 0, 1) := by decide +kernel
theorem dX7_end_81 : decode cX7_end 81 = .ok (.getfield 19, 3) := by decide +kernel
theorem dX7_end_84 : decode cX7_end 84 = .ok (.bipush 16, 2) := by decide +kernel
theorem dX7_end_86 : decode cX7_end 86 = .ok (.iload_n 1, 1) := by decide +kernel
theorem dX7_end_87 : decode cX7_end 87 = .ok (.imul, 1) := by decide +kernel
theorem dX7_end_88 : decode cX7_end 88 = .ok (.invokestatic 101, 3) := by decide +kernel
theorem dX7_end_91 : decode cX7_end 91 = .ok (.ireturn, 1) := by decide +kernel
theorem dX7_end_92 : decode cX7_end 92 = .ok (.aload_n 0, 1) := by decide +kernel
theorem dX7_end_93 : decode cX7_end 93 = .ok (.iload_n 1, 1) := by decide +kernel
theorem dX7_end_94 : decode cX7_end 94 = .ok (.invokevirtual 159, 3) := by decide +kernel
theorem dX7_end_97 : decode cX7_end 97 = .ok (.ireturn, 1) := by decide +kernel
theorem dX7_end_98 : decode cX7_end 98 = .ok (.aload_n 0, 1) := by decide +kernel
theorem dX7_end_99 : decode cX7_end 99 = .ok (.iload_n 1, 1) := by decide +kernel
theorem dX7_end_100 : decode cX7_end 100 = .ok (.invokevirtual 163, 3) := by decide +kernel
theorem dX7_end_103 : decode cX7_end 103 = .ok (.ireturn, 1) := by decide +kernel
theorem dX7_end_104 : decode cX7_end 104 = .ok (.bipush (-2), 2) := by decide +kernel
theorem dX7_end_106 : decode cX7_end 106 = .ok (.ireturn, 1) := by decide +kernel
theorem dX7_known_0 : decode cX7_known 0 = .ok (.aload_n 0, 1) := by decide +kernel
theorem dX7_known_1 : decode cX7_known 1 = .ok (.iconst 0, 1) := by decide +kernel
theorem dX7_known_2 : decode cX7_known 2 = .ok (.putfield 52, 3) := by decide +kernel
theorem dX7_known_5 : decode cX7_known 5 = .ok (.iload_n 1, 1) := by decide +kernel
theorem dX7_known_6 : decode cX7_known 6 = .ok (.invokestatic 153, 3) := by decide +kernel
theorem dX7_known_9 : decode cX7_known 9 = .ok (.ifCond .eq 5, 3) := by decide +kernel
theorem dX7_known_12 : decode cX7_known 12 = .ok (.iconst (-1), 1) := by decide +kernel
theorem dX7_known_13 : decode cX7_known 13 = .ok (.ireturn, 1) := by decide +kernel
theorem dX7_known_14 : decode cX7_known 14 = .ok (.iload_n 2, 1) := by decide +kernel
theorem dX7_known_15 : decode cX7_known 15 = .ok (.i2l, 1) := by decide +kernel
theorem dX7_known_16 : decode cX7_known 16 = .ok (.lconst 0, 1) := by decide +kernel
theorem dX7_known_17 : decode cX7_known 17 = .ok (.ldc2_w 166, 3) := by decide +kernel
theorem dX7_known_20 : decode cX7_known 20 = .ok (.invokestatic 55, 3) := by decide +kernel
theorem dX7_known_23 : decode cX7_known 23 = .ok (.ifCond .eq 20, 3) := by decide +kernel
theorem dX7_known_26 : decode cX7_known 26 = .ok (.aload_n 0, 1) := by decide +kernel
theorem dX7_known_27 : decode cX7_known 27 = .ok (.getfield 19, 3) := by decide +kernel
theorem dX7_known_30 : decode cX7_known 30 = .ok (.bipush 16, 2) := by decide +kernel
theorem dX7_known_32 : decode cX7_known 32 = .ok (.iload_n 1, 1) := by decide +kernel
theorem dX7_known_33 : decode cX7_known 33 = .ok (.imul, 1) := by decide +kernel
theorem dX7_known_34 : decode cX7_known 34 = .ok (.bipush 11, 2) := by decide +kernel
theorem dX7_known_36 : decode cX7_known 36 = .ok (.iadd, 1) := by decide +kernel
theorem dX7_known_37 : decode cX7_known 37 = .ok (.iload_n 2, 1) := by decide +kernel
theorem dX7_known_38 : decode cX7_known 38 = .ok (.iadd, 1) := by decide +kernel
theorem dX7_known_39 : decode cX7_known 39 = .ok (.iaload, 1) := by decide +kernel
theorem dX7_known_40 : decode cX7_known 40 = .ok (.goto 5, 3) := by decide +kernel
theorem dX7_known_43 : decode cX7_known 43 = .ok (.bipush (-2), 2) := by decide +kernel
theorem dX7_known_45 : decode cX7_known 45 = .ok (.ireturn, 1) := by decide +kernel
theorem dX7_way_0 : decode cX7_way 0 = .ok (.aload_n 0, 1) := by decide +kernel
theorem dX7_way_1 : decode cX7_way 1 = .ok (.iconst 0, 1) := by decide +kernel
theorem dX7_way_2 : decode cX7_way 2 = .ok (.putfield 52, 3) := by decide +kernel
theorem dX7_way_5 : decode cX7_way 5 = .ok (.iload_n 1, 1) := by decide +kernel
theorem dX7_way_6 : decode cX7_way 6 = .ok (.invokestatic 153, 3) := by decide +kernel
theorem dX7_way_9 : decode cX7_way 9 = .ok (.ifCond .eq 5, 3) := by decide +kernel
theorem dX7_way_12 : decode cX7_way 12 = .ok (.iconst (-1), 1) := by decide +kernel
theorem dX7_way_13 : decode cX7_way 13 = .ok (.ireturn, 1) := by decide +kernel
theorem dX7_way_14 : decode cX7_way 14 = .ok (.iload_n 2, 1) := by decide +kernel
theorem dX7_way_15 : decode cX7_way 15 = .ok (.ifCond .ne 15, 3) := by decide +kernel
theorem dX7_way_18 : decode cX7_way 18 = .ok (.aload_n 0, 1) := by decide +kernel
theorem dX7_way_19 : decode cX7_way 19 = .ok (.getfield 19, 3) := by decide +kernel
theorem dX7_way_22 : decode cX7_way 22 = .ok (.bipush 32, 2) := by decide +kernel
theorem dX7_way_24 : decode cX7_way 24 = .ok (.iload_n 1, 1) := by decide +kernel
theorem dX7_way_25 : decode cX7_way 25 = .ok (.iadd, 1) := by decide +kernel
theorem dX7_way_26 : decode cX7_way 26 = .ok (.iaload, 1) := by decide +kernel
theorem dX7_way_27 : decode cX7_way 27 = .ok (.goto 25, 3) := by decide +kernel
theorem dX7_way_30 : decode cX7_way 30 = .ok (.iload_n 2, 1) := by decide +kernel
theorem dX7_way_31 : decode cX7_way 31 = .ok (.iconst 1, 1) := by decide +kernel
theorem dX7_way_32 : decode cX7_way 32 = .ok (.if_icmp .ne 18, 3) := by decide +kernel
theorem dX7_way_35 : decode cX7_way 35 = .ok (.aload_n 0, 1) := by decide +kernel
theorem dX7_way_36 : decode cX7_way 36 = .ok (.getfield 19, 3) := by decide +kernel
theorem dX7_way_39 : decode cX7_way 39 = .ok (.bipush 34, 2) := by decide +kernel
theorem dX7_way_41 : decode cX7_way 41 = .ok (.bipush 9, 2) := by decide +kernel
theorem dX7_way_43 : decode cX7_way 43 = .ok (.iload_n 1, 1) := by decide +kernel
theorem dX7_way_44 : decode cX7_way 44 = .ok (.imul, 1) := by decide +kernel
theorem dX7_way_45 : decode cX7_way 45 = .ok (.iadd, 1) := by decide +kernel
theorem dX7_way_46 : decode cX7_way 46 = .ok (.iaload, 1) := by decide +kernel
theorem dX7_way_47 : decode cX7_way 47 = .ok (.goto 5, 3) := by decide +kernel
theorem dX7_way_50 : decode cX7_way 50 = .ok (.bipush (-2), 2) := by decide +kernel
theorem dX7_way_52 : decode cX7_way 52 = .ok (.ireturn, 1) := by decide +kernel
theorem dX7_note_0 : decode cX7_note 0 = .ok (.aload_n 0, 1) := by decide +kernel
theorem dX7_note_1 : decode cX7_note 1 = .ok (.getfield 147, 3) := by decide +kernel
theorem dX7_note_4 : decode cX7_note 4 = .ok (.bipush 14, 2) := by decide +kernel
theorem dX7_note_6 : decode cX7_note 6 = .ok (.if_icmp .ne 43, 3) := by decide +kernel
theorem dX7_note_9 : decode cX7_note 9 = .ok (.iconst 0, 1) := by decide +kernel
theorem dX7_note_10 : decode cX7_note 10 = .ok (.istore_n 1, 1) := by decide +kernel
theorem dX7_note_11 : decode cX7_note 11 = .ok (.iload_n 1, 1) := by decide +kernel
theorem dX7_note_12 : decode cX7_note 12 = .ok (.sipush 715, 3) := by decide +kernel
theorem dX7_note_15 : decode cX7_note 15 = .ok (.if_icmp .ge 24, 3) := by decide +kernel
theorem dX7_note_18 : decode cX7_note 18 = .ok (.aload_n 0, 1) := by decide +kernel
theorem dX7_note_19 : decode cX7_note 19 = .ok (.getfield 25, 3) := by decide +kernel
theorem dX7_note_22 : decode cX7_note 22 = .ok (.iload_n 1, 1) := by decide +kernel
theorem dX7_note_23 : decode cX7_note 23 = .ok (.aload_n 0, 1) := by decide +kernel
theorem dX7_note_24 : decode cX7_note 24 = .ok (.getfield 25, 3) := by decide +kernel
theorem dX7_note_27 : decode cX7_note 27 = .ok (.iload_n 1, 1) := by decide +kernel
theorem dX7_note_28 : decode cX7_note 28 = .ok (.bipush 55, 2) := by decide +kernel
theorem dX7_note_30 : decode cX7_note 30 = .ok (.iadd, 1) := by decide +kernel
theorem dX7_note_31 : decode cX7_note 31 = .ok (.iaload, 1) := by decide +kernel
theorem dX7_note_32 : decode cX7_note 32 = .ok (.iastore, 1) := by decide +kernel
theorem dX7_note_33 : decode cX7_note 33 = .ok (.iinc 1 1, 3) := by decide +kernel
theorem dX7_note_36 : decode cX7_note 36 = .ok (.goto (-25), 3) := by decide +kernel
theorem dX7_note_39 : decode cX7_note 39 = .ok (.aload_n 0, 1) := by decide +kernel
theorem dX7_note_40 : decode cX7_note 40 = .ok (.dup, 1) := by decide +kernel
theorem dX7_note_41 : decode cX7_note 41 = .ok (.getfield 147, 3) := by decide +kernel
theorem dX7_note_44 : decode cX7_note 44 = .ok (.iconst 1, 1) := by decide +kernel
theorem dX7_note_45 : decode cX7_note 45 = .ok (.isub, 1) := by decide +kernel
theorem dX7_note_46 : decode cX7_note 46 = .ok (.putfield 147, 3) := by decide +kernel
theorem dX7_note_49 : decode cX7_note 49 = .ok (.iconst 0, 1) := by decide +kernel
theorem dX7_note_50 : decode cX7_note 50 = .ok (.istore_n 1, 1) := by decide +kernel
theorem dX7_note_51 : decode cX7_note 51 = .ok (.iload_n 1, 1) := by decide +kernel
theorem dX7_note_52 : decode cX7_note 52 = .ok (.bipush 55, 2) := by decide +kernel
theorem dX7_note_54 : decode cX7_note 54 = .ok (.if_icmp .ge 29, 3) := by decide +kernel
theorem dX7_note_57 : decode cX7_note 57 = .ok (.aload_n 0, 1) := by decide +kernel
theorem dX7_note_58 : decode cX7_note 58 = .ok (.getfield 25, 3) := by decide +kernel
theorem dX7_note_61 : decode cX7_note 61 = .ok (.bipush 55, 2) := by decide +kernel
theorem dX7_note_63 : decode cX7_note 63 = .ok (.aload_n 0, 1) := by decide +kernel
theorem dX7_note_64 : decode cX7_note 64 = .ok (.getfield 147, 3) := by decide +kernel
theorem dX7_note_67 : decode cX7_note 67 = .ok (.imul, 1) := by decide +kernel
theorem dX7_note_68 : decode cX7_note 68 = .ok (.iload_n 1, 1) := by decide +kernel
theorem dX7_note_69 : decode cX7_note 69 = .ok (.iadd, 1) := by decide +kernel
theorem dX7_note_70 : decode cX7_note 70 = .ok (.aload_n 0, 1) := by decide +kernel
theorem dX7_note_71 : decode cX7_note 71 = .ok (.getfield 19, 3) := by decide +kernel
theorem dX7_note_74 : decode cX7_note 74 = .ok (.iload_n 1, 1) := by decide +kernel
theorem dX7_note_75 : decode cX7_note 75 = .ok (.iaload, 1) := by decide +kernel
theorem dX7_note_76 : decode cX7_note 76 = .ok (.iastore, 1) := by decide +kernel
theorem dX7_note_77 : decode cX7_note 77 = .ok (.iinc 1 1, 3) := by decide +kernel
theorem dX7_note_80 : decode cX7_note 80 = .ok (.goto (-29), 3) := by decide +kernel
theorem dX7_note_83 : decode cX7_note 83 = .ok (.aload_n 0, 1) := by decide +kernel
theorem dX7_note_84 : decode cX7_note 84 = .ok (.dup, 1) := by decide +kernel
theorem dX7_note_85 : decode cX7_note 85 = .ok (.getfield 147, 3) := by decide +kernel
theorem dX7_note_88 : decode cX7_note 88 = .ok (.iconst 1, 1) := by decide +kernel
theorem dX7_note_89 : decode cX7_note 89 = .ok (.iadd, 1) := by decide +kernel
theorem dX7_note_90 : decode cX7_note 90 = .ok (.putfield 147, 3) := by decide +kernel
theorem dX7_note_93 : decode cX7_note 93 = .ok (.return_, 1) := by decide +kernel
theorem dX7_pass_0 : decode cX7_pass 0 = .ok (.aload_n 0, 1) := by decide +kernel
theorem dX7_pass_1 : decode cX7_pass 1 = .ok (.iconst 0, 1) := by decide +kernel
theorem dX7_pass_2 : decode cX7_pass 2 = .ok (.putfield 52, 3) := by decide +kernel
theorem dX7_pass_5 : decode cX7_pass 5 = .ok (.iload_n 1, 1) := by decide +kernel
theorem dX7_pass_6 : decode cX7_pass 6 = .ok (.i2l, 1) := by decide +kernel
theorem dX7_pass_7 : decode cX7_pass 7 = .ok (.lconst 1, 1) := by decide +kernel
theorem dX7_pass_8 : decode cX7_pass 8 = .ok (.ldc2_w 168, 3) := by decide +kernel
theorem dX7_pass_11 : decode cX7_pass 11 = .ok (.invokestatic 55, 3) := by decide +kernel
theorem dX7_pass_14 : decode cX7_pass 14 = .ok (.ifCond .ne 6, 3) := by decide +kernel
theorem dX7_pass_17 : decode cX7_pass 17 = .ok (.bipush (-2), 2) := by decide +kernel
theorem dX7_pass_19 : decode cX7_pass 19 = .ok (.ireturn, 1) := by decide +kernel
theorem dX7_pass_20 : decode cX7_pass 20 = .ok (.aload_n 0, 1) := by decide +kernel
theorem dX7_pass_21 : decode cX7_pass 21 = .ok (.invokevirtual 170, 3) := by decide +kernel
theorem dX7_pass_24 : decode cX7_pass 24 = .ok (.aload_n 0, 1) := by decide +kernel
theorem dX7_pass_25 : decode cX7_pass 25 = .ok (.invokevirtual 141, 3) := by decide +kernel
theorem dX7_pass_28 : decode cX7_pass 28 = .ok (.iconst 0, 1) := by decide +kernel
theorem dX7_pass_29 : decode cX7_pass 29 = .ok (.istore_n 2, 1) := by decide +kernel
theorem dX7_pass_30 : decode cX7_pass 30 = .ok (.iload_n 2, 1) := by decide +kernel
theorem dX7_pass_31 : decode cX7_pass 31 = .ok (.iload_n 1, 1) := by decide +kernel
theorem dX7_pass_32 : decode cX7_pass 32 = .ok (.if_icmp .ge 17, 3) := by decide +kernel
theorem dX7_pass_35 : decode cX7_pass 35 = .ok (.aload_n 0, 1) := by decide +kernel
theorem dX7_pass_36 : decode cX7_pass 36 = .ok (.aload_n 0, 1) := by decide +kernel
theorem dX7_pass_37 : decode cX7_pass 37 = .ok (.getfield 19, 3) := by decide +kernel
theorem dX7_pass_40 : decode cX7_pass 40 = .ok (.invokevirtual 110, 3) := by decide +kernel
theorem dX7_pass_43 : decode cX7_pass 43 = .ok (.iinc 2 1, 3) := by decide +kernel
theorem dX7_pass_46 : decode cX7_pass 46 = .ok (.goto (-16), 3) := by decide +kernel
theorem dX7_pass_49 : decode cX7_pass 49 = .ok (.aload_n 0, 1) := by decide +kernel
theorem dX7_pass_50 : decode cX7_pass 50 = .ok (.getfield 19, 3) := by decide +kernel
theorem dX7_pass_53 : decode cX7_pass 53 = .ok (.bipush 52, 2) := by decide +kernel
theorem dX7_pass_55 : decode cX7_pass 55 = .ok (.iaload, 1) := by decide +kernel
theorem dX7_pass_56 : decode cX7_pass 56 = .ok (.ireturn, 1) := by decide +kernel
theorem dX7_tell_0 : decode cX7_tell 0 = .ok (.aload_n 0, 1) := by decide +kernel
theorem dX7_tell_1 : decode cX7_tell 1 = .ok (.iconst 0, 1) := by decide +kernel
theorem dX7_tell_2 : decode cX7_tell 2 = .ok (.putfield 52, 3) := by decide +kernel
theorem dX7_tell_5 : decode cX7_tell 5 = .ok (.iload_n 1, 1) := by decide +kernel
theorem dX7_tell_6 : decode cX7_tell 6 = .ok (.invokestatic 153, 3) := by decide +kernel
theorem dX7_tell_9 : decode cX7_tell 9 = .ok (.ifCond .eq 5, 3) := by decide +kernel
theorem dX7_tell_12 : decode cX7_tell 12 = .ok (.iconst (-1), 1) := by decide +kernel
theorem dX7_tell_13 : decode cX7_tell 13 = .ok (.ireturn, 1) := by decide +kernel
theorem dX7_tell_14 : decode cX7_tell 14 = .ok (.iload_n 2, 1) := by decide +kernel
theorem dX7_tell_15 : decode cX7_tell 15 = .ok (.i2l, 1) := by decide +kernel
theorem dX7_tell_16 : decode cX7_tell 16 = .ok (.lconst 0, 1) := by decide +kernel
theorem dX7_tell_17 : decode cX7_tell 17 = .ok (.ldc2_w 173, 3) := by decide +kernel
theorem dX7_tell_20 : decode cX7_tell 20 = .ok (.invokestatic 55, 3) := by decide +kernel
theorem dX7_tell_23 : decode cX7_tell 23 = .ok (.ifCond .eq 26, 3) := by decide +kernel
theorem dX7_tell_26 : decode cX7_tell 26 = .ok (.iload_n 3, 1) := by decide +kernel
theorem dX7_tell_27 : decode cX7_tell 27 = .ok (.i2l, 1) := by decide +kernel
theorem dX7_tell_28 : decode cX7_tell 28 = .ok (.lconst 1, 1) := by decide +kernel
theorem dX7_tell_29 : decode cX7_tell 29 = .ok (.iload_n 2, 1) := by decide +kernel
theorem dX7_tell_30 : decode cX7_tell 30 = .ok (.iconst 2, 1) := by decide +kernel
theorem dX7_tell_31 : decode cX7_tell 31 = .ok (.if_icmp .ne 9, 3) := by decide +kernel
theorem dX7_tell_34 : decode cX7_tell 34 = .ok (.ldc2_w 175, 3) := by decide +kernel
theorem dX7_tell_37 : decode cX7_tell 37 = .ok (.goto 6, 3) := by decide +kernel
theorem dX7_tell_40 : decode cX7_tell 40 = .ok (.ldc2_w 157, 3) := by decide +kernel
theorem dX7_tell_43 : decode cX7_tell 43 = .ok (.invokestatic 55, 3) := by decide +kernel
theorem dX7_tell_46 : decode cX7_tell 46 = .ok (.ifCond .ne 6, 3) := by decide +kernel
theorem dX7_tell_49 : decode cX7_tell 49 = .ok (.bipush (-2), 2) := by decide +kernel
theorem dX7_tell_51 : decode cX7_tell 51 = .ok (.ireturn, 1) := by decide +kernel
theorem dX7_tell_52 : decode cX7_tell 52 = .ok (.aload_n 0, 1) := by decide +kernel
theorem dX7_tell_53 : decode cX7_tell 53 = .ok (.invokevirtual 170, 3) := by decide +kernel
theorem dX7_tell_56 : decode cX7_tell 56 = .ok (.aload_n 0, 1) := by decide +kernel
theorem dX7_tell_57 : decode cX7_tell 57 = .ok (.getfield 19, 3) := by decide +kernel
theorem dX7_tell_60 : decode cX7_tell 60 = .ok (.bipush 16, 2) := by decide +kernel
theorem dX7_tell_62 : decode cX7_tell 62 = .ok (.iload_n 1, 1) := by decide +kernel
theorem dX7_tell_63 : decode cX7_tell 63 = .ok (.imul, 1) := by decide +kernel
theorem dX7_tell_64 : decode cX7_tell 64 = .ok (.iload_n 2, 1) := by decide +kernel
theorem dX7_tell_65 : decode cX7_tell 65 = .ok (.iadd, 1) := by decide +kernel
theorem dX7_tell_66 : decode cX7_tell 66 = .ok (.iaload, 1) := by decide +kernel
theorem dX7_tell_67 : decode cX7_tell 67 = .ok (.istore 4, 2) := by decide +kernel
theorem dX7_tell_69 : decode cX7_tell 69 = .ok (.iload_n 2, 1) := by decide +kernel
theorem dX7_tell_70 : decode cX7_tell 70 = .ok (.ifCond .ne 18, 3) := by decide +kernel
theorem dX7_tell_73 : decode cX7_tell 73 = .ok (.aload_n 0, 1) := by decide +kernel
theorem dX7_tell_74 : decode cX7_tell 74 = .ok (.getfield 19, 3) := by decide +kernel
theorem dX7_tell_77 : decode cX7_tell 77 = .ok (.bipush 16, 2) := by decide +kernel
theorem dX7_tell_79 : decode cX7_tell 79 = .ok (.iload_n 1, 1) := by decide +kernel
theorem dX7_tell_80 : decode cX7_tell 80 = .ok (.imul, 1) := by decide +kernel
theorem dX7_tell_81 : decode cX7_tell 81 = .ok (.iload_n 3, 1) := by decide +kernel
theorem dX7_tell_82 : decode cX7_tell 82 = .ok (.invokestatic 177, 3) := by decide +kernel
theorem dX7_tell_85 : decode cX7_tell 85 = .ok (.goto 35, 3) := by decide +kernel
theorem dX7_tell_88 : decode cX7_tell 88 = .ok (.iload_n 2, 1) := by decide +kernel
theorem dX7_tell_89 : decode cX7_tell 89 = .ok (.iconst 1, 1) := by decide +kernel
theorem dX7_tell_90 : decode cX7_tell 90 = .ok (.if_icmp .ne 18, 3) := by decide +kernel
theorem dX7_tell_93 : decode cX7_tell 93 = .ok (.aload_n 0, 1) := by decide +kernel
theorem dX7_tell_94 : decode cX7_tell 94 = .ok (.getfield 19, 3) := by decide +kernel
theorem dX7_tell_97 : decode cX7_tell 97 = .ok (.bipush 16, 2) := by decide +kernel
theorem dX7_tell_99 : decode cX7_tell 99 = .ok (.iload_n 1, 1) := by decide +kernel
theorem dX7_tell_100 : decode cX7_tell 100 = .ok (.imul, 1) := by decide +kernel
theorem dX7_tell_101 : decode cX7_tell 101 = .ok (.iload_n 3, 1) := by decide +kernel
theorem dX7_tell_102 : decode cX7_tell 102 = .ok (.invokestatic 180, 3) := by decide +kernel
theorem dX7_tell_105 : decode cX7_tell 105 = .ok (.goto 15, 3) := by decide +kernel
theorem dX7_tell_108 : decode cX7_tell 108 = .ok (.aload_n 0, 1) := by decide +kernel
theorem dX7_tell_109 : decode cX7_tell 109 = .ok (.getfield 19, 3) := by decide +kernel
theorem dX7_tell_112 : decode cX7_tell 112 = .ok (.bipush 16, 2) := by decide +kernel
theorem dX7_tell_114 : decode cX7_tell 114 = .ok (.iload_n 1, 1) := by decide +kernel
theorem dX7_tell_115 : decode cX7_tell 115 = .ok (.imul, 1) := by decide +kernel
theorem dX7_tell_116 : decode cX7_tell 116 = .ok (.iconst 2, 1) := by decide +kernel
theorem dX7_tell_117 : decode cX7_tell 117 = .ok (.iadd, 1) := by decide +kernel
theorem dX7_tell_118 : decode cX7_tell 118 = .ok (.iload_n 3, 1) := by decide +kernel
theorem dX7_tell_119 : decode cX7_tell 119 = .ok (.iastore, 1) := by decide +kernel
theorem dX7_tell_120 : decode cX7_tell 120 = .ok (.iload 4, 2) := by decide +kernel
theorem dX7_tell_122 : decode cX7_tell 122 = .ok (.ireturn, 1) := by decide +kernel
theorem dX7_demand_0 : decode cX7_demand 0 = .ok (.aload_n 0, 1) := by decide +kernel
theorem dX7_demand_1 : decode cX7_demand 1 = .ok (.iconst 0, 1) := by decide +kernel
theorem dX7_demand_2 : decode cX7_demand 2 = .ok (.putfield 52, 3) := by decide +kernel
theorem dX7_demand_5 : decode cX7_demand 5 = .ok (.iload_n 1, 1) := by decide +kernel
theorem dX7_demand_6 : decode cX7_demand 6 = .ok (.invokestatic 153, 3) := by decide +kernel
theorem dX7_demand_9 : decode cX7_demand 9 = .ok (.ifCond .eq 5, 3) := by decide +kernel
theorem dX7_demand_12 : decode cX7_demand 12 = .ok (.iconst (-1), 1) := by decide +kernel
theorem dX7_demand_13 : decode cX7_demand 13 = .ok (.ireturn, 1) := by decide +kernel
theorem dX7_demand_14 : decode cX7_demand 14 = .ok (.aload_n 0, 1) := by decide +kernel
theorem dX7_demand_15 : decode cX7_demand 15 = .ok (.invokevirtual 170, 3) := by decide +kernel
theorem dX7_demand_18 : decode cX7_demand 18 = .ok (.aload_n 0, 1) := by decide +kernel
theorem dX7_demand_19 : decode cX7_demand 19 = .ok (.getfield 19, 3) := by decide +kernel
theorem dX7_demand_22 : decode cX7_demand 22 = .ok (.bipush 16, 2) := by decide +kernel
theorem dX7_demand_24 : decode cX7_demand 24 = .ok (.iload_n 1, 1) := by decide +kernel
theorem dX7_demand_25 : decode cX7_demand 25 = .ok (.imul, 1) := by decide +kernel
theorem dX7_demand_26 : decode cX7_demand 26 = .ok (.bipush 7, 2) := by decide +kernel
theorem dX7_demand_28 : decode cX7_demand 28 = .ok (.iadd, 1) := by decide +kernel
theorem dX7_demand_29 : decode cX7_demand 29 = .ok (.dup2, 1) := by decide +kernel
theorem dX7_demand_30 : decode cX7_demand 30 = .ok (.iaload, 1) := by decide +kernel
theorem dX7_demand_31 : decode cX7_demand 31 = .ok (.iconst 1, 1) := by decide +kernel
theorem dX7_demand_32 : decode cX7_demand 32 = .ok (.ixor, 1) := by decide +kernel
theorem dX7_demand_33 : decode cX7_demand 33 = .ok (.iastore, 1) := by decide +kernel
theorem dX7_demand_34 : decode cX7_demand 34 = .ok (.aload_n 0, 1) := by decide +kernel
theorem dX7_demand_35 : decode cX7_demand 35 = .ok (.getfield 19, 3) := by decide +kernel
theorem dX7_demand_38 : decode cX7_demand 38 = .ok (.bipush 16, 2) := by decide +kernel
theorem dX7_demand_40 : decode cX7_demand 40 = .ok (.iload_n 1, 1) := by decide +kernel
theorem dX7_demand_41 : decode cX7_demand 41 = .ok (.imul, 1) := by decide +kernel
theorem dX7_demand_42 : decode cX7_demand 42 = .ok (.bipush 7, 2) := by decide +kernel
theorem dX7_demand_44 : decode cX7_demand 44 = .ok (.iadd, 1) := by decide +kernel
theorem dX7_demand_45 : decode cX7_demand 45 = .ok (.iaload, 1) := by decide +kernel
theorem dX7_demand_46 : decode cX7_demand 46 = .ok (.ireturn, 1) := by decide +kernel
theorem dX7_turn_0 : decode cX7_turn 0 = .ok (.aload_n 0, 1) := by decide +kernel
theorem dX7_turn_1 : decode cX7_turn 1 = .ok (.iconst 0, 1) := by decide +kernel
theorem dX7_turn_2 : decode cX7_turn 2 = .ok (.putfield 52, 3) := by decide +kernel
theorem dX7_turn_5 : decode cX7_turn 5 = .ok (.iload_n 1, 1) := by decide +kernel
theorem dX7_turn_6 : decode cX7_turn 6 = .ok (.invokestatic 153, 3) := by decide +kernel
theorem dX7_turn_9 : decode cX7_turn 9 = .ok (.ifCond .eq 5, 3) := by decide +kernel
theorem dX7_turn_12 : decode cX7_turn 12 = .ok (.iconst (-1), 1) := by decide +kernel
theorem dX7_turn_13 : decode cX7_turn 13 = .ok (.ireturn, 1) := by decide +kernel
theorem dX7_turn_14 : decode cX7_turn 14 = .ok (.aload_n 0, 1) := by decide +kernel
theorem dX7_turn_15 : decode cX7_turn 15 = .ok (.invokevirtual 170, 3) := by decide +kernel
theorem dX7_turn_18 : decode cX7_turn 18 = .ok (.aload_n 0, 1) := by decide +kernel
theorem dX7_turn_19 : decode cX7_turn 19 = .ok (.getfield 19, 3) := by decide +kernel
theorem dX7_turn_22 : decode cX7_turn 22 = .ok (.bipush 32, 2) := by decide +kernel
theorem dX7_turn_24 : decode cX7_turn 24 = .ok (.iload_n 1, 1) := by decide +kernel
theorem dX7_turn_25 : decode cX7_turn 25 = .ok (.iadd, 1) := by decide +kernel
theorem dX7_turn_26 : decode cX7_turn 26 = .ok (.dup2, 1) := by decide +kernel
theorem dX7_turn_27 : decode cX7_turn 27 = .ok (.iaload, 1) := by decide +kernel
theorem dX7_turn_28 : decode cX7_turn 28 = .ok (.iconst 1, 1) := by decide +kernel
theorem dX7_turn_29 : decode cX7_turn 29 = .ok (.ixor, 1) := by decide +kernel
theorem dX7_turn_30 : decode cX7_turn 30 = .ok (.iastore, 1) := by decide +kernel
theorem dX7_turn_31 : decode cX7_turn 31 = .ok (.aload_n 0, 1) := by decide +kernel
theorem dX7_turn_32 : decode cX7_turn 32 = .ok (.getfield 19, 3) := by decide +kernel
theorem dX7_turn_35 : decode cX7_turn 35 = .ok (.bipush 32, 2) := by decide +kernel
theorem dX7_turn_37 : decode cX7_turn 37 = .ok (.iload_n 1, 1) := by decide +kernel
theorem dX7_turn_38 : decode cX7_turn 38 = .ok (.iadd, 1) := by decide +kernel
theorem dX7_turn_39 : decode cX7_turn 39 = .ok (.iaload, 1) := by decide +kernel
theorem dX7_turn_40 : decode cX7_turn 40 = .ok (.ireturn, 1) := by decide +kernel
theorem dX7_poll_0 : decode cX7_poll 0 = .ok (.aload_n 0, 1) := by decide +kernel
theorem dX7_poll_1 : decode cX7_poll 1 = .ok (.iconst 0, 1) := by decide +kernel
theorem dX7_poll_2 : decode cX7_poll 2 = .ok (.putfield 52, 3) := by decide +kernel
theorem dX7_poll_5 : decode cX7_poll 5 = .ok (.iload_n 1, 1) := by decide +kernel
theorem dX7_poll_6 : decode cX7_poll 6 = .ok (.invokestatic 153, 3) := by decide +kernel
theorem dX7_poll_9 : decode cX7_poll 9 = .ok (.ifCond .eq 5, 3) := by decide +kernel
theorem dX7_poll_12 : decode cX7_poll 12 = .ok (.iconst (-1), 1) := by decide +kernel
theorem dX7_poll_13 : decode cX7_poll 13 = .ok (.ireturn, 1) := by decide +kernel
theorem dX7_poll_14 : decode cX7_poll 14 = .ok (.aload_n 0, 1) := by decide +kernel
theorem dX7_poll_15 : decode cX7_poll 15 = .ok (.getfield 19, 3) := by decide +kernel
theorem dX7_poll_18 : decode cX7_poll 18 = .ok (.bipush 16, 2) := by decide +kernel
theorem dX7_poll_20 : decode cX7_poll 20 = .ok (.iload_n 1, 1) := by decide +kernel
theorem dX7_poll_21 : decode cX7_poll 21 = .ok (.imul, 1) := by decide +kernel
theorem dX7_poll_22 : decode cX7_poll 22 = .ok (.invokestatic 183, 3) := by decide +kernel
theorem dX7_poll_25 : decode cX7_poll 25 = .ok (.ifCond .ne 6, 3) := by decide +kernel
theorem dX7_poll_28 : decode cX7_poll 28 = .ok (.bipush (-3), 2) := by decide +kernel
theorem dX7_poll_30 : decode cX7_poll 30 = .ok (.ireturn, 1) := by decide +kernel
theorem dX7_poll_31 : decode cX7_poll 31 = .ok (.aload_n 0, 1) := by decide +kernel
theorem dX7_poll_32 : decode cX7_poll 32 = .ok (.invokevirtual 170, 3) := by decide +kernel
theorem dX7_poll_35 : decode cX7_poll 35 = .ok (.aload_n 0, 1) := by decide +kernel
theorem dX7_poll_36 : decode cX7_poll 36 = .ok (.getfield 19, 3) := by decide +kernel
theorem dX7_poll_39 : decode cX7_poll 39 = .ok (.bipush 16, 2) := by decide +kernel
theorem dX7_poll_41 : decode cX7_poll 41 = .ok (.iload_n 1, 1) := by decide +kernel
theorem dX7_poll_42 : decode cX7_poll 42 = .ok (.imul, 1) := by decide +kernel
theorem dX7_poll_43 : decode cX7_poll 43 = .ok (.invokestatic 186, 3) := by decide +kernel
theorem dX7_poll_46 : decode cX7_poll 46 = .ok (.aload_n 0, 1) := by decide +kernel
theorem dX7_poll_47 : decode cX7_poll 47 = .ok (.getfield 19, 3) := by decide +kernel
theorem dX7_poll_50 : decode cX7_poll 50 = .ok (.bipush 16, 2) := by decide +kernel
theorem dX7_poll_52 : decode cX7_poll 52 = .ok (.iload_n 1, 1) := by decide +kernel
theorem dX7_poll_53 : decode cX7_poll 53 = .ok (.imul, 1) := by decide +kernel
theorem dX7_poll_54 : decode cX7_poll 54 = .ok (.invokestatic 101, 3) := by decide +kernel
theorem dX7_poll_57 : decode cX7_poll 57 = .ok (.ireturn, 1) := by decide +kernel
theorem dX7_undo_0 : decode cX7_undo 0 = .ok (.aload_n 0, 1) := by decide +kernel
theorem dX7_undo_1 : decode cX7_undo 1 = .ok (.iconst 0, 1) := by decide +kernel
theorem dX7_undo_2 : decode cX7_undo 2 = .ok (.putfield 52, 3) := by decide +kernel
theorem dX7_undo_5 : decode cX7_undo 5 = .ok (.aload_n 0, 1) := by decide +kernel
theorem dX7_undo_6 : decode cX7_undo 6 = .ok (.getfield 147, 3) := by decide +kernel
theorem dX7_undo_9 : decode cX7_undo 9 = .ok (.ifCond .ne 6, 3) := by decide +kernel
theorem dX7_undo_12 : decode cX7_undo 12 = .ok (.bipush (-3), 2) := by decide +kernel
theorem dX7_undo_14 : decode cX7_undo 14 = .ok (.ireturn, 1) := by decide +kernel
theorem dX7_undo_15 : decode cX7_undo 15 = .ok (.aload_n 0, 1) := by decide +kernel
theorem dX7_undo_16 : decode cX7_undo 16 = .ok (.dup, 1) := by decide +kernel
theorem dX7_undo_17 : decode cX7_undo 17 = .ok (.getfield 147, 3) := by decide +kernel
theorem dX7_undo_20 : decode cX7_undo 20 = .ok (.iconst 1, 1) := by decide +kernel
theorem dX7_undo_21 : decode cX7_undo 21 = .ok (.isub, 1) := by decide +kernel
theorem dX7_undo_22 : decode cX7_undo 22 = .ok (.putfield 147, 3) := by decide +kernel
theorem dX7_undo_25 : decode cX7_undo 25 = .ok (.iconst 0, 1) := by decide +kernel
theorem dX7_undo_26 : decode cX7_undo 26 = .ok (.istore_n 1, 1) := by decide +kernel
theorem dX7_undo_27 : decode cX7_undo 27 = .ok (.iload_n 1, 1) := by decide +kernel
theorem dX7_undo_28 : decode cX7_undo 28 = .ok (.bipush 55, 2) := by decide +kernel
theorem dX7_undo_30 : decode cX7_undo 30 = .ok (.if_icmp .ge 29, 3) := by decide +kernel
theorem dX7_undo_33 : decode cX7_undo 33 = .ok (.aload_n 0, 1) := by decide +kernel
theorem dX7_undo_34 : decode cX7_undo 34 = .ok (.getfield 19, 3) := by decide +kernel
theorem dX7_undo_37 : decode cX7_undo 37 = .ok (.iload_n 1, 1) := by decide +kernel
theorem dX7_undo_38 : decode cX7_undo 38 = .ok (.aload_n 0, 1) := by decide +kernel
theorem dX7_undo_39 : decode cX7_undo 39 = .ok (.getfield 25, 3) := by decide +kernel
theorem dX7_undo_42 : decode cX7_undo 42 = .ok (.bipush 55, 2) := by decide +kernel
theorem dX7_undo_44 : decode cX7_undo 44 = .ok (.aload_n 0, 1) := by decide +kernel
theorem dX7_undo_45 : decode cX7_undo 45 = .ok (.getfield 147, 3) := by decide +kernel
theorem dX7_undo_48 : decode cX7_undo 48 = .ok (.imul, 1) := by decide +kernel
theorem dX7_undo_49 : decode cX7_undo 49 = .ok (.iload_n 1, 1) := by decide +kernel
theorem dX7_undo_50 : decode cX7_undo 50 = .ok (.iadd, 1) := by decide +kernel
theorem dX7_undo_51 : decode cX7_undo 51 = .ok (.iaload, 1) := by decide +kernel
theorem dX7_undo_52 : decode cX7_undo 52 = .ok (.iastore, 1) := by decide +kernel
theorem dX7_undo_53 : decode cX7_undo 53 = .ok (.iinc 1 1, 3) := by decide +kernel
theorem dX7_undo_56 : decode cX7_undo 56 = .ok (.goto (-29), 3) := by decide +kernel
theorem dX7_undo_59 : decode cX7_undo 59 = .ok (.aload_n 0, 1) := by decide +kernel
theorem dX7_undo_60 : decode cX7_undo 60 = .ok (.getfield 147, 3) := by decide +kernel
theorem dX7_undo_63 : decode cX7_undo 63 = .ok (.ireturn, 1) := by decide +kernel
theorem dX7_ahead_0 : decode cX7_ahead 0 = .ok (.aload_n 0, 1) := by decide +kernel
theorem dX7_ahead_1 : decode cX7_ahead 1 = .ok (.iconst 0, 1) := by decide +kernel
theorem dX7_ahead_2 : decode cX7_ahead 2 = .ok (.putfield 52, 3) := by decide +kernel
theorem dX7_ahead_5 : decode cX7_ahead 5 = .ok (.iload_n 1, 1) := by decide +kernel
theorem dX7_ahead_6 : decode cX7_ahead 6 = .ok (.i2l, 1) := by decide +kernel
theorem dX7_ahead_7 : decode cX7_ahead 7 = .ok (.lconst 0, 1) := by decide +kernel
theorem dX7_ahead_8 : decode cX7_ahead 8 = .ok (.ldc2_w 189, 3) := by decide +kernel
theorem dX7_ahead_11 : decode cX7_ahead 11 = .ok (.invokestatic 55, 3) := by decide +kernel
theorem dX7_ahead_14 : decode cX7_ahead 14 = .ok (.ifCond .eq 15, 3) := by decide +kernel
theorem dX7_ahead_17 : decode cX7_ahead 17 = .ok (.iload_n 2, 1) := by decide +kernel
theorem dX7_ahead_18 : decode cX7_ahead 18 = .ok (.i2l, 1) := by decide +kernel
theorem dX7_ahead_19 : decode cX7_ahead 19 = .ok (.lconst 0, 1) := by decide +kernel
theorem dX7_ahead_20 : decode cX7_ahead 20 = .ok (.ldc2_w 191, 3) := by decide +kernel
theorem dX7_ahead_23 : decode cX7_ahead 23 = .ok (.invokestatic 55, 3) := by decide +kernel
theorem dX7_ahead_26 : decode cX7_ahead 26 = .ok (.ifCond .ne 6, 3) := by decide +kernel
theorem dX7_ahead_29 : decode cX7_ahead 29 = .ok (.bipush (-2), 2) := by decide +kernel
theorem dX7_ahead_31 : decode cX7_ahead 31 = .ok (.ireturn, 1) := by decide +kernel
theorem dX7_ahead_32 : decode cX7_ahead 32 = .ok (.aload_n 0, 1) := by decide +kernel
theorem dX7_ahead_33 : decode cX7_ahead 33 = .ok (.invokevirtual 141, 3) := by decide +kernel
theorem dX7_ahead_36 : decode cX7_ahead 36 = .ok (.aload_n 0, 1) := by decide +kernel
theorem dX7_ahead_37 : decode cX7_ahead 37 = .ok (.aload_n 0, 1) := by decide +kernel
theorem dX7_ahead_38 : decode cX7_ahead 38 = .ok (.getfield 22, 3) := by decide +kernel
theorem dX7_ahead_41 : decode cX7_ahead 41 = .ok (.iload_n 1, 1) := by decide +kernel
theorem dX7_ahead_42 : decode cX7_ahead 42 = .ok (.invokevirtual 144, 3) := by decide +kernel
theorem dX7_ahead_45 : decode cX7_ahead 45 = .ok (.iload_n 2, 1) := by decide +kernel
theorem dX7_ahead_46 : decode cX7_ahead 46 = .ok (.iconst 2, 1) := by decide +kernel
theorem dX7_ahead_47 : decode cX7_ahead 47 = .ok (.if_icmp .ge 17, 3) := by decide +kernel
theorem dX7_ahead_50 : decode cX7_ahead 50 = .ok (.aload_n 0, 1) := by decide +kernel
theorem dX7_ahead_51 : decode cX7_ahead 51 = .ok (.getfield 22, 3) := by decide +kernel
theorem dX7_ahead_54 : decode cX7_ahead 54 = .ok (.bipush 16, 2) := by decide +kernel
theorem dX7_ahead_56 : decode cX7_ahead 56 = .ok (.iload_n 2, 1) := by decide +kernel
theorem dX7_ahead_57 : decode cX7_ahead 57 = .ok (.imul, 1) := by decide +kernel
theorem dX7_ahead_58 : decode cX7_ahead 58 = .ok (.iconst 5, 1) := by decide +kernel
theorem dX7_ahead_59 : decode cX7_ahead 59 = .ok (.iadd, 1) := by decide +kernel
theorem dX7_ahead_60 : decode cX7_ahead 60 = .ok (.iaload, 1) := by decide +kernel
theorem dX7_ahead_61 : decode cX7_ahead 61 = .ok (.goto 25, 3) := by decide +kernel
theorem dX7_ahead_64 : decode cX7_ahead 64 = .ok (.iload_n 2, 1) := by decide +kernel
theorem dX7_ahead_65 : decode cX7_ahead 65 = .ok (.iconst 2, 1) := by decide +kernel
theorem dX7_ahead_66 : decode cX7_ahead 66 = .ok (.if_icmp .ne 13, 3) := by decide +kernel
theorem dX7_ahead_69 : decode cX7_ahead 69 = .ok (.aload_n 0, 1) := by decide +kernel
theorem dX7_ahead_70 : decode cX7_ahead 70 = .ok (.getfield 22, 3) := by decide +kernel
theorem dX7_ahead_73 : decode cX7_ahead 73 = .ok (.bipush 53, 2) := by decide +kernel
theorem dX7_ahead_75 : decode cX7_ahead 75 = .ok (.iaload, 1) := by decide +kernel
theorem dX7_ahead_76 : decode cX7_ahead 76 = .ok (.goto 10, 3) := by decide +kernel
theorem dX7_ahead_79 : decode cX7_ahead 79 = .ok (.aload_n 0, 1) := by decide +kernel
theorem dX7_ahead_80 : decode cX7_ahead 80 = .ok (.getfield 22, 3) := by decide +kernel
theorem dX7_ahead_83 : decode cX7_ahead 83 = .ok (.bipush 54, 2) := by decide +kernel
theorem dX7_ahead_85 : decode cX7_ahead 85 = .ok (.iaload, 1) := by decide +kernel
theorem dX7_ahead_86 : decode cX7_ahead 86 = .ok (.ireturn, 1) := by decide +kernel
theorem dX7_letters_0 : decode cX7_letters 0 = .ok (.aload_n 0, 1) := by decide +kernel
theorem dX7_letters_1 : decode cX7_letters 1 = .ok (.iconst 0, 1) := by decide +kernel
theorem dX7_letters_2 : decode cX7_letters 2 = .ok (.putfield 52, 3) := by decide +kernel
theorem dX7_letters_5 : decode cX7_letters 5 = .ok (.iload_n 1, 1) := by decide +kernel
theorem dX7_letters_6 : decode cX7_letters 6 = .ok (.i2l, 1) := by decide +kernel
theorem dX7_letters_7 : decode cX7_letters 7 = .ok (.lconst 0, 1) := by decide +kernel
theorem dX7_letters_8 : decode cX7_letters 8 = .ok (.ldc2_w 189, 3) := by decide +kernel
theorem dX7_letters_11 : decode cX7_letters 11 = .ok (.invokestatic 55, 3) := by decide +kernel
theorem dX7_letters_14 : decode cX7_letters 14 = .ok (.ifCond .ne 6, 3) := by decide +kernel
theorem dX7_letters_17 : decode cX7_letters 17 = .ok (.bipush (-2), 2) := by decide +kernel
theorem dX7_letters_19 : decode cX7_letters 19 = .ok (.ireturn, 1) := by decide +kernel
theorem dX7_letters_20 : decode cX7_letters 20 = .ok (.aload_n 0, 1) := by decide +kernel
theorem dX7_letters_21 : decode cX7_letters 21 = .ok (.invokevirtual 141, 3) := by decide +kernel
theorem dX7_letters_24 : decode cX7_letters 24 = .ok (.aload_n 0, 1) := by decide +kernel
theorem dX7_letters_25 : decode cX7_letters 25 = .ok (.aload_n 0, 1) := by decide +kernel
theorem dX7_letters_26 : decode cX7_letters 26 = .ok (.getfield 22, 3) := by decide +kernel
theorem dX7_letters_29 : decode cX7_letters 29 = .ok (.iload_n 1, 1) := by decide +kernel
theorem dX7_letters_30 : decode cX7_letters 30 = .ok (.invokevirtual 144, 3) := by decide +kernel
theorem dX7_letters_33 : decode cX7_letters 33 = .ok (.aload_n 0, 1) := by decide +kernel
theorem dX7_letters_34 : decode cX7_letters 34 = .ok (.getfield 22, 3) := by decide +kernel
theorem dX7_letters_37 : decode cX7_letters 37 = .ok (.bipush 53, 2) := by decide +kernel
theorem dX7_letters_39 : decode cX7_letters 39 = .ok (.iaload, 1) := by decide +kernel
theorem dX7_letters_40 : decode cX7_letters 40 = .ok (.aload_n 0, 1) := by decide +kernel
theorem dX7_letters_41 : decode cX7_letters 41 = .ok (.getfield 19, 3) := by decide +kernel
theorem dX7_letters_44 : decode cX7_letters 44 = .ok (.bipush 53, 2) := by decide +kernel
theorem dX7_letters_46 : decode cX7_letters 46 = .ok (.iaload, 1) := by decide +kernel
theorem dX7_letters_47 : decode cX7_letters 47 = .ok (.isub, 1) := by decide +kernel
theorem dX7_letters_48 : decode cX7_letters 48 = .ok (.ireturn, 1) := by decide +kernel
theorem dX7_does_0 : decode cX7_does 0 = .ok (.bipush 10, 2) := by decide +kernel
theorem dX7_does_2 : decode cX7_does 2 = .ok (.iload_n 2, 1) := by decide +kernel
theorem dX7_does_3 : decode cX7_does 3 = .ok (.imul, 1) := by decide +kernel
theorem dX7_does_4 : decode cX7_does 4 = .ok (.iload_n 3, 1) := by decide +kernel
theorem dX7_does_5 : decode cX7_does 5 = .ok (.iadd, 1) := by decide +kernel
theorem dX7_does_6 : decode cX7_does 6 = .ok (.istore 4, 2) := by decide +kernel
theorem dX7_does_8 : decode cX7_does 8 = .ok (.iload_n 2, 1) := by decide +kernel
theorem dX7_does_9 : decode cX7_does 9 = .ok (.invokestatic 153, 3) := by decide +kernel
theorem dX7_does_12 : decode cX7_does 12 = .ok (.ifCond .ne 7, 3) := by decide +kernel
theorem dX7_does_15 : decode cX7_does 15 = .ok (.iconst 1, 1) := by decide +kernel
theorem dX7_does_16 : decode cX7_does 16 = .ok (.goto 4, 3) := by decide +kernel
theorem dX7_does_19 : decode cX7_does 19 = .ok (.iconst 0, 1) := by decide +kernel
theorem dX7_does_20 : decode cX7_does 20 = .ok (.istore 5, 2) := by decide +kernel
theorem dX7_does_22 : decode cX7_does 22 = .ok (.iload_n 2, 1) := by decide +kernel
theorem dX7_does_23 : decode cX7_does 23 = .ok (.ifCond .ne 14, 3) := by decide +kernel
theorem dX7_does_26 : decode cX7_does 26 = .ok (.iload_n 3, 1) := by decide +kernel
theorem dX7_does_27 : decode cX7_does 27 = .ok (.invokestatic 153, 3) := by decide +kernel
theorem dX7_does_30 : decode cX7_does 30 = .ok (.ifCond .ne 7, 3) := by decide +kernel
theorem dX7_does_33 : decode cX7_does 33 = .ok (.iconst 1, 1) := by decide +kernel
theorem dX7_does_34 : decode cX7_does 34 = .ok (.goto 4, 3) := by decide +kernel
theorem dX7_does_37 : decode cX7_does 37 = .ok (.iconst 0, 1) := by decide +kernel
theorem dX7_does_38 : decode cX7_does 38 = .ok (.istore 6, 2) := by decide +kernel
theorem dX7_does_40 : decode cX7_does 40 = .ok (.iload_n 1, 1) := by decide +kernel
theorem dX7_does_41 : decode cX7_does 41 = .ok (.tableswitch 256 1 7 #[43, 70, 108, 143, 177, 203, 230], 43) := by decide +kernel
theorem dX7_does_84 : decode cX7_does 84 = .ok (.iload 4, 2) := by decide +kernel
theorem dX7_does_86 : decode cX7_does 86 = .ok (.i2l, 1) := by decide +kernel
theorem dX7_does_87 : decode cX7_does 87 = .ok (.lconst 1, 1) := by decide +kernel
theorem dX7_does_88 : decode cX7_does 88 = .ok (.ldc2_w 168, 3) := by decide +kernel
theorem dX7_does_91 : decode cX7_does 91 = .ok (.invokestatic 55, 3) := by decide +kernel
theorem dX7_does_94 : decode cX7_does 94 = .ok (.ifCond .ne 5, 3) := by decide +kernel
theorem dX7_does_97 : decode cX7_does 97 = .ok (.iconst 0, 1) := by decide +kernel
theorem dX7_does_98 : decode cX7_does 98 = .ok (.ireturn, 1) := by decide +kernel
theorem dX7_does_99 : decode cX7_does 99 = .ok (.aload_n 0, 1) := by decide +kernel
theorem dX7_does_100 : decode cX7_does 100 = .ok (.aload_n 0, 1) := by decide +kernel
theorem dX7_does_101 : decode cX7_does 101 = .ok (.getfield 22, 3) := by decide +kernel
theorem dX7_does_104 : decode cX7_does 104 = .ok (.iload 4, 2) := by decide +kernel
theorem dX7_does_106 : decode cX7_does 106 = .ok (.invokevirtual 144, 3) := by decide +kernel
theorem dX7_does_109 : decode cX7_does 109 = .ok (.iconst 1, 1) := by decide +kernel
theorem dX7_does_110 : decode cX7_does 110 = .ok (.ireturn, 1) := by decide +kernel
theorem dX7_does_111 : decode cX7_does 111 = .ok (.aload_n 0, 1) := by decide +kernel
theorem dX7_does_112 : decode cX7_does 112 = .ok (.getfield 22, 3) := by decide +kernel
theorem dX7_does_115 : decode cX7_does 115 = .ok (.iload 6, 2) := by decide +kernel
theorem dX7_does_117 : decode cX7_does 117 = .ok (.ifCond .eq 13, 3) := by decide +kernel
theorem dX7_does_120 : decode cX7_does 120 = .ok (.bipush 16, 2) := by decide +kernel
theorem dX7_does_122 : decode cX7_does 122 = .ok (.iload_n 3, 1) := by decide +kernel
theorem dX7_does_123 : decode cX7_does 123 = .ok (.imul, 1) := by decide +kernel
theorem dX7_does_124 : decode cX7_does 124 = .ok (.bipush 7, 2) := by decide +kernel
theorem dX7_does_126 : decode cX7_does 126 = .ok (.iadd, 1) := by decide +kernel
theorem dX7_does_127 : decode cX7_does 127 = .ok (.goto 5, 3) := by decide +kernel
theorem dX7_does_130 : decode cX7_does 130 = .ok (.bipush 7, 2) := by decide +kernel
theorem dX7_does_132 : decode cX7_does 132 = .ok (.dup2, 1) := by decide +kernel
theorem dX7_does_133 : decode cX7_does 133 = .ok (.iaload, 1) := by decide +kernel
theorem dX7_does_134 : decode cX7_does 134 = .ok (.iload 6, 2) := by decide +kernel
theorem dX7_does_136 : decode cX7_does 136 = .ok (.ifCond .eq 7, 3) := by decide +kernel
theorem dX7_does_139 : decode cX7_does 139 = .ok (.iconst 1, 1) := by decide +kernel
theorem dX7_does_140 : decode cX7_does 140 = .ok (.goto 4, 3) := by decide +kernel
theorem dX7_does_143 : decode cX7_does 143 = .ok (.iconst 0, 1) := by decide +kernel
theorem dX7_does_144 : decode cX7_does 144 = .ok (.ixor, 1) := by decide +kernel
theorem dX7_does_145 : decode cX7_does 145 = .ok (.iastore, 1) := by decide +kernel
theorem dX7_does_146 : decode cX7_does 146 = .ok (.iload 6, 2) := by decide +kernel
theorem dX7_does_148 : decode cX7_does 148 = .ok (.ireturn, 1) := by decide +kernel
theorem dX7_does_149 : decode cX7_does 149 = .ok (.aload_n 0, 1) := by decide +kernel
theorem dX7_does_150 : decode cX7_does 150 = .ok (.getfield 22, 3) := by decide +kernel
theorem dX7_does_153 : decode cX7_does 153 = .ok (.iload 6, 2) := by decide +kernel
theorem dX7_does_155 : decode cX7_does 155 = .ok (.ifCond .eq 10, 3) := by decide +kernel
theorem dX7_does_158 : decode cX7_does 158 = .ok (.bipush 32, 2) := by decide +kernel
theorem dX7_does_160 : decode cX7_does 160 = .ok (.iload_n 3, 1) := by decide +kernel
theorem dX7_does_161 : decode cX7_does 161 = .ok (.iadd, 1) := by decide +kernel
theorem dX7_does_162 : decode cX7_does 162 = .ok (.goto 5, 3) := by decide +kernel
theorem dX7_does_165 : decode cX7_does 165 = .ok (.bipush 32, 2) := by decide +kernel
theorem dX7_does_167 : decode cX7_does 167 = .ok (.dup2, 1) := by decide +kernel
theorem dX7_does_168 : decode cX7_does 168 = .ok (.iaload, 1) := by decide +kernel
theorem dX7_does_169 : decode cX7_does 169 = .ok (.iload 6, 2) := by decide +kernel
theorem dX7_does_171 : decode cX7_does 171 = .ok (.ifCond .eq 7, 3) := by decide +kernel
theorem dX7_does_174 : decode cX7_does 174 = .ok (.iconst 1, 1) := by decide +kernel
theorem dX7_does_175 : decode cX7_does 175 = .ok (.goto 4, 3) := by decide +kernel
theorem dX7_does_178 : decode cX7_does 178 = .ok (.iconst 0, 1) := by decide +kernel
theorem dX7_does_179 : decode cX7_does 179 = .ok (.ixor, 1) := by decide +kernel
theorem dX7_does_180 : decode cX7_does 180 = .ok (.iastore, 1) := by decide +kernel
theorem dX7_does_181 : decode cX7_does 181 = .ok (.iload 6, 2) := by decide +kernel
theorem dX7_does_183 : decode cX7_does 183 = .ok (.ireturn, 1) := by decide +kernel
theorem dX7_does_184 : decode cX7_does 184 = .ok (.iload 6, 2) := by decide +kernel
theorem dX7_does_186 : decode cX7_does 186 = .ok (.ifCond .eq 17, 3) := by decide +kernel
theorem dX7_does_189 : decode cX7_does 189 = .ok (.aload_n 0, 1) := by decide +kernel
theorem dX7_does_190 : decode cX7_does 190 = .ok (.getfield 22, 3) := by decide +kernel
theorem dX7_does_193 : decode cX7_does 193 = .ok (.bipush 16, 2) := by decide +kernel
theorem dX7_does_195 : decode cX7_does 195 = .ok (.iload_n 3, 1) := by decide +kernel
theorem dX7_does_196 : decode cX7_does 196 = .ok (.imul, 1) := by decide +kernel
theorem dX7_does_197 : decode cX7_does 197 = .ok (.invokestatic 183, 3) := by decide +kernel
theorem dX7_does_200 : decode cX7_does 200 = .ok (.ifCond .ne 5, 3) := by decide +kernel
theorem dX7_does_203 : decode cX7_does 203 = .ok (.iconst 0, 1) := by decide +kernel
theorem dX7_does_204 : decode cX7_does 204 = .ok (.ireturn, 1) := by decide +kernel
theorem dX7_does_205 : decode cX7_does 205 = .ok (.aload_n 0, 1) := by decide +kernel
theorem dX7_does_206 : decode cX7_does 206 = .ok (.getfield 22, 3) := by decide +kernel
theorem dX7_does_209 : decode cX7_does 209 = .ok (.bipush 16, 2) := by decide +kernel
theorem dX7_does_211 : decode cX7_does 211 = .ok (.iload_n 3, 1) := by decide +kernel
theorem dX7_does_212 : decode cX7_does 212 = .ok (.imul, 1) := by decide +kernel
theorem dX7_does_213 : decode cX7_does 213 = .ok (.invokestatic 186, 3) := by decide +kernel
theorem dX7_does_216 : decode cX7_does 216 = .ok (.iconst 1, 1) := by decide +kernel
theorem dX7_does_217 : decode cX7_does 217 = .ok (.ireturn, 1) := by decide +kernel
theorem dX7_does_218 : decode cX7_does 218 = .ok (.iload 5, 2) := by decide +kernel
theorem dX7_does_220 : decode cX7_does 220 = .ok (.ifCond .eq 22, 3) := by decide +kernel
theorem dX7_does_223 : decode cX7_does 223 = .ok (.aload_n 0, 1) := by decide +kernel
theorem dX7_does_224 : decode cX7_does 224 = .ok (.getfield 22, 3) := by decide +kernel
theorem dX7_does_227 : decode cX7_does 227 = .ok (.bipush 16, 2) := by decide +kernel
theorem dX7_does_229 : decode cX7_does 229 = .ok (.iload_n 2, 1) := by decide +kernel
theorem dX7_does_230 : decode cX7_does 230 = .ok (.imul, 1) := by decide +kernel
theorem dX7_does_231 : decode cX7_does 231 = .ok (.iconst 5, 1) := by decide +kernel
theorem dX7_does_232 : decode cX7_does 232 = .ok (.iadd, 1) := by decide +kernel
theorem dX7_does_233 : decode cX7_does 233 = .ok (.iaload, 1) := by decide +kernel
theorem dX7_does_234 : decode cX7_does 234 = .ok (.iload_n 3, 1) := by decide +kernel
theorem dX7_does_235 : decode cX7_does 235 = .ok (.if_icmp .ne 7, 3) := by decide +kernel
theorem dX7_does_238 : decode cX7_does 238 = .ok (.iconst 1, 1) := by decide +kernel
theorem dX7_does_239 : decode cX7_does 239 = .ok (.goto 4, 3) := by decide +kernel
theorem dX7_does_242 : decode cX7_does 242 = .ok (.iconst 0, 1) := by decide +kernel
theorem dX7_does_243 : decode cX7_does 243 = .ok (.ireturn, 1) := by decide +kernel
theorem dX7_does_244 : decode cX7_does 244 = .ok (.iload 5, 2) := by decide +kernel
theorem dX7_does_246 : decode cX7_does 246 = .ok (.ifCond .eq 23, 3) := by decide +kernel
theorem dX7_does_249 : decode cX7_does 249 = .ok (.aload_n 0, 1) := by decide +kernel
theorem dX7_does_250 : decode cX7_does 250 = .ok (.getfield 22, 3) := by decide +kernel
theorem dX7_does_253 : decode cX7_does 253 = .ok (.bipush 16, 2) := by decide +kernel
theorem dX7_does_255 : decode cX7_does 255 = .ok (.iload_n 2, 1) := by decide +kernel
theorem dX7_does_256 : decode cX7_does 256 = .ok (.imul, 1) := by decide +kernel
theorem dX7_does_257 : decode cX7_does 257 = .ok (.bipush 6, 2) := by decide +kernel
theorem dX7_does_259 : decode cX7_does 259 = .ok (.iadd, 1) := by decide +kernel
theorem dX7_does_260 : decode cX7_does 260 = .ok (.iaload, 1) := by decide +kernel
theorem dX7_does_261 : decode cX7_does 261 = .ok (.iload_n 3, 1) := by decide +kernel
theorem dX7_does_262 : decode cX7_does 262 = .ok (.if_icmp .ne 7, 3) := by decide +kernel
theorem dX7_does_265 : decode cX7_does 265 = .ok (.iconst 1, 1) := by decide +kernel
theorem dX7_does_266 : decode cX7_does 266 = .ok (.goto 4, 3) := by decide +kernel
theorem dX7_does_269 : decode cX7_does 269 = .ok (.iconst 0, 1) := by decide +kernel
theorem dX7_does_270 : decode cX7_does 270 = .ok (.ireturn, 1) := by decide +kernel
theorem dX7_does_271 : decode cX7_does 271 = .ok (.iload 5, 2) := by decide +kernel
theorem dX7_does_273 : decode cX7_does 273 = .ok (.ifCond .eq 22, 3) := by decide +kernel
theorem dX7_does_276 : decode cX7_does 276 = .ok (.aload_n 0, 1) := by decide +kernel
theorem dX7_does_277 : decode cX7_does 277 = .ok (.getfield 22, 3) := by decide +kernel
theorem dX7_does_280 : decode cX7_does 280 = .ok (.bipush 16, 2) := by decide +kernel
theorem dX7_does_282 : decode cX7_does 282 = .ok (.iload_n 2, 1) := by decide +kernel
theorem dX7_does_283 : decode cX7_does 283 = .ok (.imul, 1) := by decide +kernel
theorem dX7_does_284 : decode cX7_does 284 = .ok (.invokestatic 91, 3) := by decide +kernel
theorem dX7_does_287 : decode cX7_does 287 = .ok (.iload_n 3, 1) := by decide +kernel
theorem dX7_does_288 : decode cX7_does 288 = .ok (.if_icmp .ne 7, 3) := by decide +kernel
theorem dX7_does_291 : decode cX7_does 291 = .ok (.iconst 1, 1) := by decide +kernel
theorem dX7_does_292 : decode cX7_does 292 = .ok (.goto 4, 3) := by decide +kernel
theorem dX7_does_295 : decode cX7_does 295 = .ok (.iconst 0, 1) := by decide +kernel
theorem dX7_does_296 : decode cX7_does 296 = .ok (.ireturn, 1) := by decide +kernel
theorem dX7_does_297 : decode cX7_does 297 = .ok (.iconst 0, 1) := by decide +kernel
theorem dX7_does_298 : decode cX7_does 298 = .ok (.ireturn, 1) := by decide +kernel
theorem dX7_longPower_0 : decode cX7_longPower 0 = .ok (.lconst 1, 1) := by decide +kernel
theorem dX7_longPower_1 : decode cX7_longPower 1 = .ok (.lstore_n 3, 1) := by decide +kernel
theorem dX7_longPower_2 : decode cX7_longPower 2 = .ok (.iconst 0, 1) := by decide +kernel
theorem dX7_longPower_3 : decode cX7_longPower 3 = .ok (.istore 5, 2) := by decide +kernel
theorem dX7_longPower_5 : decode cX7_longPower 5 = .ok (.iload 5, 2) := by decide +kernel
theorem dX7_longPower_7 : decode cX7_longPower 7 = .ok (.iload_n 2, 1) := by decide +kernel
theorem dX7_longPower_8 : decode cX7_longPower 8 = .ok (.if_icmp .ge 13, 3) := by decide +kernel
theorem dX7_longPower_11 : decode cX7_longPower 11 = .ok (.lload_n 3, 1) := by decide +kernel
theorem dX7_longPower_12 : decode cX7_longPower 12 = .ok (.lload_n 0, 1) := by decide +kernel
theorem dX7_longPower_13 : decode cX7_longPower 13 = .ok (.lmul, 1) := by decide +kernel
theorem dX7_longPower_14 : decode cX7_longPower 14 = .ok (.lstore_n 3, 1) := by decide +kernel
theorem dX7_longPower_15 : decode cX7_longPower 15 = .ok (.iinc 5 1, 3) := by decide +kernel
theorem dX7_longPower_18 : decode cX7_longPower 18 = .ok (.goto (-13), 3) := by decide +kernel
theorem dX7_longPower_21 : decode cX7_longPower 21 = .ok (.lload_n 3, 1) := by decide +kernel
theorem dX7_longPower_22 : decode cX7_longPower 22 = .ok (.lreturn, 1) := by decide +kernel
theorem dX7_judge_0 : decode cX7_judge 0 = .ok (.aload_n 0, 1) := by decide +kernel
theorem dX7_judge_1 : decode cX7_judge 1 = .ok (.iconst 0, 1) := by decide +kernel
theorem dX7_judge_2 : decode cX7_judge 2 = .ok (.putfield 52, 3) := by decide +kernel
theorem dX7_judge_5 : decode cX7_judge 5 = .ok (.iload_n 1, 1) := by decide +kernel
theorem dX7_judge_6 : decode cX7_judge 6 = .ok (.i2l, 1) := by decide +kernel
theorem dX7_judge_7 : decode cX7_judge 7 = .ok (.lconst 1, 1) := by decide +kernel
theorem dX7_judge_8 : decode cX7_judge 8 = .ok (.ldc2_w 166, 3) := by decide +kernel
theorem dX7_judge_11 : decode cX7_judge 11 = .ok (.invokestatic 55, 3) := by decide +kernel
theorem dX7_judge_14 : decode cX7_judge 14 = .ok (.ifCond .eq 20, 3) := by decide +kernel
theorem dX7_judge_17 : decode cX7_judge 17 = .ok (.lload_n 2, 1) := by decide +kernel
theorem dX7_judge_18 : decode cX7_judge 18 = .ok (.lconst 0, 1) := by decide +kernel
theorem dX7_judge_19 : decode cX7_judge 19 = .ok (.ldc2_w 193, 3) := by decide +kernel
theorem dX7_judge_22 : decode cX7_judge 22 = .ok (.iload_n 1, 1) := by decide +kernel
theorem dX7_judge_23 : decode cX7_judge 23 = .ok (.invokestatic 195, 3) := by decide +kernel
theorem dX7_judge_26 : decode cX7_judge 26 = .ok (.lconst 1, 1) := by decide +kernel
theorem dX7_judge_27 : decode cX7_judge 27 = .ok (.lsub, 1) := by decide +kernel
theorem dX7_judge_28 : decode cX7_judge 28 = .ok (.invokestatic 55, 3) := by decide +kernel
theorem dX7_judge_31 : decode cX7_judge 31 = .ok (.ifCond .ne 6, 3) := by decide +kernel
theorem dX7_judge_34 : decode cX7_judge 34 = .ok (.bipush (-2), 2) := by decide +kernel
theorem dX7_judge_36 : decode cX7_judge 36 = .ok (.ireturn, 1) := by decide +kernel
theorem dX7_judge_37 : decode cX7_judge 37 = .ok (.aload_n 0, 1) := by decide +kernel
theorem dX7_judge_38 : decode cX7_judge 38 = .ok (.invokevirtual 141, 3) := by decide +kernel
theorem dX7_judge_41 : decode cX7_judge 41 = .ok (.iconst 0, 1) := by decide +kernel
theorem dX7_judge_42 : decode cX7_judge 42 = .ok (.istore 4, 2) := by decide +kernel
theorem dX7_judge_44 : decode cX7_judge 44 = .ok (.iload 4, 2) := by decide +kernel
theorem dX7_judge_46 : decode cX7_judge 46 = .ok (.iload_n 1, 1) := by decide +kernel
theorem dX7_judge_47 : decode cX7_judge 47 = .ok (.if_icmp .ge 58, 3) := by decide +kernel
theorem dX7_judge_50 : decode cX7_judge 50 = .ok (.lload_n 2, 1) := by decide +kernel
theorem dX7_judge_51 : decode cX7_judge 51 = .ok (.ldc2_w 193, 3) := by decide +kernel
theorem dX7_judge_54 : decode cX7_judge 54 = .ok (.iload_n 1, 1) := by decide +kernel
theorem dX7_judge_55 : decode cX7_judge 55 = .ok (.iconst 1, 1) := by decide +kernel
theorem dX7_judge_56 : decode cX7_judge 56 = .ok (.isub, 1) := by decide +kernel
theorem dX7_judge_57 : decode cX7_judge 57 = .ok (.iload 4, 2) := by decide +kernel
theorem dX7_judge_59 : decode cX7_judge 59 = .ok (.isub, 1) := by decide +kernel
theorem dX7_judge_60 : decode cX7_judge 60 = .ok (.invokestatic 195, 3) := by decide +kernel
theorem dX7_judge_63 : decode cX7_judge 63 = .ok (.ldiv, 1) := by decide +kernel
theorem dX7_judge_64 : decode cX7_judge 64 = .ok (.ldc2_w 193, 3) := by decide +kernel
theorem dX7_judge_67 : decode cX7_judge 67 = .ok (.lrem, 1) := by decide +kernel
theorem dX7_judge_68 : decode cX7_judge 68 = .ok (.l2i, 1) := by decide +kernel
theorem dX7_judge_69 : decode cX7_judge 69 = .ok (.istore 5, 2) := by decide +kernel
theorem dX7_judge_71 : decode cX7_judge 71 = .ok (.aload_n 0, 1) := by decide +kernel
theorem dX7_judge_72 : decode cX7_judge 72 = .ok (.iload 5, 2) := by decide +kernel
theorem dX7_judge_74 : decode cX7_judge 74 = .ok (.bipush 100, 2) := by decide +kernel
theorem dX7_judge_76 : decode cX7_judge 76 = .ok (.idiv, 1) := by decide +kernel
theorem dX7_judge_77 : decode cX7_judge 77 = .ok (.iload 5, 2) := by decide +kernel
theorem dX7_judge_79 : decode cX7_judge 79 = .ok (.bipush 10, 2) := by decide +kernel
theorem dX7_judge_81 : decode cX7_judge 81 = .ok (.idiv, 1) := by decide +kernel
theorem dX7_judge_82 : decode cX7_judge 82 = .ok (.bipush 10, 2) := by decide +kernel
theorem dX7_judge_84 : decode cX7_judge 84 = .ok (.irem, 1) := by decide +kernel
theorem dX7_judge_85 : decode cX7_judge 85 = .ok (.iload 5, 2) := by decide +kernel
theorem dX7_judge_87 : decode cX7_judge 87 = .ok (.bipush 10, 2) := by decide +kernel
theorem dX7_judge_89 : decode cX7_judge 89 = .ok (.irem, 1) := by decide +kernel
theorem dX7_judge_90 : decode cX7_judge 90 = .ok (.invokevirtual 199, 3) := by decide +kernel
theorem dX7_judge_93 : decode cX7_judge 93 = .ok (.ifCond .ne 6, 3) := by decide +kernel
theorem dX7_judge_96 : decode cX7_judge 96 = .ok (.iload 4, 2) := by decide +kernel
theorem dX7_judge_98 : decode cX7_judge 98 = .ok (.ireturn, 1) := by decide +kernel
theorem dX7_judge_99 : decode cX7_judge 99 = .ok (.iinc 4 1, 3) := by decide +kernel
theorem dX7_judge_102 : decode cX7_judge 102 = .ok (.goto (-58), 3) := by decide +kernel
theorem dX7_judge_105 : decode cX7_judge 105 = .ok (.bipush (-9), 2) := by decide +kernel
theorem dX7_judge_107 : decode cX7_judge 107 = .ok (.ireturn, 1) := by decide +kernel
theorem dX7_see_0 : decode cX7_see 0 = .ok (.aload_n 0, 1) := by decide +kernel
theorem dX7_see_1 : decode cX7_see 1 = .ok (.iconst 0, 1) := by decide +kernel
theorem dX7_see_2 : decode cX7_see 2 = .ok (.putfield 52, 3) := by decide +kernel
theorem dX7_see_5 : decode cX7_see 5 = .ok (.iload_n 2, 1) := by decide +kernel
theorem dX7_see_6 : decode cX7_see 6 = .ok (.invokestatic 153, 3) := by decide +kernel
theorem dX7_see_9 : decode cX7_see 9 = .ok (.ifCond .eq 5, 3) := by decide +kernel
theorem dX7_see_12 : decode cX7_see 12 = .ok (.iconst (-1), 1) := by decide +kernel
theorem dX7_see_13 : decode cX7_see 13 = .ok (.ireturn, 1) := by decide +kernel
theorem dX7_see_14 : decode cX7_see 14 = .ok (.iload_n 1, 1) := by decide +kernel
theorem dX7_see_15 : decode cX7_see 15 = .ok (.i2l, 1) := by decide +kernel
theorem dX7_see_16 : decode cX7_see 16 = .ok (.lconst 0, 1) := by decide +kernel
theorem dX7_see_17 : decode cX7_see 17 = .ok (.ldc2_w 189, 3) := by decide +kernel
theorem dX7_see_20 : decode cX7_see 20 = .ok (.invokestatic 55, 3) := by decide +kernel
theorem dX7_see_23 : decode cX7_see 23 = .ok (.ifCond .eq 15, 3) := by decide +kernel
theorem dX7_see_26 : decode cX7_see 26 = .ok (.iload_n 3, 1) := by decide +kernel
theorem dX7_see_27 : decode cX7_see 27 = .ok (.i2l, 1) := by decide +kernel
theorem dX7_see_28 : decode cX7_see 28 = .ok (.lconst 0, 1) := by decide +kernel
theorem dX7_see_29 : decode cX7_see 29 = .ok (.ldc2_w 173, 3) := by decide +kernel
theorem dX7_see_32 : decode cX7_see 32 = .ok (.invokestatic 55, 3) := by decide +kernel
theorem dX7_see_35 : decode cX7_see 35 = .ok (.ifCond .ne 6, 3) := by decide +kernel
theorem dX7_see_38 : decode cX7_see 38 = .ok (.bipush (-2), 2) := by decide +kernel
theorem dX7_see_40 : decode cX7_see 40 = .ok (.ireturn, 1) := by decide +kernel
theorem dX7_see_41 : decode cX7_see 41 = .ok (.aload_n 0, 1) := by decide +kernel
theorem dX7_see_42 : decode cX7_see 42 = .ok (.getfield 203, 3) := by decide +kernel
theorem dX7_see_45 : decode cX7_see 45 = .ok (.bipush 6, 2) := by decide +kernel
theorem dX7_see_47 : decode cX7_see 47 = .ok (.if_icmp .ne 6, 3) := by decide +kernel
theorem dX7_see_50 : decode cX7_see 50 = .ok (.bipush (-4), 2) := by decide +kernel
theorem dX7_see_52 : decode cX7_see 52 = .ok (.ireturn, 1) := by decide +kernel
theorem dX7_see_53 : decode cX7_see 53 = .ok (.aload_n 0, 1) := by decide +kernel
theorem dX7_see_54 : decode cX7_see 54 = .ok (.getfield 35, 3) := by decide +kernel
theorem dX7_see_57 : decode cX7_see 57 = .ok (.aload_n 0, 1) := by decide +kernel
theorem dX7_see_58 : decode cX7_see 58 = .ok (.getfield 203, 3) := by decide +kernel
theorem dX7_see_61 : decode cX7_see 61 = .ok (.iload_n 1, 1) := by decide +kernel
theorem dX7_see_62 : decode cX7_see 62 = .ok (.iastore, 1) := by decide +kernel
theorem dX7_see_63 : decode cX7_see 63 = .ok (.aload_n 0, 1) := by decide +kernel
theorem dX7_see_64 : decode cX7_see 64 = .ok (.getfield 38, 3) := by decide +kernel
theorem dX7_see_67 : decode cX7_see 67 = .ok (.aload_n 0, 1) := by decide +kernel
theorem dX7_see_68 : decode cX7_see 68 = .ok (.getfield 203, 3) := by decide +kernel
theorem dX7_see_71 : decode cX7_see 71 = .ok (.iload_n 2, 1) := by decide +kernel
theorem dX7_see_72 : decode cX7_see 72 = .ok (.iastore, 1) := by decide +kernel
theorem dX7_see_73 : decode cX7_see 73 = .ok (.aload_n 0, 1) := by decide +kernel
theorem dX7_see_74 : decode cX7_see 74 = .ok (.getfield 41, 3) := by decide +kernel
theorem dX7_see_77 : decode cX7_see 77 = .ok (.aload_n 0, 1) := by decide +kernel
theorem dX7_see_78 : decode cX7_see 78 = .ok (.getfield 203, 3) := by decide +kernel
theorem dX7_see_81 : decode cX7_see 81 = .ok (.iload_n 3, 1) := by decide +kernel
theorem dX7_see_82 : decode cX7_see 82 = .ok (.iastore, 1) := by decide +kernel
theorem dX7_see_83 : decode cX7_see 83 = .ok (.aload_n 0, 1) := by decide +kernel
theorem dX7_see_84 : decode cX7_see 84 = .ok (.dup, 1) := by decide +kernel
theorem dX7_see_85 : decode cX7_see 85 = .ok (.getfield 203, 3) := by decide +kernel
theorem dX7_see_88 : decode cX7_see 88 = .ok (.iconst 1, 1) := by decide +kernel
theorem dX7_see_89 : decode cX7_see 89 = .ok (.iadd, 1) := by decide +kernel
theorem dX7_see_90 : decode cX7_see 90 = .ok (.putfield 203, 3) := by decide +kernel
theorem dX7_see_93 : decode cX7_see 93 = .ok (.aload_n 0, 1) := by decide +kernel
theorem dX7_see_94 : decode cX7_see 94 = .ok (.getfield 203, 3) := by decide +kernel
theorem dX7_see_97 : decode cX7_see 97 = .ok (.ireturn, 1) := by decide +kernel
theorem dX7_unsee_0 : decode cX7_unsee 0 = .ok (.aload_n 0, 1) := by decide +kernel
theorem dX7_unsee_1 : decode cX7_unsee 1 = .ok (.iconst 0, 1) := by decide +kernel
theorem dX7_unsee_2 : decode cX7_unsee 2 = .ok (.putfield 52, 3) := by decide +kernel
theorem dX7_unsee_5 : decode cX7_unsee 5 = .ok (.aload_n 0, 1) := by decide +kernel
theorem dX7_unsee_6 : decode cX7_unsee 6 = .ok (.getfield 203, 3) := by decide +kernel
theorem dX7_unsee_9 : decode cX7_unsee 9 = .ok (.istore_n 1, 1) := by decide +kernel
theorem dX7_unsee_10 : decode cX7_unsee 10 = .ok (.aload_n 0, 1) := by decide +kernel
theorem dX7_unsee_11 : decode cX7_unsee 11 = .ok (.iconst 0, 1) := by decide +kernel
theorem dX7_unsee_12 : decode cX7_unsee 12 = .ok (.putfield 203, 3) := by decide +kernel
theorem dX7_unsee_15 : decode cX7_unsee 15 = .ok (.iload_n 1, 1) := by decide +kernel
theorem dX7_unsee_16 : decode cX7_unsee 16 = .ok (.ireturn, 1) := by decide +kernel
theorem dX7_isSeen_0 : decode cX7_isSeen 0 = .ok (.aload_n 0, 1) := by decide +kernel
theorem dX7_isSeen_1 : decode cX7_isSeen 1 = .ok (.invokevirtual 141, 3) := by decide +kernel
theorem dX7_isSeen_4 : decode cX7_isSeen 4 = .ok (.aload_n 0, 1) := by decide +kernel
theorem dX7_isSeen_5 : decode cX7_isSeen 5 = .ok (.getfield 22, 3) := by decide +kernel
theorem dX7_isSeen_8 : decode cX7_isSeen 8 = .ok (.iconst 1, 1) := by decide +kernel
theorem dX7_isSeen_9 : decode cX7_isSeen 9 = .ok (.iload_n 1, 1) := by decide +kernel
theorem dX7_isSeen_10 : decode cX7_isSeen 10 = .ok (.iastore, 1) := by decide +kernel
theorem dX7_isSeen_11 : decode cX7_isSeen 11 = .ok (.aload_n 0, 1) := by decide +kernel
theorem dX7_isSeen_12 : decode cX7_isSeen 12 = .ok (.getfield 22, 3) := by decide +kernel
theorem dX7_isSeen_15 : decode cX7_isSeen 15 = .ok (.iconst 4, 1) := by decide +kernel
theorem dX7_isSeen_16 : decode cX7_isSeen 16 = .ok (.iload_n 1, 1) := by decide +kernel
theorem dX7_isSeen_17 : decode cX7_isSeen 17 = .ok (.iastore, 1) := by decide +kernel
theorem dX7_isSeen_18 : decode cX7_isSeen 18 = .ok (.aload_n 0, 1) := by decide +kernel
theorem dX7_isSeen_19 : decode cX7_isSeen 19 = .ok (.aload_n 0, 1) := by decide +kernel
theorem dX7_isSeen_20 : decode cX7_isSeen 20 = .ok (.getfield 22, 3) := by decide +kernel
theorem dX7_isSeen_23 : decode cX7_isSeen 23 = .ok (.aload_n 0, 1) := by decide +kernel
theorem dX7_isSeen_24 : decode cX7_isSeen 24 = .ok (.getfield 35, 3) := by decide +kernel
theorem dX7_isSeen_27 : decode cX7_isSeen 27 = .ok (.iload_n 2, 1) := by decide +kernel
theorem dX7_isSeen_28 : decode cX7_isSeen 28 = .ok (.iaload, 1) := by decide +kernel
theorem dX7_isSeen_29 : decode cX7_isSeen 29 = .ok (.invokevirtual 144, 3) := by decide +kernel
theorem dX7_isSeen_32 : decode cX7_isSeen 32 = .ok (.aload_n 0, 1) := by decide +kernel
theorem dX7_isSeen_33 : decode cX7_isSeen 33 = .ok (.getfield 22, 3) := by decide +kernel
theorem dX7_isSeen_36 : decode cX7_isSeen 36 = .ok (.bipush 16, 2) := by decide +kernel
theorem dX7_isSeen_38 : decode cX7_isSeen 38 = .ok (.aload_n 0, 1) := by decide +kernel
theorem dX7_isSeen_39 : decode cX7_isSeen 39 = .ok (.getfield 38, 3) := by decide +kernel
theorem dX7_isSeen_42 : decode cX7_isSeen 42 = .ok (.iload_n 2, 1) := by decide +kernel
theorem dX7_isSeen_43 : decode cX7_isSeen 43 = .ok (.iaload, 1) := by decide +kernel
theorem dX7_isSeen_44 : decode cX7_isSeen 44 = .ok (.imul, 1) := by decide +kernel
theorem dX7_isSeen_45 : decode cX7_isSeen 45 = .ok (.iconst 5, 1) := by decide +kernel
theorem dX7_isSeen_46 : decode cX7_isSeen 46 = .ok (.iadd, 1) := by decide +kernel
theorem dX7_isSeen_47 : decode cX7_isSeen 47 = .ok (.iaload, 1) := by decide +kernel
theorem dX7_isSeen_48 : decode cX7_isSeen 48 = .ok (.aload_n 0, 1) := by decide +kernel
theorem dX7_isSeen_49 : decode cX7_isSeen 49 = .ok (.getfield 41, 3) := by decide +kernel
theorem dX7_isSeen_52 : decode cX7_isSeen 52 = .ok (.iload_n 2, 1) := by decide +kernel
theorem dX7_isSeen_53 : decode cX7_isSeen 53 = .ok (.iaload, 1) := by decide +kernel
theorem dX7_isSeen_54 : decode cX7_isSeen 54 = .ok (.if_icmp .ne 7, 3) := by decide +kernel
theorem dX7_isSeen_57 : decode cX7_isSeen 57 = .ok (.iconst 1, 1) := by decide +kernel
theorem dX7_isSeen_58 : decode cX7_isSeen 58 = .ok (.goto 4, 3) := by decide +kernel
theorem dX7_isSeen_61 : decode cX7_isSeen 61 = .ok (.iconst 0, 1) := by decide +kernel
theorem dX7_isSeen_62 : decode cX7_isSeen 62 = .ok (.ireturn, 1) := by decide +kernel
theorem dX7_which_0 : decode cX7_which 0 = .ok (.aload_n 0, 1) := by decide +kernel
theorem dX7_which_1 : decode cX7_which 1 = .ok (.iconst 0, 1) := by decide +kernel
theorem dX7_which_2 : decode cX7_which 2 = .ok (.putfield 52, 3) := by decide +kernel
theorem dX7_which_5 : decode cX7_which 5 = .ok (.iconst 0, 1) := by decide +kernel
theorem dX7_which_6 : decode cX7_which 6 = .ok (.istore_n 1, 1) := by decide +kernel
theorem dX7_which_7 : decode cX7_which 7 = .ok (.iconst 1, 1) := by decide +kernel
theorem dX7_which_8 : decode cX7_which 8 = .ok (.istore_n 2, 1) := by decide +kernel
theorem dX7_which_9 : decode cX7_which 9 = .ok (.iload_n 2, 1) := by decide +kernel
theorem dX7_which_10 : decode cX7_which 10 = .ok (.bipush 10, 2) := by decide +kernel
theorem dX7_which_12 : decode cX7_which 12 = .ok (.if_icmp .ge 55, 3) := by decide +kernel
theorem dX7_which_15 : decode cX7_which 15 = .ok (.iconst 1, 1) := by decide +kernel
theorem dX7_which_16 : decode cX7_which 16 = .ok (.istore_n 3, 1) := by decide +kernel
theorem dX7_which_17 : decode cX7_which 17 = .ok (.iconst 0, 1) := by decide +kernel
theorem dX7_which_18 : decode cX7_which 18 = .ok (.istore 4, 2) := by decide +kernel
theorem dX7_which_20 : decode cX7_which 20 = .ok (.iload 4, 2) := by decide +kernel
theorem dX7_which_22 : decode cX7_which 22 = .ok (.aload_n 0, 1) := by decide +kernel
theorem dX7_which_23 : decode cX7_which 23 = .ok (.getfield 203, 3) := by decide +kernel
theorem dX7_which_26 : decode cX7_which 26 = .ok (.if_icmp .ge 21, 3) := by decide +kernel
theorem dX7_which_29 : decode cX7_which 29 = .ok (.iload_n 3, 1) := by decide +kernel
theorem dX7_which_30 : decode cX7_which 30 = .ok (.ifCond .eq 17, 3) := by decide +kernel
theorem dX7_which_33 : decode cX7_which 33 = .ok (.aload_n 0, 1) := by decide +kernel
theorem dX7_which_34 : decode cX7_which 34 = .ok (.iload_n 2, 1) := by decide +kernel
theorem dX7_which_35 : decode cX7_which 35 = .ok (.iload 4, 2) := by decide +kernel
theorem dX7_which_37 : decode cX7_which 37 = .ok (.invokevirtual 206, 3) := by decide +kernel
theorem dX7_which_40 : decode cX7_which 40 = .ok (.istore_n 3, 1) := by decide +kernel
theorem dX7_which_41 : decode cX7_which 41 = .ok (.iinc 4 1, 3) := by decide +kernel
theorem dX7_which_44 : decode cX7_which 44 = .ok (.goto (-24), 3) := by decide +kernel
theorem dX7_which_47 : decode cX7_which 47 = .ok (.iload_n 1, 1) := by decide +kernel
theorem dX7_which_48 : decode cX7_which 48 = .ok (.iload_n 3, 1) := by decide +kernel
theorem dX7_which_49 : decode cX7_which 49 = .ok (.ifCond .eq 9, 3) := by decide +kernel
theorem dX7_which_52 : decode cX7_which 52 = .ok (.iconst 1, 1) := by decide +kernel
theorem dX7_which_53 : decode cX7_which 53 = .ok (.iload_n 2, 1) := by decide +kernel
theorem dX7_which_54 : decode cX7_which 54 = .ok (.ishl, 1) := by decide +kernel
theorem dX7_which_55 : decode cX7_which 55 = .ok (.goto 4, 3) := by decide +kernel
theorem dX7_which_58 : decode cX7_which 58 = .ok (.iconst 0, 1) := by decide +kernel
theorem dX7_which_59 : decode cX7_which 59 = .ok (.ior, 1) := by decide +kernel
theorem dX7_which_60 : decode cX7_which 60 = .ok (.istore_n 1, 1) := by decide +kernel
theorem dX7_which_61 : decode cX7_which 61 = .ok (.iinc 2 1, 3) := by decide +kernel
theorem dX7_which_64 : decode cX7_which 64 = .ok (.goto (-55), 3) := by decide +kernel
theorem dX7_which_67 : decode cX7_which 67 = .ok (.iload_n 1, 1) := by decide +kernel
theorem dX7_which_68 : decode cX7_which 68 = .ok (.ireturn, 1) := by decide +kernel
theorem dX7_divisor_0 : decode cX7_divisor 0 = .ok (.iload_n 0, 1) := by decide +kernel
theorem dX7_divisor_1 : decode cX7_divisor 1 = .ok (.ifCond .ge 8, 3) := by decide +kernel
theorem dX7_divisor_4 : decode cX7_divisor 4 = .ok (.iload_n 0, 1) := by decide +kernel
theorem dX7_divisor_5 : decode cX7_divisor 5 = .ok (.ineg, 1) := by decide +kernel
theorem dX7_divisor_6 : decode cX7_divisor 6 = .ok (.goto 4, 3) := by decide +kernel
theorem dX7_divisor_9 : decode cX7_divisor 9 = .ok (.iload_n 0, 1) := by decide +kernel
theorem dX7_divisor_10 : decode cX7_divisor 10 = .ok (.istore_n 2, 1) := by decide +kernel
theorem dX7_divisor_11 : decode cX7_divisor 11 = .ok (.iload_n 1, 1) := by decide +kernel
theorem dX7_divisor_12 : decode cX7_divisor 12 = .ok (.istore_n 3, 1) := by decide +kernel
theorem dX7_divisor_13 : decode cX7_divisor 13 = .ok (.iload_n 3, 1) := by decide +kernel
theorem dX7_divisor_14 : decode cX7_divisor 14 = .ok (.ifCond .eq 16, 3) := by decide +kernel
theorem dX7_divisor_17 : decode cX7_divisor 17 = .ok (.iload_n 2, 1) := by decide +kernel
theorem dX7_divisor_18 : decode cX7_divisor 18 = .ok (.iload_n 3, 1) := by decide +kernel
theorem dX7_divisor_19 : decode cX7_divisor 19 = .ok (.irem, 1) := by decide +kernel
theorem dX7_divisor_20 : decode cX7_divisor 20 = .ok (.istore 4, 2) := by decide +kernel
theorem dX7_divisor_22 : decode cX7_divisor 22 = .ok (.iload_n 3, 1) := by decide +kernel
theorem dX7_divisor_23 : decode cX7_divisor 23 = .ok (.istore_n 2, 1) := by decide +kernel
theorem dX7_divisor_24 : decode cX7_divisor 24 = .ok (.iload 4, 2) := by decide +kernel
theorem dX7_divisor_26 : decode cX7_divisor 26 = .ok (.istore_n 3, 1) := by decide +kernel
theorem dX7_divisor_27 : decode cX7_divisor 27 = .ok (.goto (-14), 3) := by decide +kernel
theorem dX7_divisor_30 : decode cX7_divisor 30 = .ok (.iload_n 2, 1) := by decide +kernel
theorem dX7_divisor_31 : decode cX7_divisor 31 = .ok (.ireturn, 1) := by decide +kernel
theorem dX7_fraction_0 : decode cX7_fraction 0 = .ok (.iload_n 0, 1) := by decide +kernel
theorem dX7_fraction_1 : decode cX7_fraction 1 = .ok (.iload_n 1, 1) := by decide +kernel
theorem dX7_fraction_2 : decode cX7_fraction 2 = .ok (.invokestatic 209, 3) := by decide +kernel
theorem dX7_fraction_5 : decode cX7_fraction 5 = .ok (.istore_n 3, 1) := by decide +kernel
theorem dX7_fraction_6 : decode cX7_fraction 6 = .ok (.iload_n 2, 1) := by decide +kernel
theorem dX7_fraction_7 : decode cX7_fraction 7 = .ok (.ifCond .eq 9, 3) := by decide +kernel
theorem dX7_fraction_10 : decode cX7_fraction 10 = .ok (.iload_n 0, 1) := by decide +kernel
theorem dX7_fraction_11 : decode cX7_fraction 11 = .ok (.iload_n 3, 1) := by decide +kernel
theorem dX7_fraction_12 : decode cX7_fraction 12 = .ok (.idiv, 1) := by decide +kernel
theorem dX7_fraction_13 : decode cX7_fraction 13 = .ok (.goto 6, 3) := by decide +kernel
theorem dX7_fraction_16 : decode cX7_fraction 16 = .ok (.iload_n 1, 1) := by decide +kernel
theorem dX7_fraction_17 : decode cX7_fraction 17 = .ok (.iload_n 3, 1) := by decide +kernel
theorem dX7_fraction_18 : decode cX7_fraction 18 = .ok (.idiv, 1) := by decide +kernel
theorem dX7_fraction_19 : decode cX7_fraction 19 = .ok (.ireturn, 1) := by decide +kernel
theorem dX7_factorial_0 : decode cX7_factorial 0 = .ok (.iconst 1, 1) := by decide +kernel
theorem dX7_factorial_1 : decode cX7_factorial 1 = .ok (.istore_n 1, 1) := by decide +kernel
theorem dX7_factorial_2 : decode cX7_factorial 2 = .ok (.iconst 2, 1) := by decide +kernel
theorem dX7_factorial_3 : decode cX7_factorial 3 = .ok (.istore_n 2, 1) := by decide +kernel
theorem dX7_factorial_4 : decode cX7_factorial 4 = .ok (.iload_n 2, 1) := by decide +kernel
theorem dX7_factorial_5 : decode cX7_factorial 5 = .ok (.iload_n 0, 1) := by decide +kernel
theorem dX7_factorial_6 : decode cX7_factorial 6 = .ok (.if_icmp .gt 13, 3) := by decide +kernel
theorem dX7_factorial_9 : decode cX7_factorial 9 = .ok (.iload_n 1, 1) := by decide +kernel
theorem dX7_factorial_10 : decode cX7_factorial 10 = .ok (.iload_n 2, 1) := by decide +kernel
theorem dX7_factorial_11 : decode cX7_factorial 11 = .ok (.imul, 1) := by decide +kernel
theorem dX7_factorial_12 : decode cX7_factorial 12 = .ok (.istore_n 1, 1) := by decide +kernel
theorem dX7_factorial_13 : decode cX7_factorial 13 = .ok (.iinc 2 1, 3) := by decide +kernel
theorem dX7_factorial_16 : decode cX7_factorial 16 = .ok (.goto (-12), 3) := by decide +kernel
theorem dX7_factorial_19 : decode cX7_factorial 19 = .ok (.iload_n 1, 1) := by decide +kernel
theorem dX7_factorial_20 : decode cX7_factorial 20 = .ok (.ireturn, 1) := by decide +kernel
theorem dX7_sentBy_0 : decode cX7_sentBy 0 = .ok (.aload_n 0, 1) := by decide +kernel
theorem dX7_sentBy_1 : decode cX7_sentBy 1 = .ok (.invokevirtual 141, 3) := by decide +kernel
theorem dX7_sentBy_4 : decode cX7_sentBy 4 = .ok (.iconst 0, 1) := by decide +kernel
theorem dX7_sentBy_5 : decode cX7_sentBy 5 = .ok (.istore_n 2, 1) := by decide +kernel
theorem dX7_sentBy_6 : decode cX7_sentBy 6 = .ok (.iload_n 2, 1) := by decide +kernel
theorem dX7_sentBy_7 : decode cX7_sentBy 7 = .ok (.iconst 4, 1) := by decide +kernel
theorem dX7_sentBy_8 : decode cX7_sentBy 8 = .ok (.if_icmp .ge 72, 3) := by decide +kernel
theorem dX7_sentBy_11 : decode cX7_sentBy 11 = .ok (.bipush 16, 2) := by decide +kernel
theorem dX7_sentBy_13 : decode cX7_sentBy 13 = .ok (.iload_n 2, 1) := by decide +kernel
theorem dX7_sentBy_14 : decode cX7_sentBy 14 = .ok (.iconst 2, 1) := by decide +kernel
theorem dX7_sentBy_15 : decode cX7_sentBy 15 = .ok (.idiv, 1) := by decide +kernel
theorem dX7_sentBy_16 : decode cX7_sentBy 16 = .ok (.imul, 1) := by decide +kernel
theorem dX7_sentBy_17 : decode cX7_sentBy 17 = .ok (.iload_n 2, 1) := by decide +kernel
theorem dX7_sentBy_18 : decode cX7_sentBy 18 = .ok (.iconst 2, 1) := by decide +kernel
theorem dX7_sentBy_19 : decode cX7_sentBy 19 = .ok (.irem, 1) := by decide +kernel
theorem dX7_sentBy_20 : decode cX7_sentBy 20 = .ok (.iadd, 1) := by decide +kernel
theorem dX7_sentBy_21 : decode cX7_sentBy 21 = .ok (.istore_n 3, 1) := by decide +kernel
theorem dX7_sentBy_22 : decode cX7_sentBy 22 = .ok (.aload_n 0, 1) := by decide +kernel
theorem dX7_sentBy_23 : decode cX7_sentBy 23 = .ok (.getfield 22, 3) := by decide +kernel
theorem dX7_sentBy_26 : decode cX7_sentBy 26 = .ok (.iload_n 3, 1) := by decide +kernel
theorem dX7_sentBy_27 : decode cX7_sentBy 27 = .ok (.iload_n 1, 1) := by decide +kernel
theorem dX7_sentBy_28 : decode cX7_sentBy 28 = .ok (.iload_n 2, 1) := by decide +kernel
theorem dX7_sentBy_29 : decode cX7_sentBy 29 = .ok (.invokestatic 87, 3) := by decide +kernel
theorem dX7_sentBy_32 : decode cX7_sentBy 32 = .ok (.ifCond .eq 12, 3) := by decide +kernel
theorem dX7_sentBy_35 : decode cX7_sentBy 35 = .ok (.aload_n 0, 1) := by decide +kernel
theorem dX7_sentBy_36 : decode cX7_sentBy 36 = .ok (.getfield 22, 3) := by decide +kernel
theorem dX7_sentBy_39 : decode cX7_sentBy 39 = .ok (.iload_n 3, 1) := by decide +kernel
theorem dX7_sentBy_40 : decode cX7_sentBy 40 = .ok (.iaload, 1) := by decide +kernel
theorem dX7_sentBy_41 : decode cX7_sentBy 41 = .ok (.goto 4, 3) := by decide +kernel
theorem dX7_sentBy_44 : decode cX7_sentBy 44 = .ok (.iconst 1, 1) := by decide +kernel
theorem dX7_sentBy_45 : decode cX7_sentBy 45 = .ok (.iastore, 1) := by decide +kernel
theorem dX7_sentBy_46 : decode cX7_sentBy 46 = .ok (.aload_n 0, 1) := by decide +kernel
theorem dX7_sentBy_47 : decode cX7_sentBy 47 = .ok (.getfield 22, 3) := by decide +kernel
theorem dX7_sentBy_50 : decode cX7_sentBy 50 = .ok (.iload_n 3, 1) := by decide +kernel
theorem dX7_sentBy_51 : decode cX7_sentBy 51 = .ok (.iconst 3, 1) := by decide +kernel
theorem dX7_sentBy_52 : decode cX7_sentBy 52 = .ok (.iadd, 1) := by decide +kernel
theorem dX7_sentBy_53 : decode cX7_sentBy 53 = .ok (.iload_n 1, 1) := by decide +kernel
theorem dX7_sentBy_54 : decode cX7_sentBy 54 = .ok (.iload_n 2, 1) := by decide +kernel
theorem dX7_sentBy_55 : decode cX7_sentBy 55 = .ok (.invokestatic 87, 3) := by decide +kernel
theorem dX7_sentBy_58 : decode cX7_sentBy 58 = .ok (.ifCond .eq 14, 3) := by decide +kernel
theorem dX7_sentBy_61 : decode cX7_sentBy 61 = .ok (.aload_n 0, 1) := by decide +kernel
theorem dX7_sentBy_62 : decode cX7_sentBy 62 = .ok (.getfield 22, 3) := by decide +kernel
theorem dX7_sentBy_65 : decode cX7_sentBy 65 = .ok (.iload_n 3, 1) := by decide +kernel
theorem dX7_sentBy_66 : decode cX7_sentBy 66 = .ok (.iconst 3, 1) := by decide +kernel
theorem dX7_sentBy_67 : decode cX7_sentBy 67 = .ok (.iadd, 1) := by decide +kernel
theorem dX7_sentBy_68 : decode cX7_sentBy 68 = .ok (.iaload, 1) := by decide +kernel
theorem dX7_sentBy_69 : decode cX7_sentBy 69 = .ok (.goto 4, 3) := by decide +kernel
theorem dX7_sentBy_72 : decode cX7_sentBy 72 = .ok (.iconst 1, 1) := by decide +kernel
theorem dX7_sentBy_73 : decode cX7_sentBy 73 = .ok (.iastore, 1) := by decide +kernel
theorem dX7_sentBy_74 : decode cX7_sentBy 74 = .ok (.iinc 2 1, 3) := by decide +kernel
theorem dX7_sentBy_77 : decode cX7_sentBy 77 = .ok (.goto (-71), 3) := by decide +kernel
theorem dX7_sentBy_80 : decode cX7_sentBy 80 = .ok (.aload_n 0, 1) := by decide +kernel
theorem dX7_sentBy_81 : decode cX7_sentBy 81 = .ok (.aload_n 0, 1) := by decide +kernel
theorem dX7_sentBy_82 : decode cX7_sentBy 82 = .ok (.getfield 22, 3) := by decide +kernel
theorem dX7_sentBy_85 : decode cX7_sentBy 85 = .ok (.bipush 60, 2) := by decide +kernel
theorem dX7_sentBy_87 : decode cX7_sentBy 87 = .ok (.invokevirtual 144, 3) := by decide +kernel
theorem dX7_sentBy_90 : decode cX7_sentBy 90 = .ok (.aload_n 0, 1) := by decide +kernel
theorem dX7_sentBy_91 : decode cX7_sentBy 91 = .ok (.getfield 22, 3) := by decide +kernel
theorem dX7_sentBy_94 : decode cX7_sentBy 94 = .ok (.bipush 53, 2) := by decide +kernel
theorem dX7_sentBy_96 : decode cX7_sentBy 96 = .ok (.iaload, 1) := by decide +kernel
theorem dX7_sentBy_97 : decode cX7_sentBy 97 = .ok (.ireturn, 1) := by decide +kernel
theorem dX7_share_0 : decode cX7_share 0 = .ok (.aload_n 0, 1) := by decide +kernel
theorem dX7_share_1 : decode cX7_share 1 = .ok (.iconst 0, 1) := by decide +kernel
theorem dX7_share_2 : decode cX7_share 2 = .ok (.putfield 52, 3) := by decide +kernel
theorem dX7_share_5 : decode cX7_share 5 = .ok (.iload_n 1, 1) := by decide +kernel
theorem dX7_share_6 : decode cX7_share 6 = .ok (.i2l, 1) := by decide +kernel
theorem dX7_share_7 : decode cX7_share 7 = .ok (.lconst 0, 1) := by decide +kernel
theorem dX7_share_8 : decode cX7_share 8 = .ok (.ldc2_w 191, 3) := by decide +kernel
theorem dX7_share_11 : decode cX7_share 11 = .ok (.invokestatic 55, 3) := by decide +kernel
theorem dX7_share_14 : decode cX7_share 14 = .ok (.ifCond .ne 5, 3) := by decide +kernel
theorem dX7_share_17 : decode cX7_share 17 = .ok (.iconst (-1), 1) := by decide +kernel
theorem dX7_share_18 : decode cX7_share 18 = .ok (.ireturn, 1) := by decide +kernel
theorem dX7_share_19 : decode cX7_share 19 = .ok (.iconst 0, 1) := by decide +kernel
theorem dX7_share_20 : decode cX7_share 20 = .ok (.istore_n 3, 1) := by decide +kernel
theorem dX7_share_21 : decode cX7_share 21 = .ok (.iconst 0, 1) := by decide +kernel
theorem dX7_share_22 : decode cX7_share 22 = .ok (.istore 4, 2) := by decide +kernel
theorem dX7_share_24 : decode cX7_share 24 = .ok (.iload 4, 2) := by decide +kernel
theorem dX7_share_26 : decode cX7_share 26 = .ok (.bipush 16, 2) := by decide +kernel
theorem dX7_share_28 : decode cX7_share 28 = .ok (.if_icmp .ge 59, 3) := by decide +kernel
theorem dX7_share_31 : decode cX7_share 31 = .ok (.iload 4, 2) := by decide +kernel
theorem dX7_share_33 : decode cX7_share 33 = .ok (.iload_n 1, 1) := by decide +kernel
theorem dX7_share_34 : decode cX7_share 34 = .ok (.invokestatic 87, 3) := by decide +kernel
theorem dX7_share_37 : decode cX7_share 37 = .ok (.ifCond .ne 44, 3) := by decide +kernel
theorem dX7_share_40 : decode cX7_share 40 = .ok (.iload 4, 2) := by decide +kernel
theorem dX7_share_42 : decode cX7_share 42 = .ok (.invokestatic 212, 3) := by decide +kernel
theorem dX7_share_45 : decode cX7_share 45 = .ok (.istore 5, 2) := by decide +kernel
theorem dX7_share_47 : decode cX7_share 47 = .ok (.iload_n 3, 1) := by decide +kernel
theorem dX7_share_48 : decode cX7_share 48 = .ok (.iload 5, 2) := by decide +kernel
theorem dX7_share_50 : decode cX7_share 50 = .ok (.invokestatic 215, 3) := by decide +kernel
theorem dX7_share_53 : decode cX7_share 53 = .ok (.iconst 3, 1) := by decide +kernel
theorem dX7_share_54 : decode cX7_share 54 = .ok (.iload 5, 2) := by decide +kernel
theorem dX7_share_56 : decode cX7_share 56 = .ok (.isub, 1) := by decide +kernel
theorem dX7_share_57 : decode cX7_share 57 = .ok (.invokestatic 215, 3) := by decide +kernel
theorem dX7_share_60 : decode cX7_share 60 = .ok (.imul, 1) := by decide +kernel
theorem dX7_share_61 : decode cX7_share 61 = .ok (.aload_n 0, 1) := by decide +kernel
theorem dX7_share_62 : decode cX7_share 62 = .ok (.iload 4, 2) := by decide +kernel
theorem dX7_share_64 : decode cX7_share 64 = .ok (.invokevirtual 218, 3) := by decide +kernel
theorem dX7_share_67 : decode cX7_share 67 = .ok (.aload_n 0, 1) := by decide +kernel
theorem dX7_share_68 : decode cX7_share 68 = .ok (.iload 4, 2) := by decide +kernel
theorem dX7_share_70 : decode cX7_share 70 = .ok (.iconst 1, 1) := by decide +kernel
theorem dX7_share_71 : decode cX7_share 71 = .ok (.iload_n 1, 1) := by decide +kernel
theorem dX7_share_72 : decode cX7_share 72 = .ok (.ishl, 1) := by decide +kernel
theorem dX7_share_73 : decode cX7_share 73 = .ok (.ior, 1) := by decide +kernel
theorem dX7_share_74 : decode cX7_share 74 = .ok (.invokevirtual 218, 3) := by decide +kernel
theorem dX7_share_77 : decode cX7_share 77 = .ok (.isub, 1) := by decide +kernel
theorem dX7_share_78 : decode cX7_share 78 = .ok (.imul, 1) := by decide +kernel
theorem dX7_share_79 : decode cX7_share 79 = .ok (.iadd, 1) := by decide +kernel
theorem dX7_share_80 : decode cX7_share 80 = .ok (.istore_n 3, 1) := by decide +kernel
theorem dX7_share_81 : decode cX7_share 81 = .ok (.iinc 4 1, 3) := by decide +kernel
theorem dX7_share_84 : decode cX7_share 84 = .ok (.goto (-60), 3) := by decide +kernel
theorem dX7_share_87 : decode cX7_share 87 = .ok (.iload_n 3, 1) := by decide +kernel
theorem dX7_share_88 : decode cX7_share 88 = .ok (.bipush 24, 2) := by decide +kernel
theorem dX7_share_90 : decode cX7_share 90 = .ok (.iload_n 2, 1) := by decide +kernel
theorem dX7_share_91 : decode cX7_share 91 = .ok (.invokestatic 221, 3) := by decide +kernel
theorem dX7_share_94 : decode cX7_share 94 = .ok (.ireturn, 1) := by decide +kernel
theorem dX7_luck_0 : decode cX7_luck 0 = .ok (.aload_n 0, 1) := by decide +kernel
theorem dX7_luck_1 : decode cX7_luck 1 = .ok (.iconst 0, 1) := by decide +kernel
theorem dX7_luck_2 : decode cX7_luck 2 = .ok (.putfield 52, 3) := by decide +kernel
theorem dX7_luck_5 : decode cX7_luck 5 = .ok (.iload_n 1, 1) := by decide +kernel
theorem dX7_luck_6 : decode cX7_luck 6 = .ok (.i2l, 1) := by decide +kernel
theorem dX7_luck_7 : decode cX7_luck 7 = .ok (.lconst 0, 1) := by decide +kernel
theorem dX7_luck_8 : decode cX7_luck 8 = .ok (.ldc2_w 225, 3) := by decide +kernel
theorem dX7_luck_11 : decode cX7_luck 11 = .ok (.invokestatic 55, 3) := by decide +kernel
theorem dX7_luck_14 : decode cX7_luck 14 = .ok (.ifCond .eq 15, 3) := by decide +kernel
theorem dX7_luck_17 : decode cX7_luck 17 = .ok (.iload_n 2, 1) := by decide +kernel
theorem dX7_luck_18 : decode cX7_luck 18 = .ok (.i2l, 1) := by decide +kernel
theorem dX7_luck_19 : decode cX7_luck 19 = .ok (.lconst 0, 1) := by decide +kernel
theorem dX7_luck_20 : decode cX7_luck 20 = .ok (.ldc2_w 227, 3) := by decide +kernel
theorem dX7_luck_23 : decode cX7_luck 23 = .ok (.invokestatic 55, 3) := by decide +kernel
theorem dX7_luck_26 : decode cX7_luck 26 = .ok (.ifCond .ne 6, 3) := by decide +kernel
theorem dX7_luck_29 : decode cX7_luck 29 = .ok (.bipush (-2), 2) := by decide +kernel
theorem dX7_luck_31 : decode cX7_luck 31 = .ok (.ireturn, 1) := by decide +kernel
theorem dX7_luck_32 : decode cX7_luck 32 = .ok (.iconst 0, 1) := by decide +kernel
theorem dX7_luck_33 : decode cX7_luck 33 = .ok (.istore 4, 2) := by decide +kernel
theorem dX7_luck_35 : decode cX7_luck 35 = .ok (.iconst 0, 1) := by decide +kernel
theorem dX7_luck_36 : decode cX7_luck 36 = .ok (.istore 5, 2) := by decide +kernel
theorem dX7_luck_38 : decode cX7_luck 38 = .ok (.iload 5, 2) := by decide +kernel
theorem dX7_luck_40 : decode cX7_luck 40 = .ok (.iconst 1, 1) := by decide +kernel
theorem dX7_luck_41 : decode cX7_luck 41 = .ok (.iload_n 1, 1) := by decide +kernel
theorem dX7_luck_42 : decode cX7_luck 42 = .ok (.ishl, 1) := by decide +kernel
theorem dX7_luck_43 : decode cX7_luck 43 = .ok (.if_icmp .ge 100, 3) := by decide +kernel
theorem dX7_luck_46 : decode cX7_luck 46 = .ok (.aload_n 0, 1) := by decide +kernel
theorem dX7_luck_47 : decode cX7_luck 47 = .ok (.invokevirtual 141, 3) := by decide +kernel
theorem dX7_luck_50 : decode cX7_luck 50 = .ok (.aload_n 0, 1) := by decide +kernel
theorem dX7_luck_51 : decode cX7_luck 51 = .ok (.iload 5, 2) := by decide +kernel
theorem dX7_luck_53 : decode cX7_luck 53 = .ok (.putfield 84, 3) := by decide +kernel
theorem dX7_luck_56 : decode cX7_luck 56 = .ok (.aload_n 0, 1) := by decide +kernel
theorem dX7_luck_57 : decode cX7_luck 57 = .ok (.iconst 0, 1) := by decide +kernel
theorem dX7_luck_58 : decode cX7_luck 58 = .ok (.putfield 81, 3) := by decide +kernel
theorem dX7_luck_61 : decode cX7_luck 61 = .ok (.aload_n 0, 1) := by decide +kernel
theorem dX7_luck_62 : decode cX7_luck 62 = .ok (.aload_n 0, 1) := by decide +kernel
theorem dX7_luck_63 : decode cX7_luck 63 = .ok (.getfield 22, 3) := by decide +kernel
theorem dX7_luck_66 : decode cX7_luck 66 = .ok (.bipush 40, 2) := by decide +kernel
theorem dX7_luck_68 : decode cX7_luck 68 = .ok (.invokevirtual 144, 3) := by decide +kernel
theorem dX7_luck_71 : decode cX7_luck 71 = .ok (.aload_n 0, 1) := by decide +kernel
theorem dX7_luck_72 : decode cX7_luck 72 = .ok (.getfield 22, 3) := by decide +kernel
theorem dX7_luck_75 : decode cX7_luck 75 = .ok (.iconst 5, 1) := by decide +kernel
theorem dX7_luck_76 : decode cX7_luck 76 = .ok (.iaload, 1) := by decide +kernel
theorem dX7_luck_77 : decode cX7_luck 77 = .ok (.iconst 2, 1) := by decide +kernel
theorem dX7_luck_78 : decode cX7_luck 78 = .ok (.if_icmp .ne 18, 3) := by decide +kernel
theorem dX7_luck_81 : decode cX7_luck 81 = .ok (.aload_n 0, 1) := by decide +kernel
theorem dX7_luck_82 : decode cX7_luck 82 = .ok (.getfield 22, 3) := by decide +kernel
theorem dX7_luck_85 : decode cX7_luck 85 = .ok (.bipush 21, 2) := by decide +kernel
theorem dX7_luck_87 : decode cX7_luck 87 = .ok (.iaload, 1) := by decide +kernel
theorem dX7_luck_88 : decode cX7_luck 88 = .ok (.iconst 2, 1) := by decide +kernel
theorem dX7_luck_89 : decode cX7_luck 89 = .ok (.if_icmp .ne 7, 3) := by decide +kernel
theorem dX7_luck_92 : decode cX7_luck 92 = .ok (.iconst 1, 1) := by decide +kernel
theorem dX7_luck_93 : decode cX7_luck 93 = .ok (.goto 4, 3) := by decide +kernel
theorem dX7_luck_96 : decode cX7_luck 96 = .ok (.iconst 0, 1) := by decide +kernel
theorem dX7_luck_97 : decode cX7_luck 97 = .ok (.istore 6, 2) := by decide +kernel
theorem dX7_luck_99 : decode cX7_luck 99 = .ok (.iload 4, 2) := by decide +kernel
theorem dX7_luck_101 : decode cX7_luck 101 = .ok (.iload 6, 2) := by decide +kernel
theorem dX7_luck_103 : decode cX7_luck 103 = .ok (.ifCond .eq 30, 3) := by decide +kernel
theorem dX7_luck_106 : decode cX7_luck 106 = .ok (.iload_n 2, 1) := by decide +kernel
theorem dX7_luck_107 : decode cX7_luck 107 = .ok (.iload 5, 2) := by decide +kernel
theorem dX7_luck_109 : decode cX7_luck 109 = .ok (.invokestatic 212, 3) := by decide +kernel
theorem dX7_luck_112 : decode cX7_luck 112 = .ok (.invokestatic 229, 3) := by decide +kernel
theorem dX7_luck_115 : decode cX7_luck 115 = .ok (.bipush 10, 2) := by decide +kernel
theorem dX7_luck_117 : decode cX7_luck 117 = .ok (.iload_n 2, 1) := by decide +kernel
theorem dX7_luck_118 : decode cX7_luck 118 = .ok (.isub, 1) := by decide +kernel
theorem dX7_luck_119 : decode cX7_luck 119 = .ok (.iload_n 1, 1) := by decide +kernel
theorem dX7_luck_120 : decode cX7_luck 120 = .ok (.iload 5, 2) := by decide +kernel
theorem dX7_luck_122 : decode cX7_luck 122 = .ok (.invokestatic 212, 3) := by decide +kernel
theorem dX7_luck_125 : decode cX7_luck 125 = .ok (.isub, 1) := by decide +kernel
theorem dX7_luck_126 : decode cX7_luck 126 = .ok (.invokestatic 229, 3) := by decide +kernel
theorem dX7_luck_129 : decode cX7_luck 129 = .ok (.imul, 1) := by decide +kernel
theorem dX7_luck_130 : decode cX7_luck 130 = .ok (.goto 4, 3) := by decide +kernel
theorem dX7_luck_133 : decode cX7_luck 133 = .ok (.iconst 0, 1) := by decide +kernel
theorem dX7_luck_134 : decode cX7_luck 134 = .ok (.iadd, 1) := by decide +kernel
theorem dX7_luck_135 : decode cX7_luck 135 = .ok (.istore 4, 2) := by decide +kernel
theorem dX7_luck_137 : decode cX7_luck 137 = .ok (.iinc 5 1, 3) := by decide +kernel
theorem dX7_luck_140 : decode cX7_luck 140 = .ok (.goto (-102), 3) := by decide +kernel
theorem dX7_luck_143 : decode cX7_luck 143 = .ok (.iload 4, 2) := by decide +kernel
theorem dX7_luck_145 : decode cX7_luck 145 = .ok (.bipush 10, 2) := by decide +kernel
theorem dX7_luck_147 : decode cX7_luck 147 = .ok (.iload_n 1, 1) := by decide +kernel
theorem dX7_luck_148 : decode cX7_luck 148 = .ok (.invokestatic 229, 3) := by decide +kernel
theorem dX7_luck_151 : decode cX7_luck 151 = .ok (.iload_n 3, 1) := by decide +kernel
theorem dX7_luck_152 : decode cX7_luck 152 = .ok (.invokestatic 221, 3) := by decide +kernel
theorem dX7_luck_155 : decode cX7_luck 155 = .ok (.ireturn, 1) := by decide +kernel
theorem dX7_seed_0 : decode cX7_seed 0 = .ok (.aload_n 0, 1) := by decide +kernel
theorem dX7_seed_1 : decode cX7_seed 1 = .ok (.iconst 0, 1) := by decide +kernel
theorem dX7_seed_2 : decode cX7_seed 2 = .ok (.putfield 52, 3) := by decide +kernel
theorem dX7_seed_5 : decode cX7_seed 5 = .ok (.aload_n 0, 1) := by decide +kernel
theorem dX7_seed_6 : decode cX7_seed 6 = .ok (.getfield 232, 3) := by decide +kernel
theorem dX7_seed_9 : decode cX7_seed 9 = .ok (.lstore_n 3, 1) := by decide +kernel
theorem dX7_seed_10 : decode cX7_seed 10 = .ok (.aload_n 0, 1) := by decide +kernel
theorem dX7_seed_11 : decode cX7_seed 11 = .ok (.lload_n 1, 1) := by decide +kernel
theorem dX7_seed_12 : decode cX7_seed 12 = .ok (.putfield 232, 3) := by decide +kernel
theorem dX7_seed_15 : decode cX7_seed 15 = .ok (.lload_n 3, 1) := by decide +kernel
theorem dX7_seed_16 : decode cX7_seed 16 = .ok (.lreturn, 1) := by decide +kernel
theorem dX7_drawn_0 : decode cX7_drawn 0 = .ok (.aload_n 0, 1) := by decide +kernel
theorem dX7_drawn_1 : decode cX7_drawn 1 = .ok (.iconst 0, 1) := by decide +kernel
theorem dX7_drawn_2 : decode cX7_drawn 2 = .ok (.putfield 52, 3) := by decide +kernel
theorem dX7_drawn_5 : decode cX7_drawn 5 = .ok (.iload_n 1, 1) := by decide +kernel
theorem dX7_drawn_6 : decode cX7_drawn 6 = .ok (.i2l, 1) := by decide +kernel
theorem dX7_drawn_7 : decode cX7_drawn 7 = .ok (.lconst 1, 1) := by decide +kernel
theorem dX7_drawn_8 : decode cX7_drawn 8 = .ok (.ldc2_w 189, 3) := by decide +kernel
theorem dX7_drawn_11 : decode cX7_drawn 11 = .ok (.invokestatic 55, 3) := by decide +kernel
theorem dX7_drawn_14 : decode cX7_drawn 14 = .ok (.ifCond .ne 6, 3) := by decide +kernel
theorem dX7_drawn_17 : decode cX7_drawn 17 = .ok (.bipush (-2), 2) := by decide +kernel
theorem dX7_drawn_19 : decode cX7_drawn 19 = .ok (.ireturn, 1) := by decide +kernel
theorem dX7_drawn_20 : decode cX7_drawn 20 = .ok (.aload_n 0, 1) := by decide +kernel
theorem dX7_drawn_21 : decode cX7_drawn 21 = .ok (.invokevirtual 141, 3) := by decide +kernel
theorem dX7_drawn_24 : decode cX7_drawn 24 = .ok (.iconst 0, 1) := by decide +kernel
theorem dX7_drawn_25 : decode cX7_drawn 25 = .ok (.istore_n 2, 1) := by decide +kernel
theorem dX7_drawn_26 : decode cX7_drawn 26 = .ok (.iload_n 2, 1) := by decide +kernel
theorem dX7_drawn_27 : decode cX7_drawn 27 = .ok (.iload_n 1, 1) := by decide +kernel
theorem dX7_drawn_28 : decode cX7_drawn 28 = .ok (.if_icmp .ge 71, 3) := by decide +kernel
theorem dX7_drawn_31 : decode cX7_drawn 31 = .ok (.aload_n 0, 1) := by decide +kernel
theorem dX7_drawn_32 : decode cX7_drawn 32 = .ok (.aload_n 0, 1) := by decide +kernel
theorem dX7_drawn_33 : decode cX7_drawn 33 = .ok (.getfield 232, 3) := by decide +kernel
theorem dX7_drawn_36 : decode cX7_drawn 36 = .ok (.ldc2_w 236, 3) := by decide +kernel
theorem dX7_drawn_39 : decode cX7_drawn 39 = .ok (.lmul, 1) := by decide +kernel
theorem dX7_drawn_40 : decode cX7_drawn 40 = .ok (.ldc2_w 238, 3) := by decide +kernel
theorem dX7_drawn_43 : decode cX7_drawn 43 = .ok (.ladd, 1) := by decide +kernel
theorem dX7_drawn_44 : decode cX7_drawn 44 = .ok (.putfield 232, 3) := by decide +kernel
theorem dX7_drawn_47 : decode cX7_drawn 47 = .ok (.aload_n 0, 1) := by decide +kernel
theorem dX7_drawn_48 : decode cX7_drawn 48 = .ok (.getfield 232, 3) := by decide +kernel
theorem dX7_drawn_51 : decode cX7_drawn 51 = .ok (.bipush 33, 2) := by decide +kernel
theorem dX7_drawn_53 : decode cX7_drawn 53 = .ok (.lushr, 1) := by decide +kernel
theorem dX7_drawn_54 : decode cX7_drawn 54 = .ok (.l2i, 1) := by decide +kernel
theorem dX7_drawn_55 : decode cX7_drawn 55 = .ok (.istore_n 3, 1) := by decide +kernel
theorem dX7_drawn_56 : decode cX7_drawn 56 = .ok (.aload_n 0, 1) := by decide +kernel
theorem dX7_drawn_57 : decode cX7_drawn 57 = .ok (.getfield 22, 3) := by decide +kernel
theorem dX7_drawn_60 : decode cX7_drawn 60 = .ok (.bipush 32, 2) := by decide +kernel
theorem dX7_drawn_62 : decode cX7_drawn 62 = .ok (.iload_n 3, 1) := by decide +kernel
theorem dX7_drawn_63 : decode cX7_drawn 63 = .ok (.bipush 16, 2) := by decide +kernel
theorem dX7_drawn_65 : decode cX7_drawn 65 = .ok (.idiv, 1) := by decide +kernel
theorem dX7_drawn_66 : decode cX7_drawn 66 = .ok (.iconst 2, 1) := by decide +kernel
theorem dX7_drawn_67 : decode cX7_drawn 67 = .ok (.irem, 1) := by decide +kernel
theorem dX7_drawn_68 : decode cX7_drawn 68 = .ok (.iadd, 1) := by decide +kernel
theorem dX7_drawn_69 : decode cX7_drawn 69 = .ok (.dup2, 1) := by decide +kernel
theorem dX7_drawn_70 : decode cX7_drawn 70 = .ok (.iaload, 1) := by decide +kernel
theorem dX7_drawn_71 : decode cX7_drawn 71 = .ok (.iload_n 3, 1) := by decide +kernel
theorem dX7_drawn_72 : decode cX7_drawn 72 = .ok (.bipush 16, 2) := by decide +kernel
theorem dX7_drawn_74 : decode cX7_drawn 74 = .ok (.irem, 1) := by decide +kernel
theorem dX7_drawn_75 : decode cX7_drawn 75 = .ok (.ifCond .ne 7, 3) := by decide +kernel
theorem dX7_drawn_78 : decode cX7_drawn 78 = .ok (.iconst 1, 1) := by decide +kernel
theorem dX7_drawn_79 : decode cX7_drawn 79 = .ok (.goto 4, 3) := by decide +kernel
theorem dX7_drawn_82 : decode cX7_drawn 82 = .ok (.iconst 0, 1) := by decide +kernel
theorem dX7_drawn_83 : decode cX7_drawn 83 = .ok (.ixor, 1) := by decide +kernel
theorem dX7_drawn_84 : decode cX7_drawn 84 = .ok (.iastore, 1) := by decide +kernel
theorem dX7_drawn_85 : decode cX7_drawn 85 = .ok (.aload_n 0, 1) := by decide +kernel
theorem dX7_drawn_86 : decode cX7_drawn 86 = .ok (.aload_n 0, 1) := by decide +kernel
theorem dX7_drawn_87 : decode cX7_drawn 87 = .ok (.getfield 22, 3) := by decide +kernel
theorem dX7_drawn_90 : decode cX7_drawn 90 = .ok (.invokevirtual 110, 3) := by decide +kernel
theorem dX7_drawn_93 : decode cX7_drawn 93 = .ok (.iinc 2 1, 3) := by decide +kernel
theorem dX7_drawn_96 : decode cX7_drawn 96 = .ok (.goto (-70), 3) := by decide +kernel
theorem dX7_drawn_99 : decode cX7_drawn 99 = .ok (.aload_n 0, 1) := by decide +kernel
theorem dX7_drawn_100 : decode cX7_drawn 100 = .ok (.getfield 22, 3) := by decide +kernel
theorem dX7_drawn_103 : decode cX7_drawn 103 = .ok (.bipush 54, 2) := by decide +kernel
theorem dX7_drawn_105 : decode cX7_drawn 105 = .ok (.iaload, 1) := by decide +kernel
theorem dX7_drawn_106 : decode cX7_drawn 106 = .ok (.aload_n 0, 1) := by decide +kernel
theorem dX7_drawn_107 : decode cX7_drawn 107 = .ok (.getfield 19, 3) := by decide +kernel
theorem dX7_drawn_110 : decode cX7_drawn 110 = .ok (.bipush 54, 2) := by decide +kernel
theorem dX7_drawn_112 : decode cX7_drawn 112 = .ok (.iaload, 1) := by decide +kernel
theorem dX7_drawn_113 : decode cX7_drawn 113 = .ok (.isub, 1) := by decide +kernel
theorem dX7_drawn_114 : decode cX7_drawn 114 = .ok (.ireturn, 1) := by decide +kernel
theorem dX7_keep_0 : decode cX7_keep 0 = .ok (.aload_n 0, 1) := by decide +kernel
theorem dX7_keep_1 : decode cX7_keep 1 = .ok (.iconst 0, 1) := by decide +kernel
theorem dX7_keep_2 : decode cX7_keep 2 = .ok (.putfield 52, 3) := by decide +kernel
theorem dX7_keep_5 : decode cX7_keep 5 = .ok (.iload_n 1, 1) := by decide +kernel
theorem dX7_keep_6 : decode cX7_keep 6 = .ok (.i2l, 1) := by decide +kernel
theorem dX7_keep_7 : decode cX7_keep 7 = .ok (.lconst 0, 1) := by decide +kernel
theorem dX7_keep_8 : decode cX7_keep 8 = .ok (.lconst 1, 1) := by decide +kernel
theorem dX7_keep_9 : decode cX7_keep 9 = .ok (.invokestatic 55, 3) := by decide +kernel
theorem dX7_keep_12 : decode cX7_keep 12 = .ok (.ifCond .ne 5, 3) := by decide +kernel
theorem dX7_keep_15 : decode cX7_keep 15 = .ok (.iconst (-1), 1) := by decide +kernel
theorem dX7_keep_16 : decode cX7_keep 16 = .ok (.ireturn, 1) := by decide +kernel
theorem dX7_keep_17 : decode cX7_keep 17 = .ok (.aload_n 0, 1) := by decide +kernel
theorem dX7_keep_18 : decode cX7_keep 18 = .ok (.getfield 31, 3) := by decide +kernel
theorem dX7_keep_21 : decode cX7_keep 21 = .ok (.iload_n 1, 1) := by decide +kernel
theorem dX7_keep_22 : decode cX7_keep 22 = .ok (.iconst 1, 1) := by decide +kernel
theorem dX7_keep_23 : decode cX7_keep 23 = .ok (.bastore, 1) := by decide +kernel
theorem dX7_keep_24 : decode cX7_keep 24 = .ok (.iconst 0, 1) := by decide +kernel
theorem dX7_keep_25 : decode cX7_keep 25 = .ok (.istore_n 2, 1) := by decide +kernel
theorem dX7_keep_26 : decode cX7_keep 26 = .ok (.iload_n 2, 1) := by decide +kernel
theorem dX7_keep_27 : decode cX7_keep 27 = .ok (.bipush 55, 2) := by decide +kernel
theorem dX7_keep_29 : decode cX7_keep 29 = .ok (.if_icmp .ge 26, 3) := by decide +kernel
theorem dX7_keep_32 : decode cX7_keep 32 = .ok (.aload_n 0, 1) := by decide +kernel
theorem dX7_keep_33 : decode cX7_keep 33 = .ok (.getfield 28, 3) := by decide +kernel
theorem dX7_keep_36 : decode cX7_keep 36 = .ok (.bipush 55, 2) := by decide +kernel
theorem dX7_keep_38 : decode cX7_keep 38 = .ok (.iload_n 1, 1) := by decide +kernel
theorem dX7_keep_39 : decode cX7_keep 39 = .ok (.imul, 1) := by decide +kernel
theorem dX7_keep_40 : decode cX7_keep 40 = .ok (.iload_n 2, 1) := by decide +kernel
theorem dX7_keep_41 : decode cX7_keep 41 = .ok (.iadd, 1) := by decide +kernel
theorem dX7_keep_42 : decode cX7_keep 42 = .ok (.aload_n 0, 1) := by decide +kernel
theorem dX7_keep_43 : decode cX7_keep 43 = .ok (.getfield 19, 3) := by decide +kernel
theorem dX7_keep_46 : decode cX7_keep 46 = .ok (.iload_n 2, 1) := by decide +kernel
theorem dX7_keep_47 : decode cX7_keep 47 = .ok (.iaload, 1) := by decide +kernel
theorem dX7_keep_48 : decode cX7_keep 48 = .ok (.iastore, 1) := by decide +kernel
theorem dX7_keep_49 : decode cX7_keep 49 = .ok (.iinc 2 1, 3) := by decide +kernel
theorem dX7_keep_52 : decode cX7_keep 52 = .ok (.goto (-26), 3) := by decide +kernel
theorem dX7_keep_55 : decode cX7_keep 55 = .ok (.aload_n 0, 1) := by decide +kernel
theorem dX7_keep_56 : decode cX7_keep 56 = .ok (.getfield 19, 3) := by decide +kernel
theorem dX7_keep_59 : decode cX7_keep 59 = .ok (.bipush 52, 2) := by decide +kernel
theorem dX7_keep_61 : decode cX7_keep 61 = .ok (.iaload, 1) := by decide +kernel
theorem dX7_keep_62 : decode cX7_keep 62 = .ok (.ireturn, 1) := by decide +kernel
theorem dX7_again_0 : decode cX7_again 0 = .ok (.aload_n 0, 1) := by decide +kernel
theorem dX7_again_1 : decode cX7_again 1 = .ok (.iconst 0, 1) := by decide +kernel
theorem dX7_again_2 : decode cX7_again 2 = .ok (.putfield 52, 3) := by decide +kernel
theorem dX7_again_5 : decode cX7_again 5 = .ok (.iload_n 1, 1) := by decide +kernel
theorem dX7_again_6 : decode cX7_again 6 = .ok (.i2l, 1) := by decide +kernel
theorem dX7_again_7 : decode cX7_again 7 = .ok (.lconst 0, 1) := by decide +kernel
theorem dX7_again_8 : decode cX7_again 8 = .ok (.lconst 1, 1) := by decide +kernel
theorem dX7_again_9 : decode cX7_again 9 = .ok (.invokestatic 55, 3) := by decide +kernel
theorem dX7_again_12 : decode cX7_again 12 = .ok (.ifCond .ne 5, 3) := by decide +kernel
theorem dX7_again_15 : decode cX7_again 15 = .ok (.iconst (-1), 1) := by decide +kernel
theorem dX7_again_16 : decode cX7_again 16 = .ok (.ireturn, 1) := by decide +kernel
theorem dX7_again_17 : decode cX7_again 17 = .ok (.aload_n 0, 1) := by decide +kernel
theorem dX7_again_18 : decode cX7_again 18 = .ok (.getfield 31, 3) := by decide +kernel
theorem dX7_again_21 : decode cX7_again 21 = .ok (.iload_n 1, 1) := by decide +kernel
theorem dX7_again_22 : decode cX7_again 22 = .ok (.baload, 1) := by decide +kernel
theorem dX7_again_23 : decode cX7_again 23 = .ok (.ifCond .ne 6, 3) := by decide +kernel
theorem dX7_again_26 : decode cX7_again 26 = .ok (.bipush (-3), 2) := by decide +kernel
theorem dX7_again_28 : decode cX7_again 28 = .ok (.ireturn, 1) := by decide +kernel
theorem dX7_again_29 : decode cX7_again 29 = .ok (.iconst 0, 1) := by decide +kernel
theorem dX7_again_30 : decode cX7_again 30 = .ok (.istore_n 2, 1) := by decide +kernel
theorem dX7_again_31 : decode cX7_again 31 = .ok (.iload_n 2, 1) := by decide +kernel
theorem dX7_again_32 : decode cX7_again 32 = .ok (.bipush 55, 2) := by decide +kernel
theorem dX7_again_34 : decode cX7_again 34 = .ok (.if_icmp .ge 26, 3) := by decide +kernel
theorem dX7_again_37 : decode cX7_again 37 = .ok (.aload_n 0, 1) := by decide +kernel
theorem dX7_again_38 : decode cX7_again 38 = .ok (.getfield 19, 3) := by decide +kernel
theorem dX7_again_41 : decode cX7_again 41 = .ok (.iload_n 2, 1) := by decide +kernel
theorem dX7_again_42 : decode cX7_again 42 = .ok (.aload_n 0, 1) := by decide +kernel
theorem dX7_again_43 : decode cX7_again 43 = .ok (.getfield 28, 3) := by decide +kernel
theorem dX7_again_46 : decode cX7_again 46 = .ok (.bipush 55, 2) := by decide +kernel
theorem dX7_again_48 : decode cX7_again 48 = .ok (.iload_n 1, 1) := by decide +kernel
theorem dX7_again_49 : decode cX7_again 49 = .ok (.imul, 1) := by decide +kernel
theorem dX7_again_50 : decode cX7_again 50 = .ok (.iload_n 2, 1) := by decide +kernel
theorem dX7_again_51 : decode cX7_again 51 = .ok (.iadd, 1) := by decide +kernel
theorem dX7_again_52 : decode cX7_again 52 = .ok (.iaload, 1) := by decide +kernel
theorem dX7_again_53 : decode cX7_again 53 = .ok (.iastore, 1) := by decide +kernel
theorem dX7_again_54 : decode cX7_again 54 = .ok (.iinc 2 1, 3) := by decide +kernel
theorem dX7_again_57 : decode cX7_again 57 = .ok (.goto (-26), 3) := by decide +kernel
theorem dX7_again_60 : decode cX7_again 60 = .ok (.aload_n 0, 1) := by decide +kernel
theorem dX7_again_61 : decode cX7_again 61 = .ok (.iconst 0, 1) := by decide +kernel
theorem dX7_again_62 : decode cX7_again 62 = .ok (.putfield 147, 3) := by decide +kernel
theorem dX7_again_65 : decode cX7_again 65 = .ok (.aload_n 0, 1) := by decide +kernel
theorem dX7_again_66 : decode cX7_again 66 = .ok (.getfield 19, 3) := by decide +kernel
theorem dX7_again_69 : decode cX7_again 69 = .ok (.bipush 52, 2) := by decide +kernel
theorem dX7_again_71 : decode cX7_again 71 = .ok (.iaload, 1) := by decide +kernel
theorem dX7_again_72 : decode cX7_again 72 = .ok (.ireturn, 1) := by decide +kernel
theorem dX7_count_0 : decode cX7_count 0 = .ok (.aload_n 0, 1) := by decide +kernel
theorem dX7_count_1 : decode cX7_count 1 = .ok (.iconst 0, 1) := by decide +kernel
theorem dX7_count_2 : decode cX7_count 2 = .ok (.putfield 52, 3) := by decide +kernel
theorem dX7_count_5 : decode cX7_count 5 = .ok (.iload_n 1, 1) := by decide +kernel
theorem dX7_count_6 : decode cX7_count 6 = .ok (.tableswitch 77 0 5 #[38, 43, 51, 59, 67, 72], 38) := by decide +kernel
theorem dX7_count_44 : decode cX7_count 44 = .ok (.aload_n 0, 1) := by decide +kernel
theorem dX7_count_45 : decode cX7_count 45 = .ok (.getfield 122, 3) := by decide +kernel
theorem dX7_count_48 : decode cX7_count 48 = .ok (.ireturn, 1) := by decide +kernel
theorem dX7_count_49 : decode cX7_count 49 = .ok (.aload_n 0, 1) := by decide +kernel
theorem dX7_count_50 : decode cX7_count 50 = .ok (.getfield 19, 3) := by decide +kernel
theorem dX7_count_53 : decode cX7_count 53 = .ok (.bipush 52, 2) := by decide +kernel
theorem dX7_count_55 : decode cX7_count 55 = .ok (.iaload, 1) := by decide +kernel
theorem dX7_count_56 : decode cX7_count 56 = .ok (.ireturn, 1) := by decide +kernel
theorem dX7_count_57 : decode cX7_count 57 = .ok (.aload_n 0, 1) := by decide +kernel
theorem dX7_count_58 : decode cX7_count 58 = .ok (.getfield 19, 3) := by decide +kernel
theorem dX7_count_61 : decode cX7_count 61 = .ok (.bipush 53, 2) := by decide +kernel
theorem dX7_count_63 : decode cX7_count 63 = .ok (.iaload, 1) := by decide +kernel
theorem dX7_count_64 : decode cX7_count 64 = .ok (.ireturn, 1) := by decide +kernel
theorem dX7_count_65 : decode cX7_count 65 = .ok (.aload_n 0, 1) := by decide +kernel
theorem dX7_count_66 : decode cX7_count 66 = .ok (.getfield 19, 3) := by decide +kernel
theorem dX7_count_69 : decode cX7_count 69 = .ok (.bipush 54, 2) := by decide +kernel
theorem dX7_count_71 : decode cX7_count 71 = .ok (.iaload, 1) := by decide +kernel
theorem dX7_count_72 : decode cX7_count 72 = .ok (.ireturn, 1) := by decide +kernel
theorem dX7_count_73 : decode cX7_count 73 = .ok (.aload_n 0, 1) := by decide +kernel
theorem dX7_count_74 : decode cX7_count 74 = .ok (.getfield 147, 3) := by decide +kernel
theorem dX7_count_77 : decode cX7_count 77 = .ok (.ireturn, 1) := by decide +kernel
theorem dX7_count_78 : decode cX7_count 78 = .ok (.aload_n 0, 1) := by decide +kernel
theorem dX7_count_79 : decode cX7_count 79 = .ok (.getfield 203, 3) := by decide +kernel
theorem dX7_count_82 : decode cX7_count 82 = .ok (.ireturn, 1) := by decide +kernel
theorem dX7_count_83 : decode cX7_count 83 = .ok (.bipush (-2), 2) := by decide +kernel
theorem dX7_count_85 : decode cX7_count 85 = .ok (.ireturn, 1) := by decide +kernel
