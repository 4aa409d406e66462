theorem dX0_init_0 : decode cX0_init 0 = .ok (.aload_n 0, 1) := by decide +kernel
theorem dX0_init_1 : decode cX0_init 1 = .ok (.invokespecial 3, 3) := by decide +kernel
theorem dX0_init_4 : decode cX0_init 4 = .ok (.aload_n 0, 1) := by decide +kernel
theorem dX0_init_5 : decode cX0_init 5 = .ok (.new 9, 3) := by decide +kernel
theorem dX0_init_8 : decode cX0_init 8 = .ok (.dup, 1) := by decide +kernel
theorem dX0_init_9 : decode cX0_init 9 = .ok (.invokespecial 11, 3) := by decide +kernel
theorem dX0_init_12 : decode cX0_init 12 = .ok (.putfield 12, 3) := by decide +kernel
theorem dX0_init_15 : decode cX0_init 15 = .ok (.return_, 1) := by decide +kernel
theorem dX0_reset_0 : decode cX0_reset 0 = .ok (.aload_n 0, 1) := by decide +kernel
theorem dX0_reset_1 : decode cX0_reset 1 = .ok (.iconst 1, 1) := by decide +kernel
theorem dX0_reset_2 : decode cX0_reset 2 = .ok (.putfield 18, 3) := by decide +kernel
theorem dX0_reset_5 : decode cX0_reset 5 = .ok (.aload_n 0, 1) := by decide +kernel
theorem dX0_reset_6 : decode cX0_reset 6 = .ok (.iconst 1, 1) := by decide +kernel
theorem dX0_reset_7 : decode cX0_reset 7 = .ok (.putfield 22, 3) := by decide +kernel
theorem dX0_reset_10 : decode cX0_reset 10 = .ok (.aload_n 0, 1) := by decide +kernel
theorem dX0_reset_11 : decode cX0_reset 11 = .ok (.iconst 1, 1) := by decide +kernel
theorem dX0_reset_12 : decode cX0_reset 12 = .ok (.putfield 25, 3) := by decide +kernel
theorem dX0_reset_15 : decode cX0_reset 15 = .ok (.aload_n 0, 1) := by decide +kernel
theorem dX0_reset_16 : decode cX0_reset 16 = .ok (.iconst 1, 1) := by decide +kernel
theorem dX0_reset_17 : decode cX0_reset 17 = .ok (.putfield 28, 3) := by decide +kernel
theorem dX0_reset_20 : decode cX0_reset 20 = .ok (.aload_n 0, 1) := by decide +kernel
theorem dX0_reset_21 : decode cX0_reset 21 = .ok (.iconst 1, 1) := by decide +kernel
theorem dX0_reset_22 : decode cX0_reset 22 = .ok (.putfield 31, 3) := by decide +kernel
theorem dX0_reset_25 : decode cX0_reset 25 = .ok (.aload_n 0, 1) := by decide +kernel
theorem dX0_reset_26 : decode cX0_reset 26 = .ok (.iconst 0, 1) := by decide +kernel
theorem dX0_reset_27 : decode cX0_reset 27 = .ok (.putfield 34, 3) := by decide +kernel
theorem dX0_reset_30 : decode cX0_reset 30 = .ok (.aload_n 0, 1) := by decide +kernel
theorem dX0_reset_31 : decode cX0_reset 31 = .ok (.iconst 0, 1) := by decide +kernel
theorem dX0_reset_32 : decode cX0_reset 32 = .ok (.putfield 37, 3) := by decide +kernel
theorem dX0_reset_35 : decode cX0_reset 35 = .ok (.aload_n 0, 1) := by decide +kernel
theorem dX0_reset_36 : decode cX0_reset 36 = .ok (.iconst 0, 1) := by decide +kernel
theorem dX0_reset_37 : decode cX0_reset 37 = .ok (.putfield 40, 3) := by decide +kernel
theorem dX0_reset_40 : decode cX0_reset 40 = .ok (.aload_n 0, 1) := by decide +kernel
theorem dX0_reset_41 : decode cX0_reset 41 = .ok (.iconst 0, 1) := by decide +kernel
theorem dX0_reset_42 : decode cX0_reset 42 = .ok (.putfield 43, 3) := by decide +kernel
theorem dX0_reset_45 : decode cX0_reset 45 = .ok (.aload_n 0, 1) := by decide +kernel
theorem dX0_reset_46 : decode cX0_reset 46 = .ok (.iconst 0, 1) := by decide +kernel
theorem dX0_reset_47 : decode cX0_reset 47 = .ok (.putfield 47, 3) := by decide +kernel
theorem dX0_reset_50 : decode cX0_reset 50 = .ok (.aload_n 0, 1) := by decide +kernel
theorem dX0_reset_51 : decode cX0_reset 51 = .ok (.iconst 0, 1) := by decide +kernel
theorem dX0_reset_52 : decode cX0_reset 52 = .ok (.putfield 50, 3) := by decide +kernel
theorem dX0_reset_55 : decode cX0_reset 55 = .ok (.aload_n 0, 1) := by decide +kernel
theorem dX0_reset_56 : decode cX0_reset 56 = .ok (.getfield 12, 3) := by decide +kernel
theorem dX0_reset_59 : decode cX0_reset 59 = .ok (.invokevirtual 53, 3) := by decide +kernel
theorem dX0_reset_62 : decode cX0_reset 62 = .ok (.return_, 1) := by decide +kernel
theorem dX0_copyFrom_0 : decode cX0_copyFrom 0 = .ok (.aload_n 0, 1) := by decide +kernel
theorem dX0_copyFrom_1 : decode cX0_copyFrom 1 = .ok (.aload_n 1, 1) := by decide +kernel
theorem dX0_copyFrom_2 : decode cX0_copyFrom 2 = .ok (.getfield 18, 3) := by decide +kernel
theorem dX0_copyFrom_5 : decode cX0_copyFrom 5 = .ok (.putfield 18, 3) := by decide +kernel
theorem dX0_copyFrom_8 : decode cX0_copyFrom 8 = .ok (.aload_n 0, 1) := by decide +kernel
theorem dX0_copyFrom_9 : decode cX0_copyFrom 9 = .ok (.aload_n 1, 1) := by decide +kernel
theorem dX0_copyFrom_10 : decode cX0_copyFrom 10 = .ok (.getfield 22, 3) := by decide +kernel
theorem dX0_copyFrom_13 : decode cX0_copyFrom 13 = .ok (.putfield 22, 3) := by decide +kernel
theorem dX0_copyFrom_16 : decode cX0_copyFrom 16 = .ok (.aload_n 0, 1) := by decide +kernel
theorem dX0_copyFrom_17 : decode cX0_copyFrom 17 = .ok (.aload_n 1, 1) := by decide +kernel
theorem dX0_copyFrom_18 : decode cX0_copyFrom 18 = .ok (.getfield 25, 3) := by decide +kernel
theorem dX0_copyFrom_21 : decode cX0_copyFrom 21 = .ok (.putfield 25, 3) := by decide +kernel
theorem dX0_copyFrom_24 : decode cX0_copyFrom 24 = .ok (.aload_n 0, 1) := by decide +kernel
theorem dX0_copyFrom_25 : decode cX0_copyFrom 25 = .ok (.aload_n 1, 1) := by decide +kernel
theorem dX0_copyFrom_26 : decode cX0_copyFrom 26 = .ok (.getfield 28, 3) := by decide +kernel
theorem dX0_copyFrom_29 : decode cX0_copyFrom 29 = .ok (.putfield 28, 3) := by decide +kernel
theorem dX0_copyFrom_32 : decode cX0_copyFrom 32 = .ok (.aload_n 0, 1) := by decide +kernel
theorem dX0_copyFrom_33 : decode cX0_copyFrom 33 = .ok (.aload_n 1, 1) := by decide +kernel
theorem dX0_copyFrom_34 : decode cX0_copyFrom 34 = .ok (.getfield 31, 3) := by decide +kernel
theorem dX0_copyFrom_37 : decode cX0_copyFrom 37 = .ok (.putfield 31, 3) := by decide +kernel
theorem dX0_copyFrom_40 : decode cX0_copyFrom 40 = .ok (.aload_n 0, 1) := by decide +kernel
theorem dX0_copyFrom_41 : decode cX0_copyFrom 41 = .ok (.aload_n 1, 1) := by decide +kernel
theorem dX0_copyFrom_42 : decode cX0_copyFrom 42 = .ok (.getfield 34, 3) := by decide +kernel
theorem dX0_copyFrom_45 : decode cX0_copyFrom 45 = .ok (.putfield 34, 3) := by decide +kernel
theorem dX0_copyFrom_48 : decode cX0_copyFrom 48 = .ok (.aload_n 0, 1) := by decide +kernel
theorem dX0_copyFrom_49 : decode cX0_copyFrom 49 = .ok (.aload_n 1, 1) := by decide +kernel
theorem dX0_copyFrom_50 : decode cX0_copyFrom 50 = .ok (.getfield 37, 3) := by decide +kernel
theorem dX0_copyFrom_53 : decode cX0_copyFrom 53 = .ok (.putfield 37, 3) := by decide +kernel
theorem dX0_copyFrom_56 : decode cX0_copyFrom 56 = .ok (.aload_n 0, 1) := by decide +kernel
theorem dX0_copyFrom_57 : decode cX0_copyFrom 57 = .ok (.aload_n 1, 1) := by decide +kernel
theorem dX0_copyFrom_58 : decode cX0_copyFrom 58 = .ok (.getfield 40, 3) := by decide +kernel
theorem dX0_copyFrom_61 : decode cX0_copyFrom 61 = .ok (.putfield 40, 3) := by decide +kernel
theorem dX0_copyFrom_64 : decode cX0_copyFrom 64 = .ok (.aload_n 0, 1) := by decide +kernel
theorem dX0_copyFrom_65 : decode cX0_copyFrom 65 = .ok (.aload_n 1, 1) := by decide +kernel
theorem dX0_copyFrom_66 : decode cX0_copyFrom 66 = .ok (.getfield 43, 3) := by decide +kernel
theorem dX0_copyFrom_69 : decode cX0_copyFrom 69 = .ok (.putfield 43, 3) := by decide +kernel
theorem dX0_copyFrom_72 : decode cX0_copyFrom 72 = .ok (.aload_n 0, 1) := by decide +kernel
theorem dX0_copyFrom_73 : decode cX0_copyFrom 73 = .ok (.aload_n 1, 1) := by decide +kernel
theorem dX0_copyFrom_74 : decode cX0_copyFrom 74 = .ok (.getfield 47, 3) := by decide +kernel
theorem dX0_copyFrom_77 : decode cX0_copyFrom 77 = .ok (.putfield 47, 3) := by decide +kernel
theorem dX0_copyFrom_80 : decode cX0_copyFrom 80 = .ok (.aload_n 0, 1) := by decide +kernel
theorem dX0_copyFrom_81 : decode cX0_copyFrom 81 = .ok (.aload_n 1, 1) := by decide +kernel
theorem dX0_copyFrom_82 : decode cX0_copyFrom 82 = .ok (.getfield 50, 3) := by decide +kernel
theorem dX0_copyFrom_85 : decode cX0_copyFrom 85 = .ok (.putfield 50, 3) := by decide +kernel
theorem dX0_copyFrom_88 : decode cX0_copyFrom 88 = .ok (.aload_n 0, 1) := by decide +kernel
theorem dX0_copyFrom_89 : decode cX0_copyFrom 89 = .ok (.getfield 12, 3) := by decide +kernel
theorem dX0_copyFrom_92 : decode cX0_copyFrom 92 = .ok (.aload_n 1, 1) := by decide +kernel
theorem dX0_copyFrom_93 : decode cX0_copyFrom 93 = .ok (.getfield 12, 3) := by decide +kernel
theorem dX0_copyFrom_96 : decode cX0_copyFrom 96 = .ok (.invokevirtual 56, 3) := by decide +kernel
theorem dX0_copyFrom_99 : decode cX0_copyFrom 99 = .ok (.return_, 1) := by decide +kernel
theorem dX0_numberOf_0 : decode cX0_numberOf 0 = .ok (.iload_n 1, 1) := by decide +kernel
theorem dX0_numberOf_1 : decode cX0_numberOf 1 = .ok (.tableswitch 120 0 10 #[59, 64, 69, 74, 79, 84, 89, 97, 105, 110, 115], 59) := by decide +kernel
theorem dX0_numberOf_60 : decode cX0_numberOf 60 = .ok (.aload_n 0, 1) := by decide +kernel
theorem dX0_numberOf_61 : decode cX0_numberOf 61 = .ok (.getfield 18, 3) := by decide +kernel
theorem dX0_numberOf_64 : decode cX0_numberOf 64 = .ok (.ireturn, 1) := by decide +kernel
theorem dX0_numberOf_65 : decode cX0_numberOf 65 = .ok (.aload_n 0, 1) := by decide +kernel
theorem dX0_numberOf_66 : decode cX0_numberOf 66 = .ok (.getfield 22, 3) := by decide +kernel
theorem dX0_numberOf_69 : decode cX0_numberOf 69 = .ok (.ireturn, 1) := by decide +kernel
theorem dX0_numberOf_70 : decode cX0_numberOf 70 = .ok (.aload_n 0, 1) := by decide +kernel
theorem dX0_numberOf_71 : decode cX0_numberOf 71 = .ok (.getfield 25, 3) := by decide +kernel
theorem dX0_numberOf_74 : decode cX0_numberOf 74 = .ok (.ireturn, 1) := by decide +kernel
theorem dX0_numberOf_75 : decode cX0_numberOf 75 = .ok (.aload_n 0, 1) := by decide +kernel
theorem dX0_numberOf_76 : decode cX0_numberOf 76 = .ok (.getfield 28, 3) := by decide +kernel
theorem dX0_numberOf_79 : decode cX0_numberOf 79 = .ok (.ireturn, 1) := by decide +kernel
theorem dX0_numberOf_80 : decode cX0_numberOf 80 = .ok (.aload_n 0, 1) := by decide +kernel
theorem dX0_numberOf_81 : decode cX0_numberOf 81 = .ok (.getfield 31, 3) := by decide +kernel
theorem dX0_numberOf_84 : decode cX0_numberOf 84 = .ok (.ireturn, 1) := by decide +kernel
theorem dX0_numberOf_85 : decode cX0_numberOf 85 = .ok (.aload_n 0, 1) := by decide +kernel
theorem dX0_numberOf_86 : decode cX0_numberOf 86 = .ok (.getfield 34, 3) := by decide +kernel
theorem dX0_numberOf_89 : decode cX0_numberOf 89 = .ok (.ireturn, 1) := by decide +kernel
theorem dX0_numberOf_90 : decode cX0_numberOf 90 = .ok (.aload_n 0, 1) := by decide +kernel
theorem dX0_numberOf_91 : decode cX0_numberOf 91 = .ok (.getfield 43, 3) := by decide +kernel
theorem dX0_numberOf_94 : decode cX0_numberOf 94 = .ok (.invokestatic 60, 3) := by decide +kernel
theorem dX0_numberOf_97 : decode cX0_numberOf 97 = .ok (.ireturn, 1) := by decide +kernel
theorem dX0_numberOf_98 : decode cX0_numberOf 98 = .ok (.aload_n 0, 1) := by decide +kernel
theorem dX0_numberOf_99 : decode cX0_numberOf 99 = .ok (.getfield 47, 3) := by decide +kernel
theorem dX0_numberOf_102 : decode cX0_numberOf 102 = .ok (.invokestatic 60, 3) := by decide +kernel
theorem dX0_numberOf_105 : decode cX0_numberOf 105 = .ok (.ireturn, 1) := by decide +kernel
theorem dX0_numberOf_106 : decode cX0_numberOf 106 = .ok (.aload_n 0, 1) := by decide +kernel
theorem dX0_numberOf_107 : decode cX0_numberOf 107 = .ok (.getfield 37, 3) := by decide +kernel
theorem dX0_numberOf_110 : decode cX0_numberOf 110 = .ok (.ireturn, 1) := by decide +kernel
theorem dX0_numberOf_111 : decode cX0_numberOf 111 = .ok (.aload_n 0, 1) := by decide +kernel
theorem dX0_numberOf_112 : decode cX0_numberOf 112 = .ok (.getfield 40, 3) := by decide +kernel
theorem dX0_numberOf_115 : decode cX0_numberOf 115 = .ok (.ireturn, 1) := by decide +kernel
theorem dX0_numberOf_116 : decode cX0_numberOf 116 = .ok (.aload_n 0, 1) := by decide +kernel
theorem dX0_numberOf_117 : decode cX0_numberOf 117 = .ok (.invokevirtual 64, 3) := by decide +kernel
theorem dX0_numberOf_120 : decode cX0_numberOf 120 = .ok (.ireturn, 1) := by decide +kernel
theorem dX0_numberOf_121 : decode cX0_numberOf 121 = .ok (.aload_n 0, 1) := by decide +kernel
theorem dX0_numberOf_122 : decode cX0_numberOf 122 = .ok (.invokevirtual 68, 3) := by decide +kernel
theorem dX0_numberOf_125 : decode cX0_numberOf 125 = .ok (.ireturn, 1) := by decide +kernel
theorem dX0_isBothUp_0 : decode cX0_isBothUp 0 = .ok (.aload_n 0, 1) := by decide +kernel
theorem dX0_isBothUp_1 : decode cX0_isBothUp 1 = .ok (.getfield 34, 3) := by decide +kernel
theorem dX0_isBothUp_4 : decode cX0_isBothUp 4 = .ok (.iconst 2, 1) := by decide +kernel
theorem dX0_isBothUp_5 : decode cX0_isBothUp 5 = .ok (.if_icmp .ne 18, 3) := by decide +kernel
theorem dX0_isBothUp_8 : decode cX0_isBothUp 8 = .ok (.aload_n 0, 1) := by decide +kernel
theorem dX0_isBothUp_9 : decode cX0_isBothUp 9 = .ok (.getfield 12, 3) := by decide +kernel
theorem dX0_isBothUp_12 : decode cX0_isBothUp 12 = .ok (.getfield 71, 3) := by decide +kernel
theorem dX0_isBothUp_15 : decode cX0_isBothUp 15 = .ok (.iconst 2, 1) := by decide +kernel
theorem dX0_isBothUp_16 : decode cX0_isBothUp 16 = .ok (.if_icmp .ne 7, 3) := by decide +kernel
theorem dX0_isBothUp_19 : decode cX0_isBothUp 19 = .ok (.iconst 1, 1) := by decide +kernel
theorem dX0_isBothUp_20 : decode cX0_isBothUp 20 = .ok (.goto 4, 3) := by decide +kernel
theorem dX0_isBothUp_23 : decode cX0_isBothUp 23 = .ok (.iconst 0, 1) := by decide +kernel
theorem dX0_isBothUp_24 : decode cX0_isBothUp 24 = .ok (.ireturn, 1) := by decide +kernel
theorem dX0_pace_0 : decode cX0_pace 0 = .ok (.aload_n 0, 1) := by decide +kernel
theorem dX0_pace_1 : decode cX0_pace 1 = .ok (.getfield 34, 3) := by decide +kernel
theorem dX0_pace_4 : decode cX0_pace 4 = .ok (.iconst 2, 1) := by decide +kernel
theorem dX0_pace_5 : decode cX0_pace 5 = .ok (.if_icmp .ne 20, 3) := by decide +kernel
theorem dX0_pace_8 : decode cX0_pace 8 = .ok (.aload_n 0, 1) := by decide +kernel
theorem dX0_pace_9 : decode cX0_pace 9 = .ok (.getfield 28, 3) := by decide +kernel
theorem dX0_pace_12 : decode cX0_pace 12 = .ok (.aload_n 0, 1) := by decide +kernel
theorem dX0_pace_13 : decode cX0_pace 13 = .ok (.getfield 12, 3) := by decide +kernel
theorem dX0_pace_16 : decode cX0_pace 16 = .ok (.getfield 72, 3) := by decide +kernel
theorem dX0_pace_19 : decode cX0_pace 19 = .ok (.invokestatic 73, 3) := by decide +kernel
theorem dX0_pace_22 : decode cX0_pace 22 = .ok (.goto 5, 3) := by decide +kernel
theorem dX0_pace_25 : decode cX0_pace 25 = .ok (.bipush 9, 2) := by decide +kernel
theorem dX0_pace_27 : decode cX0_pace 27 = .ok (.ireturn, 1) := by decide +kernel
theorem dX0_limit_0 : decode cX0_limit 0 = .ok (.aload_n 0, 1) := by decide +kernel
theorem dX0_limit_1 : decode cX0_limit 1 = .ok (.getfield 31, 3) := by decide +kernel
theorem dX0_limit_4 : decode cX0_limit 4 = .ok (.aload_n 0, 1) := by decide +kernel
theorem dX0_limit_5 : decode cX0_limit 5 = .ok (.getfield 12, 3) := by decide +kernel
theorem dX0_limit_8 : decode cX0_limit 8 = .ok (.getfield 79, 3) := by decide +kernel
theorem dX0_limit_11 : decode cX0_limit 11 = .ok (.invokestatic 73, 3) := by decide +kernel
theorem dX0_limit_14 : decode cX0_limit 14 = .ok (.istore_n 1, 1) := by decide +kernel
theorem dX0_limit_15 : decode cX0_limit 15 = .ok (.aload_n 0, 1) := by decide +kernel
theorem dX0_limit_16 : decode cX0_limit 16 = .ok (.getfield 12, 3) := by decide +kernel
theorem dX0_limit_19 : decode cX0_limit 19 = .ok (.getfield 80, 3) := by decide +kernel
theorem dX0_limit_22 : decode cX0_limit 22 = .ok (.aload_n 0, 1) := by decide +kernel
theorem dX0_limit_23 : decode cX0_limit 23 = .ok (.invokevirtual 81, 3) := by decide +kernel
theorem dX0_limit_26 : decode cX0_limit 26 = .ok (.ifCond .eq 7, 3) := by decide +kernel
theorem dX0_limit_29 : decode cX0_limit 29 = .ok (.iload_n 1, 1) := by decide +kernel
theorem dX0_limit_30 : decode cX0_limit 30 = .ok (.goto 9, 3) := by decide +kernel
theorem dX0_limit_33 : decode cX0_limit 33 = .ok (.iload_n 1, 1) := by decide +kernel
theorem dX0_limit_34 : decode cX0_limit 34 = .ok (.bipush 9, 2) := by decide +kernel
theorem dX0_limit_36 : decode cX0_limit 36 = .ok (.invokestatic 73, 3) := by decide +kernel
theorem dX0_limit_39 : decode cX0_limit 39 = .ok (.imul, 1) := by decide +kernel
theorem dX0_limit_40 : decode cX0_limit 40 = .ok (.ireturn, 1) := by decide +kernel
theorem dX0_isStill_0 : decode cX0_isStill 0 = .ok (.aload_n 0, 1) := by decide +kernel
theorem dX0_isStill_1 : decode cX0_isStill 1 = .ok (.getfield 12, 3) := by decide +kernel
theorem dX0_isStill_4 : decode cX0_isStill 4 = .ok (.getfield 85, 3) := by decide +kernel
theorem dX0_isStill_7 : decode cX0_isStill 7 = .ok (.ifCond .eq 21, 3) := by decide +kernel
theorem dX0_isStill_10 : decode cX0_isStill 10 = .ok (.aload_n 0, 1) := by decide +kernel
theorem dX0_isStill_11 : decode cX0_isStill 11 = .ok (.invokevirtual 81, 3) := by decide +kernel
theorem dX0_isStill_14 : decode cX0_isStill 14 = .ok (.ifCond .eq 14, 3) := by decide +kernel
theorem dX0_isStill_17 : decode cX0_isStill 17 = .ok (.aload_n 0, 1) := by decide +kernel
theorem dX0_isStill_18 : decode cX0_isStill 18 = .ok (.getfield 43, 3) := by decide +kernel
theorem dX0_isStill_21 : decode cX0_isStill 21 = .ok (.ifCond .ne 7, 3) := by decide +kernel
theorem dX0_isStill_24 : decode cX0_isStill 24 = .ok (.iconst 1, 1) := by decide +kernel
theorem dX0_isStill_25 : decode cX0_isStill 25 = .ok (.goto 4, 3) := by decide +kernel
theorem dX0_isStill_28 : decode cX0_isStill 28 = .ok (.iconst 0, 1) := by decide +kernel
theorem dX0_isStill_29 : decode cX0_isStill 29 = .ok (.ireturn, 1) := by decide +kernel
theorem dX0_trusts_0 : decode cX0_trusts 0 = .ok (.aload_n 0, 1) := by decide +kernel
theorem dX0_trusts_1 : decode cX0_trusts 1 = .ok (.getfield 47, 3) := by decide +kernel
theorem dX0_trusts_4 : decode cX0_trusts 4 = .ok (.ifCond .eq 21, 3) := by decide +kernel
theorem dX0_trusts_7 : decode cX0_trusts 7 = .ok (.aload_n 0, 1) := by decide +kernel
theorem dX0_trusts_8 : decode cX0_trusts 8 = .ok (.invokevirtual 81, 3) := by decide +kernel
theorem dX0_trusts_11 : decode cX0_trusts 11 = .ok (.ifCond .eq 14, 3) := by decide +kernel
theorem dX0_trusts_14 : decode cX0_trusts 14 = .ok (.aload_n 0, 1) := by decide +kernel
theorem dX0_trusts_15 : decode cX0_trusts 15 = .ok (.getfield 43, 3) := by decide +kernel
theorem dX0_trusts_18 : decode cX0_trusts 18 = .ok (.ifCond .ne 7, 3) := by decide +kernel
theorem dX0_trusts_21 : decode cX0_trusts 21 = .ok (.iconst 1, 1) := by decide +kernel
theorem dX0_trusts_22 : decode cX0_trusts 22 = .ok (.goto 4, 3) := by decide +kernel
theorem dX0_trusts_25 : decode cX0_trusts 25 = .ok (.iconst 0, 1) := by decide +kernel
theorem dX0_trusts_26 : decode cX0_trusts 26 = .ok (.ireturn, 1) := by decide +kernel
theorem dX0_endPoll_0 : decode cX0_endPoll 0 = .ok (.aload_n 0, 1) := by decide +kernel
theorem dX0_endPoll_1 : decode cX0_endPoll 1 = .ok (.iconst 0, 1) := by decide +kernel
theorem dX0_endPoll_2 : decode cX0_endPoll 2 = .ok (.putfield 43, 3) := by decide +kernel
theorem dX0_endPoll_5 : decode cX0_endPoll 5 = .ok (.aload_n 0, 1) := by decide +kernel
theorem dX0_endPoll_6 : decode cX0_endPoll 6 = .ok (.aload_n 0, 1) := by decide +kernel
theorem dX0_endPoll_7 : decode cX0_endPoll 7 = .ok (.getfield 18, 3) := by decide +kernel
theorem dX0_endPoll_10 : decode cX0_endPoll 10 = .ok (.putfield 28, 3) := by decide +kernel
theorem dX0_endPoll_13 : decode cX0_endPoll 13 = .ok (.aload_n 0, 1) := by decide +kernel
theorem dX0_endPoll_14 : decode cX0_endPoll 14 = .ok (.aload_n 0, 1) := by decide +kernel
theorem dX0_endPoll_15 : decode cX0_endPoll 15 = .ok (.getfield 22, 3) := by decide +kernel
theorem dX0_endPoll_18 : decode cX0_endPoll 18 = .ok (.putfield 31, 3) := by decide +kernel
theorem dX0_endPoll_21 : decode cX0_endPoll 21 = .ok (.return_, 1) := by decide +kernel
theorem dX0_fall_0 : decode cX0_fall 0 = .ok (.aload_n 0, 1) := by decide +kernel
theorem dX0_fall_1 : decode cX0_fall 1 = .ok (.iconst 0, 1) := by decide +kernel
theorem dX0_fall_2 : decode cX0_fall 2 = .ok (.putfield 34, 3) := by decide +kernel
theorem dX0_fall_5 : decode cX0_fall 5 = .ok (.aload_n 0, 1) := by decide +kernel
theorem dX0_fall_6 : decode cX0_fall 6 = .ok (.invokevirtual 88, 3) := by decide +kernel
theorem dX0_fall_9 : decode cX0_fall 9 = .ok (.return_, 1) := by decide +kernel
theorem dX0_listen_0 : decode cX0_listen 0 = .ok (.aload_n 1, 1) := by decide +kernel
theorem dX0_listen_1 : decode cX0_listen 1 = .ok (.invokevirtual 91, 3) := by decide +kernel
theorem dX0_listen_4 : decode cX0_listen 4 = .ok (.ifCond .ne 14, 3) := by decide +kernel
theorem dX0_listen_7 : decode cX0_listen 7 = .ok (.aload_n 0, 1) := by decide +kernel
theorem dX0_listen_8 : decode cX0_listen 8 = .ok (.dup, 1) := by decide +kernel
theorem dX0_listen_9 : decode cX0_listen 9 = .ok (.getfield 37, 3) := by decide +kernel
theorem dX0_listen_12 : decode cX0_listen 12 = .ok (.iconst 1, 1) := by decide +kernel
theorem dX0_listen_13 : decode cX0_listen 13 = .ok (.iadd, 1) := by decide +kernel
theorem dX0_listen_14 : decode cX0_listen 14 = .ok (.putfield 37, 3) := by decide +kernel
theorem dX0_listen_17 : decode cX0_listen 17 = .ok (.return_, 1) := by decide +kernel
theorem dX0_listen_18 : decode cX0_listen 18 = .ok (.aload_n 0, 1) := by decide +kernel
theorem dX0_listen_19 : decode cX0_listen 19 = .ok (.iconst 0, 1) := by decide +kernel
theorem dX0_listen_20 : decode cX0_listen 20 = .ok (.putfield 37, 3) := by decide +kernel
theorem dX0_listen_23 : decode cX0_listen 23 = .ok (.aload_n 0, 1) := by decide +kernel
theorem dX0_listen_24 : decode cX0_listen 24 = .ok (.getfield 12, 3) := by decide +kernel
theorem dX0_listen_27 : decode cX0_listen 27 = .ok (.aload_n 1, 1) := by decide +kernel
theorem dX0_listen_28 : decode cX0_listen 28 = .ok (.getfield 96, 3) := by decide +kernel
theorem dX0_listen_31 : decode cX0_listen 31 = .ok (.invokevirtual 56, 3) := by decide +kernel
theorem dX0_listen_34 : decode cX0_listen 34 = .ok (.aload_n 0, 1) := by decide +kernel
theorem dX0_listen_35 : decode cX0_listen 35 = .ok (.getfield 34, 3) := by decide +kernel
theorem dX0_listen_38 : decode cX0_listen 38 = .ok (.iconst 2, 1) := by decide +kernel
theorem dX0_listen_39 : decode cX0_listen 39 = .ok (.if_icmp .ne 20, 3) := by decide +kernel
theorem dX0_listen_42 : decode cX0_listen 42 = .ok (.aload_n 0, 1) := by decide +kernel
theorem dX0_listen_43 : decode cX0_listen 43 = .ok (.getfield 12, 3) := by decide +kernel
theorem dX0_listen_46 : decode cX0_listen 46 = .ok (.getfield 71, 3) := by decide +kernel
theorem dX0_listen_49 : decode cX0_listen 49 = .ok (.ifCond .ne 10, 3) := by decide +kernel
theorem dX0_listen_52 : decode cX0_listen 52 = .ok (.aload_n 0, 1) := by decide +kernel
theorem dX0_listen_53 : decode cX0_listen 53 = .ok (.invokevirtual 99, 3) := by decide +kernel
theorem dX0_listen_56 : decode cX0_listen 56 = .ok (.goto 11, 3) := by decide +kernel
theorem dX0_listen_59 : decode cX0_listen 59 = .ok (.aload_n 0, 1) := by decide +kernel
theorem dX0_listen_60 : decode cX0_listen 60 = .ok (.aload_n 0, 1) := by decide +kernel
theorem dX0_listen_61 : decode cX0_listen 61 = .ok (.invokevirtual 102, 3) := by decide +kernel
theorem dX0_listen_64 : decode cX0_listen 64 = .ok (.putfield 34, 3) := by decide +kernel
theorem dX0_listen_67 : decode cX0_listen 67 = .ok (.aload_n 1, 1) := by decide +kernel
theorem dX0_listen_68 : decode cX0_listen 68 = .ok (.getfield 105, 3) := by decide +kernel
theorem dX0_listen_71 : decode cX0_listen 71 = .ok (.ifCond .eq 8, 3) := by decide +kernel
theorem dX0_listen_74 : decode cX0_listen 74 = .ok (.aload_n 0, 1) := by decide +kernel
theorem dX0_listen_75 : decode cX0_listen 75 = .ok (.iconst 1, 1) := by decide +kernel
theorem dX0_listen_76 : decode cX0_listen 76 = .ok (.putfield 50, 3) := by decide +kernel
theorem dX0_listen_79 : decode cX0_listen 79 = .ok (.aload_n 1, 1) := by decide +kernel
theorem dX0_listen_80 : decode cX0_listen 80 = .ok (.getfield 108, 3) := by decide +kernel
theorem dX0_listen_83 : decode cX0_listen 83 = .ok (.ifCond .eq 14, 3) := by decide +kernel
theorem dX0_listen_86 : decode cX0_listen 86 = .ok (.aload_n 0, 1) := by decide +kernel
theorem dX0_listen_87 : decode cX0_listen 87 = .ok (.getfield 43, 3) := by decide +kernel
theorem dX0_listen_90 : decode cX0_listen 90 = .ok (.ifCond .eq 7, 3) := by decide +kernel
theorem dX0_listen_93 : decode cX0_listen 93 = .ok (.aload_n 0, 1) := by decide +kernel
theorem dX0_listen_94 : decode cX0_listen 94 = .ok (.invokevirtual 88, 3) := by decide +kernel
theorem dX0_listen_97 : decode cX0_listen 97 = .ok (.return_, 1) := by decide +kernel
theorem dX0_moodByWhatIsKnown_0 : decode cX0_moodByWhatIsKnown 0 = .ok (.aload_n 0, 1) := by decide +kernel
theorem dX0_moodByWhatIsKnown_1 : decode cX0_moodByWhatIsKnown 1 = .ok (.getfield 12, 3) := by decide +kernel
theorem dX0_moodByWhatIsKnown_4 : decode cX0_moodByWhatIsKnown 4 = .ok (.getfield 71, 3) := by decide +kernel
theorem dX0_moodByWhatIsKnown_7 : decode cX0_moodByWhatIsKnown 7 = .ok (.ifCond .ne 5, 3) := by decide +kernel
theorem dX0_moodByWhatIsKnown_10 : decode cX0_moodByWhatIsKnown 10 = .ok (.iconst 1, 1) := by decide +kernel
theorem dX0_moodByWhatIsKnown_11 : decode cX0_moodByWhatIsKnown 11 = .ok (.ireturn, 1) := by decide +kernel
theorem dX0_moodByWhatIsKnown_12 : decode cX0_moodByWhatIsKnown 12 = .ok (.aload_n 0, 1) := by decide +kernel
theorem dX0_moodByWhatIsKnown_13 : decode cX0_moodByWhatIsKnown 13 = .ok (.getfield 12, 3) := by decide +kernel
theorem dX0_moodByWhatIsKnown_16 : decode cX0_moodByWhatIsKnown 16 = .ok (.getfield 71, 3) := by decide +kernel
theorem dX0_moodByWhatIsKnown_19 : decode cX0_moodByWhatIsKnown 19 = .ok (.iconst 1, 1) := by decide +kernel
theorem dX0_moodByWhatIsKnown_20 : decode cX0_moodByWhatIsKnown 20 = .ok (.if_icmp .eq 11, 3) := by decide +kernel
theorem dX0_moodByWhatIsKnown_23 : decode cX0_moodByWhatIsKnown 23 = .ok (.aload_n 0, 1) := by decide +kernel
theorem dX0_moodByWhatIsKnown_24 : decode cX0_moodByWhatIsKnown 24 = .ok (.getfield 34, 3) := by decide +kernel
theorem dX0_moodByWhatIsKnown_27 : decode cX0_moodByWhatIsKnown 27 = .ok (.iconst 1, 1) := by decide +kernel
theorem dX0_moodByWhatIsKnown_28 : decode cX0_moodByWhatIsKnown 28 = .ok (.if_icmp .ne 7, 3) := by decide +kernel
theorem dX0_moodByWhatIsKnown_31 : decode cX0_moodByWhatIsKnown 31 = .ok (.iconst 2, 1) := by decide +kernel
theorem dX0_moodByWhatIsKnown_32 : decode cX0_moodByWhatIsKnown 32 = .ok (.goto 7, 3) := by decide +kernel
theorem dX0_moodByWhatIsKnown_35 : decode cX0_moodByWhatIsKnown 35 = .ok (.aload_n 0, 1) := by decide +kernel
theorem dX0_moodByWhatIsKnown_36 : decode cX0_moodByWhatIsKnown 36 = .ok (.getfield 34, 3) := by decide +kernel
theorem dX0_moodByWhatIsKnown_39 : decode cX0_moodByWhatIsKnown 39 = .ok (.ireturn, 1) := by decide +kernel
theorem dX0_fallIfSilent_0 : decode cX0_fallIfSilent 0 = .ok (.aload_n 0, 1) := by decide +kernel
theorem dX0_fallIfSilent_1 : decode cX0_fallIfSilent 1 = .ok (.getfield 34, 3) := by decide +kernel
theorem dX0_fallIfSilent_4 : decode cX0_fallIfSilent 4 = .ok (.ifCond .eq 33, 3) := by decide +kernel
theorem dX0_fallIfSilent_7 : decode cX0_fallIfSilent 7 = .ok (.aload_n 0, 1) := by decide +kernel
theorem dX0_fallIfSilent_8 : decode cX0_fallIfSilent 8 = .ok (.invokevirtual 111, 3) := by decide +kernel
theorem dX0_fallIfSilent_11 : decode cX0_fallIfSilent 11 = .ok (.ifCond .ne 26, 3) := by decide +kernel
theorem dX0_fallIfSilent_14 : decode cX0_fallIfSilent 14 = .ok (.aload_n 0, 1) := by decide +kernel
theorem dX0_fallIfSilent_15 : decode cX0_fallIfSilent 15 = .ok (.getfield 37, 3) := by decide +kernel
theorem dX0_fallIfSilent_18 : decode cX0_fallIfSilent 18 = .ok (.aload_n 0, 1) := by decide +kernel
theorem dX0_fallIfSilent_19 : decode cX0_fallIfSilent 19 = .ok (.invokevirtual 68, 3) := by decide +kernel
theorem dX0_fallIfSilent_22 : decode cX0_fallIfSilent 22 = .ok (.if_icmp .lt 15, 3) := by decide +kernel
theorem dX0_fallIfSilent_25 : decode cX0_fallIfSilent 25 = .ok (.aload_n 0, 1) := by decide +kernel
theorem dX0_fallIfSilent_26 : decode cX0_fallIfSilent 26 = .ok (.invokevirtual 99, 3) := by decide +kernel
theorem dX0_fallIfSilent_29 : decode cX0_fallIfSilent 29 = .ok (.aload_n 0, 1) := by decide +kernel
theorem dX0_fallIfSilent_30 : decode cX0_fallIfSilent 30 = .ok (.getfield 12, 3) := by decide +kernel
theorem dX0_fallIfSilent_33 : decode cX0_fallIfSilent 33 = .ok (.iconst 0, 1) := by decide +kernel
theorem dX0_fallIfSilent_34 : decode cX0_fallIfSilent 34 = .ok (.putfield 71, 3) := by decide +kernel
theorem dX0_fallIfSilent_37 : decode cX0_fallIfSilent 37 = .ok (.return_, 1) := by decide +kernel
theorem dX0_takeSetting_0 : decode cX0_takeSetting 0 = .ok (.iload_n 1, 1) := by decide +kernel
theorem dX0_takeSetting_1 : decode cX0_takeSetting 1 = .ok (.ifCond .ne 35, 3) := by decide +kernel
theorem dX0_takeSetting_4 : decode cX0_takeSetting 4 = .ok (.aload_n 0, 1) := by decide +kernel
theorem dX0_takeSetting_5 : decode cX0_takeSetting 5 = .ok (.iload_n 2, 1) := by decide +kernel
theorem dX0_takeSetting_6 : decode cX0_takeSetting 6 = .ok (.putfield 18, 3) := by decide +kernel
theorem dX0_takeSetting_9 : decode cX0_takeSetting 9 = .ok (.aload_n 0, 1) := by decide +kernel
theorem dX0_takeSetting_10 : decode cX0_takeSetting 10 = .ok (.aload_n 0, 1) := by decide +kernel
theorem dX0_takeSetting_11 : decode cX0_takeSetting 11 = .ok (.getfield 34, 3) := by decide +kernel
theorem dX0_takeSetting_14 : decode cX0_takeSetting 14 = .ok (.iconst 2, 1) := by decide +kernel
theorem dX0_takeSetting_15 : decode cX0_takeSetting 15 = .ok (.if_icmp .ne 14, 3) := by decide +kernel
theorem dX0_takeSetting_18 : decode cX0_takeSetting 18 = .ok (.aload_n 0, 1) := by decide +kernel
theorem dX0_takeSetting_19 : decode cX0_takeSetting 19 = .ok (.getfield 28, 3) := by decide +kernel
theorem dX0_takeSetting_22 : decode cX0_takeSetting 22 = .ok (.iload_n 2, 1) := by decide +kernel
theorem dX0_takeSetting_23 : decode cX0_takeSetting 23 = .ok (.invokestatic 114, 3) := by decide +kernel
theorem dX0_takeSetting_26 : decode cX0_takeSetting 26 = .ok (.goto 4, 3) := by decide +kernel
theorem dX0_takeSetting_29 : decode cX0_takeSetting 29 = .ok (.iload_n 2, 1) := by decide +kernel
theorem dX0_takeSetting_30 : decode cX0_takeSetting 30 = .ok (.putfield 28, 3) := by decide +kernel
theorem dX0_takeSetting_33 : decode cX0_takeSetting 33 = .ok (.goto 45, 3) := by decide +kernel
theorem dX0_takeSetting_36 : decode cX0_takeSetting 36 = .ok (.iload_n 1, 1) := by decide +kernel
theorem dX0_takeSetting_37 : decode cX0_takeSetting 37 = .ok (.iconst 1, 1) := by decide +kernel
theorem dX0_takeSetting_38 : decode cX0_takeSetting 38 = .ok (.if_icmp .ne 35, 3) := by decide +kernel
theorem dX0_takeSetting_41 : decode cX0_takeSetting 41 = .ok (.aload_n 0, 1) := by decide +kernel
theorem dX0_takeSetting_42 : decode cX0_takeSetting 42 = .ok (.iload_n 2, 1) := by decide +kernel
theorem dX0_takeSetting_43 : decode cX0_takeSetting 43 = .ok (.putfield 22, 3) := by decide +kernel
theorem dX0_takeSetting_46 : decode cX0_takeSetting 46 = .ok (.aload_n 0, 1) := by decide +kernel
theorem dX0_takeSetting_47 : decode cX0_takeSetting 47 = .ok (.aload_n 0, 1) := by decide +kernel
theorem dX0_takeSetting_48 : decode cX0_takeSetting 48 = .ok (.getfield 34, 3) := by decide +kernel
theorem dX0_takeSetting_51 : decode cX0_takeSetting 51 = .ok (.iconst 2, 1) := by decide +kernel
theorem dX0_takeSetting_52 : decode cX0_takeSetting 52 = .ok (.if_icmp .ne 14, 3) := by decide +kernel
theorem dX0_takeSetting_55 : decode cX0_takeSetting 55 = .ok (.aload_n 0, 1) := by decide +kernel
theorem dX0_takeSetting_56 : decode cX0_takeSetting 56 = .ok (.getfield 31, 3) := by decide +kernel
theorem dX0_takeSetting_59 : decode cX0_takeSetting 59 = .ok (.iload_n 2, 1) := by decide +kernel
theorem dX0_takeSetting_60 : decode cX0_takeSetting 60 = .ok (.invokestatic 73, 3) := by decide +kernel
theorem dX0_takeSetting_63 : decode cX0_takeSetting 63 = .ok (.goto 4, 3) := by decide +kernel
theorem dX0_takeSetting_66 : decode cX0_takeSetting 66 = .ok (.iload_n 2, 1) := by decide +kernel
theorem dX0_takeSetting_67 : decode cX0_takeSetting 67 = .ok (.putfield 31, 3) := by decide +kernel
theorem dX0_takeSetting_70 : decode cX0_takeSetting 70 = .ok (.goto 8, 3) := by decide +kernel
theorem dX0_takeSetting_73 : decode cX0_takeSetting 73 = .ok (.aload_n 0, 1) := by decide +kernel
theorem dX0_takeSetting_74 : decode cX0_takeSetting 74 = .ok (.iload_n 2, 1) := by decide +kernel
theorem dX0_takeSetting_75 : decode cX0_takeSetting 75 = .ok (.putfield 25, 3) := by decide +kernel
theorem dX0_takeSetting_78 : decode cX0_takeSetting 78 = .ok (.iload_n 1, 1) := by decide +kernel
theorem dX0_takeSetting_79 : decode cX0_takeSetting 79 = .ok (.iconst 2, 1) := by decide +kernel
theorem dX0_takeSetting_80 : decode cX0_takeSetting 80 = .ok (.if_icmp .eq 16, 3) := by decide +kernel
theorem dX0_takeSetting_83 : decode cX0_takeSetting 83 = .ok (.aload_n 0, 1) := by decide +kernel
theorem dX0_takeSetting_84 : decode cX0_takeSetting 84 = .ok (.getfield 34, 3) := by decide +kernel
theorem dX0_takeSetting_87 : decode cX0_takeSetting 87 = .ok (.iconst 2, 1) := by decide +kernel
theorem dX0_takeSetting_88 : decode cX0_takeSetting 88 = .ok (.if_icmp .ne 8, 3) := by decide +kernel
theorem dX0_takeSetting_91 : decode cX0_takeSetting 91 = .ok (.aload_n 0, 1) := by decide +kernel
theorem dX0_takeSetting_92 : decode cX0_takeSetting 92 = .ok (.iconst 1, 1) := by decide +kernel
theorem dX0_takeSetting_93 : decode cX0_takeSetting 93 = .ok (.putfield 43, 3) := by decide +kernel
theorem dX0_takeSetting_96 : decode cX0_takeSetting 96 = .ok (.return_, 1) := by decide +kernel
theorem dX0_turnDemand_0 : decode cX0_turnDemand 0 = .ok (.aload_n 0, 1) := by decide +kernel
theorem dX0_turnDemand_1 : decode cX0_turnDemand 1 = .ok (.aload_n 0, 1) := by decide +kernel
theorem dX0_turnDemand_2 : decode cX0_turnDemand 2 = .ok (.getfield 47, 3) := by decide +kernel
theorem dX0_turnDemand_5 : decode cX0_turnDemand 5 = .ok (.ifCond .ne 7, 3) := by decide +kernel
theorem dX0_turnDemand_8 : decode cX0_turnDemand 8 = .ok (.iconst 1, 1) := by decide +kernel
theorem dX0_turnDemand_9 : decode cX0_turnDemand 9 = .ok (.goto 4, 3) := by decide +kernel
theorem dX0_turnDemand_12 : decode cX0_turnDemand 12 = .ok (.iconst 0, 1) := by decide +kernel
theorem dX0_turnDemand_13 : decode cX0_turnDemand 13 = .ok (.putfield 47, 3) := by decide +kernel
theorem dX0_turnDemand_16 : decode cX0_turnDemand 16 = .ok (.return_, 1) := by decide +kernel
theorem dX0_canBePolled_0 : decode cX0_canBePolled 0 = .ok (.aload_n 0, 1) := by decide +kernel
theorem dX0_canBePolled_1 : decode cX0_canBePolled 1 = .ok (.getfield 34, 3) := by decide +kernel
theorem dX0_canBePolled_4 : decode cX0_canBePolled 4 = .ok (.iconst 2, 1) := by decide +kernel
theorem dX0_canBePolled_5 : decode cX0_canBePolled 5 = .ok (.if_icmp .ne 14, 3) := by decide +kernel
theorem dX0_canBePolled_8 : decode cX0_canBePolled 8 = .ok (.aload_n 0, 1) := by decide +kernel
theorem dX0_canBePolled_9 : decode cX0_canBePolled 9 = .ok (.getfield 43, 3) := by decide +kernel
theorem dX0_canBePolled_12 : decode cX0_canBePolled 12 = .ok (.ifCond .ne 7, 3) := by decide +kernel
theorem dX0_canBePolled_15 : decode cX0_canBePolled 15 = .ok (.iconst 1, 1) := by decide +kernel
theorem dX0_canBePolled_16 : decode cX0_canBePolled 16 = .ok (.goto 4, 3) := by decide +kernel
theorem dX0_canBePolled_19 : decode cX0_canBePolled 19 = .ok (.iconst 0, 1) := by decide +kernel
theorem dX0_canBePolled_20 : decode cX0_canBePolled 20 = .ok (.ireturn, 1) := by decide +kernel
theorem dX0_startPoll_0 : decode cX0_startPoll 0 = .ok (.aload_n 0, 1) := by decide +kernel
theorem dX0_startPoll_1 : decode cX0_startPoll 1 = .ok (.iconst 1, 1) := by decide +kernel
theorem dX0_startPoll_2 : decode cX0_startPoll 2 = .ok (.putfield 43, 3) := by decide +kernel
theorem dX0_startPoll_5 : decode cX0_startPoll 5 = .ok (.aload_n 0, 1) := by decide +kernel
theorem dX0_startPoll_6 : decode cX0_startPoll 6 = .ok (.iconst 0, 1) := by decide +kernel
theorem dX0_startPoll_7 : decode cX0_startPoll 7 = .ok (.putfield 37, 3) := by decide +kernel
theorem dX0_startPoll_10 : decode cX0_startPoll 10 = .ok (.aload_n 0, 1) := by decide +kernel
theorem dX0_startPoll_11 : decode cX0_startPoll 11 = .ok (.iconst 0, 1) := by decide +kernel
theorem dX0_startPoll_12 : decode cX0_startPoll 12 = .ok (.putfield 40, 3) := by decide +kernel
theorem dX0_startPoll_15 : decode cX0_startPoll 15 = .ok (.return_, 1) := by decide +kernel
theorem dX0_leaveOnly_0 : decode cX0_leaveOnly 0 = .ok (.iload_n 1, 1) := by decide +kernel
theorem dX0_leaveOnly_1 : decode cX0_leaveOnly 1 = .ok (.ifCond .ne 13, 3) := by decide +kernel
theorem dX0_leaveOnly_4 : decode cX0_leaveOnly 4 = .ok (.aload_n 0, 1) := by decide +kernel
theorem dX0_leaveOnly_5 : decode cX0_leaveOnly 5 = .ok (.iconst 1, 1) := by decide +kernel
theorem dX0_leaveOnly_6 : decode cX0_leaveOnly 6 = .ok (.putfield 18, 3) := by decide +kernel
theorem dX0_leaveOnly_9 : decode cX0_leaveOnly 9 = .ok (.aload_n 0, 1) := by decide +kernel
theorem dX0_leaveOnly_10 : decode cX0_leaveOnly 10 = .ok (.iconst 1, 1) := by decide +kernel
theorem dX0_leaveOnly_11 : decode cX0_leaveOnly 11 = .ok (.putfield 28, 3) := by decide +kernel
theorem dX0_leaveOnly_14 : decode cX0_leaveOnly 14 = .ok (.iload_n 2, 1) := by decide +kernel
theorem dX0_leaveOnly_15 : decode cX0_leaveOnly 15 = .ok (.ifCond .ne 13, 3) := by decide +kernel
theorem dX0_leaveOnly_18 : decode cX0_leaveOnly 18 = .ok (.aload_n 0, 1) := by decide +kernel
theorem dX0_leaveOnly_19 : decode cX0_leaveOnly 19 = .ok (.iconst 1, 1) := by decide +kernel
theorem dX0_leaveOnly_20 : decode cX0_leaveOnly 20 = .ok (.putfield 22, 3) := by decide +kernel
theorem dX0_leaveOnly_23 : decode cX0_leaveOnly 23 = .ok (.aload_n 0, 1) := by decide +kernel
theorem dX0_leaveOnly_24 : decode cX0_leaveOnly 24 = .ok (.iconst 1, 1) := by decide +kernel
theorem dX0_leaveOnly_25 : decode cX0_leaveOnly 25 = .ok (.putfield 31, 3) := by decide +kernel
theorem dX0_leaveOnly_28 : decode cX0_leaveOnly 28 = .ok (.return_, 1) := by decide +kernel
theorem dX1_init_0 : decode cX1_init 0 = .ok (.aload_n 0, 1) := by decide +kernel
theorem dX1_init_1 : decode cX1_init 1 = .ok (.invokespecial 3, 3) := by decide +kernel
theorem dX1_init_4 : decode cX1_init 4 = .ok (.aload_n 0, 1) := by decide +kernel
theorem dX1_init_5 : decode cX1_init 5 = .ok (.bipush 6, 2) := by decide +kernel
theorem dX1_init_7 : decode cX1_init 7 = .ok (.newarray .int, 2) := by decide +kernel
theorem dX1_init_9 : decode cX1_init 9 = .ok (.putfield 9, 3) := by decide +kernel
theorem dX1_init_12 : decode cX1_init 12 = .ok (.aload_n 0, 1) := by decide +kernel
theorem dX1_init_13 : decode cX1_init 13 = .ok (.bipush 6, 2) := by decide +kernel
theorem dX1_init_15 : decode cX1_init 15 = .ok (.newarray .int, 2) := by decide +kernel
theorem dX1_init_17 : decode cX1_init 17 = .ok (.putfield 15, 3) := by decide +kernel
theorem dX1_init_20 : decode cX1_init 20 = .ok (.aload_n 0, 1) := by decide +kernel
theorem dX1_init_21 : decode cX1_init 21 = .ok (.bipush 6, 2) := by decide +kernel
theorem dX1_init_23 : decode cX1_init 23 = .ok (.newarray .int, 2) := by decide +kernel
theorem dX1_init_25 : decode cX1_init 25 = .ok (.putfield 18, 3) := by decide +kernel
theorem dX1_init_28 : decode cX1_init 28 = .ok (.return_, 1) := by decide +kernel
theorem dX1_add_0 : decode cX1_add 0 = .ok (.aload_n 0, 1) := by decide +kernel
theorem dX1_add_1 : decode cX1_add 1 = .ok (.getfield 21, 3) := by decide +kernel
theorem dX1_add_4 : decode cX1_add 4 = .ok (.ifCond .lt 52, 3) := by decide +kernel
theorem dX1_add_7 : decode cX1_add 7 = .ok (.aload_n 0, 1) := by decide +kernel
theorem dX1_add_8 : decode cX1_add 8 = .ok (.getfield 21, 3) := by decide +kernel
theorem dX1_add_11 : decode cX1_add 11 = .ok (.bipush 6, 2) := by decide +kernel
theorem dX1_add_13 : decode cX1_add 13 = .ok (.if_icmp .ge 43, 3) := by decide +kernel
theorem dX1_add_16 : decode cX1_add 16 = .ok (.aload_n 0, 1) := by decide +kernel
theorem dX1_add_17 : decode cX1_add 17 = .ok (.getfield 9, 3) := by decide +kernel
theorem dX1_add_20 : decode cX1_add 20 = .ok (.aload_n 0, 1) := by decide +kernel
theorem dX1_add_21 : decode cX1_add 21 = .ok (.getfield 21, 3) := by decide +kernel
theorem dX1_add_24 : decode cX1_add 24 = .ok (.iload_n 1, 1) := by decide +kernel
theorem dX1_add_25 : decode cX1_add 25 = .ok (.iastore, 1) := by decide +kernel
theorem dX1_add_26 : decode cX1_add 26 = .ok (.aload_n 0, 1) := by decide +kernel
theorem dX1_add_27 : decode cX1_add 27 = .ok (.getfield 15, 3) := by decide +kernel
theorem dX1_add_30 : decode cX1_add 30 = .ok (.aload_n 0, 1) := by decide +kernel
theorem dX1_add_31 : decode cX1_add 31 = .ok (.getfield 21, 3) := by decide +kernel
theorem dX1_add_34 : decode cX1_add 34 = .ok (.iload_n 2, 1) := by decide +kernel
theorem dX1_add_35 : decode cX1_add 35 = .ok (.iastore, 1) := by decide +kernel
theorem dX1_add_36 : decode cX1_add 36 = .ok (.aload_n 0, 1) := by decide +kernel
theorem dX1_add_37 : decode cX1_add 37 = .ok (.getfield 18, 3) := by decide +kernel
theorem dX1_add_40 : decode cX1_add 40 = .ok (.aload_n 0, 1) := by decide +kernel
theorem dX1_add_41 : decode cX1_add 41 = .ok (.getfield 21, 3) := by decide +kernel
theorem dX1_add_44 : decode cX1_add 44 = .ok (.iload_n 3, 1) := by decide +kernel
theorem dX1_add_45 : decode cX1_add 45 = .ok (.iastore, 1) := by decide +kernel
theorem dX1_add_46 : decode cX1_add 46 = .ok (.aload_n 0, 1) := by decide +kernel
theorem dX1_add_47 : decode cX1_add 47 = .ok (.dup, 1) := by decide +kernel
theorem dX1_add_48 : decode cX1_add 48 = .ok (.getfield 21, 3) := by decide +kernel
theorem dX1_add_51 : decode cX1_add 51 = .ok (.iconst 1, 1) := by decide +kernel
theorem dX1_add_52 : decode cX1_add 52 = .ok (.iadd, 1) := by decide +kernel
theorem dX1_add_53 : decode cX1_add 53 = .ok (.putfield 21, 3) := by decide +kernel
theorem dX1_add_56 : decode cX1_add 56 = .ok (.return_, 1) := by decide +kernel
theorem dX1_holdIn_0 : decode cX1_holdIn 0 = .ok (.aload_n 0, 1) := by decide +kernel
theorem dX1_holdIn_1 : decode cX1_holdIn 1 = .ok (.invokevirtual 25, 3) := by decide +kernel
theorem dX1_holdIn_4 : decode cX1_holdIn 4 = .ok (.istore_n 2, 1) := by decide +kernel
theorem dX1_holdIn_5 : decode cX1_holdIn 5 = .ok (.iconst 0, 1) := by decide +kernel
theorem dX1_holdIn_6 : decode cX1_holdIn 6 = .ok (.istore_n 3, 1) := by decide +kernel
theorem dX1_holdIn_7 : decode cX1_holdIn 7 = .ok (.iload_n 3, 1) := by decide +kernel
theorem dX1_holdIn_8 : decode cX1_holdIn 8 = .ok (.iload_n 2, 1) := by decide +kernel
theorem dX1_holdIn_9 : decode cX1_holdIn 9 = .ok (.if_icmp .gt 30, 3) := by decide +kernel
theorem dX1_holdIn_12 : decode cX1_holdIn 12 = .ok (.iload_n 3, 1) := by decide +kernel
theorem dX1_holdIn_13 : decode cX1_holdIn 13 = .ok (.bipush 99, 2) := by decide +kernel
theorem dX1_holdIn_15 : decode cX1_holdIn 15 = .ok (.if_icmp .gt 24, 3) := by decide +kernel
theorem dX1_holdIn_18 : decode cX1_holdIn 18 = .ok (.aload_n 0, 1) := by decide +kernel
theorem dX1_holdIn_19 : decode cX1_holdIn 19 = .ok (.iload_n 3, 1) := by decide +kernel
theorem dX1_holdIn_20 : decode cX1_holdIn 20 = .ok (.aload_n 1, 1) := by decide +kernel
theorem dX1_holdIn_21 : decode cX1_holdIn 21 = .ok (.invokevirtual 29, 3) := by decide +kernel
theorem dX1_holdIn_24 : decode cX1_holdIn 24 = .ok (.ifCond .ne 5, 3) := by decide +kernel
theorem dX1_holdIn_27 : decode cX1_holdIn 27 = .ok (.iconst 0, 1) := by decide +kernel
theorem dX1_holdIn_28 : decode cX1_holdIn 28 = .ok (.ireturn, 1) := by decide +kernel
theorem dX1_holdIn_29 : decode cX1_holdIn 29 = .ok (.aload_n 1, 1) := by decide +kernel
theorem dX1_holdIn_30 : decode cX1_holdIn 30 = .ok (.invokevirtual 33, 3) := by decide +kernel
theorem dX1_holdIn_33 : decode cX1_holdIn 33 = .ok (.iinc 3 1, 3) := by decide +kernel
theorem dX1_holdIn_36 : decode cX1_holdIn 36 = .ok (.goto (-29), 3) := by decide +kernel
theorem dX1_holdIn_39 : decode cX1_holdIn 39 = .ok (.iconst 1, 1) := by decide +kernel
theorem dX1_holdIn_40 : decode cX1_holdIn 40 = .ok (.ireturn, 1) := by decide +kernel
theorem dX1_lastTick_0 : decode cX1_lastTick 0 = .ok (.iconst (-1), 1) := by decide +kernel
theorem dX1_lastTick_1 : decode cX1_lastTick 1 = .ok (.istore_n 1, 1) := by decide +kernel
theorem dX1_lastTick_2 : decode cX1_lastTick 2 = .ok (.iconst 0, 1) := by decide +kernel
theorem dX1_lastTick_3 : decode cX1_lastTick 3 = .ok (.istore_n 2, 1) := by decide +kernel
theorem dX1_lastTick_4 : decode cX1_lastTick 4 = .ok (.iload_n 2, 1) := by decide +kernel
theorem dX1_lastTick_5 : decode cX1_lastTick 5 = .ok (.aload_n 0, 1) := by decide +kernel
theorem dX1_lastTick_6 : decode cX1_lastTick 6 = .ok (.getfield 21, 3) := by decide +kernel
theorem dX1_lastTick_9 : decode cX1_lastTick 9 = .ok (.if_icmp .ge 26, 3) := by decide +kernel
theorem dX1_lastTick_12 : decode cX1_lastTick 12 = .ok (.iload_n 2, 1) := by decide +kernel
theorem dX1_lastTick_13 : decode cX1_lastTick 13 = .ok (.bipush 6, 2) := by decide +kernel
theorem dX1_lastTick_15 : decode cX1_lastTick 15 = .ok (.if_icmp .ge 20, 3) := by decide +kernel
theorem dX1_lastTick_18 : decode cX1_lastTick 18 = .ok (.iload_n 1, 1) := by decide +kernel
theorem dX1_lastTick_19 : decode cX1_lastTick 19 = .ok (.aload_n 0, 1) := by decide +kernel
theorem dX1_lastTick_20 : decode cX1_lastTick 20 = .ok (.getfield 9, 3) := by decide +kernel
theorem dX1_lastTick_23 : decode cX1_lastTick 23 = .ok (.iload_n 2, 1) := by decide +kernel
theorem dX1_lastTick_24 : decode cX1_lastTick 24 = .ok (.iaload, 1) := by decide +kernel
theorem dX1_lastTick_25 : decode cX1_lastTick 25 = .ok (.invokestatic 38, 3) := by decide +kernel
theorem dX1_lastTick_28 : decode cX1_lastTick 28 = .ok (.istore_n 1, 1) := by decide +kernel
theorem dX1_lastTick_29 : decode cX1_lastTick 29 = .ok (.iinc 2 1, 3) := by decide +kernel
theorem dX1_lastTick_32 : decode cX1_lastTick 32 = .ok (.goto (-28), 3) := by decide +kernel
theorem dX1_lastTick_35 : decode cX1_lastTick 35 = .ok (.iload_n 1, 1) := by decide +kernel
theorem dX1_lastTick_36 : decode cX1_lastTick 36 = .ok (.ireturn, 1) := by decide +kernel
theorem dX1_holdAt_0 : decode cX1_holdAt 0 = .ok (.iconst 0, 1) := by decide +kernel
theorem dX1_holdAt_1 : decode cX1_holdAt 1 = .ok (.istore_n 3, 1) := by decide +kernel
theorem dX1_holdAt_2 : decode cX1_holdAt 2 = .ok (.iload_n 3, 1) := by decide +kernel
theorem dX1_holdAt_3 : decode cX1_holdAt 3 = .ok (.aload_n 0, 1) := by decide +kernel
theorem dX1_holdAt_4 : decode cX1_holdAt 4 = .ok (.getfield 21, 3) := by decide +kernel
theorem dX1_holdAt_7 : decode cX1_holdAt 7 = .ok (.if_icmp .ge 49, 3) := by decide +kernel
theorem dX1_holdAt_10 : decode cX1_holdAt 10 = .ok (.iload_n 3, 1) := by decide +kernel
theorem dX1_holdAt_11 : decode cX1_holdAt 11 = .ok (.bipush 6, 2) := by decide +kernel
theorem dX1_holdAt_13 : decode cX1_holdAt 13 = .ok (.if_icmp .ge 43, 3) := by decide +kernel
theorem dX1_holdAt_16 : decode cX1_holdAt 16 = .ok (.aload_n 0, 1) := by decide +kernel
theorem dX1_holdAt_17 : decode cX1_holdAt 17 = .ok (.getfield 9, 3) := by decide +kernel
theorem dX1_holdAt_20 : decode cX1_holdAt 20 = .ok (.iload_n 3, 1) := by decide +kernel
theorem dX1_holdAt_21 : decode cX1_holdAt 21 = .ok (.iaload, 1) := by decide +kernel
theorem dX1_holdAt_22 : decode cX1_holdAt 22 = .ok (.iload_n 1, 1) := by decide +kernel
theorem dX1_holdAt_23 : decode cX1_holdAt 23 = .ok (.if_icmp .ne 27, 3) := by decide +kernel
theorem dX1_holdAt_26 : decode cX1_holdAt 26 = .ok (.aload_n 2, 1) := by decide +kernel
theorem dX1_holdAt_27 : decode cX1_holdAt 27 = .ok (.aload_n 0, 1) := by decide +kernel
theorem dX1_holdAt_28 : decode cX1_holdAt 28 = .ok (.getfield 15, 3) := by decide +kernel
theorem dX1_holdAt_31 : decode cX1_holdAt 31 = .ok (.iload_n 3, 1) := by decide +kernel
theorem dX1_holdAt_32 : decode cX1_holdAt 32 = .ok (.iaload, 1) := by decide +kernel
theorem dX1_holdAt_33 : decode cX1_holdAt 33 = .ok (.invokevirtual 44, 3) := by decide +kernel
theorem dX1_holdAt_36 : decode cX1_holdAt 36 = .ok (.getfield 48, 3) := by decide +kernel
theorem dX1_holdAt_39 : decode cX1_holdAt 39 = .ok (.aload_n 0, 1) := by decide +kernel
theorem dX1_holdAt_40 : decode cX1_holdAt 40 = .ok (.getfield 18, 3) := by decide +kernel
theorem dX1_holdAt_43 : decode cX1_holdAt 43 = .ok (.iload_n 3, 1) := by decide +kernel
theorem dX1_holdAt_44 : decode cX1_holdAt 44 = .ok (.iaload, 1) := by decide +kernel
theorem dX1_holdAt_45 : decode cX1_holdAt 45 = .ok (.if_icmp .eq 5, 3) := by decide +kernel
theorem dX1_holdAt_48 : decode cX1_holdAt 48 = .ok (.iconst 0, 1) := by decide +kernel
theorem dX1_holdAt_49 : decode cX1_holdAt 49 = .ok (.ireturn, 1) := by decide +kernel
theorem dX1_holdAt_50 : decode cX1_holdAt 50 = .ok (.iinc 3 1, 3) := by decide +kernel
theorem dX1_holdAt_53 : decode cX1_holdAt 53 = .ok (.goto (-51), 3) := by decide +kernel
theorem dX1_holdAt_56 : decode cX1_holdAt 56 = .ok (.iconst 1, 1) := by decide +kernel
theorem dX1_holdAt_57 : decode cX1_holdAt 57 = .ok (.ireturn, 1) := by decide +kernel
theorem dX2_init_0 : decode cX2_init 0 = .ok (.aload_n 0, 1) := by decide +kernel
theorem dX2_init_1 : decode cX2_init 1 = .ok (.invokespecial 3, 3) := by decide +kernel
theorem dX2_init_4 : decode cX2_init 4 = .ok (.return_, 1) := by decide +kernel
theorem dX2_reset_0 : decode cX2_reset 0 = .ok (.aload_n 0, 1) := by decide +kernel
theorem dX2_reset_1 : decode cX2_reset 1 = .ok (.iconst 0, 1) := by decide +kernel
theorem dX2_reset_2 : decode cX2_reset 2 = .ok (.putfield 9, 3) := by decide +kernel
theorem dX2_reset_5 : decode cX2_reset 5 = .ok (.aload_n 0, 1) := by decide +kernel
theorem dX2_reset_6 : decode cX2_reset 6 = .ok (.iconst 1, 1) := by decide +kernel
theorem dX2_reset_7 : decode cX2_reset 7 = .ok (.putfield 15, 3) := by decide +kernel
theorem dX2_reset_10 : decode cX2_reset 10 = .ok (.aload_n 0, 1) := by decide +kernel
theorem dX2_reset_11 : decode cX2_reset 11 = .ok (.iconst 1, 1) := by decide +kernel
theorem dX2_reset_12 : decode cX2_reset 12 = .ok (.putfield 18, 3) := by decide +kernel
theorem dX2_reset_15 : decode cX2_reset 15 = .ok (.aload_n 0, 1) := by decide +kernel
theorem dX2_reset_16 : decode cX2_reset 16 = .ok (.iconst 1, 1) := by decide +kernel
theorem dX2_reset_17 : decode cX2_reset 17 = .ok (.putfield 21, 3) := by decide +kernel
theorem dX2_reset_20 : decode cX2_reset 20 = .ok (.aload_n 0, 1) := by decide +kernel
theorem dX2_reset_21 : decode cX2_reset 21 = .ok (.iconst 0, 1) := by decide +kernel
theorem dX2_reset_22 : decode cX2_reset 22 = .ok (.putfield 24, 3) := by decide +kernel
theorem dX2_reset_25 : decode cX2_reset 25 = .ok (.return_, 1) := by decide +kernel
theorem dX2_copyFrom_0 : decode cX2_copyFrom 0 = .ok (.aload_n 0, 1) := by decide +kernel
theorem dX2_copyFrom_1 : decode cX2_copyFrom 1 = .ok (.aload_n 1, 1) := by decide +kernel
theorem dX2_copyFrom_2 : decode cX2_copyFrom 2 = .ok (.getfield 9, 3) := by decide +kernel
theorem dX2_copyFrom_5 : decode cX2_copyFrom 5 = .ok (.putfield 9, 3) := by decide +kernel
theorem dX2_copyFrom_8 : decode cX2_copyFrom 8 = .ok (.aload_n 0, 1) := by decide +kernel
theorem dX2_copyFrom_9 : decode cX2_copyFrom 9 = .ok (.aload_n 1, 1) := by decide +kernel
theorem dX2_copyFrom_10 : decode cX2_copyFrom 10 = .ok (.getfield 15, 3) := by decide +kernel
theorem dX2_copyFrom_13 : decode cX2_copyFrom 13 = .ok (.putfield 15, 3) := by decide +kernel
theorem dX2_copyFrom_16 : decode cX2_copyFrom 16 = .ok (.aload_n 0, 1) := by decide +kernel
theorem dX2_copyFrom_17 : decode cX2_copyFrom 17 = .ok (.aload_n 1, 1) := by decide +kernel
theorem dX2_copyFrom_18 : decode cX2_copyFrom 18 = .ok (.getfield 18, 3) := by decide +kernel
theorem dX2_copyFrom_21 : decode cX2_copyFrom 21 = .ok (.putfield 18, 3) := by decide +kernel
theorem dX2_copyFrom_24 : decode cX2_copyFrom 24 = .ok (.aload_n 0, 1) := by decide +kernel
theorem dX2_copyFrom_25 : decode cX2_copyFrom 25 = .ok (.aload_n 1, 1) := by decide +kernel
theorem dX2_copyFrom_26 : decode cX2_copyFrom 26 = .ok (.getfield 21, 3) := by decide +kernel
theorem dX2_copyFrom_29 : decode cX2_copyFrom 29 = .ok (.putfield 21, 3) := by decide +kernel
theorem dX2_copyFrom_32 : decode cX2_copyFrom 32 = .ok (.aload_n 0, 1) := by decide +kernel
theorem dX2_copyFrom_33 : decode cX2_copyFrom 33 = .ok (.aload_n 1, 1) := by decide +kernel
theorem dX2_copyFrom_34 : decode cX2_copyFrom 34 = .ok (.getfield 24, 3) := by decide +kernel
theorem dX2_copyFrom_37 : decode cX2_copyFrom 37 = .ok (.putfield 24, 3) := by decide +kernel
theorem dX2_copyFrom_40 : decode cX2_copyFrom 40 = .ok (.return_, 1) := by decide +kernel
theorem dX2_describe_0 : decode cX2_describe 0 = .ok (.aload_n 0, 1) := by decide +kernel
theorem dX2_describe_1 : decode cX2_describe 1 = .ok (.aload_n 1, 1) := by decide +kernel
theorem dX2_describe_2 : decode cX2_describe 2 = .ok (.getfield 28, 3) := by decide +kernel
theorem dX2_describe_5 : decode cX2_describe 5 = .ok (.putfield 9, 3) := by decide +kernel
theorem dX2_describe_8 : decode cX2_describe 8 = .ok (.aload_n 0, 1) := by decide +kernel
theorem dX2_describe_9 : decode cX2_describe 9 = .ok (.aload_n 1, 1) := by decide +kernel
theorem dX2_describe_10 : decode cX2_describe 10 = .ok (.getfield 31, 3) := by decide +kernel
theorem dX2_describe_13 : decode cX2_describe 13 = .ok (.putfield 15, 3) := by decide +kernel
theorem dX2_describe_16 : decode cX2_describe 16 = .ok (.aload_n 0, 1) := by decide +kernel
theorem dX2_describe_17 : decode cX2_describe 17 = .ok (.aload_n 1, 1) := by decide +kernel
theorem dX2_describe_18 : decode cX2_describe 18 = .ok (.getfield 32, 3) := by decide +kernel
theorem dX2_describe_21 : decode cX2_describe 21 = .ok (.putfield 18, 3) := by decide +kernel
theorem dX2_describe_24 : decode cX2_describe 24 = .ok (.aload_n 0, 1) := by decide +kernel
theorem dX2_describe_25 : decode cX2_describe 25 = .ok (.aload_n 1, 1) := by decide +kernel
theorem dX2_describe_26 : decode cX2_describe 26 = .ok (.getfield 33, 3) := by decide +kernel
theorem dX2_describe_29 : decode cX2_describe 29 = .ok (.putfield 21, 3) := by decide +kernel
theorem dX2_describe_32 : decode cX2_describe 32 = .ok (.aload_n 0, 1) := by decide +kernel
theorem dX2_describe_33 : decode cX2_describe 33 = .ok (.aload_n 1, 1) := by decide +kernel
theorem dX2_describe_34 : decode cX2_describe 34 = .ok (.getfield 34, 3) := by decide +kernel
theorem dX2_describe_37 : decode cX2_describe 37 = .ok (.putfield 24, 3) := by decide +kernel
theorem dX2_describe_40 : decode cX2_describe 40 = .ok (.return_, 1) := by decide +kernel
theorem dX2_numberOf_0 : decode cX2_numberOf 0 = .ok (.iload_n 1, 1) := by decide +kernel
theorem dX2_numberOf_1 : decode cX2_numberOf 1 = .ok (.tableswitch 51 0 3 #[31, 36, 41, 46], 31) := by decide +kernel
theorem dX2_numberOf_32 : decode cX2_numberOf 32 = .ok (.aload_n 0, 1) := by decide +kernel
theorem dX2_numberOf_33 : decode cX2_numberOf 33 = .ok (.getfield 9, 3) := by decide +kernel
theorem dX2_numberOf_36 : decode cX2_numberOf 36 = .ok (.ireturn, 1) := by decide +kernel
theorem dX2_numberOf_37 : decode cX2_numberOf 37 = .ok (.aload_n 0, 1) := by decide +kernel
theorem dX2_numberOf_38 : decode cX2_numberOf 38 = .ok (.getfield 15, 3) := by decide +kernel
theorem dX2_numberOf_41 : decode cX2_numberOf 41 = .ok (.ireturn, 1) := by decide +kernel
theorem dX2_numberOf_42 : decode cX2_numberOf 42 = .ok (.aload_n 0, 1) := by decide +kernel
theorem dX2_numberOf_43 : decode cX2_numberOf 43 = .ok (.getfield 18, 3) := by decide +kernel
theorem dX2_numberOf_46 : decode cX2_numberOf 46 = .ok (.ireturn, 1) := by decide +kernel
theorem dX2_numberOf_47 : decode cX2_numberOf 47 = .ok (.aload_n 0, 1) := by decide +kernel
theorem dX2_numberOf_48 : decode cX2_numberOf 48 = .ok (.getfield 21, 3) := by decide +kernel
theorem dX2_numberOf_51 : decode cX2_numberOf 51 = .ok (.ireturn, 1) := by decide +kernel
theorem dX2_numberOf_52 : decode cX2_numberOf 52 = .ok (.aload_n 0, 1) := by decide +kernel
theorem dX2_numberOf_53 : decode cX2_numberOf 53 = .ok (.getfield 24, 3) := by decide +kernel
theorem dX2_numberOf_56 : decode cX2_numberOf 56 = .ok (.invokestatic 37, 3) := by decide +kernel
theorem dX2_numberOf_59 : decode cX2_numberOf 59 = .ok (.ireturn, 1) := by decide +kernel
theorem dX3_init_0 : decode cX3_init 0 = .ok (.aload_n 0, 1) := by decide +kernel
theorem dX3_init_1 : decode cX3_init 1 = .ok (.invokespecial 3, 3) := by decide +kernel
theorem dX3_init_4 : decode cX3_init 4 = .ok (.aload_n 0, 1) := by decide +kernel
theorem dX3_init_5 : decode cX3_init 5 = .ok (.bipush 70, 2) := by decide +kernel
theorem dX3_init_7 : decode cX3_init 7 = .ok (.newarray .int, 2) := by decide +kernel
theorem dX3_init_9 : decode cX3_init 9 = .ok (.putfield 9, 3) := by decide +kernel
theorem dX3_init_12 : decode cX3_init 12 = .ok (.return_, 1) := by decide +kernel
theorem dX3_add_0 : decode cX3_add 0 = .ok (.aload_n 0, 1) := by decide +kernel
theorem dX3_add_1 : decode cX3_add 1 = .ok (.getfield 15, 3) := by decide +kernel
theorem dX3_add_4 : decode cX3_add 4 = .ok (.ifCond .lt 32, 3) := by decide +kernel
theorem dX3_add_7 : decode cX3_add 7 = .ok (.aload_n 0, 1) := by decide +kernel
theorem dX3_add_8 : decode cX3_add 8 = .ok (.getfield 15, 3) := by decide +kernel
theorem dX3_add_11 : decode cX3_add 11 = .ok (.bipush 70, 2) := by decide +kernel
theorem dX3_add_13 : decode cX3_add 13 = .ok (.if_icmp .ge 23, 3) := by decide +kernel
theorem dX3_add_16 : decode cX3_add 16 = .ok (.aload_n 0, 1) := by decide +kernel
theorem dX3_add_17 : decode cX3_add 17 = .ok (.getfield 9, 3) := by decide +kernel
theorem dX3_add_20 : decode cX3_add 20 = .ok (.aload_n 0, 1) := by decide +kernel
theorem dX3_add_21 : decode cX3_add 21 = .ok (.getfield 15, 3) := by decide +kernel
theorem dX3_add_24 : decode cX3_add 24 = .ok (.iload_n 1, 1) := by decide +kernel
theorem dX3_add_25 : decode cX3_add 25 = .ok (.iastore, 1) := by decide +kernel
theorem dX3_add_26 : decode cX3_add 26 = .ok (.aload_n 0, 1) := by decide +kernel
theorem dX3_add_27 : decode cX3_add 27 = .ok (.dup, 1) := by decide +kernel
theorem dX3_add_28 : decode cX3_add 28 = .ok (.getfield 15, 3) := by decide +kernel
theorem dX3_add_31 : decode cX3_add 31 = .ok (.iconst 1, 1) := by decide +kernel
theorem dX3_add_32 : decode cX3_add 32 = .ok (.iadd, 1) := by decide +kernel
theorem dX3_add_33 : decode cX3_add 33 = .ok (.putfield 15, 3) := by decide +kernel
theorem dX3_add_36 : decode cX3_add 36 = .ok (.return_, 1) := by decide +kernel
theorem dX3_faultPlace_0 : decode cX3_faultPlace 0 = .ok (.iconst 0, 1) := by decide +kernel
theorem dX3_faultPlace_1 : decode cX3_faultPlace 1 = .ok (.istore_n 1, 1) := by decide +kernel
theorem dX3_faultPlace_2 : decode cX3_faultPlace 2 = .ok (.iconst 0, 1) := by decide +kernel
theorem dX3_faultPlace_3 : decode cX3_faultPlace 3 = .ok (.istore_n 2, 1) := by decide +kernel
theorem dX3_faultPlace_4 : decode cX3_faultPlace 4 = .ok (.iload_n 2, 1) := by decide +kernel
theorem dX3_faultPlace_5 : decode cX3_faultPlace 5 = .ok (.aload_n 0, 1) := by decide +kernel
theorem dX3_faultPlace_6 : decode cX3_faultPlace 6 = .ok (.getfield 15, 3) := by decide +kernel
theorem dX3_faultPlace_9 : decode cX3_faultPlace 9 = .ok (.if_icmp .ge 73, 3) := by decide +kernel
theorem dX3_faultPlace_12 : decode cX3_faultPlace 12 = .ok (.iload_n 2, 1) := by decide +kernel
theorem dX3_faultPlace_13 : decode cX3_faultPlace 13 = .ok (.bipush 70, 2) := by decide +kernel
theorem dX3_faultPlace_15 : decode cX3_faultPlace 15 = .ok (.if_icmp .ge 67, 3) := by decide +kernel
theorem dX3_faultPlace_18 : decode cX3_faultPlace 18 = .ok (.aload_n 0, 1) := by decide +kernel
theorem dX3_faultPlace_19 : decode cX3_faultPlace 19 = .ok (.getfield 9, 3) := by decide +kernel
theorem dX3_faultPlace_22 : decode cX3_faultPlace 22 = .ok (.iload_n 2, 1) := by decide +kernel
theorem dX3_faultPlace_23 : decode cX3_faultPlace 23 = .ok (.iaload, 1) := by decide +kernel
theorem dX3_faultPlace_24 : decode cX3_faultPlace 24 = .ok (.istore_n 3, 1) := by decide +kernel
theorem dX3_faultPlace_25 : decode cX3_faultPlace 25 = .ok (.iload_n 2, 1) := by decide +kernel
theorem dX3_faultPlace_26 : decode cX3_faultPlace 26 = .ok (.bipush 7, 2) := by decide +kernel
theorem dX3_faultPlace_28 : decode cX3_faultPlace 28 = .ok (.if_icmp .ge 14, 3) := by decide +kernel
theorem dX3_faultPlace_31 : decode cX3_faultPlace 31 = .ok (.iload_n 2, 1) := by decide +kernel
theorem dX3_faultPlace_32 : decode cX3_faultPlace 32 = .ok (.iload_n 3, 1) := by decide +kernel
theorem dX3_faultPlace_33 : decode cX3_faultPlace 33 = .ok (.invokestatic 19, 3) := by decide +kernel
theorem dX3_faultPlace_36 : decode cX3_faultPlace 36 = .ok (.ifCond .ne 16, 3) := by decide +kernel
theorem dX3_faultPlace_39 : decode cX3_faultPlace 39 = .ok (.goto 11, 3) := by decide +kernel
theorem dX3_faultPlace_42 : decode cX3_faultPlace 42 = .ok (.iload_n 1, 1) := by decide +kernel
theorem dX3_faultPlace_43 : decode cX3_faultPlace 43 = .ok (.iload_n 3, 1) := by decide +kernel
theorem dX3_faultPlace_44 : decode cX3_faultPlace 44 = .ok (.invokestatic 23, 3) := by decide +kernel
theorem dX3_faultPlace_47 : decode cX3_faultPlace 47 = .ok (.ifCond .ne 5, 3) := by decide +kernel
theorem dX3_faultPlace_50 : decode cX3_faultPlace 50 = .ok (.iload_n 2, 1) := by decide +kernel
theorem dX3_faultPlace_51 : decode cX3_faultPlace 51 = .ok (.ireturn, 1) := by decide +kernel
theorem dX3_faultPlace_52 : decode cX3_faultPlace 52 = .ok (.iload_n 2, 1) := by decide +kernel
theorem dX3_faultPlace_53 : decode cX3_faultPlace 53 = .ok (.bipush 7, 2) := by decide +kernel
theorem dX3_faultPlace_55 : decode cX3_faultPlace 55 = .ok (.if_icmp .lt 19, 3) := by decide +kernel
theorem dX3_faultPlace_58 : decode cX3_faultPlace 58 = .ok (.iload_n 3, 1) := by decide +kernel
theorem dX3_faultPlace_59 : decode cX3_faultPlace 59 = .ok (.bipush 100, 2) := by decide +kernel
theorem dX3_faultPlace_61 : decode cX3_faultPlace 61 = .ok (.if_icmp .eq 9, 3) := by decide +kernel
theorem dX3_faultPlace_64 : decode cX3_faultPlace 64 = .ok (.iload_n 3, 1) := by decide +kernel
theorem dX3_faultPlace_65 : decode cX3_faultPlace 65 = .ok (.bipush 119, 2) := by decide +kernel
theorem dX3_faultPlace_67 : decode cX3_faultPlace 67 = .ok (.if_icmp .ne 7, 3) := by decide +kernel
theorem dX3_faultPlace_70 : decode cX3_faultPlace 70 = .ok (.iconst 1, 1) := by decide +kernel
theorem dX3_faultPlace_71 : decode cX3_faultPlace 71 = .ok (.goto 4, 3) := by decide +kernel
theorem dX3_faultPlace_74 : decode cX3_faultPlace 74 = .ok (.iconst 0, 1) := by decide +kernel
theorem dX3_faultPlace_75 : decode cX3_faultPlace 75 = .ok (.istore_n 1, 1) := by decide +kernel
theorem dX3_faultPlace_76 : decode cX3_faultPlace 76 = .ok (.iinc 2 1, 3) := by decide +kernel
theorem dX3_faultPlace_79 : decode cX3_faultPlace 79 = .ok (.goto (-75), 3) := by decide +kernel
theorem dX3_faultPlace_82 : decode cX3_faultPlace 82 = .ok (.aload_n 0, 1) := by decide +kernel
theorem dX3_faultPlace_83 : decode cX3_faultPlace 83 = .ok (.getfield 15, 3) := by decide +kernel
theorem dX3_faultPlace_86 : decode cX3_faultPlace 86 = .ok (.bipush 7, 2) := by decide +kernel
theorem dX3_faultPlace_88 : decode cX3_faultPlace 88 = .ok (.if_icmp .lt 7, 3) := by decide +kernel
theorem dX3_faultPlace_91 : decode cX3_faultPlace 91 = .ok (.iload_n 1, 1) := by decide +kernel
theorem dX3_faultPlace_92 : decode cX3_faultPlace 92 = .ok (.ifCond .eq 10, 3) := by decide +kernel
theorem dX3_faultPlace_95 : decode cX3_faultPlace 95 = .ok (.aload_n 0, 1) := by decide +kernel
theorem dX3_faultPlace_96 : decode cX3_faultPlace 96 = .ok (.getfield 15, 3) := by decide +kernel
theorem dX3_faultPlace_99 : decode cX3_faultPlace 99 = .ok (.goto 5, 3) := by decide +kernel
theorem dX3_faultPlace_102 : decode cX3_faultPlace 102 = .ok (.bipush (-9), 2) := by decide +kernel
theorem dX3_faultPlace_104 : decode cX3_faultPlace 104 = .ok (.ireturn, 1) := by decide +kernel
theorem dX3_fitsHead_0 : decode cX3_fitsHead 0 = .ok (.iload_n 0, 1) := by decide +kernel
theorem dX3_fitsHead_1 : decode cX3_fitsHead 1 = .ok (.ifCond .ne 15, 3) := by decide +kernel
theorem dX3_fitsHead_4 : decode cX3_fitsHead 4 = .ok (.iload_n 1, 1) := by decide +kernel
theorem dX3_fitsHead_5 : decode cX3_fitsHead 5 = .ok (.bipush 66, 2) := by decide +kernel
theorem dX3_fitsHead_7 : decode cX3_fitsHead 7 = .ok (.if_icmp .ne 7, 3) := by decide +kernel
theorem dX3_fitsHead_10 : decode cX3_fitsHead 10 = .ok (.iconst 1, 1) := by decide +kernel
theorem dX3_fitsHead_11 : decode cX3_fitsHead 11 = .ok (.goto 4, 3) := by decide +kernel
theorem dX3_fitsHead_14 : decode cX3_fitsHead 14 = .ok (.iconst 0, 1) := by decide +kernel
theorem dX3_fitsHead_15 : decode cX3_fitsHead 15 = .ok (.ireturn, 1) := by decide +kernel
theorem dX3_fitsHead_16 : decode cX3_fitsHead 16 = .ok (.iload_n 0, 1) := by decide +kernel
theorem dX3_fitsHead_17 : decode cX3_fitsHead 17 = .ok (.iconst 3, 1) := by decide +kernel
theorem dX3_fitsHead_18 : decode cX3_fitsHead 18 = .ok (.irem, 1) := by decide +kernel
theorem dX3_fitsHead_19 : decode cX3_fitsHead 19 = .ok (.ifCond .ne 7, 3) := by decide +kernel
theorem dX3_fitsHead_22 : decode cX3_fitsHead 22 = .ok (.iconst 5, 1) := by decide +kernel
theorem dX3_fitsHead_23 : decode cX3_fitsHead 23 = .ok (.goto 5, 3) := by decide +kernel
theorem dX3_fitsHead_26 : decode cX3_fitsHead 26 = .ok (.bipush 9, 2) := by decide +kernel
theorem dX3_fitsHead_28 : decode cX3_fitsHead 28 = .ok (.istore_n 2, 1) := by decide +kernel
theorem dX3_fitsHead_29 : decode cX3_fitsHead 29 = .ok (.iload_n 1, 1) := by decide +kernel
theorem dX3_fitsHead_30 : decode cX3_fitsHead 30 = .ok (.bipush 49, 2) := by decide +kernel
theorem dX3_fitsHead_32 : decode cX3_fitsHead 32 = .ok (.if_icmp .lt 15, 3) := by decide +kernel
theorem dX3_fitsHead_35 : decode cX3_fitsHead 35 = .ok (.iload_n 1, 1) := by decide +kernel
theorem dX3_fitsHead_36 : decode cX3_fitsHead 36 = .ok (.bipush 48, 2) := by decide +kernel
theorem dX3_fitsHead_38 : decode cX3_fitsHead 38 = .ok (.iload_n 2, 1) := by decide +kernel
theorem dX3_fitsHead_39 : decode cX3_fitsHead 39 = .ok (.iadd, 1) := by decide +kernel
theorem dX3_fitsHead_40 : decode cX3_fitsHead 40 = .ok (.if_icmp .gt 7, 3) := by decide +kernel
theorem dX3_fitsHead_43 : decode cX3_fitsHead 43 = .ok (.iconst 1, 1) := by decide +kernel
theorem dX3_fitsHead_44 : decode cX3_fitsHead 44 = .ok (.goto 4, 3) := by decide +kernel
theorem dX3_fitsHead_47 : decode cX3_fitsHead 47 = .ok (.iconst 0, 1) := by decide +kernel
theorem dX3_fitsHead_48 : decode cX3_fitsHead 48 = .ok (.ireturn, 1) := by decide +kernel
theorem dX3_fitsEvent_0 : decode cX3_fitsEvent 0 = .ok (.iload_n 0, 1) := by decide +kernel
theorem dX3_fitsEvent_1 : decode cX3_fitsEvent 1 = .ok (.ifCond .eq 21, 3) := by decide +kernel
theorem dX3_fitsEvent_4 : decode cX3_fitsEvent 4 = .ok (.iload_n 1, 1) := by decide +kernel
theorem dX3_fitsEvent_5 : decode cX3_fitsEvent 5 = .ok (.bipush 48, 2) := by decide +kernel
theorem dX3_fitsEvent_7 : decode cX3_fitsEvent 7 = .ok (.if_icmp .eq 9, 3) := by decide +kernel
theorem dX3_fitsEvent_10 : decode cX3_fitsEvent 10 = .ok (.iload_n 1, 1) := by decide +kernel
theorem dX3_fitsEvent_11 : decode cX3_fitsEvent 11 = .ok (.bipush 49, 2) := by decide +kernel
theorem dX3_fitsEvent_13 : decode cX3_fitsEvent 13 = .ok (.if_icmp .ne 7, 3) := by decide +kernel
theorem dX3_fitsEvent_16 : decode cX3_fitsEvent 16 = .ok (.iconst 1, 1) := by decide +kernel
theorem dX3_fitsEvent_17 : decode cX3_fitsEvent 17 = .ok (.goto 4, 3) := by decide +kernel
theorem dX3_fitsEvent_20 : decode cX3_fitsEvent 20 = .ok (.iconst 0, 1) := by decide +kernel
theorem dX3_fitsEvent_21 : decode cX3_fitsEvent 21 = .ok (.ireturn, 1) := by decide +kernel
theorem dX3_fitsEvent_22 : decode cX3_fitsEvent 22 = .ok (.iload_n 1, 1) := by decide +kernel
theorem dX3_fitsEvent_23 : decode cX3_fitsEvent 23 = .ok (.bipush 100, 2) := by decide +kernel
theorem dX3_fitsEvent_25 : decode cX3_fitsEvent 25 = .ok (.if_icmp .eq 21, 3) := by decide +kernel
theorem dX3_fitsEvent_28 : decode cX3_fitsEvent 28 = .ok (.iload_n 1, 1) := by decide +kernel
theorem dX3_fitsEvent_29 : decode cX3_fitsEvent 29 = .ok (.bipush 119, 2) := by decide +kernel
theorem dX3_fitsEvent_31 : decode cX3_fitsEvent 31 = .ok (.if_icmp .eq 15, 3) := by decide +kernel
theorem dX3_fitsEvent_34 : decode cX3_fitsEvent 34 = .ok (.iload_n 1, 1) := by decide +kernel
theorem dX3_fitsEvent_35 : decode cX3_fitsEvent 35 = .ok (.bipush 49, 2) := by decide +kernel
theorem dX3_fitsEvent_37 : decode cX3_fitsEvent 37 = .ok (.if_icmp .lt 13, 3) := by decide +kernel
theorem dX3_fitsEvent_40 : decode cX3_fitsEvent 40 = .ok (.iload_n 1, 1) := by decide +kernel
theorem dX3_fitsEvent_41 : decode cX3_fitsEvent 41 = .ok (.bipush 57, 2) := by decide +kernel
theorem dX3_fitsEvent_43 : decode cX3_fitsEvent 43 = .ok (.if_icmp .gt 7, 3) := by decide +kernel
theorem dX3_fitsEvent_46 : decode cX3_fitsEvent 46 = .ok (.iconst 1, 1) := by decide +kernel
theorem dX3_fitsEvent_47 : decode cX3_fitsEvent 47 = .ok (.goto 4, 3) := by decide +kernel
theorem dX3_fitsEvent_50 : decode cX3_fitsEvent 50 = .ok (.iconst 0, 1) := by decide +kernel
theorem dX3_fitsEvent_51 : decode cX3_fitsEvent 51 = .ok (.ireturn, 1) := by decide +kernel
theorem dX3_layOut_0 : decode cX3_layOut 0 = .ok (.aload_n 1, 1) := by decide +kernel
theorem dX3_layOut_1 : decode cX3_layOut 1 = .ok (.invokevirtual 27, 3) := by decide +kernel
theorem dX3_layOut_4 : decode cX3_layOut 4 = .ok (.iconst 1, 1) := by decide +kernel
theorem dX3_layOut_5 : decode cX3_layOut 5 = .ok (.istore_n 2, 1) := by decide +kernel
theorem dX3_layOut_6 : decode cX3_layOut 6 = .ok (.iload_n 2, 1) := by decide +kernel
theorem dX3_layOut_7 : decode cX3_layOut 7 = .ok (.bipush 7, 2) := by decide +kernel
theorem dX3_layOut_9 : decode cX3_layOut 9 = .ok (.if_icmp .ge 35, 3) := by decide +kernel
theorem dX3_layOut_12 : decode cX3_layOut 12 = .ok (.aload_n 1, 1) := by decide +kernel
theorem dX3_layOut_13 : decode cX3_layOut 13 = .ok (.iload_n 2, 1) := by decide +kernel
theorem dX3_layOut_14 : decode cX3_layOut 14 = .ok (.iconst 1, 1) := by decide +kernel
theorem dX3_layOut_15 : decode cX3_layOut 15 = .ok (.isub, 1) := by decide +kernel
theorem dX3_layOut_16 : decode cX3_layOut 16 = .ok (.iconst 3, 1) := by decide +kernel
theorem dX3_layOut_17 : decode cX3_layOut 17 = .ok (.idiv, 1) := by decide +kernel
theorem dX3_layOut_18 : decode cX3_layOut 18 = .ok (.invokevirtual 32, 3) := by decide +kernel
theorem dX3_layOut_21 : decode cX3_layOut 21 = .ok (.iload_n 2, 1) := by decide +kernel
theorem dX3_layOut_22 : decode cX3_layOut 22 = .ok (.iconst 1, 1) := by decide +kernel
theorem dX3_layOut_23 : decode cX3_layOut 23 = .ok (.isub, 1) := by decide +kernel
theorem dX3_layOut_24 : decode cX3_layOut 24 = .ok (.iconst 3, 1) := by decide +kernel
theorem dX3_layOut_25 : decode cX3_layOut 25 = .ok (.irem, 1) := by decide +kernel
theorem dX3_layOut_26 : decode cX3_layOut 26 = .ok (.aload_n 0, 1) := by decide +kernel
theorem dX3_layOut_27 : decode cX3_layOut 27 = .ok (.getfield 9, 3) := by decide +kernel
theorem dX3_layOut_30 : decode cX3_layOut 30 = .ok (.iload_n 2, 1) := by decide +kernel
theorem dX3_layOut_31 : decode cX3_layOut 31 = .ok (.iaload, 1) := by decide +kernel
theorem dX3_layOut_32 : decode cX3_layOut 32 = .ok (.bipush 48, 2) := by decide +kernel
theorem dX3_layOut_34 : decode cX3_layOut 34 = .ok (.isub, 1) := by decide +kernel
theorem dX3_layOut_35 : decode cX3_layOut 35 = .ok (.invokevirtual 36, 3) := by decide +kernel
theorem dX3_layOut_38 : decode cX3_layOut 38 = .ok (.iinc 2 1, 3) := by decide +kernel
theorem dX3_layOut_41 : decode cX3_layOut 41 = .ok (.goto (-35), 3) := by decide +kernel
theorem dX3_layOut_44 : decode cX3_layOut 44 = .ok (.iconst 0, 1) := by decide +kernel
theorem dX3_layOut_45 : decode cX3_layOut 45 = .ok (.istore_n 2, 1) := by decide +kernel
theorem dX3_layOut_46 : decode cX3_layOut 46 = .ok (.bipush 7, 2) := by decide +kernel
theorem dX3_layOut_48 : decode cX3_layOut 48 = .ok (.istore_n 3, 1) := by decide +kernel
theorem dX3_layOut_49 : decode cX3_layOut 49 = .ok (.iload_n 3, 1) := by decide +kernel
theorem dX3_layOut_50 : decode cX3_layOut 50 = .ok (.aload_n 0, 1) := by decide +kernel
theorem dX3_layOut_51 : decode cX3_layOut 51 = .ok (.getfield 15, 3) := by decide +kernel
theorem dX3_layOut_54 : decode cX3_layOut 54 = .ok (.if_icmp .ge 109, 3) := by decide +kernel
theorem dX3_layOut_57 : decode cX3_layOut 57 = .ok (.iload_n 3, 1) := by decide +kernel
theorem dX3_layOut_58 : decode cX3_layOut 58 = .ok (.bipush 70, 2) := by decide +kernel
theorem dX3_layOut_60 : decode cX3_layOut 60 = .ok (.if_icmp .ge 103, 3) := by decide +kernel
theorem dX3_layOut_63 : decode cX3_layOut 63 = .ok (.aload_n 0, 1) := by decide +kernel
theorem dX3_layOut_64 : decode cX3_layOut 64 = .ok (.getfield 9, 3) := by decide +kernel
theorem dX3_layOut_67 : decode cX3_layOut 67 = .ok (.iload_n 3, 1) := by decide +kernel
theorem dX3_layOut_68 : decode cX3_layOut 68 = .ok (.iaload, 1) := by decide +kernel
theorem dX3_layOut_69 : decode cX3_layOut 69 = .ok (.istore 4, 2) := by decide +kernel
theorem dX3_layOut_71 : decode cX3_layOut 71 = .ok (.iload_n 2, 1) := by decide +kernel
theorem dX3_layOut_72 : decode cX3_layOut 72 = .ok (.bipush 100, 2) := by decide +kernel
theorem dX3_layOut_74 : decode cX3_layOut 74 = .ok (.if_icmp .ne 18, 3) := by decide +kernel
theorem dX3_layOut_77 : decode cX3_layOut 77 = .ok (.aload_n 1, 1) := by decide +kernel
theorem dX3_layOut_78 : decode cX3_layOut 78 = .ok (.iload 4, 2) := by decide +kernel
theorem dX3_layOut_80 : decode cX3_layOut 80 = .ok (.bipush 48, 2) := by decide +kernel
theorem dX3_layOut_82 : decode cX3_layOut 82 = .ok (.isub, 1) := by decide +kernel
theorem dX3_layOut_83 : decode cX3_layOut 83 = .ok (.invokevirtual 32, 3) := by decide +kernel
theorem dX3_layOut_86 : decode cX3_layOut 86 = .ok (.invokevirtual 42, 3) := by decide +kernel
theorem dX3_layOut_89 : decode cX3_layOut 89 = .ok (.goto 47, 3) := by decide +kernel
theorem dX3_layOut_92 : decode cX3_layOut 92 = .ok (.iload_n 2, 1) := by decide +kernel
theorem dX3_layOut_93 : decode cX3_layOut 93 = .ok (.bipush 119, 2) := by decide +kernel
theorem dX3_layOut_95 : decode cX3_layOut 95 = .ok (.if_icmp .ne 18, 3) := by decide +kernel
theorem dX3_layOut_98 : decode cX3_layOut 98 = .ok (.aload_n 1, 1) := by decide +kernel
theorem dX3_layOut_99 : decode cX3_layOut 99 = .ok (.iload 4, 2) := by decide +kernel
theorem dX3_layOut_101 : decode cX3_layOut 101 = .ok (.bipush 48, 2) := by decide +kernel
theorem dX3_layOut_103 : decode cX3_layOut 103 = .ok (.isub, 1) := by decide +kernel
theorem dX3_layOut_104 : decode cX3_layOut 104 = .ok (.invokevirtual 45, 3) := by decide +kernel
theorem dX3_layOut_107 : decode cX3_layOut 107 = .ok (.invokevirtual 49, 3) := by decide +kernel
theorem dX3_layOut_110 : decode cX3_layOut 110 = .ok (.goto 26, 3) := by decide +kernel
theorem dX3_layOut_113 : decode cX3_layOut 113 = .ok (.iload 4, 2) := by decide +kernel
theorem dX3_layOut_115 : decode cX3_layOut 115 = .ok (.bipush 100, 2) := by decide +kernel
theorem dX3_layOut_117 : decode cX3_layOut 117 = .ok (.if_icmp .eq 19, 3) := by decide +kernel
theorem dX3_layOut_120 : decode cX3_layOut 120 = .ok (.iload 4, 2) := by decide +kernel
theorem dX3_layOut_122 : decode cX3_layOut 122 = .ok (.bipush 119, 2) := by decide +kernel
theorem dX3_layOut_124 : decode cX3_layOut 124 = .ok (.if_icmp .eq 12, 3) := by decide +kernel
theorem dX3_layOut_127 : decode cX3_layOut 127 = .ok (.aload_n 1, 1) := by decide +kernel
theorem dX3_layOut_128 : decode cX3_layOut 128 = .ok (.iload 4, 2) := by decide +kernel
theorem dX3_layOut_130 : decode cX3_layOut 130 = .ok (.bipush 48, 2) := by decide +kernel
theorem dX3_layOut_132 : decode cX3_layOut 132 = .ok (.isub, 1) := by decide +kernel
theorem dX3_layOut_133 : decode cX3_layOut 133 = .ok (.invokevirtual 54, 3) := by decide +kernel
theorem dX3_layOut_136 : decode cX3_layOut 136 = .ok (.iload 4, 2) := by decide +kernel
theorem dX3_layOut_138 : decode cX3_layOut 138 = .ok (.bipush 100, 2) := by decide +kernel
theorem dX3_layOut_140 : decode cX3_layOut 140 = .ok (.if_icmp .eq 10, 3) := by decide +kernel
theorem dX3_layOut_143 : decode cX3_layOut 143 = .ok (.iload 4, 2) := by decide +kernel
theorem dX3_layOut_145 : decode cX3_layOut 145 = .ok (.bipush 119, 2) := by decide +kernel
theorem dX3_layOut_147 : decode cX3_layOut 147 = .ok (.if_icmp .ne 8, 3) := by decide +kernel
theorem dX3_layOut_150 : decode cX3_layOut 150 = .ok (.iload 4, 2) := by decide +kernel
theorem dX3_layOut_152 : decode cX3_layOut 152 = .ok (.goto 4, 3) := by decide +kernel
theorem dX3_layOut_155 : decode cX3_layOut 155 = .ok (.iconst 0, 1) := by decide +kernel
theorem dX3_layOut_156 : decode cX3_layOut 156 = .ok (.istore_n 2, 1) := by decide +kernel
theorem dX3_layOut_157 : decode cX3_layOut 157 = .ok (.iinc 3 1, 3) := by decide +kernel
theorem dX3_layOut_160 : decode cX3_layOut 160 = .ok (.goto (-111), 3) := by decide +kernel
theorem dX3_layOut_163 : decode cX3_layOut 163 = .ok (.return_, 1) := by decide +kernel
theorem dX4_init_0 : decode cX4_init 0 = .ok (.aload_n 0, 1) := by decide +kernel
theorem dX4_init_1 : decode cX4_init 1 = .ok (.invokespecial 1, 3) := by decide +kernel
theorem dX4_init_4 : decode cX4_init 4 = .ok (.aload_n 0, 1) := by decide +kernel
theorem dX4_init_5 : decode cX4_init 5 = .ok (.new 7, 3) := by decide +kernel
theorem dX4_init_8 : decode cX4_init 8 = .ok (.dup, 1) := by decide +kernel
theorem dX4_init_9 : decode cX4_init 9 = .ok (.invokespecial 9, 3) := by decide +kernel
theorem dX4_init_12 : decode cX4_init 12 = .ok (.putfield 10, 3) := by decide +kernel
theorem dX4_init_15 : decode cX4_init 15 = .ok (.return_, 1) := by decide +kernel
theorem dX4_reset_0 : decode cX4_reset 0 = .ok (.aload_n 0, 1) := by decide +kernel
theorem dX4_reset_1 : decode cX4_reset 1 = .ok (.iconst 1, 1) := by decide +kernel
theorem dX4_reset_2 : decode cX4_reset 2 = .ok (.putfield 16, 3) := by decide +kernel
theorem dX4_reset_5 : decode cX4_reset 5 = .ok (.aload_n 0, 1) := by decide +kernel
theorem dX4_reset_6 : decode cX4_reset 6 = .ok (.iconst 0, 1) := by decide +kernel
theorem dX4_reset_7 : decode cX4_reset 7 = .ok (.putfield 20, 3) := by decide +kernel
theorem dX4_reset_10 : decode cX4_reset 10 = .ok (.aload_n 0, 1) := by decide +kernel
theorem dX4_reset_11 : decode cX4_reset 11 = .ok (.iconst 0, 1) := by decide +kernel
theorem dX4_reset_12 : decode cX4_reset 12 = .ok (.putfield 23, 3) := by decide +kernel
theorem dX4_reset_15 : decode cX4_reset 15 = .ok (.aload_n 0, 1) := by decide +kernel
theorem dX4_reset_16 : decode cX4_reset 16 = .ok (.iconst 0, 1) := by decide +kernel
theorem dX4_reset_17 : decode cX4_reset 17 = .ok (.putfield 26, 3) := by decide +kernel
theorem dX4_reset_20 : decode cX4_reset 20 = .ok (.aload_n 0, 1) := by decide +kernel
theorem dX4_reset_21 : decode cX4_reset 21 = .ok (.iconst 0, 1) := by decide +kernel
theorem dX4_reset_22 : decode cX4_reset 22 = .ok (.putfield 29, 3) := by decide +kernel
theorem dX4_reset_25 : decode cX4_reset 25 = .ok (.aload_n 0, 1) := by decide +kernel
theorem dX4_reset_26 : decode cX4_reset 26 = .ok (.iconst 0, 1) := by decide +kernel
theorem dX4_reset_27 : decode cX4_reset 27 = .ok (.putfield 32, 3) := by decide +kernel
theorem dX4_reset_30 : decode cX4_reset 30 = .ok (.aload_n 0, 1) := by decide +kernel
theorem dX4_reset_31 : decode cX4_reset 31 = .ok (.getfield 10, 3) := by decide +kernel
theorem dX4_reset_34 : decode cX4_reset 34 = .ok (.invokevirtual 36, 3) := by decide +kernel
theorem dX4_reset_37 : decode cX4_reset 37 = .ok (.return_, 1) := by decide +kernel
theorem dX4_copyFrom_0 : decode cX4_copyFrom 0 = .ok (.aload_n 0, 1) := by decide +kernel
theorem dX4_copyFrom_1 : decode cX4_copyFrom 1 = .ok (.aload_n 1, 1) := by decide +kernel
theorem dX4_copyFrom_2 : decode cX4_copyFrom 2 = .ok (.getfield 16, 3) := by decide +kernel
theorem dX4_copyFrom_5 : decode cX4_copyFrom 5 = .ok (.putfield 16, 3) := by decide +kernel
theorem dX4_copyFrom_8 : decode cX4_copyFrom 8 = .ok (.aload_n 0, 1) := by decide +kernel
theorem dX4_copyFrom_9 : decode cX4_copyFrom 9 = .ok (.aload_n 1, 1) := by decide +kernel
theorem dX4_copyFrom_10 : decode cX4_copyFrom 10 = .ok (.getfield 20, 3) := by decide +kernel
theorem dX4_copyFrom_13 : decode cX4_copyFrom 13 = .ok (.putfield 20, 3) := by decide +kernel
theorem dX4_copyFrom_16 : decode cX4_copyFrom 16 = .ok (.aload_n 0, 1) := by decide +kernel
theorem dX4_copyFrom_17 : decode cX4_copyFrom 17 = .ok (.aload_n 1, 1) := by decide +kernel
theorem dX4_copyFrom_18 : decode cX4_copyFrom 18 = .ok (.getfield 23, 3) := by decide +kernel
theorem dX4_copyFrom_21 : decode cX4_copyFrom 21 = .ok (.putfield 23, 3) := by decide +kernel
theorem dX4_copyFrom_24 : decode cX4_copyFrom 24 = .ok (.aload_n 0, 1) := by decide +kernel
theorem dX4_copyFrom_25 : decode cX4_copyFrom 25 = .ok (.aload_n 1, 1) := by decide +kernel
theorem dX4_copyFrom_26 : decode cX4_copyFrom 26 = .ok (.getfield 26, 3) := by decide +kernel
theorem dX4_copyFrom_29 : decode cX4_copyFrom 29 = .ok (.putfield 26, 3) := by decide +kernel
theorem dX4_copyFrom_32 : decode cX4_copyFrom 32 = .ok (.aload_n 0, 1) := by decide +kernel
theorem dX4_copyFrom_33 : decode cX4_copyFrom 33 = .ok (.aload_n 1, 1) := by decide +kernel
theorem dX4_copyFrom_34 : decode cX4_copyFrom 34 = .ok (.getfield 29, 3) := by decide +kernel
theorem dX4_copyFrom_37 : decode cX4_copyFrom 37 = .ok (.putfield 29, 3) := by decide +kernel
theorem dX4_copyFrom_40 : decode cX4_copyFrom 40 = .ok (.aload_n 0, 1) := by decide +kernel
theorem dX4_copyFrom_41 : decode cX4_copyFrom 41 = .ok (.aload_n 1, 1) := by decide +kernel
theorem dX4_copyFrom_42 : decode cX4_copyFrom 42 = .ok (.getfield 32, 3) := by decide +kernel
theorem dX4_copyFrom_45 : decode cX4_copyFrom 45 = .ok (.putfield 32, 3) := by decide +kernel
theorem dX4_copyFrom_48 : decode cX4_copyFrom 48 = .ok (.aload_n 0, 1) := by decide +kernel
theorem dX4_copyFrom_49 : decode cX4_copyFrom 49 = .ok (.getfield 10, 3) := by decide +kernel
theorem dX4_copyFrom_52 : decode cX4_copyFrom 52 = .ok (.aload_n 1, 1) := by decide +kernel
theorem dX4_copyFrom_53 : decode cX4_copyFrom 53 = .ok (.getfield 10, 3) := by decide +kernel
theorem dX4_copyFrom_56 : decode cX4_copyFrom 56 = .ok (.invokevirtual 39, 3) := by decide +kernel
theorem dX4_copyFrom_59 : decode cX4_copyFrom 59 = .ok (.return_, 1) := by decide +kernel
theorem dX4_turnOver_0 : decode cX4_turnOver 0 = .ok (.aload_n 0, 1) := by decide +kernel
theorem dX4_turnOver_1 : decode cX4_turnOver 1 = .ok (.aload_n 0, 1) := by decide +kernel
theorem dX4_turnOver_2 : decode cX4_turnOver 2 = .ok (.getfield 16, 3) := by decide +kernel
theorem dX4_turnOver_5 : decode cX4_turnOver 5 = .ok (.ifCond .ne 7, 3) := by decide +kernel
theorem dX4_turnOver_8 : decode cX4_turnOver 8 = .ok (.iconst 1, 1) := by decide +kernel
theorem dX4_turnOver_9 : decode cX4_turnOver 9 = .ok (.goto 4, 3) := by decide +kernel
theorem dX4_turnOver_12 : decode cX4_turnOver 12 = .ok (.iconst 0, 1) := by decide +kernel
theorem dX4_turnOver_13 : decode cX4_turnOver 13 = .ok (.putfield 16, 3) := by decide +kernel
theorem dX4_turnOver_16 : decode cX4_turnOver 16 = .ok (.return_, 1) := by decide +kernel
theorem dX4_put_0 : decode cX4_put 0 = .ok (.aload_n 0, 1) := by decide +kernel
theorem dX4_put_1 : decode cX4_put 1 = .ok (.iconst 1, 1) := by decide +kernel
theorem dX4_put_2 : decode cX4_put 2 = .ok (.putfield 20, 3) := by decide +kernel
theorem dX4_put_5 : decode cX4_put 5 = .ok (.aload_n 0, 1) := by decide +kernel
theorem dX4_put_6 : decode cX4_put 6 = .ok (.aload_n 1, 1) := by decide +kernel
theorem dX4_put_7 : decode cX4_put 7 = .ok (.getfield 43, 3) := by decide +kernel
theorem dX4_put_10 : decode cX4_put 10 = .ok (.putfield 23, 3) := by decide +kernel
theorem dX4_put_13 : decode cX4_put 13 = .ok (.aload_n 0, 1) := by decide +kernel
theorem dX4_put_14 : decode cX4_put 14 = .ok (.aload_n 1, 1) := by decide +kernel
theorem dX4_put_15 : decode cX4_put 15 = .ok (.getfield 48, 3) := by decide +kernel
theorem dX4_put_18 : decode cX4_put 18 = .ok (.putfield 26, 3) := by decide +kernel
theorem dX4_put_21 : decode cX4_put 21 = .ok (.aload_n 0, 1) := by decide +kernel
theorem dX4_put_22 : decode cX4_put 22 = .ok (.iload_n 2, 1) := by decide +kernel
theorem dX4_put_23 : decode cX4_put 23 = .ok (.putfield 29, 3) := by decide +kernel
theorem dX4_put_26 : decode cX4_put 26 = .ok (.aload_n 0, 1) := by decide +kernel
theorem dX4_put_27 : decode cX4_put 27 = .ok (.getfield 10, 3) := by decide +kernel
theorem dX4_put_30 : decode cX4_put 30 = .ok (.aload_n 1, 1) := by decide +kernel
theorem dX4_put_31 : decode cX4_put 31 = .ok (.invokevirtual 51, 3) := by decide +kernel
theorem dX4_put_34 : decode cX4_put 34 = .ok (.return_, 1) := by decide +kernel
theorem dX4_takeOff_0 : decode cX4_takeOff 0 = .ok (.aload_n 0, 1) := by decide +kernel
theorem dX4_takeOff_1 : decode cX4_takeOff 1 = .ok (.getfield 20, 3) := by decide +kernel
theorem dX4_takeOff_4 : decode cX4_takeOff 4 = .ok (.ifCond .ne 5, 3) := by decide +kernel
theorem dX4_takeOff_7 : decode cX4_takeOff 7 = .ok (.iconst 0, 1) := by decide +kernel
theorem dX4_takeOff_8 : decode cX4_takeOff 8 = .ok (.ireturn, 1) := by decide +kernel
theorem dX4_takeOff_9 : decode cX4_takeOff 9 = .ok (.aload_n 0, 1) := by decide +kernel
theorem dX4_takeOff_10 : decode cX4_takeOff 10 = .ok (.iconst 0, 1) := by decide +kernel
theorem dX4_takeOff_11 : decode cX4_takeOff 11 = .ok (.putfield 20, 3) := by decide +kernel
theorem dX4_takeOff_14 : decode cX4_takeOff 14 = .ok (.aload_n 0, 1) := by decide +kernel
theorem dX4_takeOff_15 : decode cX4_takeOff 15 = .ok (.getfield 16, 3) := by decide +kernel
theorem dX4_takeOff_18 : decode cX4_takeOff 18 = .ok (.ifCond .ne 5, 3) := by decide +kernel
theorem dX4_takeOff_21 : decode cX4_takeOff 21 = .ok (.iconst 0, 1) := by decide +kernel
theorem dX4_takeOff_22 : decode cX4_takeOff 22 = .ok (.ireturn, 1) := by decide +kernel
theorem dX4_takeOff_23 : decode cX4_takeOff 23 = .ok (.aload_n 0, 1) := by decide +kernel
theorem dX4_takeOff_24 : decode cX4_takeOff 24 = .ok (.getfield 32, 3) := by decide +kernel
theorem dX4_takeOff_27 : decode cX4_takeOff 27 = .ok (.ifCond .le 15, 3) := by decide +kernel
theorem dX4_takeOff_30 : decode cX4_takeOff 30 = .ok (.aload_n 0, 1) := by decide +kernel
theorem dX4_takeOff_31 : decode cX4_takeOff 31 = .ok (.dup, 1) := by decide +kernel
theorem dX4_takeOff_32 : decode cX4_takeOff 32 = .ok (.getfield 32, 3) := by decide +kernel
theorem dX4_takeOff_35 : decode cX4_takeOff 35 = .ok (.iconst 1, 1) := by decide +kernel
theorem dX4_takeOff_36 : decode cX4_takeOff 36 = .ok (.isub, 1) := by decide +kernel
theorem dX4_takeOff_37 : decode cX4_takeOff 37 = .ok (.putfield 32, 3) := by decide +kernel
theorem dX4_takeOff_40 : decode cX4_takeOff 40 = .ok (.iconst 0, 1) := by decide +kernel
theorem dX4_takeOff_41 : decode cX4_takeOff 41 = .ok (.ireturn, 1) := by decide +kernel
theorem dX4_takeOff_42 : decode cX4_takeOff 42 = .ok (.aload_n 0, 1) := by decide +kernel
theorem dX4_takeOff_43 : decode cX4_takeOff 43 = .ok (.getfield 29, 3) := by decide +kernel
theorem dX4_takeOff_46 : decode cX4_takeOff 46 = .ok (.ifCond .ne 7, 3) := by decide +kernel
theorem dX4_takeOff_49 : decode cX4_takeOff 49 = .ok (.iconst 1, 1) := by decide +kernel
theorem dX4_takeOff_50 : decode cX4_takeOff 50 = .ok (.goto 4, 3) := by decide +kernel
theorem dX4_takeOff_53 : decode cX4_takeOff 53 = .ok (.iconst 0, 1) := by decide +kernel
theorem dX4_takeOff_54 : decode cX4_takeOff 54 = .ok (.ireturn, 1) := by decide +kernel
theorem dX5_init_0 : decode cX5_init 0 = .ok (.aload_n 0, 1) := by decide +kernel
theorem dX5_init_1 : decode cX5_init 1 = .ok (.invokespecial 3, 3) := by decide +kernel
theorem dX5_init_4 : decode cX5_init 4 = .ok (.aload_n 0, 1) := by decide +kernel
theorem dX5_init_5 : decode cX5_init 5 = .ok (.new 9, 3) := by decide +kernel
theorem dX5_init_8 : decode cX5_init 8 = .ok (.dup, 1) := by decide +kernel
theorem dX5_init_9 : decode cX5_init 9 = .ok (.invokespecial 11, 3) := by decide +kernel
theorem dX5_init_12 : decode cX5_init 12 = .ok (.putfield 12, 3) := by decide +kernel
theorem dX5_init_15 : decode cX5_init 15 = .ok (.aload_n 0, 1) := by decide +kernel
theorem dX5_init_16 : decode cX5_init 16 = .ok (.new 9, 3) := by decide +kernel
theorem dX5_init_19 : decode cX5_init 19 = .ok (.dup, 1) := by decide +kernel
theorem dX5_init_20 : decode cX5_init 20 = .ok (.invokespecial 11, 3) := by decide +kernel
theorem dX5_init_23 : decode cX5_init 23 = .ok (.putfield 18, 3) := by decide +kernel
theorem dX5_init_26 : decode cX5_init 26 = .ok (.aload_n 0, 1) := by decide +kernel
theorem dX5_init_27 : decode cX5_init 27 = .ok (.new 21, 3) := by decide +kernel
theorem dX5_init_30 : decode cX5_init 30 = .ok (.dup, 1) := by decide +kernel
theorem dX5_init_31 : decode cX5_init 31 = .ok (.invokespecial 23, 3) := by decide +kernel
theorem dX5_init_34 : decode cX5_init 34 = .ok (.putfield 24, 3) := by decide +kernel
theorem dX5_init_37 : decode cX5_init 37 = .ok (.aload_n 0, 1) := by decide +kernel
theorem dX5_init_38 : decode cX5_init 38 = .ok (.new 21, 3) := by decide +kernel
theorem dX5_init_41 : decode cX5_init 41 = .ok (.dup, 1) := by decide +kernel
theorem dX5_init_42 : decode cX5_init 42 = .ok (.invokespecial 23, 3) := by decide +kernel
theorem dX5_init_45 : decode cX5_init 45 = .ok (.putfield 28, 3) := by decide +kernel
theorem dX5_init_48 : decode cX5_init 48 = .ok (.aload_n 0, 1) := by decide +kernel
theorem dX5_init_49 : decode cX5_init 49 = .ok (.invokevirtual 31, 3) := by decide +kernel
theorem dX5_init_52 : decode cX5_init 52 = .ok (.return_, 1) := by decide +kernel
theorem dX5_reset_0 : decode cX5_reset 0 = .ok (.aload_n 0, 1) := by decide +kernel
theorem dX5_reset_1 : decode cX5_reset 1 = .ok (.getfield 12, 3) := by decide +kernel
theorem dX5_reset_4 : decode cX5_reset 4 = .ok (.invokevirtual 34, 3) := by decide +kernel
theorem dX5_reset_7 : decode cX5_reset 7 = .ok (.aload_n 0, 1) := by decide +kernel
theorem dX5_reset_8 : decode cX5_reset 8 = .ok (.getfield 18, 3) := by decide +kernel
theorem dX5_reset_11 : decode cX5_reset 11 = .ok (.invokevirtual 34, 3) := by decide +kernel
theorem dX5_reset_14 : decode cX5_reset 14 = .ok (.aload_n 0, 1) := by decide +kernel
theorem dX5_reset_15 : decode cX5_reset 15 = .ok (.getfield 24, 3) := by decide +kernel
theorem dX5_reset_18 : decode cX5_reset 18 = .ok (.invokevirtual 35, 3) := by decide +kernel
theorem dX5_reset_21 : decode cX5_reset 21 = .ok (.aload_n 0, 1) := by decide +kernel
theorem dX5_reset_22 : decode cX5_reset 22 = .ok (.getfield 28, 3) := by decide +kernel
theorem dX5_reset_25 : decode cX5_reset 25 = .ok (.invokevirtual 35, 3) := by decide +kernel
theorem dX5_reset_28 : decode cX5_reset 28 = .ok (.aload_n 0, 1) := by decide +kernel
theorem dX5_reset_29 : decode cX5_reset 29 = .ok (.iconst 0, 1) := by decide +kernel
theorem dX5_reset_30 : decode cX5_reset 30 = .ok (.putfield 36, 3) := by decide +kernel
theorem dX5_reset_33 : decode cX5_reset 33 = .ok (.aload_n 0, 1) := by decide +kernel
theorem dX5_reset_34 : decode cX5_reset 34 = .ok (.iconst 0, 1) := by decide +kernel
theorem dX5_reset_35 : decode cX5_reset 35 = .ok (.putfield 40, 3) := by decide +kernel
theorem dX5_reset_38 : decode cX5_reset 38 = .ok (.aload_n 0, 1) := by decide +kernel
theorem dX5_reset_39 : decode cX5_reset 39 = .ok (.iconst 0, 1) := by decide +kernel
theorem dX5_reset_40 : decode cX5_reset 40 = .ok (.putfield 43, 3) := by decide +kernel
theorem dX5_reset_43 : decode cX5_reset 43 = .ok (.aload_n 0, 1) := by decide +kernel
theorem dX5_reset_44 : decode cX5_reset 44 = .ok (.iconst 0, 1) := by decide +kernel
theorem dX5_reset_45 : decode cX5_reset 45 = .ok (.putfield 46, 3) := by decide +kernel
theorem dX5_reset_48 : decode cX5_reset 48 = .ok (.return_, 1) := by decide +kernel
theorem dX5_copyFrom_0 : decode cX5_copyFrom 0 = .ok (.aload_n 0, 1) := by decide +kernel
theorem dX5_copyFrom_1 : decode cX5_copyFrom 1 = .ok (.getfield 12, 3) := by decide +kernel
theorem dX5_copyFrom_4 : decode cX5_copyFrom 4 = .ok (.aload_n 1, 1) := by decide +kernel
theorem dX5_copyFrom_5 : decode cX5_copyFrom 5 = .ok (.getfield 12, 3) := by decide +kernel
theorem dX5_copyFrom_8 : decode cX5_copyFrom 8 = .ok (.invokevirtual 49, 3) := by decide +kernel
theorem dX5_copyFrom_11 : decode cX5_copyFrom 11 = .ok (.aload_n 0, 1) := by decide +kernel
theorem dX5_copyFrom_12 : decode cX5_copyFrom 12 = .ok (.getfield 18, 3) := by decide +kernel
theorem dX5_copyFrom_15 : decode cX5_copyFrom 15 = .ok (.aload_n 1, 1) := by decide +kernel
theorem dX5_copyFrom_16 : decode cX5_copyFrom 16 = .ok (.getfield 18, 3) := by decide +kernel
theorem dX5_copyFrom_19 : decode cX5_copyFrom 19 = .ok (.invokevirtual 49, 3) := by decide +kernel
theorem dX5_copyFrom_22 : decode cX5_copyFrom 22 = .ok (.aload_n 0, 1) := by decide +kernel
theorem dX5_copyFrom_23 : decode cX5_copyFrom 23 = .ok (.getfield 24, 3) := by decide +kernel
theorem dX5_copyFrom_26 : decode cX5_copyFrom 26 = .ok (.aload_n 1, 1) := by decide +kernel
theorem dX5_copyFrom_27 : decode cX5_copyFrom 27 = .ok (.getfield 24, 3) := by decide +kernel
theorem dX5_copyFrom_30 : decode cX5_copyFrom 30 = .ok (.invokevirtual 53, 3) := by decide +kernel
theorem dX5_copyFrom_33 : decode cX5_copyFrom 33 = .ok (.aload_n 0, 1) := by decide +kernel
theorem dX5_copyFrom_34 : decode cX5_copyFrom 34 = .ok (.getfield 28, 3) := by decide +kernel
theorem dX5_copyFrom_37 : decode cX5_copyFrom 37 = .ok (.aload_n 1, 1) := by decide +kernel
theorem dX5_copyFrom_38 : decode cX5_copyFrom 38 = .ok (.getfield 28, 3) := by decide +kernel
theorem dX5_copyFrom_41 : decode cX5_copyFrom 41 = .ok (.invokevirtual 53, 3) := by decide +kernel
theorem dX5_copyFrom_44 : decode cX5_copyFrom 44 = .ok (.aload_n 0, 1) := by decide +kernel
theorem dX5_copyFrom_45 : decode cX5_copyFrom 45 = .ok (.aload_n 1, 1) := by decide +kernel
theorem dX5_copyFrom_46 : decode cX5_copyFrom 46 = .ok (.getfield 36, 3) := by decide +kernel
theorem dX5_copyFrom_49 : decode cX5_copyFrom 49 = .ok (.putfield 36, 3) := by decide +kernel
theorem dX5_copyFrom_52 : decode cX5_copyFrom 52 = .ok (.aload_n 0, 1) := by decide +kernel
theorem dX5_copyFrom_53 : decode cX5_copyFrom 53 = .ok (.aload_n 1, 1) := by decide +kernel
theorem dX5_copyFrom_54 : decode cX5_copyFrom 54 = .ok (.getfield 40, 3) := by decide +kernel
theorem dX5_copyFrom_57 : decode cX5_copyFrom 57 = .ok (.putfield 40, 3) := by decide +kernel
theorem dX5_copyFrom_60 : decode cX5_copyFrom 60 = .ok (.aload_n 0, 1) := by decide +kernel
theorem dX5_copyFrom_61 : decode cX5_copyFrom 61 = .ok (.aload_n 1, 1) := by decide +kernel
theorem dX5_copyFrom_62 : decode cX5_copyFrom 62 = .ok (.getfield 43, 3) := by decide +kernel
theorem dX5_copyFrom_65 : decode cX5_copyFrom 65 = .ok (.putfield 43, 3) := by decide +kernel
theorem dX5_copyFrom_68 : decode cX5_copyFrom 68 = .ok (.aload_n 0, 1) := by decide +kernel
theorem dX5_copyFrom_69 : decode cX5_copyFrom 69 = .ok (.aload_n 1, 1) := by decide +kernel
theorem dX5_copyFrom_70 : decode cX5_copyFrom 70 = .ok (.getfield 46, 3) := by decide +kernel
theorem dX5_copyFrom_73 : decode cX5_copyFrom 73 = .ok (.putfield 46, 3) := by decide +kernel
theorem dX5_copyFrom_76 : decode cX5_copyFrom 76 = .ok (.return_, 1) := by decide +kernel
theorem dX5_endOf_0 : decode cX5_endOf 0 = .ok (.iload_n 1, 1) := by decide +kernel
theorem dX5_endOf_1 : decode cX5_endOf 1 = .ok (.ifCond .ne 10, 3) := by decide +kernel
theorem dX5_endOf_4 : decode cX5_endOf 4 = .ok (.aload_n 0, 1) := by decide +kernel
theorem dX5_endOf_5 : decode cX5_endOf 5 = .ok (.getfield 12, 3) := by decide +kernel
theorem dX5_endOf_8 : decode cX5_endOf 8 = .ok (.goto 7, 3) := by decide +kernel
theorem dX5_endOf_11 : decode cX5_endOf 11 = .ok (.aload_n 0, 1) := by decide +kernel
theorem dX5_endOf_12 : decode cX5_endOf 12 = .ok (.getfield 18, 3) := by decide +kernel
theorem dX5_endOf_15 : decode cX5_endOf 15 = .ok (.areturn, 1) := by decide +kernel
theorem dX5_wayOf_0 : decode cX5_wayOf 0 = .ok (.iload_n 1, 1) := by decide +kernel
theorem dX5_wayOf_1 : decode cX5_wayOf 1 = .ok (.ifCond .ne 10, 3) := by decide +kernel
theorem dX5_wayOf_4 : decode cX5_wayOf 4 = .ok (.aload_n 0, 1) := by decide +kernel
theorem dX5_wayOf_5 : decode cX5_wayOf 5 = .ok (.getfield 24, 3) := by decide +kernel
theorem dX5_wayOf_8 : decode cX5_wayOf 8 = .ok (.goto 7, 3) := by decide +kernel
theorem dX5_wayOf_11 : decode cX5_wayOf 11 = .ok (.aload_n 0, 1) := by decide +kernel
theorem dX5_wayOf_12 : decode cX5_wayOf 12 = .ok (.getfield 28, 3) := by decide +kernel
theorem dX5_wayOf_15 : decode cX5_wayOf 15 = .ok (.areturn, 1) := by decide +kernel
theorem dX5_wayTo_0 : decode cX5_wayTo 0 = .ok (.iload_n 1, 1) := by decide +kernel
theorem dX5_wayTo_1 : decode cX5_wayTo 1 = .ok (.ifCond .ne 10, 3) := by decide +kernel
theorem dX5_wayTo_4 : decode cX5_wayTo 4 = .ok (.aload_n 0, 1) := by decide +kernel
theorem dX5_wayTo_5 : decode cX5_wayTo 5 = .ok (.getfield 28, 3) := by decide +kernel
theorem dX5_wayTo_8 : decode cX5_wayTo 8 = .ok (.goto 7, 3) := by decide +kernel
theorem dX5_wayTo_11 : decode cX5_wayTo 11 = .ok (.aload_n 0, 1) := by decide +kernel
theorem dX5_wayTo_12 : decode cX5_wayTo 12 = .ok (.getfield 24, 3) := by decide +kernel
theorem dX5_wayTo_15 : decode cX5_wayTo 15 = .ok (.areturn, 1) := by decide +kernel
theorem dX5_areBothUp_0 : decode cX5_areBothUp 0 = .ok (.aload_n 0, 1) := by decide +kernel
theorem dX5_areBothUp_1 : decode cX5_areBothUp 1 = .ok (.getfield 12, 3) := by decide +kernel
theorem dX5_areBothUp_4 : decode cX5_areBothUp 4 = .ok (.getfield 56, 3) := by decide +kernel
theorem dX5_areBothUp_7 : decode cX5_areBothUp 7 = .ok (.iconst 2, 1) := by decide +kernel
theorem dX5_areBothUp_8 : decode cX5_areBothUp 8 = .ok (.if_icmp .ne 18, 3) := by decide +kernel
theorem dX5_areBothUp_11 : decode cX5_areBothUp 11 = .ok (.aload_n 0, 1) := by decide +kernel
theorem dX5_areBothUp_12 : decode cX5_areBothUp 12 = .ok (.getfield 18, 3) := by decide +kernel
theorem dX5_areBothUp_15 : decode cX5_areBothUp 15 = .ok (.getfield 56, 3) := by decide +kernel
theorem dX5_areBothUp_18 : decode cX5_areBothUp 18 = .ok (.iconst 2, 1) := by decide +kernel
theorem dX5_areBothUp_19 : decode cX5_areBothUp 19 = .ok (.if_icmp .ne 7, 3) := by decide +kernel
theorem dX5_areBothUp_22 : decode cX5_areBothUp 22 = .ok (.iconst 1, 1) := by decide +kernel
theorem dX5_areBothUp_23 : decode cX5_areBothUp 23 = .ok (.goto 4, 3) := by decide +kernel
theorem dX5_areBothUp_26 : decode cX5_areBothUp 26 = .ok (.iconst 0, 1) := by decide +kernel
theorem dX5_areBothUp_27 : decode cX5_areBothUp 27 = .ok (.ireturn, 1) := by decide +kernel
theorem dX5_run_0 : decode cX5_run 0 = .ok (.iconst 0, 1) := by decide +kernel
theorem dX5_run_1 : decode cX5_run 1 = .ok (.istore_n 2, 1) := by decide +kernel
theorem dX5_run_2 : decode cX5_run 2 = .ok (.iload_n 2, 1) := by decide +kernel
theorem dX5_run_3 : decode cX5_run 3 = .ok (.iload_n 1, 1) := by decide +kernel
theorem dX5_run_4 : decode cX5_run 4 = .ok (.if_icmp .ge 13, 3) := by decide +kernel
theorem dX5_run_7 : decode cX5_run 7 = .ok (.aload_n 0, 1) := by decide +kernel
theorem dX5_run_8 : decode cX5_run 8 = .ok (.invokevirtual 59, 3) := by decide +kernel
theorem dX5_run_11 : decode cX5_run 11 = .ok (.iinc 2 1, 3) := by decide +kernel
theorem dX5_run_14 : decode cX5_run 14 = .ok (.goto (-12), 3) := by decide +kernel
theorem dX5_run_17 : decode cX5_run 17 = .ok (.return_, 1) := by decide +kernel
theorem dX5_tick_0 : decode cX5_tick 0 = .ok (.aload_n 0, 1) := by decide +kernel
theorem dX5_tick_1 : decode cX5_tick 1 = .ok (.dup, 1) := by decide +kernel
theorem dX5_tick_2 : decode cX5_tick 2 = .ok (.getfield 36, 3) := by decide +kernel
theorem dX5_tick_5 : decode cX5_tick 5 = .ok (.iconst 1, 1) := by decide +kernel
theorem dX5_tick_6 : decode cX5_tick 6 = .ok (.iadd, 1) := by decide +kernel
theorem dX5_tick_7 : decode cX5_tick 7 = .ok (.putfield 36, 3) := by decide +kernel
theorem dX5_tick_10 : decode cX5_tick 10 = .ok (.aload_n 0, 1) := by decide +kernel
theorem dX5_tick_11 : decode cX5_tick 11 = .ok (.getfield 12, 3) := by decide +kernel
theorem dX5_tick_14 : decode cX5_tick 14 = .ok (.aload_n 0, 1) := by decide +kernel
theorem dX5_tick_15 : decode cX5_tick 15 = .ok (.getfield 28, 3) := by decide +kernel
theorem dX5_tick_18 : decode cX5_tick 18 = .ok (.invokevirtual 62, 3) := by decide +kernel
theorem dX5_tick_21 : decode cX5_tick 21 = .ok (.aload_n 0, 1) := by decide +kernel
theorem dX5_tick_22 : decode cX5_tick 22 = .ok (.getfield 18, 3) := by decide +kernel
theorem dX5_tick_25 : decode cX5_tick 25 = .ok (.aload_n 0, 1) := by decide +kernel
theorem dX5_tick_26 : decode cX5_tick 26 = .ok (.getfield 24, 3) := by decide +kernel
theorem dX5_tick_29 : decode cX5_tick 29 = .ok (.invokevirtual 62, 3) := by decide +kernel
theorem dX5_tick_32 : decode cX5_tick 32 = .ok (.aload_n 0, 1) := by decide +kernel
theorem dX5_tick_33 : decode cX5_tick 33 = .ok (.getfield 12, 3) := by decide +kernel
theorem dX5_tick_36 : decode cX5_tick 36 = .ok (.invokevirtual 65, 3) := by decide +kernel
theorem dX5_tick_39 : decode cX5_tick 39 = .ok (.aload_n 0, 1) := by decide +kernel
theorem dX5_tick_40 : decode cX5_tick 40 = .ok (.getfield 18, 3) := by decide +kernel
theorem dX5_tick_43 : decode cX5_tick 43 = .ok (.invokevirtual 65, 3) := by decide +kernel
theorem dX5_tick_46 : decode cX5_tick 46 = .ok (.aload_n 0, 1) := by decide +kernel
theorem dX5_tick_47 : decode cX5_tick 47 = .ok (.aload_n 0, 1) := by decide +kernel
theorem dX5_tick_48 : decode cX5_tick 48 = .ok (.getfield 12, 3) := by decide +kernel
theorem dX5_tick_51 : decode cX5_tick 51 = .ok (.aload_n 0, 1) := by decide +kernel
theorem dX5_tick_52 : decode cX5_tick 52 = .ok (.getfield 24, 3) := by decide +kernel
theorem dX5_tick_55 : decode cX5_tick 55 = .ok (.invokevirtual 68, 3) := by decide +kernel
theorem dX5_tick_58 : decode cX5_tick 58 = .ok (.aload_n 0, 1) := by decide +kernel
theorem dX5_tick_59 : decode cX5_tick 59 = .ok (.aload_n 0, 1) := by decide +kernel
theorem dX5_tick_60 : decode cX5_tick 60 = .ok (.getfield 18, 3) := by decide +kernel
theorem dX5_tick_63 : decode cX5_tick 63 = .ok (.aload_n 0, 1) := by decide +kernel
theorem dX5_tick_64 : decode cX5_tick 64 = .ok (.getfield 28, 3) := by decide +kernel
theorem dX5_tick_67 : decode cX5_tick 67 = .ok (.invokevirtual 68, 3) := by decide +kernel
theorem dX5_tick_70 : decode cX5_tick 70 = .ok (.aload_n 0, 1) := by decide +kernel
theorem dX5_tick_71 : decode cX5_tick 71 = .ok (.invokevirtual 72, 3) := by decide +kernel
theorem dX5_tick_74 : decode cX5_tick 74 = .ok (.ifCond .eq 13, 3) := by decide +kernel
theorem dX5_tick_77 : decode cX5_tick 77 = .ok (.aload_n 0, 1) := by decide +kernel
theorem dX5_tick_78 : decode cX5_tick 78 = .ok (.dup, 1) := by decide +kernel
theorem dX5_tick_79 : decode cX5_tick 79 = .ok (.getfield 43, 3) := by decide +kernel
theorem dX5_tick_82 : decode cX5_tick 82 = .ok (.iconst 1, 1) := by decide +kernel
theorem dX5_tick_83 : decode cX5_tick 83 = .ok (.iadd, 1) := by decide +kernel
theorem dX5_tick_84 : decode cX5_tick 84 = .ok (.putfield 43, 3) := by decide +kernel
theorem dX5_tick_87 : decode cX5_tick 87 = .ok (.return_, 1) := by decide +kernel
theorem dX5_sendIfDue_0 : decode cX5_sendIfDue 0 = .ok (.aload_n 1, 1) := by decide +kernel
theorem dX5_sendIfDue_1 : decode cX5_sendIfDue 1 = .ok (.aload_n 1, 1) := by decide +kernel
theorem dX5_sendIfDue_2 : decode cX5_sendIfDue 2 = .ok (.getfield 76, 3) := by decide +kernel
theorem dX5_sendIfDue_5 : decode cX5_sendIfDue 5 = .ok (.iconst 1, 1) := by decide +kernel
theorem dX5_sendIfDue_6 : decode cX5_sendIfDue 6 = .ok (.isub, 1) := by decide +kernel
theorem dX5_sendIfDue_7 : decode cX5_sendIfDue 7 = .ok (.iconst 0, 1) := by decide +kernel
theorem dX5_sendIfDue_8 : decode cX5_sendIfDue 8 = .ok (.invokestatic 79, 3) := by decide +kernel
theorem dX5_sendIfDue_11 : decode cX5_sendIfDue 11 = .ok (.putfield 76, 3) := by decide +kernel
theorem dX5_sendIfDue_14 : decode cX5_sendIfDue 14 = .ok (.aload_n 1, 1) := by decide +kernel
theorem dX5_sendIfDue_15 : decode cX5_sendIfDue 15 = .ok (.getfield 85, 3) := by decide +kernel
theorem dX5_sendIfDue_18 : decode cX5_sendIfDue 18 = .ok (.ifCond .ne 17, 3) := by decide +kernel
theorem dX5_sendIfDue_21 : decode cX5_sendIfDue 21 = .ok (.aload_n 1, 1) := by decide +kernel
theorem dX5_sendIfDue_22 : decode cX5_sendIfDue 22 = .ok (.getfield 76, 3) := by decide +kernel
theorem dX5_sendIfDue_25 : decode cX5_sendIfDue 25 = .ok (.ifCond .ne 62, 3) := by decide +kernel
theorem dX5_sendIfDue_28 : decode cX5_sendIfDue 28 = .ok (.aload_n 1, 1) := by decide +kernel
theorem dX5_sendIfDue_29 : decode cX5_sendIfDue 29 = .ok (.invokevirtual 89, 3) := by decide +kernel
theorem dX5_sendIfDue_32 : decode cX5_sendIfDue 32 = .ok (.ifCond .ne 55, 3) := by decide +kernel
theorem dX5_sendIfDue_35 : decode cX5_sendIfDue 35 = .ok (.aload_n 2, 1) := by decide +kernel
theorem dX5_sendIfDue_36 : decode cX5_sendIfDue 36 = .ok (.aload_n 1, 1) := by decide +kernel
theorem dX5_sendIfDue_37 : decode cX5_sendIfDue 37 = .ok (.aload_n 0, 1) := by decide +kernel
theorem dX5_sendIfDue_38 : decode cX5_sendIfDue 38 = .ok (.getfield 46, 3) := by decide +kernel
theorem dX5_sendIfDue_41 : decode cX5_sendIfDue 41 = .ok (.iconst 1, 1) := by decide +kernel
theorem dX5_sendIfDue_42 : decode cX5_sendIfDue 42 = .ok (.iand, 1) := by decide +kernel
theorem dX5_sendIfDue_43 : decode cX5_sendIfDue 43 = .ok (.ifCond .eq 7, 3) := by decide +kernel
theorem dX5_sendIfDue_46 : decode cX5_sendIfDue 46 = .ok (.iconst 1, 1) := by decide +kernel
theorem dX5_sendIfDue_47 : decode cX5_sendIfDue 47 = .ok (.goto 4, 3) := by decide +kernel
theorem dX5_sendIfDue_50 : decode cX5_sendIfDue 50 = .ok (.iconst 0, 1) := by decide +kernel
theorem dX5_sendIfDue_51 : decode cX5_sendIfDue 51 = .ok (.invokevirtual 92, 3) := by decide +kernel
theorem dX5_sendIfDue_54 : decode cX5_sendIfDue 54 = .ok (.aload_n 0, 1) := by decide +kernel
theorem dX5_sendIfDue_55 : decode cX5_sendIfDue 55 = .ok (.dup, 1) := by decide +kernel
theorem dX5_sendIfDue_56 : decode cX5_sendIfDue 56 = .ok (.getfield 46, 3) := by decide +kernel
theorem dX5_sendIfDue_59 : decode cX5_sendIfDue 59 = .ok (.iconst 1, 1) := by decide +kernel
theorem dX5_sendIfDue_60 : decode cX5_sendIfDue 60 = .ok (.iushr, 1) := by decide +kernel
theorem dX5_sendIfDue_61 : decode cX5_sendIfDue 61 = .ok (.putfield 46, 3) := by decide +kernel
theorem dX5_sendIfDue_64 : decode cX5_sendIfDue 64 = .ok (.aload_n 1, 1) := by decide +kernel
theorem dX5_sendIfDue_65 : decode cX5_sendIfDue 65 = .ok (.iconst 0, 1) := by decide +kernel
theorem dX5_sendIfDue_66 : decode cX5_sendIfDue 66 = .ok (.putfield 85, 3) := by decide +kernel
theorem dX5_sendIfDue_69 : decode cX5_sendIfDue 69 = .ok (.aload_n 1, 1) := by decide +kernel
theorem dX5_sendIfDue_70 : decode cX5_sendIfDue 70 = .ok (.aload_n 1, 1) := by decide +kernel
theorem dX5_sendIfDue_71 : decode cX5_sendIfDue 71 = .ok (.invokevirtual 96, 3) := by decide +kernel
theorem dX5_sendIfDue_74 : decode cX5_sendIfDue 74 = .ok (.putfield 76, 3) := by decide +kernel
theorem dX5_sendIfDue_77 : decode cX5_sendIfDue 77 = .ok (.aload_n 0, 1) := by decide +kernel
theorem dX5_sendIfDue_78 : decode cX5_sendIfDue 78 = .ok (.dup, 1) := by decide +kernel
theorem dX5_sendIfDue_79 : decode cX5_sendIfDue 79 = .ok (.getfield 40, 3) := by decide +kernel
theorem dX5_sendIfDue_82 : decode cX5_sendIfDue 82 = .ok (.iconst 1, 1) := by decide +kernel
theorem dX5_sendIfDue_83 : decode cX5_sendIfDue 83 = .ok (.iadd, 1) := by decide +kernel
theorem dX5_sendIfDue_84 : decode cX5_sendIfDue 84 = .ok (.putfield 40, 3) := by decide +kernel
theorem dX5_sendIfDue_87 : decode cX5_sendIfDue 87 = .ok (.return_, 1) := by decide +kernel
theorem dJ6_bitCount_0f7a4_0 : decode cJ6_bitCount_0f7a4 0 = .ok (.iload_n 0, 1) := by decide +kernel
theorem dJ6_bitCount_0f7a4_1 : decode cJ6_bitCount_0f7a4 1 = .ok (.iload_n 0, 1) := by decide +kernel
theorem dJ6_bitCount_0f7a4_2 : decode cJ6_bitCount_0f7a4 2 = .ok (.iconst 1, 1) := by decide +kernel
theorem dJ6_bitCount_0f7a4_3 : decode cJ6_bitCount_0f7a4 3 = .ok (.iushr, 1) := by decide +kernel
theorem dJ6_bitCount_0f7a4_4 : decode cJ6_bitCount_0f7a4 4 = .ok (.ldc_w 265, 3) := by decide +kernel
theorem dJ6_bitCount_0f7a4_7 : decode cJ6_bitCount_0f7a4 7 = .ok (.iand, 1) := by decide +kernel
theorem dJ6_bitCount_0f7a4_8 : decode cJ6_bitCount_0f7a4 8 = .ok (.isub, 1) := by decide +kernel
theorem dJ6_bitCount_0f7a4_9 : decode cJ6_bitCount_0f7a4 9 = .ok (.istore_n 0, 1) := by decide +kernel
theorem dJ6_bitCount_0f7a4_10 : decode cJ6_bitCount_0f7a4 10 = .ok (.iload_n 0, 1) := by decide +kernel
theorem dJ6_bitCount_0f7a4_11 : decode cJ6_bitCount_0f7a4 11 = .ok (.ldc_w 266, 3) := by decide +kernel
theorem dJ6_bitCount_0f7a4_14 : decode cJ6_bitCount_0f7a4 14 = .ok (.iand, 1) := by decide +kernel
theorem dJ6_bitCount_0f7a4_15 : decode cJ6_bitCount_0f7a4 15 = .ok (.iload_n 0, 1) := by decide +kernel
theorem dJ6_bitCount_0f7a4_16 : decode cJ6_bitCount_0f7a4 16 = .ok (.iconst 2, 1) := by decide +kernel
theorem dJ6_bitCount_0f7a4_17 : decode cJ6_bitCount_0f7a4 17 = .ok (.iushr, 1) := by decide +kernel
theorem dJ6_bitCount_0f7a4_18 : decode cJ6_bitCount_0f7a4 18 = .ok (.ldc_w 266, 3) := by decide +kernel
theorem dJ6_bitCount_0f7a4_21 : decode cJ6_bitCount_0f7a4 21 = .ok (.iand, 1) := by decide +kernel
theorem dJ6_bitCount_0f7a4_22 : decode cJ6_bitCount_0f7a4 22 = .ok (.iadd, 1) := by decide +kernel
theorem dJ6_bitCount_0f7a4_23 : decode cJ6_bitCount_0f7a4 23 = .ok (.istore_n 0, 1) := by decide +kernel
theorem dJ6_bitCount_0f7a4_24 : decode cJ6_bitCount_0f7a4 24 = .ok (.iload_n 0, 1) := by decide +kernel
theorem dJ6_bitCount_0f7a4_25 : decode cJ6_bitCount_0f7a4 25 = .ok (.iload_n 0, 1) := by decide +kernel
theorem dJ6_bitCount_0f7a4_26 : decode cJ6_bitCount_0f7a4 26 = .ok (.iconst 4, 1) := by decide +kernel
theorem dJ6_bitCount_0f7a4_27 : decode cJ6_bitCount_0f7a4 27 = .ok (.iushr, 1) := by decide +kernel
theorem dJ6_bitCount_0f7a4_28 : decode cJ6_bitCount_0f7a4 28 = .ok (.iadd, 1) := by decide +kernel
theorem dJ6_bitCount_0f7a4_29 : decode cJ6_bitCount_0f7a4 29 = .ok (.ldc_w 267, 3) := by decide +kernel
theorem dJ6_bitCount_0f7a4_32 : decode cJ6_bitCount_0f7a4 32 = .ok (.iand, 1) := by decide +kernel
theorem dJ6_bitCount_0f7a4_33 : decode cJ6_bitCount_0f7a4 33 = .ok (.istore_n 0, 1) := by decide +kernel
theorem dJ6_bitCount_0f7a4_34 : decode cJ6_bitCount_0f7a4 34 = .ok (.iload_n 0, 1) := by decide +kernel
theorem dJ6_bitCount_0f7a4_35 : decode cJ6_bitCount_0f7a4 35 = .ok (.iload_n 0, 1) := by decide +kernel
theorem dJ6_bitCount_0f7a4_36 : decode cJ6_bitCount_0f7a4 36 = .ok (.bipush 8, 2) := by decide +kernel
theorem dJ6_bitCount_0f7a4_38 : decode cJ6_bitCount_0f7a4 38 = .ok (.iushr, 1) := by decide +kernel
theorem dJ6_bitCount_0f7a4_39 : decode cJ6_bitCount_0f7a4 39 = .ok (.iadd, 1) := by decide +kernel
theorem dJ6_bitCount_0f7a4_40 : decode cJ6_bitCount_0f7a4 40 = .ok (.istore_n 0, 1) := by decide +kernel
theorem dJ6_bitCount_0f7a4_41 : decode cJ6_bitCount_0f7a4 41 = .ok (.iload_n 0, 1) := by decide +kernel
theorem dJ6_bitCount_0f7a4_42 : decode cJ6_bitCount_0f7a4 42 = .ok (.iload_n 0, 1) := by decide +kernel
theorem dJ6_bitCount_0f7a4_43 : decode cJ6_bitCount_0f7a4 43 = .ok (.bipush 16, 2) := by decide +kernel
theorem dJ6_bitCount_0f7a4_45 : decode cJ6_bitCount_0f7a4 45 = .ok (.iushr, 1) := by decide +kernel
theorem dJ6_bitCount_0f7a4_46 : decode cJ6_bitCount_0f7a4 46 = .ok (.iadd, 1) := by decide +kernel
theorem dJ6_bitCount_0f7a4_47 : decode cJ6_bitCount_0f7a4 47 = .ok (.istore_n 0, 1) := by decide +kernel
theorem dJ6_bitCount_0f7a4_48 : decode cJ6_bitCount_0f7a4 48 = .ok (.iload_n 0, 1) := by decide +kernel
theorem dJ6_bitCount_0f7a4_49 : decode cJ6_bitCount_0f7a4 49 = .ok (.bipush 63, 2) := by decide +kernel
theorem dJ6_bitCount_0f7a4_51 : decode cJ6_bitCount_0f7a4 51 = .ok (.iand, 1) := by decide +kernel
theorem dJ6_bitCount_0f7a4_52 : decode cJ6_bitCount_0f7a4 52 = .ok (.ireturn, 1) := by decide +kernel
theorem dJ9_abs_0f7a4_0 : decode cJ9_abs_0f7a4 0 = .ok (.iload_n 0, 1) := by decide +kernel
theorem dJ9_abs_0f7a4_1 : decode cJ9_abs_0f7a4 1 = .ok (.ifCond .ge 8, 3) := by decide +kernel
theorem dJ9_abs_0f7a4_4 : decode cJ9_abs_0f7a4 4 = .ok (.iload_n 0, 1) := by decide +kernel
theorem dJ9_abs_0f7a4_5 : decode cJ9_abs_0f7a4 5 = .ok (.ineg, 1) := by decide +kernel
theorem dJ9_abs_0f7a4_6 : decode cJ9_abs_0f7a4 6 = .ok (.goto 4, 3) := by decide +kernel
theorem dJ9_abs_0f7a4_9 : decode cJ9_abs_0f7a4 9 = .ok (.iload_n 0, 1) := by decide +kernel
theorem dJ9_abs_0f7a4_10 : decode cJ9_abs_0f7a4 10 = .ok (.ireturn, 1) := by decide +kernel
theorem dJ9_max_7cf53_0 : decode cJ9_max_7cf53 0 = .ok (.iload_n 0, 1) := by decide +kernel
theorem dJ9_max_7cf53_1 : decode cJ9_max_7cf53 1 = .ok (.iload_n 1, 1) := by decide +kernel
theorem dJ9_max_7cf53_2 : decode cJ9_max_7cf53 2 = .ok (.if_icmp .lt 7, 3) := by decide +kernel
theorem dJ9_max_7cf53_5 : decode cJ9_max_7cf53 5 = .ok (.iload_n 0, 1) := by decide +kernel
theorem dJ9_max_7cf53_6 : decode cJ9_max_7cf53 6 = .ok (.goto 4, 3) := by decide +kernel
theorem dJ9_max_7cf53_9 : decode cJ9_max_7cf53 9 = .ok (.iload_n 1, 1) := by decide +kernel
theorem dJ9_max_7cf53_10 : decode cJ9_max_7cf53 10 = .ok (.ireturn, 1) := by decide +kernel
theorem dJ9_min_7cf53_0 : decode cJ9_min_7cf53 0 = .ok (.iload_n 0, 1) := by decide +kernel
theorem dJ9_min_7cf53_1 : decode cJ9_min_7cf53 1 = .ok (.iload_n 1, 1) := by decide +kernel
theorem dJ9_min_7cf53_2 : decode cJ9_min_7cf53 2 = .ok (.if_icmp .gt 7, 3) := by decide +kernel
theorem dJ9_min_7cf53_5 : decode cJ9_min_7cf53 5 = .ok (.iload_n 0, 1) := by decide +kernel
theorem dJ9_min_7cf53_6 : decode cJ9_min_7cf53 6 = .ok (.goto 4, 3) := by decide +kernel
theorem dJ9_min_7cf53_9 : decode cJ9_min_7cf53 9 = .ok (.iload_n 1, 1) := by decide +kernel
theorem dJ9_min_7cf53_10 : decode cJ9_min_7cf53 10 = .ok (.ireturn, 1) := by decide +kernel
