theorem dX6_init_0 : decode cX6_init 0 = .ok (.aload_n 0, 1) := by decide +kernel
theorem dX6_init_1 : decode cX6_init 1 = .ok (.invokespecial 1, 3) := by decide +kernel
theorem dX6_init_4 : decode cX6_init 4 = .ok (.aload_n 0, 1) := by decide +kernel
theorem dX6_init_5 : decode cX6_init 5 = .ok (.new 7, 3) := by decide +kernel
theorem dX6_init_8 : decode cX6_init 8 = .ok (.dup, 1) := by decide +kernel
theorem dX6_init_9 : decode cX6_init 9 = .ok (.invokespecial 9, 3) := by decide +kernel
theorem dX6_init_12 : decode cX6_init 12 = .ok (.putfield 10, 3) := by decide +kernel
theorem dX6_init_15 : decode cX6_init 15 = .ok (.aload_n 0, 1) := by decide +kernel
theorem dX6_init_16 : decode cX6_init 16 = .ok (.new 16, 3) := by decide +kernel
theorem dX6_init_19 : decode cX6_init 19 = .ok (.dup, 1) := by decide +kernel
theorem dX6_init_20 : decode cX6_init 20 = .ok (.invokespecial 18, 3) := by decide +kernel
theorem dX6_init_23 : decode cX6_init 23 = .ok (.putfield 19, 3) := by decide +kernel
theorem dX6_init_26 : decode cX6_init 26 = .ok (.aload_n 0, 1) := by decide +kernel
theorem dX6_init_27 : decode cX6_init 27 = .ok (.new 16, 3) := by decide +kernel
theorem dX6_init_30 : decode cX6_init 30 = .ok (.dup, 1) := by decide +kernel
theorem dX6_init_31 : decode cX6_init 31 = .ok (.invokespecial 18, 3) := by decide +kernel
theorem dX6_init_34 : decode cX6_init 34 = .ok (.putfield 23, 3) := by decide +kernel
theorem dX6_init_37 : decode cX6_init 37 = .ok (.aload_n 0, 1) := by decide +kernel
theorem dX6_init_38 : decode cX6_init 38 = .ok (.bipush 14, 2) := by decide +kernel
theorem dX6_init_40 : decode cX6_init 40 = .ok (.anewarray 16, 3) := by decide +kernel
theorem dX6_init_43 : decode cX6_init 43 = .ok (.putfield 26, 3) := by decide +kernel
theorem dX6_init_46 : decode cX6_init 46 = .ok (.iconst 0, 1) := by decide +kernel
theorem dX6_init_47 : decode cX6_init 47 = .ok (.istore_n 1, 1) := by decide +kernel
theorem dX6_init_48 : decode cX6_init 48 = .ok (.iload_n 1, 1) := by decide +kernel
theorem dX6_init_49 : decode cX6_init 49 = .ok (.bipush 14, 2) := by decide +kernel
theorem dX6_init_51 : decode cX6_init 51 = .ok (.if_icmp .ge 22, 3) := by decide +kernel
theorem dX6_init_54 : decode cX6_init 54 = .ok (.aload_n 0, 1) := by decide +kernel
theorem dX6_init_55 : decode cX6_init 55 = .ok (.getfield 26, 3) := by decide +kernel
theorem dX6_init_58 : decode cX6_init 58 = .ok (.iload_n 1, 1) := by decide +kernel
theorem dX6_init_59 : decode cX6_init 59 = .ok (.new 16, 3) := by decide +kernel
theorem dX6_init_62 : decode cX6_init 62 = .ok (.dup, 1) := by decide +kernel
theorem dX6_init_63 : decode cX6_init 63 = .ok (.invokespecial 18, 3) := by decide +kernel
theorem dX6_init_66 : decode cX6_init 66 = .ok (.aastore, 1) := by decide +kernel
theorem dX6_init_67 : decode cX6_init 67 = .ok (.iinc 1 1, 3) := by decide +kernel
theorem dX6_init_70 : decode cX6_init 70 = .ok (.goto (-22), 3) := by decide +kernel
theorem dX6_init_73 : decode cX6_init 73 = .ok (.aload_n 0, 1) := by decide +kernel
theorem dX6_init_74 : decode cX6_init 74 = .ok (.iconst 2, 1) := by decide +kernel
theorem dX6_init_75 : decode cX6_init 75 = .ok (.anewarray 16, 3) := by decide +kernel
theorem dX6_init_78 : decode cX6_init 78 = .ok (.putfield 30, 3) := by decide +kernel
theorem dX6_init_81 : decode cX6_init 81 = .ok (.iconst 0, 1) := by decide +kernel
theorem dX6_init_82 : decode cX6_init 82 = .ok (.istore_n 1, 1) := by decide +kernel
theorem dX6_init_83 : decode cX6_init 83 = .ok (.iload_n 1, 1) := by decide +kernel
theorem dX6_init_84 : decode cX6_init 84 = .ok (.iconst 2, 1) := by decide +kernel
theorem dX6_init_85 : decode cX6_init 85 = .ok (.if_icmp .ge 22, 3) := by decide +kernel
theorem dX6_init_88 : decode cX6_init 88 = .ok (.aload_n 0, 1) := by decide +kernel
theorem dX6_init_89 : decode cX6_init 89 = .ok (.getfield 30, 3) := by decide +kernel
theorem dX6_init_92 : decode cX6_init 92 = .ok (.iload_n 1, 1) := by decide +kernel
theorem dX6_init_93 : decode cX6_init 93 = .ok (.new 16, 3) := by decide +kernel
theorem dX6_init_96 : decode cX6_init 96 = .ok (.dup, 1) := by decide +kernel
theorem dX6_init_97 : decode cX6_init 97 = .ok (.invokespecial 18, 3) := by decide +kernel
theorem dX6_init_100 : decode cX6_init 100 = .ok (.aastore, 1) := by decide +kernel
theorem dX6_init_101 : decode cX6_init 101 = .ok (.iinc 1 1, 3) := by decide +kernel
theorem dX6_init_104 : decode cX6_init 104 = .ok (.goto (-21), 3) := by decide +kernel
theorem dX6_init_107 : decode cX6_init 107 = .ok (.aload_n 0, 1) := by decide +kernel
theorem dX6_init_108 : decode cX6_init 108 = .ok (.iconst 2, 1) := by decide +kernel
theorem dX6_init_109 : decode cX6_init 109 = .ok (.newarray .boolean, 2) := by decide +kernel
theorem dX6_init_111 : decode cX6_init 111 = .ok (.putfield 33, 3) := by decide +kernel
theorem dX6_init_114 : decode cX6_init 114 = .ok (.aload_n 0, 1) := by decide +kernel
theorem dX6_init_115 : decode cX6_init 115 = .ok (.new 37, 3) := by decide +kernel
theorem dX6_init_118 : decode cX6_init 118 = .ok (.dup, 1) := by decide +kernel
theorem dX6_init_119 : decode cX6_init 119 = .ok (.invokespecial 39, 3) := by decide +kernel
theorem dX6_init_122 : decode cX6_init 122 = .ok (.putfield 40, 3) := by decide +kernel
theorem dX6_init_125 : decode cX6_init 125 = .ok (.return_, 1) := by decide +kernel
theorem dX6_write_0 : decode cX6_write 0 = .ok (.iload_n 1, 1) := by decide +kernel
theorem dX6_write_1 : decode cX6_write 1 = .ok (.ifCond .lt 10, 3) := by decide +kernel
theorem dX6_write_4 : decode cX6_write 4 = .ok (.iload_n 1, 1) := by decide +kernel
theorem dX6_write_5 : decode cX6_write 5 = .ok (.sipush 255, 3) := by decide +kernel
theorem dX6_write_8 : decode cX6_write 8 = .ok (.if_icmp .le 6, 3) := by decide +kernel
theorem dX6_write_11 : decode cX6_write 11 = .ok (.bipush (-2), 2) := by decide +kernel
theorem dX6_write_13 : decode cX6_write 13 = .ok (.ireturn, 1) := by decide +kernel
theorem dX6_write_14 : decode cX6_write 14 = .ok (.aload_n 0, 1) := by decide +kernel
theorem dX6_write_15 : decode cX6_write 15 = .ok (.getfield 10, 3) := by decide +kernel
theorem dX6_write_18 : decode cX6_write 18 = .ok (.getfield 44, 3) := by decide +kernel
theorem dX6_write_21 : decode cX6_write 21 = .ok (.bipush 70, 2) := by decide +kernel
theorem dX6_write_23 : decode cX6_write 23 = .ok (.if_icmp .lt 6, 3) := by decide +kernel
theorem dX6_write_26 : decode cX6_write 26 = .ok (.bipush (-4), 2) := by decide +kernel
theorem dX6_write_28 : decode cX6_write 28 = .ok (.ireturn, 1) := by decide +kernel
theorem dX6_write_29 : decode cX6_write 29 = .ok (.aload_n 0, 1) := by decide +kernel
theorem dX6_write_30 : decode cX6_write 30 = .ok (.getfield 10, 3) := by decide +kernel
theorem dX6_write_33 : decode cX6_write 33 = .ok (.iload_n 1, 1) := by decide +kernel
theorem dX6_write_34 : decode cX6_write 34 = .ok (.invokevirtual 48, 3) := by decide +kernel
theorem dX6_write_37 : decode cX6_write 37 = .ok (.aload_n 0, 1) := by decide +kernel
theorem dX6_write_38 : decode cX6_write 38 = .ok (.getfield 10, 3) := by decide +kernel
theorem dX6_write_41 : decode cX6_write 41 = .ok (.getfield 44, 3) := by decide +kernel
theorem dX6_write_44 : decode cX6_write 44 = .ok (.ireturn, 1) := by decide +kernel
theorem dX6_wipe_0 : decode cX6_wipe 0 = .ok (.aload_n 0, 1) := by decide +kernel
theorem dX6_wipe_1 : decode cX6_wipe 1 = .ok (.getfield 10, 3) := by decide +kernel
theorem dX6_wipe_4 : decode cX6_wipe 4 = .ok (.getfield 44, 3) := by decide +kernel
theorem dX6_wipe_7 : decode cX6_wipe 7 = .ok (.istore_n 1, 1) := by decide +kernel
theorem dX6_wipe_8 : decode cX6_wipe 8 = .ok (.aload_n 0, 1) := by decide +kernel
theorem dX6_wipe_9 : decode cX6_wipe 9 = .ok (.getfield 10, 3) := by decide +kernel
theorem dX6_wipe_12 : decode cX6_wipe 12 = .ok (.iconst 0, 1) := by decide +kernel
theorem dX6_wipe_13 : decode cX6_wipe 13 = .ok (.putfield 44, 3) := by decide +kernel
theorem dX6_wipe_16 : decode cX6_wipe 16 = .ok (.iload_n 1, 1) := by decide +kernel
theorem dX6_wipe_17 : decode cX6_wipe 17 = .ok (.ireturn, 1) := by decide +kernel
theorem dX6_fault_0 : decode cX6_fault 0 = .ok (.aload_n 0, 1) := by decide +kernel
theorem dX6_fault_1 : decode cX6_fault 1 = .ok (.getfield 10, 3) := by decide +kernel
theorem dX6_fault_4 : decode cX6_fault 4 = .ok (.invokevirtual 52, 3) := by decide +kernel
theorem dX6_fault_7 : decode cX6_fault 7 = .ok (.ireturn, 1) := by decide +kernel
theorem dX6_link_0 : decode cX6_link 0 = .ok (.aload_n 0, 1) := by decide +kernel
theorem dX6_link_1 : decode cX6_link 1 = .ok (.getfield 10, 3) := by decide +kernel
theorem dX6_link_4 : decode cX6_link 4 = .ok (.invokevirtual 52, 3) := by decide +kernel
theorem dX6_link_7 : decode cX6_link 7 = .ok (.bipush (-9), 2) := by decide +kernel
theorem dX6_link_9 : decode cX6_link 9 = .ok (.if_icmp .eq 6, 3) := by decide +kernel
theorem dX6_link_12 : decode cX6_link 12 = .ok (.bipush (-3), 2) := by decide +kernel
theorem dX6_link_14 : decode cX6_link 14 = .ok (.ireturn, 1) := by decide +kernel
theorem dX6_link_15 : decode cX6_link 15 = .ok (.aload_n 0, 1) := by decide +kernel
theorem dX6_link_16 : decode cX6_link 16 = .ok (.getfield 10, 3) := by decide +kernel
theorem dX6_link_19 : decode cX6_link 19 = .ok (.aload_n 0, 1) := by decide +kernel
theorem dX6_link_20 : decode cX6_link 20 = .ok (.getfield 19, 3) := by decide +kernel
theorem dX6_link_23 : decode cX6_link 23 = .ok (.invokevirtual 56, 3) := by decide +kernel
theorem dX6_link_26 : decode cX6_link 26 = .ok (.aload_n 0, 1) := by decide +kernel
theorem dX6_link_27 : decode cX6_link 27 = .ok (.iconst 0, 1) := by decide +kernel
theorem dX6_link_28 : decode cX6_link 28 = .ok (.putfield 60, 3) := by decide +kernel
theorem dX6_link_31 : decode cX6_link 31 = .ok (.iconst 0, 1) := by decide +kernel
theorem dX6_link_32 : decode cX6_link 32 = .ok (.istore_n 1, 1) := by decide +kernel
theorem dX6_link_33 : decode cX6_link 33 = .ok (.iload_n 1, 1) := by decide +kernel
theorem dX6_link_34 : decode cX6_link 34 = .ok (.iconst 2, 1) := by decide +kernel
theorem dX6_link_35 : decode cX6_link 35 = .ok (.if_icmp .ge 16, 3) := by decide +kernel
theorem dX6_link_38 : decode cX6_link 38 = .ok (.aload_n 0, 1) := by decide +kernel
theorem dX6_link_39 : decode cX6_link 39 = .ok (.getfield 33, 3) := by decide +kernel
theorem dX6_link_42 : decode cX6_link 42 = .ok (.iload_n 1, 1) := by decide +kernel
theorem dX6_link_43 : decode cX6_link 43 = .ok (.iconst 0, 1) := by decide +kernel
theorem dX6_link_44 : decode cX6_link 44 = .ok (.bastore, 1) := by decide +kernel
theorem dX6_link_45 : decode cX6_link 45 = .ok (.iinc 1 1, 3) := by decide +kernel
theorem dX6_link_48 : decode cX6_link 48 = .ok (.goto (-15), 3) := by decide +kernel
theorem dX6_link_51 : decode cX6_link 51 = .ok (.aload_n 0, 1) := by decide +kernel
theorem dX6_link_52 : decode cX6_link 52 = .ok (.getfield 19, 3) := by decide +kernel
theorem dX6_link_55 : decode cX6_link 55 = .ok (.getfield 63, 3) := by decide +kernel
theorem dX6_link_58 : decode cX6_link 58 = .ok (.ireturn, 1) := by decide +kernel
theorem dX6_end_0 : decode cX6_end 0 = .ok (.iload_n 1, 1) := by decide +kernel
theorem dX6_end_1 : decode cX6_end 1 = .ok (.invokestatic 66, 3) := by decide +kernel
theorem dX6_end_4 : decode cX6_end 4 = .ok (.ifCond .ne 5, 3) := by decide +kernel
theorem dX6_end_7 : decode cX6_end 7 = .ok (.iconst (-1), 1) := by decide +kernel
theorem dX6_end_8 : decode cX6_end 8 = .ok (.ireturn, 1) := by decide +kernel
theorem dX6_end_9 : decode cX6_end 9 = .ok (.iload_n 2, 1) := by decide +kernel
theorem dX6_end_10 : decode cX6_end 10 = .ok (.ifCond .lt 9, 3) := by decide +kernel
theorem dX6_end_13 : decode cX6_end 13 = .ok (.iload_n 2, 1) := by decide +kernel
theorem dX6_end_14 : decode cX6_end 14 = .ok (.bipush 13, 2) := by decide +kernel
theorem dX6_end_16 : decode cX6_end 16 = .ok (.if_icmp .le 6, 3) := by decide +kernel
theorem dX6_end_19 : decode cX6_end 19 = .ok (.bipush (-2), 2) := by decide +kernel
theorem dX6_end_21 : decode cX6_end 21 = .ok (.ireturn, 1) := by decide +kernel
theorem dX6_end_22 : decode cX6_end 22 = .ok (.iload_n 2, 1) := by decide +kernel
theorem dX6_end_23 : decode cX6_end 23 = .ok (.bipush 12, 2) := by decide +kernel
theorem dX6_end_25 : decode cX6_end 25 = .ok (.if_icmp .ne 9, 3) := by decide +kernel
theorem dX6_end_28 : decode cX6_end 28 = .ok (.aload_n 0, 1) := by decide +kernel
theorem dX6_end_29 : decode cX6_end 29 = .ok (.iload_n 1, 1) := by decide +kernel
theorem dX6_end_30 : decode cX6_end 30 = .ok (.invokevirtual 70, 3) := by decide +kernel
theorem dX6_end_33 : decode cX6_end 33 = .ok (.ireturn, 1) := by decide +kernel
theorem dX6_end_34 : decode cX6_end 34 = .ok (.iload_n 2, 1) := by decide +kernel
theorem dX6_end_35 : decode cX6_end 35 = .ok (.bipush 13, 2) := by decide +kernel
theorem dX6_end_37 : decode cX6_end 37 = .ok (.if_icmp .ne 9, 3) := by decide +kernel
theorem dX6_end_40 : decode cX6_end 40 = .ok (.aload_n 0, 1) := by decide +kernel
theorem dX6_end_41 : decode cX6_end 41 = .ok (.iload_n 1, 1) := by decide +kernel
theorem dX6_end_42 : decode cX6_end 42 = .ok (.invokevirtual 74, 3) := by decide +kernel
theorem dX6_end_45 : decode cX6_end 45 = .ok (.ireturn, 1) := by decide +kernel
theorem dX6_end_46 : decode cX6_end 46 = .ok (.aload_n 0, 1) := by decide +kernel
theorem dX6_end_47 : decode cX6_end 47 = .ok (.getfield 19, 3) := by decide +kernel
theorem dX6_end_50 : decode cX6_end 50 = .ok (.iload_n 1, 1) := by decide +kernel
theorem dX6_end_51 : decode cX6_end 51 = .ok (.invokevirtual 77, 3) := by decide +kernel
theorem dX6_end_54 : decode cX6_end 54 = .ok (.iload_n 2, 1) := by decide +kernel
theorem dX6_end_55 : decode cX6_end 55 = .ok (.invokevirtual 81, 3) := by decide +kernel
theorem dX6_end_58 : decode cX6_end 58 = .ok (.ireturn, 1) := by decide +kernel
theorem dX6_known_0 : decode cX6_known 0 = .ok (.iload_n 1, 1) := by decide +kernel
theorem dX6_known_1 : decode cX6_known 1 = .ok (.invokestatic 66, 3) := by decide +kernel
theorem dX6_known_4 : decode cX6_known 4 = .ok (.ifCond .ne 5, 3) := by decide +kernel
theorem dX6_known_7 : decode cX6_known 7 = .ok (.iconst (-1), 1) := by decide +kernel
theorem dX6_known_8 : decode cX6_known 8 = .ok (.ireturn, 1) := by decide +kernel
theorem dX6_known_9 : decode cX6_known 9 = .ok (.iload_n 2, 1) := by decide +kernel
theorem dX6_known_10 : decode cX6_known 10 = .ok (.ifCond .lt 8, 3) := by decide +kernel
theorem dX6_known_13 : decode cX6_known 13 = .ok (.iload_n 2, 1) := by decide +kernel
theorem dX6_known_14 : decode cX6_known 14 = .ok (.iconst 4, 1) := by decide +kernel
theorem dX6_known_15 : decode cX6_known 15 = .ok (.if_icmp .le 6, 3) := by decide +kernel
theorem dX6_known_18 : decode cX6_known 18 = .ok (.bipush (-2), 2) := by decide +kernel
theorem dX6_known_20 : decode cX6_known 20 = .ok (.ireturn, 1) := by decide +kernel
theorem dX6_known_21 : decode cX6_known 21 = .ok (.aload_n 0, 1) := by decide +kernel
theorem dX6_known_22 : decode cX6_known 22 = .ok (.getfield 19, 3) := by decide +kernel
theorem dX6_known_25 : decode cX6_known 25 = .ok (.iload_n 1, 1) := by decide +kernel
theorem dX6_known_26 : decode cX6_known 26 = .ok (.invokevirtual 77, 3) := by decide +kernel
theorem dX6_known_29 : decode cX6_known 29 = .ok (.getfield 86, 3) := by decide +kernel
theorem dX6_known_32 : decode cX6_known 32 = .ok (.iload_n 2, 1) := by decide +kernel
theorem dX6_known_33 : decode cX6_known 33 = .ok (.invokevirtual 90, 3) := by decide +kernel
theorem dX6_known_36 : decode cX6_known 36 = .ok (.ireturn, 1) := by decide +kernel
theorem dX6_way_0 : decode cX6_way 0 = .ok (.iload_n 1, 1) := by decide +kernel
theorem dX6_way_1 : decode cX6_way 1 = .ok (.invokestatic 66, 3) := by decide +kernel
theorem dX6_way_4 : decode cX6_way 4 = .ok (.ifCond .ne 5, 3) := by decide +kernel
theorem dX6_way_7 : decode cX6_way 7 = .ok (.iconst (-1), 1) := by decide +kernel
theorem dX6_way_8 : decode cX6_way 8 = .ok (.ireturn, 1) := by decide +kernel
theorem dX6_way_9 : decode cX6_way 9 = .ok (.iload_n 2, 1) := by decide +kernel
theorem dX6_way_10 : decode cX6_way 10 = .ok (.ifCond .lt 8, 3) := by decide +kernel
theorem dX6_way_13 : decode cX6_way 13 = .ok (.iload_n 2, 1) := by decide +kernel
theorem dX6_way_14 : decode cX6_way 14 = .ok (.iconst 1, 1) := by decide +kernel
theorem dX6_way_15 : decode cX6_way 15 = .ok (.if_icmp .le 6, 3) := by decide +kernel
theorem dX6_way_18 : decode cX6_way 18 = .ok (.bipush (-2), 2) := by decide +kernel
theorem dX6_way_20 : decode cX6_way 20 = .ok (.ireturn, 1) := by decide +kernel
theorem dX6_way_21 : decode cX6_way 21 = .ok (.aload_n 0, 1) := by decide +kernel
theorem dX6_way_22 : decode cX6_way 22 = .ok (.getfield 19, 3) := by decide +kernel
theorem dX6_way_25 : decode cX6_way 25 = .ok (.iload_n 1, 1) := by decide +kernel
theorem dX6_way_26 : decode cX6_way 26 = .ok (.invokevirtual 93, 3) := by decide +kernel
theorem dX6_way_29 : decode cX6_way 29 = .ok (.astore_n 3, 1) := by decide +kernel
theorem dX6_way_30 : decode cX6_way 30 = .ok (.iload_n 2, 1) := by decide +kernel
theorem dX6_way_31 : decode cX6_way 31 = .ok (.ifCond .ne 10, 3) := by decide +kernel
theorem dX6_way_34 : decode cX6_way 34 = .ok (.aload_n 3, 1) := by decide +kernel
theorem dX6_way_35 : decode cX6_way 35 = .ok (.getfield 97, 3) := by decide +kernel
theorem dX6_way_38 : decode cX6_way 38 = .ok (.goto 7, 3) := by decide +kernel
theorem dX6_way_41 : decode cX6_way 41 = .ok (.aload_n 3, 1) := by decide +kernel
theorem dX6_way_42 : decode cX6_way 42 = .ok (.getfield 103, 3) := by decide +kernel
theorem dX6_way_45 : decode cX6_way 45 = .ok (.invokestatic 106, 3) := by decide +kernel
theorem dX6_way_48 : decode cX6_way 48 = .ok (.ireturn, 1) := by decide +kernel
theorem dX6_pass_0 : decode cX6_pass 0 = .ok (.iload_n 1, 1) := by decide +kernel
theorem dX6_pass_1 : decode cX6_pass 1 = .ok (.iconst 1, 1) := by decide +kernel
theorem dX6_pass_2 : decode cX6_pass 2 = .ok (.if_icmp .lt 9, 3) := by decide +kernel
theorem dX6_pass_5 : decode cX6_pass 5 = .ok (.iload_n 1, 1) := by decide +kernel
theorem dX6_pass_6 : decode cX6_pass 6 = .ok (.bipush 30, 2) := by decide +kernel
theorem dX6_pass_8 : decode cX6_pass 8 = .ok (.if_icmp .le 6, 3) := by decide +kernel
theorem dX6_pass_11 : decode cX6_pass 11 = .ok (.bipush (-2), 2) := by decide +kernel
theorem dX6_pass_13 : decode cX6_pass 13 = .ok (.ireturn, 1) := by decide +kernel
theorem dX6_pass_14 : decode cX6_pass 14 = .ok (.aload_n 0, 1) := by decide +kernel
theorem dX6_pass_15 : decode cX6_pass 15 = .ok (.invokevirtual 110, 3) := by decide +kernel
theorem dX6_pass_18 : decode cX6_pass 18 = .ok (.aload_n 0, 1) := by decide +kernel
theorem dX6_pass_19 : decode cX6_pass 19 = .ok (.getfield 19, 3) := by decide +kernel
theorem dX6_pass_22 : decode cX6_pass 22 = .ok (.iload_n 1, 1) := by decide +kernel
theorem dX6_pass_23 : decode cX6_pass 23 = .ok (.invokevirtual 113, 3) := by decide +kernel
theorem dX6_pass_26 : decode cX6_pass 26 = .ok (.aload_n 0, 1) := by decide +kernel
theorem dX6_pass_27 : decode cX6_pass 27 = .ok (.getfield 19, 3) := by decide +kernel
theorem dX6_pass_30 : decode cX6_pass 30 = .ok (.getfield 63, 3) := by decide +kernel
theorem dX6_pass_33 : decode cX6_pass 33 = .ok (.ireturn, 1) := by decide +kernel
theorem dX6_tell_0 : decode cX6_tell 0 = .ok (.iload_n 1, 1) := by decide +kernel
theorem dX6_tell_1 : decode cX6_tell 1 = .ok (.invokestatic 66, 3) := by decide +kernel
theorem dX6_tell_4 : decode cX6_tell 4 = .ok (.ifCond .ne 5, 3) := by decide +kernel
theorem dX6_tell_7 : decode cX6_tell 7 = .ok (.iconst (-1), 1) := by decide +kernel
theorem dX6_tell_8 : decode cX6_tell 8 = .ok (.ireturn, 1) := by decide +kernel
theorem dX6_tell_9 : decode cX6_tell 9 = .ok (.iload_n 2, 1) := by decide +kernel
theorem dX6_tell_10 : decode cX6_tell 10 = .ok (.ifCond .lt 28, 3) := by decide +kernel
theorem dX6_tell_13 : decode cX6_tell 13 = .ok (.iload_n 2, 1) := by decide +kernel
theorem dX6_tell_14 : decode cX6_tell 14 = .ok (.iconst 2, 1) := by decide +kernel
theorem dX6_tell_15 : decode cX6_tell 15 = .ok (.if_icmp .gt 23, 3) := by decide +kernel
theorem dX6_tell_18 : decode cX6_tell 18 = .ok (.iload_n 3, 1) := by decide +kernel
theorem dX6_tell_19 : decode cX6_tell 19 = .ok (.iconst 1, 1) := by decide +kernel
theorem dX6_tell_20 : decode cX6_tell 20 = .ok (.if_icmp .lt 18, 3) := by decide +kernel
theorem dX6_tell_23 : decode cX6_tell 23 = .ok (.iload_n 3, 1) := by decide +kernel
theorem dX6_tell_24 : decode cX6_tell 24 = .ok (.iload_n 2, 1) := by decide +kernel
theorem dX6_tell_25 : decode cX6_tell 25 = .ok (.iconst 2, 1) := by decide +kernel
theorem dX6_tell_26 : decode cX6_tell 26 = .ok (.if_icmp .ne 7, 3) := by decide +kernel
theorem dX6_tell_29 : decode cX6_tell 29 = .ok (.iconst 5, 1) := by decide +kernel
theorem dX6_tell_30 : decode cX6_tell 30 = .ok (.goto 5, 3) := by decide +kernel
theorem dX6_tell_33 : decode cX6_tell 33 = .ok (.bipush 9, 2) := by decide +kernel
theorem dX6_tell_35 : decode cX6_tell 35 = .ok (.if_icmp .le 6, 3) := by decide +kernel
theorem dX6_tell_38 : decode cX6_tell 38 = .ok (.bipush (-2), 2) := by decide +kernel
theorem dX6_tell_40 : decode cX6_tell 40 = .ok (.ireturn, 1) := by decide +kernel
theorem dX6_tell_41 : decode cX6_tell 41 = .ok (.aload_n 0, 1) := by decide +kernel
theorem dX6_tell_42 : decode cX6_tell 42 = .ok (.invokevirtual 110, 3) := by decide +kernel
theorem dX6_tell_45 : decode cX6_tell 45 = .ok (.aload_n 0, 1) := by decide +kernel
theorem dX6_tell_46 : decode cX6_tell 46 = .ok (.getfield 19, 3) := by decide +kernel
theorem dX6_tell_49 : decode cX6_tell 49 = .ok (.iload_n 1, 1) := by decide +kernel
theorem dX6_tell_50 : decode cX6_tell 50 = .ok (.invokevirtual 77, 3) := by decide +kernel
theorem dX6_tell_53 : decode cX6_tell 53 = .ok (.astore 4, 2) := by decide +kernel
theorem dX6_tell_55 : decode cX6_tell 55 = .ok (.aload 4, 2) := by decide +kernel
theorem dX6_tell_57 : decode cX6_tell 57 = .ok (.iload_n 2, 1) := by decide +kernel
theorem dX6_tell_58 : decode cX6_tell 58 = .ok (.invokevirtual 81, 3) := by decide +kernel
theorem dX6_tell_61 : decode cX6_tell 61 = .ok (.istore 5, 2) := by decide +kernel
theorem dX6_tell_63 : decode cX6_tell 63 = .ok (.aload 4, 2) := by decide +kernel
theorem dX6_tell_65 : decode cX6_tell 65 = .ok (.iload_n 2, 1) := by decide +kernel
theorem dX6_tell_66 : decode cX6_tell 66 = .ok (.iload_n 3, 1) := by decide +kernel
theorem dX6_tell_67 : decode cX6_tell 67 = .ok (.invokevirtual 116, 3) := by decide +kernel
theorem dX6_tell_70 : decode cX6_tell 70 = .ok (.iload 5, 2) := by decide +kernel
theorem dX6_tell_72 : decode cX6_tell 72 = .ok (.ireturn, 1) := by decide +kernel
theorem dX6_demand_0 : decode cX6_demand 0 = .ok (.iload_n 1, 1) := by decide +kernel
theorem dX6_demand_1 : decode cX6_demand 1 = .ok (.invokestatic 66, 3) := by decide +kernel
theorem dX6_demand_4 : decode cX6_demand 4 = .ok (.ifCond .ne 5, 3) := by decide +kernel
theorem dX6_demand_7 : decode cX6_demand 7 = .ok (.iconst (-1), 1) := by decide +kernel
theorem dX6_demand_8 : decode cX6_demand 8 = .ok (.ireturn, 1) := by decide +kernel
theorem dX6_demand_9 : decode cX6_demand 9 = .ok (.aload_n 0, 1) := by decide +kernel
theorem dX6_demand_10 : decode cX6_demand 10 = .ok (.invokevirtual 110, 3) := by decide +kernel
theorem dX6_demand_13 : decode cX6_demand 13 = .ok (.aload_n 0, 1) := by decide +kernel
theorem dX6_demand_14 : decode cX6_demand 14 = .ok (.getfield 19, 3) := by decide +kernel
theorem dX6_demand_17 : decode cX6_demand 17 = .ok (.iload_n 1, 1) := by decide +kernel
theorem dX6_demand_18 : decode cX6_demand 18 = .ok (.invokevirtual 77, 3) := by decide +kernel
theorem dX6_demand_21 : decode cX6_demand 21 = .ok (.astore_n 2, 1) := by decide +kernel
theorem dX6_demand_22 : decode cX6_demand 22 = .ok (.aload_n 2, 1) := by decide +kernel
theorem dX6_demand_23 : decode cX6_demand 23 = .ok (.invokevirtual 120, 3) := by decide +kernel
theorem dX6_demand_26 : decode cX6_demand 26 = .ok (.aload_n 2, 1) := by decide +kernel
theorem dX6_demand_27 : decode cX6_demand 27 = .ok (.getfield 123, 3) := by decide +kernel
theorem dX6_demand_30 : decode cX6_demand 30 = .ok (.invokestatic 106, 3) := by decide +kernel
theorem dX6_demand_33 : decode cX6_demand 33 = .ok (.ireturn, 1) := by decide +kernel
theorem dX6_turn_0 : decode cX6_turn 0 = .ok (.iload_n 1, 1) := by decide +kernel
theorem dX6_turn_1 : decode cX6_turn 1 = .ok (.invokestatic 66, 3) := by decide +kernel
theorem dX6_turn_4 : decode cX6_turn 4 = .ok (.ifCond .ne 5, 3) := by decide +kernel
theorem dX6_turn_7 : decode cX6_turn 7 = .ok (.iconst (-1), 1) := by decide +kernel
theorem dX6_turn_8 : decode cX6_turn 8 = .ok (.ireturn, 1) := by decide +kernel
theorem dX6_turn_9 : decode cX6_turn 9 = .ok (.aload_n 0, 1) := by decide +kernel
theorem dX6_turn_10 : decode cX6_turn 10 = .ok (.invokevirtual 110, 3) := by decide +kernel
theorem dX6_turn_13 : decode cX6_turn 13 = .ok (.aload_n 0, 1) := by decide +kernel
theorem dX6_turn_14 : decode cX6_turn 14 = .ok (.getfield 19, 3) := by decide +kernel
theorem dX6_turn_17 : decode cX6_turn 17 = .ok (.iload_n 1, 1) := by decide +kernel
theorem dX6_turn_18 : decode cX6_turn 18 = .ok (.invokevirtual 93, 3) := by decide +kernel
theorem dX6_turn_21 : decode cX6_turn 21 = .ok (.astore_n 2, 1) := by decide +kernel
theorem dX6_turn_22 : decode cX6_turn 22 = .ok (.aload_n 2, 1) := by decide +kernel
theorem dX6_turn_23 : decode cX6_turn 23 = .ok (.invokevirtual 126, 3) := by decide +kernel
theorem dX6_turn_26 : decode cX6_turn 26 = .ok (.aload_n 2, 1) := by decide +kernel
theorem dX6_turn_27 : decode cX6_turn 27 = .ok (.getfield 97, 3) := by decide +kernel
theorem dX6_turn_30 : decode cX6_turn 30 = .ok (.invokestatic 106, 3) := by decide +kernel
theorem dX6_turn_33 : decode cX6_turn 33 = .ok (.ireturn, 1) := by decide +kernel
theorem dX6_poll_0 : decode cX6_poll 0 = .ok (.iload_n 1, 1) := by decide +kernel
theorem dX6_poll_1 : decode cX6_poll 1 = .ok (.invokestatic 66, 3) := by decide +kernel
theorem dX6_poll_4 : decode cX6_poll 4 = .ok (.ifCond .ne 5, 3) := by decide +kernel
theorem dX6_poll_7 : decode cX6_poll 7 = .ok (.iconst (-1), 1) := by decide +kernel
theorem dX6_poll_8 : decode cX6_poll 8 = .ok (.ireturn, 1) := by decide +kernel
theorem dX6_poll_9 : decode cX6_poll 9 = .ok (.aload_n 0, 1) := by decide +kernel
theorem dX6_poll_10 : decode cX6_poll 10 = .ok (.getfield 19, 3) := by decide +kernel
theorem dX6_poll_13 : decode cX6_poll 13 = .ok (.iload_n 1, 1) := by decide +kernel
theorem dX6_poll_14 : decode cX6_poll 14 = .ok (.invokevirtual 77, 3) := by decide +kernel
theorem dX6_poll_17 : decode cX6_poll 17 = .ok (.astore_n 2, 1) := by decide +kernel
theorem dX6_poll_18 : decode cX6_poll 18 = .ok (.aload_n 2, 1) := by decide +kernel
theorem dX6_poll_19 : decode cX6_poll 19 = .ok (.invokevirtual 129, 3) := by decide +kernel
theorem dX6_poll_22 : decode cX6_poll 22 = .ok (.ifCond .ne 6, 3) := by decide +kernel
theorem dX6_poll_25 : decode cX6_poll 25 = .ok (.bipush (-3), 2) := by decide +kernel
theorem dX6_poll_27 : decode cX6_poll 27 = .ok (.ireturn, 1) := by decide +kernel
theorem dX6_poll_28 : decode cX6_poll 28 = .ok (.aload_n 0, 1) := by decide +kernel
theorem dX6_poll_29 : decode cX6_poll 29 = .ok (.invokevirtual 110, 3) := by decide +kernel
theorem dX6_poll_32 : decode cX6_poll 32 = .ok (.aload_n 2, 1) := by decide +kernel
theorem dX6_poll_33 : decode cX6_poll 33 = .ok (.invokevirtual 133, 3) := by decide +kernel
theorem dX6_poll_36 : decode cX6_poll 36 = .ok (.aload_n 2, 1) := by decide +kernel
theorem dX6_poll_37 : decode cX6_poll 37 = .ok (.invokevirtual 136, 3) := by decide +kernel
theorem dX6_poll_40 : decode cX6_poll 40 = .ok (.ireturn, 1) := by decide +kernel
theorem dX6_undo_0 : decode cX6_undo 0 = .ok (.aload_n 0, 1) := by decide +kernel
theorem dX6_undo_1 : decode cX6_undo 1 = .ok (.getfield 60, 3) := by decide +kernel
theorem dX6_undo_4 : decode cX6_undo 4 = .ok (.iconst 1, 1) := by decide +kernel
theorem dX6_undo_5 : decode cX6_undo 5 = .ok (.if_icmp .lt 12, 3) := by decide +kernel
theorem dX6_undo_8 : decode cX6_undo 8 = .ok (.aload_n 0, 1) := by decide +kernel
theorem dX6_undo_9 : decode cX6_undo 9 = .ok (.getfield 60, 3) := by decide +kernel
theorem dX6_undo_12 : decode cX6_undo 12 = .ok (.bipush 14, 2) := by decide +kernel
theorem dX6_undo_14 : decode cX6_undo 14 = .ok (.if_icmp .le 6, 3) := by decide +kernel
theorem dX6_undo_17 : decode cX6_undo 17 = .ok (.bipush (-3), 2) := by decide +kernel
theorem dX6_undo_19 : decode cX6_undo 19 = .ok (.ireturn, 1) := by decide +kernel
theorem dX6_undo_20 : decode cX6_undo 20 = .ok (.aload_n 0, 1) := by decide +kernel
theorem dX6_undo_21 : decode cX6_undo 21 = .ok (.dup, 1) := by decide +kernel
theorem dX6_undo_22 : decode cX6_undo 22 = .ok (.getfield 60, 3) := by decide +kernel
theorem dX6_undo_25 : decode cX6_undo 25 = .ok (.iconst 1, 1) := by decide +kernel
theorem dX6_undo_26 : decode cX6_undo 26 = .ok (.isub, 1) := by decide +kernel
theorem dX6_undo_27 : decode cX6_undo 27 = .ok (.putfield 60, 3) := by decide +kernel
theorem dX6_undo_30 : decode cX6_undo 30 = .ok (.aload_n 0, 1) := by decide +kernel
theorem dX6_undo_31 : decode cX6_undo 31 = .ok (.getfield 19, 3) := by decide +kernel
theorem dX6_undo_34 : decode cX6_undo 34 = .ok (.aload_n 0, 1) := by decide +kernel
theorem dX6_undo_35 : decode cX6_undo 35 = .ok (.getfield 26, 3) := by decide +kernel
theorem dX6_undo_38 : decode cX6_undo 38 = .ok (.aload_n 0, 1) := by decide +kernel
theorem dX6_undo_39 : decode cX6_undo 39 = .ok (.getfield 60, 3) := by decide +kernel
theorem dX6_undo_42 : decode cX6_undo 42 = .ok (.aaload, 1) := by decide +kernel
theorem dX6_undo_43 : decode cX6_undo 43 = .ok (.invokevirtual 139, 3) := by decide +kernel
theorem dX6_undo_46 : decode cX6_undo 46 = .ok (.aload_n 0, 1) := by decide +kernel
theorem dX6_undo_47 : decode cX6_undo 47 = .ok (.getfield 60, 3) := by decide +kernel
theorem dX6_undo_50 : decode cX6_undo 50 = .ok (.ireturn, 1) := by decide +kernel
theorem dX6_ahead_0 : decode cX6_ahead 0 = .ok (.iload_n 1, 1) := by decide +kernel
theorem dX6_ahead_1 : decode cX6_ahead 1 = .ok (.ifCond .lt 18, 3) := by decide +kernel
theorem dX6_ahead_4 : decode cX6_ahead 4 = .ok (.iload_n 1, 1) := by decide +kernel
theorem dX6_ahead_5 : decode cX6_ahead 5 = .ok (.bipush 99, 2) := by decide +kernel
theorem dX6_ahead_7 : decode cX6_ahead 7 = .ok (.if_icmp .gt 12, 3) := by decide +kernel
theorem dX6_ahead_10 : decode cX6_ahead 10 = .ok (.iload_n 2, 1) := by decide +kernel
theorem dX6_ahead_11 : decode cX6_ahead 11 = .ok (.ifCond .lt 8, 3) := by decide +kernel
theorem dX6_ahead_14 : decode cX6_ahead 14 = .ok (.iload_n 2, 1) := by decide +kernel
theorem dX6_ahead_15 : decode cX6_ahead 15 = .ok (.iconst 3, 1) := by decide +kernel
theorem dX6_ahead_16 : decode cX6_ahead 16 = .ok (.if_icmp .le 6, 3) := by decide +kernel
theorem dX6_ahead_19 : decode cX6_ahead 19 = .ok (.bipush (-2), 2) := by decide +kernel
theorem dX6_ahead_21 : decode cX6_ahead 21 = .ok (.ireturn, 1) := by decide +kernel
theorem dX6_ahead_22 : decode cX6_ahead 22 = .ok (.aload_n 0, 1) := by decide +kernel
theorem dX6_ahead_23 : decode cX6_ahead 23 = .ok (.getfield 23, 3) := by decide +kernel
theorem dX6_ahead_26 : decode cX6_ahead 26 = .ok (.aload_n 0, 1) := by decide +kernel
theorem dX6_ahead_27 : decode cX6_ahead 27 = .ok (.getfield 19, 3) := by decide +kernel
theorem dX6_ahead_30 : decode cX6_ahead 30 = .ok (.invokevirtual 139, 3) := by decide +kernel
theorem dX6_ahead_33 : decode cX6_ahead 33 = .ok (.aload_n 0, 1) := by decide +kernel
theorem dX6_ahead_34 : decode cX6_ahead 34 = .ok (.getfield 23, 3) := by decide +kernel
theorem dX6_ahead_37 : decode cX6_ahead 37 = .ok (.iload_n 1, 1) := by decide +kernel
theorem dX6_ahead_38 : decode cX6_ahead 38 = .ok (.invokevirtual 113, 3) := by decide +kernel
theorem dX6_ahead_41 : decode cX6_ahead 41 = .ok (.iload_n 2, 1) := by decide +kernel
theorem dX6_ahead_42 : decode cX6_ahead 42 = .ok (.tableswitch 56 0 2 #[26, 37, 48], 26) := by decide +kernel
theorem dX6_ahead_68 : decode cX6_ahead 68 = .ok (.aload_n 0, 1) := by decide +kernel
theorem dX6_ahead_69 : decode cX6_ahead 69 = .ok (.getfield 23, 3) := by decide +kernel
theorem dX6_ahead_72 : decode cX6_ahead 72 = .ok (.getfield 142, 3) := by decide +kernel
theorem dX6_ahead_75 : decode cX6_ahead 75 = .ok (.getfield 146, 3) := by decide +kernel
theorem dX6_ahead_78 : decode cX6_ahead 78 = .ok (.ireturn, 1) := by decide +kernel
theorem dX6_ahead_79 : decode cX6_ahead 79 = .ok (.aload_n 0, 1) := by decide +kernel
theorem dX6_ahead_80 : decode cX6_ahead 80 = .ok (.getfield 23, 3) := by decide +kernel
theorem dX6_ahead_83 : decode cX6_ahead 83 = .ok (.getfield 149, 3) := by decide +kernel
theorem dX6_ahead_86 : decode cX6_ahead 86 = .ok (.getfield 146, 3) := by decide +kernel
theorem dX6_ahead_89 : decode cX6_ahead 89 = .ok (.ireturn, 1) := by decide +kernel
theorem dX6_ahead_90 : decode cX6_ahead 90 = .ok (.aload_n 0, 1) := by decide +kernel
theorem dX6_ahead_91 : decode cX6_ahead 91 = .ok (.getfield 23, 3) := by decide +kernel
theorem dX6_ahead_94 : decode cX6_ahead 94 = .ok (.getfield 152, 3) := by decide +kernel
theorem dX6_ahead_97 : decode cX6_ahead 97 = .ok (.ireturn, 1) := by decide +kernel
theorem dX6_ahead_98 : decode cX6_ahead 98 = .ok (.aload_n 0, 1) := by decide +kernel
theorem dX6_ahead_99 : decode cX6_ahead 99 = .ok (.getfield 23, 3) := by decide +kernel
theorem dX6_ahead_102 : decode cX6_ahead 102 = .ok (.getfield 155, 3) := by decide +kernel
theorem dX6_ahead_105 : decode cX6_ahead 105 = .ok (.ireturn, 1) := by decide +kernel
theorem dX6_letters_0 : decode cX6_letters 0 = .ok (.iload_n 1, 1) := by decide +kernel
theorem dX6_letters_1 : decode cX6_letters 1 = .ok (.ifCond .lt 9, 3) := by decide +kernel
theorem dX6_letters_4 : decode cX6_letters 4 = .ok (.iload_n 1, 1) := by decide +kernel
theorem dX6_letters_5 : decode cX6_letters 5 = .ok (.bipush 99, 2) := by decide +kernel
theorem dX6_letters_7 : decode cX6_letters 7 = .ok (.if_icmp .le 6, 3) := by decide +kernel
theorem dX6_letters_10 : decode cX6_letters 10 = .ok (.bipush (-2), 2) := by decide +kernel
theorem dX6_letters_12 : decode cX6_letters 12 = .ok (.ireturn, 1) := by decide +kernel
theorem dX6_letters_13 : decode cX6_letters 13 = .ok (.aload_n 0, 1) := by decide +kernel
theorem dX6_letters_14 : decode cX6_letters 14 = .ok (.getfield 23, 3) := by decide +kernel
theorem dX6_letters_17 : decode cX6_letters 17 = .ok (.aload_n 0, 1) := by decide +kernel
theorem dX6_letters_18 : decode cX6_letters 18 = .ok (.getfield 19, 3) := by decide +kernel
theorem dX6_letters_21 : decode cX6_letters 21 = .ok (.invokevirtual 139, 3) := by decide +kernel
theorem dX6_letters_24 : decode cX6_letters 24 = .ok (.aload_n 0, 1) := by decide +kernel
theorem dX6_letters_25 : decode cX6_letters 25 = .ok (.getfield 23, 3) := by decide +kernel
theorem dX6_letters_28 : decode cX6_letters 28 = .ok (.iload_n 1, 1) := by decide +kernel
theorem dX6_letters_29 : decode cX6_letters 29 = .ok (.invokevirtual 113, 3) := by decide +kernel
theorem dX6_letters_32 : decode cX6_letters 32 = .ok (.aload_n 0, 1) := by decide +kernel
theorem dX6_letters_33 : decode cX6_letters 33 = .ok (.getfield 23, 3) := by decide +kernel
theorem dX6_letters_36 : decode cX6_letters 36 = .ok (.getfield 152, 3) := by decide +kernel
theorem dX6_letters_39 : decode cX6_letters 39 = .ok (.aload_n 0, 1) := by decide +kernel
theorem dX6_letters_40 : decode cX6_letters 40 = .ok (.getfield 19, 3) := by decide +kernel
theorem dX6_letters_43 : decode cX6_letters 43 = .ok (.getfield 152, 3) := by decide +kernel
theorem dX6_letters_46 : decode cX6_letters 46 = .ok (.isub, 1) := by decide +kernel
theorem dX6_letters_47 : decode cX6_letters 47 = .ok (.ireturn, 1) := by decide +kernel
theorem dX6_judge_0 : decode cX6_judge 0 = .ok (.iload_n 1, 1) := by decide +kernel
theorem dX6_judge_1 : decode cX6_judge 1 = .ok (.iconst 1, 1) := by decide +kernel
theorem dX6_judge_2 : decode cX6_judge 2 = .ok (.if_icmp .lt 24, 3) := by decide +kernel
theorem dX6_judge_5 : decode cX6_judge 5 = .ok (.iload_n 1, 1) := by decide +kernel
theorem dX6_judge_6 : decode cX6_judge 6 = .ok (.iconst 4, 1) := by decide +kernel
theorem dX6_judge_7 : decode cX6_judge 7 = .ok (.if_icmp .gt 19, 3) := by decide +kernel
theorem dX6_judge_10 : decode cX6_judge 10 = .ok (.lload_n 2, 1) := by decide +kernel
theorem dX6_judge_11 : decode cX6_judge 11 = .ok (.lconst 0, 1) := by decide +kernel
theorem dX6_judge_12 : decode cX6_judge 12 = .ok (.lcmp, 1) := by decide +kernel
theorem dX6_judge_13 : decode cX6_judge 13 = .ok (.ifCond .lt 13, 3) := by decide +kernel
theorem dX6_judge_16 : decode cX6_judge 16 = .ok (.lload_n 2, 1) := by decide +kernel
theorem dX6_judge_17 : decode cX6_judge 17 = .ok (.iload_n 1, 1) := by decide +kernel
theorem dX6_judge_18 : decode cX6_judge 18 = .ok (.invokestatic 158, 3) := by decide +kernel
theorem dX6_judge_21 : decode cX6_judge 21 = .ok (.lconst 0, 1) := by decide +kernel
theorem dX6_judge_22 : decode cX6_judge 22 = .ok (.lcmp, 1) := by decide +kernel
theorem dX6_judge_23 : decode cX6_judge 23 = .ok (.ifCond .eq 6, 3) := by decide +kernel
theorem dX6_judge_26 : decode cX6_judge 26 = .ok (.bipush (-2), 2) := by decide +kernel
theorem dX6_judge_28 : decode cX6_judge 28 = .ok (.ireturn, 1) := by decide +kernel
theorem dX6_judge_29 : decode cX6_judge 29 = .ok (.aload_n 0, 1) := by decide +kernel
theorem dX6_judge_30 : decode cX6_judge 30 = .ok (.getfield 23, 3) := by decide +kernel
theorem dX6_judge_33 : decode cX6_judge 33 = .ok (.aload_n 0, 1) := by decide +kernel
theorem dX6_judge_34 : decode cX6_judge 34 = .ok (.getfield 19, 3) := by decide +kernel
theorem dX6_judge_37 : decode cX6_judge 37 = .ok (.invokevirtual 139, 3) := by decide +kernel
theorem dX6_judge_40 : decode cX6_judge 40 = .ok (.iconst 0, 1) := by decide +kernel
theorem dX6_judge_41 : decode cX6_judge 41 = .ok (.istore 4, 2) := by decide +kernel
theorem dX6_judge_43 : decode cX6_judge 43 = .ok (.iload 4, 2) := by decide +kernel
theorem dX6_judge_45 : decode cX6_judge 45 = .ok (.iload_n 1, 1) := by decide +kernel
theorem dX6_judge_46 : decode cX6_judge 46 = .ok (.if_icmp .ge 38, 3) := by decide +kernel
theorem dX6_judge_49 : decode cX6_judge 49 = .ok (.lload_n 2, 1) := by decide +kernel
theorem dX6_judge_50 : decode cX6_judge 50 = .ok (.iload_n 1, 1) := by decide +kernel
theorem dX6_judge_51 : decode cX6_judge 51 = .ok (.iconst 1, 1) := by decide +kernel
theorem dX6_judge_52 : decode cX6_judge 52 = .ok (.isub, 1) := by decide +kernel
theorem dX6_judge_53 : decode cX6_judge 53 = .ok (.iload 4, 2) := by decide +kernel
theorem dX6_judge_55 : decode cX6_judge 55 = .ok (.isub, 1) := by decide +kernel
theorem dX6_judge_56 : decode cX6_judge 56 = .ok (.invokestatic 158, 3) := by decide +kernel
theorem dX6_judge_59 : decode cX6_judge 59 = .ok (.ldc2_w 162, 3) := by decide +kernel
theorem dX6_judge_62 : decode cX6_judge 62 = .ok (.lrem, 1) := by decide +kernel
theorem dX6_judge_63 : decode cX6_judge 63 = .ok (.l2i, 1) := by decide +kernel
theorem dX6_judge_64 : decode cX6_judge 64 = .ok (.istore 5, 2) := by decide +kernel
theorem dX6_judge_66 : decode cX6_judge 66 = .ok (.aload_n 0, 1) := by decide +kernel
theorem dX6_judge_67 : decode cX6_judge 67 = .ok (.iload 5, 2) := by decide +kernel
theorem dX6_judge_69 : decode cX6_judge 69 = .ok (.invokevirtual 164, 3) := by decide +kernel
theorem dX6_judge_72 : decode cX6_judge 72 = .ok (.ifCond .ne 6, 3) := by decide +kernel
theorem dX6_judge_75 : decode cX6_judge 75 = .ok (.iload 4, 2) := by decide +kernel
theorem dX6_judge_77 : decode cX6_judge 77 = .ok (.ireturn, 1) := by decide +kernel
theorem dX6_judge_78 : decode cX6_judge 78 = .ok (.iinc 4 1, 3) := by decide +kernel
theorem dX6_judge_81 : decode cX6_judge 81 = .ok (.goto (-38), 3) := by decide +kernel
theorem dX6_judge_84 : decode cX6_judge 84 = .ok (.bipush (-9), 2) := by decide +kernel
theorem dX6_judge_86 : decode cX6_judge 86 = .ok (.ireturn, 1) := by decide +kernel
theorem dX6_see_0 : decode cX6_see 0 = .ok (.iload_n 2, 1) := by decide +kernel
theorem dX6_see_1 : decode cX6_see 1 = .ok (.invokestatic 66, 3) := by decide +kernel
theorem dX6_see_4 : decode cX6_see 4 = .ok (.ifCond .ne 5, 3) := by decide +kernel
theorem dX6_see_7 : decode cX6_see 7 = .ok (.iconst (-1), 1) := by decide +kernel
theorem dX6_see_8 : decode cX6_see 8 = .ok (.ireturn, 1) := by decide +kernel
theorem dX6_see_9 : decode cX6_see 9 = .ok (.iload_n 1, 1) := by decide +kernel
theorem dX6_see_10 : decode cX6_see 10 = .ok (.ifCond .lt 18, 3) := by decide +kernel
theorem dX6_see_13 : decode cX6_see 13 = .ok (.iload_n 1, 1) := by decide +kernel
theorem dX6_see_14 : decode cX6_see 14 = .ok (.bipush 99, 2) := by decide +kernel
theorem dX6_see_16 : decode cX6_see 16 = .ok (.if_icmp .gt 12, 3) := by decide +kernel
theorem dX6_see_19 : decode cX6_see 19 = .ok (.iload_n 3, 1) := by decide +kernel
theorem dX6_see_20 : decode cX6_see 20 = .ok (.ifCond .lt 8, 3) := by decide +kernel
theorem dX6_see_23 : decode cX6_see 23 = .ok (.iload_n 3, 1) := by decide +kernel
theorem dX6_see_24 : decode cX6_see 24 = .ok (.iconst 2, 1) := by decide +kernel
theorem dX6_see_25 : decode cX6_see 25 = .ok (.if_icmp .le 6, 3) := by decide +kernel
theorem dX6_see_28 : decode cX6_see 28 = .ok (.bipush (-2), 2) := by decide +kernel
theorem dX6_see_30 : decode cX6_see 30 = .ok (.ireturn, 1) := by decide +kernel
theorem dX6_see_31 : decode cX6_see 31 = .ok (.aload_n 0, 1) := by decide +kernel
theorem dX6_see_32 : decode cX6_see 32 = .ok (.getfield 40, 3) := by decide +kernel
theorem dX6_see_35 : decode cX6_see 35 = .ok (.getfield 167, 3) := by decide +kernel
theorem dX6_see_38 : decode cX6_see 38 = .ok (.bipush 6, 2) := by decide +kernel
theorem dX6_see_40 : decode cX6_see 40 = .ok (.if_icmp .lt 6, 3) := by decide +kernel
theorem dX6_see_43 : decode cX6_see 43 = .ok (.bipush (-4), 2) := by decide +kernel
theorem dX6_see_45 : decode cX6_see 45 = .ok (.ireturn, 1) := by decide +kernel
theorem dX6_see_46 : decode cX6_see 46 = .ok (.aload_n 0, 1) := by decide +kernel
theorem dX6_see_47 : decode cX6_see 47 = .ok (.getfield 40, 3) := by decide +kernel
theorem dX6_see_50 : decode cX6_see 50 = .ok (.iload_n 1, 1) := by decide +kernel
theorem dX6_see_51 : decode cX6_see 51 = .ok (.iload_n 2, 1) := by decide +kernel
theorem dX6_see_52 : decode cX6_see 52 = .ok (.iload_n 3, 1) := by decide +kernel
theorem dX6_see_53 : decode cX6_see 53 = .ok (.invokevirtual 170, 3) := by decide +kernel
theorem dX6_see_56 : decode cX6_see 56 = .ok (.aload_n 0, 1) := by decide +kernel
theorem dX6_see_57 : decode cX6_see 57 = .ok (.getfield 40, 3) := by decide +kernel
theorem dX6_see_60 : decode cX6_see 60 = .ok (.getfield 167, 3) := by decide +kernel
theorem dX6_see_63 : decode cX6_see 63 = .ok (.ireturn, 1) := by decide +kernel
theorem dX6_unsee_0 : decode cX6_unsee 0 = .ok (.aload_n 0, 1) := by decide +kernel
theorem dX6_unsee_1 : decode cX6_unsee 1 = .ok (.getfield 40, 3) := by decide +kernel
theorem dX6_unsee_4 : decode cX6_unsee 4 = .ok (.getfield 167, 3) := by decide +kernel
theorem dX6_unsee_7 : decode cX6_unsee 7 = .ok (.istore_n 1, 1) := by decide +kernel
theorem dX6_unsee_8 : decode cX6_unsee 8 = .ok (.aload_n 0, 1) := by decide +kernel
theorem dX6_unsee_9 : decode cX6_unsee 9 = .ok (.getfield 40, 3) := by decide +kernel
theorem dX6_unsee_12 : decode cX6_unsee 12 = .ok (.iconst 0, 1) := by decide +kernel
theorem dX6_unsee_13 : decode cX6_unsee 13 = .ok (.putfield 167, 3) := by decide +kernel
theorem dX6_unsee_16 : decode cX6_unsee 16 = .ok (.iload_n 1, 1) := by decide +kernel
theorem dX6_unsee_17 : decode cX6_unsee 17 = .ok (.ireturn, 1) := by decide +kernel
theorem dX6_which_0 : decode cX6_which 0 = .ok (.iconst 0, 1) := by decide +kernel
theorem dX6_which_1 : decode cX6_which 1 = .ok (.istore_n 1, 1) := by decide +kernel
theorem dX6_which_2 : decode cX6_which 2 = .ok (.iconst 1, 1) := by decide +kernel
theorem dX6_which_3 : decode cX6_which 3 = .ok (.istore_n 2, 1) := by decide +kernel
theorem dX6_which_4 : decode cX6_which 4 = .ok (.iload_n 2, 1) := by decide +kernel
theorem dX6_which_5 : decode cX6_which 5 = .ok (.bipush 9, 2) := by decide +kernel
theorem dX6_which_7 : decode cX6_which 7 = .ok (.if_icmp .gt 62, 3) := by decide +kernel
theorem dX6_which_10 : decode cX6_which 10 = .ok (.aload_n 0, 1) := by decide +kernel
theorem dX6_which_11 : decode cX6_which 11 = .ok (.getfield 23, 3) := by decide +kernel
theorem dX6_which_14 : decode cX6_which 14 = .ok (.aload_n 0, 1) := by decide +kernel
theorem dX6_which_15 : decode cX6_which 15 = .ok (.getfield 19, 3) := by decide +kernel
theorem dX6_which_18 : decode cX6_which 18 = .ok (.invokevirtual 139, 3) := by decide +kernel
theorem dX6_which_21 : decode cX6_which 21 = .ok (.aload_n 0, 1) := by decide +kernel
theorem dX6_which_22 : decode cX6_which 22 = .ok (.getfield 23, 3) := by decide +kernel
theorem dX6_which_25 : decode cX6_which 25 = .ok (.getfield 142, 3) := by decide +kernel
theorem dX6_which_28 : decode cX6_which 28 = .ok (.iload_n 2, 1) := by decide +kernel
theorem dX6_which_29 : decode cX6_which 29 = .ok (.putfield 173, 3) := by decide +kernel
theorem dX6_which_32 : decode cX6_which 32 = .ok (.aload_n 0, 1) := by decide +kernel
theorem dX6_which_33 : decode cX6_which 33 = .ok (.getfield 23, 3) := by decide +kernel
theorem dX6_which_36 : decode cX6_which 36 = .ok (.getfield 142, 3) := by decide +kernel
theorem dX6_which_39 : decode cX6_which 39 = .ok (.iload_n 2, 1) := by decide +kernel
theorem dX6_which_40 : decode cX6_which 40 = .ok (.putfield 176, 3) := by decide +kernel
theorem dX6_which_43 : decode cX6_which 43 = .ok (.aload_n 0, 1) := by decide +kernel
theorem dX6_which_44 : decode cX6_which 44 = .ok (.getfield 40, 3) := by decide +kernel
theorem dX6_which_47 : decode cX6_which 47 = .ok (.aload_n 0, 1) := by decide +kernel
theorem dX6_which_48 : decode cX6_which 48 = .ok (.getfield 23, 3) := by decide +kernel
theorem dX6_which_51 : decode cX6_which 51 = .ok (.invokevirtual 179, 3) := by decide +kernel
theorem dX6_which_54 : decode cX6_which 54 = .ok (.ifCond .eq 9, 3) := by decide +kernel
theorem dX6_which_57 : decode cX6_which 57 = .ok (.iload_n 1, 1) := by decide +kernel
theorem dX6_which_58 : decode cX6_which 58 = .ok (.iconst 1, 1) := by decide +kernel
theorem dX6_which_59 : decode cX6_which 59 = .ok (.iload_n 2, 1) := by decide +kernel
theorem dX6_which_60 : decode cX6_which 60 = .ok (.ishl, 1) := by decide +kernel
theorem dX6_which_61 : decode cX6_which 61 = .ok (.ior, 1) := by decide +kernel
theorem dX6_which_62 : decode cX6_which 62 = .ok (.istore_n 1, 1) := by decide +kernel
theorem dX6_which_63 : decode cX6_which 63 = .ok (.iinc 2 1, 3) := by decide +kernel
theorem dX6_which_66 : decode cX6_which 66 = .ok (.goto (-62), 3) := by decide +kernel
theorem dX6_which_69 : decode cX6_which 69 = .ok (.iload_n 1, 1) := by decide +kernel
theorem dX6_which_70 : decode cX6_which 70 = .ok (.ireturn, 1) := by decide +kernel
theorem dX6_share_0 : decode cX6_share 0 = .ok (.iload_n 1, 1) := by decide +kernel
theorem dX6_share_1 : decode cX6_share 1 = .ok (.ifCond .lt 8, 3) := by decide +kernel
theorem dX6_share_4 : decode cX6_share 4 = .ok (.iload_n 1, 1) := by decide +kernel
theorem dX6_share_5 : decode cX6_share 5 = .ok (.iconst 4, 1) := by decide +kernel
theorem dX6_share_6 : decode cX6_share 6 = .ok (.if_icmp .lt 5, 3) := by decide +kernel
theorem dX6_share_9 : decode cX6_share 9 = .ok (.iconst (-1), 1) := by decide +kernel
theorem dX6_share_10 : decode cX6_share 10 = .ok (.ireturn, 1) := by decide +kernel
theorem dX6_share_11 : decode cX6_share 11 = .ok (.iconst 1, 1) := by decide +kernel
theorem dX6_share_12 : decode cX6_share 12 = .ok (.iload_n 1, 1) := by decide +kernel
theorem dX6_share_13 : decode cX6_share 13 = .ok (.ishl, 1) := by decide +kernel
theorem dX6_share_14 : decode cX6_share 14 = .ok (.istore_n 3, 1) := by decide +kernel
theorem dX6_share_15 : decode cX6_share 15 = .ok (.iconst 0, 1) := by decide +kernel
theorem dX6_share_16 : decode cX6_share 16 = .ok (.istore 4, 2) := by decide +kernel
theorem dX6_share_18 : decode cX6_share 18 = .ok (.iconst 0, 1) := by decide +kernel
theorem dX6_share_19 : decode cX6_share 19 = .ok (.istore 5, 2) := by decide +kernel
theorem dX6_share_21 : decode cX6_share 21 = .ok (.iload 5, 2) := by decide +kernel
theorem dX6_share_23 : decode cX6_share 23 = .ok (.bipush 16, 2) := by decide +kernel
theorem dX6_share_25 : decode cX6_share 25 = .ok (.if_icmp .ge 42, 3) := by decide +kernel
theorem dX6_share_28 : decode cX6_share 28 = .ok (.iload 5, 2) := by decide +kernel
theorem dX6_share_30 : decode cX6_share 30 = .ok (.iload_n 3, 1) := by decide +kernel
theorem dX6_share_31 : decode cX6_share 31 = .ok (.iand, 1) := by decide +kernel
theorem dX6_share_32 : decode cX6_share 32 = .ok (.ifCond .ne 29, 3) := by decide +kernel
theorem dX6_share_35 : decode cX6_share 35 = .ok (.iload 4, 2) := by decide +kernel
theorem dX6_share_37 : decode cX6_share 37 = .ok (.iload 5, 2) := by decide +kernel
theorem dX6_share_39 : decode cX6_share 39 = .ok (.invokestatic 183, 3) := by decide +kernel
theorem dX6_share_42 : decode cX6_share 42 = .ok (.aload_n 0, 1) := by decide +kernel
theorem dX6_share_43 : decode cX6_share 43 = .ok (.iload 5, 2) := by decide +kernel
theorem dX6_share_45 : decode cX6_share 45 = .ok (.invokevirtual 186, 3) := by decide +kernel
theorem dX6_share_48 : decode cX6_share 48 = .ok (.aload_n 0, 1) := by decide +kernel
theorem dX6_share_49 : decode cX6_share 49 = .ok (.iload 5, 2) := by decide +kernel
theorem dX6_share_51 : decode cX6_share 51 = .ok (.iload_n 3, 1) := by decide +kernel
theorem dX6_share_52 : decode cX6_share 52 = .ok (.ior, 1) := by decide +kernel
theorem dX6_share_53 : decode cX6_share 53 = .ok (.invokevirtual 186, 3) := by decide +kernel
theorem dX6_share_56 : decode cX6_share 56 = .ok (.isub, 1) := by decide +kernel
theorem dX6_share_57 : decode cX6_share 57 = .ok (.imul, 1) := by decide +kernel
theorem dX6_share_58 : decode cX6_share 58 = .ok (.iadd, 1) := by decide +kernel
theorem dX6_share_59 : decode cX6_share 59 = .ok (.istore 4, 2) := by decide +kernel
theorem dX6_share_61 : decode cX6_share 61 = .ok (.iinc 5 1, 3) := by decide +kernel
theorem dX6_share_64 : decode cX6_share 64 = .ok (.goto (-43), 3) := by decide +kernel
theorem dX6_share_67 : decode cX6_share 67 = .ok (.iload 4, 2) := by decide +kernel
theorem dX6_share_69 : decode cX6_share 69 = .ok (.bipush 24, 2) := by decide +kernel
theorem dX6_share_71 : decode cX6_share 71 = .ok (.iload_n 2, 1) := by decide +kernel
theorem dX6_share_72 : decode cX6_share 72 = .ok (.invokestatic 189, 3) := by decide +kernel
theorem dX6_share_75 : decode cX6_share 75 = .ok (.ireturn, 1) := by decide +kernel
theorem dX6_luck_0 : decode cX6_luck 0 = .ok (.iload_n 1, 1) := by decide +kernel
theorem dX6_luck_1 : decode cX6_luck 1 = .ok (.ifCond .lt 19, 3) := by decide +kernel
theorem dX6_luck_4 : decode cX6_luck 4 = .ok (.iload_n 1, 1) := by decide +kernel
theorem dX6_luck_5 : decode cX6_luck 5 = .ok (.bipush 6, 2) := by decide +kernel
theorem dX6_luck_7 : decode cX6_luck 7 = .ok (.if_icmp .gt 13, 3) := by decide +kernel
theorem dX6_luck_10 : decode cX6_luck 10 = .ok (.iload_n 2, 1) := by decide +kernel
theorem dX6_luck_11 : decode cX6_luck 11 = .ok (.ifCond .lt 9, 3) := by decide +kernel
theorem dX6_luck_14 : decode cX6_luck 14 = .ok (.iload_n 2, 1) := by decide +kernel
theorem dX6_luck_15 : decode cX6_luck 15 = .ok (.bipush 10, 2) := by decide +kernel
theorem dX6_luck_17 : decode cX6_luck 17 = .ok (.if_icmp .le 6, 3) := by decide +kernel
theorem dX6_luck_20 : decode cX6_luck 20 = .ok (.bipush (-2), 2) := by decide +kernel
theorem dX6_luck_22 : decode cX6_luck 22 = .ok (.ireturn, 1) := by decide +kernel
theorem dX6_luck_23 : decode cX6_luck 23 = .ok (.iconst 0, 1) := by decide +kernel
theorem dX6_luck_24 : decode cX6_luck 24 = .ok (.istore 4, 2) := by decide +kernel
theorem dX6_luck_26 : decode cX6_luck 26 = .ok (.iconst 0, 1) := by decide +kernel
theorem dX6_luck_27 : decode cX6_luck 27 = .ok (.istore 5, 2) := by decide +kernel
theorem dX6_luck_29 : decode cX6_luck 29 = .ok (.iload 5, 2) := by decide +kernel
theorem dX6_luck_31 : decode cX6_luck 31 = .ok (.iconst 1, 1) := by decide +kernel
theorem dX6_luck_32 : decode cX6_luck 32 = .ok (.iload_n 1, 1) := by decide +kernel
theorem dX6_luck_33 : decode cX6_luck 33 = .ok (.ishl, 1) := by decide +kernel
theorem dX6_luck_34 : decode cX6_luck 34 = .ok (.if_icmp .ge 39, 3) := by decide +kernel
theorem dX6_luck_37 : decode cX6_luck 37 = .ok (.iload 5, 2) := by decide +kernel
theorem dX6_luck_39 : decode cX6_luck 39 = .ok (.iload_n 1, 1) := by decide +kernel
theorem dX6_luck_40 : decode cX6_luck 40 = .ok (.iload_n 2, 1) := by decide +kernel
theorem dX6_luck_41 : decode cX6_luck 41 = .ok (.invokestatic 193, 3) := by decide +kernel
theorem dX6_luck_44 : decode cX6_luck 44 = .ok (.istore 6, 2) := by decide +kernel
theorem dX6_luck_46 : decode cX6_luck 46 = .ok (.iload 6, 2) := by decide +kernel
theorem dX6_luck_48 : decode cX6_luck 48 = .ok (.ifCond .le 19, 3) := by decide +kernel
theorem dX6_luck_51 : decode cX6_luck 51 = .ok (.aload_n 0, 1) := by decide +kernel
theorem dX6_luck_52 : decode cX6_luck 52 = .ok (.iload 5, 2) := by decide +kernel
theorem dX6_luck_54 : decode cX6_luck 54 = .ok (.invokevirtual 197, 3) := by decide +kernel
theorem dX6_luck_57 : decode cX6_luck 57 = .ok (.ifCond .eq 10, 3) := by decide +kernel
theorem dX6_luck_60 : decode cX6_luck 60 = .ok (.iload 4, 2) := by decide +kernel
theorem dX6_luck_62 : decode cX6_luck 62 = .ok (.iload 6, 2) := by decide +kernel
theorem dX6_luck_64 : decode cX6_luck 64 = .ok (.iadd, 1) := by decide +kernel
theorem dX6_luck_65 : decode cX6_luck 65 = .ok (.istore 4, 2) := by decide +kernel
theorem dX6_luck_67 : decode cX6_luck 67 = .ok (.iinc 5 1, 3) := by decide +kernel
theorem dX6_luck_70 : decode cX6_luck 70 = .ok (.goto (-41), 3) := by decide +kernel
theorem dX6_luck_73 : decode cX6_luck 73 = .ok (.iload 4, 2) := by decide +kernel
theorem dX6_luck_75 : decode cX6_luck 75 = .ok (.bipush 10, 2) := by decide +kernel
theorem dX6_luck_77 : decode cX6_luck 77 = .ok (.iload_n 1, 1) := by decide +kernel
theorem dX6_luck_78 : decode cX6_luck 78 = .ok (.invokestatic 200, 3) := by decide +kernel
theorem dX6_luck_81 : decode cX6_luck 81 = .ok (.iload_n 3, 1) := by decide +kernel
theorem dX6_luck_82 : decode cX6_luck 82 = .ok (.invokestatic 189, 3) := by decide +kernel
theorem dX6_luck_85 : decode cX6_luck 85 = .ok (.ireturn, 1) := by decide +kernel
theorem dX6_seed_0 : decode cX6_seed 0 = .ok (.aload_n 0, 1) := by decide +kernel
theorem dX6_seed_1 : decode cX6_seed 1 = .ok (.getfield 204, 3) := by decide +kernel
theorem dX6_seed_4 : decode cX6_seed 4 = .ok (.lstore_n 3, 1) := by decide +kernel
theorem dX6_seed_5 : decode cX6_seed 5 = .ok (.aload_n 0, 1) := by decide +kernel
theorem dX6_seed_6 : decode cX6_seed 6 = .ok (.lload_n 1, 1) := by decide +kernel
theorem dX6_seed_7 : decode cX6_seed 7 = .ok (.putfield 204, 3) := by decide +kernel
theorem dX6_seed_10 : decode cX6_seed 10 = .ok (.lload_n 3, 1) := by decide +kernel
theorem dX6_seed_11 : decode cX6_seed 11 = .ok (.lreturn, 1) := by decide +kernel
theorem dX6_drawn_0 : decode cX6_drawn 0 = .ok (.iload_n 1, 1) := by decide +kernel
theorem dX6_drawn_1 : decode cX6_drawn 1 = .ok (.iconst 1, 1) := by decide +kernel
theorem dX6_drawn_2 : decode cX6_drawn 2 = .ok (.if_icmp .lt 9, 3) := by decide +kernel
theorem dX6_drawn_5 : decode cX6_drawn 5 = .ok (.iload_n 1, 1) := by decide +kernel
theorem dX6_drawn_6 : decode cX6_drawn 6 = .ok (.bipush 99, 2) := by decide +kernel
theorem dX6_drawn_8 : decode cX6_drawn 8 = .ok (.if_icmp .le 6, 3) := by decide +kernel
theorem dX6_drawn_11 : decode cX6_drawn 11 = .ok (.bipush (-2), 2) := by decide +kernel
theorem dX6_drawn_13 : decode cX6_drawn 13 = .ok (.ireturn, 1) := by decide +kernel
theorem dX6_drawn_14 : decode cX6_drawn 14 = .ok (.aload_n 0, 1) := by decide +kernel
theorem dX6_drawn_15 : decode cX6_drawn 15 = .ok (.getfield 23, 3) := by decide +kernel
theorem dX6_drawn_18 : decode cX6_drawn 18 = .ok (.aload_n 0, 1) := by decide +kernel
theorem dX6_drawn_19 : decode cX6_drawn 19 = .ok (.getfield 19, 3) := by decide +kernel
theorem dX6_drawn_22 : decode cX6_drawn 22 = .ok (.invokevirtual 139, 3) := by decide +kernel
theorem dX6_drawn_25 : decode cX6_drawn 25 = .ok (.iconst 0, 1) := by decide +kernel
theorem dX6_drawn_26 : decode cX6_drawn 26 = .ok (.istore_n 2, 1) := by decide +kernel
theorem dX6_drawn_27 : decode cX6_drawn 27 = .ok (.iload_n 2, 1) := by decide +kernel
theorem dX6_drawn_28 : decode cX6_drawn 28 = .ok (.iload_n 1, 1) := by decide +kernel
theorem dX6_drawn_29 : decode cX6_drawn 29 = .ok (.if_icmp .ge 64, 3) := by decide +kernel
theorem dX6_drawn_32 : decode cX6_drawn 32 = .ok (.aload_n 0, 1) := by decide +kernel
theorem dX6_drawn_33 : decode cX6_drawn 33 = .ok (.aload_n 0, 1) := by decide +kernel
theorem dX6_drawn_34 : decode cX6_drawn 34 = .ok (.getfield 204, 3) := by decide +kernel
theorem dX6_drawn_37 : decode cX6_drawn 37 = .ok (.ldc2_w 208, 3) := by decide +kernel
theorem dX6_drawn_40 : decode cX6_drawn 40 = .ok (.lmul, 1) := by decide +kernel
theorem dX6_drawn_41 : decode cX6_drawn 41 = .ok (.ldc2_w 210, 3) := by decide +kernel
theorem dX6_drawn_44 : decode cX6_drawn 44 = .ok (.ladd, 1) := by decide +kernel
theorem dX6_drawn_45 : decode cX6_drawn 45 = .ok (.putfield 204, 3) := by decide +kernel
theorem dX6_drawn_48 : decode cX6_drawn 48 = .ok (.aload_n 0, 1) := by decide +kernel
theorem dX6_drawn_49 : decode cX6_drawn 49 = .ok (.getfield 204, 3) := by decide +kernel
theorem dX6_drawn_52 : decode cX6_drawn 52 = .ok (.bipush 33, 2) := by decide +kernel
theorem dX6_drawn_54 : decode cX6_drawn 54 = .ok (.lushr, 1) := by decide +kernel
theorem dX6_drawn_55 : decode cX6_drawn 55 = .ok (.l2i, 1) := by decide +kernel
theorem dX6_drawn_56 : decode cX6_drawn 56 = .ok (.istore_n 3, 1) := by decide +kernel
theorem dX6_drawn_57 : decode cX6_drawn 57 = .ok (.iload_n 3, 1) := by decide +kernel
theorem dX6_drawn_58 : decode cX6_drawn 58 = .ok (.bipush 16, 2) := by decide +kernel
theorem dX6_drawn_60 : decode cX6_drawn 60 = .ok (.irem, 1) := by decide +kernel
theorem dX6_drawn_61 : decode cX6_drawn 61 = .ok (.ifCond .ne 19, 3) := by decide +kernel
theorem dX6_drawn_64 : decode cX6_drawn 64 = .ok (.aload_n 0, 1) := by decide +kernel
theorem dX6_drawn_65 : decode cX6_drawn 65 = .ok (.getfield 23, 3) := by decide +kernel
theorem dX6_drawn_68 : decode cX6_drawn 68 = .ok (.iload_n 3, 1) := by decide +kernel
theorem dX6_drawn_69 : decode cX6_drawn 69 = .ok (.bipush 16, 2) := by decide +kernel
theorem dX6_drawn_71 : decode cX6_drawn 71 = .ok (.idiv, 1) := by decide +kernel
theorem dX6_drawn_72 : decode cX6_drawn 72 = .ok (.iconst 2, 1) := by decide +kernel
theorem dX6_drawn_73 : decode cX6_drawn 73 = .ok (.irem, 1) := by decide +kernel
theorem dX6_drawn_74 : decode cX6_drawn 74 = .ok (.invokevirtual 93, 3) := by decide +kernel
theorem dX6_drawn_77 : decode cX6_drawn 77 = .ok (.invokevirtual 126, 3) := by decide +kernel
theorem dX6_drawn_80 : decode cX6_drawn 80 = .ok (.aload_n 0, 1) := by decide +kernel
theorem dX6_drawn_81 : decode cX6_drawn 81 = .ok (.getfield 23, 3) := by decide +kernel
theorem dX6_drawn_84 : decode cX6_drawn 84 = .ok (.invokevirtual 212, 3) := by decide +kernel
theorem dX6_drawn_87 : decode cX6_drawn 87 = .ok (.iinc 2 1, 3) := by decide +kernel
theorem dX6_drawn_90 : decode cX6_drawn 90 = .ok (.goto (-63), 3) := by decide +kernel
theorem dX6_drawn_93 : decode cX6_drawn 93 = .ok (.aload_n 0, 1) := by decide +kernel
theorem dX6_drawn_94 : decode cX6_drawn 94 = .ok (.getfield 23, 3) := by decide +kernel
theorem dX6_drawn_97 : decode cX6_drawn 97 = .ok (.getfield 155, 3) := by decide +kernel
theorem dX6_drawn_100 : decode cX6_drawn 100 = .ok (.aload_n 0, 1) := by decide +kernel
theorem dX6_drawn_101 : decode cX6_drawn 101 = .ok (.getfield 19, 3) := by decide +kernel
theorem dX6_drawn_104 : decode cX6_drawn 104 = .ok (.getfield 155, 3) := by decide +kernel
theorem dX6_drawn_107 : decode cX6_drawn 107 = .ok (.isub, 1) := by decide +kernel
theorem dX6_drawn_108 : decode cX6_drawn 108 = .ok (.ireturn, 1) := by decide +kernel
theorem dX6_keep_0 : decode cX6_keep 0 = .ok (.iload_n 1, 1) := by decide +kernel
theorem dX6_keep_1 : decode cX6_keep 1 = .ok (.ifCond .lt 8, 3) := by decide +kernel
theorem dX6_keep_4 : decode cX6_keep 4 = .ok (.iload_n 1, 1) := by decide +kernel
theorem dX6_keep_5 : decode cX6_keep 5 = .ok (.iconst 2, 1) := by decide +kernel
theorem dX6_keep_6 : decode cX6_keep 6 = .ok (.if_icmp .lt 5, 3) := by decide +kernel
theorem dX6_keep_9 : decode cX6_keep 9 = .ok (.iconst (-1), 1) := by decide +kernel
theorem dX6_keep_10 : decode cX6_keep 10 = .ok (.ireturn, 1) := by decide +kernel
theorem dX6_keep_11 : decode cX6_keep 11 = .ok (.aload_n 0, 1) := by decide +kernel
theorem dX6_keep_12 : decode cX6_keep 12 = .ok (.getfield 30, 3) := by decide +kernel
theorem dX6_keep_15 : decode cX6_keep 15 = .ok (.iload_n 1, 1) := by decide +kernel
theorem dX6_keep_16 : decode cX6_keep 16 = .ok (.aaload, 1) := by decide +kernel
theorem dX6_keep_17 : decode cX6_keep 17 = .ok (.aload_n 0, 1) := by decide +kernel
theorem dX6_keep_18 : decode cX6_keep 18 = .ok (.getfield 19, 3) := by decide +kernel
theorem dX6_keep_21 : decode cX6_keep 21 = .ok (.invokevirtual 139, 3) := by decide +kernel
theorem dX6_keep_24 : decode cX6_keep 24 = .ok (.aload_n 0, 1) := by decide +kernel
theorem dX6_keep_25 : decode cX6_keep 25 = .ok (.getfield 33, 3) := by decide +kernel
theorem dX6_keep_28 : decode cX6_keep 28 = .ok (.iload_n 1, 1) := by decide +kernel
theorem dX6_keep_29 : decode cX6_keep 29 = .ok (.iconst 1, 1) := by decide +kernel
theorem dX6_keep_30 : decode cX6_keep 30 = .ok (.bastore, 1) := by decide +kernel
theorem dX6_keep_31 : decode cX6_keep 31 = .ok (.aload_n 0, 1) := by decide +kernel
theorem dX6_keep_32 : decode cX6_keep 32 = .ok (.getfield 19, 3) := by decide +kernel
theorem dX6_keep_35 : decode cX6_keep 35 = .ok (.getfield 63, 3) := by decide +kernel
theorem dX6_keep_38 : decode cX6_keep 38 = .ok (.ireturn, 1) := by decide +kernel
theorem dX6_again_0 : decode cX6_again 0 = .ok (.iload_n 1, 1) := by decide +kernel
theorem dX6_again_1 : decode cX6_again 1 = .ok (.ifCond .lt 8, 3) := by decide +kernel
theorem dX6_again_4 : decode cX6_again 4 = .ok (.iload_n 1, 1) := by decide +kernel
theorem dX6_again_5 : decode cX6_again 5 = .ok (.iconst 2, 1) := by decide +kernel
theorem dX6_again_6 : decode cX6_again 6 = .ok (.if_icmp .lt 5, 3) := by decide +kernel
theorem dX6_again_9 : decode cX6_again 9 = .ok (.iconst (-1), 1) := by decide +kernel
theorem dX6_again_10 : decode cX6_again 10 = .ok (.ireturn, 1) := by decide +kernel
theorem dX6_again_11 : decode cX6_again 11 = .ok (.aload_n 0, 1) := by decide +kernel
theorem dX6_again_12 : decode cX6_again 12 = .ok (.getfield 33, 3) := by decide +kernel
theorem dX6_again_15 : decode cX6_again 15 = .ok (.iload_n 1, 1) := by decide +kernel
theorem dX6_again_16 : decode cX6_again 16 = .ok (.baload, 1) := by decide +kernel
theorem dX6_again_17 : decode cX6_again 17 = .ok (.ifCond .ne 6, 3) := by decide +kernel
theorem dX6_again_20 : decode cX6_again 20 = .ok (.bipush (-3), 2) := by decide +kernel
theorem dX6_again_22 : decode cX6_again 22 = .ok (.ireturn, 1) := by decide +kernel
theorem dX6_again_23 : decode cX6_again 23 = .ok (.aload_n 0, 1) := by decide +kernel
theorem dX6_again_24 : decode cX6_again 24 = .ok (.getfield 19, 3) := by decide +kernel
theorem dX6_again_27 : decode cX6_again 27 = .ok (.aload_n 0, 1) := by decide +kernel
theorem dX6_again_28 : decode cX6_again 28 = .ok (.getfield 30, 3) := by decide +kernel
theorem dX6_again_31 : decode cX6_again 31 = .ok (.iload_n 1, 1) := by decide +kernel
theorem dX6_again_32 : decode cX6_again 32 = .ok (.aaload, 1) := by decide +kernel
theorem dX6_again_33 : decode cX6_again 33 = .ok (.invokevirtual 139, 3) := by decide +kernel
theorem dX6_again_36 : decode cX6_again 36 = .ok (.aload_n 0, 1) := by decide +kernel
theorem dX6_again_37 : decode cX6_again 37 = .ok (.iconst 0, 1) := by decide +kernel
theorem dX6_again_38 : decode cX6_again 38 = .ok (.putfield 60, 3) := by decide +kernel
theorem dX6_again_41 : decode cX6_again 41 = .ok (.aload_n 0, 1) := by decide +kernel
theorem dX6_again_42 : decode cX6_again 42 = .ok (.getfield 19, 3) := by decide +kernel
theorem dX6_again_45 : decode cX6_again 45 = .ok (.getfield 63, 3) := by decide +kernel
theorem dX6_again_48 : decode cX6_again 48 = .ok (.ireturn, 1) := by decide +kernel
theorem dX6_count_0 : decode cX6_count 0 = .ok (.iload_n 1, 1) := by decide +kernel
theorem dX6_count_1 : decode cX6_count 1 = .ok (.tableswitch 84 0 5 #[39, 47, 55, 63, 71, 76], 39) := by decide +kernel
theorem dX6_count_40 : decode cX6_count 40 = .ok (.aload_n 0, 1) := by decide +kernel
theorem dX6_count_41 : decode cX6_count 41 = .ok (.getfield 10, 3) := by decide +kernel
theorem dX6_count_44 : decode cX6_count 44 = .ok (.getfield 44, 3) := by decide +kernel
theorem dX6_count_47 : decode cX6_count 47 = .ok (.ireturn, 1) := by decide +kernel
theorem dX6_count_48 : decode cX6_count 48 = .ok (.aload_n 0, 1) := by decide +kernel
theorem dX6_count_49 : decode cX6_count 49 = .ok (.getfield 19, 3) := by decide +kernel
theorem dX6_count_52 : decode cX6_count 52 = .ok (.getfield 63, 3) := by decide +kernel
theorem dX6_count_55 : decode cX6_count 55 = .ok (.ireturn, 1) := by decide +kernel
theorem dX6_count_56 : decode cX6_count 56 = .ok (.aload_n 0, 1) := by decide +kernel
theorem dX6_count_57 : decode cX6_count 57 = .ok (.getfield 19, 3) := by decide +kernel
theorem dX6_count_60 : decode cX6_count 60 = .ok (.getfield 152, 3) := by decide +kernel
theorem dX6_count_63 : decode cX6_count 63 = .ok (.ireturn, 1) := by decide +kernel
theorem dX6_count_64 : decode cX6_count 64 = .ok (.aload_n 0, 1) := by decide +kernel
theorem dX6_count_65 : decode cX6_count 65 = .ok (.getfield 19, 3) := by decide +kernel
theorem dX6_count_68 : decode cX6_count 68 = .ok (.getfield 155, 3) := by decide +kernel
theorem dX6_count_71 : decode cX6_count 71 = .ok (.ireturn, 1) := by decide +kernel
theorem dX6_count_72 : decode cX6_count 72 = .ok (.aload_n 0, 1) := by decide +kernel
theorem dX6_count_73 : decode cX6_count 73 = .ok (.getfield 60, 3) := by decide +kernel
theorem dX6_count_76 : decode cX6_count 76 = .ok (.ireturn, 1) := by decide +kernel
theorem dX6_count_77 : decode cX6_count 77 = .ok (.aload_n 0, 1) := by decide +kernel
theorem dX6_count_78 : decode cX6_count 78 = .ok (.getfield 40, 3) := by decide +kernel
theorem dX6_count_81 : decode cX6_count 81 = .ok (.getfield 167, 3) := by decide +kernel
theorem dX6_count_84 : decode cX6_count 84 = .ok (.ireturn, 1) := by decide +kernel
theorem dX6_count_85 : decode cX6_count 85 = .ok (.bipush (-2), 2) := by decide +kernel
theorem dX6_count_87 : decode cX6_count 87 = .ok (.ireturn, 1) := by decide +kernel
theorem dX6_isZeroOrOne_0 : decode cX6_isZeroOrOne 0 = .ok (.iload_n 0, 1) := by decide +kernel
theorem dX6_isZeroOrOne_1 : decode cX6_isZeroOrOne 1 = .ok (.ifCond .eq 8, 3) := by decide +kernel
theorem dX6_isZeroOrOne_4 : decode cX6_isZeroOrOne 4 = .ok (.iload_n 0, 1) := by decide +kernel
theorem dX6_isZeroOrOne_5 : decode cX6_isZeroOrOne 5 = .ok (.iconst 1, 1) := by decide +kernel
theorem dX6_isZeroOrOne_6 : decode cX6_isZeroOrOne 6 = .ok (.if_icmp .ne 7, 3) := by decide +kernel
theorem dX6_isZeroOrOne_9 : decode cX6_isZeroOrOne 9 = .ok (.iconst 1, 1) := by decide +kernel
theorem dX6_isZeroOrOne_10 : decode cX6_isZeroOrOne 10 = .ok (.goto 4, 3) := by decide +kernel
theorem dX6_isZeroOrOne_13 : decode cX6_isZeroOrOne 13 = .ok (.iconst 0, 1) := by decide +kernel
theorem dX6_isZeroOrOne_14 : decode cX6_isZeroOrOne 14 = .ok (.ireturn, 1) := by decide +kernel
theorem dX6_oneIf_0 : decode cX6_oneIf 0 = .ok (.iload_n 0, 1) := by decide +kernel
theorem dX6_oneIf_1 : decode cX6_oneIf 1 = .ok (.ifCond .eq 7, 3) := by decide +kernel
theorem dX6_oneIf_4 : decode cX6_oneIf 4 = .ok (.iconst 1, 1) := by decide +kernel
theorem dX6_oneIf_5 : decode cX6_oneIf 5 = .ok (.goto 4, 3) := by decide +kernel
theorem dX6_oneIf_8 : decode cX6_oneIf 8 = .ok (.iconst 0, 1) := by decide +kernel
theorem dX6_oneIf_9 : decode cX6_oneIf 9 = .ok (.ireturn, 1) := by decide +kernel
theorem dX6_remember_0 : decode cX6_remember 0 = .ok (.aload_n 0, 1) := by decide +kernel
theorem dX6_remember_1 : decode cX6_remember 1 = .ok (.getfield 60, 3) := by decide +kernel
theorem dX6_remember_4 : decode cX6_remember 4 = .ok (.bipush 14, 2) := by decide +kernel
theorem dX6_remember_6 : decode cX6_remember 6 = .ok (.if_icmp .lt 7, 3) := by decide +kernel
theorem dX6_remember_9 : decode cX6_remember 9 = .ok (.aload_n 0, 1) := by decide +kernel
theorem dX6_remember_10 : decode cX6_remember 10 = .ok (.invokevirtual 215, 3) := by decide +kernel
theorem dX6_remember_13 : decode cX6_remember 13 = .ok (.aload_n 0, 1) := by decide +kernel
theorem dX6_remember_14 : decode cX6_remember 14 = .ok (.getfield 26, 3) := by decide +kernel
theorem dX6_remember_17 : decode cX6_remember 17 = .ok (.aload_n 0, 1) := by decide +kernel
theorem dX6_remember_18 : decode cX6_remember 18 = .ok (.getfield 60, 3) := by decide +kernel
theorem dX6_remember_21 : decode cX6_remember 21 = .ok (.aaload, 1) := by decide +kernel
theorem dX6_remember_22 : decode cX6_remember 22 = .ok (.aload_n 0, 1) := by decide +kernel
theorem dX6_remember_23 : decode cX6_remember 23 = .ok (.getfield 19, 3) := by decide +kernel
theorem dX6_remember_26 : decode cX6_remember 26 = .ok (.invokevirtual 139, 3) := by decide +kernel
theorem dX6_remember_29 : decode cX6_remember 29 = .ok (.aload_n 0, 1) := by decide +kernel
theorem dX6_remember_30 : decode cX6_remember 30 = .ok (.dup, 1) := by decide +kernel
theorem dX6_remember_31 : decode cX6_remember 31 = .ok (.getfield 60, 3) := by decide +kernel
theorem dX6_remember_34 : decode cX6_remember 34 = .ok (.iconst 1, 1) := by decide +kernel
theorem dX6_remember_35 : decode cX6_remember 35 = .ok (.iadd, 1) := by decide +kernel
theorem dX6_remember_36 : decode cX6_remember 36 = .ok (.putfield 60, 3) := by decide +kernel
theorem dX6_remember_39 : decode cX6_remember 39 = .ok (.return_, 1) := by decide +kernel
theorem dX6_forgetFirstAct_0 : decode cX6_forgetFirstAct 0 = .ok (.aload_n 0, 1) := by decide +kernel
theorem dX6_forgetFirstAct_1 : decode cX6_forgetFirstAct 1 = .ok (.getfield 26, 3) := by decide +kernel
theorem dX6_forgetFirstAct_4 : decode cX6_forgetFirstAct 4 = .ok (.iconst 0, 1) := by decide +kernel
theorem dX6_forgetFirstAct_5 : decode cX6_forgetFirstAct 5 = .ok (.aaload, 1) := by decide +kernel
theorem dX6_forgetFirstAct_6 : decode cX6_forgetFirstAct 6 = .ok (.astore_n 1, 1) := by decide +kernel
theorem dX6_forgetFirstAct_7 : decode cX6_forgetFirstAct 7 = .ok (.iconst 1, 1) := by decide +kernel
theorem dX6_forgetFirstAct_8 : decode cX6_forgetFirstAct 8 = .ok (.istore_n 2, 1) := by decide +kernel
theorem dX6_forgetFirstAct_9 : decode cX6_forgetFirstAct 9 = .ok (.iload_n 2, 1) := by decide +kernel
theorem dX6_forgetFirstAct_10 : decode cX6_forgetFirstAct 10 = .ok (.bipush 14, 2) := by decide +kernel
theorem dX6_forgetFirstAct_12 : decode cX6_forgetFirstAct 12 = .ok (.if_icmp .ge 23, 3) := by decide +kernel
theorem dX6_forgetFirstAct_15 : decode cX6_forgetFirstAct 15 = .ok (.aload_n 0, 1) := by decide +kernel
theorem dX6_forgetFirstAct_16 : decode cX6_forgetFirstAct 16 = .ok (.getfield 26, 3) := by decide +kernel
theorem dX6_forgetFirstAct_19 : decode cX6_forgetFirstAct 19 = .ok (.iload_n 2, 1) := by decide +kernel
theorem dX6_forgetFirstAct_20 : decode cX6_forgetFirstAct 20 = .ok (.iconst 1, 1) := by decide +kernel
theorem dX6_forgetFirstAct_21 : decode cX6_forgetFirstAct 21 = .ok (.isub, 1) := by decide +kernel
theorem dX6_forgetFirstAct_22 : decode cX6_forgetFirstAct 22 = .ok (.aload_n 0, 1) := by decide +kernel
theorem dX6_forgetFirstAct_23 : decode cX6_forgetFirstAct 23 = .ok (.getfield 26, 3) := by decide +kernel
theorem dX6_forgetFirstAct_26 : decode cX6_forgetFirstAct 26 = .ok (.iload_n 2, 1) := by decide +kernel
theorem dX6_forgetFirstAct_27 : decode cX6_forgetFirstAct 27 = .ok (.aaload, 1) := by decide +kernel
theorem dX6_forgetFirstAct_28 : decode cX6_forgetFirstAct 28 = .ok (.aastore, 1) := by decide +kernel
theorem dX6_forgetFirstAct_29 : decode cX6_forgetFirstAct 29 = .ok (.iinc 2 1, 3) := by decide +kernel
theorem dX6_forgetFirstAct_32 : decode cX6_forgetFirstAct 32 = .ok (.goto (-23), 3) := by decide +kernel
theorem dX6_forgetFirstAct_35 : decode cX6_forgetFirstAct 35 = .ok (.aload_n 0, 1) := by decide +kernel
theorem dX6_forgetFirstAct_36 : decode cX6_forgetFirstAct 36 = .ok (.getfield 26, 3) := by decide +kernel
theorem dX6_forgetFirstAct_39 : decode cX6_forgetFirstAct 39 = .ok (.bipush 13, 2) := by decide +kernel
theorem dX6_forgetFirstAct_41 : decode cX6_forgetFirstAct 41 = .ok (.aload_n 1, 1) := by decide +kernel
theorem dX6_forgetFirstAct_42 : decode cX6_forgetFirstAct 42 = .ok (.aastore, 1) := by decide +kernel
theorem dX6_forgetFirstAct_43 : decode cX6_forgetFirstAct 43 = .ok (.aload_n 0, 1) := by decide +kernel
theorem dX6_forgetFirstAct_44 : decode cX6_forgetFirstAct 44 = .ok (.bipush 13, 2) := by decide +kernel
theorem dX6_forgetFirstAct_46 : decode cX6_forgetFirstAct 46 = .ok (.putfield 60, 3) := by decide +kernel
theorem dX6_forgetFirstAct_49 : decode cX6_forgetFirstAct 49 = .ok (.return_, 1) := by decide +kernel
theorem dX6_noticedBy_0 : decode cX6_noticedBy 0 = .ok (.aload_n 0, 1) := by decide +kernel
theorem dX6_noticedBy_1 : decode cX6_noticedBy 1 = .ok (.getfield 23, 3) := by decide +kernel
theorem dX6_noticedBy_4 : decode cX6_noticedBy 4 = .ok (.aload_n 0, 1) := by decide +kernel
theorem dX6_noticedBy_5 : decode cX6_noticedBy 5 = .ok (.getfield 19, 3) := by decide +kernel
theorem dX6_noticedBy_8 : decode cX6_noticedBy 8 = .ok (.invokevirtual 139, 3) := by decide +kernel
theorem dX6_noticedBy_11 : decode cX6_noticedBy 11 = .ok (.aload_n 0, 1) := by decide +kernel
theorem dX6_noticedBy_12 : decode cX6_noticedBy 12 = .ok (.getfield 23, 3) := by decide +kernel
theorem dX6_noticedBy_15 : decode cX6_noticedBy 15 = .ok (.getfield 218, 3) := by decide +kernel
theorem dX6_noticedBy_18 : decode cX6_noticedBy 18 = .ok (.iconst 0, 1) := by decide +kernel
theorem dX6_noticedBy_19 : decode cX6_noticedBy 19 = .ok (.putfield 97, 3) := by decide +kernel
theorem dX6_noticedBy_22 : decode cX6_noticedBy 22 = .ok (.aload_n 0, 1) := by decide +kernel
theorem dX6_noticedBy_23 : decode cX6_noticedBy 23 = .ok (.getfield 23, 3) := by decide +kernel
theorem dX6_noticedBy_26 : decode cX6_noticedBy 26 = .ok (.getfield 222, 3) := by decide +kernel
theorem dX6_noticedBy_29 : decode cX6_noticedBy 29 = .ok (.iconst 0, 1) := by decide +kernel
theorem dX6_noticedBy_30 : decode cX6_noticedBy 30 = .ok (.putfield 97, 3) := by decide +kernel
theorem dX6_noticedBy_33 : decode cX6_noticedBy 33 = .ok (.aload_n 0, 1) := by decide +kernel
theorem dX6_noticedBy_34 : decode cX6_noticedBy 34 = .ok (.getfield 23, 3) := by decide +kernel
theorem dX6_noticedBy_37 : decode cX6_noticedBy 37 = .ok (.iload_n 1, 1) := by decide +kernel
theorem dX6_noticedBy_38 : decode cX6_noticedBy 38 = .ok (.invokevirtual 77, 3) := by decide +kernel
theorem dX6_noticedBy_41 : decode cX6_noticedBy 41 = .ok (.astore_n 2, 1) := by decide +kernel
theorem dX6_noticedBy_42 : decode cX6_noticedBy 42 = .ok (.iconst 0, 1) := by decide +kernel
theorem dX6_noticedBy_43 : decode cX6_noticedBy 43 = .ok (.istore_n 3, 1) := by decide +kernel
theorem dX6_noticedBy_44 : decode cX6_noticedBy 44 = .ok (.iload_n 3, 1) := by decide +kernel
theorem dX6_noticedBy_45 : decode cX6_noticedBy 45 = .ok (.bipush 99, 2) := by decide +kernel
theorem dX6_noticedBy_47 : decode cX6_noticedBy 47 = .ok (.if_icmp .gt 25, 3) := by decide +kernel
theorem dX6_noticedBy_50 : decode cX6_noticedBy 50 = .ok (.aload_n 2, 1) := by decide +kernel
theorem dX6_noticedBy_51 : decode cX6_noticedBy 51 = .ok (.getfield 146, 3) := by decide +kernel
theorem dX6_noticedBy_54 : decode cX6_noticedBy 54 = .ok (.ifCond .ne 5, 3) := by decide +kernel
theorem dX6_noticedBy_57 : decode cX6_noticedBy 57 = .ok (.iload_n 3, 1) := by decide +kernel
theorem dX6_noticedBy_58 : decode cX6_noticedBy 58 = .ok (.ireturn, 1) := by decide +kernel
theorem dX6_noticedBy_59 : decode cX6_noticedBy 59 = .ok (.aload_n 0, 1) := by decide +kernel
theorem dX6_noticedBy_60 : decode cX6_noticedBy 60 = .ok (.getfield 23, 3) := by decide +kernel
theorem dX6_noticedBy_63 : decode cX6_noticedBy 63 = .ok (.invokevirtual 212, 3) := by decide +kernel
theorem dX6_noticedBy_66 : decode cX6_noticedBy 66 = .ok (.iinc 3 1, 3) := by decide +kernel
theorem dX6_noticedBy_69 : decode cX6_noticedBy 69 = .ok (.goto (-25), 3) := by decide +kernel
theorem dX6_noticedBy_72 : decode cX6_noticedBy 72 = .ok (.bipush (-9), 2) := by decide +kernel
theorem dX6_noticedBy_74 : decode cX6_noticedBy 74 = .ok (.ireturn, 1) := by decide +kernel
theorem dX6_enduredBy_0 : decode cX6_enduredBy 0 = .ok (.aload_n 0, 1) := by decide +kernel
theorem dX6_enduredBy_1 : decode cX6_enduredBy 1 = .ok (.getfield 19, 3) := by decide +kernel
theorem dX6_enduredBy_4 : decode cX6_enduredBy 4 = .ok (.iload_n 1, 1) := by decide +kernel
theorem dX6_enduredBy_5 : decode cX6_enduredBy 5 = .ok (.invokevirtual 77, 3) := by decide +kernel
theorem dX6_enduredBy_8 : decode cX6_enduredBy 8 = .ok (.getfield 146, 3) := by decide +kernel
theorem dX6_enduredBy_11 : decode cX6_enduredBy 11 = .ok (.ifCond .eq 12, 3) := by decide +kernel
theorem dX6_enduredBy_14 : decode cX6_enduredBy 14 = .ok (.aload_n 0, 1) := by decide +kernel
theorem dX6_enduredBy_15 : decode cX6_enduredBy 15 = .ok (.iload_n 1, 1) := by decide +kernel
theorem dX6_enduredBy_16 : decode cX6_enduredBy 16 = .ok (.iconst 0, 1) := by decide +kernel
theorem dX6_enduredBy_17 : decode cX6_enduredBy 17 = .ok (.invokevirtual 225, 3) := by decide +kernel
theorem dX6_enduredBy_20 : decode cX6_enduredBy 20 = .ok (.ifCond .ne 6, 3) := by decide +kernel
theorem dX6_enduredBy_23 : decode cX6_enduredBy 23 = .ok (.bipush (-9), 2) := by decide +kernel
theorem dX6_enduredBy_25 : decode cX6_enduredBy 25 = .ok (.ireturn, 1) := by decide +kernel
theorem dX6_enduredBy_26 : decode cX6_enduredBy 26 = .ok (.iconst 5, 1) := by decide +kernel
theorem dX6_enduredBy_27 : decode cX6_enduredBy 27 = .ok (.istore_n 2, 1) := by decide +kernel
theorem dX6_enduredBy_28 : decode cX6_enduredBy 28 = .ok (.iload_n 2, 1) := by decide +kernel
theorem dX6_enduredBy_29 : decode cX6_enduredBy 29 = .ok (.ifCond .le 20, 3) := by decide +kernel
theorem dX6_enduredBy_32 : decode cX6_enduredBy 32 = .ok (.aload_n 0, 1) := by decide +kernel
theorem dX6_enduredBy_33 : decode cX6_enduredBy 33 = .ok (.iload_n 1, 1) := by decide +kernel
theorem dX6_enduredBy_34 : decode cX6_enduredBy 34 = .ok (.iload_n 2, 1) := by decide +kernel
theorem dX6_enduredBy_35 : decode cX6_enduredBy 35 = .ok (.invokevirtual 225, 3) := by decide +kernel
theorem dX6_enduredBy_38 : decode cX6_enduredBy 38 = .ok (.ifCond .eq 5, 3) := by decide +kernel
theorem dX6_enduredBy_41 : decode cX6_enduredBy 41 = .ok (.iload_n 2, 1) := by decide +kernel
theorem dX6_enduredBy_42 : decode cX6_enduredBy 42 = .ok (.ireturn, 1) := by decide +kernel
theorem dX6_enduredBy_43 : decode cX6_enduredBy 43 = .ok (.iinc 2 (-1), 3) := by decide +kernel
theorem dX6_enduredBy_46 : decode cX6_enduredBy 46 = .ok (.goto (-18), 3) := by decide +kernel
theorem dX6_enduredBy_49 : decode cX6_enduredBy 49 = .ok (.iconst 0, 1) := by decide +kernel
theorem dX6_enduredBy_50 : decode cX6_enduredBy 50 = .ok (.ireturn, 1) := by decide +kernel
theorem dX6_endures_0 : decode cX6_endures 0 = .ok (.aload_n 0, 1) := by decide +kernel
theorem dX6_endures_1 : decode cX6_endures 1 = .ok (.getfield 23, 3) := by decide +kernel
theorem dX6_endures_4 : decode cX6_endures 4 = .ok (.aload_n 0, 1) := by decide +kernel
theorem dX6_endures_5 : decode cX6_endures 5 = .ok (.getfield 19, 3) := by decide +kernel
theorem dX6_endures_8 : decode cX6_endures 8 = .ok (.invokevirtual 139, 3) := by decide +kernel
theorem dX6_endures_11 : decode cX6_endures 11 = .ok (.aload_n 0, 1) := by decide +kernel
theorem dX6_endures_12 : decode cX6_endures 12 = .ok (.getfield 23, 3) := by decide +kernel
theorem dX6_endures_15 : decode cX6_endures 15 = .ok (.iload_n 1, 1) := by decide +kernel
theorem dX6_endures_16 : decode cX6_endures 16 = .ok (.invokevirtual 229, 3) := by decide +kernel
theorem dX6_endures_19 : decode cX6_endures 19 = .ok (.iload_n 2, 1) := by decide +kernel
theorem dX6_endures_20 : decode cX6_endures 20 = .ok (.putfield 232, 3) := by decide +kernel
theorem dX6_endures_23 : decode cX6_endures 23 = .ok (.aload_n 0, 1) := by decide +kernel
theorem dX6_endures_24 : decode cX6_endures 24 = .ok (.getfield 23, 3) := by decide +kernel
theorem dX6_endures_27 : decode cX6_endures 27 = .ok (.iload_n 1, 1) := by decide +kernel
theorem dX6_endures_28 : decode cX6_endures 28 = .ok (.invokevirtual 77, 3) := by decide +kernel
theorem dX6_endures_31 : decode cX6_endures 31 = .ok (.astore_n 3, 1) := by decide +kernel
theorem dX6_endures_32 : decode cX6_endures 32 = .ok (.iconst 1, 1) := by decide +kernel
theorem dX6_endures_33 : decode cX6_endures 33 = .ok (.istore 4, 2) := by decide +kernel
theorem dX6_endures_35 : decode cX6_endures 35 = .ok (.iload 4, 2) := by decide +kernel
theorem dX6_endures_37 : decode cX6_endures 37 = .ok (.bipush 60, 2) := by decide +kernel
theorem dX6_endures_39 : decode cX6_endures 39 = .ok (.if_icmp .gt 25, 3) := by decide +kernel
theorem dX6_endures_42 : decode cX6_endures 42 = .ok (.aload_n 0, 1) := by decide +kernel
theorem dX6_endures_43 : decode cX6_endures 43 = .ok (.getfield 23, 3) := by decide +kernel
theorem dX6_endures_46 : decode cX6_endures 46 = .ok (.invokevirtual 212, 3) := by decide +kernel
theorem dX6_endures_49 : decode cX6_endures 49 = .ok (.aload_n 3, 1) := by decide +kernel
theorem dX6_endures_50 : decode cX6_endures 50 = .ok (.getfield 146, 3) := by decide +kernel
theorem dX6_endures_53 : decode cX6_endures 53 = .ok (.ifCond .ne 5, 3) := by decide +kernel
theorem dX6_endures_56 : decode cX6_endures 56 = .ok (.iconst 0, 1) := by decide +kernel
theorem dX6_endures_57 : decode cX6_endures 57 = .ok (.ireturn, 1) := by decide +kernel
theorem dX6_endures_58 : decode cX6_endures 58 = .ok (.iinc 4 1, 3) := by decide +kernel
theorem dX6_endures_61 : decode cX6_endures 61 = .ok (.goto (-26), 3) := by decide +kernel
theorem dX6_endures_64 : decode cX6_endures 64 = .ok (.iconst 1, 1) := by decide +kernel
theorem dX6_endures_65 : decode cX6_endures 65 = .ok (.ireturn, 1) := by decide +kernel
theorem dX6_withoutLast_0 : decode cX6_withoutLast 0 = .ok (.lload_n 0, 1) := by decide +kernel
theorem dX6_withoutLast_1 : decode cX6_withoutLast 1 = .ok (.lstore_n 3, 1) := by decide +kernel
theorem dX6_withoutLast_2 : decode cX6_withoutLast 2 = .ok (.iconst 0, 1) := by decide +kernel
theorem dX6_withoutLast_3 : decode cX6_withoutLast 3 = .ok (.istore 5, 2) := by decide +kernel
theorem dX6_withoutLast_5 : decode cX6_withoutLast 5 = .ok (.iload 5, 2) := by decide +kernel
theorem dX6_withoutLast_7 : decode cX6_withoutLast 7 = .ok (.iload_n 2, 1) := by decide +kernel
theorem dX6_withoutLast_8 : decode cX6_withoutLast 8 = .ok (.if_icmp .ge 15, 3) := by decide +kernel
theorem dX6_withoutLast_11 : decode cX6_withoutLast 11 = .ok (.lload_n 3, 1) := by decide +kernel
theorem dX6_withoutLast_12 : decode cX6_withoutLast 12 = .ok (.ldc2_w 162, 3) := by decide +kernel
theorem dX6_withoutLast_15 : decode cX6_withoutLast 15 = .ok (.ldiv, 1) := by decide +kernel
theorem dX6_withoutLast_16 : decode cX6_withoutLast 16 = .ok (.lstore_n 3, 1) := by decide +kernel
theorem dX6_withoutLast_17 : decode cX6_withoutLast 17 = .ok (.iinc 5 1, 3) := by decide +kernel
theorem dX6_withoutLast_20 : decode cX6_withoutLast 20 = .ok (.goto (-15), 3) := by decide +kernel
theorem dX6_withoutLast_23 : decode cX6_withoutLast 23 = .ok (.lload_n 3, 1) := by decide +kernel
theorem dX6_withoutLast_24 : decode cX6_withoutLast 24 = .ok (.lreturn, 1) := by decide +kernel
theorem dX6_canBe_0 : decode cX6_canBe 0 = .ok (.iload_n 1, 1) := by decide +kernel
theorem dX6_canBe_1 : decode cX6_canBe 1 = .ok (.bipush 100, 2) := by decide +kernel
theorem dX6_canBe_3 : decode cX6_canBe 3 = .ok (.idiv, 1) := by decide +kernel
theorem dX6_canBe_4 : decode cX6_canBe 4 = .ok (.istore_n 2, 1) := by decide +kernel
theorem dX6_canBe_5 : decode cX6_canBe 5 = .ok (.iload_n 1, 1) := by decide +kernel
theorem dX6_canBe_6 : decode cX6_canBe 6 = .ok (.bipush 10, 2) := by decide +kernel
theorem dX6_canBe_8 : decode cX6_canBe 8 = .ok (.idiv, 1) := by decide +kernel
theorem dX6_canBe_9 : decode cX6_canBe 9 = .ok (.bipush 10, 2) := by decide +kernel
theorem dX6_canBe_11 : decode cX6_canBe 11 = .ok (.irem, 1) := by decide +kernel
theorem dX6_canBe_12 : decode cX6_canBe 12 = .ok (.istore_n 3, 1) := by decide +kernel
theorem dX6_canBe_13 : decode cX6_canBe 13 = .ok (.iload_n 1, 1) := by decide +kernel
theorem dX6_canBe_14 : decode cX6_canBe 14 = .ok (.bipush 10, 2) := by decide +kernel
theorem dX6_canBe_16 : decode cX6_canBe 16 = .ok (.irem, 1) := by decide +kernel
theorem dX6_canBe_17 : decode cX6_canBe 17 = .ok (.istore 4, 2) := by decide +kernel
theorem dX6_canBe_19 : decode cX6_canBe 19 = .ok (.iload_n 2, 1) := by decide +kernel
theorem dX6_canBe_20 : decode cX6_canBe 20 = .ok (.iconst 1, 1) := by decide +kernel
theorem dX6_canBe_21 : decode cX6_canBe 21 = .ok (.if_icmp .ne 35, 3) := by decide +kernel
theorem dX6_canBe_24 : decode cX6_canBe 24 = .ok (.iload_n 1, 1) := by decide +kernel
theorem dX6_canBe_25 : decode cX6_canBe 25 = .ok (.bipush 100, 2) := by decide +kernel
theorem dX6_canBe_27 : decode cX6_canBe 27 = .ok (.irem, 1) := by decide +kernel
theorem dX6_canBe_28 : decode cX6_canBe 28 = .ok (.istore 5, 2) := by decide +kernel
theorem dX6_canBe_30 : decode cX6_canBe 30 = .ok (.iload 5, 2) := by decide +kernel
theorem dX6_canBe_32 : decode cX6_canBe 32 = .ok (.iconst 1, 1) := by decide +kernel
theorem dX6_canBe_33 : decode cX6_canBe 33 = .ok (.if_icmp .lt 10, 3) := by decide +kernel
theorem dX6_canBe_36 : decode cX6_canBe 36 = .ok (.iload 5, 2) := by decide +kernel
theorem dX6_canBe_38 : decode cX6_canBe 38 = .ok (.bipush 30, 2) := by decide +kernel
theorem dX6_canBe_40 : decode cX6_canBe 40 = .ok (.if_icmp .le 5, 3) := by decide +kernel
theorem dX6_canBe_43 : decode cX6_canBe 43 = .ok (.iconst 0, 1) := by decide +kernel
theorem dX6_canBe_44 : decode cX6_canBe 44 = .ok (.ireturn, 1) := by decide +kernel
theorem dX6_canBe_45 : decode cX6_canBe 45 = .ok (.aload_n 0, 1) := by decide +kernel
theorem dX6_canBe_46 : decode cX6_canBe 46 = .ok (.getfield 23, 3) := by decide +kernel
theorem dX6_canBe_49 : decode cX6_canBe 49 = .ok (.iload 5, 2) := by decide +kernel
theorem dX6_canBe_51 : decode cX6_canBe 51 = .ok (.invokevirtual 113, 3) := by decide +kernel
theorem dX6_canBe_54 : decode cX6_canBe 54 = .ok (.iconst 1, 1) := by decide +kernel
theorem dX6_canBe_55 : decode cX6_canBe 55 = .ok (.ireturn, 1) := by decide +kernel
theorem dX6_canBe_56 : decode cX6_canBe 56 = .ok (.iload_n 2, 1) := by decide +kernel
theorem dX6_canBe_57 : decode cX6_canBe 57 = .ok (.iconst 2, 1) := by decide +kernel
theorem dX6_canBe_58 : decode cX6_canBe 58 = .ok (.if_icmp .lt 36, 3) := by decide +kernel
theorem dX6_canBe_61 : decode cX6_canBe 61 = .ok (.iload_n 2, 1) := by decide +kernel
theorem dX6_canBe_62 : decode cX6_canBe 62 = .ok (.iconst 4, 1) := by decide +kernel
theorem dX6_canBe_63 : decode cX6_canBe 63 = .ok (.if_icmp .gt 31, 3) := by decide +kernel
theorem dX6_canBe_66 : decode cX6_canBe 66 = .ok (.iload_n 3, 1) := by decide +kernel
theorem dX6_canBe_67 : decode cX6_canBe 67 = .ok (.ifCond .ne 25, 3) := by decide +kernel
theorem dX6_canBe_70 : decode cX6_canBe 70 = .ok (.iload 4, 2) := by decide +kernel
theorem dX6_canBe_72 : decode cX6_canBe 72 = .ok (.invokestatic 66, 3) := by decide +kernel
theorem dX6_canBe_75 : decode cX6_canBe 75 = .ok (.ifCond .eq 17, 3) := by decide +kernel
theorem dX6_canBe_78 : decode cX6_canBe 78 = .ok (.aload_n 0, 1) := by decide +kernel
theorem dX6_canBe_79 : decode cX6_canBe 79 = .ok (.iload_n 2, 1) := by decide +kernel
theorem dX6_canBe_80 : decode cX6_canBe 80 = .ok (.iload 4, 2) := by decide +kernel
theorem dX6_canBe_82 : decode cX6_canBe 82 = .ok (.invokevirtual 235, 3) := by decide +kernel
theorem dX6_canBe_85 : decode cX6_canBe 85 = .ok (.ifCond .eq 7, 3) := by decide +kernel
theorem dX6_canBe_88 : decode cX6_canBe 88 = .ok (.iconst 1, 1) := by decide +kernel
theorem dX6_canBe_89 : decode cX6_canBe 89 = .ok (.goto 4, 3) := by decide +kernel
theorem dX6_canBe_92 : decode cX6_canBe 92 = .ok (.iconst 0, 1) := by decide +kernel
theorem dX6_canBe_93 : decode cX6_canBe 93 = .ok (.ireturn, 1) := by decide +kernel
theorem dX6_canBe_94 : decode cX6_canBe 94 = .ok (.iload_n 2, 1) := by decide +kernel
theorem dX6_canBe_95 : decode cX6_canBe 95 = .ok (.iconst 5, 1) := by decide +kernel
theorem dX6_canBe_96 : decode cX6_canBe 96 = .ok (.if_icmp .lt 39, 3) := by decide +kernel
theorem dX6_canBe_99 : decode cX6_canBe 99 = .ok (.iload_n 2, 1) := by decide +kernel
theorem dX6_canBe_100 : decode cX6_canBe 100 = .ok (.bipush 7, 2) := by decide +kernel
theorem dX6_canBe_102 : decode cX6_canBe 102 = .ok (.if_icmp .gt 33, 3) := by decide +kernel
theorem dX6_canBe_105 : decode cX6_canBe 105 = .ok (.iload_n 3, 1) := by decide +kernel
theorem dX6_canBe_106 : decode cX6_canBe 106 = .ok (.invokestatic 66, 3) := by decide +kernel
theorem dX6_canBe_109 : decode cX6_canBe 109 = .ok (.ifCond .eq 24, 3) := by decide +kernel
theorem dX6_canBe_112 : decode cX6_canBe 112 = .ok (.iload_n 2, 1) := by decide +kernel
theorem dX6_canBe_113 : decode cX6_canBe 113 = .ok (.aload_n 0, 1) := by decide +kernel
theorem dX6_canBe_114 : decode cX6_canBe 114 = .ok (.getfield 23, 3) := by decide +kernel
theorem dX6_canBe_117 : decode cX6_canBe 117 = .ok (.iload_n 3, 1) := by decide +kernel
theorem dX6_canBe_118 : decode cX6_canBe 118 = .ok (.invokevirtual 77, 3) := by decide +kernel
theorem dX6_canBe_121 : decode cX6_canBe 121 = .ok (.iload 4, 2) := by decide +kernel
theorem dX6_canBe_123 : decode cX6_canBe 123 = .ok (.invokestatic 238, 3) := by decide +kernel
theorem dX6_canBe_126 : decode cX6_canBe 126 = .ok (.ifCond .eq 7, 3) := by decide +kernel
theorem dX6_canBe_129 : decode cX6_canBe 129 = .ok (.iconst 1, 1) := by decide +kernel
theorem dX6_canBe_130 : decode cX6_canBe 130 = .ok (.goto 4, 3) := by decide +kernel
theorem dX6_canBe_133 : decode cX6_canBe 133 = .ok (.iconst 0, 1) := by decide +kernel
theorem dX6_canBe_134 : decode cX6_canBe 134 = .ok (.ireturn, 1) := by decide +kernel
theorem dX6_canBe_135 : decode cX6_canBe 135 = .ok (.iconst 0, 1) := by decide +kernel
theorem dX6_canBe_136 : decode cX6_canBe 136 = .ok (.ireturn, 1) := by decide +kernel
theorem dX6_canBeDone_0 : decode cX6_canBeDone 0 = .ok (.iload_n 1, 1) := by decide +kernel
theorem dX6_canBeDone_1 : decode cX6_canBeDone 1 = .ok (.iconst 2, 1) := by decide +kernel
theorem dX6_canBeDone_2 : decode cX6_canBeDone 2 = .ok (.if_icmp .ne 16, 3) := by decide +kernel
theorem dX6_canBeDone_5 : decode cX6_canBeDone 5 = .ok (.aload_n 0, 1) := by decide +kernel
theorem dX6_canBeDone_6 : decode cX6_canBeDone 6 = .ok (.getfield 23, 3) := by decide +kernel
theorem dX6_canBeDone_9 : decode cX6_canBeDone 9 = .ok (.iload_n 2, 1) := by decide +kernel
theorem dX6_canBeDone_10 : decode cX6_canBeDone 10 = .ok (.invokevirtual 77, 3) := by decide +kernel
theorem dX6_canBeDone_13 : decode cX6_canBeDone 13 = .ok (.invokevirtual 120, 3) := by decide +kernel
theorem dX6_canBeDone_16 : decode cX6_canBeDone 16 = .ok (.iconst 1, 1) := by decide +kernel
theorem dX6_canBeDone_17 : decode cX6_canBeDone 17 = .ok (.ireturn, 1) := by decide +kernel
theorem dX6_canBeDone_18 : decode cX6_canBeDone 18 = .ok (.iload_n 1, 1) := by decide +kernel
theorem dX6_canBeDone_19 : decode cX6_canBeDone 19 = .ok (.iconst 3, 1) := by decide +kernel
theorem dX6_canBeDone_20 : decode cX6_canBeDone 20 = .ok (.if_icmp .ne 16, 3) := by decide +kernel
theorem dX6_canBeDone_23 : decode cX6_canBeDone 23 = .ok (.aload_n 0, 1) := by decide +kernel
theorem dX6_canBeDone_24 : decode cX6_canBeDone 24 = .ok (.getfield 23, 3) := by decide +kernel
theorem dX6_canBeDone_27 : decode cX6_canBeDone 27 = .ok (.iload_n 2, 1) := by decide +kernel
theorem dX6_canBeDone_28 : decode cX6_canBeDone 28 = .ok (.invokevirtual 93, 3) := by decide +kernel
theorem dX6_canBeDone_31 : decode cX6_canBeDone 31 = .ok (.invokevirtual 126, 3) := by decide +kernel
theorem dX6_canBeDone_34 : decode cX6_canBeDone 34 = .ok (.iconst 1, 1) := by decide +kernel
theorem dX6_canBeDone_35 : decode cX6_canBeDone 35 = .ok (.ireturn, 1) := by decide +kernel
theorem dX6_canBeDone_36 : decode cX6_canBeDone 36 = .ok (.aload_n 0, 1) := by decide +kernel
theorem dX6_canBeDone_37 : decode cX6_canBeDone 37 = .ok (.getfield 23, 3) := by decide +kernel
theorem dX6_canBeDone_40 : decode cX6_canBeDone 40 = .ok (.iload_n 2, 1) := by decide +kernel
theorem dX6_canBeDone_41 : decode cX6_canBeDone 41 = .ok (.invokevirtual 77, 3) := by decide +kernel
theorem dX6_canBeDone_44 : decode cX6_canBeDone 44 = .ok (.astore_n 3, 1) := by decide +kernel
theorem dX6_canBeDone_45 : decode cX6_canBeDone 45 = .ok (.aload_n 3, 1) := by decide +kernel
theorem dX6_canBeDone_46 : decode cX6_canBeDone 46 = .ok (.invokevirtual 129, 3) := by decide +kernel
theorem dX6_canBeDone_49 : decode cX6_canBeDone 49 = .ok (.ifCond .ne 5, 3) := by decide +kernel
theorem dX6_canBeDone_52 : decode cX6_canBeDone 52 = .ok (.iconst 0, 1) := by decide +kernel
theorem dX6_canBeDone_53 : decode cX6_canBeDone 53 = .ok (.ireturn, 1) := by decide +kernel
theorem dX6_canBeDone_54 : decode cX6_canBeDone 54 = .ok (.aload_n 3, 1) := by decide +kernel
theorem dX6_canBeDone_55 : decode cX6_canBeDone 55 = .ok (.invokevirtual 133, 3) := by decide +kernel
theorem dX6_canBeDone_58 : decode cX6_canBeDone 58 = .ok (.iconst 1, 1) := by decide +kernel
theorem dX6_canBeDone_59 : decode cX6_canBeDone 59 = .ok (.ireturn, 1) := by decide +kernel
theorem dX6_isSo_0 : decode cX6_isSo 0 = .ok (.iload_n 0, 1) := by decide +kernel
theorem dX6_isSo_1 : decode cX6_isSo 1 = .ok (.lookupswitch 58 #[(5, 27), (6, 41)], 27) := by decide +kernel
theorem dX6_isSo_28 : decode cX6_isSo 28 = .ok (.aload_n 1, 1) := by decide +kernel
theorem dX6_isSo_29 : decode cX6_isSo 29 = .ok (.getfield 146, 3) := by decide +kernel
theorem dX6_isSo_32 : decode cX6_isSo 32 = .ok (.iload_n 2, 1) := by decide +kernel
theorem dX6_isSo_33 : decode cX6_isSo 33 = .ok (.if_icmp .ne 7, 3) := by decide +kernel
theorem dX6_isSo_36 : decode cX6_isSo 36 = .ok (.iconst 1, 1) := by decide +kernel
theorem dX6_isSo_37 : decode cX6_isSo 37 = .ok (.goto 4, 3) := by decide +kernel
theorem dX6_isSo_40 : decode cX6_isSo 40 = .ok (.iconst 0, 1) := by decide +kernel
theorem dX6_isSo_41 : decode cX6_isSo 41 = .ok (.ireturn, 1) := by decide +kernel
theorem dX6_isSo_42 : decode cX6_isSo 42 = .ok (.aload_n 1, 1) := by decide +kernel
theorem dX6_isSo_43 : decode cX6_isSo 43 = .ok (.getfield 242, 3) := by decide +kernel
theorem dX6_isSo_46 : decode cX6_isSo 46 = .ok (.invokestatic 106, 3) := by decide +kernel
theorem dX6_isSo_49 : decode cX6_isSo 49 = .ok (.iload_n 2, 1) := by decide +kernel
theorem dX6_isSo_50 : decode cX6_isSo 50 = .ok (.if_icmp .ne 7, 3) := by decide +kernel
theorem dX6_isSo_53 : decode cX6_isSo 53 = .ok (.iconst 1, 1) := by decide +kernel
theorem dX6_isSo_54 : decode cX6_isSo 54 = .ok (.goto 4, 3) := by decide +kernel
theorem dX6_isSo_57 : decode cX6_isSo 57 = .ok (.iconst 0, 1) := by decide +kernel
theorem dX6_isSo_58 : decode cX6_isSo 58 = .ok (.ireturn, 1) := by decide +kernel
theorem dX6_isSo_59 : decode cX6_isSo 59 = .ok (.aload_n 1, 1) := by decide +kernel
theorem dX6_isSo_60 : decode cX6_isSo 60 = .ok (.invokevirtual 245, 3) := by decide +kernel
theorem dX6_isSo_63 : decode cX6_isSo 63 = .ok (.iload_n 2, 1) := by decide +kernel
theorem dX6_isSo_64 : decode cX6_isSo 64 = .ok (.if_icmp .ne 7, 3) := by decide +kernel
theorem dX6_isSo_67 : decode cX6_isSo 67 = .ok (.iconst 1, 1) := by decide +kernel
theorem dX6_isSo_68 : decode cX6_isSo 68 = .ok (.goto 4, 3) := by decide +kernel
theorem dX6_isSo_71 : decode cX6_isSo 71 = .ok (.iconst 0, 1) := by decide +kernel
theorem dX6_isSo_72 : decode cX6_isSo 72 = .ok (.ireturn, 1) := by decide +kernel
theorem dX6_ordersBehind_0 : decode cX6_ordersBehind 0 = .ok (.iload_n 0, 1) := by decide +kernel
theorem dX6_ordersBehind_1 : decode cX6_ordersBehind 1 = .ok (.invokestatic 248, 3) := by decide +kernel
theorem dX6_ordersBehind_4 : decode cX6_ordersBehind 4 = .ok (.istore_n 1, 1) := by decide +kernel
theorem dX6_ordersBehind_5 : decode cX6_ordersBehind 5 = .ok (.iload_n 1, 1) := by decide +kernel
theorem dX6_ordersBehind_6 : decode cX6_ordersBehind 6 = .ok (.ifCond .eq 8, 3) := by decide +kernel
theorem dX6_ordersBehind_9 : decode cX6_ordersBehind 9 = .ok (.iload_n 1, 1) := by decide +kernel
theorem dX6_ordersBehind_10 : decode cX6_ordersBehind 10 = .ok (.iconst 3, 1) := by decide +kernel
theorem dX6_ordersBehind_11 : decode cX6_ordersBehind 11 = .ok (.if_icmp .ne 8, 3) := by decide +kernel
theorem dX6_ordersBehind_14 : decode cX6_ordersBehind 14 = .ok (.bipush 6, 2) := by decide +kernel
theorem dX6_ordersBehind_16 : decode cX6_ordersBehind 16 = .ok (.goto 4, 3) := by decide +kernel
theorem dX6_ordersBehind_19 : decode cX6_ordersBehind 19 = .ok (.iconst 2, 1) := by decide +kernel
theorem dX6_ordersBehind_20 : decode cX6_ordersBehind 20 = .ok (.ireturn, 1) := by decide +kernel
theorem dX6_sentWith_0 : decode cX6_sentWith 0 = .ok (.aload_n 0, 1) := by decide +kernel
theorem dX6_sentWith_1 : decode cX6_sentWith 1 = .ok (.getfield 23, 3) := by decide +kernel
theorem dX6_sentWith_4 : decode cX6_sentWith 4 = .ok (.aload_n 0, 1) := by decide +kernel
theorem dX6_sentWith_5 : decode cX6_sentWith 5 = .ok (.getfield 19, 3) := by decide +kernel
theorem dX6_sentWith_8 : decode cX6_sentWith 8 = .ok (.invokevirtual 139, 3) := by decide +kernel
theorem dX6_sentWith_11 : decode cX6_sentWith 11 = .ok (.aload_n 0, 1) := by decide +kernel
theorem dX6_sentWith_12 : decode cX6_sentWith 12 = .ok (.getfield 23, 3) := by decide +kernel
theorem dX6_sentWith_15 : decode cX6_sentWith 15 = .ok (.getfield 142, 3) := by decide +kernel
theorem dX6_sentWith_18 : decode cX6_sentWith 18 = .ok (.iload_n 1, 1) := by decide +kernel
theorem dX6_sentWith_19 : decode cX6_sentWith 19 = .ok (.iconst 1, 1) := by decide +kernel
theorem dX6_sentWith_20 : decode cX6_sentWith 20 = .ok (.iand, 1) := by decide +kernel
theorem dX6_sentWith_21 : decode cX6_sentWith 21 = .ok (.ifCond .eq 7, 3) := by decide +kernel
theorem dX6_sentWith_24 : decode cX6_sentWith 24 = .ok (.iconst 1, 1) := by decide +kernel
theorem dX6_sentWith_25 : decode cX6_sentWith 25 = .ok (.goto 4, 3) := by decide +kernel
theorem dX6_sentWith_28 : decode cX6_sentWith 28 = .ok (.iconst 0, 1) := by decide +kernel
theorem dX6_sentWith_29 : decode cX6_sentWith 29 = .ok (.iload_n 1, 1) := by decide +kernel
theorem dX6_sentWith_30 : decode cX6_sentWith 30 = .ok (.iconst 2, 1) := by decide +kernel
theorem dX6_sentWith_31 : decode cX6_sentWith 31 = .ok (.iand, 1) := by decide +kernel
theorem dX6_sentWith_32 : decode cX6_sentWith 32 = .ok (.ifCond .eq 7, 3) := by decide +kernel
theorem dX6_sentWith_35 : decode cX6_sentWith 35 = .ok (.iconst 1, 1) := by decide +kernel
theorem dX6_sentWith_36 : decode cX6_sentWith 36 = .ok (.goto 4, 3) := by decide +kernel
theorem dX6_sentWith_39 : decode cX6_sentWith 39 = .ok (.iconst 0, 1) := by decide +kernel
theorem dX6_sentWith_40 : decode cX6_sentWith 40 = .ok (.invokevirtual 253, 3) := by decide +kernel
theorem dX6_sentWith_43 : decode cX6_sentWith 43 = .ok (.aload_n 0, 1) := by decide +kernel
theorem dX6_sentWith_44 : decode cX6_sentWith 44 = .ok (.getfield 23, 3) := by decide +kernel
theorem dX6_sentWith_47 : decode cX6_sentWith 47 = .ok (.getfield 149, 3) := by decide +kernel
theorem dX6_sentWith_50 : decode cX6_sentWith 50 = .ok (.iload_n 1, 1) := by decide +kernel
theorem dX6_sentWith_51 : decode cX6_sentWith 51 = .ok (.iconst 4, 1) := by decide +kernel
theorem dX6_sentWith_52 : decode cX6_sentWith 52 = .ok (.iand, 1) := by decide +kernel
theorem dX6_sentWith_53 : decode cX6_sentWith 53 = .ok (.ifCond .eq 7, 3) := by decide +kernel
theorem dX6_sentWith_56 : decode cX6_sentWith 56 = .ok (.iconst 1, 1) := by decide +kernel
theorem dX6_sentWith_57 : decode cX6_sentWith 57 = .ok (.goto 4, 3) := by decide +kernel
theorem dX6_sentWith_60 : decode cX6_sentWith 60 = .ok (.iconst 0, 1) := by decide +kernel
theorem dX6_sentWith_61 : decode cX6_sentWith 61 = .ok (.iload_n 1, 1) := by decide +kernel
theorem dX6_sentWith_62 : decode cX6_sentWith 62 = .ok (.bipush 8, 2) := by decide +kernel
theorem dX6_sentWith_64 : decode cX6_sentWith 64 = .ok (.iand, 1) := by decide +kernel
theorem dX6_sentWith_65 : decode cX6_sentWith 65 = .ok (.ifCond .eq 7, 3) := by decide +kernel
theorem dX6_sentWith_68 : decode cX6_sentWith 68 = .ok (.iconst 1, 1) := by decide +kernel
theorem dX6_sentWith_69 : decode cX6_sentWith 69 = .ok (.goto 4, 3) := by decide +kernel
theorem dX6_sentWith_72 : decode cX6_sentWith 72 = .ok (.iconst 0, 1) := by decide +kernel
theorem dX6_sentWith_73 : decode cX6_sentWith 73 = .ok (.invokevirtual 253, 3) := by decide +kernel
theorem dX6_sentWith_76 : decode cX6_sentWith 76 = .ok (.aload_n 0, 1) := by decide +kernel
theorem dX6_sentWith_77 : decode cX6_sentWith 77 = .ok (.getfield 23, 3) := by decide +kernel
theorem dX6_sentWith_80 : decode cX6_sentWith 80 = .ok (.bipush 60, 2) := by decide +kernel
theorem dX6_sentWith_82 : decode cX6_sentWith 82 = .ok (.invokevirtual 113, 3) := by decide +kernel
theorem dX6_sentWith_85 : decode cX6_sentWith 85 = .ok (.aload_n 0, 1) := by decide +kernel
theorem dX6_sentWith_86 : decode cX6_sentWith 86 = .ok (.getfield 23, 3) := by decide +kernel
theorem dX6_sentWith_89 : decode cX6_sentWith 89 = .ok (.getfield 152, 3) := by decide +kernel
theorem dX6_sentWith_92 : decode cX6_sentWith 92 = .ok (.aload_n 0, 1) := by decide +kernel
theorem dX6_sentWith_93 : decode cX6_sentWith 93 = .ok (.getfield 19, 3) := by decide +kernel
theorem dX6_sentWith_96 : decode cX6_sentWith 96 = .ok (.getfield 152, 3) := by decide +kernel
theorem dX6_sentWith_99 : decode cX6_sentWith 99 = .ok (.isub, 1) := by decide +kernel
theorem dX6_sentWith_100 : decode cX6_sentWith 100 = .ok (.ireturn, 1) := by decide +kernel
theorem dX6_weightOf_0 : decode cX6_weightOf 0 = .ok (.iload_n 0, 1) := by decide +kernel
theorem dX6_weightOf_1 : decode cX6_weightOf 1 = .ok (.invokestatic 248, 3) := by decide +kernel
theorem dX6_weightOf_4 : decode cX6_weightOf 4 = .ok (.istore_n 3, 1) := by decide +kernel
theorem dX6_weightOf_5 : decode cX6_weightOf 5 = .ok (.iload_n 2, 1) := by decide +kernel
theorem dX6_weightOf_6 : decode cX6_weightOf 6 = .ok (.iload_n 3, 1) := by decide +kernel
theorem dX6_weightOf_7 : decode cX6_weightOf 7 = .ok (.invokestatic 200, 3) := by decide +kernel
theorem dX6_weightOf_10 : decode cX6_weightOf 10 = .ok (.bipush 10, 2) := by decide +kernel
theorem dX6_weightOf_12 : decode cX6_weightOf 12 = .ok (.iload_n 2, 1) := by decide +kernel
theorem dX6_weightOf_13 : decode cX6_weightOf 13 = .ok (.isub, 1) := by decide +kernel
theorem dX6_weightOf_14 : decode cX6_weightOf 14 = .ok (.iload_n 1, 1) := by decide +kernel
theorem dX6_weightOf_15 : decode cX6_weightOf 15 = .ok (.iload_n 3, 1) := by decide +kernel
theorem dX6_weightOf_16 : decode cX6_weightOf 16 = .ok (.isub, 1) := by decide +kernel
theorem dX6_weightOf_17 : decode cX6_weightOf 17 = .ok (.invokestatic 200, 3) := by decide +kernel
theorem dX6_weightOf_20 : decode cX6_weightOf 20 = .ok (.imul, 1) := by decide +kernel
theorem dX6_weightOf_21 : decode cX6_weightOf 21 = .ok (.ireturn, 1) := by decide +kernel
theorem dX6_power_0 : decode cX6_power 0 = .ok (.iconst 1, 1) := by decide +kernel
theorem dX6_power_1 : decode cX6_power 1 = .ok (.istore_n 2, 1) := by decide +kernel
theorem dX6_power_2 : decode cX6_power 2 = .ok (.iconst 0, 1) := by decide +kernel
theorem dX6_power_3 : decode cX6_power 3 = .ok (.istore_n 3, 1) := by decide +kernel
theorem dX6_power_4 : decode cX6_power 4 = .ok (.iload_n 3, 1) := by decide +kernel
theorem dX6_power_5 : decode cX6_power 5 = .ok (.iload_n 1, 1) := by decide +kernel
theorem dX6_power_6 : decode cX6_power 6 = .ok (.if_icmp .ge 13, 3) := by decide +kernel
theorem dX6_power_9 : decode cX6_power 9 = .ok (.iload_n 2, 1) := by decide +kernel
theorem dX6_power_10 : decode cX6_power 10 = .ok (.iload_n 0, 1) := by decide +kernel
theorem dX6_power_11 : decode cX6_power 11 = .ok (.imul, 1) := by decide +kernel
theorem dX6_power_12 : decode cX6_power 12 = .ok (.istore_n 2, 1) := by decide +kernel
theorem dX6_power_13 : decode cX6_power 13 = .ok (.iinc 3 1, 3) := by decide +kernel
theorem dX6_power_16 : decode cX6_power 16 = .ok (.goto (-12), 3) := by decide +kernel
theorem dX6_power_19 : decode cX6_power 19 = .ok (.iload_n 2, 1) := by decide +kernel
theorem dX6_power_20 : decode cX6_power 20 = .ok (.ireturn, 1) := by decide +kernel
theorem dX6_areUpWithLost_0 : decode cX6_areUpWithLost 0 = .ok (.aload_n 0, 1) := by decide +kernel
theorem dX6_areUpWithLost_1 : decode cX6_areUpWithLost 1 = .ok (.getfield 23, 3) := by decide +kernel
theorem dX6_areUpWithLost_4 : decode cX6_areUpWithLost 4 = .ok (.aload_n 0, 1) := by decide +kernel
theorem dX6_areUpWithLost_5 : decode cX6_areUpWithLost 5 = .ok (.getfield 19, 3) := by decide +kernel
theorem dX6_areUpWithLost_8 : decode cX6_areUpWithLost 8 = .ok (.invokevirtual 139, 3) := by decide +kernel
theorem dX6_areUpWithLost_11 : decode cX6_areUpWithLost 11 = .ok (.aload_n 0, 1) := by decide +kernel
theorem dX6_areUpWithLost_12 : decode cX6_areUpWithLost 12 = .ok (.getfield 23, 3) := by decide +kernel
theorem dX6_areUpWithLost_15 : decode cX6_areUpWithLost 15 = .ok (.iload_n 1, 1) := by decide +kernel
theorem dX6_areUpWithLost_16 : decode cX6_areUpWithLost 16 = .ok (.putfield 257, 3) := by decide +kernel
theorem dX6_areUpWithLost_19 : decode cX6_areUpWithLost 19 = .ok (.aload_n 0, 1) := by decide +kernel
theorem dX6_areUpWithLost_20 : decode cX6_areUpWithLost 20 = .ok (.getfield 23, 3) := by decide +kernel
theorem dX6_areUpWithLost_23 : decode cX6_areUpWithLost 23 = .ok (.bipush 40, 2) := by decide +kernel
theorem dX6_areUpWithLost_25 : decode cX6_areUpWithLost 25 = .ok (.invokevirtual 113, 3) := by decide +kernel
theorem dX6_areUpWithLost_28 : decode cX6_areUpWithLost 28 = .ok (.aload_n 0, 1) := by decide +kernel
theorem dX6_areUpWithLost_29 : decode cX6_areUpWithLost 29 = .ok (.getfield 23, 3) := by decide +kernel
theorem dX6_areUpWithLost_32 : decode cX6_areUpWithLost 32 = .ok (.invokevirtual 260, 3) := by decide +kernel
theorem dX6_areUpWithLost_35 : decode cX6_areUpWithLost 35 = .ok (.ireturn, 1) := by decide +kernel
theorem dX6_fraction_0 : decode cX6_fraction 0 = .ok (.iload_n 0, 1) := by decide +kernel
theorem dX6_fraction_1 : decode cX6_fraction 1 = .ok (.invokestatic 263, 3) := by decide +kernel
theorem dX6_fraction_4 : decode cX6_fraction 4 = .ok (.iload_n 1, 1) := by decide +kernel
theorem dX6_fraction_5 : decode cX6_fraction 5 = .ok (.invokestatic 268, 3) := by decide +kernel
theorem dX6_fraction_8 : decode cX6_fraction 8 = .ok (.istore_n 3, 1) := by decide +kernel
theorem dX6_fraction_9 : decode cX6_fraction 9 = .ok (.iload_n 3, 1) := by decide +kernel
theorem dX6_fraction_10 : decode cX6_fraction 10 = .ok (.iconst 1, 1) := by decide +kernel
theorem dX6_fraction_11 : decode cX6_fraction 11 = .ok (.if_icmp .ge 6, 3) := by decide +kernel
theorem dX6_fraction_14 : decode cX6_fraction 14 = .ok (.bipush (-9), 2) := by decide +kernel
theorem dX6_fraction_16 : decode cX6_fraction 16 = .ok (.ireturn, 1) := by decide +kernel
theorem dX6_fraction_17 : decode cX6_fraction 17 = .ok (.iload_n 2, 1) := by decide +kernel
theorem dX6_fraction_18 : decode cX6_fraction 18 = .ok (.ifCond .eq 7, 3) := by decide +kernel
theorem dX6_fraction_21 : decode cX6_fraction 21 = .ok (.iload_n 0, 1) := by decide +kernel
theorem dX6_fraction_22 : decode cX6_fraction 22 = .ok (.goto 4, 3) := by decide +kernel
theorem dX6_fraction_25 : decode cX6_fraction 25 = .ok (.iload_n 1, 1) := by decide +kernel
theorem dX6_fraction_26 : decode cX6_fraction 26 = .ok (.iload_n 3, 1) := by decide +kernel
theorem dX6_fraction_27 : decode cX6_fraction 27 = .ok (.idiv, 1) := by decide +kernel
theorem dX6_fraction_28 : decode cX6_fraction 28 = .ok (.ireturn, 1) := by decide +kernel
theorem dX6_greatestDivisor_0 : decode cX6_greatestDivisor 0 = .ok (.iload_n 0, 1) := by decide +kernel
theorem dX6_greatestDivisor_1 : decode cX6_greatestDivisor 1 = .ok (.istore_n 2, 1) := by decide +kernel
theorem dX6_greatestDivisor_2 : decode cX6_greatestDivisor 2 = .ok (.iload_n 1, 1) := by decide +kernel
theorem dX6_greatestDivisor_3 : decode cX6_greatestDivisor 3 = .ok (.istore_n 3, 1) := by decide +kernel
theorem dX6_greatestDivisor_4 : decode cX6_greatestDivisor 4 = .ok (.iconst 0, 1) := by decide +kernel
theorem dX6_greatestDivisor_5 : decode cX6_greatestDivisor 5 = .ok (.istore 4, 2) := by decide +kernel
theorem dX6_greatestDivisor_7 : decode cX6_greatestDivisor 7 = .ok (.iload 4, 2) := by decide +kernel
theorem dX6_greatestDivisor_9 : decode cX6_greatestDivisor 9 = .ok (.bipush 64, 2) := by decide +kernel
theorem dX6_greatestDivisor_11 : decode cX6_greatestDivisor 11 = .ok (.if_icmp .ge 23, 3) := by decide +kernel
theorem dX6_greatestDivisor_14 : decode cX6_greatestDivisor 14 = .ok (.iload_n 3, 1) := by decide +kernel
theorem dX6_greatestDivisor_15 : decode cX6_greatestDivisor 15 = .ok (.ifCond .eq 19, 3) := by decide +kernel
theorem dX6_greatestDivisor_18 : decode cX6_greatestDivisor 18 = .ok (.iload_n 2, 1) := by decide +kernel
theorem dX6_greatestDivisor_19 : decode cX6_greatestDivisor 19 = .ok (.iload_n 3, 1) := by decide +kernel
theorem dX6_greatestDivisor_20 : decode cX6_greatestDivisor 20 = .ok (.irem, 1) := by decide +kernel
theorem dX6_greatestDivisor_21 : decode cX6_greatestDivisor 21 = .ok (.istore 5, 2) := by decide +kernel
theorem dX6_greatestDivisor_23 : decode cX6_greatestDivisor 23 = .ok (.iload_n 3, 1) := by decide +kernel
theorem dX6_greatestDivisor_24 : decode cX6_greatestDivisor 24 = .ok (.istore_n 2, 1) := by decide +kernel
theorem dX6_greatestDivisor_25 : decode cX6_greatestDivisor 25 = .ok (.iload 5, 2) := by decide +kernel
theorem dX6_greatestDivisor_27 : decode cX6_greatestDivisor 27 = .ok (.istore_n 3, 1) := by decide +kernel
theorem dX6_greatestDivisor_28 : decode cX6_greatestDivisor 28 = .ok (.iinc 4 1, 3) := by decide +kernel
theorem dX6_greatestDivisor_31 : decode cX6_greatestDivisor 31 = .ok (.goto (-24), 3) := by decide +kernel
theorem dX6_greatestDivisor_34 : decode cX6_greatestDivisor 34 = .ok (.iload_n 2, 1) := by decide +kernel
theorem dX6_greatestDivisor_35 : decode cX6_greatestDivisor 35 = .ok (.ireturn, 1) := by decide +kernel
