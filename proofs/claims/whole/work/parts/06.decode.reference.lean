/-! DECODE ROWS -/
theorem dX6_init_0 : decode cX6_init 0 = .ok (.aload_n 0, 1) := by decide +kernel
theorem dX6_init_1 : decode cX6_init 1 = .ok (.invokespecial 1, 3) := by decide +kernel
theorem dX6_init_4 : decode cX6_init 4 = .ok (.aload_n 0, 1) := by decide +kernel
theorem dX6_init_5 : decode cX6_init 5 = .ok (.sipush 1224, 3) := by decide +kernel
theorem dX6_init_8 : decode cX6_init 8 = .ok (.newarray .int, 2) := by decide +kernel
theorem dX6_init_10 : decode cX6_init 10 = .ok (.putfield 7, 3) := by decide +kernel
theorem dX6_init_13 : decode cX6_init 13 = .ok (.aload_n 0, 1) := by decide +kernel
theorem dX6_init_14 : decode cX6_init 14 = .ok (.bipush 60, 2) := by decide +kernel
theorem dX6_init_16 : decode cX6_init 16 = .ok (.newarray .char, 2) := by decide +kernel
theorem dX6_init_18 : decode cX6_init 18 = .ok (.putfield 13, 3) := by decide +kernel
theorem dX6_init_21 : decode cX6_init 21 = .ok (.aload_n 0, 1) := by decide +kernel
theorem dX6_init_22 : decode cX6_init 22 = .ok (.bipush 60, 2) := by decide +kernel
theorem dX6_init_24 : decode cX6_init 24 = .ok (.newarray .int, 2) := by decide +kernel
theorem dX6_init_26 : decode cX6_init 26 = .ok (.putfield 17, 3) := by decide +kernel
theorem dX6_init_29 : decode cX6_init 29 = .ok (.aload_n 0, 1) := by decide +kernel
theorem dX6_init_30 : decode cX6_init 30 = .ok (.bipush 60, 2) := by decide +kernel
theorem dX6_init_32 : decode cX6_init 32 = .ok (.newarray .int, 2) := by decide +kernel
theorem dX6_init_34 : decode cX6_init 34 = .ok (.putfield 20, 3) := by decide +kernel
theorem dX6_init_37 : decode cX6_init 37 = .ok (.aload_n 0, 1) := by decide +kernel
theorem dX6_init_38 : decode cX6_init 38 = .ok (.iconst 4, 1) := by decide +kernel
theorem dX6_init_39 : decode cX6_init 39 = .ok (.newarray .int, 2) := by decide +kernel
theorem dX6_init_41 : decode cX6_init 41 = .ok (.putfield 23, 3) := by decide +kernel
theorem dX6_init_44 : decode cX6_init 44 = .ok (.aload_n 0, 1) := by decide +kernel
theorem dX6_init_45 : decode cX6_init 45 = .ok (.iconst 4, 1) := by decide +kernel
theorem dX6_init_46 : decode cX6_init 46 = .ok (.newarray .int, 2) := by decide +kernel
theorem dX6_init_48 : decode cX6_init 48 = .ok (.putfield 26, 3) := by decide +kernel
theorem dX6_init_51 : decode cX6_init 51 = .ok (.iconst 0, 1) := by decide +kernel
theorem dX6_init_52 : decode cX6_init 52 = .ok (.istore_n 1, 1) := by decide +kernel
theorem dX6_init_53 : decode cX6_init 53 = .ok (.iload_n 1, 1) := by decide +kernel
theorem dX6_init_54 : decode cX6_init 54 = .ok (.bipush 8, 2) := by decide +kernel
theorem dX6_init_56 : decode cX6_init 56 = .ok (.if_icmp .ge 21, 3) := by decide +kernel
theorem dX6_init_59 : decode cX6_init 59 = .ok (.aload_n 0, 1) := by decide +kernel
theorem dX6_init_60 : decode cX6_init 60 = .ok (.getfield 7, 3) := by decide +kernel
theorem dX6_init_63 : decode cX6_init 63 = .ok (.sipush 180, 3) := by decide +kernel
theorem dX6_init_66 : decode cX6_init 66 = .ok (.iload_n 1, 1) := by decide +kernel
theorem dX6_init_67 : decode cX6_init 67 = .ok (.iadd, 1) := by decide +kernel
theorem dX6_init_68 : decode cX6_init 68 = .ok (.bipush 60, 2) := by decide +kernel
theorem dX6_init_70 : decode cX6_init 70 = .ok (.iastore, 1) := by decide +kernel
theorem dX6_init_71 : decode cX6_init 71 = .ok (.iinc 1 1, 3) := by decide +kernel
theorem dX6_init_74 : decode cX6_init 74 = .ok (.goto (-21), 3) := by decide +kernel
theorem dX6_init_77 : decode cX6_init 77 = .ok (.iconst 0, 1) := by decide +kernel
theorem dX6_init_78 : decode cX6_init 78 = .ok (.istore_n 1, 1) := by decide +kernel
theorem dX6_init_79 : decode cX6_init 79 = .ok (.iload_n 1, 1) := by decide +kernel
theorem dX6_init_80 : decode cX6_init 80 = .ok (.iconst 4, 1) := by decide +kernel
theorem dX6_init_81 : decode cX6_init 81 = .ok (.if_icmp .ge 20, 3) := by decide +kernel
theorem dX6_init_84 : decode cX6_init 84 = .ok (.aload_n 0, 1) := by decide +kernel
theorem dX6_init_85 : decode cX6_init 85 = .ok (.getfield 7, 3) := by decide +kernel
theorem dX6_init_88 : decode cX6_init 88 = .ok (.sipush 188, 3) := by decide +kernel
theorem dX6_init_91 : decode cX6_init 91 = .ok (.iload_n 1, 1) := by decide +kernel
theorem dX6_init_92 : decode cX6_init 92 = .ok (.iadd, 1) := by decide +kernel
theorem dX6_init_93 : decode cX6_init 93 = .ok (.iload_n 1, 1) := by decide +kernel
theorem dX6_init_94 : decode cX6_init 94 = .ok (.iastore, 1) := by decide +kernel
theorem dX6_init_95 : decode cX6_init 95 = .ok (.iinc 1 1, 3) := by decide +kernel
theorem dX6_init_98 : decode cX6_init 98 = .ok (.goto (-19), 3) := by decide +kernel
theorem dX6_init_101 : decode cX6_init 101 = .ok (.aload_n 0, 1) := by decide +kernel
theorem dX6_init_102 : decode cX6_init 102 = .ok (.getfield 7, 3) := by decide +kernel
theorem dX6_init_105 : decode cX6_init 105 = .ok (.sipush 200, 3) := by decide +kernel
theorem dX6_init_108 : decode cX6_init 108 = .ok (.iconst 1, 1) := by decide +kernel
theorem dX6_init_109 : decode cX6_init 109 = .ok (.iastore, 1) := by decide +kernel
theorem dX6_init_110 : decode cX6_init 110 = .ok (.aload_n 0, 1) := by decide +kernel
theorem dX6_init_111 : decode cX6_init 111 = .ok (.getfield 7, 3) := by decide +kernel
theorem dX6_init_114 : decode cX6_init 114 = .ok (.sipush 201, 3) := by decide +kernel
theorem dX6_init_117 : decode cX6_init 117 = .ok (.bipush 60, 2) := by decide +kernel
theorem dX6_init_119 : decode cX6_init 119 = .ok (.iastore, 1) := by decide +kernel
theorem dX6_init_120 : decode cX6_init 120 = .ok (.return_, 1) := by decide +kernel
theorem dX6_in_0 : decode cX6_in 0 = .ok (.iload_n 0, 1) := by decide +kernel
theorem dX6_in_1 : decode cX6_in 1 = .ok (.iload_n 1, 1) := by decide +kernel
theorem dX6_in_2 : decode cX6_in 2 = .ok (.if_icmp .lt 12, 3) := by decide +kernel
theorem dX6_in_5 : decode cX6_in 5 = .ok (.iload_n 0, 1) := by decide +kernel
theorem dX6_in_6 : decode cX6_in 6 = .ok (.iload_n 2, 1) := by decide +kernel
theorem dX6_in_7 : decode cX6_in 7 = .ok (.if_icmp .gt 7, 3) := by decide +kernel
theorem dX6_in_10 : decode cX6_in 10 = .ok (.iconst 1, 1) := by decide +kernel
theorem dX6_in_11 : decode cX6_in 11 = .ok (.goto 4, 3) := by decide +kernel
theorem dX6_in_14 : decode cX6_in 14 = .ok (.iconst 0, 1) := by decide +kernel
theorem dX6_in_15 : decode cX6_in 15 = .ok (.ireturn, 1) := by decide +kernel
theorem dX6_far_0 : decode cX6_far 0 = .ok (.iload_n 0, 1) := by decide +kernel
theorem dX6_far_1 : decode cX6_far 1 = .ok (.iload_n 1, 1) := by decide +kernel
theorem dX6_far_2 : decode cX6_far 2 = .ok (.if_icmp .le 9, 3) := by decide +kernel
theorem dX6_far_5 : decode cX6_far 5 = .ok (.iload_n 0, 1) := by decide +kernel
theorem dX6_far_6 : decode cX6_far 6 = .ok (.iload_n 1, 1) := by decide +kernel
theorem dX6_far_7 : decode cX6_far 7 = .ok (.isub, 1) := by decide +kernel
theorem dX6_far_8 : decode cX6_far 8 = .ok (.goto 6, 3) := by decide +kernel
theorem dX6_far_11 : decode cX6_far 11 = .ok (.iload_n 1, 1) := by decide +kernel
theorem dX6_far_12 : decode cX6_far 12 = .ok (.iload_n 0, 1) := by decide +kernel
theorem dX6_far_13 : decode cX6_far 13 = .ok (.isub, 1) := by decide +kernel
theorem dX6_far_14 : decode cX6_far 14 = .ok (.ireturn, 1) := by decide +kernel
theorem dX6_copies_0 : decode cX6_copies 0 = .ok (.iconst 0, 1) := by decide +kernel
theorem dX6_copies_1 : decode cX6_copies 1 = .ok (.istore_n 3, 1) := by decide +kernel
theorem dX6_copies_2 : decode cX6_copies 2 = .ok (.iload_n 3, 1) := by decide +kernel
theorem dX6_copies_3 : decode cX6_copies 3 = .ok (.sipush 204, 3) := by decide +kernel
theorem dX6_copies_6 : decode cX6_copies 6 = .ok (.if_icmp .ge 33, 3) := by decide +kernel
theorem dX6_copies_9 : decode cX6_copies 9 = .ok (.aload_n 0, 1) := by decide +kernel
theorem dX6_copies_10 : decode cX6_copies 10 = .ok (.getfield 7, 3) := by decide +kernel
theorem dX6_copies_13 : decode cX6_copies 13 = .ok (.sipush 204, 3) := by decide +kernel
theorem dX6_copies_16 : decode cX6_copies 16 = .ok (.iload_n 2, 1) := by decide +kernel
theorem dX6_copies_17 : decode cX6_copies 17 = .ok (.imul, 1) := by decide +kernel
theorem dX6_copies_18 : decode cX6_copies 18 = .ok (.iload_n 3, 1) := by decide +kernel
theorem dX6_copies_19 : decode cX6_copies 19 = .ok (.iadd, 1) := by decide +kernel
theorem dX6_copies_20 : decode cX6_copies 20 = .ok (.aload_n 0, 1) := by decide +kernel
theorem dX6_copies_21 : decode cX6_copies 21 = .ok (.getfield 7, 3) := by decide +kernel
theorem dX6_copies_24 : decode cX6_copies 24 = .ok (.sipush 204, 3) := by decide +kernel
theorem dX6_copies_27 : decode cX6_copies 27 = .ok (.iload_n 1, 1) := by decide +kernel
theorem dX6_copies_28 : decode cX6_copies 28 = .ok (.imul, 1) := by decide +kernel
theorem dX6_copies_29 : decode cX6_copies 29 = .ok (.iload_n 3, 1) := by decide +kernel
theorem dX6_copies_30 : decode cX6_copies 30 = .ok (.iadd, 1) := by decide +kernel
theorem dX6_copies_31 : decode cX6_copies 31 = .ok (.iaload, 1) := by decide +kernel
theorem dX6_copies_32 : decode cX6_copies 32 = .ok (.iastore, 1) := by decide +kernel
theorem dX6_copies_33 : decode cX6_copies 33 = .ok (.iinc 3 1, 3) := by decide +kernel
theorem dX6_copies_36 : decode cX6_copies 36 = .ok (.goto (-34), 3) := by decide +kernel
theorem dX6_copies_39 : decode cX6_copies 39 = .ok (.return_, 1) := by decide +kernel
theorem dX6_records_0 : decode cX6_records 0 = .ok (.aload_n 0, 1) := by decide +kernel
theorem dX6_records_1 : decode cX6_records 1 = .ok (.getfield 29, 3) := by decide +kernel
theorem dX6_records_4 : decode cX6_records 4 = .ok (.iconst 4, 1) := by decide +kernel
theorem dX6_records_5 : decode cX6_records 5 = .ok (.if_icmp .ne 34, 3) := by decide +kernel
theorem dX6_records_8 : decode cX6_records 8 = .ok (.iconst 1, 1) := by decide +kernel
theorem dX6_records_9 : decode cX6_records 9 = .ok (.istore_n 1, 1) := by decide +kernel
theorem dX6_records_10 : decode cX6_records 10 = .ok (.iload_n 1, 1) := by decide +kernel
theorem dX6_records_11 : decode cX6_records 11 = .ok (.iconst 4, 1) := by decide +kernel
theorem dX6_records_12 : decode cX6_records 12 = .ok (.if_icmp .ge 17, 3) := by decide +kernel
theorem dX6_records_15 : decode cX6_records 15 = .ok (.aload_n 0, 1) := by decide +kernel
theorem dX6_records_16 : decode cX6_records 16 = .ok (.iload_n 1, 1) := by decide +kernel
theorem dX6_records_17 : decode cX6_records 17 = .ok (.iconst 1, 1) := by decide +kernel
theorem dX6_records_18 : decode cX6_records 18 = .ok (.iadd, 1) := by decide +kernel
theorem dX6_records_19 : decode cX6_records 19 = .ok (.iload_n 1, 1) := by decide +kernel
theorem dX6_records_20 : decode cX6_records 20 = .ok (.invokevirtual 33, 3) := by decide +kernel
theorem dX6_records_23 : decode cX6_records 23 = .ok (.iinc 1 1, 3) := by decide +kernel
theorem dX6_records_26 : decode cX6_records 26 = .ok (.goto (-16), 3) := by decide +kernel
theorem dX6_records_29 : decode cX6_records 29 = .ok (.aload_n 0, 1) := by decide +kernel
theorem dX6_records_30 : decode cX6_records 30 = .ok (.dup, 1) := by decide +kernel
theorem dX6_records_31 : decode cX6_records 31 = .ok (.getfield 29, 3) := by decide +kernel
theorem dX6_records_34 : decode cX6_records 34 = .ok (.iconst 1, 1) := by decide +kernel
theorem dX6_records_35 : decode cX6_records 35 = .ok (.isub, 1) := by decide +kernel
theorem dX6_records_36 : decode cX6_records 36 = .ok (.putfield 29, 3) := by decide +kernel
theorem dX6_records_39 : decode cX6_records 39 = .ok (.aload_n 0, 1) := by decide +kernel
theorem dX6_records_40 : decode cX6_records 40 = .ok (.dup, 1) := by decide +kernel
theorem dX6_records_41 : decode cX6_records 41 = .ok (.getfield 29, 3) := by decide +kernel
theorem dX6_records_44 : decode cX6_records 44 = .ok (.iconst 1, 1) := by decide +kernel
theorem dX6_records_45 : decode cX6_records 45 = .ok (.iadd, 1) := by decide +kernel
theorem dX6_records_46 : decode cX6_records 46 = .ok (.putfield 29, 3) := by decide +kernel
theorem dX6_records_49 : decode cX6_records 49 = .ok (.aload_n 0, 1) := by decide +kernel
theorem dX6_records_50 : decode cX6_records 50 = .ok (.iconst 0, 1) := by decide +kernel
theorem dX6_records_51 : decode cX6_records 51 = .ok (.aload_n 0, 1) := by decide +kernel
theorem dX6_records_52 : decode cX6_records 52 = .ok (.getfield 29, 3) := by decide +kernel
theorem dX6_records_55 : decode cX6_records 55 = .ok (.invokevirtual 33, 3) := by decide +kernel
theorem dX6_records_58 : decode cX6_records 58 = .ok (.return_, 1) := by decide +kernel
theorem dX6_who_0 : decode cX6_who 0 = .ok (.iload_n 0, 1) := by decide +kernel
theorem dX6_who_1 : decode cX6_who 1 = .ok (.ifCond .eq 9, 3) := by decide +kernel
theorem dX6_who_4 : decode cX6_who 4 = .ok (.iconst 4, 1) := by decide +kernel
theorem dX6_who_5 : decode cX6_who 5 = .ok (.iload_n 1, 1) := by decide +kernel
theorem dX6_who_6 : decode cX6_who 6 = .ok (.iadd, 1) := by decide +kernel
theorem dX6_who_7 : decode cX6_who 7 = .ok (.goto 4, 3) := by decide +kernel
theorem dX6_who_10 : decode cX6_who 10 = .ok (.iload_n 1, 1) := by decide +kernel
theorem dX6_who_11 : decode cX6_who 11 = .ok (.ireturn, 1) := by decide +kernel
theorem dX6_cell_0 : decode cX6_cell 0 = .ok (.bipush 36, 2) := by decide +kernel
theorem dX6_cell_2 : decode cX6_cell 2 = .ok (.bipush 18, 2) := by decide +kernel
theorem dX6_cell_4 : decode cX6_cell 4 = .ok (.iload_n 0, 1) := by decide +kernel
theorem dX6_cell_5 : decode cX6_cell 5 = .ok (.imul, 1) := by decide +kernel
theorem dX6_cell_6 : decode cX6_cell 6 = .ok (.iadd, 1) := by decide +kernel
theorem dX6_cell_7 : decode cX6_cell 7 = .ok (.iload_n 1, 1) := by decide +kernel
theorem dX6_cell_8 : decode cX6_cell 8 = .ok (.iadd, 1) := by decide +kernel
theorem dX6_cell_9 : decode cX6_cell 9 = .ok (.ireturn, 1) := by decide +kernel
theorem dX6_wanted_0 : decode cX6_wanted 0 = .ok (.aload_n 0, 1) := by decide +kernel
theorem dX6_wanted_1 : decode cX6_wanted 1 = .ok (.getfield 7, 3) := by decide +kernel
theorem dX6_wanted_4 : decode cX6_wanted 4 = .ok (.bipush 6, 2) := by decide +kernel
theorem dX6_wanted_6 : decode cX6_wanted 6 = .ok (.iload_n 2, 1) := by decide +kernel
theorem dX6_wanted_7 : decode cX6_wanted 7 = .ok (.iconst 3, 1) := by decide +kernel
theorem dX6_wanted_8 : decode cX6_wanted 8 = .ok (.idiv, 1) := by decide +kernel
theorem dX6_wanted_9 : decode cX6_wanted 9 = .ok (.imul, 1) := by decide +kernel
theorem dX6_wanted_10 : decode cX6_wanted 10 = .ok (.iload_n 2, 1) := by decide +kernel
theorem dX6_wanted_11 : decode cX6_wanted 11 = .ok (.iconst 3, 1) := by decide +kernel
theorem dX6_wanted_12 : decode cX6_wanted 12 = .ok (.irem, 1) := by decide +kernel
theorem dX6_wanted_13 : decode cX6_wanted 13 = .ok (.iadd, 1) := by decide +kernel
theorem dX6_wanted_14 : decode cX6_wanted 14 = .ok (.iload_n 1, 1) := by decide +kernel
theorem dX6_wanted_15 : decode cX6_wanted 15 = .ok (.iconst 3, 1) := by decide +kernel
theorem dX6_wanted_16 : decode cX6_wanted 16 = .ok (.if_icmp .le 7, 3) := by decide +kernel
theorem dX6_wanted_19 : decode cX6_wanted 19 = .ok (.iconst 3, 1) := by decide +kernel
theorem dX6_wanted_20 : decode cX6_wanted 20 = .ok (.goto 4, 3) := by decide +kernel
theorem dX6_wanted_23 : decode cX6_wanted 23 = .ok (.iconst 0, 1) := by decide +kernel
theorem dX6_wanted_24 : decode cX6_wanted 24 = .ok (.iadd, 1) := by decide +kernel
theorem dX6_wanted_25 : decode cX6_wanted 25 = .ok (.iaload, 1) := by decide +kernel
theorem dX6_wanted_26 : decode cX6_wanted 26 = .ok (.ireturn, 1) := by decide +kernel
theorem dX6_wrong_0 : decode cX6_wrong 0 = .ok (.aload_n 0, 1) := by decide +kernel
theorem dX6_wrong_1 : decode cX6_wrong 1 = .ok (.getfield 7, 3) := by decide +kernel
theorem dX6_wrong_4 : decode cX6_wrong 4 = .ok (.iload_n 1, 1) := by decide +kernel
theorem dX6_wrong_5 : decode cX6_wrong 5 = .ok (.iload_n 2, 1) := by decide +kernel
theorem dX6_wrong_6 : decode cX6_wrong 6 = .ok (.invokestatic 37, 3) := by decide +kernel
theorem dX6_wrong_9 : decode cX6_wrong 9 = .ok (.iaload, 1) := by decide +kernel
theorem dX6_wrong_10 : decode cX6_wrong 10 = .ok (.aload_n 0, 1) := by decide +kernel
theorem dX6_wrong_11 : decode cX6_wrong 11 = .ok (.iload_n 1, 1) := by decide +kernel
theorem dX6_wrong_12 : decode cX6_wrong 12 = .ok (.iload_n 2, 1) := by decide +kernel
theorem dX6_wrong_13 : decode cX6_wrong 13 = .ok (.invokevirtual 41, 3) := by decide +kernel
theorem dX6_wrong_16 : decode cX6_wrong 16 = .ok (.invokestatic 44, 3) := by decide +kernel
theorem dX6_wrong_19 : decode cX6_wrong 19 = .ok (.ireturn, 1) := by decide +kernel
theorem dX6_error_0 : decode cX6_error 0 = .ok (.iconst 0, 1) := by decide +kernel
theorem dX6_error_1 : decode cX6_error 1 = .ok (.istore_n 2, 1) := by decide +kernel
theorem dX6_error_2 : decode cX6_error 2 = .ok (.iconst 0, 1) := by decide +kernel
theorem dX6_error_3 : decode cX6_error 3 = .ok (.istore_n 3, 1) := by decide +kernel
theorem dX6_error_4 : decode cX6_error 4 = .ok (.iload_n 3, 1) := by decide +kernel
theorem dX6_error_5 : decode cX6_error 5 = .ok (.bipush 18, 2) := by decide +kernel
theorem dX6_error_7 : decode cX6_error 7 = .ok (.if_icmp .ge 18, 3) := by decide +kernel
theorem dX6_error_10 : decode cX6_error 10 = .ok (.iload_n 2, 1) := by decide +kernel
theorem dX6_error_11 : decode cX6_error 11 = .ok (.aload_n 0, 1) := by decide +kernel
theorem dX6_error_12 : decode cX6_error 12 = .ok (.iload_n 1, 1) := by decide +kernel
theorem dX6_error_13 : decode cX6_error 13 = .ok (.iload_n 3, 1) := by decide +kernel
theorem dX6_error_14 : decode cX6_error 14 = .ok (.invokevirtual 47, 3) := by decide +kernel
theorem dX6_error_17 : decode cX6_error 17 = .ok (.iadd, 1) := by decide +kernel
theorem dX6_error_18 : decode cX6_error 18 = .ok (.istore_n 2, 1) := by decide +kernel
theorem dX6_error_19 : decode cX6_error 19 = .ok (.iinc 3 1, 3) := by decide +kernel
theorem dX6_error_22 : decode cX6_error 22 = .ok (.goto (-18), 3) := by decide +kernel
theorem dX6_error_25 : decode cX6_error 25 = .ok (.iload_n 2, 1) := by decide +kernel
theorem dX6_error_26 : decode cX6_error 26 = .ok (.ireturn, 1) := by decide +kernel
theorem dX6_greatest_0 : decode cX6_greatest 0 = .ok (.aload_n 0, 1) := by decide +kernel
theorem dX6_greatest_1 : decode cX6_greatest 1 = .ok (.iconst 0, 1) := by decide +kernel
theorem dX6_greatest_2 : decode cX6_greatest 2 = .ok (.putfield 50, 3) := by decide +kernel
theorem dX6_greatest_5 : decode cX6_greatest 5 = .ok (.iconst 1, 1) := by decide +kernel
theorem dX6_greatest_6 : decode cX6_greatest 6 = .ok (.istore_n 2, 1) := by decide +kernel
theorem dX6_greatest_7 : decode cX6_greatest 7 = .ok (.iload_n 2, 1) := by decide +kernel
theorem dX6_greatest_8 : decode cX6_greatest 8 = .ok (.bipush 18, 2) := by decide +kernel
theorem dX6_greatest_10 : decode cX6_greatest 10 = .ok (.if_icmp .ge 39, 3) := by decide +kernel
theorem dX6_greatest_13 : decode cX6_greatest 13 = .ok (.aload_n 0, 1) := by decide +kernel
theorem dX6_greatest_14 : decode cX6_greatest 14 = .ok (.aload_n 0, 1) := by decide +kernel
theorem dX6_greatest_15 : decode cX6_greatest 15 = .ok (.iload_n 1, 1) := by decide +kernel
theorem dX6_greatest_16 : decode cX6_greatest 16 = .ok (.iload_n 2, 1) := by decide +kernel
theorem dX6_greatest_17 : decode cX6_greatest 17 = .ok (.invokevirtual 47, 3) := by decide +kernel
theorem dX6_greatest_20 : decode cX6_greatest 20 = .ok (.aload_n 0, 1) := by decide +kernel
theorem dX6_greatest_21 : decode cX6_greatest 21 = .ok (.iload_n 1, 1) := by decide +kernel
theorem dX6_greatest_22 : decode cX6_greatest 22 = .ok (.aload_n 0, 1) := by decide +kernel
theorem dX6_greatest_23 : decode cX6_greatest 23 = .ok (.getfield 50, 3) := by decide +kernel
theorem dX6_greatest_26 : decode cX6_greatest 26 = .ok (.invokevirtual 47, 3) := by decide +kernel
theorem dX6_greatest_29 : decode cX6_greatest 29 = .ok (.if_icmp .le 7, 3) := by decide +kernel
theorem dX6_greatest_32 : decode cX6_greatest 32 = .ok (.iload_n 2, 1) := by decide +kernel
theorem dX6_greatest_33 : decode cX6_greatest 33 = .ok (.goto 7, 3) := by decide +kernel
theorem dX6_greatest_36 : decode cX6_greatest 36 = .ok (.aload_n 0, 1) := by decide +kernel
theorem dX6_greatest_37 : decode cX6_greatest 37 = .ok (.getfield 50, 3) := by decide +kernel
theorem dX6_greatest_40 : decode cX6_greatest 40 = .ok (.putfield 50, 3) := by decide +kernel
theorem dX6_greatest_43 : decode cX6_greatest 43 = .ok (.iinc 2 1, 3) := by decide +kernel
theorem dX6_greatest_46 : decode cX6_greatest 46 = .ok (.goto (-39), 3) := by decide +kernel
theorem dX6_greatest_49 : decode cX6_greatest 49 = .ok (.aload_n 0, 1) := by decide +kernel
theorem dX6_greatest_50 : decode cX6_greatest 50 = .ok (.iload_n 1, 1) := by decide +kernel
theorem dX6_greatest_51 : decode cX6_greatest 51 = .ok (.aload_n 0, 1) := by decide +kernel
theorem dX6_greatest_52 : decode cX6_greatest 52 = .ok (.getfield 50, 3) := by decide +kernel
theorem dX6_greatest_55 : decode cX6_greatest 55 = .ok (.invokevirtual 47, 3) := by decide +kernel
theorem dX6_greatest_58 : decode cX6_greatest 58 = .ok (.ireturn, 1) := by decide +kernel
theorem dX6_across_0 : decode cX6_across 0 = .ok (.aload_n 0, 1) := by decide +kernel
theorem dX6_across_1 : decode cX6_across 1 = .ok (.getfield 7, 3) := by decide +kernel
theorem dX6_across_4 : decode cX6_across 4 = .ok (.iconst 4, 1) := by decide +kernel
theorem dX6_across_5 : decode cX6_across 5 = .ok (.iload_n 2, 1) := by decide +kernel
theorem dX6_across_6 : decode cX6_across 6 = .ok (.iadd, 1) := by decide +kernel
theorem dX6_across_7 : decode cX6_across 7 = .ok (.iconst 3, 1) := by decide +kernel
theorem dX6_across_8 : decode cX6_across 8 = .ok (.iload_n 3, 1) := by decide +kernel
theorem dX6_across_9 : decode cX6_across 9 = .ok (.imul, 1) := by decide +kernel
theorem dX6_across_10 : decode cX6_across 10 = .ok (.invokestatic 37, 3) := by decide +kernel
theorem dX6_across_13 : decode cX6_across 13 = .ok (.iaload, 1) := by decide +kernel
theorem dX6_across_14 : decode cX6_across 14 = .ok (.aload_n 0, 1) := by decide +kernel
theorem dX6_across_15 : decode cX6_across 15 = .ok (.getfield 7, 3) := by decide +kernel
theorem dX6_across_18 : decode cX6_across 18 = .ok (.iload_n 1, 1) := by decide +kernel
theorem dX6_across_19 : decode cX6_across 19 = .ok (.iconst 3, 1) := by decide +kernel
theorem dX6_across_20 : decode cX6_across 20 = .ok (.iload_n 3, 1) := by decide +kernel
theorem dX6_across_21 : decode cX6_across 21 = .ok (.imul, 1) := by decide +kernel
theorem dX6_across_22 : decode cX6_across 22 = .ok (.iconst 2, 1) := by decide +kernel
theorem dX6_across_23 : decode cX6_across 23 = .ok (.iadd, 1) := by decide +kernel
theorem dX6_across_24 : decode cX6_across 24 = .ok (.invokestatic 37, 3) := by decide +kernel
theorem dX6_across_27 : decode cX6_across 27 = .ok (.iaload, 1) := by decide +kernel
theorem dX6_across_28 : decode cX6_across 28 = .ok (.isub, 1) := by decide +kernel
theorem dX6_across_29 : decode cX6_across 29 = .ok (.ireturn, 1) := by decide +kernel
theorem dX6_isBreak_0 : decode cX6_isBreak 0 = .ok (.aload_n 0, 1) := by decide +kernel
theorem dX6_isBreak_1 : decode cX6_isBreak 1 = .ok (.iload_n 1, 1) := by decide +kernel
theorem dX6_isBreak_2 : decode cX6_isBreak 2 = .ok (.iload_n 2, 1) := by decide +kernel
theorem dX6_isBreak_3 : decode cX6_isBreak 3 = .ok (.iload_n 3, 1) := by decide +kernel
theorem dX6_isBreak_4 : decode cX6_isBreak 4 = .ok (.invokevirtual 53, 3) := by decide +kernel
theorem dX6_isBreak_7 : decode cX6_isBreak 7 = .ok (.istore 4, 2) := by decide +kernel
theorem dX6_isBreak_9 : decode cX6_isBreak 9 = .ok (.iload 4, 2) := by decide +kernel
theorem dX6_isBreak_11 : decode cX6_isBreak 11 = .ok (.iconst 0, 1) := by decide +kernel
theorem dX6_isBreak_12 : decode cX6_isBreak 12 = .ok (.invokestatic 44, 3) := by decide +kernel
theorem dX6_isBreak_15 : decode cX6_isBreak 15 = .ok (.aload_n 0, 1) := by decide +kernel
theorem dX6_isBreak_16 : decode cX6_isBreak 16 = .ok (.getfield 7, 3) := by decide +kernel
theorem dX6_isBreak_19 : decode cX6_isBreak 19 = .ok (.sipush 200, 3) := by decide +kernel
theorem dX6_isBreak_22 : decode cX6_isBreak 22 = .ok (.iaload, 1) := by decide +kernel
theorem dX6_isBreak_23 : decode cX6_isBreak 23 = .ok (.if_icmp .le 35, 3) := by decide +kernel
theorem dX6_isBreak_26 : decode cX6_isBreak 26 = .ok (.iload 4, 2) := by decide +kernel
theorem dX6_isBreak_28 : decode cX6_isBreak 28 = .ok (.aload_n 0, 1) := by decide +kernel
theorem dX6_isBreak_29 : decode cX6_isBreak 29 = .ok (.getfield 7, 3) := by decide +kernel
theorem dX6_isBreak_32 : decode cX6_isBreak 32 = .ok (.bipush 6, 2) := by decide +kernel
theorem dX6_isBreak_34 : decode cX6_isBreak 34 = .ok (.iload_n 3, 1) := by decide +kernel
theorem dX6_isBreak_35 : decode cX6_isBreak 35 = .ok (.imul, 1) := by decide +kernel
theorem dX6_isBreak_36 : decode cX6_isBreak 36 = .ok (.iconst 3, 1) := by decide +kernel
theorem dX6_isBreak_37 : decode cX6_isBreak 37 = .ok (.iadd, 1) := by decide +kernel
theorem dX6_isBreak_38 : decode cX6_isBreak 38 = .ok (.iaload, 1) := by decide +kernel
theorem dX6_isBreak_39 : decode cX6_isBreak 39 = .ok (.aload_n 0, 1) := by decide +kernel
theorem dX6_isBreak_40 : decode cX6_isBreak 40 = .ok (.getfield 7, 3) := by decide +kernel
theorem dX6_isBreak_43 : decode cX6_isBreak 43 = .ok (.bipush 6, 2) := by decide +kernel
theorem dX6_isBreak_45 : decode cX6_isBreak 45 = .ok (.iload_n 3, 1) := by decide +kernel
theorem dX6_isBreak_46 : decode cX6_isBreak 46 = .ok (.imul, 1) := by decide +kernel
theorem dX6_isBreak_47 : decode cX6_isBreak 47 = .ok (.iconst 2, 1) := by decide +kernel
theorem dX6_isBreak_48 : decode cX6_isBreak 48 = .ok (.iadd, 1) := by decide +kernel
theorem dX6_isBreak_49 : decode cX6_isBreak 49 = .ok (.iaload, 1) := by decide +kernel
theorem dX6_isBreak_50 : decode cX6_isBreak 50 = .ok (.isub, 1) := by decide +kernel
theorem dX6_isBreak_51 : decode cX6_isBreak 51 = .ok (.if_icmp .eq 7, 3) := by decide +kernel
theorem dX6_isBreak_54 : decode cX6_isBreak 54 = .ok (.iconst 1, 1) := by decide +kernel
theorem dX6_isBreak_55 : decode cX6_isBreak 55 = .ok (.goto 4, 3) := by decide +kernel
theorem dX6_isBreak_58 : decode cX6_isBreak 58 = .ok (.iconst 0, 1) := by decide +kernel
theorem dX6_isBreak_59 : decode cX6_isBreak 59 = .ok (.ireturn, 1) := by decide +kernel
theorem dX6_breaks_0 : decode cX6_breaks 0 = .ok (.iconst 0, 1) := by decide +kernel
theorem dX6_breaks_1 : decode cX6_breaks 1 = .ok (.istore_n 3, 1) := by decide +kernel
theorem dX6_breaks_2 : decode cX6_breaks 2 = .ok (.iconst 0, 1) := by decide +kernel
theorem dX6_breaks_3 : decode cX6_breaks 3 = .ok (.istore 4, 2) := by decide +kernel
theorem dX6_breaks_5 : decode cX6_breaks 5 = .ok (.iload 4, 2) := by decide +kernel
theorem dX6_breaks_7 : decode cX6_breaks 7 = .ok (.bipush 6, 2) := by decide +kernel
theorem dX6_breaks_9 : decode cX6_breaks 9 = .ok (.if_icmp .ge 28, 3) := by decide +kernel
theorem dX6_breaks_12 : decode cX6_breaks 12 = .ok (.iload_n 3, 1) := by decide +kernel
theorem dX6_breaks_13 : decode cX6_breaks 13 = .ok (.aload_n 0, 1) := by decide +kernel
theorem dX6_breaks_14 : decode cX6_breaks 14 = .ok (.iload_n 1, 1) := by decide +kernel
theorem dX6_breaks_15 : decode cX6_breaks 15 = .ok (.iload_n 2, 1) := by decide +kernel
theorem dX6_breaks_16 : decode cX6_breaks 16 = .ok (.iload 4, 2) := by decide +kernel
theorem dX6_breaks_18 : decode cX6_breaks 18 = .ok (.invokevirtual 57, 3) := by decide +kernel
theorem dX6_breaks_21 : decode cX6_breaks 21 = .ok (.ifCond .eq 7, 3) := by decide +kernel
theorem dX6_breaks_24 : decode cX6_breaks 24 = .ok (.iconst 1, 1) := by decide +kernel
theorem dX6_breaks_25 : decode cX6_breaks 25 = .ok (.goto 4, 3) := by decide +kernel
theorem dX6_breaks_28 : decode cX6_breaks 28 = .ok (.iconst 0, 1) := by decide +kernel
theorem dX6_breaks_29 : decode cX6_breaks 29 = .ok (.iadd, 1) := by decide +kernel
theorem dX6_breaks_30 : decode cX6_breaks 30 = .ok (.istore_n 3, 1) := by decide +kernel
theorem dX6_breaks_31 : decode cX6_breaks 31 = .ok (.iinc 4 1, 3) := by decide +kernel
theorem dX6_breaks_34 : decode cX6_breaks 34 = .ok (.goto (-29), 3) := by decide +kernel
theorem dX6_breaks_37 : decode cX6_breaks 37 = .ok (.iload_n 3, 1) := by decide +kernel
theorem dX6_breaks_38 : decode cX6_breaks 38 = .ok (.ireturn, 1) := by decide +kernel
theorem dX6_likeness_0 : decode cX6_likeness 0 = .ok (.sipush 1000, 3) := by decide +kernel
theorem dX6_likeness_3 : decode cX6_likeness 3 = .ok (.iconst 5, 1) := by decide +kernel
theorem dX6_likeness_4 : decode cX6_likeness 4 = .ok (.aload_n 0, 1) := by decide +kernel
theorem dX6_likeness_5 : decode cX6_likeness 5 = .ok (.iload_n 1, 1) := by decide +kernel
theorem dX6_likeness_6 : decode cX6_likeness 6 = .ok (.invokevirtual 61, 3) := by decide +kernel
theorem dX6_likeness_9 : decode cX6_likeness 9 = .ok (.aload_n 0, 1) := by decide +kernel
theorem dX6_likeness_10 : decode cX6_likeness 10 = .ok (.iconst 4, 1) := by decide +kernel
theorem dX6_likeness_11 : decode cX6_likeness 11 = .ok (.iload_n 2, 1) := by decide +kernel
theorem dX6_likeness_12 : decode cX6_likeness 12 = .ok (.iadd, 1) := by decide +kernel
theorem dX6_likeness_13 : decode cX6_likeness 13 = .ok (.invokevirtual 61, 3) := by decide +kernel
theorem dX6_likeness_16 : decode cX6_likeness 16 = .ok (.iadd, 1) := by decide +kernel
theorem dX6_likeness_17 : decode cX6_likeness 17 = .ok (.imul, 1) := by decide +kernel
theorem dX6_likeness_18 : decode cX6_likeness 18 = .ok (.isub, 1) := by decide +kernel
theorem dX6_likeness_19 : decode cX6_likeness 19 = .ok (.bipush 50, 2) := by decide +kernel
theorem dX6_likeness_21 : decode cX6_likeness 21 = .ok (.aload_n 0, 1) := by decide +kernel
theorem dX6_likeness_22 : decode cX6_likeness 22 = .ok (.iload_n 1, 1) := by decide +kernel
theorem dX6_likeness_23 : decode cX6_likeness 23 = .ok (.iload_n 2, 1) := by decide +kernel
theorem dX6_likeness_24 : decode cX6_likeness 24 = .ok (.invokevirtual 65, 3) := by decide +kernel
theorem dX6_likeness_27 : decode cX6_likeness 27 = .ok (.imul, 1) := by decide +kernel
theorem dX6_likeness_28 : decode cX6_likeness 28 = .ok (.isub, 1) := by decide +kernel
theorem dX6_likeness_29 : decode cX6_likeness 29 = .ok (.ireturn, 1) := by decide +kernel
theorem dX6_finds_0 : decode cX6_finds 0 = .ok (.aload_n 0, 1) := by decide +kernel
theorem dX6_finds_1 : decode cX6_finds 1 = .ok (.ldc 68, 2) := by decide +kernel
theorem dX6_finds_3 : decode cX6_finds 3 = .ok (.putfield 69, 3) := by decide +kernel
theorem dX6_finds_6 : decode cX6_finds 6 = .ok (.iconst 0, 1) := by decide +kernel
theorem dX6_finds_7 : decode cX6_finds 7 = .ok (.istore_n 1, 1) := by decide +kernel
theorem dX6_finds_8 : decode cX6_finds 8 = .ok (.iload_n 1, 1) := by decide +kernel
theorem dX6_finds_9 : decode cX6_finds 9 = .ok (.sipush 256, 3) := by decide +kernel
theorem dX6_finds_12 : decode cX6_finds 12 = .ok (.if_icmp .ge 137, 3) := by decide +kernel
theorem dX6_finds_15 : decode cX6_finds 15 = .ok (.iconst 0, 1) := by decide +kernel
theorem dX6_finds_16 : decode cX6_finds 16 = .ok (.istore_n 2, 1) := by decide +kernel
theorem dX6_finds_17 : decode cX6_finds 17 = .ok (.iconst 0, 1) := by decide +kernel
theorem dX6_finds_18 : decode cX6_finds 18 = .ok (.istore_n 3, 1) := by decide +kernel
theorem dX6_finds_19 : decode cX6_finds 19 = .ok (.iconst 0, 1) := by decide +kernel
theorem dX6_finds_20 : decode cX6_finds 20 = .ok (.istore 4, 2) := by decide +kernel
theorem dX6_finds_22 : decode cX6_finds 22 = .ok (.iload 4, 2) := by decide +kernel
theorem dX6_finds_24 : decode cX6_finds 24 = .ok (.iconst 4, 1) := by decide +kernel
theorem dX6_finds_25 : decode cX6_finds 25 = .ok (.if_icmp .ge 39, 3) := by decide +kernel
theorem dX6_finds_28 : decode cX6_finds 28 = .ok (.aload_n 0, 1) := by decide +kernel
theorem dX6_finds_29 : decode cX6_finds 29 = .ok (.getfield 23, 3) := by decide +kernel
theorem dX6_finds_32 : decode cX6_finds 32 = .ok (.iload 4, 2) := by decide +kernel
theorem dX6_finds_34 : decode cX6_finds 34 = .ok (.iload_n 1, 1) := by decide +kernel
theorem dX6_finds_35 : decode cX6_finds 35 = .ok (.bipush 6, 2) := by decide +kernel
theorem dX6_finds_37 : decode cX6_finds 37 = .ok (.iconst 2, 1) := by decide +kernel
theorem dX6_finds_38 : decode cX6_finds 38 = .ok (.iload 4, 2) := by decide +kernel
theorem dX6_finds_40 : decode cX6_finds 40 = .ok (.imul, 1) := by decide +kernel
theorem dX6_finds_41 : decode cX6_finds 41 = .ok (.isub, 1) := by decide +kernel
theorem dX6_finds_42 : decode cX6_finds 42 = .ok (.ishr, 1) := by decide +kernel
theorem dX6_finds_43 : decode cX6_finds 43 = .ok (.iconst 3, 1) := by decide +kernel
theorem dX6_finds_44 : decode cX6_finds 44 = .ok (.iand, 1) := by decide +kernel
theorem dX6_finds_45 : decode cX6_finds 45 = .ok (.iastore, 1) := by decide +kernel
theorem dX6_finds_46 : decode cX6_finds 46 = .ok (.iload_n 2, 1) := by decide +kernel
theorem dX6_finds_47 : decode cX6_finds 47 = .ok (.iconst 1, 1) := by decide +kernel
theorem dX6_finds_48 : decode cX6_finds 48 = .ok (.aload_n 0, 1) := by decide +kernel
theorem dX6_finds_49 : decode cX6_finds 49 = .ok (.getfield 23, 3) := by decide +kernel
theorem dX6_finds_52 : decode cX6_finds 52 = .ok (.iload 4, 2) := by decide +kernel
theorem dX6_finds_54 : decode cX6_finds 54 = .ok (.iaload, 1) := by decide +kernel
theorem dX6_finds_55 : decode cX6_finds 55 = .ok (.ishl, 1) := by decide +kernel
theorem dX6_finds_56 : decode cX6_finds 56 = .ok (.ior, 1) := by decide +kernel
theorem dX6_finds_57 : decode cX6_finds 57 = .ok (.istore_n 2, 1) := by decide +kernel
theorem dX6_finds_58 : decode cX6_finds 58 = .ok (.iinc 4 1, 3) := by decide +kernel
theorem dX6_finds_61 : decode cX6_finds 61 = .ok (.goto (-39), 3) := by decide +kernel
theorem dX6_finds_64 : decode cX6_finds 64 = .ok (.iload_n 2, 1) := by decide +kernel
theorem dX6_finds_65 : decode cX6_finds 65 = .ok (.bipush 15, 2) := by decide +kernel
theorem dX6_finds_67 : decode cX6_finds 67 = .ok (.if_icmp .ne 76, 3) := by decide +kernel
theorem dX6_finds_70 : decode cX6_finds 70 = .ok (.iconst 0, 1) := by decide +kernel
theorem dX6_finds_71 : decode cX6_finds 71 = .ok (.istore 4, 2) := by decide +kernel
theorem dX6_finds_73 : decode cX6_finds 73 = .ok (.iload 4, 2) := by decide +kernel
theorem dX6_finds_75 : decode cX6_finds 75 = .ok (.iconst 4, 1) := by decide +kernel
theorem dX6_finds_76 : decode cX6_finds 76 = .ok (.if_icmp .ge 25, 3) := by decide +kernel
theorem dX6_finds_79 : decode cX6_finds 79 = .ok (.iload_n 3, 1) := by decide +kernel
theorem dX6_finds_80 : decode cX6_finds 80 = .ok (.aload_n 0, 1) := by decide +kernel
theorem dX6_finds_81 : decode cX6_finds 81 = .ok (.iload 4, 2) := by decide +kernel
theorem dX6_finds_83 : decode cX6_finds 83 = .ok (.aload_n 0, 1) := by decide +kernel
theorem dX6_finds_84 : decode cX6_finds 84 = .ok (.getfield 23, 3) := by decide +kernel
theorem dX6_finds_87 : decode cX6_finds 87 = .ok (.iload 4, 2) := by decide +kernel
theorem dX6_finds_89 : decode cX6_finds 89 = .ok (.iaload, 1) := by decide +kernel
theorem dX6_finds_90 : decode cX6_finds 90 = .ok (.invokevirtual 72, 3) := by decide +kernel
theorem dX6_finds_93 : decode cX6_finds 93 = .ok (.iadd, 1) := by decide +kernel
theorem dX6_finds_94 : decode cX6_finds 94 = .ok (.istore_n 3, 1) := by decide +kernel
theorem dX6_finds_95 : decode cX6_finds 95 = .ok (.iinc 4 1, 3) := by decide +kernel
theorem dX6_finds_98 : decode cX6_finds 98 = .ok (.goto (-25), 3) := by decide +kernel
theorem dX6_finds_101 : decode cX6_finds 101 = .ok (.iload_n 3, 1) := by decide +kernel
theorem dX6_finds_102 : decode cX6_finds 102 = .ok (.aload_n 0, 1) := by decide +kernel
theorem dX6_finds_103 : decode cX6_finds 103 = .ok (.getfield 69, 3) := by decide +kernel
theorem dX6_finds_106 : decode cX6_finds 106 = .ok (.if_icmp .le 37, 3) := by decide +kernel
theorem dX6_finds_109 : decode cX6_finds 109 = .ok (.aload_n 0, 1) := by decide +kernel
theorem dX6_finds_110 : decode cX6_finds 110 = .ok (.iload_n 3, 1) := by decide +kernel
theorem dX6_finds_111 : decode cX6_finds 111 = .ok (.putfield 69, 3) := by decide +kernel
theorem dX6_finds_114 : decode cX6_finds 114 = .ok (.iconst 0, 1) := by decide +kernel
theorem dX6_finds_115 : decode cX6_finds 115 = .ok (.istore 4, 2) := by decide +kernel
theorem dX6_finds_117 : decode cX6_finds 117 = .ok (.iload 4, 2) := by decide +kernel
theorem dX6_finds_119 : decode cX6_finds 119 = .ok (.iconst 4, 1) := by decide +kernel
theorem dX6_finds_120 : decode cX6_finds 120 = .ok (.if_icmp .ge 23, 3) := by decide +kernel
theorem dX6_finds_123 : decode cX6_finds 123 = .ok (.aload_n 0, 1) := by decide +kernel
theorem dX6_finds_124 : decode cX6_finds 124 = .ok (.getfield 26, 3) := by decide +kernel
theorem dX6_finds_127 : decode cX6_finds 127 = .ok (.iload 4, 2) := by decide +kernel
theorem dX6_finds_129 : decode cX6_finds 129 = .ok (.aload_n 0, 1) := by decide +kernel
theorem dX6_finds_130 : decode cX6_finds 130 = .ok (.getfield 23, 3) := by decide +kernel
theorem dX6_finds_133 : decode cX6_finds 133 = .ok (.iload 4, 2) := by decide +kernel
theorem dX6_finds_135 : decode cX6_finds 135 = .ok (.iaload, 1) := by decide +kernel
theorem dX6_finds_136 : decode cX6_finds 136 = .ok (.iastore, 1) := by decide +kernel
theorem dX6_finds_137 : decode cX6_finds 137 = .ok (.iinc 4 1, 3) := by decide +kernel
theorem dX6_finds_140 : decode cX6_finds 140 = .ok (.goto (-23), 3) := by decide +kernel
theorem dX6_finds_143 : decode cX6_finds 143 = .ok (.iinc 1 1, 3) := by decide +kernel
theorem dX6_finds_146 : decode cX6_finds 146 = .ok (.goto (-138), 3) := by decide +kernel
theorem dX6_finds_149 : decode cX6_finds 149 = .ok (.return_, 1) := by decide +kernel
theorem dX6_sit_0 : decode cX6_sit 0 = .ok (.iload_n 1, 1) := by decide +kernel
theorem dX6_sit_1 : decode cX6_sit 1 = .ok (.iconst 0, 1) := by decide +kernel
theorem dX6_sit_2 : decode cX6_sit 2 = .ok (.iconst 5, 1) := by decide +kernel
theorem dX6_sit_3 : decode cX6_sit 3 = .ok (.invokestatic 75, 3) := by decide +kernel
theorem dX6_sit_6 : decode cX6_sit 6 = .ok (.ifCond .eq 12, 3) := by decide +kernel
theorem dX6_sit_9 : decode cX6_sit 9 = .ok (.iload_n 2, 1) := by decide +kernel
theorem dX6_sit_10 : decode cX6_sit 10 = .ok (.iconst 0, 1) := by decide +kernel
theorem dX6_sit_11 : decode cX6_sit 11 = .ok (.iconst 5, 1) := by decide +kernel
theorem dX6_sit_12 : decode cX6_sit 12 = .ok (.invokestatic 75, 3) := by decide +kernel
theorem dX6_sit_15 : decode cX6_sit 15 = .ok (.ifCond .ne 6, 3) := by decide +kernel
theorem dX6_sit_18 : decode cX6_sit 18 = .ok (.ldc 78, 2) := by decide +kernel
theorem dX6_sit_20 : decode cX6_sit 20 = .ok (.ireturn, 1) := by decide +kernel
theorem dX6_sit_21 : decode cX6_sit 21 = .ok (.iload_n 3, 1) := by decide +kernel
theorem dX6_sit_22 : decode cX6_sit 22 = .ok (.iconst 0, 1) := by decide +kernel
theorem dX6_sit_23 : decode cX6_sit 23 = .ok (.bipush 9, 2) := by decide +kernel
theorem dX6_sit_25 : decode cX6_sit 25 = .ok (.invokestatic 75, 3) := by decide +kernel
theorem dX6_sit_28 : decode cX6_sit 28 = .ok (.ifCond .ne 6, 3) := by decide +kernel
theorem dX6_sit_31 : decode cX6_sit 31 = .ok (.ldc 79, 2) := by decide +kernel
theorem dX6_sit_33 : decode cX6_sit 33 = .ok (.ireturn, 1) := by decide +kernel
theorem dX6_sit_34 : decode cX6_sit 34 = .ok (.aload_n 0, 1) := by decide +kernel
theorem dX6_sit_35 : decode cX6_sit 35 = .ok (.getfield 7, 3) := by decide +kernel
theorem dX6_sit_38 : decode cX6_sit 38 = .ok (.bipush 6, 2) := by decide +kernel
theorem dX6_sit_40 : decode cX6_sit 40 = .ok (.iload_n 1, 1) := by decide +kernel
theorem dX6_sit_41 : decode cX6_sit 41 = .ok (.imul, 1) := by decide +kernel
theorem dX6_sit_42 : decode cX6_sit 42 = .ok (.iload_n 2, 1) := by decide +kernel
theorem dX6_sit_43 : decode cX6_sit 43 = .ok (.iadd, 1) := by decide +kernel
theorem dX6_sit_44 : decode cX6_sit 44 = .ok (.iaload, 1) := by decide +kernel
theorem dX6_sit_45 : decode cX6_sit 45 = .ok (.istore 4, 2) := by decide +kernel
theorem dX6_sit_47 : decode cX6_sit 47 = .ok (.iload 4, 2) := by decide +kernel
theorem dX6_sit_49 : decode cX6_sit 49 = .ok (.iload_n 3, 1) := by decide +kernel
theorem dX6_sit_50 : decode cX6_sit 50 = .ok (.if_icmp .ne 6, 3) := by decide +kernel
theorem dX6_sit_53 : decode cX6_sit 53 = .ok (.ldc 80, 2) := by decide +kernel
theorem dX6_sit_55 : decode cX6_sit 55 = .ok (.ireturn, 1) := by decide +kernel
theorem dX6_sit_56 : decode cX6_sit 56 = .ok (.aload_n 0, 1) := by decide +kernel
theorem dX6_sit_57 : decode cX6_sit 57 = .ok (.invokevirtual 81, 3) := by decide +kernel
theorem dX6_sit_60 : decode cX6_sit 60 = .ok (.aload_n 0, 1) := by decide +kernel
theorem dX6_sit_61 : decode cX6_sit 61 = .ok (.getfield 7, 3) := by decide +kernel
theorem dX6_sit_64 : decode cX6_sit 64 = .ok (.bipush 6, 2) := by decide +kernel
theorem dX6_sit_66 : decode cX6_sit 66 = .ok (.iload_n 1, 1) := by decide +kernel
theorem dX6_sit_67 : decode cX6_sit 67 = .ok (.imul, 1) := by decide +kernel
theorem dX6_sit_68 : decode cX6_sit 68 = .ok (.iload_n 2, 1) := by decide +kernel
theorem dX6_sit_69 : decode cX6_sit 69 = .ok (.iadd, 1) := by decide +kernel
theorem dX6_sit_70 : decode cX6_sit 70 = .ok (.iload_n 3, 1) := by decide +kernel
theorem dX6_sit_71 : decode cX6_sit 71 = .ok (.iastore, 1) := by decide +kernel
theorem dX6_sit_72 : decode cX6_sit 72 = .ok (.iload 4, 2) := by decide +kernel
theorem dX6_sit_74 : decode cX6_sit 74 = .ok (.ireturn, 1) := by decide +kernel
theorem dX6_set_0 : decode cX6_set 0 = .ok (.iload_n 1, 1) := by decide +kernel
theorem dX6_set_1 : decode cX6_set 1 = .ok (.ifCond .ne 13, 3) := by decide +kernel
theorem dX6_set_4 : decode cX6_set 4 = .ok (.iload_n 2, 1) := by decide +kernel
theorem dX6_set_5 : decode cX6_set 5 = .ok (.iconst 0, 1) := by decide +kernel
theorem dX6_set_6 : decode cX6_set 6 = .ok (.bipush 9, 2) := by decide +kernel
theorem dX6_set_8 : decode cX6_set 8 = .ok (.invokestatic 75, 3) := by decide +kernel
theorem dX6_set_11 : decode cX6_set 11 = .ok (.goto 24, 3) := by decide +kernel
theorem dX6_set_14 : decode cX6_set 14 = .ok (.iload_n 1, 1) := by decide +kernel
theorem dX6_set_15 : decode cX6_set 15 = .ok (.iconst 1, 1) := by decide +kernel
theorem dX6_set_16 : decode cX6_set 16 = .ok (.if_icmp .ne 18, 3) := by decide +kernel
theorem dX6_set_19 : decode cX6_set 19 = .ok (.iload_n 2, 1) := by decide +kernel
theorem dX6_set_20 : decode cX6_set 20 = .ok (.iconst 1, 1) := by decide +kernel
theorem dX6_set_21 : decode cX6_set 21 = .ok (.sipush 200, 3) := by decide +kernel
theorem dX6_set_24 : decode cX6_set 24 = .ok (.invokestatic 75, 3) := by decide +kernel
theorem dX6_set_27 : decode cX6_set 27 = .ok (.ifCond .eq 7, 3) := by decide +kernel
theorem dX6_set_30 : decode cX6_set 30 = .ok (.iconst 1, 1) := by decide +kernel
theorem dX6_set_31 : decode cX6_set 31 = .ok (.goto 4, 3) := by decide +kernel
theorem dX6_set_34 : decode cX6_set 34 = .ok (.iconst 0, 1) := by decide +kernel
theorem dX6_set_35 : decode cX6_set 35 = .ok (.istore_n 3, 1) := by decide +kernel
theorem dX6_set_36 : decode cX6_set 36 = .ok (.iload_n 3, 1) := by decide +kernel
theorem dX6_set_37 : decode cX6_set 37 = .ok (.ifCond .ne 6, 3) := by decide +kernel
theorem dX6_set_40 : decode cX6_set 40 = .ok (.ldc 79, 2) := by decide +kernel
theorem dX6_set_42 : decode cX6_set 42 = .ok (.ireturn, 1) := by decide +kernel
theorem dX6_set_43 : decode cX6_set 43 = .ok (.aload_n 0, 1) := by decide +kernel
theorem dX6_set_44 : decode cX6_set 44 = .ok (.getfield 7, 3) := by decide +kernel
theorem dX6_set_47 : decode cX6_set 47 = .ok (.sipush 200, 3) := by decide +kernel
theorem dX6_set_50 : decode cX6_set 50 = .ok (.iload_n 1, 1) := by decide +kernel
theorem dX6_set_51 : decode cX6_set 51 = .ok (.iadd, 1) := by decide +kernel
theorem dX6_set_52 : decode cX6_set 52 = .ok (.iaload, 1) := by decide +kernel
theorem dX6_set_53 : decode cX6_set 53 = .ok (.istore 4, 2) := by decide +kernel
theorem dX6_set_55 : decode cX6_set 55 = .ok (.iload 4, 2) := by decide +kernel
theorem dX6_set_57 : decode cX6_set 57 = .ok (.iload_n 2, 1) := by decide +kernel
theorem dX6_set_58 : decode cX6_set 58 = .ok (.if_icmp .ne 6, 3) := by decide +kernel
theorem dX6_set_61 : decode cX6_set 61 = .ok (.ldc 80, 2) := by decide +kernel
theorem dX6_set_63 : decode cX6_set 63 = .ok (.ireturn, 1) := by decide +kernel
theorem dX6_set_64 : decode cX6_set 64 = .ok (.aload_n 0, 1) := by decide +kernel
theorem dX6_set_65 : decode cX6_set 65 = .ok (.invokevirtual 81, 3) := by decide +kernel
theorem dX6_set_68 : decode cX6_set 68 = .ok (.aload_n 0, 1) := by decide +kernel
theorem dX6_set_69 : decode cX6_set 69 = .ok (.getfield 7, 3) := by decide +kernel
theorem dX6_set_72 : decode cX6_set 72 = .ok (.sipush 200, 3) := by decide +kernel
theorem dX6_set_75 : decode cX6_set 75 = .ok (.iload_n 1, 1) := by decide +kernel
theorem dX6_set_76 : decode cX6_set 76 = .ok (.iadd, 1) := by decide +kernel
theorem dX6_set_77 : decode cX6_set 77 = .ok (.iload_n 2, 1) := by decide +kernel
theorem dX6_set_78 : decode cX6_set 78 = .ok (.iastore, 1) := by decide +kernel
theorem dX6_set_79 : decode cX6_set 79 = .ok (.iload 4, 2) := by decide +kernel
theorem dX6_set_81 : decode cX6_set 81 = .ok (.ireturn, 1) := by decide +kernel
theorem dX6_paint_0 : decode cX6_paint 0 = .ok (.iload_n 2, 1) := by decide +kernel
theorem dX6_paint_1 : decode cX6_paint 1 = .ok (.iconst 0, 1) := by decide +kernel
theorem dX6_paint_2 : decode cX6_paint 2 = .ok (.iconst 3, 1) := by decide +kernel
theorem dX6_paint_3 : decode cX6_paint 3 = .ok (.invokestatic 75, 3) := by decide +kernel
theorem dX6_paint_6 : decode cX6_paint 6 = .ok (.ifCond .eq 22, 3) := by decide +kernel
theorem dX6_paint_9 : decode cX6_paint 9 = .ok (.iload_n 3, 1) := by decide +kernel
theorem dX6_paint_10 : decode cX6_paint 10 = .ok (.iconst 0, 1) := by decide +kernel
theorem dX6_paint_11 : decode cX6_paint 11 = .ok (.iconst 5, 1) := by decide +kernel
theorem dX6_paint_12 : decode cX6_paint 12 = .ok (.invokestatic 75, 3) := by decide +kernel
theorem dX6_paint_15 : decode cX6_paint 15 = .ok (.ifCond .eq 13, 3) := by decide +kernel
theorem dX6_paint_18 : decode cX6_paint 18 = .ok (.iload 4, 2) := by decide +kernel
theorem dX6_paint_20 : decode cX6_paint 20 = .ok (.iconst 0, 1) := by decide +kernel
theorem dX6_paint_21 : decode cX6_paint 21 = .ok (.iconst 2, 1) := by decide +kernel
theorem dX6_paint_22 : decode cX6_paint 22 = .ok (.invokestatic 75, 3) := by decide +kernel
theorem dX6_paint_25 : decode cX6_paint 25 = .ok (.ifCond .ne 6, 3) := by decide +kernel
theorem dX6_paint_28 : decode cX6_paint 28 = .ok (.ldc 78, 2) := by decide +kernel
theorem dX6_paint_30 : decode cX6_paint 30 = .ok (.ireturn, 1) := by decide +kernel
theorem dX6_paint_31 : decode cX6_paint 31 = .ok (.iload 5, 2) := by decide +kernel
theorem dX6_paint_33 : decode cX6_paint 33 = .ok (.iconst 0, 1) := by decide +kernel
theorem dX6_paint_34 : decode cX6_paint 34 = .ok (.bipush 9, 2) := by decide +kernel
theorem dX6_paint_36 : decode cX6_paint 36 = .ok (.invokestatic 75, 3) := by decide +kernel
theorem dX6_paint_39 : decode cX6_paint 39 = .ok (.ifCond .ne 6, 3) := by decide +kernel
theorem dX6_paint_42 : decode cX6_paint 42 = .ok (.ldc 79, 2) := by decide +kernel
theorem dX6_paint_44 : decode cX6_paint 44 = .ok (.ireturn, 1) := by decide +kernel
theorem dX6_paint_45 : decode cX6_paint 45 = .ok (.iload_n 1, 1) := by decide +kernel
theorem dX6_paint_46 : decode cX6_paint 46 = .ok (.iload_n 2, 1) := by decide +kernel
theorem dX6_paint_47 : decode cX6_paint 47 = .ok (.invokestatic 84, 3) := by decide +kernel
theorem dX6_paint_50 : decode cX6_paint 50 = .ok (.istore 6, 2) := by decide +kernel
theorem dX6_paint_52 : decode cX6_paint 52 = .ok (.iload 6, 2) := by decide +kernel
theorem dX6_paint_54 : decode cX6_paint 54 = .ok (.iconst 3, 1) := by decide +kernel
theorem dX6_paint_55 : decode cX6_paint 55 = .ok (.iload_n 3, 1) := by decide +kernel
theorem dX6_paint_56 : decode cX6_paint 56 = .ok (.imul, 1) := by decide +kernel
theorem dX6_paint_57 : decode cX6_paint 57 = .ok (.iload 4, 2) := by decide +kernel
theorem dX6_paint_59 : decode cX6_paint 59 = .ok (.iadd, 1) := by decide +kernel
theorem dX6_paint_60 : decode cX6_paint 60 = .ok (.invokestatic 37, 3) := by decide +kernel
theorem dX6_paint_63 : decode cX6_paint 63 = .ok (.istore 7, 2) := by decide +kernel
theorem dX6_paint_65 : decode cX6_paint 65 = .ok (.aload_n 0, 1) := by decide +kernel
theorem dX6_paint_66 : decode cX6_paint 66 = .ok (.getfield 7, 3) := by decide +kernel
theorem dX6_paint_69 : decode cX6_paint 69 = .ok (.iload 7, 2) := by decide +kernel
theorem dX6_paint_71 : decode cX6_paint 71 = .ok (.iaload, 1) := by decide +kernel
theorem dX6_paint_72 : decode cX6_paint 72 = .ok (.iload 5, 2) := by decide +kernel
theorem dX6_paint_74 : decode cX6_paint 74 = .ok (.invokestatic 44, 3) := by decide +kernel
theorem dX6_paint_77 : decode cX6_paint 77 = .ok (.istore 8, 2) := by decide +kernel
theorem dX6_paint_79 : decode cX6_paint 79 = .ok (.iload 8, 2) := by decide +kernel
theorem dX6_paint_81 : decode cX6_paint 81 = .ok (.aload_n 0, 1) := by decide +kernel
theorem dX6_paint_82 : decode cX6_paint 82 = .ok (.getfield 7, 3) := by decide +kernel
theorem dX6_paint_85 : decode cX6_paint 85 = .ok (.sipush 180, 3) := by decide +kernel
theorem dX6_paint_88 : decode cX6_paint 88 = .ok (.iload 6, 2) := by decide +kernel
theorem dX6_paint_90 : decode cX6_paint 90 = .ok (.iadd, 1) := by decide +kernel
theorem dX6_paint_91 : decode cX6_paint 91 = .ok (.iaload, 1) := by decide +kernel
theorem dX6_paint_92 : decode cX6_paint 92 = .ok (.if_icmp .le 6, 3) := by decide +kernel
theorem dX6_paint_95 : decode cX6_paint 95 = .ok (.ldc 88, 2) := by decide +kernel
theorem dX6_paint_97 : decode cX6_paint 97 = .ok (.ireturn, 1) := by decide +kernel
theorem dX6_paint_98 : decode cX6_paint 98 = .ok (.iload 8, 2) := by decide +kernel
theorem dX6_paint_100 : decode cX6_paint 100 = .ok (.ifCond .ne 6, 3) := by decide +kernel
theorem dX6_paint_103 : decode cX6_paint 103 = .ok (.ldc 80, 2) := by decide +kernel
theorem dX6_paint_105 : decode cX6_paint 105 = .ok (.ireturn, 1) := by decide +kernel
theorem dX6_paint_106 : decode cX6_paint 106 = .ok (.aload_n 0, 1) := by decide +kernel
theorem dX6_paint_107 : decode cX6_paint 107 = .ok (.invokevirtual 81, 3) := by decide +kernel
theorem dX6_paint_110 : decode cX6_paint 110 = .ok (.aload_n 0, 1) := by decide +kernel
theorem dX6_paint_111 : decode cX6_paint 111 = .ok (.getfield 7, 3) := by decide +kernel
theorem dX6_paint_114 : decode cX6_paint 114 = .ok (.iload 7, 2) := by decide +kernel
theorem dX6_paint_116 : decode cX6_paint 116 = .ok (.iload 5, 2) := by decide +kernel
theorem dX6_paint_118 : decode cX6_paint 118 = .ok (.iastore, 1) := by decide +kernel
theorem dX6_paint_119 : decode cX6_paint 119 = .ok (.aload_n 0, 1) := by decide +kernel
theorem dX6_paint_120 : decode cX6_paint 120 = .ok (.getfield 7, 3) := by decide +kernel
theorem dX6_paint_123 : decode cX6_paint 123 = .ok (.sipush 180, 3) := by decide +kernel
theorem dX6_paint_126 : decode cX6_paint 126 = .ok (.iload 6, 2) := by decide +kernel
theorem dX6_paint_128 : decode cX6_paint 128 = .ok (.iadd, 1) := by decide +kernel
theorem dX6_paint_129 : decode cX6_paint 129 = .ok (.dup2, 1) := by decide +kernel
theorem dX6_paint_130 : decode cX6_paint 130 = .ok (.iaload, 1) := by decide +kernel
theorem dX6_paint_131 : decode cX6_paint 131 = .ok (.iload 8, 2) := by decide +kernel
theorem dX6_paint_133 : decode cX6_paint 133 = .ok (.isub, 1) := by decide +kernel
theorem dX6_paint_134 : decode cX6_paint 134 = .ok (.iastore, 1) := by decide +kernel
theorem dX6_paint_135 : decode cX6_paint 135 = .ok (.aload_n 0, 1) := by decide +kernel
theorem dX6_paint_136 : decode cX6_paint 136 = .ok (.getfield 7, 3) := by decide +kernel
theorem dX6_paint_139 : decode cX6_paint 139 = .ok (.sipush 180, 3) := by decide +kernel
theorem dX6_paint_142 : decode cX6_paint 142 = .ok (.iload 6, 2) := by decide +kernel
theorem dX6_paint_144 : decode cX6_paint 144 = .ok (.iadd, 1) := by decide +kernel
theorem dX6_paint_145 : decode cX6_paint 145 = .ok (.iaload, 1) := by decide +kernel
theorem dX6_paint_146 : decode cX6_paint 146 = .ok (.ireturn, 1) := by decide +kernel
theorem dX6_correct_0 : decode cX6_correct 0 = .ok (.iload_n 2, 1) := by decide +kernel
theorem dX6_correct_1 : decode cX6_correct 1 = .ok (.iconst 0, 1) := by decide +kernel
theorem dX6_correct_2 : decode cX6_correct 2 = .ok (.iconst 3, 1) := by decide +kernel
theorem dX6_correct_3 : decode cX6_correct 3 = .ok (.invokestatic 75, 3) := by decide +kernel
theorem dX6_correct_6 : decode cX6_correct 6 = .ok (.ifCond .ne 6, 3) := by decide +kernel
theorem dX6_correct_9 : decode cX6_correct 9 = .ok (.ldc 78, 2) := by decide +kernel
theorem dX6_correct_11 : decode cX6_correct 11 = .ok (.ireturn, 1) := by decide +kernel
theorem dX6_correct_12 : decode cX6_correct 12 = .ok (.iload_n 3, 1) := by decide +kernel
theorem dX6_correct_13 : decode cX6_correct 13 = .ok (.iconst 1, 1) := by decide +kernel
theorem dX6_correct_14 : decode cX6_correct 14 = .ok (.sipush 200, 3) := by decide +kernel
theorem dX6_correct_17 : decode cX6_correct 17 = .ok (.invokestatic 75, 3) := by decide +kernel
theorem dX6_correct_20 : decode cX6_correct 20 = .ok (.ifCond .ne 6, 3) := by decide +kernel
theorem dX6_correct_23 : decode cX6_correct 23 = .ok (.ldc 79, 2) := by decide +kernel
theorem dX6_correct_25 : decode cX6_correct 25 = .ok (.ireturn, 1) := by decide +kernel
theorem dX6_correct_26 : decode cX6_correct 26 = .ok (.iload_n 1, 1) := by decide +kernel
theorem dX6_correct_27 : decode cX6_correct 27 = .ok (.iload_n 2, 1) := by decide +kernel
theorem dX6_correct_28 : decode cX6_correct 28 = .ok (.invokestatic 84, 3) := by decide +kernel
theorem dX6_correct_31 : decode cX6_correct 31 = .ok (.istore 4, 2) := by decide +kernel
theorem dX6_correct_33 : decode cX6_correct 33 = .ok (.iload_n 3, 1) := by decide +kernel
theorem dX6_correct_34 : decode cX6_correct 34 = .ok (.aload_n 0, 1) := by decide +kernel
theorem dX6_correct_35 : decode cX6_correct 35 = .ok (.getfield 7, 3) := by decide +kernel
theorem dX6_correct_38 : decode cX6_correct 38 = .ok (.sipush 180, 3) := by decide +kernel
theorem dX6_correct_41 : decode cX6_correct 41 = .ok (.iload 4, 2) := by decide +kernel
theorem dX6_correct_43 : decode cX6_correct 43 = .ok (.iadd, 1) := by decide +kernel
theorem dX6_correct_44 : decode cX6_correct 44 = .ok (.iaload, 1) := by decide +kernel
theorem dX6_correct_45 : decode cX6_correct 45 = .ok (.if_icmp .ge 7, 3) := by decide +kernel
theorem dX6_correct_48 : decode cX6_correct 48 = .ok (.iload_n 3, 1) := by decide +kernel
theorem dX6_correct_49 : decode cX6_correct 49 = .ok (.goto 14, 3) := by decide +kernel
theorem dX6_correct_52 : decode cX6_correct 52 = .ok (.aload_n 0, 1) := by decide +kernel
theorem dX6_correct_53 : decode cX6_correct 53 = .ok (.getfield 7, 3) := by decide +kernel
theorem dX6_correct_56 : decode cX6_correct 56 = .ok (.sipush 180, 3) := by decide +kernel
theorem dX6_correct_59 : decode cX6_correct 59 = .ok (.iload 4, 2) := by decide +kernel
theorem dX6_correct_61 : decode cX6_correct 61 = .ok (.iadd, 1) := by decide +kernel
theorem dX6_correct_62 : decode cX6_correct 62 = .ok (.iaload, 1) := by decide +kernel
theorem dX6_correct_63 : decode cX6_correct 63 = .ok (.istore 5, 2) := by decide +kernel
theorem dX6_correct_65 : decode cX6_correct 65 = .ok (.aload_n 0, 1) := by decide +kernel
theorem dX6_correct_66 : decode cX6_correct 66 = .ok (.iload 4, 2) := by decide +kernel
theorem dX6_correct_68 : decode cX6_correct 68 = .ok (.invokevirtual 61, 3) := by decide +kernel
theorem dX6_correct_71 : decode cX6_correct 71 = .ok (.istore 6, 2) := by decide +kernel
theorem dX6_correct_73 : decode cX6_correct 73 = .ok (.iload 5, 2) := by decide +kernel
theorem dX6_correct_75 : decode cX6_correct 75 = .ok (.iload 6, 2) := by decide +kernel
theorem dX6_correct_77 : decode cX6_correct 77 = .ok (.if_icmp .ge 8, 3) := by decide +kernel
theorem dX6_correct_80 : decode cX6_correct 80 = .ok (.iload 5, 2) := by decide +kernel
theorem dX6_correct_82 : decode cX6_correct 82 = .ok (.goto 5, 3) := by decide +kernel
theorem dX6_correct_85 : decode cX6_correct 85 = .ok (.iload 6, 2) := by decide +kernel
theorem dX6_correct_87 : decode cX6_correct 87 = .ok (.istore 7, 2) := by decide +kernel
theorem dX6_correct_89 : decode cX6_correct 89 = .ok (.iload 7, 2) := by decide +kernel
theorem dX6_correct_91 : decode cX6_correct 91 = .ok (.ifCond .ne 6, 3) := by decide +kernel
theorem dX6_correct_94 : decode cX6_correct 94 = .ok (.ldc 80, 2) := by decide +kernel
theorem dX6_correct_96 : decode cX6_correct 96 = .ok (.ireturn, 1) := by decide +kernel
theorem dX6_correct_97 : decode cX6_correct 97 = .ok (.aload_n 0, 1) := by decide +kernel
theorem dX6_correct_98 : decode cX6_correct 98 = .ok (.invokevirtual 81, 3) := by decide +kernel
theorem dX6_correct_101 : decode cX6_correct 101 = .ok (.iconst 0, 1) := by decide +kernel
theorem dX6_correct_102 : decode cX6_correct 102 = .ok (.istore 8, 2) := by decide +kernel
theorem dX6_correct_104 : decode cX6_correct 104 = .ok (.iload 8, 2) := by decide +kernel
theorem dX6_correct_106 : decode cX6_correct 106 = .ok (.iload 7, 2) := by decide +kernel
theorem dX6_correct_108 : decode cX6_correct 108 = .ok (.if_icmp .ge 68, 3) := by decide +kernel
theorem dX6_correct_111 : decode cX6_correct 111 = .ok (.aload_n 0, 1) := by decide +kernel
theorem dX6_correct_112 : decode cX6_correct 112 = .ok (.iload 4, 2) := by decide +kernel
theorem dX6_correct_114 : decode cX6_correct 114 = .ok (.invokevirtual 89, 3) := by decide +kernel
theorem dX6_correct_117 : decode cX6_correct 117 = .ok (.istore 9, 2) := by decide +kernel
theorem dX6_correct_119 : decode cX6_correct 119 = .ok (.iload 4, 2) := by decide +kernel
theorem dX6_correct_121 : decode cX6_correct 121 = .ok (.aload_n 0, 1) := by decide +kernel
theorem dX6_correct_122 : decode cX6_correct 122 = .ok (.getfield 50, 3) := by decide +kernel
theorem dX6_correct_125 : decode cX6_correct 125 = .ok (.invokestatic 37, 3) := by decide +kernel
theorem dX6_correct_128 : decode cX6_correct 128 = .ok (.istore 10, 2) := by decide +kernel
theorem dX6_correct_130 : decode cX6_correct 130 = .ok (.aload_n 0, 1) := by decide +kernel
theorem dX6_correct_131 : decode cX6_correct 131 = .ok (.getfield 7, 3) := by decide +kernel
theorem dX6_correct_134 : decode cX6_correct 134 = .ok (.iload 10, 2) := by decide +kernel
theorem dX6_correct_136 : decode cX6_correct 136 = .ok (.dup2, 1) := by decide +kernel
theorem dX6_correct_137 : decode cX6_correct 137 = .ok (.iaload, 1) := by decide +kernel
theorem dX6_correct_138 : decode cX6_correct 138 = .ok (.iload 9, 2) := by decide +kernel
theorem dX6_correct_140 : decode cX6_correct 140 = .ok (.ifCond .le 27, 3) := by decide +kernel
theorem dX6_correct_143 : decode cX6_correct 143 = .ok (.aload_n 0, 1) := by decide +kernel
theorem dX6_correct_144 : decode cX6_correct 144 = .ok (.getfield 7, 3) := by decide +kernel
theorem dX6_correct_147 : decode cX6_correct 147 = .ok (.iload 10, 2) := by decide +kernel
theorem dX6_correct_149 : decode cX6_correct 149 = .ok (.iaload, 1) := by decide +kernel
theorem dX6_correct_150 : decode cX6_correct 150 = .ok (.aload_n 0, 1) := by decide +kernel
theorem dX6_correct_151 : decode cX6_correct 151 = .ok (.iload 4, 2) := by decide +kernel
theorem dX6_correct_153 : decode cX6_correct 153 = .ok (.aload_n 0, 1) := by decide +kernel
theorem dX6_correct_154 : decode cX6_correct 154 = .ok (.getfield 50, 3) := by decide +kernel
theorem dX6_correct_157 : decode cX6_correct 157 = .ok (.invokevirtual 41, 3) := by decide +kernel
theorem dX6_correct_160 : decode cX6_correct 160 = .ok (.if_icmp .ge 7, 3) := by decide +kernel
theorem dX6_correct_163 : decode cX6_correct 163 = .ok (.iconst 1, 1) := by decide +kernel
theorem dX6_correct_164 : decode cX6_correct 164 = .ok (.goto 4, 3) := by decide +kernel
theorem dX6_correct_167 : decode cX6_correct 167 = .ok (.iconst (-1), 1) := by decide +kernel
theorem dX6_correct_168 : decode cX6_correct 168 = .ok (.iadd, 1) := by decide +kernel
theorem dX6_correct_169 : decode cX6_correct 169 = .ok (.iastore, 1) := by decide +kernel
theorem dX6_correct_170 : decode cX6_correct 170 = .ok (.iinc 8 1, 3) := by decide +kernel
theorem dX6_correct_173 : decode cX6_correct 173 = .ok (.goto (-69), 3) := by decide +kernel
theorem dX6_correct_176 : decode cX6_correct 176 = .ok (.aload_n 0, 1) := by decide +kernel
theorem dX6_correct_177 : decode cX6_correct 177 = .ok (.getfield 7, 3) := by decide +kernel
theorem dX6_correct_180 : decode cX6_correct 180 = .ok (.sipush 180, 3) := by decide +kernel
theorem dX6_correct_183 : decode cX6_correct 183 = .ok (.iload 4, 2) := by decide +kernel
theorem dX6_correct_185 : decode cX6_correct 185 = .ok (.iadd, 1) := by decide +kernel
theorem dX6_correct_186 : decode cX6_correct 186 = .ok (.dup2, 1) := by decide +kernel
theorem dX6_correct_187 : decode cX6_correct 187 = .ok (.iaload, 1) := by decide +kernel
theorem dX6_correct_188 : decode cX6_correct 188 = .ok (.iload 7, 2) := by decide +kernel
theorem dX6_correct_190 : decode cX6_correct 190 = .ok (.isub, 1) := by decide +kernel
theorem dX6_correct_191 : decode cX6_correct 191 = .ok (.iastore, 1) := by decide +kernel
theorem dX6_correct_192 : decode cX6_correct 192 = .ok (.iload 7, 2) := by decide +kernel
theorem dX6_correct_194 : decode cX6_correct 194 = .ok (.ireturn, 1) := by decide +kernel
theorem dX6_copy_0 : decode cX6_copy 0 = .ok (.iload_n 2, 1) := by decide +kernel
theorem dX6_copy_1 : decode cX6_copy 1 = .ok (.iconst 0, 1) := by decide +kernel
theorem dX6_copy_2 : decode cX6_copy 2 = .ok (.iconst 3, 1) := by decide +kernel
theorem dX6_copy_3 : decode cX6_copy 3 = .ok (.invokestatic 75, 3) := by decide +kernel
theorem dX6_copy_6 : decode cX6_copy 6 = .ok (.ifCond .eq 12, 3) := by decide +kernel
theorem dX6_copy_9 : decode cX6_copy 9 = .ok (.iload_n 3, 1) := by decide +kernel
theorem dX6_copy_10 : decode cX6_copy 10 = .ok (.iconst 0, 1) := by decide +kernel
theorem dX6_copy_11 : decode cX6_copy 11 = .ok (.iconst 3, 1) := by decide +kernel
theorem dX6_copy_12 : decode cX6_copy 12 = .ok (.invokestatic 75, 3) := by decide +kernel
theorem dX6_copy_15 : decode cX6_copy 15 = .ok (.ifCond .ne 6, 3) := by decide +kernel
theorem dX6_copy_18 : decode cX6_copy 18 = .ok (.ldc 78, 2) := by decide +kernel
theorem dX6_copy_20 : decode cX6_copy 20 = .ok (.ireturn, 1) := by decide +kernel
theorem dX6_copy_21 : decode cX6_copy 21 = .ok (.iload_n 1, 1) := by decide +kernel
theorem dX6_copy_22 : decode cX6_copy 22 = .ok (.iload_n 2, 1) := by decide +kernel
theorem dX6_copy_23 : decode cX6_copy 23 = .ok (.invokestatic 84, 3) := by decide +kernel
theorem dX6_copy_26 : decode cX6_copy 26 = .ok (.istore 4, 2) := by decide +kernel
theorem dX6_copy_28 : decode cX6_copy 28 = .ok (.iload_n 1, 1) := by decide +kernel
theorem dX6_copy_29 : decode cX6_copy 29 = .ok (.iload_n 3, 1) := by decide +kernel
theorem dX6_copy_30 : decode cX6_copy 30 = .ok (.invokestatic 84, 3) := by decide +kernel
theorem dX6_copy_33 : decode cX6_copy 33 = .ok (.istore 5, 2) := by decide +kernel
theorem dX6_copy_35 : decode cX6_copy 35 = .ok (.iconst 0, 1) := by decide +kernel
theorem dX6_copy_36 : decode cX6_copy 36 = .ok (.istore 6, 2) := by decide +kernel
theorem dX6_copy_38 : decode cX6_copy 38 = .ok (.iconst 0, 1) := by decide +kernel
theorem dX6_copy_39 : decode cX6_copy 39 = .ok (.istore 7, 2) := by decide +kernel
theorem dX6_copy_41 : decode cX6_copy 41 = .ok (.iconst 0, 1) := by decide +kernel
theorem dX6_copy_42 : decode cX6_copy 42 = .ok (.istore 8, 2) := by decide +kernel
theorem dX6_copy_44 : decode cX6_copy 44 = .ok (.iload 8, 2) := by decide +kernel
theorem dX6_copy_46 : decode cX6_copy 46 = .ok (.bipush 18, 2) := by decide +kernel
theorem dX6_copy_48 : decode cX6_copy 48 = .ok (.if_icmp .ge 60, 3) := by decide +kernel
theorem dX6_copy_51 : decode cX6_copy 51 = .ok (.aload_n 0, 1) := by decide +kernel
theorem dX6_copy_52 : decode cX6_copy 52 = .ok (.getfield 7, 3) := by decide +kernel
theorem dX6_copy_55 : decode cX6_copy 55 = .ok (.iload 4, 2) := by decide +kernel
theorem dX6_copy_57 : decode cX6_copy 57 = .ok (.iload 8, 2) := by decide +kernel
theorem dX6_copy_59 : decode cX6_copy 59 = .ok (.invokestatic 37, 3) := by decide +kernel
theorem dX6_copy_62 : decode cX6_copy 62 = .ok (.iaload, 1) := by decide +kernel
theorem dX6_copy_63 : decode cX6_copy 63 = .ok (.aload_n 0, 1) := by decide +kernel
theorem dX6_copy_64 : decode cX6_copy 64 = .ok (.getfield 7, 3) := by decide +kernel
theorem dX6_copy_67 : decode cX6_copy 67 = .ok (.iload 5, 2) := by decide +kernel
theorem dX6_copy_69 : decode cX6_copy 69 = .ok (.iload 8, 2) := by decide +kernel
theorem dX6_copy_71 : decode cX6_copy 71 = .ok (.invokestatic 37, 3) := by decide +kernel
theorem dX6_copy_74 : decode cX6_copy 74 = .ok (.iaload, 1) := by decide +kernel
theorem dX6_copy_75 : decode cX6_copy 75 = .ok (.invokestatic 44, 3) := by decide +kernel
theorem dX6_copy_78 : decode cX6_copy 78 = .ok (.istore 9, 2) := by decide +kernel
theorem dX6_copy_80 : decode cX6_copy 80 = .ok (.iload 6, 2) := by decide +kernel
theorem dX6_copy_82 : decode cX6_copy 82 = .ok (.iload 9, 2) := by decide +kernel
theorem dX6_copy_84 : decode cX6_copy 84 = .ok (.iadd, 1) := by decide +kernel
theorem dX6_copy_85 : decode cX6_copy 85 = .ok (.istore 6, 2) := by decide +kernel
theorem dX6_copy_87 : decode cX6_copy 87 = .ok (.iload 7, 2) := by decide +kernel
theorem dX6_copy_89 : decode cX6_copy 89 = .ok (.iload 9, 2) := by decide +kernel
theorem dX6_copy_91 : decode cX6_copy 91 = .ok (.ifCond .le 7, 3) := by decide +kernel
theorem dX6_copy_94 : decode cX6_copy 94 = .ok (.iconst 1, 1) := by decide +kernel
theorem dX6_copy_95 : decode cX6_copy 95 = .ok (.goto 4, 3) := by decide +kernel
theorem dX6_copy_98 : decode cX6_copy 98 = .ok (.iconst 0, 1) := by decide +kernel
theorem dX6_copy_99 : decode cX6_copy 99 = .ok (.iadd, 1) := by decide +kernel
theorem dX6_copy_100 : decode cX6_copy 100 = .ok (.istore 7, 2) := by decide +kernel
theorem dX6_copy_102 : decode cX6_copy 102 = .ok (.iinc 8 1, 3) := by decide +kernel
theorem dX6_copy_105 : decode cX6_copy 105 = .ok (.goto (-61), 3) := by decide +kernel
theorem dX6_copy_108 : decode cX6_copy 108 = .ok (.iload 6, 2) := by decide +kernel
theorem dX6_copy_110 : decode cX6_copy 110 = .ok (.aload_n 0, 1) := by decide +kernel
theorem dX6_copy_111 : decode cX6_copy 111 = .ok (.getfield 7, 3) := by decide +kernel
theorem dX6_copy_114 : decode cX6_copy 114 = .ok (.sipush 180, 3) := by decide +kernel
theorem dX6_copy_117 : decode cX6_copy 117 = .ok (.iload 4, 2) := by decide +kernel
theorem dX6_copy_119 : decode cX6_copy 119 = .ok (.iadd, 1) := by decide +kernel
theorem dX6_copy_120 : decode cX6_copy 120 = .ok (.iaload, 1) := by decide +kernel
theorem dX6_copy_121 : decode cX6_copy 121 = .ok (.if_icmp .le 6, 3) := by decide +kernel
theorem dX6_copy_124 : decode cX6_copy 124 = .ok (.ldc 88, 2) := by decide +kernel
theorem dX6_copy_126 : decode cX6_copy 126 = .ok (.ireturn, 1) := by decide +kernel
theorem dX6_copy_127 : decode cX6_copy 127 = .ok (.iload 7, 2) := by decide +kernel
theorem dX6_copy_129 : decode cX6_copy 129 = .ok (.ifCond .ne 6, 3) := by decide +kernel
theorem dX6_copy_132 : decode cX6_copy 132 = .ok (.ldc 80, 2) := by decide +kernel
theorem dX6_copy_134 : decode cX6_copy 134 = .ok (.ireturn, 1) := by decide +kernel
theorem dX6_copy_135 : decode cX6_copy 135 = .ok (.aload_n 0, 1) := by decide +kernel
theorem dX6_copy_136 : decode cX6_copy 136 = .ok (.invokevirtual 81, 3) := by decide +kernel
theorem dX6_copy_139 : decode cX6_copy 139 = .ok (.iconst 0, 1) := by decide +kernel
theorem dX6_copy_140 : decode cX6_copy 140 = .ok (.istore 8, 2) := by decide +kernel
theorem dX6_copy_142 : decode cX6_copy 142 = .ok (.iload 8, 2) := by decide +kernel
theorem dX6_copy_144 : decode cX6_copy 144 = .ok (.bipush 18, 2) := by decide +kernel
theorem dX6_copy_146 : decode cX6_copy 146 = .ok (.if_icmp .ge 33, 3) := by decide +kernel
theorem dX6_copy_149 : decode cX6_copy 149 = .ok (.aload_n 0, 1) := by decide +kernel
theorem dX6_copy_150 : decode cX6_copy 150 = .ok (.getfield 7, 3) := by decide +kernel
theorem dX6_copy_153 : decode cX6_copy 153 = .ok (.iload 4, 2) := by decide +kernel
theorem dX6_copy_155 : decode cX6_copy 155 = .ok (.iload 8, 2) := by decide +kernel
theorem dX6_copy_157 : decode cX6_copy 157 = .ok (.invokestatic 37, 3) := by decide +kernel
theorem dX6_copy_160 : decode cX6_copy 160 = .ok (.aload_n 0, 1) := by decide +kernel
theorem dX6_copy_161 : decode cX6_copy 161 = .ok (.getfield 7, 3) := by decide +kernel
theorem dX6_copy_164 : decode cX6_copy 164 = .ok (.iload 5, 2) := by decide +kernel
theorem dX6_copy_166 : decode cX6_copy 166 = .ok (.iload 8, 2) := by decide +kernel
theorem dX6_copy_168 : decode cX6_copy 168 = .ok (.invokestatic 37, 3) := by decide +kernel
theorem dX6_copy_171 : decode cX6_copy 171 = .ok (.iaload, 1) := by decide +kernel
theorem dX6_copy_172 : decode cX6_copy 172 = .ok (.iastore, 1) := by decide +kernel
theorem dX6_copy_173 : decode cX6_copy 173 = .ok (.iinc 8 1, 3) := by decide +kernel
theorem dX6_copy_176 : decode cX6_copy 176 = .ok (.goto (-34), 3) := by decide +kernel
theorem dX6_copy_179 : decode cX6_copy 179 = .ok (.aload_n 0, 1) := by decide +kernel
theorem dX6_copy_180 : decode cX6_copy 180 = .ok (.getfield 7, 3) := by decide +kernel
theorem dX6_copy_183 : decode cX6_copy 183 = .ok (.sipush 180, 3) := by decide +kernel
theorem dX6_copy_186 : decode cX6_copy 186 = .ok (.iload 4, 2) := by decide +kernel
theorem dX6_copy_188 : decode cX6_copy 188 = .ok (.iadd, 1) := by decide +kernel
theorem dX6_copy_189 : decode cX6_copy 189 = .ok (.dup2, 1) := by decide +kernel
theorem dX6_copy_190 : decode cX6_copy 190 = .ok (.iaload, 1) := by decide +kernel
theorem dX6_copy_191 : decode cX6_copy 191 = .ok (.iload 6, 2) := by decide +kernel
theorem dX6_copy_193 : decode cX6_copy 193 = .ok (.isub, 1) := by decide +kernel
theorem dX6_copy_194 : decode cX6_copy 194 = .ok (.iastore, 1) := by decide +kernel
theorem dX6_copy_195 : decode cX6_copy 195 = .ok (.iload 7, 2) := by decide +kernel
theorem dX6_copy_197 : decode cX6_copy 197 = .ok (.ireturn, 1) := by decide +kernel
theorem dX6_hour_0 : decode cX6_hour 0 = .ok (.aload_n 0, 1) := by decide +kernel
theorem dX6_hour_1 : decode cX6_hour 1 = .ok (.invokevirtual 81, 3) := by decide +kernel
theorem dX6_hour_4 : decode cX6_hour 4 = .ok (.iconst 0, 1) := by decide +kernel
theorem dX6_hour_5 : decode cX6_hour 5 = .ok (.istore_n 1, 1) := by decide +kernel
theorem dX6_hour_6 : decode cX6_hour 6 = .ok (.iconst 0, 1) := by decide +kernel
theorem dX6_hour_7 : decode cX6_hour 7 = .ok (.istore_n 2, 1) := by decide +kernel
theorem dX6_hour_8 : decode cX6_hour 8 = .ok (.iload_n 2, 1) := by decide +kernel
theorem dX6_hour_9 : decode cX6_hour 9 = .ok (.bipush 8, 2) := by decide +kernel
theorem dX6_hour_11 : decode cX6_hour 11 = .ok (.if_icmp .ge 40, 3) := by decide +kernel
theorem dX6_hour_14 : decode cX6_hour 14 = .ok (.iload_n 1, 1) := by decide +kernel
theorem dX6_hour_15 : decode cX6_hour 15 = .ok (.aload_n 0, 1) := by decide +kernel
theorem dX6_hour_16 : decode cX6_hour 16 = .ok (.getfield 7, 3) := by decide +kernel
theorem dX6_hour_19 : decode cX6_hour 19 = .ok (.sipush 180, 3) := by decide +kernel
theorem dX6_hour_22 : decode cX6_hour 22 = .ok (.iload_n 2, 1) := by decide +kernel
theorem dX6_hour_23 : decode cX6_hour 23 = .ok (.iadd, 1) := by decide +kernel
theorem dX6_hour_24 : decode cX6_hour 24 = .ok (.iaload, 1) := by decide +kernel
theorem dX6_hour_25 : decode cX6_hour 25 = .ok (.iadd, 1) := by decide +kernel
theorem dX6_hour_26 : decode cX6_hour 26 = .ok (.istore_n 1, 1) := by decide +kernel
theorem dX6_hour_27 : decode cX6_hour 27 = .ok (.aload_n 0, 1) := by decide +kernel
theorem dX6_hour_28 : decode cX6_hour 28 = .ok (.getfield 7, 3) := by decide +kernel
theorem dX6_hour_31 : decode cX6_hour 31 = .ok (.sipush 180, 3) := by decide +kernel
theorem dX6_hour_34 : decode cX6_hour 34 = .ok (.iload_n 2, 1) := by decide +kernel
theorem dX6_hour_35 : decode cX6_hour 35 = .ok (.iadd, 1) := by decide +kernel
theorem dX6_hour_36 : decode cX6_hour 36 = .ok (.aload_n 0, 1) := by decide +kernel
theorem dX6_hour_37 : decode cX6_hour 37 = .ok (.getfield 7, 3) := by decide +kernel
theorem dX6_hour_40 : decode cX6_hour 40 = .ok (.sipush 201, 3) := by decide +kernel
theorem dX6_hour_43 : decode cX6_hour 43 = .ok (.iaload, 1) := by decide +kernel
theorem dX6_hour_44 : decode cX6_hour 44 = .ok (.iastore, 1) := by decide +kernel
theorem dX6_hour_45 : decode cX6_hour 45 = .ok (.iinc 2 1, 3) := by decide +kernel
theorem dX6_hour_48 : decode cX6_hour 48 = .ok (.goto (-40), 3) := by decide +kernel
theorem dX6_hour_51 : decode cX6_hour 51 = .ok (.aload_n 0, 1) := by decide +kernel
theorem dX6_hour_52 : decode cX6_hour 52 = .ok (.getfield 7, 3) := by decide +kernel
theorem dX6_hour_55 : decode cX6_hour 55 = .ok (.sipush 202, 3) := by decide +kernel
theorem dX6_hour_58 : decode cX6_hour 58 = .ok (.dup2, 1) := by decide +kernel
theorem dX6_hour_59 : decode cX6_hour 59 = .ok (.iaload, 1) := by decide +kernel
theorem dX6_hour_60 : decode cX6_hour 60 = .ok (.iconst 1, 1) := by decide +kernel
theorem dX6_hour_61 : decode cX6_hour 61 = .ok (.iadd, 1) := by decide +kernel
theorem dX6_hour_62 : decode cX6_hour 62 = .ok (.iastore, 1) := by decide +kernel
theorem dX6_hour_63 : decode cX6_hour 63 = .ok (.iload_n 1, 1) := by decide +kernel
theorem dX6_hour_64 : decode cX6_hour 64 = .ok (.ireturn, 1) := by decide +kernel
theorem dX6_digit_0 : decode cX6_digit 0 = .ok (.aload_n 0, 1) := by decide +kernel
theorem dX6_digit_1 : decode cX6_digit 1 = .ok (.aload_n 0, 1) := by decide +kernel
theorem dX6_digit_2 : decode cX6_digit 2 = .ok (.getfield 92, 3) := by decide +kernel
theorem dX6_digit_5 : decode cX6_digit 5 = .ok (.ifCond .eq 39, 3) := by decide +kernel
theorem dX6_digit_8 : decode cX6_digit 8 = .ok (.aload_n 0, 1) := by decide +kernel
theorem dX6_digit_9 : decode cX6_digit 9 = .ok (.getfield 96, 3) := by decide +kernel
theorem dX6_digit_12 : decode cX6_digit 12 = .ok (.aload_n 0, 1) := by decide +kernel
theorem dX6_digit_13 : decode cX6_digit 13 = .ok (.getfield 99, 3) := by decide +kernel
theorem dX6_digit_16 : decode cX6_digit 16 = .ok (.if_icmp .ge 28, 3) := by decide +kernel
theorem dX6_digit_19 : decode cX6_digit 19 = .ok (.aload_n 0, 1) := by decide +kernel
theorem dX6_digit_20 : decode cX6_digit 20 = .ok (.getfield 13, 3) := by decide +kernel
theorem dX6_digit_23 : decode cX6_digit 23 = .ok (.aload_n 0, 1) := by decide +kernel
theorem dX6_digit_24 : decode cX6_digit 24 = .ok (.getfield 96, 3) := by decide +kernel
theorem dX6_digit_27 : decode cX6_digit 27 = .ok (.caload, 1) := by decide +kernel
theorem dX6_digit_28 : decode cX6_digit 28 = .ok (.bipush 48, 2) := by decide +kernel
theorem dX6_digit_30 : decode cX6_digit 30 = .ok (.bipush 48, 2) := by decide +kernel
theorem dX6_digit_32 : decode cX6_digit 32 = .ok (.iload_n 1, 1) := by decide +kernel
theorem dX6_digit_33 : decode cX6_digit 33 = .ok (.iadd, 1) := by decide +kernel
theorem dX6_digit_34 : decode cX6_digit 34 = .ok (.invokestatic 75, 3) := by decide +kernel
theorem dX6_digit_37 : decode cX6_digit 37 = .ok (.ifCond .eq 7, 3) := by decide +kernel
theorem dX6_digit_40 : decode cX6_digit 40 = .ok (.iconst 1, 1) := by decide +kernel
theorem dX6_digit_41 : decode cX6_digit 41 = .ok (.goto 4, 3) := by decide +kernel
theorem dX6_digit_44 : decode cX6_digit 44 = .ok (.iconst 0, 1) := by decide +kernel
theorem dX6_digit_45 : decode cX6_digit 45 = .ok (.putfield 92, 3) := by decide +kernel
theorem dX6_digit_48 : decode cX6_digit 48 = .ok (.aload_n 0, 1) := by decide +kernel
theorem dX6_digit_49 : decode cX6_digit 49 = .ok (.dup, 1) := by decide +kernel
theorem dX6_digit_50 : decode cX6_digit 50 = .ok (.getfield 96, 3) := by decide +kernel
theorem dX6_digit_53 : decode cX6_digit 53 = .ok (.aload_n 0, 1) := by decide +kernel
theorem dX6_digit_54 : decode cX6_digit 54 = .ok (.getfield 92, 3) := by decide +kernel
theorem dX6_digit_57 : decode cX6_digit 57 = .ok (.ifCond .eq 7, 3) := by decide +kernel
theorem dX6_digit_60 : decode cX6_digit 60 = .ok (.iconst 1, 1) := by decide +kernel
theorem dX6_digit_61 : decode cX6_digit 61 = .ok (.goto 4, 3) := by decide +kernel
theorem dX6_digit_64 : decode cX6_digit 64 = .ok (.iconst 0, 1) := by decide +kernel
theorem dX6_digit_65 : decode cX6_digit 65 = .ok (.iadd, 1) := by decide +kernel
theorem dX6_digit_66 : decode cX6_digit 66 = .ok (.putfield 96, 3) := by decide +kernel
theorem dX6_digit_69 : decode cX6_digit 69 = .ok (.aload_n 0, 1) := by decide +kernel
theorem dX6_digit_70 : decode cX6_digit 70 = .ok (.getfield 92, 3) := by decide +kernel
theorem dX6_digit_73 : decode cX6_digit 73 = .ok (.ifCond .eq 20, 3) := by decide +kernel
theorem dX6_digit_76 : decode cX6_digit 76 = .ok (.aload_n 0, 1) := by decide +kernel
theorem dX6_digit_77 : decode cX6_digit 77 = .ok (.getfield 13, 3) := by decide +kernel
theorem dX6_digit_80 : decode cX6_digit 80 = .ok (.aload_n 0, 1) := by decide +kernel
theorem dX6_digit_81 : decode cX6_digit 81 = .ok (.getfield 96, 3) := by decide +kernel
theorem dX6_digit_84 : decode cX6_digit 84 = .ok (.iconst 1, 1) := by decide +kernel
theorem dX6_digit_85 : decode cX6_digit 85 = .ok (.isub, 1) := by decide +kernel
theorem dX6_digit_86 : decode cX6_digit 86 = .ok (.caload, 1) := by decide +kernel
theorem dX6_digit_87 : decode cX6_digit 87 = .ok (.bipush 48, 2) := by decide +kernel
theorem dX6_digit_89 : decode cX6_digit 89 = .ok (.isub, 1) := by decide +kernel
theorem dX6_digit_90 : decode cX6_digit 90 = .ok (.goto 4, 3) := by decide +kernel
theorem dX6_digit_93 : decode cX6_digit 93 = .ok (.iconst 0, 1) := by decide +kernel
theorem dX6_digit_94 : decode cX6_digit 94 = .ok (.ireturn, 1) := by decide +kernel
theorem dX6_takes_0 : decode cX6_takes 0 = .ok (.aload_n 0, 1) := by decide +kernel
theorem dX6_takes_1 : decode cX6_takes 1 = .ok (.aload_n 0, 1) := by decide +kernel
theorem dX6_takes_2 : decode cX6_takes 2 = .ok (.getfield 92, 3) := by decide +kernel
theorem dX6_takes_5 : decode cX6_takes 5 = .ok (.ifCond .eq 31, 3) := by decide +kernel
theorem dX6_takes_8 : decode cX6_takes 8 = .ok (.aload_n 0, 1) := by decide +kernel
theorem dX6_takes_9 : decode cX6_takes 9 = .ok (.getfield 96, 3) := by decide +kernel
theorem dX6_takes_12 : decode cX6_takes 12 = .ok (.aload_n 0, 1) := by decide +kernel
theorem dX6_takes_13 : decode cX6_takes 13 = .ok (.getfield 99, 3) := by decide +kernel
theorem dX6_takes_16 : decode cX6_takes 16 = .ok (.if_icmp .ge 20, 3) := by decide +kernel
theorem dX6_takes_19 : decode cX6_takes 19 = .ok (.aload_n 0, 1) := by decide +kernel
theorem dX6_takes_20 : decode cX6_takes 20 = .ok (.getfield 13, 3) := by decide +kernel
theorem dX6_takes_23 : decode cX6_takes 23 = .ok (.aload_n 0, 1) := by decide +kernel
theorem dX6_takes_24 : decode cX6_takes 24 = .ok (.getfield 96, 3) := by decide +kernel
theorem dX6_takes_27 : decode cX6_takes 27 = .ok (.caload, 1) := by decide +kernel
theorem dX6_takes_28 : decode cX6_takes 28 = .ok (.iload_n 1, 1) := by decide +kernel
theorem dX6_takes_29 : decode cX6_takes 29 = .ok (.if_icmp .ne 7, 3) := by decide +kernel
theorem dX6_takes_32 : decode cX6_takes 32 = .ok (.iconst 1, 1) := by decide +kernel
theorem dX6_takes_33 : decode cX6_takes 33 = .ok (.goto 4, 3) := by decide +kernel
theorem dX6_takes_36 : decode cX6_takes 36 = .ok (.iconst 0, 1) := by decide +kernel
theorem dX6_takes_37 : decode cX6_takes 37 = .ok (.putfield 92, 3) := by decide +kernel
theorem dX6_takes_40 : decode cX6_takes 40 = .ok (.aload_n 0, 1) := by decide +kernel
theorem dX6_takes_41 : decode cX6_takes 41 = .ok (.dup, 1) := by decide +kernel
theorem dX6_takes_42 : decode cX6_takes 42 = .ok (.getfield 96, 3) := by decide +kernel
theorem dX6_takes_45 : decode cX6_takes 45 = .ok (.aload_n 0, 1) := by decide +kernel
theorem dX6_takes_46 : decode cX6_takes 46 = .ok (.getfield 92, 3) := by decide +kernel
theorem dX6_takes_49 : decode cX6_takes 49 = .ok (.ifCond .eq 7, 3) := by decide +kernel
theorem dX6_takes_52 : decode cX6_takes 52 = .ok (.iconst 1, 1) := by decide +kernel
theorem dX6_takes_53 : decode cX6_takes 53 = .ok (.goto 4, 3) := by decide +kernel
theorem dX6_takes_56 : decode cX6_takes 56 = .ok (.iconst 0, 1) := by decide +kernel
theorem dX6_takes_57 : decode cX6_takes 57 = .ok (.iadd, 1) := by decide +kernel
theorem dX6_takes_58 : decode cX6_takes 58 = .ok (.putfield 96, 3) := by decide +kernel
theorem dX6_takes_61 : decode cX6_takes 61 = .ok (.return_, 1) := by decide +kernel
theorem dX6_entry_0 : decode cX6_entry 0 = .ok (.aload_n 0, 1) := by decide +kernel
theorem dX6_entry_1 : decode cX6_entry 1 = .ok (.getfield 92, 3) := by decide +kernel
theorem dX6_entry_4 : decode cX6_entry 4 = .ok (.ifCond .eq 26, 3) := by decide +kernel
theorem dX6_entry_7 : decode cX6_entry 7 = .ok (.aload_n 0, 1) := by decide +kernel
theorem dX6_entry_8 : decode cX6_entry 8 = .ok (.getfield 96, 3) := by decide +kernel
theorem dX6_entry_11 : decode cX6_entry 11 = .ok (.aload_n 0, 1) := by decide +kernel
theorem dX6_entry_12 : decode cX6_entry 12 = .ok (.getfield 99, 3) := by decide +kernel
theorem dX6_entry_15 : decode cX6_entry 15 = .ok (.if_icmp .ge 15, 3) := by decide +kernel
theorem dX6_entry_18 : decode cX6_entry 18 = .ok (.aload_n 0, 1) := by decide +kernel
theorem dX6_entry_19 : decode cX6_entry 19 = .ok (.getfield 13, 3) := by decide +kernel
theorem dX6_entry_22 : decode cX6_entry 22 = .ok (.aload_n 0, 1) := by decide +kernel
theorem dX6_entry_23 : decode cX6_entry 23 = .ok (.getfield 96, 3) := by decide +kernel
theorem dX6_entry_26 : decode cX6_entry 26 = .ok (.caload, 1) := by decide +kernel
theorem dX6_entry_27 : decode cX6_entry 27 = .ok (.goto 4, 3) := by decide +kernel
theorem dX6_entry_30 : decode cX6_entry 30 = .ok (.iconst 0, 1) := by decide +kernel
theorem dX6_entry_31 : decode cX6_entry 31 = .ok (.istore_n 1, 1) := by decide +kernel
theorem dX6_entry_32 : decode cX6_entry 32 = .ok (.iconst 0, 1) := by decide +kernel
theorem dX6_entry_33 : decode cX6_entry 33 = .ok (.istore_n 2, 1) := by decide +kernel
theorem dX6_entry_34 : decode cX6_entry 34 = .ok (.bipush 6, 2) := by decide +kernel
theorem dX6_entry_36 : decode cX6_entry 36 = .ok (.istore_n 3, 1) := by decide +kernel
theorem dX6_entry_37 : decode cX6_entry 37 = .ok (.iload_n 1, 1) := by decide +kernel
theorem dX6_entry_38 : decode cX6_entry 38 = .ok (.bipush 76, 2) := by decide +kernel
theorem dX6_entry_40 : decode cX6_entry 40 = .ok (.if_icmp .eq 9, 3) := by decide +kernel
theorem dX6_entry_43 : decode cX6_entry 43 = .ok (.iload_n 1, 1) := by decide +kernel
theorem dX6_entry_44 : decode cX6_entry 44 = .ok (.bipush 82, 2) := by decide +kernel
theorem dX6_entry_46 : decode cX6_entry 46 = .ok (.if_icmp .ne 52, 3) := by decide +kernel
theorem dX6_entry_49 : decode cX6_entry 49 = .ok (.aload_n 0, 1) := by decide +kernel
theorem dX6_entry_50 : decode cX6_entry 50 = .ok (.dup, 1) := by decide +kernel
theorem dX6_entry_51 : decode cX6_entry 51 = .ok (.getfield 96, 3) := by decide +kernel
theorem dX6_entry_54 : decode cX6_entry 54 = .ok (.iconst 1, 1) := by decide +kernel
theorem dX6_entry_55 : decode cX6_entry 55 = .ok (.iadd, 1) := by decide +kernel
theorem dX6_entry_56 : decode cX6_entry 56 = .ok (.putfield 96, 3) := by decide +kernel
theorem dX6_entry_59 : decode cX6_entry 59 = .ok (.iload_n 1, 1) := by decide +kernel
theorem dX6_entry_60 : decode cX6_entry 60 = .ok (.bipush 82, 2) := by decide +kernel
theorem dX6_entry_62 : decode cX6_entry 62 = .ok (.if_icmp .ne 7, 3) := by decide +kernel
theorem dX6_entry_65 : decode cX6_entry 65 = .ok (.iconst 1, 1) := by decide +kernel
theorem dX6_entry_66 : decode cX6_entry 66 = .ok (.goto 4, 3) := by decide +kernel
theorem dX6_entry_69 : decode cX6_entry 69 = .ok (.iconst 0, 1) := by decide +kernel
theorem dX6_entry_70 : decode cX6_entry 70 = .ok (.aload_n 0, 1) := by decide +kernel
theorem dX6_entry_71 : decode cX6_entry 71 = .ok (.iconst 3, 1) := by decide +kernel
theorem dX6_entry_72 : decode cX6_entry 72 = .ok (.invokevirtual 102, 3) := by decide +kernel
theorem dX6_entry_75 : decode cX6_entry 75 = .ok (.invokestatic 84, 3) := by decide +kernel
theorem dX6_entry_78 : decode cX6_entry 78 = .ok (.istore 4, 2) := by decide +kernel
theorem dX6_entry_80 : decode cX6_entry 80 = .ok (.iload 4, 2) := by decide +kernel
theorem dX6_entry_82 : decode cX6_entry 82 = .ok (.iconst 3, 1) := by decide +kernel
theorem dX6_entry_83 : decode cX6_entry 83 = .ok (.aload_n 0, 1) := by decide +kernel
theorem dX6_entry_84 : decode cX6_entry 84 = .ok (.iconst 5, 1) := by decide +kernel
theorem dX6_entry_85 : decode cX6_entry 85 = .ok (.invokevirtual 102, 3) := by decide +kernel
theorem dX6_entry_88 : decode cX6_entry 88 = .ok (.imul, 1) := by decide +kernel
theorem dX6_entry_89 : decode cX6_entry 89 = .ok (.invokestatic 37, 3) := by decide +kernel
theorem dX6_entry_92 : decode cX6_entry 92 = .ok (.istore_n 2, 1) := by decide +kernel
theorem dX6_entry_93 : decode cX6_entry 93 = .ok (.iconst 3, 1) := by decide +kernel
theorem dX6_entry_94 : decode cX6_entry 94 = .ok (.istore_n 3, 1) := by decide +kernel
theorem dX6_entry_95 : decode cX6_entry 95 = .ok (.goto 12, 3) := by decide +kernel
theorem dX6_entry_98 : decode cX6_entry 98 = .ok (.bipush 6, 2) := by decide +kernel
theorem dX6_entry_100 : decode cX6_entry 100 = .ok (.aload_n 0, 1) := by decide +kernel
theorem dX6_entry_101 : decode cX6_entry 101 = .ok (.iconst 5, 1) := by decide +kernel
theorem dX6_entry_102 : decode cX6_entry 102 = .ok (.invokevirtual 102, 3) := by decide +kernel
theorem dX6_entry_105 : decode cX6_entry 105 = .ok (.imul, 1) := by decide +kernel
theorem dX6_entry_106 : decode cX6_entry 106 = .ok (.istore_n 2, 1) := by decide +kernel
theorem dX6_entry_107 : decode cX6_entry 107 = .ok (.aload_n 0, 1) := by decide +kernel
theorem dX6_entry_108 : decode cX6_entry 108 = .ok (.bipush 58, 2) := by decide +kernel
theorem dX6_entry_110 : decode cX6_entry 110 = .ok (.invokevirtual 105, 3) := by decide +kernel
theorem dX6_entry_113 : decode cX6_entry 113 = .ok (.iconst 0, 1) := by decide +kernel
theorem dX6_entry_114 : decode cX6_entry 114 = .ok (.istore 4, 2) := by decide +kernel
theorem dX6_entry_116 : decode cX6_entry 116 = .ok (.iload 4, 2) := by decide +kernel
theorem dX6_entry_118 : decode cX6_entry 118 = .ok (.iload_n 3, 1) := by decide +kernel
theorem dX6_entry_119 : decode cX6_entry 119 = .ok (.if_icmp .ge 58, 3) := by decide +kernel
theorem dX6_entry_122 : decode cX6_entry 122 = .ok (.aload_n 0, 1) := by decide +kernel
theorem dX6_entry_123 : decode cX6_entry 123 = .ok (.bipush 9, 2) := by decide +kernel
theorem dX6_entry_125 : decode cX6_entry 125 = .ok (.invokevirtual 102, 3) := by decide +kernel
theorem dX6_entry_128 : decode cX6_entry 128 = .ok (.istore 5, 2) := by decide +kernel
theorem dX6_entry_130 : decode cX6_entry 130 = .ok (.aload_n 0, 1) := by decide +kernel
theorem dX6_entry_131 : decode cX6_entry 131 = .ok (.getfield 92, 3) := by decide +kernel
theorem dX6_entry_134 : decode cX6_entry 134 = .ok (.ifCond .eq 37, 3) := by decide +kernel
theorem dX6_entry_137 : decode cX6_entry 137 = .ok (.aload_n 0, 1) := by decide +kernel
theorem dX6_entry_138 : decode cX6_entry 138 = .ok (.getfield 17, 3) := by decide +kernel
theorem dX6_entry_141 : decode cX6_entry 141 = .ok (.aload_n 0, 1) := by decide +kernel
theorem dX6_entry_142 : decode cX6_entry 142 = .ok (.getfield 109, 3) := by decide +kernel
theorem dX6_entry_145 : decode cX6_entry 145 = .ok (.iload_n 2, 1) := by decide +kernel
theorem dX6_entry_146 : decode cX6_entry 146 = .ok (.iload 4, 2) := by decide +kernel
theorem dX6_entry_148 : decode cX6_entry 148 = .ok (.iadd, 1) := by decide +kernel
theorem dX6_entry_149 : decode cX6_entry 149 = .ok (.iastore, 1) := by decide +kernel
theorem dX6_entry_150 : decode cX6_entry 150 = .ok (.aload_n 0, 1) := by decide +kernel
theorem dX6_entry_151 : decode cX6_entry 151 = .ok (.getfield 20, 3) := by decide +kernel
theorem dX6_entry_154 : decode cX6_entry 154 = .ok (.aload_n 0, 1) := by decide +kernel
theorem dX6_entry_155 : decode cX6_entry 155 = .ok (.getfield 109, 3) := by decide +kernel
theorem dX6_entry_158 : decode cX6_entry 158 = .ok (.iload 5, 2) := by decide +kernel
theorem dX6_entry_160 : decode cX6_entry 160 = .ok (.iastore, 1) := by decide +kernel
theorem dX6_entry_161 : decode cX6_entry 161 = .ok (.aload_n 0, 1) := by decide +kernel
theorem dX6_entry_162 : decode cX6_entry 162 = .ok (.dup, 1) := by decide +kernel
theorem dX6_entry_163 : decode cX6_entry 163 = .ok (.getfield 109, 3) := by decide +kernel
theorem dX6_entry_166 : decode cX6_entry 166 = .ok (.iconst 1, 1) := by decide +kernel
theorem dX6_entry_167 : decode cX6_entry 167 = .ok (.iadd, 1) := by decide +kernel
theorem dX6_entry_168 : decode cX6_entry 168 = .ok (.putfield 109, 3) := by decide +kernel
theorem dX6_entry_171 : decode cX6_entry 171 = .ok (.iinc 4 1, 3) := by decide +kernel
theorem dX6_entry_174 : decode cX6_entry 174 = .ok (.goto (-58), 3) := by decide +kernel
theorem dX6_entry_177 : decode cX6_entry 177 = .ok (.aload_n 0, 1) := by decide +kernel
theorem dX6_entry_178 : decode cX6_entry 178 = .ok (.dup, 1) := by decide +kernel
theorem dX6_entry_179 : decode cX6_entry 179 = .ok (.getfield 112, 3) := by decide +kernel
theorem dX6_entry_182 : decode cX6_entry 182 = .ok (.iconst 1, 1) := by decide +kernel
theorem dX6_entry_183 : decode cX6_entry 183 = .ok (.iadd, 1) := by decide +kernel
theorem dX6_entry_184 : decode cX6_entry 184 = .ok (.putfield 112, 3) := by decide +kernel
theorem dX6_entry_187 : decode cX6_entry 187 = .ok (.return_, 1) := by decide +kernel
theorem dX6_fault_0 : decode cX6_fault 0 = .ok (.aload_n 0, 1) := by decide +kernel
theorem dX6_fault_1 : decode cX6_fault 1 = .ok (.iconst 0, 1) := by decide +kernel
theorem dX6_fault_2 : decode cX6_fault 2 = .ok (.putfield 96, 3) := by decide +kernel
theorem dX6_fault_5 : decode cX6_fault 5 = .ok (.aload_n 0, 1) := by decide +kernel
theorem dX6_fault_6 : decode cX6_fault 6 = .ok (.iconst 1, 1) := by decide +kernel
theorem dX6_fault_7 : decode cX6_fault 7 = .ok (.putfield 92, 3) := by decide +kernel
theorem dX6_fault_10 : decode cX6_fault 10 = .ok (.aload_n 0, 1) := by decide +kernel
theorem dX6_fault_11 : decode cX6_fault 11 = .ok (.iconst 0, 1) := by decide +kernel
theorem dX6_fault_12 : decode cX6_fault 12 = .ok (.putfield 109, 3) := by decide +kernel
theorem dX6_fault_15 : decode cX6_fault 15 = .ok (.aload_n 0, 1) := by decide +kernel
theorem dX6_fault_16 : decode cX6_fault 16 = .ok (.iconst 0, 1) := by decide +kernel
theorem dX6_fault_17 : decode cX6_fault 17 = .ok (.putfield 112, 3) := by decide +kernel
theorem dX6_fault_20 : decode cX6_fault 20 = .ok (.aload_n 0, 1) := by decide +kernel
theorem dX6_fault_21 : decode cX6_fault 21 = .ok (.invokevirtual 115, 3) := by decide +kernel
theorem dX6_fault_24 : decode cX6_fault 24 = .ok (.aload_n 0, 1) := by decide +kernel
theorem dX6_fault_25 : decode cX6_fault 25 = .ok (.getfield 92, 3) := by decide +kernel
theorem dX6_fault_28 : decode cX6_fault 28 = .ok (.ifCond .eq 34, 3) := by decide +kernel
theorem dX6_fault_31 : decode cX6_fault 31 = .ok (.aload_n 0, 1) := by decide +kernel
theorem dX6_fault_32 : decode cX6_fault 32 = .ok (.getfield 96, 3) := by decide +kernel
theorem dX6_fault_35 : decode cX6_fault 35 = .ok (.aload_n 0, 1) := by decide +kernel
theorem dX6_fault_36 : decode cX6_fault 36 = .ok (.getfield 99, 3) := by decide +kernel
theorem dX6_fault_39 : decode cX6_fault 39 = .ok (.if_icmp .ge 23, 3) := by decide +kernel
theorem dX6_fault_42 : decode cX6_fault 42 = .ok (.aload_n 0, 1) := by decide +kernel
theorem dX6_fault_43 : decode cX6_fault 43 = .ok (.bipush 44, 2) := by decide +kernel
theorem dX6_fault_45 : decode cX6_fault 45 = .ok (.invokevirtual 105, 3) := by decide +kernel
theorem dX6_fault_48 : decode cX6_fault 48 = .ok (.aload_n 0, 1) := by decide +kernel
theorem dX6_fault_49 : decode cX6_fault 49 = .ok (.getfield 92, 3) := by decide +kernel
theorem dX6_fault_52 : decode cX6_fault 52 = .ok (.ifCond .eq (-28), 3) := by decide +kernel
theorem dX6_fault_55 : decode cX6_fault 55 = .ok (.aload_n 0, 1) := by decide +kernel
theorem dX6_fault_56 : decode cX6_fault 56 = .ok (.invokevirtual 115, 3) := by decide +kernel
theorem dX6_fault_59 : decode cX6_fault 59 = .ok (.goto (-35), 3) := by decide +kernel
theorem dX6_fault_62 : decode cX6_fault 62 = .ok (.aload_n 0, 1) := by decide +kernel
theorem dX6_fault_63 : decode cX6_fault 63 = .ok (.getfield 92, 3) := by decide +kernel
theorem dX6_fault_66 : decode cX6_fault 66 = .ok (.ifCond .eq 7, 3) := by decide +kernel
theorem dX6_fault_69 : decode cX6_fault 69 = .ok (.iconst (-1), 1) := by decide +kernel
theorem dX6_fault_70 : decode cX6_fault 70 = .ok (.goto 7, 3) := by decide +kernel
theorem dX6_fault_73 : decode cX6_fault 73 = .ok (.aload_n 0, 1) := by decide +kernel
theorem dX6_fault_74 : decode cX6_fault 74 = .ok (.getfield 96, 3) := by decide +kernel
theorem dX6_fault_77 : decode cX6_fault 77 = .ok (.ireturn, 1) := by decide +kernel
theorem dX6_readRows_0 : decode cX6_readRows 0 = .ok (.aload_n 0, 1) := by decide +kernel
theorem dX6_readRows_1 : decode cX6_readRows 1 = .ok (.invokevirtual 118, 3) := by decide +kernel
theorem dX6_readRows_4 : decode cX6_readRows 4 = .ok (.istore_n 1, 1) := by decide +kernel
theorem dX6_readRows_5 : decode cX6_readRows 5 = .ok (.iload_n 1, 1) := by decide +kernel
theorem dX6_readRows_6 : decode cX6_readRows 6 = .ok (.ifCond .lt 8, 3) := by decide +kernel
theorem dX6_readRows_9 : decode cX6_readRows 9 = .ok (.ldc 122, 2) := by decide +kernel
theorem dX6_readRows_11 : decode cX6_readRows 11 = .ok (.iload_n 1, 1) := by decide +kernel
theorem dX6_readRows_12 : decode cX6_readRows 12 = .ok (.isub, 1) := by decide +kernel
theorem dX6_readRows_13 : decode cX6_readRows 13 = .ok (.ireturn, 1) := by decide +kernel
theorem dX6_readRows_14 : decode cX6_readRows 14 = .ok (.aload_n 0, 1) := by decide +kernel
theorem dX6_readRows_15 : decode cX6_readRows 15 = .ok (.invokevirtual 81, 3) := by decide +kernel
theorem dX6_readRows_18 : decode cX6_readRows 18 = .ok (.iconst 0, 1) := by decide +kernel
theorem dX6_readRows_19 : decode cX6_readRows 19 = .ok (.istore_n 2, 1) := by decide +kernel
theorem dX6_readRows_20 : decode cX6_readRows 20 = .ok (.iload_n 2, 1) := by decide +kernel
theorem dX6_readRows_21 : decode cX6_readRows 21 = .ok (.aload_n 0, 1) := by decide +kernel
theorem dX6_readRows_22 : decode cX6_readRows 22 = .ok (.getfield 109, 3) := by decide +kernel
theorem dX6_readRows_25 : decode cX6_readRows 25 = .ok (.if_icmp .ge 26, 3) := by decide +kernel
theorem dX6_readRows_28 : decode cX6_readRows 28 = .ok (.aload_n 0, 1) := by decide +kernel
theorem dX6_readRows_29 : decode cX6_readRows 29 = .ok (.getfield 7, 3) := by decide +kernel
theorem dX6_readRows_32 : decode cX6_readRows 32 = .ok (.aload_n 0, 1) := by decide +kernel
theorem dX6_readRows_33 : decode cX6_readRows 33 = .ok (.getfield 17, 3) := by decide +kernel
theorem dX6_readRows_36 : decode cX6_readRows 36 = .ok (.iload_n 2, 1) := by decide +kernel
theorem dX6_readRows_37 : decode cX6_readRows 37 = .ok (.iaload, 1) := by decide +kernel
theorem dX6_readRows_38 : decode cX6_readRows 38 = .ok (.aload_n 0, 1) := by decide +kernel
theorem dX6_readRows_39 : decode cX6_readRows 39 = .ok (.getfield 20, 3) := by decide +kernel
theorem dX6_readRows_42 : decode cX6_readRows 42 = .ok (.iload_n 2, 1) := by decide +kernel
theorem dX6_readRows_43 : decode cX6_readRows 43 = .ok (.iaload, 1) := by decide +kernel
theorem dX6_readRows_44 : decode cX6_readRows 44 = .ok (.iastore, 1) := by decide +kernel
theorem dX6_readRows_45 : decode cX6_readRows 45 = .ok (.iinc 2 1, 3) := by decide +kernel
theorem dX6_readRows_48 : decode cX6_readRows 48 = .ok (.goto (-28), 3) := by decide +kernel
theorem dX6_readRows_51 : decode cX6_readRows 51 = .ok (.aload_n 0, 1) := by decide +kernel
theorem dX6_readRows_52 : decode cX6_readRows 52 = .ok (.getfield 112, 3) := by decide +kernel
theorem dX6_readRows_55 : decode cX6_readRows 55 = .ok (.ireturn, 1) := by decide +kernel
theorem dX6_type_0 : decode cX6_type 0 = .ok (.aload_n 0, 1) := by decide +kernel
theorem dX6_type_1 : decode cX6_type 1 = .ok (.getfield 99, 3) := by decide +kernel
theorem dX6_type_4 : decode cX6_type 4 = .ok (.bipush 60, 2) := by decide +kernel
theorem dX6_type_6 : decode cX6_type 6 = .ok (.if_icmp .ne 6, 3) := by decide +kernel
theorem dX6_type_9 : decode cX6_type 9 = .ok (.ldc 123, 2) := by decide +kernel
theorem dX6_type_11 : decode cX6_type 11 = .ok (.ireturn, 1) := by decide +kernel
theorem dX6_type_12 : decode cX6_type 12 = .ok (.aload_n 0, 1) := by decide +kernel
theorem dX6_type_13 : decode cX6_type 13 = .ok (.getfield 13, 3) := by decide +kernel
theorem dX6_type_16 : decode cX6_type 16 = .ok (.aload_n 0, 1) := by decide +kernel
theorem dX6_type_17 : decode cX6_type 17 = .ok (.getfield 99, 3) := by decide +kernel
theorem dX6_type_20 : decode cX6_type 20 = .ok (.iload_n 1, 1) := by decide +kernel
theorem dX6_type_21 : decode cX6_type 21 = .ok (.castore, 1) := by decide +kernel
theorem dX6_type_22 : decode cX6_type 22 = .ok (.aload_n 0, 1) := by decide +kernel
theorem dX6_type_23 : decode cX6_type 23 = .ok (.dup, 1) := by decide +kernel
theorem dX6_type_24 : decode cX6_type 24 = .ok (.getfield 99, 3) := by decide +kernel
theorem dX6_type_27 : decode cX6_type 27 = .ok (.iconst 1, 1) := by decide +kernel
theorem dX6_type_28 : decode cX6_type 28 = .ok (.iadd, 1) := by decide +kernel
theorem dX6_type_29 : decode cX6_type 29 = .ok (.putfield 99, 3) := by decide +kernel
theorem dX6_type_32 : decode cX6_type 32 = .ok (.aload_n 0, 1) := by decide +kernel
theorem dX6_type_33 : decode cX6_type 33 = .ok (.getfield 99, 3) := by decide +kernel
theorem dX6_type_36 : decode cX6_type 36 = .ok (.ireturn, 1) := by decide +kernel
theorem dX6_clearText_0 : decode cX6_clearText 0 = .ok (.aload_n 0, 1) := by decide +kernel
theorem dX6_clearText_1 : decode cX6_clearText 1 = .ok (.getfield 99, 3) := by decide +kernel
theorem dX6_clearText_4 : decode cX6_clearText 4 = .ok (.istore_n 1, 1) := by decide +kernel
theorem dX6_clearText_5 : decode cX6_clearText 5 = .ok (.aload_n 0, 1) := by decide +kernel
theorem dX6_clearText_6 : decode cX6_clearText 6 = .ok (.iconst 0, 1) := by decide +kernel
theorem dX6_clearText_7 : decode cX6_clearText 7 = .ok (.putfield 99, 3) := by decide +kernel
theorem dX6_clearText_10 : decode cX6_clearText 10 = .ok (.iload_n 1, 1) := by decide +kernel
theorem dX6_clearText_11 : decode cX6_clearText 11 = .ok (.ireturn, 1) := by decide +kernel
theorem dX6_leftOf_0 : decode cX6_leftOf 0 = .ok (.iconst 0, 1) := by decide +kernel
theorem dX6_leftOf_1 : decode cX6_leftOf 1 = .ok (.istore_n 2, 1) := by decide +kernel
theorem dX6_leftOf_2 : decode cX6_leftOf 2 = .ok (.iconst 0, 1) := by decide +kernel
theorem dX6_leftOf_3 : decode cX6_leftOf 3 = .ok (.istore_n 3, 1) := by decide +kernel
theorem dX6_leftOf_4 : decode cX6_leftOf 4 = .ok (.iload_n 3, 1) := by decide +kernel
theorem dX6_leftOf_5 : decode cX6_leftOf 5 = .ok (.iconst 4, 1) := by decide +kernel
theorem dX6_leftOf_6 : decode cX6_leftOf 6 = .ok (.if_icmp .ge 29, 3) := by decide +kernel
theorem dX6_leftOf_9 : decode cX6_leftOf 9 = .ok (.aload_n 0, 1) := by decide +kernel
theorem dX6_leftOf_10 : decode cX6_leftOf 10 = .ok (.getfield 7, 3) := by decide +kernel
theorem dX6_leftOf_13 : decode cX6_leftOf 13 = .ok (.sipush 188, 3) := by decide +kernel
theorem dX6_leftOf_16 : decode cX6_leftOf 16 = .ok (.iload_n 3, 1) := by decide +kernel
theorem dX6_leftOf_17 : decode cX6_leftOf 17 = .ok (.iadd, 1) := by decide +kernel
theorem dX6_leftOf_18 : decode cX6_leftOf 18 = .ok (.iaload, 1) := by decide +kernel
theorem dX6_leftOf_19 : decode cX6_leftOf 19 = .ok (.iload_n 1, 1) := by decide +kernel
theorem dX6_leftOf_20 : decode cX6_leftOf 20 = .ok (.if_icmp .ne 7, 3) := by decide +kernel
theorem dX6_leftOf_23 : decode cX6_leftOf 23 = .ok (.iload_n 3, 1) := by decide +kernel
theorem dX6_leftOf_24 : decode cX6_leftOf 24 = .ok (.goto 4, 3) := by decide +kernel
theorem dX6_leftOf_27 : decode cX6_leftOf 27 = .ok (.iload_n 2, 1) := by decide +kernel
theorem dX6_leftOf_28 : decode cX6_leftOf 28 = .ok (.istore_n 2, 1) := by decide +kernel
theorem dX6_leftOf_29 : decode cX6_leftOf 29 = .ok (.iinc 3 1, 3) := by decide +kernel
theorem dX6_leftOf_32 : decode cX6_leftOf 32 = .ok (.goto (-28), 3) := by decide +kernel
theorem dX6_leftOf_35 : decode cX6_leftOf 35 = .ok (.iload_n 2, 1) := by decide +kernel
theorem dX6_leftOf_36 : decode cX6_leftOf 36 = .ok (.ireturn, 1) := by decide +kernel
theorem dX6_pair_0 : decode cX6_pair 0 = .ok (.iload_n 1, 1) := by decide +kernel
theorem dX6_pair_1 : decode cX6_pair 1 = .ok (.iconst 0, 1) := by decide +kernel
theorem dX6_pair_2 : decode cX6_pair 2 = .ok (.iconst 3, 1) := by decide +kernel
theorem dX6_pair_3 : decode cX6_pair 3 = .ok (.invokestatic 75, 3) := by decide +kernel
theorem dX6_pair_6 : decode cX6_pair 6 = .ok (.ifCond .eq 12, 3) := by decide +kernel
theorem dX6_pair_9 : decode cX6_pair 9 = .ok (.iload_n 2, 1) := by decide +kernel
theorem dX6_pair_10 : decode cX6_pair 10 = .ok (.iconst 0, 1) := by decide +kernel
theorem dX6_pair_11 : decode cX6_pair 11 = .ok (.iconst 3, 1) := by decide +kernel
theorem dX6_pair_12 : decode cX6_pair 12 = .ok (.invokestatic 75, 3) := by decide +kernel
theorem dX6_pair_15 : decode cX6_pair 15 = .ok (.ifCond .ne 6, 3) := by decide +kernel
theorem dX6_pair_18 : decode cX6_pair 18 = .ok (.ldc 78, 2) := by decide +kernel
theorem dX6_pair_20 : decode cX6_pair 20 = .ok (.ireturn, 1) := by decide +kernel
theorem dX6_pair_21 : decode cX6_pair 21 = .ok (.aload_n 0, 1) := by decide +kernel
theorem dX6_pair_22 : decode cX6_pair 22 = .ok (.getfield 7, 3) := by decide +kernel
theorem dX6_pair_25 : decode cX6_pair 25 = .ok (.sipush 188, 3) := by decide +kernel
theorem dX6_pair_28 : decode cX6_pair 28 = .ok (.iload_n 1, 1) := by decide +kernel
theorem dX6_pair_29 : decode cX6_pair 29 = .ok (.iadd, 1) := by decide +kernel
theorem dX6_pair_30 : decode cX6_pair 30 = .ok (.iaload, 1) := by decide +kernel
theorem dX6_pair_31 : decode cX6_pair 31 = .ok (.iload_n 2, 1) := by decide +kernel
theorem dX6_pair_32 : decode cX6_pair 32 = .ok (.if_icmp .ne 6, 3) := by decide +kernel
theorem dX6_pair_35 : decode cX6_pair 35 = .ok (.ldc 80, 2) := by decide +kernel
theorem dX6_pair_37 : decode cX6_pair 37 = .ok (.ireturn, 1) := by decide +kernel
theorem dX6_pair_38 : decode cX6_pair 38 = .ok (.aload_n 0, 1) := by decide +kernel
theorem dX6_pair_39 : decode cX6_pair 39 = .ok (.invokevirtual 81, 3) := by decide +kernel
theorem dX6_pair_42 : decode cX6_pair 42 = .ok (.aload_n 0, 1) := by decide +kernel
theorem dX6_pair_43 : decode cX6_pair 43 = .ok (.getfield 7, 3) := by decide +kernel
theorem dX6_pair_46 : decode cX6_pair 46 = .ok (.sipush 188, 3) := by decide +kernel
theorem dX6_pair_49 : decode cX6_pair 49 = .ok (.aload_n 0, 1) := by decide +kernel
theorem dX6_pair_50 : decode cX6_pair 50 = .ok (.iload_n 2, 1) := by decide +kernel
theorem dX6_pair_51 : decode cX6_pair 51 = .ok (.invokevirtual 124, 3) := by decide +kernel
theorem dX6_pair_54 : decode cX6_pair 54 = .ok (.iadd, 1) := by decide +kernel
theorem dX6_pair_55 : decode cX6_pair 55 = .ok (.aload_n 0, 1) := by decide +kernel
theorem dX6_pair_56 : decode cX6_pair 56 = .ok (.getfield 7, 3) := by decide +kernel
theorem dX6_pair_59 : decode cX6_pair 59 = .ok (.sipush 188, 3) := by decide +kernel
theorem dX6_pair_62 : decode cX6_pair 62 = .ok (.iload_n 1, 1) := by decide +kernel
theorem dX6_pair_63 : decode cX6_pair 63 = .ok (.iadd, 1) := by decide +kernel
theorem dX6_pair_64 : decode cX6_pair 64 = .ok (.iaload, 1) := by decide +kernel
theorem dX6_pair_65 : decode cX6_pair 65 = .ok (.iastore, 1) := by decide +kernel
theorem dX6_pair_66 : decode cX6_pair 66 = .ok (.aload_n 0, 1) := by decide +kernel
theorem dX6_pair_67 : decode cX6_pair 67 = .ok (.getfield 7, 3) := by decide +kernel
theorem dX6_pair_70 : decode cX6_pair 70 = .ok (.sipush 188, 3) := by decide +kernel
theorem dX6_pair_73 : decode cX6_pair 73 = .ok (.iload_n 1, 1) := by decide +kernel
theorem dX6_pair_74 : decode cX6_pair 74 = .ok (.iadd, 1) := by decide +kernel
theorem dX6_pair_75 : decode cX6_pair 75 = .ok (.iload_n 2, 1) := by decide +kernel
theorem dX6_pair_76 : decode cX6_pair 76 = .ok (.iastore, 1) := by decide +kernel
theorem dX6_pair_77 : decode cX6_pair 77 = .ok (.aload_n 0, 1) := by decide +kernel
theorem dX6_pair_78 : decode cX6_pair 78 = .ok (.iload_n 1, 1) := by decide +kernel
theorem dX6_pair_79 : decode cX6_pair 79 = .ok (.iload_n 2, 1) := by decide +kernel
theorem dX6_pair_80 : decode cX6_pair 80 = .ok (.invokevirtual 72, 3) := by decide +kernel
theorem dX6_pair_83 : decode cX6_pair 83 = .ok (.ireturn, 1) := by decide +kernel
theorem dX6_pairBest_0 : decode cX6_pairBest 0 = .ok (.aload_n 0, 1) := by decide +kernel
theorem dX6_pairBest_1 : decode cX6_pairBest 1 = .ok (.invokevirtual 127, 3) := by decide +kernel
theorem dX6_pairBest_4 : decode cX6_pairBest 4 = .ok (.iconst 0, 1) := by decide +kernel
theorem dX6_pairBest_5 : decode cX6_pairBest 5 = .ok (.istore_n 1, 1) := by decide +kernel
theorem dX6_pairBest_6 : decode cX6_pairBest 6 = .ok (.iconst 0, 1) := by decide +kernel
theorem dX6_pairBest_7 : decode cX6_pairBest 7 = .ok (.istore_n 2, 1) := by decide +kernel
theorem dX6_pairBest_8 : decode cX6_pairBest 8 = .ok (.iload_n 2, 1) := by decide +kernel
theorem dX6_pairBest_9 : decode cX6_pairBest 9 = .ok (.iconst 4, 1) := by decide +kernel
theorem dX6_pairBest_10 : decode cX6_pairBest 10 = .ok (.if_icmp .ge 36, 3) := by decide +kernel
theorem dX6_pairBest_13 : decode cX6_pairBest 13 = .ok (.iload_n 1, 1) := by decide +kernel
theorem dX6_pairBest_14 : decode cX6_pairBest 14 = .ok (.aload_n 0, 1) := by decide +kernel
theorem dX6_pairBest_15 : decode cX6_pairBest 15 = .ok (.getfield 7, 3) := by decide +kernel
theorem dX6_pairBest_18 : decode cX6_pairBest 18 = .ok (.sipush 188, 3) := by decide +kernel
theorem dX6_pairBest_21 : decode cX6_pairBest 21 = .ok (.iload_n 2, 1) := by decide +kernel
theorem dX6_pairBest_22 : decode cX6_pairBest 22 = .ok (.iadd, 1) := by decide +kernel
theorem dX6_pairBest_23 : decode cX6_pairBest 23 = .ok (.iaload, 1) := by decide +kernel
theorem dX6_pairBest_24 : decode cX6_pairBest 24 = .ok (.aload_n 0, 1) := by decide +kernel
theorem dX6_pairBest_25 : decode cX6_pairBest 25 = .ok (.getfield 26, 3) := by decide +kernel
theorem dX6_pairBest_28 : decode cX6_pairBest 28 = .ok (.iload_n 2, 1) := by decide +kernel
theorem dX6_pairBest_29 : decode cX6_pairBest 29 = .ok (.iaload, 1) := by decide +kernel
theorem dX6_pairBest_30 : decode cX6_pairBest 30 = .ok (.if_icmp .ne 7, 3) := by decide +kernel
theorem dX6_pairBest_33 : decode cX6_pairBest 33 = .ok (.iconst 0, 1) := by decide +kernel
theorem dX6_pairBest_34 : decode cX6_pairBest 34 = .ok (.goto 4, 3) := by decide +kernel
theorem dX6_pairBest_37 : decode cX6_pairBest 37 = .ok (.iconst 1, 1) := by decide +kernel
theorem dX6_pairBest_38 : decode cX6_pairBest 38 = .ok (.iadd, 1) := by decide +kernel
theorem dX6_pairBest_39 : decode cX6_pairBest 39 = .ok (.istore_n 1, 1) := by decide +kernel
theorem dX6_pairBest_40 : decode cX6_pairBest 40 = .ok (.iinc 2 1, 3) := by decide +kernel
theorem dX6_pairBest_43 : decode cX6_pairBest 43 = .ok (.goto (-35), 3) := by decide +kernel
theorem dX6_pairBest_46 : decode cX6_pairBest 46 = .ok (.iload_n 1, 1) := by decide +kernel
theorem dX6_pairBest_47 : decode cX6_pairBest 47 = .ok (.ifCond .ne 6, 3) := by decide +kernel
theorem dX6_pairBest_50 : decode cX6_pairBest 50 = .ok (.ldc 80, 2) := by decide +kernel
theorem dX6_pairBest_52 : decode cX6_pairBest 52 = .ok (.ireturn, 1) := by decide +kernel
theorem dX6_pairBest_53 : decode cX6_pairBest 53 = .ok (.aload_n 0, 1) := by decide +kernel
theorem dX6_pairBest_54 : decode cX6_pairBest 54 = .ok (.invokevirtual 81, 3) := by decide +kernel
theorem dX6_pairBest_57 : decode cX6_pairBest 57 = .ok (.iconst 0, 1) := by decide +kernel
theorem dX6_pairBest_58 : decode cX6_pairBest 58 = .ok (.istore_n 2, 1) := by decide +kernel
theorem dX6_pairBest_59 : decode cX6_pairBest 59 = .ok (.iload_n 2, 1) := by decide +kernel
theorem dX6_pairBest_60 : decode cX6_pairBest 60 = .ok (.iconst 4, 1) := by decide +kernel
theorem dX6_pairBest_61 : decode cX6_pairBest 61 = .ok (.if_icmp .ge 25, 3) := by decide +kernel
theorem dX6_pairBest_64 : decode cX6_pairBest 64 = .ok (.aload_n 0, 1) := by decide +kernel
theorem dX6_pairBest_65 : decode cX6_pairBest 65 = .ok (.getfield 7, 3) := by decide +kernel
theorem dX6_pairBest_68 : decode cX6_pairBest 68 = .ok (.sipush 188, 3) := by decide +kernel
theorem dX6_pairBest_71 : decode cX6_pairBest 71 = .ok (.iload_n 2, 1) := by decide +kernel
theorem dX6_pairBest_72 : decode cX6_pairBest 72 = .ok (.iadd, 1) := by decide +kernel
theorem dX6_pairBest_73 : decode cX6_pairBest 73 = .ok (.aload_n 0, 1) := by decide +kernel
theorem dX6_pairBest_74 : decode cX6_pairBest 74 = .ok (.getfield 26, 3) := by decide +kernel
theorem dX6_pairBest_77 : decode cX6_pairBest 77 = .ok (.iload_n 2, 1) := by decide +kernel
theorem dX6_pairBest_78 : decode cX6_pairBest 78 = .ok (.iaload, 1) := by decide +kernel
theorem dX6_pairBest_79 : decode cX6_pairBest 79 = .ok (.iastore, 1) := by decide +kernel
theorem dX6_pairBest_80 : decode cX6_pairBest 80 = .ok (.iinc 2 1, 3) := by decide +kernel
theorem dX6_pairBest_83 : decode cX6_pairBest 83 = .ok (.goto (-24), 3) := by decide +kernel
theorem dX6_pairBest_86 : decode cX6_pairBest 86 = .ok (.iload_n 1, 1) := by decide +kernel
theorem dX6_pairBest_87 : decode cX6_pairBest 87 = .ok (.ireturn, 1) := by decide +kernel
theorem dX6_own_0 : decode cX6_own 0 = .ok (.aload_n 0, 1) := by decide +kernel
theorem dX6_own_1 : decode cX6_own 1 = .ok (.iload_n 1, 1) := by decide +kernel
theorem dX6_own_2 : decode cX6_own 2 = .ok (.aload_n 0, 1) := by decide +kernel
theorem dX6_own_3 : decode cX6_own 3 = .ok (.getfield 7, 3) := by decide +kernel
theorem dX6_own_6 : decode cX6_own 6 = .ok (.sipush 188, 3) := by decide +kernel
theorem dX6_own_9 : decode cX6_own 9 = .ok (.iload_n 1, 1) := by decide +kernel
theorem dX6_own_10 : decode cX6_own 10 = .ok (.iadd, 1) := by decide +kernel
theorem dX6_own_11 : decode cX6_own 11 = .ok (.iaload, 1) := by decide +kernel
theorem dX6_own_12 : decode cX6_own 12 = .ok (.invokevirtual 72, 3) := by decide +kernel
theorem dX6_own_15 : decode cX6_own 15 = .ok (.ireturn, 1) := by decide +kernel
theorem dX6_leftAt_0 : decode cX6_leftAt 0 = .ok (.iconst 0, 1) := by decide +kernel
theorem dX6_leftAt_1 : decode cX6_leftAt 1 = .ok (.istore_n 2, 1) := by decide +kernel
theorem dX6_leftAt_2 : decode cX6_leftAt 2 = .ok (.iconst 0, 1) := by decide +kernel
theorem dX6_leftAt_3 : decode cX6_leftAt 3 = .ok (.istore_n 3, 1) := by decide +kernel
theorem dX6_leftAt_4 : decode cX6_leftAt 4 = .ok (.iload_n 3, 1) := by decide +kernel
theorem dX6_leftAt_5 : decode cX6_leftAt 5 = .ok (.iconst 4, 1) := by decide +kernel
theorem dX6_leftAt_6 : decode cX6_leftAt 6 = .ok (.if_icmp .ge 83, 3) := by decide +kernel
theorem dX6_leftAt_9 : decode cX6_leftAt 9 = .ok (.iconst 0, 1) := by decide +kernel
theorem dX6_leftAt_10 : decode cX6_leftAt 10 = .ok (.istore 4, 2) := by decide +kernel
theorem dX6_leftAt_12 : decode cX6_leftAt 12 = .ok (.iconst 0, 1) := by decide +kernel
theorem dX6_leftAt_13 : decode cX6_leftAt 13 = .ok (.istore 5, 2) := by decide +kernel
theorem dX6_leftAt_15 : decode cX6_leftAt 15 = .ok (.iload 5, 2) := by decide +kernel
theorem dX6_leftAt_17 : decode cX6_leftAt 17 = .ok (.iconst 4, 1) := by decide +kernel
theorem dX6_leftAt_18 : decode cX6_leftAt 18 = .ok (.if_icmp .ge 53, 3) := by decide +kernel
theorem dX6_leftAt_21 : decode cX6_leftAt 21 = .ok (.iload 4, 2) := by decide +kernel
theorem dX6_leftAt_23 : decode cX6_leftAt 23 = .ok (.aload_n 0, 1) := by decide +kernel
theorem dX6_leftAt_24 : decode cX6_leftAt 24 = .ok (.iload 5, 2) := by decide +kernel
theorem dX6_leftAt_26 : decode cX6_leftAt 26 = .ok (.invokevirtual 130, 3) := by decide +kernel
theorem dX6_leftAt_29 : decode cX6_leftAt 29 = .ok (.aload_n 0, 1) := by decide +kernel
theorem dX6_leftAt_30 : decode cX6_leftAt 30 = .ok (.iload_n 3, 1) := by decide +kernel
theorem dX6_leftAt_31 : decode cX6_leftAt 31 = .ok (.invokevirtual 130, 3) := by decide +kernel
theorem dX6_leftAt_34 : decode cX6_leftAt 34 = .ok (.if_icmp .gt 23, 3) := by decide +kernel
theorem dX6_leftAt_37 : decode cX6_leftAt 37 = .ok (.aload_n 0, 1) := by decide +kernel
theorem dX6_leftAt_38 : decode cX6_leftAt 38 = .ok (.iload 5, 2) := by decide +kernel
theorem dX6_leftAt_40 : decode cX6_leftAt 40 = .ok (.invokevirtual 130, 3) := by decide +kernel
theorem dX6_leftAt_43 : decode cX6_leftAt 43 = .ok (.aload_n 0, 1) := by decide +kernel
theorem dX6_leftAt_44 : decode cX6_leftAt 44 = .ok (.iload_n 3, 1) := by decide +kernel
theorem dX6_leftAt_45 : decode cX6_leftAt 45 = .ok (.invokevirtual 130, 3) := by decide +kernel
theorem dX6_leftAt_48 : decode cX6_leftAt 48 = .ok (.if_icmp .ne 13, 3) := by decide +kernel
theorem dX6_leftAt_51 : decode cX6_leftAt 51 = .ok (.iload 5, 2) := by decide +kernel
theorem dX6_leftAt_53 : decode cX6_leftAt 53 = .ok (.iload_n 3, 1) := by decide +kernel
theorem dX6_leftAt_54 : decode cX6_leftAt 54 = .ok (.if_icmp .ge 7, 3) := by decide +kernel
theorem dX6_leftAt_57 : decode cX6_leftAt 57 = .ok (.iconst 1, 1) := by decide +kernel
theorem dX6_leftAt_58 : decode cX6_leftAt 58 = .ok (.goto 4, 3) := by decide +kernel
theorem dX6_leftAt_61 : decode cX6_leftAt 61 = .ok (.iconst 0, 1) := by decide +kernel
theorem dX6_leftAt_62 : decode cX6_leftAt 62 = .ok (.iadd, 1) := by decide +kernel
theorem dX6_leftAt_63 : decode cX6_leftAt 63 = .ok (.istore 4, 2) := by decide +kernel
theorem dX6_leftAt_65 : decode cX6_leftAt 65 = .ok (.iinc 5 1, 3) := by decide +kernel
theorem dX6_leftAt_68 : decode cX6_leftAt 68 = .ok (.goto (-53), 3) := by decide +kernel
theorem dX6_leftAt_71 : decode cX6_leftAt 71 = .ok (.iload 4, 2) := by decide +kernel
theorem dX6_leftAt_73 : decode cX6_leftAt 73 = .ok (.iload_n 1, 1) := by decide +kernel
theorem dX6_leftAt_74 : decode cX6_leftAt 74 = .ok (.if_icmp .ne 7, 3) := by decide +kernel
theorem dX6_leftAt_77 : decode cX6_leftAt 77 = .ok (.iload_n 3, 1) := by decide +kernel
theorem dX6_leftAt_78 : decode cX6_leftAt 78 = .ok (.goto 4, 3) := by decide +kernel
theorem dX6_leftAt_81 : decode cX6_leftAt 81 = .ok (.iload_n 2, 1) := by decide +kernel
theorem dX6_leftAt_82 : decode cX6_leftAt 82 = .ok (.istore_n 2, 1) := by decide +kernel
theorem dX6_leftAt_83 : decode cX6_leftAt 83 = .ok (.iinc 3 1, 3) := by decide +kernel
theorem dX6_leftAt_86 : decode cX6_leftAt 86 = .ok (.goto (-82), 3) := by decide +kernel
theorem dX6_leftAt_89 : decode cX6_leftAt 89 = .ok (.iload_n 2, 1) := by decide +kernel
theorem dX6_leftAt_90 : decode cX6_leftAt 90 = .ok (.ireturn, 1) := by decide +kernel
theorem dX6_prize_0 : decode cX6_prize 0 = .ok (.iload_n 1, 1) := by decide +kernel
theorem dX6_prize_1 : decode cX6_prize 1 = .ok (.iconst 3, 1) := by decide +kernel
theorem dX6_prize_2 : decode cX6_prize 2 = .ok (.if_icmp .ge 22, 3) := by decide +kernel
theorem dX6_prize_5 : decode cX6_prize 5 = .ok (.aload_n 0, 1) := by decide +kernel
theorem dX6_prize_6 : decode cX6_prize 6 = .ok (.aload_n 0, 1) := by decide +kernel
theorem dX6_prize_7 : decode cX6_prize 7 = .ok (.iload_n 1, 1) := by decide +kernel
theorem dX6_prize_8 : decode cX6_prize 8 = .ok (.invokevirtual 133, 3) := by decide +kernel
theorem dX6_prize_11 : decode cX6_prize 11 = .ok (.invokevirtual 130, 3) := by decide +kernel
theorem dX6_prize_14 : decode cX6_prize 14 = .ok (.sipush 500, 3) := by decide +kernel
theorem dX6_prize_17 : decode cX6_prize 17 = .ok (.if_icmp .lt 7, 3) := by decide +kernel
theorem dX6_prize_20 : decode cX6_prize 20 = .ok (.iconst 1, 1) := by decide +kernel
theorem dX6_prize_21 : decode cX6_prize 21 = .ok (.goto 4, 3) := by decide +kernel
theorem dX6_prize_24 : decode cX6_prize 24 = .ok (.iconst 0, 1) := by decide +kernel
theorem dX6_prize_25 : decode cX6_prize 25 = .ok (.istore_n 2, 1) := by decide +kernel
theorem dX6_prize_26 : decode cX6_prize 26 = .ok (.iload_n 2, 1) := by decide +kernel
theorem dX6_prize_27 : decode cX6_prize 27 = .ok (.ifCond .ne 7, 3) := by decide +kernel
theorem dX6_prize_30 : decode cX6_prize 30 = .ok (.iconst 0, 1) := by decide +kernel
theorem dX6_prize_31 : decode cX6_prize 31 = .ok (.goto 24, 3) := by decide +kernel
theorem dX6_prize_34 : decode cX6_prize 34 = .ok (.iload_n 1, 1) := by decide +kernel
theorem dX6_prize_35 : decode cX6_prize 35 = .ok (.ifCond .ne 8, 3) := by decide +kernel
theorem dX6_prize_38 : decode cX6_prize 38 = .ok (.bipush 100, 2) := by decide +kernel
theorem dX6_prize_40 : decode cX6_prize 40 = .ok (.goto 15, 3) := by decide +kernel
theorem dX6_prize_43 : decode cX6_prize 43 = .ok (.iload_n 1, 1) := by decide +kernel
theorem dX6_prize_44 : decode cX6_prize 44 = .ok (.iconst 1, 1) := by decide +kernel
theorem dX6_prize_45 : decode cX6_prize 45 = .ok (.if_icmp .ne 8, 3) := by decide +kernel
theorem dX6_prize_48 : decode cX6_prize 48 = .ok (.bipush 50, 2) := by decide +kernel
theorem dX6_prize_50 : decode cX6_prize 50 = .ok (.goto 5, 3) := by decide +kernel
theorem dX6_prize_53 : decode cX6_prize 53 = .ok (.bipush 20, 2) := by decide +kernel
theorem dX6_prize_55 : decode cX6_prize 55 = .ok (.ireturn, 1) := by decide +kernel
theorem dX6_show_0 : decode cX6_show 0 = .ok (.aload_n 0, 1) := by decide +kernel
theorem dX6_show_1 : decode cX6_show 1 = .ok (.invokevirtual 81, 3) := by decide +kernel
theorem dX6_show_4 : decode cX6_show 4 = .ok (.iconst 0, 1) := by decide +kernel
theorem dX6_show_5 : decode cX6_show 5 = .ok (.istore_n 1, 1) := by decide +kernel
theorem dX6_show_6 : decode cX6_show 6 = .ok (.iconst 0, 1) := by decide +kernel
theorem dX6_show_7 : decode cX6_show 7 = .ok (.istore_n 2, 1) := by decide +kernel
theorem dX6_show_8 : decode cX6_show 8 = .ok (.iload_n 2, 1) := by decide +kernel
theorem dX6_show_9 : decode cX6_show 9 = .ok (.iconst 3, 1) := by decide +kernel
theorem dX6_show_10 : decode cX6_show 10 = .ok (.if_icmp .ge 77, 3) := by decide +kernel
theorem dX6_show_13 : decode cX6_show 13 = .ok (.aload_n 0, 1) := by decide +kernel
theorem dX6_show_14 : decode cX6_show 14 = .ok (.iload_n 2, 1) := by decide +kernel
theorem dX6_show_15 : decode cX6_show 15 = .ok (.invokevirtual 136, 3) := by decide +kernel
theorem dX6_show_18 : decode cX6_show 18 = .ok (.istore_n 3, 1) := by decide +kernel
theorem dX6_show_19 : decode cX6_show 19 = .ok (.aload_n 0, 1) := by decide +kernel
theorem dX6_show_20 : decode cX6_show 20 = .ok (.iload_n 2, 1) := by decide +kernel
theorem dX6_show_21 : decode cX6_show 21 = .ok (.invokevirtual 133, 3) := by decide +kernel
theorem dX6_show_24 : decode cX6_show 24 = .ok (.istore 4, 2) := by decide +kernel
theorem dX6_show_26 : decode cX6_show 26 = .ok (.aload_n 0, 1) := by decide +kernel
theorem dX6_show_27 : decode cX6_show 27 = .ok (.getfield 7, 3) := by decide +kernel
theorem dX6_show_30 : decode cX6_show 30 = .ok (.sipush 192, 3) := by decide +kernel
theorem dX6_show_33 : decode cX6_show 33 = .ok (.iload 4, 2) := by decide +kernel
theorem dX6_show_35 : decode cX6_show 35 = .ok (.iadd, 1) := by decide +kernel
theorem dX6_show_36 : decode cX6_show 36 = .ok (.dup2, 1) := by decide +kernel
theorem dX6_show_37 : decode cX6_show 37 = .ok (.iaload, 1) := by decide +kernel
theorem dX6_show_38 : decode cX6_show 38 = .ok (.iload_n 3, 1) := by decide +kernel
theorem dX6_show_39 : decode cX6_show 39 = .ok (.iconst 2, 1) := by decide +kernel
theorem dX6_show_40 : decode cX6_show 40 = .ok (.idiv, 1) := by decide +kernel
theorem dX6_show_41 : decode cX6_show 41 = .ok (.iadd, 1) := by decide +kernel
theorem dX6_show_42 : decode cX6_show 42 = .ok (.iastore, 1) := by decide +kernel
theorem dX6_show_43 : decode cX6_show 43 = .ok (.aload_n 0, 1) := by decide +kernel
theorem dX6_show_44 : decode cX6_show 44 = .ok (.getfield 7, 3) := by decide +kernel
theorem dX6_show_47 : decode cX6_show 47 = .ok (.sipush 196, 3) := by decide +kernel
theorem dX6_show_50 : decode cX6_show 50 = .ok (.aload_n 0, 1) := by decide +kernel
theorem dX6_show_51 : decode cX6_show 51 = .ok (.getfield 7, 3) := by decide +kernel
theorem dX6_show_54 : decode cX6_show 54 = .ok (.sipush 188, 3) := by decide +kernel
theorem dX6_show_57 : decode cX6_show 57 = .ok (.iload 4, 2) := by decide +kernel
theorem dX6_show_59 : decode cX6_show 59 = .ok (.iadd, 1) := by decide +kernel
theorem dX6_show_60 : decode cX6_show 60 = .ok (.iaload, 1) := by decide +kernel
theorem dX6_show_61 : decode cX6_show 61 = .ok (.iadd, 1) := by decide +kernel
theorem dX6_show_62 : decode cX6_show 62 = .ok (.dup2, 1) := by decide +kernel
theorem dX6_show_63 : decode cX6_show 63 = .ok (.iaload, 1) := by decide +kernel
theorem dX6_show_64 : decode cX6_show 64 = .ok (.iload_n 3, 1) := by decide +kernel
theorem dX6_show_65 : decode cX6_show 65 = .ok (.iconst 2, 1) := by decide +kernel
theorem dX6_show_66 : decode cX6_show 66 = .ok (.idiv, 1) := by decide +kernel
theorem dX6_show_67 : decode cX6_show 67 = .ok (.iadd, 1) := by decide +kernel
theorem dX6_show_68 : decode cX6_show 68 = .ok (.iastore, 1) := by decide +kernel
theorem dX6_show_69 : decode cX6_show 69 = .ok (.iload_n 1, 1) := by decide +kernel
theorem dX6_show_70 : decode cX6_show 70 = .ok (.iload_n 3, 1) := by decide +kernel
theorem dX6_show_71 : decode cX6_show 71 = .ok (.ifCond .le 7, 3) := by decide +kernel
theorem dX6_show_74 : decode cX6_show 74 = .ok (.iconst 1, 1) := by decide +kernel
theorem dX6_show_75 : decode cX6_show 75 = .ok (.goto 4, 3) := by decide +kernel
theorem dX6_show_78 : decode cX6_show 78 = .ok (.iconst 0, 1) := by decide +kernel
theorem dX6_show_79 : decode cX6_show 79 = .ok (.iadd, 1) := by decide +kernel
theorem dX6_show_80 : decode cX6_show 80 = .ok (.istore_n 1, 1) := by decide +kernel
theorem dX6_show_81 : decode cX6_show 81 = .ok (.iinc 2 1, 3) := by decide +kernel
theorem dX6_show_84 : decode cX6_show 84 = .ok (.goto (-76), 3) := by decide +kernel
theorem dX6_show_87 : decode cX6_show 87 = .ok (.aload_n 0, 1) := by decide +kernel
theorem dX6_show_88 : decode cX6_show 88 = .ok (.getfield 7, 3) := by decide +kernel
theorem dX6_show_91 : decode cX6_show 91 = .ok (.sipush 203, 3) := by decide +kernel
theorem dX6_show_94 : decode cX6_show 94 = .ok (.dup2, 1) := by decide +kernel
theorem dX6_show_95 : decode cX6_show 95 = .ok (.iaload, 1) := by decide +kernel
theorem dX6_show_96 : decode cX6_show 96 = .ok (.iconst 1, 1) := by decide +kernel
theorem dX6_show_97 : decode cX6_show 97 = .ok (.iadd, 1) := by decide +kernel
theorem dX6_show_98 : decode cX6_show 98 = .ok (.iastore, 1) := by decide +kernel
theorem dX6_show_99 : decode cX6_show 99 = .ok (.iload_n 1, 1) := by decide +kernel
theorem dX6_show_100 : decode cX6_show 100 = .ok (.ireturn, 1) := by decide +kernel
theorem dX6_undo_0 : decode cX6_undo 0 = .ok (.aload_n 0, 1) := by decide +kernel
theorem dX6_undo_1 : decode cX6_undo 1 = .ok (.getfield 29, 3) := by decide +kernel
theorem dX6_undo_4 : decode cX6_undo 4 = .ok (.ifCond .ne 6, 3) := by decide +kernel
theorem dX6_undo_7 : decode cX6_undo 7 = .ok (.ldc 80, 2) := by decide +kernel
theorem dX6_undo_9 : decode cX6_undo 9 = .ok (.ireturn, 1) := by decide +kernel
theorem dX6_undo_10 : decode cX6_undo 10 = .ok (.aload_n 0, 1) := by decide +kernel
theorem dX6_undo_11 : decode cX6_undo 11 = .ok (.aload_n 0, 1) := by decide +kernel
theorem dX6_undo_12 : decode cX6_undo 12 = .ok (.getfield 29, 3) := by decide +kernel
theorem dX6_undo_15 : decode cX6_undo 15 = .ok (.iconst 0, 1) := by decide +kernel
theorem dX6_undo_16 : decode cX6_undo 16 = .ok (.invokevirtual 33, 3) := by decide +kernel
theorem dX6_undo_19 : decode cX6_undo 19 = .ok (.aload_n 0, 1) := by decide +kernel
theorem dX6_undo_20 : decode cX6_undo 20 = .ok (.dup, 1) := by decide +kernel
theorem dX6_undo_21 : decode cX6_undo 21 = .ok (.getfield 29, 3) := by decide +kernel
theorem dX6_undo_24 : decode cX6_undo 24 = .ok (.iconst 1, 1) := by decide +kernel
theorem dX6_undo_25 : decode cX6_undo 25 = .ok (.isub, 1) := by decide +kernel
theorem dX6_undo_26 : decode cX6_undo 26 = .ok (.putfield 29, 3) := by decide +kernel
theorem dX6_undo_29 : decode cX6_undo 29 = .ok (.aload_n 0, 1) := by decide +kernel
theorem dX6_undo_30 : decode cX6_undo 30 = .ok (.getfield 29, 3) := by decide +kernel
theorem dX6_undo_33 : decode cX6_undo 33 = .ok (.ireturn, 1) := by decide +kernel
theorem dX6_keep_0 : decode cX6_keep 0 = .ok (.aload_n 0, 1) := by decide +kernel
theorem dX6_keep_1 : decode cX6_keep 1 = .ok (.iconst 0, 1) := by decide +kernel
theorem dX6_keep_2 : decode cX6_keep 2 = .ok (.iconst 5, 1) := by decide +kernel
theorem dX6_keep_3 : decode cX6_keep 3 = .ok (.invokevirtual 33, 3) := by decide +kernel
theorem dX6_keep_6 : decode cX6_keep 6 = .ok (.aload_n 0, 1) := by decide +kernel
theorem dX6_keep_7 : decode cX6_keep 7 = .ok (.iconst 1, 1) := by decide +kernel
theorem dX6_keep_8 : decode cX6_keep 8 = .ok (.putfield 139, 3) := by decide +kernel
theorem dX6_keep_11 : decode cX6_keep 11 = .ok (.aload_n 0, 1) := by decide +kernel
theorem dX6_keep_12 : decode cX6_keep 12 = .ok (.getfield 7, 3) := by decide +kernel
theorem dX6_keep_15 : decode cX6_keep 15 = .ok (.sipush 203, 3) := by decide +kernel
theorem dX6_keep_18 : decode cX6_keep 18 = .ok (.iaload, 1) := by decide +kernel
theorem dX6_keep_19 : decode cX6_keep 19 = .ok (.ireturn, 1) := by decide +kernel
theorem dX6_restore_0 : decode cX6_restore 0 = .ok (.aload_n 0, 1) := by decide +kernel
theorem dX6_restore_1 : decode cX6_restore 1 = .ok (.getfield 139, 3) := by decide +kernel
theorem dX6_restore_4 : decode cX6_restore 4 = .ok (.ifCond .ne 6, 3) := by decide +kernel
theorem dX6_restore_7 : decode cX6_restore 7 = .ok (.ldc 80, 2) := by decide +kernel
theorem dX6_restore_9 : decode cX6_restore 9 = .ok (.ireturn, 1) := by decide +kernel
theorem dX6_restore_10 : decode cX6_restore 10 = .ok (.aload_n 0, 1) := by decide +kernel
theorem dX6_restore_11 : decode cX6_restore 11 = .ok (.invokevirtual 81, 3) := by decide +kernel
theorem dX6_restore_14 : decode cX6_restore 14 = .ok (.aload_n 0, 1) := by decide +kernel
theorem dX6_restore_15 : decode cX6_restore 15 = .ok (.iconst 5, 1) := by decide +kernel
theorem dX6_restore_16 : decode cX6_restore 16 = .ok (.iconst 0, 1) := by decide +kernel
theorem dX6_restore_17 : decode cX6_restore 17 = .ok (.invokevirtual 33, 3) := by decide +kernel
theorem dX6_restore_20 : decode cX6_restore 20 = .ok (.aload_n 0, 1) := by decide +kernel
theorem dX6_restore_21 : decode cX6_restore 21 = .ok (.getfield 7, 3) := by decide +kernel
theorem dX6_restore_24 : decode cX6_restore 24 = .ok (.sipush 203, 3) := by decide +kernel
theorem dX6_restore_27 : decode cX6_restore 27 = .ok (.iaload, 1) := by decide +kernel
theorem dX6_restore_28 : decode cX6_restore 28 = .ok (.ireturn, 1) := by decide +kernel
theorem dX6_sitter_0 : decode cX6_sitter 0 = .ok (.iload_n 1, 1) := by decide +kernel
theorem dX6_sitter_1 : decode cX6_sitter 1 = .ok (.iconst 0, 1) := by decide +kernel
theorem dX6_sitter_2 : decode cX6_sitter 2 = .ok (.iconst 5, 1) := by decide +kernel
theorem dX6_sitter_3 : decode cX6_sitter 3 = .ok (.invokestatic 75, 3) := by decide +kernel
theorem dX6_sitter_6 : decode cX6_sitter 6 = .ok (.ifCond .eq 26, 3) := by decide +kernel
theorem dX6_sitter_9 : decode cX6_sitter 9 = .ok (.iload_n 2, 1) := by decide +kernel
theorem dX6_sitter_10 : decode cX6_sitter 10 = .ok (.iconst 0, 1) := by decide +kernel
theorem dX6_sitter_11 : decode cX6_sitter 11 = .ok (.iconst 5, 1) := by decide +kernel
theorem dX6_sitter_12 : decode cX6_sitter 12 = .ok (.invokestatic 75, 3) := by decide +kernel
theorem dX6_sitter_15 : decode cX6_sitter 15 = .ok (.ifCond .eq 17, 3) := by decide +kernel
theorem dX6_sitter_18 : decode cX6_sitter 18 = .ok (.aload_n 0, 1) := by decide +kernel
theorem dX6_sitter_19 : decode cX6_sitter 19 = .ok (.getfield 7, 3) := by decide +kernel
theorem dX6_sitter_22 : decode cX6_sitter 22 = .ok (.bipush 6, 2) := by decide +kernel
theorem dX6_sitter_24 : decode cX6_sitter 24 = .ok (.iload_n 1, 1) := by decide +kernel
theorem dX6_sitter_25 : decode cX6_sitter 25 = .ok (.imul, 1) := by decide +kernel
theorem dX6_sitter_26 : decode cX6_sitter 26 = .ok (.iload_n 2, 1) := by decide +kernel
theorem dX6_sitter_27 : decode cX6_sitter 27 = .ok (.iadd, 1) := by decide +kernel
theorem dX6_sitter_28 : decode cX6_sitter 28 = .ok (.iaload, 1) := by decide +kernel
theorem dX6_sitter_29 : decode cX6_sitter 29 = .ok (.goto 5, 3) := by decide +kernel
theorem dX6_sitter_32 : decode cX6_sitter 32 = .ok (.ldc 78, 2) := by decide +kernel
theorem dX6_sitter_34 : decode cX6_sitter 34 = .ok (.ireturn, 1) := by decide +kernel
theorem dX6_tone_0 : decode cX6_tone 0 = .ok (.iload_n 2, 1) := by decide +kernel
theorem dX6_tone_1 : decode cX6_tone 1 = .ok (.iconst 0, 1) := by decide +kernel
theorem dX6_tone_2 : decode cX6_tone 2 = .ok (.iconst 3, 1) := by decide +kernel
theorem dX6_tone_3 : decode cX6_tone 3 = .ok (.invokestatic 75, 3) := by decide +kernel
theorem dX6_tone_6 : decode cX6_tone 6 = .ok (.ifCond .eq 22, 3) := by decide +kernel
theorem dX6_tone_9 : decode cX6_tone 9 = .ok (.iload_n 3, 1) := by decide +kernel
theorem dX6_tone_10 : decode cX6_tone 10 = .ok (.iconst 0, 1) := by decide +kernel
theorem dX6_tone_11 : decode cX6_tone 11 = .ok (.iconst 5, 1) := by decide +kernel
theorem dX6_tone_12 : decode cX6_tone 12 = .ok (.invokestatic 75, 3) := by decide +kernel
theorem dX6_tone_15 : decode cX6_tone 15 = .ok (.ifCond .eq 13, 3) := by decide +kernel
theorem dX6_tone_18 : decode cX6_tone 18 = .ok (.iload 4, 2) := by decide +kernel
theorem dX6_tone_20 : decode cX6_tone 20 = .ok (.iconst 0, 1) := by decide +kernel
theorem dX6_tone_21 : decode cX6_tone 21 = .ok (.iconst 2, 1) := by decide +kernel
theorem dX6_tone_22 : decode cX6_tone 22 = .ok (.invokestatic 75, 3) := by decide +kernel
theorem dX6_tone_25 : decode cX6_tone 25 = .ok (.ifCond .ne 6, 3) := by decide +kernel
theorem dX6_tone_28 : decode cX6_tone 28 = .ok (.ldc 78, 2) := by decide +kernel
theorem dX6_tone_30 : decode cX6_tone 30 = .ok (.ireturn, 1) := by decide +kernel
theorem dX6_tone_31 : decode cX6_tone 31 = .ok (.aload_n 0, 1) := by decide +kernel
theorem dX6_tone_32 : decode cX6_tone 32 = .ok (.getfield 7, 3) := by decide +kernel
theorem dX6_tone_35 : decode cX6_tone 35 = .ok (.iload_n 1, 1) := by decide +kernel
theorem dX6_tone_36 : decode cX6_tone 36 = .ok (.iload_n 2, 1) := by decide +kernel
theorem dX6_tone_37 : decode cX6_tone 37 = .ok (.invokestatic 84, 3) := by decide +kernel
theorem dX6_tone_40 : decode cX6_tone 40 = .ok (.iconst 3, 1) := by decide +kernel
theorem dX6_tone_41 : decode cX6_tone 41 = .ok (.iload_n 3, 1) := by decide +kernel
theorem dX6_tone_42 : decode cX6_tone 42 = .ok (.imul, 1) := by decide +kernel
theorem dX6_tone_43 : decode cX6_tone 43 = .ok (.iload 4, 2) := by decide +kernel
theorem dX6_tone_45 : decode cX6_tone 45 = .ok (.iadd, 1) := by decide +kernel
theorem dX6_tone_46 : decode cX6_tone 46 = .ok (.invokestatic 37, 3) := by decide +kernel
theorem dX6_tone_49 : decode cX6_tone 49 = .ok (.iaload, 1) := by decide +kernel
theorem dX6_tone_50 : decode cX6_tone 50 = .ok (.ireturn, 1) := by decide +kernel
theorem dX6_right_0 : decode cX6_right 0 = .ok (.iconst 0, 1) := by decide +kernel
theorem dX6_right_1 : decode cX6_right 1 = .ok (.istore_n 2, 1) := by decide +kernel
theorem dX6_right_2 : decode cX6_right 2 = .ok (.iconst 0, 1) := by decide +kernel
theorem dX6_right_3 : decode cX6_right 3 = .ok (.istore_n 3, 1) := by decide +kernel
theorem dX6_right_4 : decode cX6_right 4 = .ok (.iload_n 3, 1) := by decide +kernel
theorem dX6_right_5 : decode cX6_right 5 = .ok (.bipush 18, 2) := by decide +kernel
theorem dX6_right_7 : decode cX6_right 7 = .ok (.if_icmp .ge 26, 3) := by decide +kernel
theorem dX6_right_10 : decode cX6_right 10 = .ok (.iload_n 2, 1) := by decide +kernel
theorem dX6_right_11 : decode cX6_right 11 = .ok (.aload_n 0, 1) := by decide +kernel
theorem dX6_right_12 : decode cX6_right 12 = .ok (.iload_n 1, 1) := by decide +kernel
theorem dX6_right_13 : decode cX6_right 13 = .ok (.iload_n 3, 1) := by decide +kernel
theorem dX6_right_14 : decode cX6_right 14 = .ok (.invokevirtual 47, 3) := by decide +kernel
theorem dX6_right_17 : decode cX6_right 17 = .ok (.ifCond .ne 7, 3) := by decide +kernel
theorem dX6_right_20 : decode cX6_right 20 = .ok (.iconst 1, 1) := by decide +kernel
theorem dX6_right_21 : decode cX6_right 21 = .ok (.goto 4, 3) := by decide +kernel
theorem dX6_right_24 : decode cX6_right 24 = .ok (.iconst 0, 1) := by decide +kernel
theorem dX6_right_25 : decode cX6_right 25 = .ok (.iadd, 1) := by decide +kernel
theorem dX6_right_26 : decode cX6_right 26 = .ok (.istore_n 2, 1) := by decide +kernel
theorem dX6_right_27 : decode cX6_right 27 = .ok (.iinc 3 1, 3) := by decide +kernel
theorem dX6_right_30 : decode cX6_right 30 = .ok (.goto (-26), 3) := by decide +kernel
theorem dX6_right_33 : decode cX6_right 33 = .ok (.iload_n 2, 1) := by decide +kernel
theorem dX6_right_34 : decode cX6_right 34 = .ok (.ireturn, 1) := by decide +kernel
theorem dX6_painter_0 : decode cX6_painter 0 = .ok (.iload_n 2, 1) := by decide +kernel
theorem dX6_painter_1 : decode cX6_painter 1 = .ok (.iconst 0, 1) := by decide +kernel
theorem dX6_painter_2 : decode cX6_painter 2 = .ok (.iconst 3, 1) := by decide +kernel
theorem dX6_painter_3 : decode cX6_painter 3 = .ok (.invokestatic 75, 3) := by decide +kernel
theorem dX6_painter_6 : decode cX6_painter 6 = .ok (.ifCond .ne 6, 3) := by decide +kernel
theorem dX6_painter_9 : decode cX6_painter 9 = .ok (.ldc 78, 2) := by decide +kernel
theorem dX6_painter_11 : decode cX6_painter 11 = .ok (.ireturn, 1) := by decide +kernel
theorem dX6_painter_12 : decode cX6_painter 12 = .ok (.iload_n 1, 1) := by decide +kernel
theorem dX6_painter_13 : decode cX6_painter 13 = .ok (.iload_n 2, 1) := by decide +kernel
theorem dX6_painter_14 : decode cX6_painter 14 = .ok (.invokestatic 84, 3) := by decide +kernel
theorem dX6_painter_17 : decode cX6_painter 17 = .ok (.istore 4, 2) := by decide +kernel
theorem dX6_painter_19 : decode cX6_painter 19 = .ok (.aload_n 0, 1) := by decide +kernel
theorem dX6_painter_20 : decode cX6_painter 20 = .ok (.iload 4, 2) := by decide +kernel
theorem dX6_painter_22 : decode cX6_painter 22 = .ok (.invokevirtual 89, 3) := by decide +kernel
theorem dX6_painter_25 : decode cX6_painter 25 = .ok (.istore 5, 2) := by decide +kernel
theorem dX6_painter_27 : decode cX6_painter 27 = .ok (.iload_n 3, 1) := by decide +kernel
theorem dX6_painter_28 : decode cX6_painter 28 = .ok (.tableswitch 126 0 7 #[48, 60, 67, 90, 102, 105, 112, 119], 48) := by decide +kernel
theorem dX6_painter_76 : decode cX6_painter 76 = .ok (.aload_n 0, 1) := by decide +kernel
theorem dX6_painter_77 : decode cX6_painter 77 = .ok (.getfield 7, 3) := by decide +kernel
theorem dX6_painter_80 : decode cX6_painter 80 = .ok (.sipush 180, 3) := by decide +kernel
theorem dX6_painter_83 : decode cX6_painter 83 = .ok (.iload 4, 2) := by decide +kernel
theorem dX6_painter_85 : decode cX6_painter 85 = .ok (.iadd, 1) := by decide +kernel
theorem dX6_painter_86 : decode cX6_painter 86 = .ok (.iaload, 1) := by decide +kernel
theorem dX6_painter_87 : decode cX6_painter 87 = .ok (.ireturn, 1) := by decide +kernel
theorem dX6_painter_88 : decode cX6_painter 88 = .ok (.aload_n 0, 1) := by decide +kernel
theorem dX6_painter_89 : decode cX6_painter 89 = .ok (.iload 4, 2) := by decide +kernel
theorem dX6_painter_91 : decode cX6_painter 91 = .ok (.invokevirtual 61, 3) := by decide +kernel
theorem dX6_painter_94 : decode cX6_painter 94 = .ok (.ireturn, 1) := by decide +kernel
theorem dX6_painter_95 : decode cX6_painter 95 = .ok (.iload_n 1, 1) := by decide +kernel
theorem dX6_painter_96 : decode cX6_painter 96 = .ok (.ifCond .eq 11, 3) := by decide +kernel
theorem dX6_painter_99 : decode cX6_painter 99 = .ok (.aload_n 0, 1) := by decide +kernel
theorem dX6_painter_100 : decode cX6_painter 100 = .ok (.iload_n 2, 1) := by decide +kernel
theorem dX6_painter_101 : decode cX6_painter 101 = .ok (.invokevirtual 124, 3) := by decide +kernel
theorem dX6_painter_104 : decode cX6_painter 104 = .ok (.goto 13, 3) := by decide +kernel
theorem dX6_painter_107 : decode cX6_painter 107 = .ok (.aload_n 0, 1) := by decide +kernel
theorem dX6_painter_108 : decode cX6_painter 108 = .ok (.getfield 7, 3) := by decide +kernel
theorem dX6_painter_111 : decode cX6_painter 111 = .ok (.sipush 188, 3) := by decide +kernel
theorem dX6_painter_114 : decode cX6_painter 114 = .ok (.iload_n 2, 1) := by decide +kernel
theorem dX6_painter_115 : decode cX6_painter 115 = .ok (.iadd, 1) := by decide +kernel
theorem dX6_painter_116 : decode cX6_painter 116 = .ok (.iaload, 1) := by decide +kernel
theorem dX6_painter_117 : decode cX6_painter 117 = .ok (.ireturn, 1) := by decide +kernel
theorem dX6_painter_118 : decode cX6_painter 118 = .ok (.aload_n 0, 1) := by decide +kernel
theorem dX6_painter_119 : decode cX6_painter 119 = .ok (.getfield 7, 3) := by decide +kernel
theorem dX6_painter_122 : decode cX6_painter 122 = .ok (.sipush 192, 3) := by decide +kernel
theorem dX6_painter_125 : decode cX6_painter 125 = .ok (.iload 4, 2) := by decide +kernel
theorem dX6_painter_127 : decode cX6_painter 127 = .ok (.iadd, 1) := by decide +kernel
theorem dX6_painter_128 : decode cX6_painter 128 = .ok (.iaload, 1) := by decide +kernel
theorem dX6_painter_129 : decode cX6_painter 129 = .ok (.ireturn, 1) := by decide +kernel
theorem dX6_painter_130 : decode cX6_painter 130 = .ok (.iload 5, 2) := by decide +kernel
theorem dX6_painter_132 : decode cX6_painter 132 = .ok (.ireturn, 1) := by decide +kernel
theorem dX6_painter_133 : decode cX6_painter 133 = .ok (.aload_n 0, 1) := by decide +kernel
theorem dX6_painter_134 : decode cX6_painter 134 = .ok (.getfield 50, 3) := by decide +kernel
theorem dX6_painter_137 : decode cX6_painter 137 = .ok (.iconst 3, 1) := by decide +kernel
theorem dX6_painter_138 : decode cX6_painter 138 = .ok (.idiv, 1) := by decide +kernel
theorem dX6_painter_139 : decode cX6_painter 139 = .ok (.ireturn, 1) := by decide +kernel
theorem dX6_painter_140 : decode cX6_painter 140 = .ok (.aload_n 0, 1) := by decide +kernel
theorem dX6_painter_141 : decode cX6_painter 141 = .ok (.getfield 50, 3) := by decide +kernel
theorem dX6_painter_144 : decode cX6_painter 144 = .ok (.iconst 3, 1) := by decide +kernel
theorem dX6_painter_145 : decode cX6_painter 145 = .ok (.irem, 1) := by decide +kernel
theorem dX6_painter_146 : decode cX6_painter 146 = .ok (.ireturn, 1) := by decide +kernel
theorem dX6_painter_147 : decode cX6_painter 147 = .ok (.aload_n 0, 1) := by decide +kernel
theorem dX6_painter_148 : decode cX6_painter 148 = .ok (.iload 4, 2) := by decide +kernel
theorem dX6_painter_150 : decode cX6_painter 150 = .ok (.invokevirtual 142, 3) := by decide +kernel
theorem dX6_painter_153 : decode cX6_painter 153 = .ok (.ireturn, 1) := by decide +kernel
theorem dX6_painter_154 : decode cX6_painter 154 = .ok (.ldc 79, 2) := by decide +kernel
theorem dX6_painter_156 : decode cX6_painter 156 = .ok (.ireturn, 1) := by decide +kernel
theorem dX6_face_0 : decode cX6_face 0 = .ok (.iload_n 1, 1) := by decide +kernel
theorem dX6_face_1 : decode cX6_face 1 = .ok (.iconst 0, 1) := by decide +kernel
theorem dX6_face_2 : decode cX6_face 2 = .ok (.iconst 3, 1) := by decide +kernel
theorem dX6_face_3 : decode cX6_face 3 = .ok (.invokestatic 75, 3) := by decide +kernel
theorem dX6_face_6 : decode cX6_face 6 = .ok (.ifCond .eq 12, 3) := by decide +kernel
theorem dX6_face_9 : decode cX6_face 9 = .ok (.iload_n 2, 1) := by decide +kernel
theorem dX6_face_10 : decode cX6_face 10 = .ok (.iconst 0, 1) := by decide +kernel
theorem dX6_face_11 : decode cX6_face 11 = .ok (.iconst 3, 1) := by decide +kernel
theorem dX6_face_12 : decode cX6_face 12 = .ok (.invokestatic 75, 3) := by decide +kernel
theorem dX6_face_15 : decode cX6_face 15 = .ok (.ifCond .ne 6, 3) := by decide +kernel
theorem dX6_face_18 : decode cX6_face 18 = .ok (.ldc 78, 2) := by decide +kernel
theorem dX6_face_20 : decode cX6_face 20 = .ok (.ireturn, 1) := by decide +kernel
theorem dX6_face_21 : decode cX6_face 21 = .ok (.ldc 80, 2) := by decide +kernel
theorem dX6_face_23 : decode cX6_face 23 = .ok (.istore 4, 2) := by decide +kernel
theorem dX6_face_25 : decode cX6_face 25 = .ok (.iconst 0, 1) := by decide +kernel
theorem dX6_face_26 : decode cX6_face 26 = .ok (.istore 5, 2) := by decide +kernel
theorem dX6_face_28 : decode cX6_face 28 = .ok (.iconst 5, 1) := by decide +kernel
theorem dX6_face_29 : decode cX6_face 29 = .ok (.istore 6, 2) := by decide +kernel
theorem dX6_face_31 : decode cX6_face 31 = .ok (.iload 6, 2) := by decide +kernel
theorem dX6_face_33 : decode cX6_face 33 = .ok (.ifCond .lt 46, 3) := by decide +kernel
theorem dX6_face_36 : decode cX6_face 36 = .ok (.aload_n 0, 1) := by decide +kernel
theorem dX6_face_37 : decode cX6_face 37 = .ok (.iload_n 1, 1) := by decide +kernel
theorem dX6_face_38 : decode cX6_face 38 = .ok (.iload_n 2, 1) := by decide +kernel
theorem dX6_face_39 : decode cX6_face 39 = .ok (.iload 6, 2) := by decide +kernel
theorem dX6_face_41 : decode cX6_face 41 = .ok (.invokevirtual 57, 3) := by decide +kernel
theorem dX6_face_44 : decode cX6_face 44 = .ok (.ifCond .eq 8, 3) := by decide +kernel
theorem dX6_face_47 : decode cX6_face 47 = .ok (.iload 6, 2) := by decide +kernel
theorem dX6_face_49 : decode cX6_face 49 = .ok (.goto 5, 3) := by decide +kernel
theorem dX6_face_52 : decode cX6_face 52 = .ok (.iload 4, 2) := by decide +kernel
theorem dX6_face_54 : decode cX6_face 54 = .ok (.istore 4, 2) := by decide +kernel
theorem dX6_face_56 : decode cX6_face 56 = .ok (.iload 5, 2) := by decide +kernel
theorem dX6_face_58 : decode cX6_face 58 = .ok (.aload_n 0, 1) := by decide +kernel
theorem dX6_face_59 : decode cX6_face 59 = .ok (.iload_n 1, 1) := by decide +kernel
theorem dX6_face_60 : decode cX6_face 60 = .ok (.iload_n 2, 1) := by decide +kernel
theorem dX6_face_61 : decode cX6_face 61 = .ok (.iload 6, 2) := by decide +kernel
theorem dX6_face_63 : decode cX6_face 63 = .ok (.invokevirtual 53, 3) := by decide +kernel
theorem dX6_face_66 : decode cX6_face 66 = .ok (.iconst 0, 1) := by decide +kernel
theorem dX6_face_67 : decode cX6_face 67 = .ok (.invokestatic 44, 3) := by decide +kernel
theorem dX6_face_70 : decode cX6_face 70 = .ok (.iadd, 1) := by decide +kernel
theorem dX6_face_71 : decode cX6_face 71 = .ok (.istore 5, 2) := by decide +kernel
theorem dX6_face_73 : decode cX6_face 73 = .ok (.iinc 6 (-1), 3) := by decide +kernel
theorem dX6_face_76 : decode cX6_face 76 = .ok (.goto (-45), 3) := by decide +kernel
theorem dX6_face_79 : decode cX6_face 79 = .ok (.iload_n 3, 1) := by decide +kernel
theorem dX6_face_80 : decode cX6_face 80 = .ok (.tableswitch 52 0 3 #[32, 39, 46, 49], 32) := by decide +kernel
theorem dX6_face_112 : decode cX6_face 112 = .ok (.aload_n 0, 1) := by decide +kernel
theorem dX6_face_113 : decode cX6_face 113 = .ok (.iload_n 1, 1) := by decide +kernel
theorem dX6_face_114 : decode cX6_face 114 = .ok (.iload_n 2, 1) := by decide +kernel
theorem dX6_face_115 : decode cX6_face 115 = .ok (.invokevirtual 72, 3) := by decide +kernel
theorem dX6_face_118 : decode cX6_face 118 = .ok (.ireturn, 1) := by decide +kernel
theorem dX6_face_119 : decode cX6_face 119 = .ok (.aload_n 0, 1) := by decide +kernel
theorem dX6_face_120 : decode cX6_face 120 = .ok (.iload_n 1, 1) := by decide +kernel
theorem dX6_face_121 : decode cX6_face 121 = .ok (.iload_n 2, 1) := by decide +kernel
theorem dX6_face_122 : decode cX6_face 122 = .ok (.invokevirtual 65, 3) := by decide +kernel
theorem dX6_face_125 : decode cX6_face 125 = .ok (.ireturn, 1) := by decide +kernel
theorem dX6_face_126 : decode cX6_face 126 = .ok (.iload 4, 2) := by decide +kernel
theorem dX6_face_128 : decode cX6_face 128 = .ok (.ireturn, 1) := by decide +kernel
theorem dX6_face_129 : decode cX6_face 129 = .ok (.iload 5, 2) := by decide +kernel
theorem dX6_face_131 : decode cX6_face 131 = .ok (.ireturn, 1) := by decide +kernel
theorem dX6_face_132 : decode cX6_face 132 = .ok (.ldc 79, 2) := by decide +kernel
theorem dX6_face_134 : decode cX6_face 134 = .ok (.ireturn, 1) := by decide +kernel
theorem dX6_bestFor_0 : decode cX6_bestFor 0 = .ok (.iload_n 1, 1) := by decide +kernel
theorem dX6_bestFor_1 : decode cX6_bestFor 1 = .ok (.iconst 0, 1) := by decide +kernel
theorem dX6_bestFor_2 : decode cX6_bestFor 2 = .ok (.iconst 3, 1) := by decide +kernel
theorem dX6_bestFor_3 : decode cX6_bestFor 3 = .ok (.invokestatic 75, 3) := by decide +kernel
theorem dX6_bestFor_6 : decode cX6_bestFor 6 = .ok (.ifCond .ne 6, 3) := by decide +kernel
theorem dX6_bestFor_9 : decode cX6_bestFor 9 = .ok (.ldc 78, 2) := by decide +kernel
theorem dX6_bestFor_11 : decode cX6_bestFor 11 = .ok (.ireturn, 1) := by decide +kernel
theorem dX6_bestFor_12 : decode cX6_bestFor 12 = .ok (.aload_n 0, 1) := by decide +kernel
theorem dX6_bestFor_13 : decode cX6_bestFor 13 = .ok (.invokevirtual 127, 3) := by decide +kernel
theorem dX6_bestFor_16 : decode cX6_bestFor 16 = .ok (.aload_n 0, 1) := by decide +kernel
theorem dX6_bestFor_17 : decode cX6_bestFor 17 = .ok (.getfield 26, 3) := by decide +kernel
theorem dX6_bestFor_20 : decode cX6_bestFor 20 = .ok (.iload_n 1, 1) := by decide +kernel
theorem dX6_bestFor_21 : decode cX6_bestFor 21 = .ok (.iaload, 1) := by decide +kernel
theorem dX6_bestFor_22 : decode cX6_bestFor 22 = .ok (.ireturn, 1) := by decide +kernel
theorem dX6_ranked_0 : decode cX6_ranked 0 = .ok (.iload_n 1, 1) := by decide +kernel
theorem dX6_ranked_1 : decode cX6_ranked 1 = .ok (.iconst 0, 1) := by decide +kernel
theorem dX6_ranked_2 : decode cX6_ranked 2 = .ok (.iconst 3, 1) := by decide +kernel
theorem dX6_ranked_3 : decode cX6_ranked 3 = .ok (.invokestatic 75, 3) := by decide +kernel
theorem dX6_ranked_6 : decode cX6_ranked 6 = .ok (.ifCond .eq 12, 3) := by decide +kernel
theorem dX6_ranked_9 : decode cX6_ranked 9 = .ok (.iload_n 2, 1) := by decide +kernel
theorem dX6_ranked_10 : decode cX6_ranked 10 = .ok (.iconst 0, 1) := by decide +kernel
theorem dX6_ranked_11 : decode cX6_ranked 11 = .ok (.iconst 2, 1) := by decide +kernel
theorem dX6_ranked_12 : decode cX6_ranked 12 = .ok (.invokestatic 75, 3) := by decide +kernel
theorem dX6_ranked_15 : decode cX6_ranked 15 = .ok (.ifCond .ne 6, 3) := by decide +kernel
theorem dX6_ranked_18 : decode cX6_ranked 18 = .ok (.ldc 79, 2) := by decide +kernel
theorem dX6_ranked_20 : decode cX6_ranked 20 = .ok (.ireturn, 1) := by decide +kernel
theorem dX6_ranked_21 : decode cX6_ranked 21 = .ok (.aload_n 0, 1) := by decide +kernel
theorem dX6_ranked_22 : decode cX6_ranked 22 = .ok (.iload_n 1, 1) := by decide +kernel
theorem dX6_ranked_23 : decode cX6_ranked 23 = .ok (.invokevirtual 133, 3) := by decide +kernel
theorem dX6_ranked_26 : decode cX6_ranked 26 = .ok (.istore_n 3, 1) := by decide +kernel
theorem dX6_ranked_27 : decode cX6_ranked 27 = .ok (.iload_n 2, 1) := by decide +kernel
theorem dX6_ranked_28 : decode cX6_ranked 28 = .ok (.ifCond .ne 7, 3) := by decide +kernel
theorem dX6_ranked_31 : decode cX6_ranked 31 = .ok (.iload_n 3, 1) := by decide +kernel
theorem dX6_ranked_32 : decode cX6_ranked 32 = .ok (.goto 21, 3) := by decide +kernel
theorem dX6_ranked_35 : decode cX6_ranked 35 = .ok (.iload_n 2, 1) := by decide +kernel
theorem dX6_ranked_36 : decode cX6_ranked 36 = .ok (.iconst 1, 1) := by decide +kernel
theorem dX6_ranked_37 : decode cX6_ranked 37 = .ok (.if_icmp .ne 11, 3) := by decide +kernel
theorem dX6_ranked_40 : decode cX6_ranked 40 = .ok (.aload_n 0, 1) := by decide +kernel
theorem dX6_ranked_41 : decode cX6_ranked 41 = .ok (.iload_n 3, 1) := by decide +kernel
theorem dX6_ranked_42 : decode cX6_ranked 42 = .ok (.invokevirtual 130, 3) := by decide +kernel
theorem dX6_ranked_45 : decode cX6_ranked 45 = .ok (.goto 8, 3) := by decide +kernel
theorem dX6_ranked_48 : decode cX6_ranked 48 = .ok (.aload_n 0, 1) := by decide +kernel
theorem dX6_ranked_49 : decode cX6_ranked 49 = .ok (.iload_n 1, 1) := by decide +kernel
theorem dX6_ranked_50 : decode cX6_ranked 50 = .ok (.invokevirtual 136, 3) := by decide +kernel
theorem dX6_ranked_53 : decode cX6_ranked 53 = .ok (.ireturn, 1) := by decide +kernel
theorem dX6_ofAll_0 : decode cX6_ofAll 0 = .ok (.iconst 0, 1) := by decide +kernel
theorem dX6_ofAll_1 : decode cX6_ofAll 1 = .ok (.istore_n 2, 1) := by decide +kernel
theorem dX6_ofAll_2 : decode cX6_ofAll 2 = .ok (.iconst 0, 1) := by decide +kernel
theorem dX6_ofAll_3 : decode cX6_ofAll 3 = .ok (.istore_n 3, 1) := by decide +kernel
theorem dX6_ofAll_4 : decode cX6_ofAll 4 = .ok (.iload_n 3, 1) := by decide +kernel
theorem dX6_ofAll_5 : decode cX6_ofAll 5 = .ok (.bipush 8, 2) := by decide +kernel
theorem dX6_ofAll_7 : decode cX6_ofAll 7 = .ok (.if_icmp .ge 78, 3) := by decide +kernel
theorem dX6_ofAll_10 : decode cX6_ofAll 10 = .ok (.iload_n 1, 1) := by decide +kernel
theorem dX6_ofAll_11 : decode cX6_ofAll 11 = .ok (.iconst 1, 1) := by decide +kernel
theorem dX6_ofAll_12 : decode cX6_ofAll 12 = .ok (.if_icmp .le 32, 3) := by decide +kernel
theorem dX6_ofAll_15 : decode cX6_ofAll 15 = .ok (.iload_n 2, 1) := by decide +kernel
theorem dX6_ofAll_16 : decode cX6_ofAll 16 = .ok (.iload_n 1, 1) := by decide +kernel
theorem dX6_ofAll_17 : decode cX6_ofAll 17 = .ok (.iconst 2, 1) := by decide +kernel
theorem dX6_ofAll_18 : decode cX6_ofAll 18 = .ok (.if_icmp .ne 16, 3) := by decide +kernel
theorem dX6_ofAll_21 : decode cX6_ofAll 21 = .ok (.aload_n 0, 1) := by decide +kernel
theorem dX6_ofAll_22 : decode cX6_ofAll 22 = .ok (.getfield 7, 3) := by decide +kernel
theorem dX6_ofAll_25 : decode cX6_ofAll 25 = .ok (.sipush 192, 3) := by decide +kernel
theorem dX6_ofAll_28 : decode cX6_ofAll 28 = .ok (.iload_n 3, 1) := by decide +kernel
theorem dX6_ofAll_29 : decode cX6_ofAll 29 = .ok (.iadd, 1) := by decide +kernel
theorem dX6_ofAll_30 : decode cX6_ofAll 30 = .ok (.iaload, 1) := by decide +kernel
theorem dX6_ofAll_31 : decode cX6_ofAll 31 = .ok (.goto 8, 3) := by decide +kernel
theorem dX6_ofAll_34 : decode cX6_ofAll 34 = .ok (.aload_n 0, 1) := by decide +kernel
theorem dX6_ofAll_35 : decode cX6_ofAll 35 = .ok (.iload_n 3, 1) := by decide +kernel
theorem dX6_ofAll_36 : decode cX6_ofAll 36 = .ok (.invokevirtual 61, 3) := by decide +kernel
theorem dX6_ofAll_39 : decode cX6_ofAll 39 = .ok (.iadd, 1) := by decide +kernel
theorem dX6_ofAll_40 : decode cX6_ofAll 40 = .ok (.istore_n 2, 1) := by decide +kernel
theorem dX6_ofAll_41 : decode cX6_ofAll 41 = .ok (.goto 38, 3) := by decide +kernel
theorem dX6_ofAll_44 : decode cX6_ofAll 44 = .ok (.iload_n 3, 1) := by decide +kernel
theorem dX6_ofAll_45 : decode cX6_ofAll 45 = .ok (.iconst 4, 1) := by decide +kernel
theorem dX6_ofAll_46 : decode cX6_ofAll 46 = .ok (.if_icmp .ge 33, 3) := by decide +kernel
theorem dX6_ofAll_49 : decode cX6_ofAll 49 = .ok (.iload_n 2, 1) := by decide +kernel
theorem dX6_ofAll_50 : decode cX6_ofAll 50 = .ok (.iload_n 1, 1) := by decide +kernel
theorem dX6_ofAll_51 : decode cX6_ofAll 51 = .ok (.ifCond .ne 21, 3) := by decide +kernel
theorem dX6_ofAll_54 : decode cX6_ofAll 54 = .ok (.aload_n 0, 1) := by decide +kernel
theorem dX6_ofAll_55 : decode cX6_ofAll 55 = .ok (.iload_n 3, 1) := by decide +kernel
theorem dX6_ofAll_56 : decode cX6_ofAll 56 = .ok (.aload_n 0, 1) := by decide +kernel
theorem dX6_ofAll_57 : decode cX6_ofAll 57 = .ok (.getfield 7, 3) := by decide +kernel
theorem dX6_ofAll_60 : decode cX6_ofAll 60 = .ok (.sipush 188, 3) := by decide +kernel
theorem dX6_ofAll_63 : decode cX6_ofAll 63 = .ok (.iload_n 3, 1) := by decide +kernel
theorem dX6_ofAll_64 : decode cX6_ofAll 64 = .ok (.iadd, 1) := by decide +kernel
theorem dX6_ofAll_65 : decode cX6_ofAll 65 = .ok (.iaload, 1) := by decide +kernel
theorem dX6_ofAll_66 : decode cX6_ofAll 66 = .ok (.invokevirtual 65, 3) := by decide +kernel
theorem dX6_ofAll_69 : decode cX6_ofAll 69 = .ok (.goto 8, 3) := by decide +kernel
theorem dX6_ofAll_72 : decode cX6_ofAll 72 = .ok (.aload_n 0, 1) := by decide +kernel
theorem dX6_ofAll_73 : decode cX6_ofAll 73 = .ok (.iload_n 3, 1) := by decide +kernel
theorem dX6_ofAll_74 : decode cX6_ofAll 74 = .ok (.invokevirtual 130, 3) := by decide +kernel
theorem dX6_ofAll_77 : decode cX6_ofAll 77 = .ok (.iadd, 1) := by decide +kernel
theorem dX6_ofAll_78 : decode cX6_ofAll 78 = .ok (.istore_n 2, 1) := by decide +kernel
theorem dX6_ofAll_79 : decode cX6_ofAll 79 = .ok (.iinc 3 1, 3) := by decide +kernel
theorem dX6_ofAll_82 : decode cX6_ofAll 82 = .ok (.goto (-78), 3) := by decide +kernel
theorem dX6_ofAll_85 : decode cX6_ofAll 85 = .ok (.iload_n 2, 1) := by decide +kernel
theorem dX6_ofAll_86 : decode cX6_ofAll 86 = .ok (.ireturn, 1) := by decide +kernel
theorem dX6_count_0 : decode cX6_count 0 = .ok (.iload_n 1, 1) := by decide +kernel
theorem dX6_count_1 : decode cX6_count 1 = .ok (.tableswitch 113 0 10 #[59, 59, 59, 59, 70, 76, 82, 88, 97, 103, 108], 59) := by decide +kernel
theorem dX6_count_60 : decode cX6_count 60 = .ok (.aload_n 0, 1) := by decide +kernel
theorem dX6_count_61 : decode cX6_count 61 = .ok (.getfield 7, 3) := by decide +kernel
theorem dX6_count_64 : decode cX6_count 64 = .ok (.sipush 200, 3) := by decide +kernel
theorem dX6_count_67 : decode cX6_count 67 = .ok (.iload_n 1, 1) := by decide +kernel
theorem dX6_count_68 : decode cX6_count 68 = .ok (.iadd, 1) := by decide +kernel
theorem dX6_count_69 : decode cX6_count 69 = .ok (.iaload, 1) := by decide +kernel
theorem dX6_count_70 : decode cX6_count 70 = .ok (.ireturn, 1) := by decide +kernel
theorem dX6_count_71 : decode cX6_count 71 = .ok (.aload_n 0, 1) := by decide +kernel
theorem dX6_count_72 : decode cX6_count 72 = .ok (.iconst 2, 1) := by decide +kernel
theorem dX6_count_73 : decode cX6_count 73 = .ok (.invokevirtual 145, 3) := by decide +kernel
theorem dX6_count_76 : decode cX6_count 76 = .ok (.ireturn, 1) := by decide +kernel
theorem dX6_count_77 : decode cX6_count 77 = .ok (.aload_n 0, 1) := by decide +kernel
theorem dX6_count_78 : decode cX6_count 78 = .ok (.iconst 0, 1) := by decide +kernel
theorem dX6_count_79 : decode cX6_count 79 = .ok (.invokevirtual 145, 3) := by decide +kernel
theorem dX6_count_82 : decode cX6_count 82 = .ok (.ireturn, 1) := by decide +kernel
theorem dX6_count_83 : decode cX6_count 83 = .ok (.aload_n 0, 1) := by decide +kernel
theorem dX6_count_84 : decode cX6_count 84 = .ok (.iconst 1, 1) := by decide +kernel
theorem dX6_count_85 : decode cX6_count 85 = .ok (.invokevirtual 145, 3) := by decide +kernel
theorem dX6_count_88 : decode cX6_count 88 = .ok (.ireturn, 1) := by decide +kernel
theorem dX6_count_89 : decode cX6_count 89 = .ok (.aload_n 0, 1) := by decide +kernel
theorem dX6_count_90 : decode cX6_count 90 = .ok (.invokevirtual 127, 3) := by decide +kernel
theorem dX6_count_93 : decode cX6_count 93 = .ok (.aload_n 0, 1) := by decide +kernel
theorem dX6_count_94 : decode cX6_count 94 = .ok (.getfield 69, 3) := by decide +kernel
theorem dX6_count_97 : decode cX6_count 97 = .ok (.ireturn, 1) := by decide +kernel
theorem dX6_count_98 : decode cX6_count 98 = .ok (.aload_n 0, 1) := by decide +kernel
theorem dX6_count_99 : decode cX6_count 99 = .ok (.iconst 3, 1) := by decide +kernel
theorem dX6_count_100 : decode cX6_count 100 = .ok (.invokevirtual 145, 3) := by decide +kernel
theorem dX6_count_103 : decode cX6_count 103 = .ok (.ireturn, 1) := by decide +kernel
theorem dX6_count_104 : decode cX6_count 104 = .ok (.aload_n 0, 1) := by decide +kernel
theorem dX6_count_105 : decode cX6_count 105 = .ok (.getfield 29, 3) := by decide +kernel
theorem dX6_count_108 : decode cX6_count 108 = .ok (.ireturn, 1) := by decide +kernel
theorem dX6_count_109 : decode cX6_count 109 = .ok (.aload_n 0, 1) := by decide +kernel
theorem dX6_count_110 : decode cX6_count 110 = .ok (.getfield 99, 3) := by decide +kernel
theorem dX6_count_113 : decode cX6_count 113 = .ok (.ireturn, 1) := by decide +kernel
theorem dX6_count_114 : decode cX6_count 114 = .ok (.ldc 79, 2) := by decide +kernel
theorem dX6_count_116 : decode cX6_count 116 = .ok (.ireturn, 1) := by decide +kernel
