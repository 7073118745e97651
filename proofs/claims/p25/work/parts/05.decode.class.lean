/-! DECODE ROWS -/
theorem dX0_init_0 : decode cX0_init 0 = .ok (.aload_n 0, 1) := by decide +kernel
theorem dX0_init_1 : decode cX0_init 1 = .ok (.invokespecial 3, 3) := by decide +kernel
theorem dX0_init_4 : decode cX0_init 4 = .ok (.aload_n 0, 1) := by decide +kernel
theorem dX0_init_5 : decode cX0_init 5 = .ok (.bipush 16, 2) := by decide +kernel
theorem dX0_init_7 : decode cX0_init 7 = .ok (.newarray .int, 2) := by decide +kernel
theorem dX0_init_9 : decode cX0_init 9 = .ok (.putfield 9, 3) := by decide +kernel
theorem dX0_init_12 : decode cX0_init 12 = .ok (.aload_n 0, 1) := by decide +kernel
theorem dX0_init_13 : decode cX0_init 13 = .ok (.iconst 4, 1) := by decide +kernel
theorem dX0_init_14 : decode cX0_init 14 = .ok (.newarray .int, 2) := by decide +kernel
theorem dX0_init_16 : decode cX0_init 16 = .ok (.putfield 15, 3) := by decide +kernel
theorem dX0_init_19 : decode cX0_init 19 = .ok (.return_, 1) := by decide +kernel
theorem dX0_sum_0 : decode cX0_sum 0 = .ok (.aload_n 0, 1) := by decide +kernel
theorem dX0_sum_1 : decode cX0_sum 1 = .ok (.getfield 18, 3) := by decide +kernel
theorem dX0_sum_4 : decode cX0_sum 4 = .ok (.ireturn, 1) := by decide +kernel
theorem dX0_rightOf_0 : decode cX0_rightOf 0 = .ok (.aload_n 0, 1) := by decide +kernel
theorem dX0_rightOf_1 : decode cX0_rightOf 1 = .ok (.getfield 15, 3) := by decide +kernel
theorem dX0_rightOf_4 : decode cX0_rightOf 4 = .ok (.iload_n 1, 1) := by decide +kernel
theorem dX0_rightOf_5 : decode cX0_rightOf 5 = .ok (.iaload, 1) := by decide +kernel
theorem dX0_rightOf_6 : decode cX0_rightOf 6 = .ok (.ireturn, 1) := by decide +kernel
theorem dX0_find_0 : decode cX0_find 0 = .ok (.iconst 0, 1) := by decide +kernel
theorem dX0_find_1 : decode cX0_find 1 = .ok (.istore_n 2, 1) := by decide +kernel
theorem dX0_find_2 : decode cX0_find 2 = .ok (.iload_n 2, 1) := by decide +kernel
theorem dX0_find_3 : decode cX0_find 3 = .ok (.iconst 4, 1) := by decide +kernel
theorem dX0_find_4 : decode cX0_find 4 = .ok (.if_icmp .ge 38, 3) := by decide +kernel
theorem dX0_find_7 : decode cX0_find 7 = .ok (.iconst 0, 1) := by decide +kernel
theorem dX0_find_8 : decode cX0_find 8 = .ok (.istore_n 3, 1) := by decide +kernel
theorem dX0_find_9 : decode cX0_find 9 = .ok (.iload_n 3, 1) := by decide +kernel
theorem dX0_find_10 : decode cX0_find 10 = .ok (.iconst 4, 1) := by decide +kernel
theorem dX0_find_11 : decode cX0_find 11 = .ok (.if_icmp .ge 25, 3) := by decide +kernel
theorem dX0_find_14 : decode cX0_find 14 = .ok (.aload_n 0, 1) := by decide +kernel
theorem dX0_find_15 : decode cX0_find 15 = .ok (.getfield 9, 3) := by decide +kernel
theorem dX0_find_18 : decode cX0_find 18 = .ok (.iload_n 2, 1) := by decide +kernel
theorem dX0_find_19 : decode cX0_find 19 = .ok (.iconst 4, 1) := by decide +kernel
theorem dX0_find_20 : decode cX0_find 20 = .ok (.imul, 1) := by decide +kernel
theorem dX0_find_21 : decode cX0_find 21 = .ok (.iload_n 3, 1) := by decide +kernel
theorem dX0_find_22 : decode cX0_find 22 = .ok (.iadd, 1) := by decide +kernel
theorem dX0_find_23 : decode cX0_find 23 = .ok (.aload_n 1, 1) := by decide +kernel
theorem dX0_find_24 : decode cX0_find 24 = .ok (.iload_n 2, 1) := by decide +kernel
theorem dX0_find_25 : decode cX0_find 25 = .ok (.iload_n 3, 1) := by decide +kernel
theorem dX0_find_26 : decode cX0_find 26 = .ok (.invokevirtual 22, 3) := by decide +kernel
theorem dX0_find_29 : decode cX0_find 29 = .ok (.iastore, 1) := by decide +kernel
theorem dX0_find_30 : decode cX0_find 30 = .ok (.iinc 3 1, 3) := by decide +kernel
theorem dX0_find_33 : decode cX0_find 33 = .ok (.goto (-24), 3) := by decide +kernel
theorem dX0_find_36 : decode cX0_find 36 = .ok (.iinc 2 1, 3) := by decide +kernel
theorem dX0_find_39 : decode cX0_find 39 = .ok (.goto (-37), 3) := by decide +kernel
theorem dX0_find_42 : decode cX0_find 42 = .ok (.aload_n 0, 1) := by decide +kernel
theorem dX0_find_43 : decode cX0_find 43 = .ok (.ldc 28, 2) := by decide +kernel
theorem dX0_find_45 : decode cX0_find 45 = .ok (.putfield 18, 3) := by decide +kernel
theorem dX0_find_48 : decode cX0_find 48 = .ok (.iconst 0, 1) := by decide +kernel
theorem dX0_find_49 : decode cX0_find 49 = .ok (.istore_n 2, 1) := by decide +kernel
theorem dX0_find_50 : decode cX0_find 50 = .ok (.iload_n 2, 1) := by decide +kernel
theorem dX0_find_51 : decode cX0_find 51 = .ok (.iconst 4, 1) := by decide +kernel
theorem dX0_find_52 : decode cX0_find 52 = .ok (.if_icmp .ge 33, 3) := by decide +kernel
theorem dX0_find_55 : decode cX0_find 55 = .ok (.iconst 0, 1) := by decide +kernel
theorem dX0_find_56 : decode cX0_find 56 = .ok (.istore_n 3, 1) := by decide +kernel
theorem dX0_find_57 : decode cX0_find 57 = .ok (.iload_n 3, 1) := by decide +kernel
theorem dX0_find_58 : decode cX0_find 58 = .ok (.iconst 4, 1) := by decide +kernel
theorem dX0_find_59 : decode cX0_find 59 = .ok (.if_icmp .ge 20, 3) := by decide +kernel
theorem dX0_find_62 : decode cX0_find 62 = .ok (.iload_n 3, 1) := by decide +kernel
theorem dX0_find_63 : decode cX0_find 63 = .ok (.iload_n 2, 1) := by decide +kernel
theorem dX0_find_64 : decode cX0_find 64 = .ok (.if_icmp .eq 9, 3) := by decide +kernel
theorem dX0_find_67 : decode cX0_find 67 = .ok (.aload_n 0, 1) := by decide +kernel
theorem dX0_find_68 : decode cX0_find 68 = .ok (.iload_n 2, 1) := by decide +kernel
theorem dX0_find_69 : decode cX0_find 69 = .ok (.iload_n 3, 1) := by decide +kernel
theorem dX0_find_70 : decode cX0_find 70 = .ok (.invokevirtual 29, 3) := by decide +kernel
theorem dX0_find_73 : decode cX0_find 73 = .ok (.iinc 3 1, 3) := by decide +kernel
theorem dX0_find_76 : decode cX0_find 76 = .ok (.goto (-19), 3) := by decide +kernel
theorem dX0_find_79 : decode cX0_find 79 = .ok (.iinc 2 1, 3) := by decide +kernel
theorem dX0_find_82 : decode cX0_find 82 = .ok (.goto (-32), 3) := by decide +kernel
theorem dX0_find_85 : decode cX0_find 85 = .ok (.return_, 1) := by decide +kernel
theorem dX0_tryWith_0 : decode cX0_tryWith 0 = .ok (.iconst 0, 1) := by decide +kernel
theorem dX0_tryWith_1 : decode cX0_tryWith 1 = .ok (.istore_n 3, 1) := by decide +kernel
theorem dX0_tryWith_2 : decode cX0_tryWith 2 = .ok (.iload_n 3, 1) := by decide +kernel
theorem dX0_tryWith_3 : decode cX0_tryWith 3 = .ok (.iconst 4, 1) := by decide +kernel
theorem dX0_tryWith_4 : decode cX0_tryWith 4 = .ok (.if_icmp .ge 111, 3) := by decide +kernel
theorem dX0_tryWith_7 : decode cX0_tryWith 7 = .ok (.iload_n 3, 1) := by decide +kernel
theorem dX0_tryWith_8 : decode cX0_tryWith 8 = .ok (.iload_n 1, 1) := by decide +kernel
theorem dX0_tryWith_9 : decode cX0_tryWith 9 = .ok (.if_icmp .eq 100, 3) := by decide +kernel
theorem dX0_tryWith_12 : decode cX0_tryWith 12 = .ok (.iload_n 3, 1) := by decide +kernel
theorem dX0_tryWith_13 : decode cX0_tryWith 13 = .ok (.iload_n 2, 1) := by decide +kernel
theorem dX0_tryWith_14 : decode cX0_tryWith 14 = .ok (.if_icmp .eq 95, 3) := by decide +kernel
theorem dX0_tryWith_17 : decode cX0_tryWith 17 = .ok (.bipush 6, 2) := by decide +kernel
theorem dX0_tryWith_19 : decode cX0_tryWith 19 = .ok (.iload_n 1, 1) := by decide +kernel
theorem dX0_tryWith_20 : decode cX0_tryWith 20 = .ok (.isub, 1) := by decide +kernel
theorem dX0_tryWith_21 : decode cX0_tryWith 21 = .ok (.iload_n 2, 1) := by decide +kernel
theorem dX0_tryWith_22 : decode cX0_tryWith 22 = .ok (.isub, 1) := by decide +kernel
theorem dX0_tryWith_23 : decode cX0_tryWith 23 = .ok (.iload_n 3, 1) := by decide +kernel
theorem dX0_tryWith_24 : decode cX0_tryWith 24 = .ok (.isub, 1) := by decide +kernel
theorem dX0_tryWith_25 : decode cX0_tryWith 25 = .ok (.istore 4, 2) := by decide +kernel
theorem dX0_tryWith_27 : decode cX0_tryWith 27 = .ok (.aload_n 0, 1) := by decide +kernel
theorem dX0_tryWith_28 : decode cX0_tryWith 28 = .ok (.getfield 9, 3) := by decide +kernel
theorem dX0_tryWith_31 : decode cX0_tryWith 31 = .ok (.iload_n 1, 1) := by decide +kernel
theorem dX0_tryWith_32 : decode cX0_tryWith 32 = .ok (.iaload, 1) := by decide +kernel
theorem dX0_tryWith_33 : decode cX0_tryWith 33 = .ok (.aload_n 0, 1) := by decide +kernel
theorem dX0_tryWith_34 : decode cX0_tryWith 34 = .ok (.getfield 9, 3) := by decide +kernel
theorem dX0_tryWith_37 : decode cX0_tryWith 37 = .ok (.iconst 4, 1) := by decide +kernel
theorem dX0_tryWith_38 : decode cX0_tryWith 38 = .ok (.iload_n 2, 1) := by decide +kernel
theorem dX0_tryWith_39 : decode cX0_tryWith 39 = .ok (.iadd, 1) := by decide +kernel
theorem dX0_tryWith_40 : decode cX0_tryWith 40 = .ok (.iaload, 1) := by decide +kernel
theorem dX0_tryWith_41 : decode cX0_tryWith 41 = .ok (.iadd, 1) := by decide +kernel
theorem dX0_tryWith_42 : decode cX0_tryWith 42 = .ok (.aload_n 0, 1) := by decide +kernel
theorem dX0_tryWith_43 : decode cX0_tryWith 43 = .ok (.getfield 9, 3) := by decide +kernel
theorem dX0_tryWith_46 : decode cX0_tryWith 46 = .ok (.bipush 8, 2) := by decide +kernel
theorem dX0_tryWith_48 : decode cX0_tryWith 48 = .ok (.iload_n 3, 1) := by decide +kernel
theorem dX0_tryWith_49 : decode cX0_tryWith 49 = .ok (.iadd, 1) := by decide +kernel
theorem dX0_tryWith_50 : decode cX0_tryWith 50 = .ok (.iaload, 1) := by decide +kernel
theorem dX0_tryWith_51 : decode cX0_tryWith 51 = .ok (.iadd, 1) := by decide +kernel
theorem dX0_tryWith_52 : decode cX0_tryWith 52 = .ok (.aload_n 0, 1) := by decide +kernel
theorem dX0_tryWith_53 : decode cX0_tryWith 53 = .ok (.getfield 9, 3) := by decide +kernel
theorem dX0_tryWith_56 : decode cX0_tryWith 56 = .ok (.bipush 12, 2) := by decide +kernel
theorem dX0_tryWith_58 : decode cX0_tryWith 58 = .ok (.iload 4, 2) := by decide +kernel
theorem dX0_tryWith_60 : decode cX0_tryWith 60 = .ok (.iadd, 1) := by decide +kernel
theorem dX0_tryWith_61 : decode cX0_tryWith 61 = .ok (.iaload, 1) := by decide +kernel
theorem dX0_tryWith_62 : decode cX0_tryWith 62 = .ok (.iadd, 1) := by decide +kernel
theorem dX0_tryWith_63 : decode cX0_tryWith 63 = .ok (.istore 5, 2) := by decide +kernel
theorem dX0_tryWith_65 : decode cX0_tryWith 65 = .ok (.iload 5, 2) := by decide +kernel
theorem dX0_tryWith_67 : decode cX0_tryWith 67 = .ok (.aload_n 0, 1) := by decide +kernel
theorem dX0_tryWith_68 : decode cX0_tryWith 68 = .ok (.getfield 18, 3) := by decide +kernel
theorem dX0_tryWith_71 : decode cX0_tryWith 71 = .ok (.if_icmp .le 38, 3) := by decide +kernel
theorem dX0_tryWith_74 : decode cX0_tryWith 74 = .ok (.aload_n 0, 1) := by decide +kernel
theorem dX0_tryWith_75 : decode cX0_tryWith 75 = .ok (.iload 5, 2) := by decide +kernel
theorem dX0_tryWith_77 : decode cX0_tryWith 77 = .ok (.putfield 18, 3) := by decide +kernel
theorem dX0_tryWith_80 : decode cX0_tryWith 80 = .ok (.aload_n 0, 1) := by decide +kernel
theorem dX0_tryWith_81 : decode cX0_tryWith 81 = .ok (.getfield 15, 3) := by decide +kernel
theorem dX0_tryWith_84 : decode cX0_tryWith 84 = .ok (.iconst 0, 1) := by decide +kernel
theorem dX0_tryWith_85 : decode cX0_tryWith 85 = .ok (.iload_n 1, 1) := by decide +kernel
theorem dX0_tryWith_86 : decode cX0_tryWith 86 = .ok (.iastore, 1) := by decide +kernel
theorem dX0_tryWith_87 : decode cX0_tryWith 87 = .ok (.aload_n 0, 1) := by decide +kernel
theorem dX0_tryWith_88 : decode cX0_tryWith 88 = .ok (.getfield 15, 3) := by decide +kernel
theorem dX0_tryWith_91 : decode cX0_tryWith 91 = .ok (.iconst 1, 1) := by decide +kernel
theorem dX0_tryWith_92 : decode cX0_tryWith 92 = .ok (.iload_n 2, 1) := by decide +kernel
theorem dX0_tryWith_93 : decode cX0_tryWith 93 = .ok (.iastore, 1) := by decide +kernel
theorem dX0_tryWith_94 : decode cX0_tryWith 94 = .ok (.aload_n 0, 1) := by decide +kernel
theorem dX0_tryWith_95 : decode cX0_tryWith 95 = .ok (.getfield 15, 3) := by decide +kernel
theorem dX0_tryWith_98 : decode cX0_tryWith 98 = .ok (.iconst 2, 1) := by decide +kernel
theorem dX0_tryWith_99 : decode cX0_tryWith 99 = .ok (.iload_n 3, 1) := by decide +kernel
theorem dX0_tryWith_100 : decode cX0_tryWith 100 = .ok (.iastore, 1) := by decide +kernel
theorem dX0_tryWith_101 : decode cX0_tryWith 101 = .ok (.aload_n 0, 1) := by decide +kernel
theorem dX0_tryWith_102 : decode cX0_tryWith 102 = .ok (.getfield 15, 3) := by decide +kernel
theorem dX0_tryWith_105 : decode cX0_tryWith 105 = .ok (.iconst 3, 1) := by decide +kernel
theorem dX0_tryWith_106 : decode cX0_tryWith 106 = .ok (.iload 4, 2) := by decide +kernel
theorem dX0_tryWith_108 : decode cX0_tryWith 108 = .ok (.iastore, 1) := by decide +kernel
theorem dX0_tryWith_109 : decode cX0_tryWith 109 = .ok (.iinc 3 1, 3) := by decide +kernel
theorem dX0_tryWith_112 : decode cX0_tryWith 112 = .ok (.goto (-110), 3) := by decide +kernel
theorem dX0_tryWith_115 : decode cX0_tryWith 115 = .ok (.return_, 1) := by decide +kernel
theorem dX1_init_0 : decode cX1_init 0 = .ok (.aload_n 0, 1) := by decide +kernel
theorem dX1_init_1 : decode cX1_init 1 = .ok (.invokespecial 1, 3) := by decide +kernel
theorem dX1_init_4 : decode cX1_init 4 = .ok (.aload_n 0, 1) := by decide +kernel
theorem dX1_init_5 : decode cX1_init 5 = .ok (.sipush 816, 3) := by decide +kernel
theorem dX1_init_8 : decode cX1_init 8 = .ok (.newarray .int, 2) := by decide +kernel
theorem dX1_init_10 : decode cX1_init 10 = .ok (.putfield 11, 3) := by decide +kernel
theorem dX1_init_13 : decode cX1_init 13 = .ok (.return_, 1) := by decide +kernel
theorem dX1_size_0 : decode cX1_size 0 = .ok (.aload_n 0, 1) := by decide +kernel
theorem dX1_size_1 : decode cX1_size 1 = .ok (.getfield 15, 3) := by decide +kernel
theorem dX1_size_4 : decode cX1_size 4 = .ok (.ireturn, 1) := by decide +kernel
theorem dX1_remember_0 : decode cX1_remember 0 = .ok (.aload_n 0, 1) := by decide +kernel
theorem dX1_remember_1 : decode cX1_remember 1 = .ok (.getfield 15, 3) := by decide +kernel
theorem dX1_remember_4 : decode cX1_remember 4 = .ok (.iconst 4, 1) := by decide +kernel
theorem dX1_remember_5 : decode cX1_remember 5 = .ok (.if_icmp .ne 7, 3) := by decide +kernel
theorem dX1_remember_8 : decode cX1_remember 8 = .ok (.aload_n 0, 1) := by decide +kernel
theorem dX1_remember_9 : decode cX1_remember 9 = .ok (.invokevirtual 19, 3) := by decide +kernel
theorem dX1_remember_12 : decode cX1_remember 12 = .ok (.aload_n 1, 1) := by decide +kernel
theorem dX1_remember_13 : decode cX1_remember 13 = .ok (.getfield 22, 3) := by decide +kernel
theorem dX1_remember_16 : decode cX1_remember 16 = .ok (.iconst 0, 1) := by decide +kernel
theorem dX1_remember_17 : decode cX1_remember 17 = .ok (.aload_n 0, 1) := by decide +kernel
theorem dX1_remember_18 : decode cX1_remember 18 = .ok (.getfield 11, 3) := by decide +kernel
theorem dX1_remember_21 : decode cX1_remember 21 = .ok (.aload_n 0, 1) := by decide +kernel
theorem dX1_remember_22 : decode cX1_remember 22 = .ok (.getfield 15, 3) := by decide +kernel
theorem dX1_remember_25 : decode cX1_remember 25 = .ok (.sipush 204, 3) := by decide +kernel
theorem dX1_remember_28 : decode cX1_remember 28 = .ok (.imul, 1) := by decide +kernel
theorem dX1_remember_29 : decode cX1_remember 29 = .ok (.sipush 204, 3) := by decide +kernel
theorem dX1_remember_32 : decode cX1_remember 32 = .ok (.invokestatic 23, 3) := by decide +kernel
theorem dX1_remember_35 : decode cX1_remember 35 = .ok (.aload_n 0, 1) := by decide +kernel
theorem dX1_remember_36 : decode cX1_remember 36 = .ok (.dup, 1) := by decide +kernel
theorem dX1_remember_37 : decode cX1_remember 37 = .ok (.getfield 15, 3) := by decide +kernel
theorem dX1_remember_40 : decode cX1_remember 40 = .ok (.iconst 1, 1) := by decide +kernel
theorem dX1_remember_41 : decode cX1_remember 41 = .ok (.iadd, 1) := by decide +kernel
theorem dX1_remember_42 : decode cX1_remember 42 = .ok (.putfield 15, 3) := by decide +kernel
theorem dX1_remember_45 : decode cX1_remember 45 = .ok (.return_, 1) := by decide +kernel
theorem dX1_dropOldest_0 : decode cX1_dropOldest 0 = .ok (.aload_n 0, 1) := by decide +kernel
theorem dX1_dropOldest_1 : decode cX1_dropOldest 1 = .ok (.getfield 11, 3) := by decide +kernel
theorem dX1_dropOldest_4 : decode cX1_dropOldest 4 = .ok (.sipush 204, 3) := by decide +kernel
theorem dX1_dropOldest_7 : decode cX1_dropOldest 7 = .ok (.aload_n 0, 1) := by decide +kernel
theorem dX1_dropOldest_8 : decode cX1_dropOldest 8 = .ok (.getfield 11, 3) := by decide +kernel
theorem dX1_dropOldest_11 : decode cX1_dropOldest 11 = .ok (.iconst 0, 1) := by decide +kernel
theorem dX1_dropOldest_12 : decode cX1_dropOldest 12 = .ok (.sipush 612, 3) := by decide +kernel
theorem dX1_dropOldest_15 : decode cX1_dropOldest 15 = .ok (.invokestatic 23, 3) := by decide +kernel
theorem dX1_dropOldest_18 : decode cX1_dropOldest 18 = .ok (.aload_n 0, 1) := by decide +kernel
theorem dX1_dropOldest_19 : decode cX1_dropOldest 19 = .ok (.iconst 3, 1) := by decide +kernel
theorem dX1_dropOldest_20 : decode cX1_dropOldest 20 = .ok (.putfield 15, 3) := by decide +kernel
theorem dX1_dropOldest_23 : decode cX1_dropOldest 23 = .ok (.return_, 1) := by decide +kernel
theorem dX1_recall_0 : decode cX1_recall 0 = .ok (.aload_n 0, 1) := by decide +kernel
theorem dX1_recall_1 : decode cX1_recall 1 = .ok (.getfield 15, 3) := by decide +kernel
theorem dX1_recall_4 : decode cX1_recall 4 = .ok (.ifCond .ne 5, 3) := by decide +kernel
theorem dX1_recall_7 : decode cX1_recall 7 = .ok (.iconst 0, 1) := by decide +kernel
theorem dX1_recall_8 : decode cX1_recall 8 = .ok (.ireturn, 1) := by decide +kernel
theorem dX1_recall_9 : decode cX1_recall 9 = .ok (.aload_n 0, 1) := by decide +kernel
theorem dX1_recall_10 : decode cX1_recall 10 = .ok (.dup, 1) := by decide +kernel
theorem dX1_recall_11 : decode cX1_recall 11 = .ok (.getfield 15, 3) := by decide +kernel
theorem dX1_recall_14 : decode cX1_recall 14 = .ok (.iconst 1, 1) := by decide +kernel
theorem dX1_recall_15 : decode cX1_recall 15 = .ok (.isub, 1) := by decide +kernel
theorem dX1_recall_16 : decode cX1_recall 16 = .ok (.putfield 15, 3) := by decide +kernel
theorem dX1_recall_19 : decode cX1_recall 19 = .ok (.aload_n 0, 1) := by decide +kernel
theorem dX1_recall_20 : decode cX1_recall 20 = .ok (.getfield 11, 3) := by decide +kernel
theorem dX1_recall_23 : decode cX1_recall 23 = .ok (.aload_n 0, 1) := by decide +kernel
theorem dX1_recall_24 : decode cX1_recall 24 = .ok (.getfield 15, 3) := by decide +kernel
theorem dX1_recall_27 : decode cX1_recall 27 = .ok (.sipush 204, 3) := by decide +kernel
theorem dX1_recall_30 : decode cX1_recall 30 = .ok (.imul, 1) := by decide +kernel
theorem dX1_recall_31 : decode cX1_recall 31 = .ok (.aload_n 1, 1) := by decide +kernel
theorem dX1_recall_32 : decode cX1_recall 32 = .ok (.getfield 22, 3) := by decide +kernel
theorem dX1_recall_35 : decode cX1_recall 35 = .ok (.iconst 0, 1) := by decide +kernel
theorem dX1_recall_36 : decode cX1_recall 36 = .ok (.sipush 204, 3) := by decide +kernel
theorem dX1_recall_39 : decode cX1_recall 39 = .ok (.invokestatic 23, 3) := by decide +kernel
theorem dX1_recall_42 : decode cX1_recall 42 = .ok (.iconst 1, 1) := by decide +kernel
theorem dX1_recall_43 : decode cX1_recall 43 = .ok (.ireturn, 1) := by decide +kernel
theorem dX2_init_0 : decode cX2_init 0 = .ok (.aload_n 0, 1) := by decide +kernel
theorem dX2_init_1 : decode cX2_init 1 = .ok (.invokespecial 3, 3) := by decide +kernel
theorem dX2_init_4 : decode cX2_init 4 = .ok (.aload_n 0, 1) := by decide +kernel
theorem dX2_init_5 : decode cX2_init 5 = .ok (.iconst 4, 1) := by decide +kernel
theorem dX2_init_6 : decode cX2_init 6 = .ok (.newarray .int, 2) := by decide +kernel
theorem dX2_init_8 : decode cX2_init 8 = .ok (.putfield 9, 3) := by decide +kernel
theorem dX2_init_11 : decode cX2_init 11 = .ok (.aload_n 0, 1) := by decide +kernel
theorem dX2_init_12 : decode cX2_init 12 = .ok (.iconst 4, 1) := by decide +kernel
theorem dX2_init_13 : decode cX2_init 13 = .ok (.newarray .int, 2) := by decide +kernel
theorem dX2_init_15 : decode cX2_init 15 = .ok (.putfield 15, 3) := by decide +kernel
theorem dX2_init_18 : decode cX2_init 18 = .ok (.return_, 1) := by decide +kernel
theorem dX2_leftAt_0 : decode cX2_leftAt 0 = .ok (.aload_n 0, 1) := by decide +kernel
theorem dX2_leftAt_1 : decode cX2_leftAt 1 = .ok (.getfield 9, 3) := by decide +kernel
theorem dX2_leftAt_4 : decode cX2_leftAt 4 = .ok (.iload_n 1, 1) := by decide +kernel
theorem dX2_leftAt_5 : decode cX2_leftAt 5 = .ok (.iaload, 1) := by decide +kernel
theorem dX2_leftAt_6 : decode cX2_leftAt 6 = .ok (.ireturn, 1) := by decide +kernel
theorem dX2_likenessAt_0 : decode cX2_likenessAt 0 = .ok (.aload_n 0, 1) := by decide +kernel
theorem dX2_likenessAt_1 : decode cX2_likenessAt 1 = .ok (.getfield 15, 3) := by decide +kernel
theorem dX2_likenessAt_4 : decode cX2_likenessAt 4 = .ok (.iload_n 1, 1) := by decide +kernel
theorem dX2_likenessAt_5 : decode cX2_likenessAt 5 = .ok (.iaload, 1) := by decide +kernel
theorem dX2_likenessAt_6 : decode cX2_likenessAt 6 = .ok (.ireturn, 1) := by decide +kernel
theorem dX2_prizeAt_0 : decode cX2_prizeAt 0 = .ok (.aload_n 0, 1) := by decide +kernel
theorem dX2_prizeAt_1 : decode cX2_prizeAt 1 = .ok (.getfield 15, 3) := by decide +kernel
theorem dX2_prizeAt_4 : decode cX2_prizeAt 4 = .ok (.iload_n 1, 1) := by decide +kernel
theorem dX2_prizeAt_5 : decode cX2_prizeAt 5 = .ok (.iaload, 1) := by decide +kernel
theorem dX2_prizeAt_6 : decode cX2_prizeAt 6 = .ok (.sipush 500, 3) := by decide +kernel
theorem dX2_prizeAt_9 : decode cX2_prizeAt 9 = .ok (.if_icmp .ge 7, 3) := by decide +kernel
theorem dX2_prizeAt_12 : decode cX2_prizeAt 12 = .ok (.iconst 0, 1) := by decide +kernel
theorem dX2_prizeAt_13 : decode cX2_prizeAt 13 = .ok (.goto 8, 3) := by decide +kernel
theorem dX2_prizeAt_16 : decode cX2_prizeAt 16 = .ok (.getstatic 18, 3) := by decide +kernel
theorem dX2_prizeAt_19 : decode cX2_prizeAt 19 = .ok (.iload_n 1, 1) := by decide +kernel
theorem dX2_prizeAt_20 : decode cX2_prizeAt 20 = .ok (.iaload, 1) := by decide +kernel
theorem dX2_prizeAt_21 : decode cX2_prizeAt 21 = .ok (.ireturn, 1) := by decide +kernel
theorem dX2_rank_0 : decode cX2_rank 0 = .ok (.iconst 0, 1) := by decide +kernel
theorem dX2_rank_1 : decode cX2_rank 1 = .ok (.istore_n 2, 1) := by decide +kernel
theorem dX2_rank_2 : decode cX2_rank 2 = .ok (.iload_n 2, 1) := by decide +kernel
theorem dX2_rank_3 : decode cX2_rank 3 = .ok (.iconst 4, 1) := by decide +kernel
theorem dX2_rank_4 : decode cX2_rank 4 = .ok (.if_icmp .ge 24, 3) := by decide +kernel
theorem dX2_rank_7 : decode cX2_rank 7 = .ok (.aload_n 0, 1) := by decide +kernel
theorem dX2_rank_8 : decode cX2_rank 8 = .ok (.iload_n 2, 1) := by decide +kernel
theorem dX2_rank_9 : decode cX2_rank 9 = .ok (.aload_n 1, 1) := by decide +kernel
theorem dX2_rank_10 : decode cX2_rank 10 = .ok (.iload_n 2, 1) := by decide +kernel
theorem dX2_rank_11 : decode cX2_rank 11 = .ok (.aload_n 1, 1) := by decide +kernel
theorem dX2_rank_12 : decode cX2_rank 12 = .ok (.iload_n 2, 1) := by decide +kernel
theorem dX2_rank_13 : decode cX2_rank 13 = .ok (.invokevirtual 21, 3) := by decide +kernel
theorem dX2_rank_16 : decode cX2_rank 16 = .ok (.invokevirtual 27, 3) := by decide +kernel
theorem dX2_rank_19 : decode cX2_rank 19 = .ok (.invokevirtual 31, 3) := by decide +kernel
theorem dX2_rank_22 : decode cX2_rank 22 = .ok (.iinc 2 1, 3) := by decide +kernel
theorem dX2_rank_25 : decode cX2_rank 25 = .ok (.goto (-23), 3) := by decide +kernel
theorem dX2_rank_28 : decode cX2_rank 28 = .ok (.return_, 1) := by decide +kernel
theorem dX2_insert_0 : decode cX2_insert 0 = .ok (.iload_n 1, 1) := by decide +kernel
theorem dX2_insert_1 : decode cX2_insert 1 = .ok (.istore_n 3, 1) := by decide +kernel
theorem dX2_insert_2 : decode cX2_insert 2 = .ok (.iload_n 3, 1) := by decide +kernel
theorem dX2_insert_3 : decode cX2_insert 3 = .ok (.ifCond .le 49, 3) := by decide +kernel
theorem dX2_insert_6 : decode cX2_insert 6 = .ok (.aload_n 0, 1) := by decide +kernel
theorem dX2_insert_7 : decode cX2_insert 7 = .ok (.getfield 15, 3) := by decide +kernel
theorem dX2_insert_10 : decode cX2_insert 10 = .ok (.iload_n 3, 1) := by decide +kernel
theorem dX2_insert_11 : decode cX2_insert 11 = .ok (.iconst 1, 1) := by decide +kernel
theorem dX2_insert_12 : decode cX2_insert 12 = .ok (.isub, 1) := by decide +kernel
theorem dX2_insert_13 : decode cX2_insert 13 = .ok (.iaload, 1) := by decide +kernel
theorem dX2_insert_14 : decode cX2_insert 14 = .ok (.iload_n 2, 1) := by decide +kernel
theorem dX2_insert_15 : decode cX2_insert 15 = .ok (.if_icmp .ge 37, 3) := by decide +kernel
theorem dX2_insert_18 : decode cX2_insert 18 = .ok (.aload_n 0, 1) := by decide +kernel
theorem dX2_insert_19 : decode cX2_insert 19 = .ok (.getfield 9, 3) := by decide +kernel
theorem dX2_insert_22 : decode cX2_insert 22 = .ok (.iload_n 3, 1) := by decide +kernel
theorem dX2_insert_23 : decode cX2_insert 23 = .ok (.aload_n 0, 1) := by decide +kernel
theorem dX2_insert_24 : decode cX2_insert 24 = .ok (.getfield 9, 3) := by decide +kernel
theorem dX2_insert_27 : decode cX2_insert 27 = .ok (.iload_n 3, 1) := by decide +kernel
theorem dX2_insert_28 : decode cX2_insert 28 = .ok (.iconst 1, 1) := by decide +kernel
theorem dX2_insert_29 : decode cX2_insert 29 = .ok (.isub, 1) := by decide +kernel
theorem dX2_insert_30 : decode cX2_insert 30 = .ok (.iaload, 1) := by decide +kernel
theorem dX2_insert_31 : decode cX2_insert 31 = .ok (.iastore, 1) := by decide +kernel
theorem dX2_insert_32 : decode cX2_insert 32 = .ok (.aload_n 0, 1) := by decide +kernel
theorem dX2_insert_33 : decode cX2_insert 33 = .ok (.getfield 15, 3) := by decide +kernel
theorem dX2_insert_36 : decode cX2_insert 36 = .ok (.iload_n 3, 1) := by decide +kernel
theorem dX2_insert_37 : decode cX2_insert 37 = .ok (.aload_n 0, 1) := by decide +kernel
theorem dX2_insert_38 : decode cX2_insert 38 = .ok (.getfield 15, 3) := by decide +kernel
theorem dX2_insert_41 : decode cX2_insert 41 = .ok (.iload_n 3, 1) := by decide +kernel
theorem dX2_insert_42 : decode cX2_insert 42 = .ok (.iconst 1, 1) := by decide +kernel
theorem dX2_insert_43 : decode cX2_insert 43 = .ok (.isub, 1) := by decide +kernel
theorem dX2_insert_44 : decode cX2_insert 44 = .ok (.iaload, 1) := by decide +kernel
theorem dX2_insert_45 : decode cX2_insert 45 = .ok (.iastore, 1) := by decide +kernel
theorem dX2_insert_46 : decode cX2_insert 46 = .ok (.iinc 3 (-1), 3) := by decide +kernel
theorem dX2_insert_49 : decode cX2_insert 49 = .ok (.goto (-47), 3) := by decide +kernel
theorem dX2_insert_52 : decode cX2_insert 52 = .ok (.aload_n 0, 1) := by decide +kernel
theorem dX2_insert_53 : decode cX2_insert 53 = .ok (.getfield 9, 3) := by decide +kernel
theorem dX2_insert_56 : decode cX2_insert 56 = .ok (.iload_n 3, 1) := by decide +kernel
theorem dX2_insert_57 : decode cX2_insert 57 = .ok (.iload_n 1, 1) := by decide +kernel
theorem dX2_insert_58 : decode cX2_insert 58 = .ok (.iastore, 1) := by decide +kernel
theorem dX2_insert_59 : decode cX2_insert 59 = .ok (.aload_n 0, 1) := by decide +kernel
theorem dX2_insert_60 : decode cX2_insert 60 = .ok (.getfield 15, 3) := by decide +kernel
theorem dX2_insert_63 : decode cX2_insert 63 = .ok (.iload_n 3, 1) := by decide +kernel
theorem dX2_insert_64 : decode cX2_insert 64 = .ok (.iload_n 2, 1) := by decide +kernel
theorem dX2_insert_65 : decode cX2_insert 65 = .ok (.iastore, 1) := by decide +kernel
theorem dX2_insert_66 : decode cX2_insert 66 = .ok (.return_, 1) := by decide +kernel
theorem dX3_init_0 : decode cX3_init 0 = .ok (.aload_n 0, 1) := by decide +kernel
theorem dX3_init_1 : decode cX3_init 1 = .ok (.invokespecial 5, 3) := by decide +kernel
theorem dX3_init_4 : decode cX3_init 4 = .ok (.aload_n 0, 1) := by decide +kernel
theorem dX3_init_5 : decode cX3_init 5 = .ok (.sipush 204, 3) := by decide +kernel
theorem dX3_init_8 : decode cX3_init 8 = .ok (.newarray .int, 2) := by decide +kernel
theorem dX3_init_10 : decode cX3_init 10 = .ok (.putfield 11, 3) := by decide +kernel
theorem dX3_init_13 : decode cX3_init 13 = .ok (.iconst 0, 1) := by decide +kernel
theorem dX3_init_14 : decode cX3_init 14 = .ok (.istore_n 1, 1) := by decide +kernel
theorem dX3_init_15 : decode cX3_init 15 = .ok (.iload_n 1, 1) := by decide +kernel
theorem dX3_init_16 : decode cX3_init 16 = .ok (.bipush 8, 2) := by decide +kernel
theorem dX3_init_18 : decode cX3_init 18 = .ok (.if_icmp .ge 21, 3) := by decide +kernel
theorem dX3_init_21 : decode cX3_init 21 = .ok (.aload_n 0, 1) := by decide +kernel
theorem dX3_init_22 : decode cX3_init 22 = .ok (.getfield 11, 3) := by decide +kernel
theorem dX3_init_25 : decode cX3_init 25 = .ok (.sipush 180, 3) := by decide +kernel
theorem dX3_init_28 : decode cX3_init 28 = .ok (.iload_n 1, 1) := by decide +kernel
theorem dX3_init_29 : decode cX3_init 29 = .ok (.iadd, 1) := by decide +kernel
theorem dX3_init_30 : decode cX3_init 30 = .ok (.bipush 60, 2) := by decide +kernel
theorem dX3_init_32 : decode cX3_init 32 = .ok (.iastore, 1) := by decide +kernel
theorem dX3_init_33 : decode cX3_init 33 = .ok (.iinc 1 1, 3) := by decide +kernel
theorem dX3_init_36 : decode cX3_init 36 = .ok (.goto (-21), 3) := by decide +kernel
theorem dX3_init_39 : decode cX3_init 39 = .ok (.iconst 0, 1) := by decide +kernel
theorem dX3_init_40 : decode cX3_init 40 = .ok (.istore_n 1, 1) := by decide +kernel
theorem dX3_init_41 : decode cX3_init 41 = .ok (.iload_n 1, 1) := by decide +kernel
theorem dX3_init_42 : decode cX3_init 42 = .ok (.iconst 4, 1) := by decide +kernel
theorem dX3_init_43 : decode cX3_init 43 = .ok (.if_icmp .ge 20, 3) := by decide +kernel
theorem dX3_init_46 : decode cX3_init 46 = .ok (.aload_n 0, 1) := by decide +kernel
theorem dX3_init_47 : decode cX3_init 47 = .ok (.getfield 11, 3) := by decide +kernel
theorem dX3_init_50 : decode cX3_init 50 = .ok (.sipush 196, 3) := by decide +kernel
theorem dX3_init_53 : decode cX3_init 53 = .ok (.iload_n 1, 1) := by decide +kernel
theorem dX3_init_54 : decode cX3_init 54 = .ok (.iadd, 1) := by decide +kernel
theorem dX3_init_55 : decode cX3_init 55 = .ok (.iload_n 1, 1) := by decide +kernel
theorem dX3_init_56 : decode cX3_init 56 = .ok (.iastore, 1) := by decide +kernel
theorem dX3_init_57 : decode cX3_init 57 = .ok (.iinc 1 1, 3) := by decide +kernel
theorem dX3_init_60 : decode cX3_init 60 = .ok (.goto (-19), 3) := by decide +kernel
theorem dX3_init_63 : decode cX3_init 63 = .ok (.aload_n 0, 1) := by decide +kernel
theorem dX3_init_64 : decode cX3_init 64 = .ok (.getfield 11, 3) := by decide +kernel
theorem dX3_init_67 : decode cX3_init 67 = .ok (.sipush 200, 3) := by decide +kernel
theorem dX3_init_70 : decode cX3_init 70 = .ok (.iconst 1, 1) := by decide +kernel
theorem dX3_init_71 : decode cX3_init 71 = .ok (.iastore, 1) := by decide +kernel
theorem dX3_init_72 : decode cX3_init 72 = .ok (.aload_n 0, 1) := by decide +kernel
theorem dX3_init_73 : decode cX3_init 73 = .ok (.getfield 11, 3) := by decide +kernel
theorem dX3_init_76 : decode cX3_init 76 = .ok (.sipush 201, 3) := by decide +kernel
theorem dX3_init_79 : decode cX3_init 79 = .ok (.bipush 60, 2) := by decide +kernel
theorem dX3_init_81 : decode cX3_init 81 = .ok (.iastore, 1) := by decide +kernel
theorem dX3_init_82 : decode cX3_init 82 = .ok (.return_, 1) := by decide +kernel
theorem dX3_become_0 : decode cX3_become 0 = .ok (.aload_n 1, 1) := by decide +kernel
theorem dX3_become_1 : decode cX3_become 1 = .ok (.getfield 11, 3) := by decide +kernel
theorem dX3_become_4 : decode cX3_become 4 = .ok (.iconst 0, 1) := by decide +kernel
theorem dX3_become_5 : decode cX3_become 5 = .ok (.aload_n 0, 1) := by decide +kernel
theorem dX3_become_6 : decode cX3_become 6 = .ok (.getfield 11, 3) := by decide +kernel
theorem dX3_become_9 : decode cX3_become 9 = .ok (.iconst 0, 1) := by decide +kernel
theorem dX3_become_10 : decode cX3_become 10 = .ok (.sipush 204, 3) := by decide +kernel
theorem dX3_become_13 : decode cX3_become 13 = .ok (.invokestatic 15, 3) := by decide +kernel
theorem dX3_become_16 : decode cX3_become 16 = .ok (.return_, 1) := by decide +kernel
theorem dX3_number_0 : decode cX3_number 0 = .ok (.aload_n 0, 1) := by decide +kernel
theorem dX3_number_1 : decode cX3_number 1 = .ok (.getfield 11, 3) := by decide +kernel
theorem dX3_number_4 : decode cX3_number 4 = .ok (.iload_n 1, 1) := by decide +kernel
theorem dX3_number_5 : decode cX3_number 5 = .ok (.iaload, 1) := by decide +kernel
theorem dX3_number_6 : decode cX3_number 6 = .ok (.ireturn, 1) := by decide +kernel
theorem dX3_setNumber_0 : decode cX3_setNumber 0 = .ok (.aload_n 0, 1) := by decide +kernel
theorem dX3_setNumber_1 : decode cX3_setNumber 1 = .ok (.getfield 11, 3) := by decide +kernel
theorem dX3_setNumber_4 : decode cX3_setNumber 4 = .ok (.iload_n 1, 1) := by decide +kernel
theorem dX3_setNumber_5 : decode cX3_setNumber 5 = .ok (.iload_n 2, 1) := by decide +kernel
theorem dX3_setNumber_6 : decode cX3_setNumber 6 = .ok (.iastore, 1) := by decide +kernel
theorem dX3_setNumber_7 : decode cX3_setNumber 7 = .ok (.return_, 1) := by decide +kernel
theorem dX3_sitterTone_0 : decode cX3_sitterTone 0 = .ok (.aload_n 0, 1) := by decide +kernel
theorem dX3_sitterTone_1 : decode cX3_sitterTone 1 = .ok (.getfield 11, 3) := by decide +kernel
theorem dX3_sitterTone_4 : decode cX3_sitterTone 4 = .ok (.iconst 0, 1) := by decide +kernel
theorem dX3_sitterTone_5 : decode cX3_sitterTone 5 = .ok (.iload_n 1, 1) := by decide +kernel
theorem dX3_sitterTone_6 : decode cX3_sitterTone 6 = .ok (.bipush 6, 2) := by decide +kernel
theorem dX3_sitterTone_8 : decode cX3_sitterTone 8 = .ok (.imul, 1) := by decide +kernel
theorem dX3_sitterTone_9 : decode cX3_sitterTone 9 = .ok (.iadd, 1) := by decide +kernel
theorem dX3_sitterTone_10 : decode cX3_sitterTone 10 = .ok (.iload_n 2, 1) := by decide +kernel
theorem dX3_sitterTone_11 : decode cX3_sitterTone 11 = .ok (.iadd, 1) := by decide +kernel
theorem dX3_sitterTone_12 : decode cX3_sitterTone 12 = .ok (.iaload, 1) := by decide +kernel
theorem dX3_sitterTone_13 : decode cX3_sitterTone 13 = .ok (.ireturn, 1) := by decide +kernel
theorem dX3_setSitterTone_0 : decode cX3_setSitterTone 0 = .ok (.aload_n 0, 1) := by decide +kernel
theorem dX3_setSitterTone_1 : decode cX3_setSitterTone 1 = .ok (.getfield 11, 3) := by decide +kernel
theorem dX3_setSitterTone_4 : decode cX3_setSitterTone 4 = .ok (.iconst 0, 1) := by decide +kernel
theorem dX3_setSitterTone_5 : decode cX3_setSitterTone 5 = .ok (.iload_n 1, 1) := by decide +kernel
theorem dX3_setSitterTone_6 : decode cX3_setSitterTone 6 = .ok (.bipush 6, 2) := by decide +kernel
theorem dX3_setSitterTone_8 : decode cX3_setSitterTone 8 = .ok (.imul, 1) := by decide +kernel
theorem dX3_setSitterTone_9 : decode cX3_setSitterTone 9 = .ok (.iadd, 1) := by decide +kernel
theorem dX3_setSitterTone_10 : decode cX3_setSitterTone 10 = .ok (.iload_n 2, 1) := by decide +kernel
theorem dX3_setSitterTone_11 : decode cX3_setSitterTone 11 = .ok (.iadd, 1) := by decide +kernel
theorem dX3_setSitterTone_12 : decode cX3_setSitterTone 12 = .ok (.iload_n 3, 1) := by decide +kernel
theorem dX3_setSitterTone_13 : decode cX3_setSitterTone 13 = .ok (.iastore, 1) := by decide +kernel
theorem dX3_setSitterTone_14 : decode cX3_setSitterTone 14 = .ok (.return_, 1) := by decide +kernel
theorem dX3_halfTone_0 : decode cX3_halfTone 0 = .ok (.aload_n 0, 1) := by decide +kernel
theorem dX3_halfTone_1 : decode cX3_halfTone 1 = .ok (.getfield 11, 3) := by decide +kernel
theorem dX3_halfTone_4 : decode cX3_halfTone 4 = .ok (.bipush 36, 2) := by decide +kernel
theorem dX3_halfTone_6 : decode cX3_halfTone 6 = .ok (.iload_n 1, 1) := by decide +kernel
theorem dX3_halfTone_7 : decode cX3_halfTone 7 = .ok (.bipush 18, 2) := by decide +kernel
theorem dX3_halfTone_9 : decode cX3_halfTone 9 = .ok (.imul, 1) := by decide +kernel
theorem dX3_halfTone_10 : decode cX3_halfTone 10 = .ok (.iadd, 1) := by decide +kernel
theorem dX3_halfTone_11 : decode cX3_halfTone 11 = .ok (.iload_n 2, 1) := by decide +kernel
theorem dX3_halfTone_12 : decode cX3_halfTone 12 = .ok (.iadd, 1) := by decide +kernel
theorem dX3_halfTone_13 : decode cX3_halfTone 13 = .ok (.iaload, 1) := by decide +kernel
theorem dX3_halfTone_14 : decode cX3_halfTone 14 = .ok (.ireturn, 1) := by decide +kernel
theorem dX3_setHalfTone_0 : decode cX3_setHalfTone 0 = .ok (.aload_n 0, 1) := by decide +kernel
theorem dX3_setHalfTone_1 : decode cX3_setHalfTone 1 = .ok (.getfield 11, 3) := by decide +kernel
theorem dX3_setHalfTone_4 : decode cX3_setHalfTone 4 = .ok (.bipush 36, 2) := by decide +kernel
theorem dX3_setHalfTone_6 : decode cX3_setHalfTone 6 = .ok (.iload_n 1, 1) := by decide +kernel
theorem dX3_setHalfTone_7 : decode cX3_setHalfTone 7 = .ok (.bipush 18, 2) := by decide +kernel
theorem dX3_setHalfTone_9 : decode cX3_setHalfTone 9 = .ok (.imul, 1) := by decide +kernel
theorem dX3_setHalfTone_10 : decode cX3_setHalfTone 10 = .ok (.iadd, 1) := by decide +kernel
theorem dX3_setHalfTone_11 : decode cX3_setHalfTone 11 = .ok (.iload_n 2, 1) := by decide +kernel
theorem dX3_setHalfTone_12 : decode cX3_setHalfTone 12 = .ok (.iadd, 1) := by decide +kernel
theorem dX3_setHalfTone_13 : decode cX3_setHalfTone 13 = .ok (.iload_n 3, 1) := by decide +kernel
theorem dX3_setHalfTone_14 : decode cX3_setHalfTone 14 = .ok (.iastore, 1) := by decide +kernel
theorem dX3_setHalfTone_15 : decode cX3_setHalfTone 15 = .ok (.return_, 1) := by decide +kernel
theorem dX3_dueTone_0 : decode cX3_dueTone 0 = .ok (.iload_n 1, 1) := by decide +kernel
theorem dX3_dueTone_1 : decode cX3_dueTone 1 = .ok (.iconst 4, 1) := by decide +kernel
theorem dX3_dueTone_2 : decode cX3_dueTone 2 = .ok (.if_icmp .ge 7, 3) := by decide +kernel
theorem dX3_dueTone_5 : decode cX3_dueTone 5 = .ok (.iconst 0, 1) := by decide +kernel
theorem dX3_dueTone_6 : decode cX3_dueTone 6 = .ok (.goto 4, 3) := by decide +kernel
theorem dX3_dueTone_9 : decode cX3_dueTone 9 = .ok (.iconst 3, 1) := by decide +kernel
theorem dX3_dueTone_10 : decode cX3_dueTone 10 = .ok (.istore_n 3, 1) := by decide +kernel
theorem dX3_dueTone_11 : decode cX3_dueTone 11 = .ok (.aload_n 0, 1) := by decide +kernel
theorem dX3_dueTone_12 : decode cX3_dueTone 12 = .ok (.iload_n 2, 1) := by decide +kernel
theorem dX3_dueTone_13 : decode cX3_dueTone 13 = .ok (.iconst 3, 1) := by decide +kernel
theorem dX3_dueTone_14 : decode cX3_dueTone 14 = .ok (.idiv, 1) := by decide +kernel
theorem dX3_dueTone_15 : decode cX3_dueTone 15 = .ok (.iload_n 3, 1) := by decide +kernel
theorem dX3_dueTone_16 : decode cX3_dueTone 16 = .ok (.iload_n 2, 1) := by decide +kernel
theorem dX3_dueTone_17 : decode cX3_dueTone 17 = .ok (.iconst 3, 1) := by decide +kernel
theorem dX3_dueTone_18 : decode cX3_dueTone 18 = .ok (.irem, 1) := by decide +kernel
theorem dX3_dueTone_19 : decode cX3_dueTone 19 = .ok (.iadd, 1) := by decide +kernel
theorem dX3_dueTone_20 : decode cX3_dueTone 20 = .ok (.invokevirtual 21, 3) := by decide +kernel
theorem dX3_dueTone_23 : decode cX3_dueTone 23 = .ok (.ireturn, 1) := by decide +kernel
theorem dX3_cellError_0 : decode cX3_cellError 0 = .ok (.aload_n 0, 1) := by decide +kernel
theorem dX3_cellError_1 : decode cX3_cellError 1 = .ok (.iload_n 1, 1) := by decide +kernel
theorem dX3_cellError_2 : decode cX3_cellError 2 = .ok (.iload_n 2, 1) := by decide +kernel
theorem dX3_cellError_3 : decode cX3_cellError 3 = .ok (.invokevirtual 25, 3) := by decide +kernel
theorem dX3_cellError_6 : decode cX3_cellError 6 = .ok (.aload_n 0, 1) := by decide +kernel
theorem dX3_cellError_7 : decode cX3_cellError 7 = .ok (.iload_n 1, 1) := by decide +kernel
theorem dX3_cellError_8 : decode cX3_cellError 8 = .ok (.iload_n 2, 1) := by decide +kernel
theorem dX3_cellError_9 : decode cX3_cellError 9 = .ok (.invokevirtual 28, 3) := by decide +kernel
theorem dX3_cellError_12 : decode cX3_cellError 12 = .ok (.isub, 1) := by decide +kernel
theorem dX3_cellError_13 : decode cX3_cellError 13 = .ok (.invokestatic 31, 3) := by decide +kernel
theorem dX3_cellError_16 : decode cX3_cellError 16 = .ok (.ireturn, 1) := by decide +kernel
theorem dX3_halfError_0 : decode cX3_halfError 0 = .ok (.iconst 0, 1) := by decide +kernel
theorem dX3_halfError_1 : decode cX3_halfError 1 = .ok (.istore_n 2, 1) := by decide +kernel
theorem dX3_halfError_2 : decode cX3_halfError 2 = .ok (.iconst 0, 1) := by decide +kernel
theorem dX3_halfError_3 : decode cX3_halfError 3 = .ok (.istore_n 3, 1) := by decide +kernel
theorem dX3_halfError_4 : decode cX3_halfError 4 = .ok (.iload_n 3, 1) := by decide +kernel
theorem dX3_halfError_5 : decode cX3_halfError 5 = .ok (.bipush 18, 2) := by decide +kernel
theorem dX3_halfError_7 : decode cX3_halfError 7 = .ok (.if_icmp .ge 18, 3) := by decide +kernel
theorem dX3_halfError_10 : decode cX3_halfError 10 = .ok (.iload_n 2, 1) := by decide +kernel
theorem dX3_halfError_11 : decode cX3_halfError 11 = .ok (.aload_n 0, 1) := by decide +kernel
theorem dX3_halfError_12 : decode cX3_halfError 12 = .ok (.iload_n 1, 1) := by decide +kernel
theorem dX3_halfError_13 : decode cX3_halfError 13 = .ok (.iload_n 3, 1) := by decide +kernel
theorem dX3_halfError_14 : decode cX3_halfError 14 = .ok (.invokevirtual 37, 3) := by decide +kernel
theorem dX3_halfError_17 : decode cX3_halfError 17 = .ok (.iadd, 1) := by decide +kernel
theorem dX3_halfError_18 : decode cX3_halfError 18 = .ok (.istore_n 2, 1) := by decide +kernel
theorem dX3_halfError_19 : decode cX3_halfError 19 = .ok (.iinc 3 1, 3) := by decide +kernel
theorem dX3_halfError_22 : decode cX3_halfError 22 = .ok (.goto (-18), 3) := by decide +kernel
theorem dX3_halfError_25 : decode cX3_halfError 25 = .ok (.iload_n 2, 1) := by decide +kernel
theorem dX3_halfError_26 : decode cX3_halfError 26 = .ok (.ireturn, 1) := by decide +kernel
theorem dX3_worstCell_0 : decode cX3_worstCell 0 = .ok (.iconst 0, 1) := by decide +kernel
theorem dX3_worstCell_1 : decode cX3_worstCell 1 = .ok (.istore_n 2, 1) := by decide +kernel
theorem dX3_worstCell_2 : decode cX3_worstCell 2 = .ok (.iconst 0, 1) := by decide +kernel
theorem dX3_worstCell_3 : decode cX3_worstCell 3 = .ok (.istore_n 3, 1) := by decide +kernel
theorem dX3_worstCell_4 : decode cX3_worstCell 4 = .ok (.iconst 0, 1) := by decide +kernel
theorem dX3_worstCell_5 : decode cX3_worstCell 5 = .ok (.istore 4, 2) := by decide +kernel
theorem dX3_worstCell_7 : decode cX3_worstCell 7 = .ok (.iload 4, 2) := by decide +kernel
theorem dX3_worstCell_9 : decode cX3_worstCell 9 = .ok (.bipush 18, 2) := by decide +kernel
theorem dX3_worstCell_11 : decode cX3_worstCell 11 = .ok (.if_icmp .ge 30, 3) := by decide +kernel
theorem dX3_worstCell_14 : decode cX3_worstCell 14 = .ok (.aload_n 0, 1) := by decide +kernel
theorem dX3_worstCell_15 : decode cX3_worstCell 15 = .ok (.iload_n 1, 1) := by decide +kernel
theorem dX3_worstCell_16 : decode cX3_worstCell 16 = .ok (.iload 4, 2) := by decide +kernel
theorem dX3_worstCell_18 : decode cX3_worstCell 18 = .ok (.invokevirtual 37, 3) := by decide +kernel
theorem dX3_worstCell_21 : decode cX3_worstCell 21 = .ok (.istore 5, 2) := by decide +kernel
theorem dX3_worstCell_23 : decode cX3_worstCell 23 = .ok (.iload 5, 2) := by decide +kernel
theorem dX3_worstCell_25 : decode cX3_worstCell 25 = .ok (.iload_n 3, 1) := by decide +kernel
theorem dX3_worstCell_26 : decode cX3_worstCell 26 = .ok (.if_icmp .le 9, 3) := by decide +kernel
theorem dX3_worstCell_29 : decode cX3_worstCell 29 = .ok (.iload 5, 2) := by decide +kernel
theorem dX3_worstCell_31 : decode cX3_worstCell 31 = .ok (.istore_n 3, 1) := by decide +kernel
theorem dX3_worstCell_32 : decode cX3_worstCell 32 = .ok (.iload 4, 2) := by decide +kernel
theorem dX3_worstCell_34 : decode cX3_worstCell 34 = .ok (.istore_n 2, 1) := by decide +kernel
theorem dX3_worstCell_35 : decode cX3_worstCell 35 = .ok (.iinc 4 1, 3) := by decide +kernel
theorem dX3_worstCell_38 : decode cX3_worstCell 38 = .ok (.goto (-31), 3) := by decide +kernel
theorem dX3_worstCell_41 : decode cX3_worstCell 41 = .ok (.iload_n 2, 1) := by decide +kernel
theorem dX3_worstCell_42 : decode cX3_worstCell 42 = .ok (.ireturn, 1) := by decide +kernel
theorem dX3_cellsWithoutError_0 : decode cX3_cellsWithoutError 0 = .ok (.iconst 0, 1) := by decide +kernel
theorem dX3_cellsWithoutError_1 : decode cX3_cellsWithoutError 1 = .ok (.istore_n 2, 1) := by decide +kernel
theorem dX3_cellsWithoutError_2 : decode cX3_cellsWithoutError 2 = .ok (.iconst 0, 1) := by decide +kernel
theorem dX3_cellsWithoutError_3 : decode cX3_cellsWithoutError 3 = .ok (.istore_n 3, 1) := by decide +kernel
theorem dX3_cellsWithoutError_4 : decode cX3_cellsWithoutError 4 = .ok (.iload_n 3, 1) := by decide +kernel
theorem dX3_cellsWithoutError_5 : decode cX3_cellsWithoutError 5 = .ok (.bipush 18, 2) := by decide +kernel
theorem dX3_cellsWithoutError_7 : decode cX3_cellsWithoutError 7 = .ok (.if_icmp .ge 21, 3) := by decide +kernel
theorem dX3_cellsWithoutError_10 : decode cX3_cellsWithoutError 10 = .ok (.aload_n 0, 1) := by decide +kernel
theorem dX3_cellsWithoutError_11 : decode cX3_cellsWithoutError 11 = .ok (.iload_n 1, 1) := by decide +kernel
theorem dX3_cellsWithoutError_12 : decode cX3_cellsWithoutError 12 = .ok (.iload_n 3, 1) := by decide +kernel
theorem dX3_cellsWithoutError_13 : decode cX3_cellsWithoutError 13 = .ok (.invokevirtual 37, 3) := by decide +kernel
theorem dX3_cellsWithoutError_16 : decode cX3_cellsWithoutError 16 = .ok (.ifCond .ne 6, 3) := by decide +kernel
theorem dX3_cellsWithoutError_19 : decode cX3_cellsWithoutError 19 = .ok (.iinc 2 1, 3) := by decide +kernel
theorem dX3_cellsWithoutError_22 : decode cX3_cellsWithoutError 22 = .ok (.iinc 3 1, 3) := by decide +kernel
theorem dX3_cellsWithoutError_25 : decode cX3_cellsWithoutError 25 = .ok (.goto (-21), 3) := by decide +kernel
theorem dX3_cellsWithoutError_28 : decode cX3_cellsWithoutError 28 = .ok (.iload_n 2, 1) := by decide +kernel
theorem dX3_cellsWithoutError_29 : decode cX3_cellsWithoutError 29 = .ok (.ireturn, 1) := by decide +kernel
theorem dX3_improveWorstCell_0 : decode cX3_improveWorstCell 0 = .ok (.aload_n 0, 1) := by decide +kernel
theorem dX3_improveWorstCell_1 : decode cX3_improveWorstCell 1 = .ok (.iload_n 1, 1) := by decide +kernel
theorem dX3_improveWorstCell_2 : decode cX3_improveWorstCell 2 = .ok (.invokevirtual 40, 3) := by decide +kernel
theorem dX3_improveWorstCell_5 : decode cX3_improveWorstCell 5 = .ok (.istore_n 2, 1) := by decide +kernel
theorem dX3_improveWorstCell_6 : decode cX3_improveWorstCell 6 = .ok (.aload_n 0, 1) := by decide +kernel
theorem dX3_improveWorstCell_7 : decode cX3_improveWorstCell 7 = .ok (.iload_n 1, 1) := by decide +kernel
theorem dX3_improveWorstCell_8 : decode cX3_improveWorstCell 8 = .ok (.iload_n 2, 1) := by decide +kernel
theorem dX3_improveWorstCell_9 : decode cX3_improveWorstCell 9 = .ok (.invokevirtual 25, 3) := by decide +kernel
theorem dX3_improveWorstCell_12 : decode cX3_improveWorstCell 12 = .ok (.istore_n 3, 1) := by decide +kernel
theorem dX3_improveWorstCell_13 : decode cX3_improveWorstCell 13 = .ok (.aload_n 0, 1) := by decide +kernel
theorem dX3_improveWorstCell_14 : decode cX3_improveWorstCell 14 = .ok (.iload_n 1, 1) := by decide +kernel
theorem dX3_improveWorstCell_15 : decode cX3_improveWorstCell 15 = .ok (.iload_n 2, 1) := by decide +kernel
theorem dX3_improveWorstCell_16 : decode cX3_improveWorstCell 16 = .ok (.invokevirtual 28, 3) := by decide +kernel
theorem dX3_improveWorstCell_19 : decode cX3_improveWorstCell 19 = .ok (.istore 4, 2) := by decide +kernel
theorem dX3_improveWorstCell_21 : decode cX3_improveWorstCell 21 = .ok (.iload_n 3, 1) := by decide +kernel
theorem dX3_improveWorstCell_22 : decode cX3_improveWorstCell 22 = .ok (.iload 4, 2) := by decide +kernel
theorem dX3_improveWorstCell_24 : decode cX3_improveWorstCell 24 = .ok (.if_icmp .ge 15, 3) := by decide +kernel
theorem dX3_improveWorstCell_27 : decode cX3_improveWorstCell 27 = .ok (.aload_n 0, 1) := by decide +kernel
theorem dX3_improveWorstCell_28 : decode cX3_improveWorstCell 28 = .ok (.iload_n 1, 1) := by decide +kernel
theorem dX3_improveWorstCell_29 : decode cX3_improveWorstCell 29 = .ok (.iload_n 2, 1) := by decide +kernel
theorem dX3_improveWorstCell_30 : decode cX3_improveWorstCell 30 = .ok (.iload_n 3, 1) := by decide +kernel
theorem dX3_improveWorstCell_31 : decode cX3_improveWorstCell 31 = .ok (.iconst 1, 1) := by decide +kernel
theorem dX3_improveWorstCell_32 : decode cX3_improveWorstCell 32 = .ok (.iadd, 1) := by decide +kernel
theorem dX3_improveWorstCell_33 : decode cX3_improveWorstCell 33 = .ok (.invokevirtual 43, 3) := by decide +kernel
theorem dX3_improveWorstCell_36 : decode cX3_improveWorstCell 36 = .ok (.goto 18, 3) := by decide +kernel
theorem dX3_improveWorstCell_39 : decode cX3_improveWorstCell 39 = .ok (.iload_n 3, 1) := by decide +kernel
theorem dX3_improveWorstCell_40 : decode cX3_improveWorstCell 40 = .ok (.iload 4, 2) := by decide +kernel
theorem dX3_improveWorstCell_42 : decode cX3_improveWorstCell 42 = .ok (.if_icmp .le 12, 3) := by decide +kernel
theorem dX3_improveWorstCell_45 : decode cX3_improveWorstCell 45 = .ok (.aload_n 0, 1) := by decide +kernel
theorem dX3_improveWorstCell_46 : decode cX3_improveWorstCell 46 = .ok (.iload_n 1, 1) := by decide +kernel
theorem dX3_improveWorstCell_47 : decode cX3_improveWorstCell 47 = .ok (.iload_n 2, 1) := by decide +kernel
theorem dX3_improveWorstCell_48 : decode cX3_improveWorstCell 48 = .ok (.iload_n 3, 1) := by decide +kernel
theorem dX3_improveWorstCell_49 : decode cX3_improveWorstCell 49 = .ok (.iconst 1, 1) := by decide +kernel
theorem dX3_improveWorstCell_50 : decode cX3_improveWorstCell 50 = .ok (.isub, 1) := by decide +kernel
theorem dX3_improveWorstCell_51 : decode cX3_improveWorstCell 51 = .ok (.invokevirtual 43, 3) := by decide +kernel
theorem dX3_improveWorstCell_54 : decode cX3_improveWorstCell 54 = .ok (.return_, 1) := by decide +kernel
theorem dX3_distance_0 : decode cX3_distance 0 = .ok (.iconst 0, 1) := by decide +kernel
theorem dX3_distance_1 : decode cX3_distance 1 = .ok (.istore_n 3, 1) := by decide +kernel
theorem dX3_distance_2 : decode cX3_distance 2 = .ok (.iconst 0, 1) := by decide +kernel
theorem dX3_distance_3 : decode cX3_distance 3 = .ok (.istore 4, 2) := by decide +kernel
theorem dX3_distance_5 : decode cX3_distance 5 = .ok (.iload 4, 2) := by decide +kernel
theorem dX3_distance_7 : decode cX3_distance 7 = .ok (.bipush 18, 2) := by decide +kernel
theorem dX3_distance_9 : decode cX3_distance 9 = .ok (.if_icmp .ge 30, 3) := by decide +kernel
theorem dX3_distance_12 : decode cX3_distance 12 = .ok (.iload_n 3, 1) := by decide +kernel
theorem dX3_distance_13 : decode cX3_distance 13 = .ok (.aload_n 0, 1) := by decide +kernel
theorem dX3_distance_14 : decode cX3_distance 14 = .ok (.iload_n 1, 1) := by decide +kernel
theorem dX3_distance_15 : decode cX3_distance 15 = .ok (.iload 4, 2) := by decide +kernel
theorem dX3_distance_17 : decode cX3_distance 17 = .ok (.invokevirtual 25, 3) := by decide +kernel
theorem dX3_distance_20 : decode cX3_distance 20 = .ok (.aload_n 0, 1) := by decide +kernel
theorem dX3_distance_21 : decode cX3_distance 21 = .ok (.iload_n 2, 1) := by decide +kernel
theorem dX3_distance_22 : decode cX3_distance 22 = .ok (.iload 4, 2) := by decide +kernel
theorem dX3_distance_24 : decode cX3_distance 24 = .ok (.invokevirtual 25, 3) := by decide +kernel
theorem dX3_distance_27 : decode cX3_distance 27 = .ok (.isub, 1) := by decide +kernel
theorem dX3_distance_28 : decode cX3_distance 28 = .ok (.invokestatic 31, 3) := by decide +kernel
theorem dX3_distance_31 : decode cX3_distance 31 = .ok (.iadd, 1) := by decide +kernel
theorem dX3_distance_32 : decode cX3_distance 32 = .ok (.istore_n 3, 1) := by decide +kernel
theorem dX3_distance_33 : decode cX3_distance 33 = .ok (.iinc 4 1, 3) := by decide +kernel
theorem dX3_distance_36 : decode cX3_distance 36 = .ok (.goto (-31), 3) := by decide +kernel
theorem dX3_distance_39 : decode cX3_distance 39 = .ok (.iload_n 3, 1) := by decide +kernel
theorem dX3_distance_40 : decode cX3_distance 40 = .ok (.ireturn, 1) := by decide +kernel
theorem dX3_takeHalfOver_0 : decode cX3_takeHalfOver 0 = .ok (.iconst 0, 1) := by decide +kernel
theorem dX3_takeHalfOver_1 : decode cX3_takeHalfOver 1 = .ok (.istore_n 3, 1) := by decide +kernel
theorem dX3_takeHalfOver_2 : decode cX3_takeHalfOver 2 = .ok (.iconst 0, 1) := by decide +kernel
theorem dX3_takeHalfOver_3 : decode cX3_takeHalfOver 3 = .ok (.istore 4, 2) := by decide +kernel
theorem dX3_takeHalfOver_5 : decode cX3_takeHalfOver 5 = .ok (.iload 4, 2) := by decide +kernel
theorem dX3_takeHalfOver_7 : decode cX3_takeHalfOver 7 = .ok (.bipush 18, 2) := by decide +kernel
theorem dX3_takeHalfOver_9 : decode cX3_takeHalfOver 9 = .ok (.if_icmp .ge 42, 3) := by decide +kernel
theorem dX3_takeHalfOver_12 : decode cX3_takeHalfOver 12 = .ok (.aload_n 0, 1) := by decide +kernel
theorem dX3_takeHalfOver_13 : decode cX3_takeHalfOver 13 = .ok (.iload_n 2, 1) := by decide +kernel
theorem dX3_takeHalfOver_14 : decode cX3_takeHalfOver 14 = .ok (.iload 4, 2) := by decide +kernel
theorem dX3_takeHalfOver_16 : decode cX3_takeHalfOver 16 = .ok (.invokevirtual 25, 3) := by decide +kernel
theorem dX3_takeHalfOver_19 : decode cX3_takeHalfOver 19 = .ok (.istore 5, 2) := by decide +kernel
theorem dX3_takeHalfOver_21 : decode cX3_takeHalfOver 21 = .ok (.aload_n 0, 1) := by decide +kernel
theorem dX3_takeHalfOver_22 : decode cX3_takeHalfOver 22 = .ok (.iload_n 1, 1) := by decide +kernel
theorem dX3_takeHalfOver_23 : decode cX3_takeHalfOver 23 = .ok (.iload 4, 2) := by decide +kernel
theorem dX3_takeHalfOver_25 : decode cX3_takeHalfOver 25 = .ok (.invokevirtual 25, 3) := by decide +kernel
theorem dX3_takeHalfOver_28 : decode cX3_takeHalfOver 28 = .ok (.iload 5, 2) := by decide +kernel
theorem dX3_takeHalfOver_30 : decode cX3_takeHalfOver 30 = .ok (.if_icmp .eq 15, 3) := by decide +kernel
theorem dX3_takeHalfOver_33 : decode cX3_takeHalfOver 33 = .ok (.aload_n 0, 1) := by decide +kernel
theorem dX3_takeHalfOver_34 : decode cX3_takeHalfOver 34 = .ok (.iload_n 1, 1) := by decide +kernel
theorem dX3_takeHalfOver_35 : decode cX3_takeHalfOver 35 = .ok (.iload 4, 2) := by decide +kernel
theorem dX3_takeHalfOver_37 : decode cX3_takeHalfOver 37 = .ok (.iload 5, 2) := by decide +kernel
theorem dX3_takeHalfOver_39 : decode cX3_takeHalfOver 39 = .ok (.invokevirtual 43, 3) := by decide +kernel
theorem dX3_takeHalfOver_42 : decode cX3_takeHalfOver 42 = .ok (.iinc 3 1, 3) := by decide +kernel
theorem dX3_takeHalfOver_45 : decode cX3_takeHalfOver 45 = .ok (.iinc 4 1, 3) := by decide +kernel
theorem dX3_takeHalfOver_48 : decode cX3_takeHalfOver 48 = .ok (.goto (-43), 3) := by decide +kernel
theorem dX3_takeHalfOver_51 : decode cX3_takeHalfOver 51 = .ok (.iload_n 3, 1) := by decide +kernel
theorem dX3_takeHalfOver_52 : decode cX3_takeHalfOver 52 = .ok (.ireturn, 1) := by decide +kernel
theorem dX3_minutesOf_0 : decode cX3_minutesOf 0 = .ok (.aload_n 0, 1) := by decide +kernel
theorem dX3_minutesOf_1 : decode cX3_minutesOf 1 = .ok (.getfield 11, 3) := by decide +kernel
theorem dX3_minutesOf_4 : decode cX3_minutesOf 4 = .ok (.sipush 180, 3) := by decide +kernel
theorem dX3_minutesOf_7 : decode cX3_minutesOf 7 = .ok (.iload_n 1, 1) := by decide +kernel
theorem dX3_minutesOf_8 : decode cX3_minutesOf 8 = .ok (.iadd, 1) := by decide +kernel
theorem dX3_minutesOf_9 : decode cX3_minutesOf 9 = .ok (.iaload, 1) := by decide +kernel
theorem dX3_minutesOf_10 : decode cX3_minutesOf 10 = .ok (.ireturn, 1) := by decide +kernel
theorem dX3_useMinutes_0 : decode cX3_useMinutes 0 = .ok (.aload_n 0, 1) := by decide +kernel
theorem dX3_useMinutes_1 : decode cX3_useMinutes 1 = .ok (.getfield 11, 3) := by decide +kernel
theorem dX3_useMinutes_4 : decode cX3_useMinutes 4 = .ok (.sipush 180, 3) := by decide +kernel
theorem dX3_useMinutes_7 : decode cX3_useMinutes 7 = .ok (.iload_n 1, 1) := by decide +kernel
theorem dX3_useMinutes_8 : decode cX3_useMinutes 8 = .ok (.iadd, 1) := by decide +kernel
theorem dX3_useMinutes_9 : decode cX3_useMinutes 9 = .ok (.dup2, 1) := by decide +kernel
theorem dX3_useMinutes_10 : decode cX3_useMinutes 10 = .ok (.iaload, 1) := by decide +kernel
theorem dX3_useMinutes_11 : decode cX3_useMinutes 11 = .ok (.iload_n 2, 1) := by decide +kernel
theorem dX3_useMinutes_12 : decode cX3_useMinutes 12 = .ok (.isub, 1) := by decide +kernel
theorem dX3_useMinutes_13 : decode cX3_useMinutes 13 = .ok (.iastore, 1) := by decide +kernel
theorem dX3_useMinutes_14 : decode cX3_useMinutes 14 = .ok (.return_, 1) := by decide +kernel
theorem dX3_passHour_0 : decode cX3_passHour 0 = .ok (.iconst 0, 1) := by decide +kernel
theorem dX3_passHour_1 : decode cX3_passHour 1 = .ok (.istore_n 1, 1) := by decide +kernel
theorem dX3_passHour_2 : decode cX3_passHour 2 = .ok (.iconst 0, 1) := by decide +kernel
theorem dX3_passHour_3 : decode cX3_passHour 3 = .ok (.istore_n 2, 1) := by decide +kernel
theorem dX3_passHour_4 : decode cX3_passHour 4 = .ok (.iload_n 2, 1) := by decide +kernel
theorem dX3_passHour_5 : decode cX3_passHour 5 = .ok (.bipush 8, 2) := by decide +kernel
theorem dX3_passHour_7 : decode cX3_passHour 7 = .ok (.if_icmp .ge 40, 3) := by decide +kernel
theorem dX3_passHour_10 : decode cX3_passHour 10 = .ok (.iload_n 1, 1) := by decide +kernel
theorem dX3_passHour_11 : decode cX3_passHour 11 = .ok (.aload_n 0, 1) := by decide +kernel
theorem dX3_passHour_12 : decode cX3_passHour 12 = .ok (.getfield 11, 3) := by decide +kernel
theorem dX3_passHour_15 : decode cX3_passHour 15 = .ok (.sipush 180, 3) := by decide +kernel
theorem dX3_passHour_18 : decode cX3_passHour 18 = .ok (.iload_n 2, 1) := by decide +kernel
theorem dX3_passHour_19 : decode cX3_passHour 19 = .ok (.iadd, 1) := by decide +kernel
theorem dX3_passHour_20 : decode cX3_passHour 20 = .ok (.iaload, 1) := by decide +kernel
theorem dX3_passHour_21 : decode cX3_passHour 21 = .ok (.iadd, 1) := by decide +kernel
theorem dX3_passHour_22 : decode cX3_passHour 22 = .ok (.istore_n 1, 1) := by decide +kernel
theorem dX3_passHour_23 : decode cX3_passHour 23 = .ok (.aload_n 0, 1) := by decide +kernel
theorem dX3_passHour_24 : decode cX3_passHour 24 = .ok (.getfield 11, 3) := by decide +kernel
theorem dX3_passHour_27 : decode cX3_passHour 27 = .ok (.sipush 180, 3) := by decide +kernel
theorem dX3_passHour_30 : decode cX3_passHour 30 = .ok (.iload_n 2, 1) := by decide +kernel
theorem dX3_passHour_31 : decode cX3_passHour 31 = .ok (.iadd, 1) := by decide +kernel
theorem dX3_passHour_32 : decode cX3_passHour 32 = .ok (.aload_n 0, 1) := by decide +kernel
theorem dX3_passHour_33 : decode cX3_passHour 33 = .ok (.getfield 11, 3) := by decide +kernel
theorem dX3_passHour_36 : decode cX3_passHour 36 = .ok (.sipush 201, 3) := by decide +kernel
theorem dX3_passHour_39 : decode cX3_passHour 39 = .ok (.iaload, 1) := by decide +kernel
theorem dX3_passHour_40 : decode cX3_passHour 40 = .ok (.iastore, 1) := by decide +kernel
theorem dX3_passHour_41 : decode cX3_passHour 41 = .ok (.iinc 2 1, 3) := by decide +kernel
theorem dX3_passHour_44 : decode cX3_passHour 44 = .ok (.goto (-40), 3) := by decide +kernel
theorem dX3_passHour_47 : decode cX3_passHour 47 = .ok (.aload_n 0, 1) := by decide +kernel
theorem dX3_passHour_48 : decode cX3_passHour 48 = .ok (.getfield 11, 3) := by decide +kernel
theorem dX3_passHour_51 : decode cX3_passHour 51 = .ok (.sipush 202, 3) := by decide +kernel
theorem dX3_passHour_54 : decode cX3_passHour 54 = .ok (.dup2, 1) := by decide +kernel
theorem dX3_passHour_55 : decode cX3_passHour 55 = .ok (.iaload, 1) := by decide +kernel
theorem dX3_passHour_56 : decode cX3_passHour 56 = .ok (.iconst 1, 1) := by decide +kernel
theorem dX3_passHour_57 : decode cX3_passHour 57 = .ok (.iadd, 1) := by decide +kernel
theorem dX3_passHour_58 : decode cX3_passHour 58 = .ok (.iastore, 1) := by decide +kernel
theorem dX3_passHour_59 : decode cX3_passHour 59 = .ok (.iload_n 1, 1) := by decide +kernel
theorem dX3_passHour_60 : decode cX3_passHour 60 = .ok (.ireturn, 1) := by decide +kernel
theorem dX3_rightOf_0 : decode cX3_rightOf 0 = .ok (.aload_n 0, 1) := by decide +kernel
theorem dX3_rightOf_1 : decode cX3_rightOf 1 = .ok (.getfield 11, 3) := by decide +kernel
theorem dX3_rightOf_4 : decode cX3_rightOf 4 = .ok (.sipush 196, 3) := by decide +kernel
theorem dX3_rightOf_7 : decode cX3_rightOf 7 = .ok (.iload_n 1, 1) := by decide +kernel
theorem dX3_rightOf_8 : decode cX3_rightOf 8 = .ok (.iadd, 1) := by decide +kernel
theorem dX3_rightOf_9 : decode cX3_rightOf 9 = .ok (.iaload, 1) := by decide +kernel
theorem dX3_rightOf_10 : decode cX3_rightOf 10 = .ok (.ireturn, 1) := by decide +kernel
theorem dX3_setRightOf_0 : decode cX3_setRightOf 0 = .ok (.aload_n 0, 1) := by decide +kernel
theorem dX3_setRightOf_1 : decode cX3_setRightOf 1 = .ok (.getfield 11, 3) := by decide +kernel
theorem dX3_setRightOf_4 : decode cX3_setRightOf 4 = .ok (.sipush 196, 3) := by decide +kernel
theorem dX3_setRightOf_7 : decode cX3_setRightOf 7 = .ok (.iload_n 1, 1) := by decide +kernel
theorem dX3_setRightOf_8 : decode cX3_setRightOf 8 = .ok (.iadd, 1) := by decide +kernel
theorem dX3_setRightOf_9 : decode cX3_setRightOf 9 = .ok (.iload_n 2, 1) := by decide +kernel
theorem dX3_setRightOf_10 : decode cX3_setRightOf 10 = .ok (.iastore, 1) := by decide +kernel
theorem dX3_setRightOf_11 : decode cX3_setRightOf 11 = .ok (.return_, 1) := by decide +kernel
theorem dX3_leftOf_0 : decode cX3_leftOf 0 = .ok (.iconst 0, 1) := by decide +kernel
theorem dX3_leftOf_1 : decode cX3_leftOf 1 = .ok (.istore_n 2, 1) := by decide +kernel
theorem dX3_leftOf_2 : decode cX3_leftOf 2 = .ok (.iload_n 2, 1) := by decide +kernel
theorem dX3_leftOf_3 : decode cX3_leftOf 3 = .ok (.iconst 3, 1) := by decide +kernel
theorem dX3_leftOf_4 : decode cX3_leftOf 4 = .ok (.if_icmp .ge 18, 3) := by decide +kernel
theorem dX3_leftOf_7 : decode cX3_leftOf 7 = .ok (.aload_n 0, 1) := by decide +kernel
theorem dX3_leftOf_8 : decode cX3_leftOf 8 = .ok (.iload_n 2, 1) := by decide +kernel
theorem dX3_leftOf_9 : decode cX3_leftOf 9 = .ok (.invokevirtual 47, 3) := by decide +kernel
theorem dX3_leftOf_12 : decode cX3_leftOf 12 = .ok (.iload_n 1, 1) := by decide +kernel
theorem dX3_leftOf_13 : decode cX3_leftOf 13 = .ok (.if_icmp .eq 9, 3) := by decide +kernel
theorem dX3_leftOf_16 : decode cX3_leftOf 16 = .ok (.iinc 2 1, 3) := by decide +kernel
theorem dX3_leftOf_19 : decode cX3_leftOf 19 = .ok (.goto (-17), 3) := by decide +kernel
theorem dX3_leftOf_22 : decode cX3_leftOf 22 = .ok (.iload_n 2, 1) := by decide +kernel
theorem dX3_leftOf_23 : decode cX3_leftOf 23 = .ok (.ireturn, 1) := by decide +kernel
theorem dX3_stepAtLine_0 : decode cX3_stepAtLine 0 = .ok (.aload_n 0, 1) := by decide +kernel
theorem dX3_stepAtLine_1 : decode cX3_stepAtLine 1 = .ok (.iload_n 1, 1) := by decide +kernel
theorem dX3_stepAtLine_2 : decode cX3_stepAtLine 2 = .ok (.iload_n 3, 1) := by decide +kernel
theorem dX3_stepAtLine_3 : decode cX3_stepAtLine 3 = .ok (.iconst 3, 1) := by decide +kernel
theorem dX3_stepAtLine_4 : decode cX3_stepAtLine 4 = .ok (.imul, 1) := by decide +kernel
theorem dX3_stepAtLine_5 : decode cX3_stepAtLine 5 = .ok (.iconst 3, 1) := by decide +kernel
theorem dX3_stepAtLine_6 : decode cX3_stepAtLine 6 = .ok (.iadd, 1) := by decide +kernel
theorem dX3_stepAtLine_7 : decode cX3_stepAtLine 7 = .ok (.iconst 1, 1) := by decide +kernel
theorem dX3_stepAtLine_8 : decode cX3_stepAtLine 8 = .ok (.isub, 1) := by decide +kernel
theorem dX3_stepAtLine_9 : decode cX3_stepAtLine 9 = .ok (.invokevirtual 25, 3) := by decide +kernel
theorem dX3_stepAtLine_12 : decode cX3_stepAtLine 12 = .ok (.istore 4, 2) := by decide +kernel
theorem dX3_stepAtLine_14 : decode cX3_stepAtLine 14 = .ok (.aload_n 0, 1) := by decide +kernel
theorem dX3_stepAtLine_15 : decode cX3_stepAtLine 15 = .ok (.iconst 4, 1) := by decide +kernel
theorem dX3_stepAtLine_16 : decode cX3_stepAtLine 16 = .ok (.iload_n 2, 1) := by decide +kernel
theorem dX3_stepAtLine_17 : decode cX3_stepAtLine 17 = .ok (.iadd, 1) := by decide +kernel
theorem dX3_stepAtLine_18 : decode cX3_stepAtLine 18 = .ok (.iload_n 3, 1) := by decide +kernel
theorem dX3_stepAtLine_19 : decode cX3_stepAtLine 19 = .ok (.iconst 3, 1) := by decide +kernel
theorem dX3_stepAtLine_20 : decode cX3_stepAtLine 20 = .ok (.imul, 1) := by decide +kernel
theorem dX3_stepAtLine_21 : decode cX3_stepAtLine 21 = .ok (.invokevirtual 25, 3) := by decide +kernel
theorem dX3_stepAtLine_24 : decode cX3_stepAtLine 24 = .ok (.iload 4, 2) := by decide +kernel
theorem dX3_stepAtLine_26 : decode cX3_stepAtLine 26 = .ok (.isub, 1) := by decide +kernel
theorem dX3_stepAtLine_27 : decode cX3_stepAtLine 27 = .ok (.ireturn, 1) := by decide +kernel
theorem dX3_sitterStepAtLine_0 : decode cX3_sitterStepAtLine 0 = .ok (.aload_n 0, 1) := by decide +kernel
theorem dX3_sitterStepAtLine_1 : decode cX3_sitterStepAtLine 1 = .ok (.iload_n 1, 1) := by decide +kernel
theorem dX3_sitterStepAtLine_2 : decode cX3_sitterStepAtLine 2 = .ok (.iconst 3, 1) := by decide +kernel
theorem dX3_sitterStepAtLine_3 : decode cX3_sitterStepAtLine 3 = .ok (.invokevirtual 21, 3) := by decide +kernel
theorem dX3_sitterStepAtLine_6 : decode cX3_sitterStepAtLine 6 = .ok (.aload_n 0, 1) := by decide +kernel
theorem dX3_sitterStepAtLine_7 : decode cX3_sitterStepAtLine 7 = .ok (.iload_n 1, 1) := by decide +kernel
theorem dX3_sitterStepAtLine_8 : decode cX3_sitterStepAtLine 8 = .ok (.iconst 2, 1) := by decide +kernel
theorem dX3_sitterStepAtLine_9 : decode cX3_sitterStepAtLine 9 = .ok (.invokevirtual 21, 3) := by decide +kernel
theorem dX3_sitterStepAtLine_12 : decode cX3_sitterStepAtLine 12 = .ok (.isub, 1) := by decide +kernel
theorem dX3_sitterStepAtLine_13 : decode cX3_sitterStepAtLine 13 = .ok (.ireturn, 1) := by decide +kernel
theorem dX3_isBreak_0 : decode cX3_isBreak 0 = .ok (.aload_n 0, 1) := by decide +kernel
theorem dX3_isBreak_1 : decode cX3_isBreak 1 = .ok (.iload_n 1, 1) := by decide +kernel
theorem dX3_isBreak_2 : decode cX3_isBreak 2 = .ok (.iload_n 2, 1) := by decide +kernel
theorem dX3_isBreak_3 : decode cX3_isBreak 3 = .ok (.iload_n 3, 1) := by decide +kernel
theorem dX3_isBreak_4 : decode cX3_isBreak 4 = .ok (.invokevirtual 50, 3) := by decide +kernel
theorem dX3_isBreak_7 : decode cX3_isBreak 7 = .ok (.istore 4, 2) := by decide +kernel
theorem dX3_isBreak_9 : decode cX3_isBreak 9 = .ok (.iload 4, 2) := by decide +kernel
theorem dX3_isBreak_11 : decode cX3_isBreak 11 = .ok (.invokestatic 31, 3) := by decide +kernel
theorem dX3_isBreak_14 : decode cX3_isBreak 14 = .ok (.aload_n 0, 1) := by decide +kernel
theorem dX3_isBreak_15 : decode cX3_isBreak 15 = .ok (.getfield 11, 3) := by decide +kernel
theorem dX3_isBreak_18 : decode cX3_isBreak 18 = .ok (.sipush 200, 3) := by decide +kernel
theorem dX3_isBreak_21 : decode cX3_isBreak 21 = .ok (.iaload, 1) := by decide +kernel
theorem dX3_isBreak_22 : decode cX3_isBreak 22 = .ok (.if_icmp .le 17, 3) := by decide +kernel
theorem dX3_isBreak_25 : decode cX3_isBreak 25 = .ok (.iload 4, 2) := by decide +kernel
theorem dX3_isBreak_27 : decode cX3_isBreak 27 = .ok (.aload_n 0, 1) := by decide +kernel
theorem dX3_isBreak_28 : decode cX3_isBreak 28 = .ok (.iload_n 3, 1) := by decide +kernel
theorem dX3_isBreak_29 : decode cX3_isBreak 29 = .ok (.invokevirtual 54, 3) := by decide +kernel
theorem dX3_isBreak_32 : decode cX3_isBreak 32 = .ok (.if_icmp .eq 7, 3) := by decide +kernel
theorem dX3_isBreak_35 : decode cX3_isBreak 35 = .ok (.iconst 1, 1) := by decide +kernel
theorem dX3_isBreak_36 : decode cX3_isBreak 36 = .ok (.goto 4, 3) := by decide +kernel
theorem dX3_isBreak_39 : decode cX3_isBreak 39 = .ok (.iconst 0, 1) := by decide +kernel
theorem dX3_isBreak_40 : decode cX3_isBreak 40 = .ok (.ireturn, 1) := by decide +kernel
theorem dX3_breaks_0 : decode cX3_breaks 0 = .ok (.iconst 0, 1) := by decide +kernel
theorem dX3_breaks_1 : decode cX3_breaks 1 = .ok (.istore_n 3, 1) := by decide +kernel
theorem dX3_breaks_2 : decode cX3_breaks 2 = .ok (.iconst 0, 1) := by decide +kernel
theorem dX3_breaks_3 : decode cX3_breaks 3 = .ok (.istore 4, 2) := by decide +kernel
theorem dX3_breaks_5 : decode cX3_breaks 5 = .ok (.iload 4, 2) := by decide +kernel
theorem dX3_breaks_7 : decode cX3_breaks 7 = .ok (.bipush 6, 2) := by decide +kernel
theorem dX3_breaks_9 : decode cX3_breaks 9 = .ok (.if_icmp .ge 23, 3) := by decide +kernel
theorem dX3_breaks_12 : decode cX3_breaks 12 = .ok (.aload_n 0, 1) := by decide +kernel
theorem dX3_breaks_13 : decode cX3_breaks 13 = .ok (.iload_n 1, 1) := by decide +kernel
theorem dX3_breaks_14 : decode cX3_breaks 14 = .ok (.iload_n 2, 1) := by decide +kernel
theorem dX3_breaks_15 : decode cX3_breaks 15 = .ok (.iload 4, 2) := by decide +kernel
theorem dX3_breaks_17 : decode cX3_breaks 17 = .ok (.invokevirtual 57, 3) := by decide +kernel
theorem dX3_breaks_20 : decode cX3_breaks 20 = .ok (.ifCond .eq 6, 3) := by decide +kernel
theorem dX3_breaks_23 : decode cX3_breaks 23 = .ok (.iinc 3 1, 3) := by decide +kernel
theorem dX3_breaks_26 : decode cX3_breaks 26 = .ok (.iinc 4 1, 3) := by decide +kernel
theorem dX3_breaks_29 : decode cX3_breaks 29 = .ok (.goto (-24), 3) := by decide +kernel
theorem dX3_breaks_32 : decode cX3_breaks 32 = .ok (.iload_n 3, 1) := by decide +kernel
theorem dX3_breaks_33 : decode cX3_breaks 33 = .ok (.ireturn, 1) := by decide +kernel
theorem dX3_firstBreak_0 : decode cX3_firstBreak 0 = .ok (.iconst 0, 1) := by decide +kernel
theorem dX3_firstBreak_1 : decode cX3_firstBreak 1 = .ok (.istore_n 3, 1) := by decide +kernel
theorem dX3_firstBreak_2 : decode cX3_firstBreak 2 = .ok (.iload_n 3, 1) := by decide +kernel
theorem dX3_firstBreak_3 : decode cX3_firstBreak 3 = .ok (.bipush 6, 2) := by decide +kernel
theorem dX3_firstBreak_5 : decode cX3_firstBreak 5 = .ok (.if_icmp .ge 21, 3) := by decide +kernel
theorem dX3_firstBreak_8 : decode cX3_firstBreak 8 = .ok (.aload_n 0, 1) := by decide +kernel
theorem dX3_firstBreak_9 : decode cX3_firstBreak 9 = .ok (.iload_n 1, 1) := by decide +kernel
theorem dX3_firstBreak_10 : decode cX3_firstBreak 10 = .ok (.iload_n 2, 1) := by decide +kernel
theorem dX3_firstBreak_11 : decode cX3_firstBreak 11 = .ok (.iload_n 3, 1) := by decide +kernel
theorem dX3_firstBreak_12 : decode cX3_firstBreak 12 = .ok (.invokevirtual 57, 3) := by decide +kernel
theorem dX3_firstBreak_15 : decode cX3_firstBreak 15 = .ok (.ifCond .eq 5, 3) := by decide +kernel
theorem dX3_firstBreak_18 : decode cX3_firstBreak 18 = .ok (.iload_n 3, 1) := by decide +kernel
theorem dX3_firstBreak_19 : decode cX3_firstBreak 19 = .ok (.ireturn, 1) := by decide +kernel
theorem dX3_firstBreak_20 : decode cX3_firstBreak 20 = .ok (.iinc 3 1, 3) := by decide +kernel
theorem dX3_firstBreak_23 : decode cX3_firstBreak 23 = .ok (.goto (-21), 3) := by decide +kernel
theorem dX3_firstBreak_26 : decode cX3_firstBreak 26 = .ok (.ldc 61, 2) := by decide +kernel
theorem dX3_firstBreak_28 : decode cX3_firstBreak 28 = .ok (.ireturn, 1) := by decide +kernel
theorem dX3_distanceAtLine_0 : decode cX3_distanceAtLine 0 = .ok (.iconst 0, 1) := by decide +kernel
theorem dX3_distanceAtLine_1 : decode cX3_distanceAtLine 1 = .ok (.istore_n 3, 1) := by decide +kernel
theorem dX3_distanceAtLine_2 : decode cX3_distanceAtLine 2 = .ok (.iconst 0, 1) := by decide +kernel
theorem dX3_distanceAtLine_3 : decode cX3_distanceAtLine 3 = .ok (.istore 4, 2) := by decide +kernel
theorem dX3_distanceAtLine_5 : decode cX3_distanceAtLine 5 = .ok (.iload 4, 2) := by decide +kernel
theorem dX3_distanceAtLine_7 : decode cX3_distanceAtLine 7 = .ok (.bipush 6, 2) := by decide +kernel
theorem dX3_distanceAtLine_9 : decode cX3_distanceAtLine 9 = .ok (.if_icmp .ge 23, 3) := by decide +kernel
theorem dX3_distanceAtLine_12 : decode cX3_distanceAtLine 12 = .ok (.iload_n 3, 1) := by decide +kernel
theorem dX3_distanceAtLine_13 : decode cX3_distanceAtLine 13 = .ok (.aload_n 0, 1) := by decide +kernel
theorem dX3_distanceAtLine_14 : decode cX3_distanceAtLine 14 = .ok (.iload_n 1, 1) := by decide +kernel
theorem dX3_distanceAtLine_15 : decode cX3_distanceAtLine 15 = .ok (.iload_n 2, 1) := by decide +kernel
theorem dX3_distanceAtLine_16 : decode cX3_distanceAtLine 16 = .ok (.iload 4, 2) := by decide +kernel
theorem dX3_distanceAtLine_18 : decode cX3_distanceAtLine 18 = .ok (.invokevirtual 50, 3) := by decide +kernel
theorem dX3_distanceAtLine_21 : decode cX3_distanceAtLine 21 = .ok (.invokestatic 31, 3) := by decide +kernel
theorem dX3_distanceAtLine_24 : decode cX3_distanceAtLine 24 = .ok (.iadd, 1) := by decide +kernel
theorem dX3_distanceAtLine_25 : decode cX3_distanceAtLine 25 = .ok (.istore_n 3, 1) := by decide +kernel
theorem dX3_distanceAtLine_26 : decode cX3_distanceAtLine 26 = .ok (.iinc 4 1, 3) := by decide +kernel
theorem dX3_distanceAtLine_29 : decode cX3_distanceAtLine 29 = .ok (.goto (-24), 3) := by decide +kernel
theorem dX3_distanceAtLine_32 : decode cX3_distanceAtLine 32 = .ok (.iload_n 3, 1) := by decide +kernel
theorem dX3_distanceAtLine_33 : decode cX3_distanceAtLine 33 = .ok (.ireturn, 1) := by decide +kernel
theorem dX3_likeness_0 : decode cX3_likeness 0 = .ok (.aload_n 0, 1) := by decide +kernel
theorem dX3_likeness_1 : decode cX3_likeness 1 = .ok (.iload_n 1, 1) := by decide +kernel
theorem dX3_likeness_2 : decode cX3_likeness 2 = .ok (.invokevirtual 62, 3) := by decide +kernel
theorem dX3_likeness_5 : decode cX3_likeness 5 = .ok (.aload_n 0, 1) := by decide +kernel
theorem dX3_likeness_6 : decode cX3_likeness 6 = .ok (.iconst 4, 1) := by decide +kernel
theorem dX3_likeness_7 : decode cX3_likeness 7 = .ok (.iload_n 2, 1) := by decide +kernel
theorem dX3_likeness_8 : decode cX3_likeness 8 = .ok (.iadd, 1) := by decide +kernel
theorem dX3_likeness_9 : decode cX3_likeness 9 = .ok (.invokevirtual 62, 3) := by decide +kernel
theorem dX3_likeness_12 : decode cX3_likeness 12 = .ok (.iadd, 1) := by decide +kernel
theorem dX3_likeness_13 : decode cX3_likeness 13 = .ok (.istore_n 3, 1) := by decide +kernel
theorem dX3_likeness_14 : decode cX3_likeness 14 = .ok (.sipush 1000, 3) := by decide +kernel
theorem dX3_likeness_17 : decode cX3_likeness 17 = .ok (.iconst 5, 1) := by decide +kernel
theorem dX3_likeness_18 : decode cX3_likeness 18 = .ok (.iload_n 3, 1) := by decide +kernel
theorem dX3_likeness_19 : decode cX3_likeness 19 = .ok (.imul, 1) := by decide +kernel
theorem dX3_likeness_20 : decode cX3_likeness 20 = .ok (.isub, 1) := by decide +kernel
theorem dX3_likeness_21 : decode cX3_likeness 21 = .ok (.bipush 50, 2) := by decide +kernel
theorem dX3_likeness_23 : decode cX3_likeness 23 = .ok (.aload_n 0, 1) := by decide +kernel
theorem dX3_likeness_24 : decode cX3_likeness 24 = .ok (.iload_n 1, 1) := by decide +kernel
theorem dX3_likeness_25 : decode cX3_likeness 25 = .ok (.iload_n 2, 1) := by decide +kernel
theorem dX3_likeness_26 : decode cX3_likeness 26 = .ok (.invokevirtual 65, 3) := by decide +kernel
theorem dX3_likeness_29 : decode cX3_likeness 29 = .ok (.imul, 1) := by decide +kernel
theorem dX3_likeness_30 : decode cX3_likeness 30 = .ok (.isub, 1) := by decide +kernel
theorem dX3_likeness_31 : decode cX3_likeness 31 = .ok (.ireturn, 1) := by decide +kernel
theorem dX3_coinsOf_0 : decode cX3_coinsOf 0 = .ok (.aload_n 0, 1) := by decide +kernel
theorem dX3_coinsOf_1 : decode cX3_coinsOf 1 = .ok (.getfield 11, 3) := by decide +kernel
theorem dX3_coinsOf_4 : decode cX3_coinsOf 4 = .ok (.sipush 188, 3) := by decide +kernel
theorem dX3_coinsOf_7 : decode cX3_coinsOf 7 = .ok (.iload_n 1, 1) := by decide +kernel
theorem dX3_coinsOf_8 : decode cX3_coinsOf 8 = .ok (.iadd, 1) := by decide +kernel
theorem dX3_coinsOf_9 : decode cX3_coinsOf 9 = .ok (.iaload, 1) := by decide +kernel
theorem dX3_coinsOf_10 : decode cX3_coinsOf 10 = .ok (.ireturn, 1) := by decide +kernel
theorem dX3_givePrize_0 : decode cX3_givePrize 0 = .ok (.aload_n 0, 1) := by decide +kernel
theorem dX3_givePrize_1 : decode cX3_givePrize 1 = .ok (.getfield 11, 3) := by decide +kernel
theorem dX3_givePrize_4 : decode cX3_givePrize 4 = .ok (.sipush 188, 3) := by decide +kernel
theorem dX3_givePrize_7 : decode cX3_givePrize 7 = .ok (.iload_n 1, 1) := by decide +kernel
theorem dX3_givePrize_8 : decode cX3_givePrize 8 = .ok (.iadd, 1) := by decide +kernel
theorem dX3_givePrize_9 : decode cX3_givePrize 9 = .ok (.dup2, 1) := by decide +kernel
theorem dX3_givePrize_10 : decode cX3_givePrize 10 = .ok (.iaload, 1) := by decide +kernel
theorem dX3_givePrize_11 : decode cX3_givePrize 11 = .ok (.iload_n 2, 1) := by decide +kernel
theorem dX3_givePrize_12 : decode cX3_givePrize 12 = .ok (.iconst 2, 1) := by decide +kernel
theorem dX3_givePrize_13 : decode cX3_givePrize 13 = .ok (.idiv, 1) := by decide +kernel
theorem dX3_givePrize_14 : decode cX3_givePrize 14 = .ok (.iadd, 1) := by decide +kernel
theorem dX3_givePrize_15 : decode cX3_givePrize 15 = .ok (.iastore, 1) := by decide +kernel
theorem dX3_givePrize_16 : decode cX3_givePrize 16 = .ok (.aload_n 0, 1) := by decide +kernel
theorem dX3_givePrize_17 : decode cX3_givePrize 17 = .ok (.getfield 11, 3) := by decide +kernel
theorem dX3_givePrize_20 : decode cX3_givePrize 20 = .ok (.sipush 192, 3) := by decide +kernel
theorem dX3_givePrize_23 : decode cX3_givePrize 23 = .ok (.aload_n 0, 1) := by decide +kernel
theorem dX3_givePrize_24 : decode cX3_givePrize 24 = .ok (.iload_n 1, 1) := by decide +kernel
theorem dX3_givePrize_25 : decode cX3_givePrize 25 = .ok (.invokevirtual 47, 3) := by decide +kernel
theorem dX3_givePrize_28 : decode cX3_givePrize 28 = .ok (.iadd, 1) := by decide +kernel
theorem dX3_givePrize_29 : decode cX3_givePrize 29 = .ok (.dup2, 1) := by decide +kernel
theorem dX3_givePrize_30 : decode cX3_givePrize 30 = .ok (.iaload, 1) := by decide +kernel
theorem dX3_givePrize_31 : decode cX3_givePrize 31 = .ok (.iload_n 2, 1) := by decide +kernel
theorem dX3_givePrize_32 : decode cX3_givePrize 32 = .ok (.iconst 2, 1) := by decide +kernel
theorem dX3_givePrize_33 : decode cX3_givePrize 33 = .ok (.idiv, 1) := by decide +kernel
theorem dX3_givePrize_34 : decode cX3_givePrize 34 = .ok (.iadd, 1) := by decide +kernel
theorem dX3_givePrize_35 : decode cX3_givePrize 35 = .ok (.iastore, 1) := by decide +kernel
theorem dX3_givePrize_36 : decode cX3_givePrize 36 = .ok (.return_, 1) := by decide +kernel
theorem dX3_countShow_0 : decode cX3_countShow 0 = .ok (.aload_n 0, 1) := by decide +kernel
theorem dX3_countShow_1 : decode cX3_countShow 1 = .ok (.getfield 11, 3) := by decide +kernel
theorem dX3_countShow_4 : decode cX3_countShow 4 = .ok (.sipush 203, 3) := by decide +kernel
theorem dX3_countShow_7 : decode cX3_countShow 7 = .ok (.dup2, 1) := by decide +kernel
theorem dX3_countShow_8 : decode cX3_countShow 8 = .ok (.iaload, 1) := by decide +kernel
theorem dX3_countShow_9 : decode cX3_countShow 9 = .ok (.iconst 1, 1) := by decide +kernel
theorem dX3_countShow_10 : decode cX3_countShow 10 = .ok (.iadd, 1) := by decide +kernel
theorem dX3_countShow_11 : decode cX3_countShow 11 = .ok (.iastore, 1) := by decide +kernel
theorem dX3_countShow_12 : decode cX3_countShow 12 = .ok (.return_, 1) := by decide +kernel
theorem dX3_allCoins_0 : decode cX3_allCoins 0 = .ok (.iconst 0, 1) := by decide +kernel
theorem dX3_allCoins_1 : decode cX3_allCoins 1 = .ok (.istore_n 1, 1) := by decide +kernel
theorem dX3_allCoins_2 : decode cX3_allCoins 2 = .ok (.iconst 0, 1) := by decide +kernel
theorem dX3_allCoins_3 : decode cX3_allCoins 3 = .ok (.istore_n 2, 1) := by decide +kernel
theorem dX3_allCoins_4 : decode cX3_allCoins 4 = .ok (.iload_n 2, 1) := by decide +kernel
theorem dX3_allCoins_5 : decode cX3_allCoins 5 = .ok (.bipush 8, 2) := by decide +kernel
theorem dX3_allCoins_7 : decode cX3_allCoins 7 = .ok (.if_icmp .ge 17, 3) := by decide +kernel
theorem dX3_allCoins_10 : decode cX3_allCoins 10 = .ok (.iload_n 1, 1) := by decide +kernel
theorem dX3_allCoins_11 : decode cX3_allCoins 11 = .ok (.aload_n 0, 1) := by decide +kernel
theorem dX3_allCoins_12 : decode cX3_allCoins 12 = .ok (.iload_n 2, 1) := by decide +kernel
theorem dX3_allCoins_13 : decode cX3_allCoins 13 = .ok (.invokevirtual 68, 3) := by decide +kernel
theorem dX3_allCoins_16 : decode cX3_allCoins 16 = .ok (.iadd, 1) := by decide +kernel
theorem dX3_allCoins_17 : decode cX3_allCoins 17 = .ok (.istore_n 1, 1) := by decide +kernel
theorem dX3_allCoins_18 : decode cX3_allCoins 18 = .ok (.iinc 2 1, 3) := by decide +kernel
theorem dX3_allCoins_21 : decode cX3_allCoins 21 = .ok (.goto (-17), 3) := by decide +kernel
theorem dX3_allCoins_24 : decode cX3_allCoins 24 = .ok (.iload_n 1, 1) := by decide +kernel
theorem dX3_allCoins_25 : decode cX3_allCoins 25 = .ok (.ireturn, 1) := by decide +kernel
theorem dX3_allBreaks_0 : decode cX3_allBreaks 0 = .ok (.iconst 0, 1) := by decide +kernel
theorem dX3_allBreaks_1 : decode cX3_allBreaks 1 = .ok (.istore_n 1, 1) := by decide +kernel
theorem dX3_allBreaks_2 : decode cX3_allBreaks 2 = .ok (.iconst 0, 1) := by decide +kernel
theorem dX3_allBreaks_3 : decode cX3_allBreaks 3 = .ok (.istore_n 2, 1) := by decide +kernel
theorem dX3_allBreaks_4 : decode cX3_allBreaks 4 = .ok (.iload_n 2, 1) := by decide +kernel
theorem dX3_allBreaks_5 : decode cX3_allBreaks 5 = .ok (.iconst 4, 1) := by decide +kernel
theorem dX3_allBreaks_6 : decode cX3_allBreaks 6 = .ok (.if_icmp .ge 22, 3) := by decide +kernel
theorem dX3_allBreaks_9 : decode cX3_allBreaks 9 = .ok (.iload_n 1, 1) := by decide +kernel
theorem dX3_allBreaks_10 : decode cX3_allBreaks 10 = .ok (.aload_n 0, 1) := by decide +kernel
theorem dX3_allBreaks_11 : decode cX3_allBreaks 11 = .ok (.iload_n 2, 1) := by decide +kernel
theorem dX3_allBreaks_12 : decode cX3_allBreaks 12 = .ok (.aload_n 0, 1) := by decide +kernel
theorem dX3_allBreaks_13 : decode cX3_allBreaks 13 = .ok (.iload_n 2, 1) := by decide +kernel
theorem dX3_allBreaks_14 : decode cX3_allBreaks 14 = .ok (.invokevirtual 47, 3) := by decide +kernel
theorem dX3_allBreaks_17 : decode cX3_allBreaks 17 = .ok (.invokevirtual 65, 3) := by decide +kernel
theorem dX3_allBreaks_20 : decode cX3_allBreaks 20 = .ok (.iadd, 1) := by decide +kernel
theorem dX3_allBreaks_21 : decode cX3_allBreaks 21 = .ok (.istore_n 1, 1) := by decide +kernel
theorem dX3_allBreaks_22 : decode cX3_allBreaks 22 = .ok (.iinc 2 1, 3) := by decide +kernel
theorem dX3_allBreaks_25 : decode cX3_allBreaks 25 = .ok (.goto (-21), 3) := by decide +kernel
theorem dX3_allBreaks_28 : decode cX3_allBreaks 28 = .ok (.iload_n 1, 1) := by decide +kernel
theorem dX3_allBreaks_29 : decode cX3_allBreaks 29 = .ok (.ireturn, 1) := by decide +kernel
theorem dX3_allLikeness_0 : decode cX3_allLikeness 0 = .ok (.iconst 0, 1) := by decide +kernel
theorem dX3_allLikeness_1 : decode cX3_allLikeness 1 = .ok (.istore_n 1, 1) := by decide +kernel
theorem dX3_allLikeness_2 : decode cX3_allLikeness 2 = .ok (.iconst 0, 1) := by decide +kernel
theorem dX3_allLikeness_3 : decode cX3_allLikeness 3 = .ok (.istore_n 2, 1) := by decide +kernel
theorem dX3_allLikeness_4 : decode cX3_allLikeness 4 = .ok (.iload_n 2, 1) := by decide +kernel
theorem dX3_allLikeness_5 : decode cX3_allLikeness 5 = .ok (.iconst 4, 1) := by decide +kernel
theorem dX3_allLikeness_6 : decode cX3_allLikeness 6 = .ok (.if_icmp .ge 22, 3) := by decide +kernel
theorem dX3_allLikeness_9 : decode cX3_allLikeness 9 = .ok (.iload_n 1, 1) := by decide +kernel
theorem dX3_allLikeness_10 : decode cX3_allLikeness 10 = .ok (.aload_n 0, 1) := by decide +kernel
theorem dX3_allLikeness_11 : decode cX3_allLikeness 11 = .ok (.iload_n 2, 1) := by decide +kernel
theorem dX3_allLikeness_12 : decode cX3_allLikeness 12 = .ok (.aload_n 0, 1) := by decide +kernel
theorem dX3_allLikeness_13 : decode cX3_allLikeness 13 = .ok (.iload_n 2, 1) := by decide +kernel
theorem dX3_allLikeness_14 : decode cX3_allLikeness 14 = .ok (.invokevirtual 47, 3) := by decide +kernel
theorem dX3_allLikeness_17 : decode cX3_allLikeness 17 = .ok (.invokevirtual 71, 3) := by decide +kernel
theorem dX3_allLikeness_20 : decode cX3_allLikeness 20 = .ok (.iadd, 1) := by decide +kernel
theorem dX3_allLikeness_21 : decode cX3_allLikeness 21 = .ok (.istore_n 1, 1) := by decide +kernel
theorem dX3_allLikeness_22 : decode cX3_allLikeness 22 = .ok (.iinc 2 1, 3) := by decide +kernel
theorem dX3_allLikeness_25 : decode cX3_allLikeness 25 = .ok (.goto (-21), 3) := by decide +kernel
theorem dX3_allLikeness_28 : decode cX3_allLikeness 28 = .ok (.iload_n 1, 1) := by decide +kernel
theorem dX3_allLikeness_29 : decode cX3_allLikeness 29 = .ok (.ireturn, 1) := by decide +kernel
theorem dX3_allErrors_0 : decode cX3_allErrors 0 = .ok (.iconst 0, 1) := by decide +kernel
theorem dX3_allErrors_1 : decode cX3_allErrors 1 = .ok (.istore_n 1, 1) := by decide +kernel
theorem dX3_allErrors_2 : decode cX3_allErrors 2 = .ok (.iconst 0, 1) := by decide +kernel
theorem dX3_allErrors_3 : decode cX3_allErrors 3 = .ok (.istore_n 2, 1) := by decide +kernel
theorem dX3_allErrors_4 : decode cX3_allErrors 4 = .ok (.iload_n 2, 1) := by decide +kernel
theorem dX3_allErrors_5 : decode cX3_allErrors 5 = .ok (.bipush 8, 2) := by decide +kernel
theorem dX3_allErrors_7 : decode cX3_allErrors 7 = .ok (.if_icmp .ge 17, 3) := by decide +kernel
theorem dX3_allErrors_10 : decode cX3_allErrors 10 = .ok (.iload_n 1, 1) := by decide +kernel
theorem dX3_allErrors_11 : decode cX3_allErrors 11 = .ok (.aload_n 0, 1) := by decide +kernel
theorem dX3_allErrors_12 : decode cX3_allErrors 12 = .ok (.iload_n 2, 1) := by decide +kernel
theorem dX3_allErrors_13 : decode cX3_allErrors 13 = .ok (.invokevirtual 62, 3) := by decide +kernel
theorem dX3_allErrors_16 : decode cX3_allErrors 16 = .ok (.iadd, 1) := by decide +kernel
theorem dX3_allErrors_17 : decode cX3_allErrors 17 = .ok (.istore_n 1, 1) := by decide +kernel
theorem dX3_allErrors_18 : decode cX3_allErrors 18 = .ok (.iinc 2 1, 3) := by decide +kernel
theorem dX3_allErrors_21 : decode cX3_allErrors 21 = .ok (.goto (-17), 3) := by decide +kernel
theorem dX3_allErrors_24 : decode cX3_allErrors 24 = .ok (.iload_n 1, 1) := by decide +kernel
theorem dX3_allErrors_25 : decode cX3_allErrors 25 = .ok (.ireturn, 1) := by decide +kernel
theorem dX4_init_0 : decode cX4_init 0 = .ok (.aload_n 0, 1) := by decide +kernel
theorem dX4_init_1 : decode cX4_init 1 = .ok (.invokespecial 3, 3) := by decide +kernel
theorem dX4_init_4 : decode cX4_init 4 = .ok (.aload_n 0, 1) := by decide +kernel
theorem dX4_init_5 : decode cX4_init 5 = .ok (.bipush 60, 2) := by decide +kernel
theorem dX4_init_7 : decode cX4_init 7 = .ok (.newarray .char, 2) := by decide +kernel
theorem dX4_init_9 : decode cX4_init 9 = .ok (.putfield 11, 3) := by decide +kernel
theorem dX4_init_12 : decode cX4_init 12 = .ok (.return_, 1) := by decide +kernel
theorem dX4_length_0 : decode cX4_length 0 = .ok (.aload_n 0, 1) := by decide +kernel
theorem dX4_length_1 : decode cX4_length 1 = .ok (.getfield 15, 3) := by decide +kernel
theorem dX4_length_4 : decode cX4_length 4 = .ok (.ireturn, 1) := by decide +kernel
theorem dX4_characterAt_0 : decode cX4_characterAt 0 = .ok (.iload_n 1, 1) := by decide +kernel
theorem dX4_characterAt_1 : decode cX4_characterAt 1 = .ok (.ifCond .lt 20, 3) := by decide +kernel
theorem dX4_characterAt_4 : decode cX4_characterAt 4 = .ok (.iload_n 1, 1) := by decide +kernel
theorem dX4_characterAt_5 : decode cX4_characterAt 5 = .ok (.aload_n 0, 1) := by decide +kernel
theorem dX4_characterAt_6 : decode cX4_characterAt 6 = .ok (.getfield 15, 3) := by decide +kernel
theorem dX4_characterAt_9 : decode cX4_characterAt 9 = .ok (.if_icmp .ge 12, 3) := by decide +kernel
theorem dX4_characterAt_12 : decode cX4_characterAt 12 = .ok (.aload_n 0, 1) := by decide +kernel
theorem dX4_characterAt_13 : decode cX4_characterAt 13 = .ok (.getfield 11, 3) := by decide +kernel
theorem dX4_characterAt_16 : decode cX4_characterAt 16 = .ok (.iload_n 1, 1) := by decide +kernel
theorem dX4_characterAt_17 : decode cX4_characterAt 17 = .ok (.caload, 1) := by decide +kernel
theorem dX4_characterAt_18 : decode cX4_characterAt 18 = .ok (.goto 4, 3) := by decide +kernel
theorem dX4_characterAt_21 : decode cX4_characterAt 21 = .ok (.iconst 0, 1) := by decide +kernel
theorem dX4_characterAt_22 : decode cX4_characterAt 22 = .ok (.ireturn, 1) := by decide +kernel
theorem dX4_isHalfAt_0 : decode cX4_isHalfAt 0 = .ok (.aload_n 0, 1) := by decide +kernel
theorem dX4_isHalfAt_1 : decode cX4_isHalfAt 1 = .ok (.iload_n 1, 1) := by decide +kernel
theorem dX4_isHalfAt_2 : decode cX4_isHalfAt 2 = .ok (.invokevirtual 19, 3) := by decide +kernel
theorem dX4_isHalfAt_5 : decode cX4_isHalfAt 5 = .ok (.bipush 76, 2) := by decide +kernel
theorem dX4_isHalfAt_7 : decode cX4_isHalfAt 7 = .ok (.if_icmp .eq 13, 3) := by decide +kernel
theorem dX4_isHalfAt_10 : decode cX4_isHalfAt 10 = .ok (.aload_n 0, 1) := by decide +kernel
theorem dX4_isHalfAt_11 : decode cX4_isHalfAt 11 = .ok (.iload_n 1, 1) := by decide +kernel
theorem dX4_isHalfAt_12 : decode cX4_isHalfAt 12 = .ok (.invokevirtual 19, 3) := by decide +kernel
theorem dX4_isHalfAt_15 : decode cX4_isHalfAt 15 = .ok (.bipush 82, 2) := by decide +kernel
theorem dX4_isHalfAt_17 : decode cX4_isHalfAt 17 = .ok (.if_icmp .ne 7, 3) := by decide +kernel
theorem dX4_isHalfAt_20 : decode cX4_isHalfAt 20 = .ok (.iconst 1, 1) := by decide +kernel
theorem dX4_isHalfAt_21 : decode cX4_isHalfAt 21 = .ok (.goto 4, 3) := by decide +kernel
theorem dX4_isHalfAt_24 : decode cX4_isHalfAt 24 = .ok (.iconst 0, 1) := by decide +kernel
theorem dX4_isHalfAt_25 : decode cX4_isHalfAt 25 = .ok (.ireturn, 1) := by decide +kernel
theorem dX4_formAt_0 : decode cX4_formAt 0 = .ok (.aload_n 0, 1) := by decide +kernel
theorem dX4_formAt_1 : decode cX4_formAt 1 = .ok (.iload_n 1, 1) := by decide +kernel
theorem dX4_formAt_2 : decode cX4_formAt 2 = .ok (.invokevirtual 23, 3) := by decide +kernel
theorem dX4_formAt_5 : decode cX4_formAt 5 = .ok (.ifCond .eq 8, 3) := by decide +kernel
theorem dX4_formAt_8 : decode cX4_formAt 8 = .ok (.ldc 27, 2) := by decide +kernel
theorem dX4_formAt_10 : decode cX4_formAt 10 = .ok (.goto 5, 3) := by decide +kernel
theorem dX4_formAt_13 : decode cX4_formAt 13 = .ok (.ldc 29, 2) := by decide +kernel
theorem dX4_formAt_15 : decode cX4_formAt 15 = .ok (.areturn, 1) := by decide +kernel
theorem dX4_isAllowed_0 : decode cX4_isAllowed 0 = .ok (.iload_n 1, 1) := by decide +kernel
theorem dX4_isAllowed_1 : decode cX4_isAllowed 1 = .ok (.bipush 76, 2) := by decide +kernel
theorem dX4_isAllowed_3 : decode cX4_isAllowed 3 = .ok (.if_icmp .ne 21, 3) := by decide +kernel
theorem dX4_isAllowed_6 : decode cX4_isAllowed 6 = .ok (.iload_n 0, 1) := by decide +kernel
theorem dX4_isAllowed_7 : decode cX4_isAllowed 7 = .ok (.bipush 76, 2) := by decide +kernel
theorem dX4_isAllowed_9 : decode cX4_isAllowed 9 = .ok (.if_icmp .eq 9, 3) := by decide +kernel
theorem dX4_isAllowed_12 : decode cX4_isAllowed 12 = .ok (.iload_n 0, 1) := by decide +kernel
theorem dX4_isAllowed_13 : decode cX4_isAllowed 13 = .ok (.bipush 82, 2) := by decide +kernel
theorem dX4_isAllowed_15 : decode cX4_isAllowed 15 = .ok (.if_icmp .ne 7, 3) := by decide +kernel
theorem dX4_isAllowed_18 : decode cX4_isAllowed 18 = .ok (.iconst 1, 1) := by decide +kernel
theorem dX4_isAllowed_19 : decode cX4_isAllowed 19 = .ok (.goto 4, 3) := by decide +kernel
theorem dX4_isAllowed_22 : decode cX4_isAllowed 22 = .ok (.iconst 0, 1) := by decide +kernel
theorem dX4_isAllowed_23 : decode cX4_isAllowed 23 = .ok (.ireturn, 1) := by decide +kernel
theorem dX4_isAllowed_24 : decode cX4_isAllowed 24 = .ok (.iload_n 1, 1) := by decide +kernel
theorem dX4_isAllowed_25 : decode cX4_isAllowed 25 = .ok (.bipush 58, 2) := by decide +kernel
theorem dX4_isAllowed_27 : decode cX4_isAllowed 27 = .ok (.if_icmp .ne 15, 3) := by decide +kernel
theorem dX4_isAllowed_30 : decode cX4_isAllowed 30 = .ok (.iload_n 0, 1) := by decide +kernel
theorem dX4_isAllowed_31 : decode cX4_isAllowed 31 = .ok (.bipush 58, 2) := by decide +kernel
theorem dX4_isAllowed_33 : decode cX4_isAllowed 33 = .ok (.if_icmp .ne 7, 3) := by decide +kernel
theorem dX4_isAllowed_36 : decode cX4_isAllowed 36 = .ok (.iconst 1, 1) := by decide +kernel
theorem dX4_isAllowed_37 : decode cX4_isAllowed 37 = .ok (.goto 4, 3) := by decide +kernel
theorem dX4_isAllowed_40 : decode cX4_isAllowed 40 = .ok (.iconst 0, 1) := by decide +kernel
theorem dX4_isAllowed_41 : decode cX4_isAllowed 41 = .ok (.ireturn, 1) := by decide +kernel
theorem dX4_isAllowed_42 : decode cX4_isAllowed 42 = .ok (.iload_n 0, 1) := by decide +kernel
theorem dX4_isAllowed_43 : decode cX4_isAllowed 43 = .ok (.bipush 48, 2) := by decide +kernel
theorem dX4_isAllowed_45 : decode cX4_isAllowed 45 = .ok (.if_icmp .lt 12, 3) := by decide +kernel
theorem dX4_isAllowed_48 : decode cX4_isAllowed 48 = .ok (.iload_n 0, 1) := by decide +kernel
theorem dX4_isAllowed_49 : decode cX4_isAllowed 49 = .ok (.iload_n 1, 1) := by decide +kernel
theorem dX4_isAllowed_50 : decode cX4_isAllowed 50 = .ok (.if_icmp .gt 7, 3) := by decide +kernel
theorem dX4_isAllowed_53 : decode cX4_isAllowed 53 = .ok (.iconst 1, 1) := by decide +kernel
theorem dX4_isAllowed_54 : decode cX4_isAllowed 54 = .ok (.goto 4, 3) := by decide +kernel
theorem dX4_isAllowed_57 : decode cX4_isAllowed 57 = .ok (.iconst 0, 1) := by decide +kernel
theorem dX4_isAllowed_58 : decode cX4_isAllowed 58 = .ok (.ireturn, 1) := by decide +kernel
theorem dX4_fault_0 : decode cX4_fault 0 = .ok (.iconst 0, 1) := by decide +kernel
theorem dX4_fault_1 : decode cX4_fault 1 = .ok (.istore_n 1, 1) := by decide +kernel
theorem dX4_fault_2 : decode cX4_fault 2 = .ok (.iload_n 1, 1) := by decide +kernel
theorem dX4_fault_3 : decode cX4_fault 3 = .ok (.aload_n 0, 1) := by decide +kernel
theorem dX4_fault_4 : decode cX4_fault 4 = .ok (.getfield 15, 3) := by decide +kernel
theorem dX4_fault_7 : decode cX4_fault 7 = .ok (.if_icmp .gt 65, 3) := by decide +kernel
theorem dX4_fault_10 : decode cX4_fault 10 = .ok (.iload_n 1, 1) := by decide +kernel
theorem dX4_fault_11 : decode cX4_fault 11 = .ok (.aload_n 0, 1) := by decide +kernel
theorem dX4_fault_12 : decode cX4_fault 12 = .ok (.iload_n 1, 1) := by decide +kernel
theorem dX4_fault_13 : decode cX4_fault 13 = .ok (.invokevirtual 31, 3) := by decide +kernel
theorem dX4_fault_16 : decode cX4_fault 16 = .ok (.invokevirtual 35, 3) := by decide +kernel
theorem dX4_fault_19 : decode cX4_fault 19 = .ok (.iadd, 1) := by decide +kernel
theorem dX4_fault_20 : decode cX4_fault 20 = .ok (.istore_n 2, 1) := by decide +kernel
theorem dX4_fault_21 : decode cX4_fault 21 = .ok (.aload_n 0, 1) := by decide +kernel
theorem dX4_fault_22 : decode cX4_fault 22 = .ok (.iload_n 1, 1) := by decide +kernel
theorem dX4_fault_23 : decode cX4_fault 23 = .ok (.invokevirtual 40, 3) := by decide +kernel
theorem dX4_fault_26 : decode cX4_fault 26 = .ok (.istore_n 3, 1) := by decide +kernel
theorem dX4_fault_27 : decode cX4_fault 27 = .ok (.iload_n 3, 1) := by decide +kernel
theorem dX4_fault_28 : decode cX4_fault 28 = .ok (.iconst (-1), 1) := by decide +kernel
theorem dX4_fault_29 : decode cX4_fault 29 = .ok (.if_icmp .eq 5, 3) := by decide +kernel
theorem dX4_fault_32 : decode cX4_fault 32 = .ok (.iload_n 3, 1) := by decide +kernel
theorem dX4_fault_33 : decode cX4_fault 33 = .ok (.ireturn, 1) := by decide +kernel
theorem dX4_fault_34 : decode cX4_fault 34 = .ok (.iload_n 2, 1) := by decide +kernel
theorem dX4_fault_35 : decode cX4_fault 35 = .ok (.aload_n 0, 1) := by decide +kernel
theorem dX4_fault_36 : decode cX4_fault 36 = .ok (.getfield 15, 3) := by decide +kernel
theorem dX4_fault_39 : decode cX4_fault 39 = .ok (.if_icmp .ne 5, 3) := by decide +kernel
theorem dX4_fault_42 : decode cX4_fault 42 = .ok (.iconst (-1), 1) := by decide +kernel
theorem dX4_fault_43 : decode cX4_fault 43 = .ok (.ireturn, 1) := by decide +kernel
theorem dX4_fault_44 : decode cX4_fault 44 = .ok (.aload_n 0, 1) := by decide +kernel
theorem dX4_fault_45 : decode cX4_fault 45 = .ok (.iload_n 2, 1) := by decide +kernel
theorem dX4_fault_46 : decode cX4_fault 46 = .ok (.invokevirtual 19, 3) := by decide +kernel
theorem dX4_fault_49 : decode cX4_fault 49 = .ok (.bipush 44, 2) := by decide +kernel
theorem dX4_fault_51 : decode cX4_fault 51 = .ok (.if_icmp .eq 5, 3) := by decide +kernel
theorem dX4_fault_54 : decode cX4_fault 54 = .ok (.iload_n 2, 1) := by decide +kernel
theorem dX4_fault_55 : decode cX4_fault 55 = .ok (.ireturn, 1) := by decide +kernel
theorem dX4_fault_56 : decode cX4_fault 56 = .ok (.iload_n 1, 1) := by decide +kernel
theorem dX4_fault_57 : decode cX4_fault 57 = .ok (.aload_n 0, 1) := by decide +kernel
theorem dX4_fault_58 : decode cX4_fault 58 = .ok (.iload_n 1, 1) := by decide +kernel
theorem dX4_fault_59 : decode cX4_fault 59 = .ok (.invokevirtual 31, 3) := by decide +kernel
theorem dX4_fault_62 : decode cX4_fault 62 = .ok (.invokevirtual 35, 3) := by decide +kernel
theorem dX4_fault_65 : decode cX4_fault 65 = .ok (.iconst 1, 1) := by decide +kernel
theorem dX4_fault_66 : decode cX4_fault 66 = .ok (.iadd, 1) := by decide +kernel
theorem dX4_fault_67 : decode cX4_fault 67 = .ok (.iadd, 1) := by decide +kernel
theorem dX4_fault_68 : decode cX4_fault 68 = .ok (.istore_n 1, 1) := by decide +kernel
theorem dX4_fault_69 : decode cX4_fault 69 = .ok (.goto (-67), 3) := by decide +kernel
theorem dX4_fault_72 : decode cX4_fault 72 = .ok (.iconst (-1), 1) := by decide +kernel
theorem dX4_fault_73 : decode cX4_fault 73 = .ok (.ireturn, 1) := by decide +kernel
theorem dX4_entryFault_0 : decode cX4_entryFault 0 = .ok (.aload_n 0, 1) := by decide +kernel
theorem dX4_entryFault_1 : decode cX4_entryFault 1 = .ok (.iload_n 1, 1) := by decide +kernel
theorem dX4_entryFault_2 : decode cX4_entryFault 2 = .ok (.invokevirtual 31, 3) := by decide +kernel
theorem dX4_entryFault_5 : decode cX4_entryFault 5 = .ok (.astore_n 2, 1) := by decide +kernel
theorem dX4_entryFault_6 : decode cX4_entryFault 6 = .ok (.iconst 0, 1) := by decide +kernel
theorem dX4_entryFault_7 : decode cX4_entryFault 7 = .ok (.istore_n 3, 1) := by decide +kernel
theorem dX4_entryFault_8 : decode cX4_entryFault 8 = .ok (.iload_n 3, 1) := by decide +kernel
theorem dX4_entryFault_9 : decode cX4_entryFault 9 = .ok (.aload_n 2, 1) := by decide +kernel
theorem dX4_entryFault_10 : decode cX4_entryFault 10 = .ok (.invokevirtual 35, 3) := by decide +kernel
theorem dX4_entryFault_13 : decode cX4_entryFault 13 = .ok (.if_icmp .ge 31, 3) := by decide +kernel
theorem dX4_entryFault_16 : decode cX4_entryFault 16 = .ok (.aload_n 0, 1) := by decide +kernel
theorem dX4_entryFault_17 : decode cX4_entryFault 17 = .ok (.iload_n 1, 1) := by decide +kernel
theorem dX4_entryFault_18 : decode cX4_entryFault 18 = .ok (.iload_n 3, 1) := by decide +kernel
theorem dX4_entryFault_19 : decode cX4_entryFault 19 = .ok (.iadd, 1) := by decide +kernel
theorem dX4_entryFault_20 : decode cX4_entryFault 20 = .ok (.invokevirtual 19, 3) := by decide +kernel
theorem dX4_entryFault_23 : decode cX4_entryFault 23 = .ok (.aload_n 2, 1) := by decide +kernel
theorem dX4_entryFault_24 : decode cX4_entryFault 24 = .ok (.iload_n 3, 1) := by decide +kernel
theorem dX4_entryFault_25 : decode cX4_entryFault 25 = .ok (.invokevirtual 44, 3) := by decide +kernel
theorem dX4_entryFault_28 : decode cX4_entryFault 28 = .ok (.invokestatic 47, 3) := by decide +kernel
theorem dX4_entryFault_31 : decode cX4_entryFault 31 = .ok (.ifCond .ne 7, 3) := by decide +kernel
theorem dX4_entryFault_34 : decode cX4_entryFault 34 = .ok (.iload_n 1, 1) := by decide +kernel
theorem dX4_entryFault_35 : decode cX4_entryFault 35 = .ok (.iload_n 3, 1) := by decide +kernel
theorem dX4_entryFault_36 : decode cX4_entryFault 36 = .ok (.iadd, 1) := by decide +kernel
theorem dX4_entryFault_37 : decode cX4_entryFault 37 = .ok (.ireturn, 1) := by decide +kernel
theorem dX4_entryFault_38 : decode cX4_entryFault 38 = .ok (.iinc 3 1, 3) := by decide +kernel
theorem dX4_entryFault_41 : decode cX4_entryFault 41 = .ok (.goto (-33), 3) := by decide +kernel
theorem dX4_entryFault_44 : decode cX4_entryFault 44 = .ok (.iconst (-1), 1) := by decide +kernel
theorem dX4_entryFault_45 : decode cX4_entryFault 45 = .ok (.ireturn, 1) := by decide +kernel
theorem dX4_writeRows_0 : decode cX4_writeRows 0 = .ok (.iconst 0, 1) := by decide +kernel
theorem dX4_writeRows_1 : decode cX4_writeRows 1 = .ok (.istore_n 2, 1) := by decide +kernel
theorem dX4_writeRows_2 : decode cX4_writeRows 2 = .ok (.iconst 0, 1) := by decide +kernel
theorem dX4_writeRows_3 : decode cX4_writeRows 3 = .ok (.istore_n 3, 1) := by decide +kernel
theorem dX4_writeRows_4 : decode cX4_writeRows 4 = .ok (.iload_n 3, 1) := by decide +kernel
theorem dX4_writeRows_5 : decode cX4_writeRows 5 = .ok (.aload_n 0, 1) := by decide +kernel
theorem dX4_writeRows_6 : decode cX4_writeRows 6 = .ok (.getfield 15, 3) := by decide +kernel
theorem dX4_writeRows_9 : decode cX4_writeRows 9 = .ok (.if_icmp .ge 45, 3) := by decide +kernel
theorem dX4_writeRows_12 : decode cX4_writeRows 12 = .ok (.aload_n 0, 1) := by decide +kernel
theorem dX4_writeRows_13 : decode cX4_writeRows 13 = .ok (.iload_n 3, 1) := by decide +kernel
theorem dX4_writeRows_14 : decode cX4_writeRows 14 = .ok (.invokevirtual 23, 3) := by decide +kernel
theorem dX4_writeRows_17 : decode cX4_writeRows 17 = .ok (.ifCond .eq 12, 3) := by decide +kernel
theorem dX4_writeRows_20 : decode cX4_writeRows 20 = .ok (.aload_n 0, 1) := by decide +kernel
theorem dX4_writeRows_21 : decode cX4_writeRows 21 = .ok (.aload_n 1, 1) := by decide +kernel
theorem dX4_writeRows_22 : decode cX4_writeRows 22 = .ok (.iload_n 3, 1) := by decide +kernel
theorem dX4_writeRows_23 : decode cX4_writeRows 23 = .ok (.invokevirtual 51, 3) := by decide +kernel
theorem dX4_writeRows_26 : decode cX4_writeRows 26 = .ok (.goto 9, 3) := by decide +kernel
theorem dX4_writeRows_29 : decode cX4_writeRows 29 = .ok (.aload_n 0, 1) := by decide +kernel
theorem dX4_writeRows_30 : decode cX4_writeRows 30 = .ok (.aload_n 1, 1) := by decide +kernel
theorem dX4_writeRows_31 : decode cX4_writeRows 31 = .ok (.iload_n 3, 1) := by decide +kernel
theorem dX4_writeRows_32 : decode cX4_writeRows 32 = .ok (.invokevirtual 55, 3) := by decide +kernel
theorem dX4_writeRows_35 : decode cX4_writeRows 35 = .ok (.iinc 2 1, 3) := by decide +kernel
theorem dX4_writeRows_38 : decode cX4_writeRows 38 = .ok (.iload_n 3, 1) := by decide +kernel
theorem dX4_writeRows_39 : decode cX4_writeRows 39 = .ok (.aload_n 0, 1) := by decide +kernel
theorem dX4_writeRows_40 : decode cX4_writeRows 40 = .ok (.iload_n 3, 1) := by decide +kernel
theorem dX4_writeRows_41 : decode cX4_writeRows 41 = .ok (.invokevirtual 31, 3) := by decide +kernel
theorem dX4_writeRows_44 : decode cX4_writeRows 44 = .ok (.invokevirtual 35, 3) := by decide +kernel
theorem dX4_writeRows_47 : decode cX4_writeRows 47 = .ok (.iconst 1, 1) := by decide +kernel
theorem dX4_writeRows_48 : decode cX4_writeRows 48 = .ok (.iadd, 1) := by decide +kernel
theorem dX4_writeRows_49 : decode cX4_writeRows 49 = .ok (.iadd, 1) := by decide +kernel
theorem dX4_writeRows_50 : decode cX4_writeRows 50 = .ok (.istore_n 3, 1) := by decide +kernel
theorem dX4_writeRows_51 : decode cX4_writeRows 51 = .ok (.goto (-47), 3) := by decide +kernel
theorem dX4_writeRows_54 : decode cX4_writeRows 54 = .ok (.iload_n 2, 1) := by decide +kernel
theorem dX4_writeRows_55 : decode cX4_writeRows 55 = .ok (.ireturn, 1) := by decide +kernel
theorem dX4_writeSitterRow_0 : decode cX4_writeSitterRow 0 = .ok (.aload_n 0, 1) := by decide +kernel
theorem dX4_writeSitterRow_1 : decode cX4_writeSitterRow 1 = .ok (.iload_n 2, 1) := by decide +kernel
theorem dX4_writeSitterRow_2 : decode cX4_writeSitterRow 2 = .ok (.invokevirtual 58, 3) := by decide +kernel
theorem dX4_writeSitterRow_5 : decode cX4_writeSitterRow 5 = .ok (.istore_n 3, 1) := by decide +kernel
theorem dX4_writeSitterRow_6 : decode cX4_writeSitterRow 6 = .ok (.iconst 0, 1) := by decide +kernel
theorem dX4_writeSitterRow_7 : decode cX4_writeSitterRow 7 = .ok (.istore 4, 2) := by decide +kernel
theorem dX4_writeSitterRow_9 : decode cX4_writeSitterRow 9 = .ok (.iload 4, 2) := by decide +kernel
theorem dX4_writeSitterRow_11 : decode cX4_writeSitterRow 11 = .ok (.bipush 6, 2) := by decide +kernel
theorem dX4_writeSitterRow_13 : decode cX4_writeSitterRow 13 = .ok (.if_icmp .ge 26, 3) := by decide +kernel
theorem dX4_writeSitterRow_16 : decode cX4_writeSitterRow 16 = .ok (.aload_n 1, 1) := by decide +kernel
theorem dX4_writeSitterRow_17 : decode cX4_writeSitterRow 17 = .ok (.iload_n 3, 1) := by decide +kernel
theorem dX4_writeSitterRow_18 : decode cX4_writeSitterRow 18 = .ok (.iload 4, 2) := by decide +kernel
theorem dX4_writeSitterRow_20 : decode cX4_writeSitterRow 20 = .ok (.aload_n 0, 1) := by decide +kernel
theorem dX4_writeSitterRow_21 : decode cX4_writeSitterRow 21 = .ok (.iload_n 2, 1) := by decide +kernel
theorem dX4_writeSitterRow_22 : decode cX4_writeSitterRow 22 = .ok (.iconst 2, 1) := by decide +kernel
theorem dX4_writeSitterRow_23 : decode cX4_writeSitterRow 23 = .ok (.iadd, 1) := by decide +kernel
theorem dX4_writeSitterRow_24 : decode cX4_writeSitterRow 24 = .ok (.iload 4, 2) := by decide +kernel
theorem dX4_writeSitterRow_26 : decode cX4_writeSitterRow 26 = .ok (.iadd, 1) := by decide +kernel
theorem dX4_writeSitterRow_27 : decode cX4_writeSitterRow 27 = .ok (.invokevirtual 58, 3) := by decide +kernel
theorem dX4_writeSitterRow_30 : decode cX4_writeSitterRow 30 = .ok (.invokevirtual 61, 3) := by decide +kernel
theorem dX4_writeSitterRow_33 : decode cX4_writeSitterRow 33 = .ok (.iinc 4 1, 3) := by decide +kernel
theorem dX4_writeSitterRow_36 : decode cX4_writeSitterRow 36 = .ok (.goto (-27), 3) := by decide +kernel
theorem dX4_writeSitterRow_39 : decode cX4_writeSitterRow 39 = .ok (.return_, 1) := by decide +kernel
theorem dX4_writeHalfRow_0 : decode cX4_writeHalfRow 0 = .ok (.aload_n 0, 1) := by decide +kernel
theorem dX4_writeHalfRow_1 : decode cX4_writeHalfRow 1 = .ok (.iload_n 2, 1) := by decide +kernel
theorem dX4_writeHalfRow_2 : decode cX4_writeHalfRow 2 = .ok (.invokevirtual 19, 3) := by decide +kernel
theorem dX4_writeHalfRow_5 : decode cX4_writeHalfRow 5 = .ok (.bipush 82, 2) := by decide +kernel
theorem dX4_writeHalfRow_7 : decode cX4_writeHalfRow 7 = .ok (.if_icmp .ne 7, 3) := by decide +kernel
theorem dX4_writeHalfRow_10 : decode cX4_writeHalfRow 10 = .ok (.iconst 1, 1) := by decide +kernel
theorem dX4_writeHalfRow_11 : decode cX4_writeHalfRow 11 = .ok (.goto 4, 3) := by decide +kernel
theorem dX4_writeHalfRow_14 : decode cX4_writeHalfRow 14 = .ok (.iconst 0, 1) := by decide +kernel
theorem dX4_writeHalfRow_15 : decode cX4_writeHalfRow 15 = .ok (.aload_n 0, 1) := by decide +kernel
theorem dX4_writeHalfRow_16 : decode cX4_writeHalfRow 16 = .ok (.iload_n 2, 1) := by decide +kernel
theorem dX4_writeHalfRow_17 : decode cX4_writeHalfRow 17 = .ok (.iconst 1, 1) := by decide +kernel
theorem dX4_writeHalfRow_18 : decode cX4_writeHalfRow 18 = .ok (.iadd, 1) := by decide +kernel
theorem dX4_writeHalfRow_19 : decode cX4_writeHalfRow 19 = .ok (.invokevirtual 58, 3) := by decide +kernel
theorem dX4_writeHalfRow_22 : decode cX4_writeHalfRow 22 = .ok (.invokestatic 67, 3) := by decide +kernel
theorem dX4_writeHalfRow_25 : decode cX4_writeHalfRow 25 = .ok (.istore_n 3, 1) := by decide +kernel
theorem dX4_writeHalfRow_26 : decode cX4_writeHalfRow 26 = .ok (.aload_n 0, 1) := by decide +kernel
theorem dX4_writeHalfRow_27 : decode cX4_writeHalfRow 27 = .ok (.iload_n 2, 1) := by decide +kernel
theorem dX4_writeHalfRow_28 : decode cX4_writeHalfRow 28 = .ok (.iconst 2, 1) := by decide +kernel
theorem dX4_writeHalfRow_29 : decode cX4_writeHalfRow 29 = .ok (.iadd, 1) := by decide +kernel
theorem dX4_writeHalfRow_30 : decode cX4_writeHalfRow 30 = .ok (.invokevirtual 58, 3) := by decide +kernel
theorem dX4_writeHalfRow_33 : decode cX4_writeHalfRow 33 = .ok (.iconst 3, 1) := by decide +kernel
theorem dX4_writeHalfRow_34 : decode cX4_writeHalfRow 34 = .ok (.imul, 1) := by decide +kernel
theorem dX4_writeHalfRow_35 : decode cX4_writeHalfRow 35 = .ok (.istore 4, 2) := by decide +kernel
theorem dX4_writeHalfRow_37 : decode cX4_writeHalfRow 37 = .ok (.iconst 0, 1) := by decide +kernel
theorem dX4_writeHalfRow_38 : decode cX4_writeHalfRow 38 = .ok (.istore 5, 2) := by decide +kernel
theorem dX4_writeHalfRow_40 : decode cX4_writeHalfRow 40 = .ok (.iload 5, 2) := by decide +kernel
theorem dX4_writeHalfRow_42 : decode cX4_writeHalfRow 42 = .ok (.iconst 3, 1) := by decide +kernel
theorem dX4_writeHalfRow_43 : decode cX4_writeHalfRow 43 = .ok (.if_icmp .ge 29, 3) := by decide +kernel
theorem dX4_writeHalfRow_46 : decode cX4_writeHalfRow 46 = .ok (.aload_n 1, 1) := by decide +kernel
theorem dX4_writeHalfRow_47 : decode cX4_writeHalfRow 47 = .ok (.iload_n 3, 1) := by decide +kernel
theorem dX4_writeHalfRow_48 : decode cX4_writeHalfRow 48 = .ok (.iload 4, 2) := by decide +kernel
theorem dX4_writeHalfRow_50 : decode cX4_writeHalfRow 50 = .ok (.iload 5, 2) := by decide +kernel
theorem dX4_writeHalfRow_52 : decode cX4_writeHalfRow 52 = .ok (.iadd, 1) := by decide +kernel
theorem dX4_writeHalfRow_53 : decode cX4_writeHalfRow 53 = .ok (.aload_n 0, 1) := by decide +kernel
theorem dX4_writeHalfRow_54 : decode cX4_writeHalfRow 54 = .ok (.iload_n 2, 1) := by decide +kernel
theorem dX4_writeHalfRow_55 : decode cX4_writeHalfRow 55 = .ok (.iconst 4, 1) := by decide +kernel
theorem dX4_writeHalfRow_56 : decode cX4_writeHalfRow 56 = .ok (.iadd, 1) := by decide +kernel
theorem dX4_writeHalfRow_57 : decode cX4_writeHalfRow 57 = .ok (.iload 5, 2) := by decide +kernel
theorem dX4_writeHalfRow_59 : decode cX4_writeHalfRow 59 = .ok (.iadd, 1) := by decide +kernel
theorem dX4_writeHalfRow_60 : decode cX4_writeHalfRow 60 = .ok (.invokevirtual 58, 3) := by decide +kernel
theorem dX4_writeHalfRow_63 : decode cX4_writeHalfRow 63 = .ok (.invokevirtual 71, 3) := by decide +kernel
theorem dX4_writeHalfRow_66 : decode cX4_writeHalfRow 66 = .ok (.iinc 5 1, 3) := by decide +kernel
theorem dX4_writeHalfRow_69 : decode cX4_writeHalfRow 69 = .ok (.goto (-29), 3) := by decide +kernel
theorem dX4_writeHalfRow_72 : decode cX4_writeHalfRow 72 = .ok (.return_, 1) := by decide +kernel
theorem dX4_digitAt_0 : decode cX4_digitAt 0 = .ok (.aload_n 0, 1) := by decide +kernel
theorem dX4_digitAt_1 : decode cX4_digitAt 1 = .ok (.iload_n 1, 1) := by decide +kernel
theorem dX4_digitAt_2 : decode cX4_digitAt 2 = .ok (.invokevirtual 19, 3) := by decide +kernel
theorem dX4_digitAt_5 : decode cX4_digitAt 5 = .ok (.bipush 48, 2) := by decide +kernel
theorem dX4_digitAt_7 : decode cX4_digitAt 7 = .ok (.isub, 1) := by decide +kernel
theorem dX4_digitAt_8 : decode cX4_digitAt 8 = .ok (.ireturn, 1) := by decide +kernel
theorem dX5_init_0 : decode cX5_init 0 = .ok (.aload_n 0, 1) := by decide +kernel
theorem dX5_init_1 : decode cX5_init 1 = .ok (.invokespecial 3, 3) := by decide +kernel
theorem dX5_init_4 : decode cX5_init 4 = .ok (.aload_n 0, 1) := by decide +kernel
theorem dX5_init_5 : decode cX5_init 5 = .ok (.new 9, 3) := by decide +kernel
theorem dX5_init_8 : decode cX5_init 8 = .ok (.dup, 1) := by decide +kernel
theorem dX5_init_9 : decode cX5_init 9 = .ok (.invokespecial 11, 3) := by decide +kernel
theorem dX5_init_12 : decode cX5_init 12 = .ok (.putfield 12, 3) := by decide +kernel
theorem dX5_init_15 : decode cX5_init 15 = .ok (.aload_n 0, 1) := by decide +kernel
theorem dX5_init_16 : decode cX5_init 16 = .ok (.new 16, 3) := by decide +kernel
theorem dX5_init_19 : decode cX5_init 19 = .ok (.dup, 1) := by decide +kernel
theorem dX5_init_20 : decode cX5_init 20 = .ok (.invokespecial 18, 3) := by decide +kernel
theorem dX5_init_23 : decode cX5_init 23 = .ok (.putfield 19, 3) := by decide +kernel
theorem dX5_init_26 : decode cX5_init 26 = .ok (.aload_n 0, 1) := by decide +kernel
theorem dX5_init_27 : decode cX5_init 27 = .ok (.new 9, 3) := by decide +kernel
theorem dX5_init_30 : decode cX5_init 30 = .ok (.dup, 1) := by decide +kernel
theorem dX5_init_31 : decode cX5_init 31 = .ok (.invokespecial 11, 3) := by decide +kernel
theorem dX5_init_34 : decode cX5_init 34 = .ok (.putfield 23, 3) := by decide +kernel
theorem dX5_init_37 : decode cX5_init 37 = .ok (.aload_n 0, 1) := by decide +kernel
theorem dX5_init_38 : decode cX5_init 38 = .ok (.iconst 0, 1) := by decide +kernel
theorem dX5_init_39 : decode cX5_init 39 = .ok (.putfield 26, 3) := by decide +kernel
theorem dX5_init_42 : decode cX5_init 42 = .ok (.aload_n 0, 1) := by decide +kernel
theorem dX5_init_43 : decode cX5_init 43 = .ok (.new 30, 3) := by decide +kernel
theorem dX5_init_46 : decode cX5_init 46 = .ok (.dup, 1) := by decide +kernel
theorem dX5_init_47 : decode cX5_init 47 = .ok (.invokespecial 32, 3) := by decide +kernel
theorem dX5_init_50 : decode cX5_init 50 = .ok (.putfield 33, 3) := by decide +kernel
theorem dX5_init_53 : decode cX5_init 53 = .ok (.aload_n 0, 1) := by decide +kernel
theorem dX5_init_54 : decode cX5_init 54 = .ok (.new 37, 3) := by decide +kernel
theorem dX5_init_57 : decode cX5_init 57 = .ok (.dup, 1) := by decide +kernel
theorem dX5_init_58 : decode cX5_init 58 = .ok (.invokespecial 39, 3) := by decide +kernel
theorem dX5_init_61 : decode cX5_init 61 = .ok (.putfield 40, 3) := by decide +kernel
theorem dX5_init_64 : decode cX5_init 64 = .ok (.aload_n 0, 1) := by decide +kernel
theorem dX5_init_65 : decode cX5_init 65 = .ok (.new 44, 3) := by decide +kernel
theorem dX5_init_68 : decode cX5_init 68 = .ok (.dup, 1) := by decide +kernel
theorem dX5_init_69 : decode cX5_init 69 = .ok (.invokespecial 46, 3) := by decide +kernel
theorem dX5_init_72 : decode cX5_init 72 = .ok (.putfield 47, 3) := by decide +kernel
theorem dX5_init_75 : decode cX5_init 75 = .ok (.return_, 1) := by decide +kernel
theorem dX5_sit_0 : decode cX5_sit 0 = .ok (.iload_n 1, 1) := by decide +kernel
theorem dX5_sit_1 : decode cX5_sit 1 = .ok (.bipush 6, 2) := by decide +kernel
theorem dX5_sit_3 : decode cX5_sit 3 = .ok (.invokestatic 51, 3) := by decide +kernel
theorem dX5_sit_6 : decode cX5_sit 6 = .ok (.ifCond .eq 12, 3) := by decide +kernel
theorem dX5_sit_9 : decode cX5_sit 9 = .ok (.iload_n 2, 1) := by decide +kernel
theorem dX5_sit_10 : decode cX5_sit 10 = .ok (.bipush 6, 2) := by decide +kernel
theorem dX5_sit_12 : decode cX5_sit 12 = .ok (.invokestatic 51, 3) := by decide +kernel
theorem dX5_sit_15 : decode cX5_sit 15 = .ok (.ifCond .ne 6, 3) := by decide +kernel
theorem dX5_sit_18 : decode cX5_sit 18 = .ok (.ldc 55, 2) := by decide +kernel
theorem dX5_sit_20 : decode cX5_sit 20 = .ok (.ireturn, 1) := by decide +kernel
theorem dX5_sit_21 : decode cX5_sit 21 = .ok (.iload_n 3, 1) := by decide +kernel
theorem dX5_sit_22 : decode cX5_sit 22 = .ok (.bipush 10, 2) := by decide +kernel
theorem dX5_sit_24 : decode cX5_sit 24 = .ok (.invokestatic 51, 3) := by decide +kernel
theorem dX5_sit_27 : decode cX5_sit 27 = .ok (.ifCond .ne 6, 3) := by decide +kernel
theorem dX5_sit_30 : decode cX5_sit 30 = .ok (.ldc 56, 2) := by decide +kernel
theorem dX5_sit_32 : decode cX5_sit 32 = .ok (.ireturn, 1) := by decide +kernel
theorem dX5_sit_33 : decode cX5_sit 33 = .ok (.aload_n 0, 1) := by decide +kernel
theorem dX5_sit_34 : decode cX5_sit 34 = .ok (.iconst 0, 1) := by decide +kernel
theorem dX5_sit_35 : decode cX5_sit 35 = .ok (.iload_n 1, 1) := by decide +kernel
theorem dX5_sit_36 : decode cX5_sit 36 = .ok (.bipush 6, 2) := by decide +kernel
theorem dX5_sit_38 : decode cX5_sit 38 = .ok (.imul, 1) := by decide +kernel
theorem dX5_sit_39 : decode cX5_sit 39 = .ok (.iadd, 1) := by decide +kernel
theorem dX5_sit_40 : decode cX5_sit 40 = .ok (.iload_n 2, 1) := by decide +kernel
theorem dX5_sit_41 : decode cX5_sit 41 = .ok (.iadd, 1) := by decide +kernel
theorem dX5_sit_42 : decode cX5_sit 42 = .ok (.iload_n 3, 1) := by decide +kernel
theorem dX5_sit_43 : decode cX5_sit 43 = .ok (.invokevirtual 57, 3) := by decide +kernel
theorem dX5_sit_46 : decode cX5_sit 46 = .ok (.ireturn, 1) := by decide +kernel
theorem dX5_set_0 : decode cX5_set 0 = .ok (.iload_n 1, 1) := by decide +kernel
theorem dX5_set_1 : decode cX5_set 1 = .ok (.ifCond .ne 21, 3) := by decide +kernel
theorem dX5_set_4 : decode cX5_set 4 = .ok (.iload_n 2, 1) := by decide +kernel
theorem dX5_set_5 : decode cX5_set 5 = .ok (.bipush 10, 2) := by decide +kernel
theorem dX5_set_7 : decode cX5_set 7 = .ok (.invokestatic 51, 3) := by decide +kernel
theorem dX5_set_10 : decode cX5_set 10 = .ok (.ifCond .eq 12, 3) := by decide +kernel
theorem dX5_set_13 : decode cX5_set 13 = .ok (.aload_n 0, 1) := by decide +kernel
theorem dX5_set_14 : decode cX5_set 14 = .ok (.sipush 200, 3) := by decide +kernel
theorem dX5_set_17 : decode cX5_set 17 = .ok (.iload_n 2, 1) := by decide +kernel
theorem dX5_set_18 : decode cX5_set 18 = .ok (.invokevirtual 57, 3) := by decide +kernel
theorem dX5_set_21 : decode cX5_set 21 = .ok (.ireturn, 1) := by decide +kernel
theorem dX5_set_22 : decode cX5_set 22 = .ok (.iload_n 1, 1) := by decide +kernel
theorem dX5_set_23 : decode cX5_set 23 = .ok (.iconst 1, 1) := by decide +kernel
theorem dX5_set_24 : decode cX5_set 24 = .ok (.if_icmp .ne 19, 3) := by decide +kernel
theorem dX5_set_27 : decode cX5_set 27 = .ok (.iload_n 2, 1) := by decide +kernel
theorem dX5_set_28 : decode cX5_set 28 = .ok (.invokestatic 61, 3) := by decide +kernel
theorem dX5_set_31 : decode cX5_set 31 = .ok (.ifCond .eq 12, 3) := by decide +kernel
theorem dX5_set_34 : decode cX5_set 34 = .ok (.aload_n 0, 1) := by decide +kernel
theorem dX5_set_35 : decode cX5_set 35 = .ok (.sipush 201, 3) := by decide +kernel
theorem dX5_set_38 : decode cX5_set 38 = .ok (.iload_n 2, 1) := by decide +kernel
theorem dX5_set_39 : decode cX5_set 39 = .ok (.invokevirtual 57, 3) := by decide +kernel
theorem dX5_set_42 : decode cX5_set 42 = .ok (.ireturn, 1) := by decide +kernel
theorem dX5_set_43 : decode cX5_set 43 = .ok (.ldc 56, 2) := by decide +kernel
theorem dX5_set_45 : decode cX5_set 45 = .ok (.ireturn, 1) := by decide +kernel
theorem dX5_paint_0 : decode cX5_paint 0 = .ok (.iload_n 2, 1) := by decide +kernel
theorem dX5_paint_1 : decode cX5_paint 1 = .ok (.iload_n 3, 1) := by decide +kernel
theorem dX5_paint_2 : decode cX5_paint 2 = .ok (.iload 4, 2) := by decide +kernel
theorem dX5_paint_4 : decode cX5_paint 4 = .ok (.invokestatic 65, 3) := by decide +kernel
theorem dX5_paint_7 : decode cX5_paint 7 = .ok (.ifCond .ne 6, 3) := by decide +kernel
theorem dX5_paint_10 : decode cX5_paint 10 = .ok (.ldc 55, 2) := by decide +kernel
theorem dX5_paint_12 : decode cX5_paint 12 = .ok (.ireturn, 1) := by decide +kernel
theorem dX5_paint_13 : decode cX5_paint 13 = .ok (.iload 5, 2) := by decide +kernel
theorem dX5_paint_15 : decode cX5_paint 15 = .ok (.bipush 10, 2) := by decide +kernel
theorem dX5_paint_17 : decode cX5_paint 17 = .ok (.invokestatic 51, 3) := by decide +kernel
theorem dX5_paint_20 : decode cX5_paint 20 = .ok (.ifCond .ne 6, 3) := by decide +kernel
theorem dX5_paint_23 : decode cX5_paint 23 = .ok (.ldc 56, 2) := by decide +kernel
theorem dX5_paint_25 : decode cX5_paint 25 = .ok (.ireturn, 1) := by decide +kernel
theorem dX5_paint_26 : decode cX5_paint 26 = .ok (.iload_n 1, 1) := by decide +kernel
theorem dX5_paint_27 : decode cX5_paint 27 = .ok (.iload_n 2, 1) := by decide +kernel
theorem dX5_paint_28 : decode cX5_paint 28 = .ok (.invokestatic 69, 3) := by decide +kernel
theorem dX5_paint_31 : decode cX5_paint 31 = .ok (.istore 6, 2) := by decide +kernel
theorem dX5_paint_33 : decode cX5_paint 33 = .ok (.iload_n 3, 1) := by decide +kernel
theorem dX5_paint_34 : decode cX5_paint 34 = .ok (.iconst 3, 1) := by decide +kernel
theorem dX5_paint_35 : decode cX5_paint 35 = .ok (.imul, 1) := by decide +kernel
theorem dX5_paint_36 : decode cX5_paint 36 = .ok (.iload 4, 2) := by decide +kernel
theorem dX5_paint_38 : decode cX5_paint 38 = .ok (.iadd, 1) := by decide +kernel
theorem dX5_paint_39 : decode cX5_paint 39 = .ok (.istore 7, 2) := by decide +kernel
theorem dX5_paint_41 : decode cX5_paint 41 = .ok (.iload 5, 2) := by decide +kernel
theorem dX5_paint_43 : decode cX5_paint 43 = .ok (.aload_n 0, 1) := by decide +kernel
theorem dX5_paint_44 : decode cX5_paint 44 = .ok (.getfield 12, 3) := by decide +kernel
theorem dX5_paint_47 : decode cX5_paint 47 = .ok (.iload 6, 2) := by decide +kernel
theorem dX5_paint_49 : decode cX5_paint 49 = .ok (.iload 7, 2) := by decide +kernel
theorem dX5_paint_51 : decode cX5_paint 51 = .ok (.invokevirtual 73, 3) := by decide +kernel
theorem dX5_paint_54 : decode cX5_paint 54 = .ok (.isub, 1) := by decide +kernel
theorem dX5_paint_55 : decode cX5_paint 55 = .ok (.invokestatic 76, 3) := by decide +kernel
theorem dX5_paint_58 : decode cX5_paint 58 = .ok (.istore 8, 2) := by decide +kernel
theorem dX5_paint_60 : decode cX5_paint 60 = .ok (.iload 8, 2) := by decide +kernel
theorem dX5_paint_62 : decode cX5_paint 62 = .ok (.aload_n 0, 1) := by decide +kernel
theorem dX5_paint_63 : decode cX5_paint 63 = .ok (.getfield 12, 3) := by decide +kernel
theorem dX5_paint_66 : decode cX5_paint 66 = .ok (.iload 6, 2) := by decide +kernel
theorem dX5_paint_68 : decode cX5_paint 68 = .ok (.invokevirtual 82, 3) := by decide +kernel
theorem dX5_paint_71 : decode cX5_paint 71 = .ok (.if_icmp .le 6, 3) := by decide +kernel
theorem dX5_paint_74 : decode cX5_paint 74 = .ok (.ldc 85, 2) := by decide +kernel
theorem dX5_paint_76 : decode cX5_paint 76 = .ok (.ireturn, 1) := by decide +kernel
theorem dX5_paint_77 : decode cX5_paint 77 = .ok (.iload 8, 2) := by decide +kernel
theorem dX5_paint_79 : decode cX5_paint 79 = .ok (.ifCond .ne 6, 3) := by decide +kernel
theorem dX5_paint_82 : decode cX5_paint 82 = .ok (.ldc 86, 2) := by decide +kernel
theorem dX5_paint_84 : decode cX5_paint 84 = .ok (.ireturn, 1) := by decide +kernel
theorem dX5_paint_85 : decode cX5_paint 85 = .ok (.aload_n 0, 1) := by decide +kernel
theorem dX5_paint_86 : decode cX5_paint 86 = .ok (.getfield 19, 3) := by decide +kernel
theorem dX5_paint_89 : decode cX5_paint 89 = .ok (.aload_n 0, 1) := by decide +kernel
theorem dX5_paint_90 : decode cX5_paint 90 = .ok (.getfield 12, 3) := by decide +kernel
theorem dX5_paint_93 : decode cX5_paint 93 = .ok (.invokevirtual 87, 3) := by decide +kernel
theorem dX5_paint_96 : decode cX5_paint 96 = .ok (.aload_n 0, 1) := by decide +kernel
theorem dX5_paint_97 : decode cX5_paint 97 = .ok (.getfield 12, 3) := by decide +kernel
theorem dX5_paint_100 : decode cX5_paint 100 = .ok (.iload 6, 2) := by decide +kernel
theorem dX5_paint_102 : decode cX5_paint 102 = .ok (.iload 7, 2) := by decide +kernel
theorem dX5_paint_104 : decode cX5_paint 104 = .ok (.iload 5, 2) := by decide +kernel
theorem dX5_paint_106 : decode cX5_paint 106 = .ok (.invokevirtual 91, 3) := by decide +kernel
theorem dX5_paint_109 : decode cX5_paint 109 = .ok (.aload_n 0, 1) := by decide +kernel
theorem dX5_paint_110 : decode cX5_paint 110 = .ok (.getfield 12, 3) := by decide +kernel
theorem dX5_paint_113 : decode cX5_paint 113 = .ok (.iload 6, 2) := by decide +kernel
theorem dX5_paint_115 : decode cX5_paint 115 = .ok (.iload 8, 2) := by decide +kernel
theorem dX5_paint_117 : decode cX5_paint 117 = .ok (.invokevirtual 95, 3) := by decide +kernel
theorem dX5_paint_120 : decode cX5_paint 120 = .ok (.aload_n 0, 1) := by decide +kernel
theorem dX5_paint_121 : decode cX5_paint 121 = .ok (.getfield 12, 3) := by decide +kernel
theorem dX5_paint_124 : decode cX5_paint 124 = .ok (.iload 6, 2) := by decide +kernel
theorem dX5_paint_126 : decode cX5_paint 126 = .ok (.invokevirtual 82, 3) := by decide +kernel
theorem dX5_paint_129 : decode cX5_paint 129 = .ok (.ireturn, 1) := by decide +kernel
theorem dX5_correct_0 : decode cX5_correct 0 = .ok (.iload_n 2, 1) := by decide +kernel
theorem dX5_correct_1 : decode cX5_correct 1 = .ok (.iconst 4, 1) := by decide +kernel
theorem dX5_correct_2 : decode cX5_correct 2 = .ok (.invokestatic 51, 3) := by decide +kernel
theorem dX5_correct_5 : decode cX5_correct 5 = .ok (.ifCond .ne 6, 3) := by decide +kernel
theorem dX5_correct_8 : decode cX5_correct 8 = .ok (.ldc 55, 2) := by decide +kernel
theorem dX5_correct_10 : decode cX5_correct 10 = .ok (.ireturn, 1) := by decide +kernel
theorem dX5_correct_11 : decode cX5_correct 11 = .ok (.iload_n 3, 1) := by decide +kernel
theorem dX5_correct_12 : decode cX5_correct 12 = .ok (.invokestatic 61, 3) := by decide +kernel
theorem dX5_correct_15 : decode cX5_correct 15 = .ok (.ifCond .ne 6, 3) := by decide +kernel
theorem dX5_correct_18 : decode cX5_correct 18 = .ok (.ldc 56, 2) := by decide +kernel
theorem dX5_correct_20 : decode cX5_correct 20 = .ok (.ireturn, 1) := by decide +kernel
theorem dX5_correct_21 : decode cX5_correct 21 = .ok (.iload_n 1, 1) := by decide +kernel
theorem dX5_correct_22 : decode cX5_correct 22 = .ok (.iload_n 2, 1) := by decide +kernel
theorem dX5_correct_23 : decode cX5_correct 23 = .ok (.invokestatic 69, 3) := by decide +kernel
theorem dX5_correct_26 : decode cX5_correct 26 = .ok (.istore 4, 2) := by decide +kernel
theorem dX5_correct_28 : decode cX5_correct 28 = .ok (.iload_n 3, 1) := by decide +kernel
theorem dX5_correct_29 : decode cX5_correct 29 = .ok (.aload_n 0, 1) := by decide +kernel
theorem dX5_correct_30 : decode cX5_correct 30 = .ok (.getfield 12, 3) := by decide +kernel
theorem dX5_correct_33 : decode cX5_correct 33 = .ok (.iload 4, 2) := by decide +kernel
theorem dX5_correct_35 : decode cX5_correct 35 = .ok (.invokevirtual 82, 3) := by decide +kernel
theorem dX5_correct_38 : decode cX5_correct 38 = .ok (.invokestatic 99, 3) := by decide +kernel
theorem dX5_correct_41 : decode cX5_correct 41 = .ok (.aload_n 0, 1) := by decide +kernel
theorem dX5_correct_42 : decode cX5_correct 42 = .ok (.getfield 12, 3) := by decide +kernel
theorem dX5_correct_45 : decode cX5_correct 45 = .ok (.iload 4, 2) := by decide +kernel
theorem dX5_correct_47 : decode cX5_correct 47 = .ok (.invokevirtual 102, 3) := by decide +kernel
theorem dX5_correct_50 : decode cX5_correct 50 = .ok (.invokestatic 99, 3) := by decide +kernel
theorem dX5_correct_53 : decode cX5_correct 53 = .ok (.istore 5, 2) := by decide +kernel
theorem dX5_correct_55 : decode cX5_correct 55 = .ok (.iload 5, 2) := by decide +kernel
theorem dX5_correct_57 : decode cX5_correct 57 = .ok (.ifCond .ne 6, 3) := by decide +kernel
theorem dX5_correct_60 : decode cX5_correct 60 = .ok (.ldc 86, 2) := by decide +kernel
theorem dX5_correct_62 : decode cX5_correct 62 = .ok (.ireturn, 1) := by decide +kernel
theorem dX5_correct_63 : decode cX5_correct 63 = .ok (.aload_n 0, 1) := by decide +kernel
theorem dX5_correct_64 : decode cX5_correct 64 = .ok (.getfield 19, 3) := by decide +kernel
theorem dX5_correct_67 : decode cX5_correct 67 = .ok (.aload_n 0, 1) := by decide +kernel
theorem dX5_correct_68 : decode cX5_correct 68 = .ok (.getfield 12, 3) := by decide +kernel
theorem dX5_correct_71 : decode cX5_correct 71 = .ok (.invokevirtual 87, 3) := by decide +kernel
theorem dX5_correct_74 : decode cX5_correct 74 = .ok (.iconst 0, 1) := by decide +kernel
theorem dX5_correct_75 : decode cX5_correct 75 = .ok (.istore 6, 2) := by decide +kernel
theorem dX5_correct_77 : decode cX5_correct 77 = .ok (.iload 6, 2) := by decide +kernel
theorem dX5_correct_79 : decode cX5_correct 79 = .ok (.iload 5, 2) := by decide +kernel
theorem dX5_correct_81 : decode cX5_correct 81 = .ok (.if_icmp .ge 18, 3) := by decide +kernel
theorem dX5_correct_84 : decode cX5_correct 84 = .ok (.aload_n 0, 1) := by decide +kernel
theorem dX5_correct_85 : decode cX5_correct 85 = .ok (.getfield 12, 3) := by decide +kernel
theorem dX5_correct_88 : decode cX5_correct 88 = .ok (.iload 4, 2) := by decide +kernel
theorem dX5_correct_90 : decode cX5_correct 90 = .ok (.invokevirtual 105, 3) := by decide +kernel
theorem dX5_correct_93 : decode cX5_correct 93 = .ok (.iinc 6 1, 3) := by decide +kernel
theorem dX5_correct_96 : decode cX5_correct 96 = .ok (.goto (-19), 3) := by decide +kernel
theorem dX5_correct_99 : decode cX5_correct 99 = .ok (.aload_n 0, 1) := by decide +kernel
theorem dX5_correct_100 : decode cX5_correct 100 = .ok (.getfield 12, 3) := by decide +kernel
theorem dX5_correct_103 : decode cX5_correct 103 = .ok (.iload 4, 2) := by decide +kernel
theorem dX5_correct_105 : decode cX5_correct 105 = .ok (.iload 5, 2) := by decide +kernel
theorem dX5_correct_107 : decode cX5_correct 107 = .ok (.invokevirtual 95, 3) := by decide +kernel
theorem dX5_correct_110 : decode cX5_correct 110 = .ok (.iload 5, 2) := by decide +kernel
theorem dX5_correct_112 : decode cX5_correct 112 = .ok (.ireturn, 1) := by decide +kernel
theorem dX5_copy_0 : decode cX5_copy 0 = .ok (.iload_n 2, 1) := by decide +kernel
theorem dX5_copy_1 : decode cX5_copy 1 = .ok (.iconst 4, 1) := by decide +kernel
theorem dX5_copy_2 : decode cX5_copy 2 = .ok (.invokestatic 51, 3) := by decide +kernel
theorem dX5_copy_5 : decode cX5_copy 5 = .ok (.ifCond .eq 11, 3) := by decide +kernel
theorem dX5_copy_8 : decode cX5_copy 8 = .ok (.iload_n 3, 1) := by decide +kernel
theorem dX5_copy_9 : decode cX5_copy 9 = .ok (.iconst 4, 1) := by decide +kernel
theorem dX5_copy_10 : decode cX5_copy 10 = .ok (.invokestatic 51, 3) := by decide +kernel
theorem dX5_copy_13 : decode cX5_copy 13 = .ok (.ifCond .ne 6, 3) := by decide +kernel
theorem dX5_copy_16 : decode cX5_copy 16 = .ok (.ldc 55, 2) := by decide +kernel
theorem dX5_copy_18 : decode cX5_copy 18 = .ok (.ireturn, 1) := by decide +kernel
theorem dX5_copy_19 : decode cX5_copy 19 = .ok (.iload_n 1, 1) := by decide +kernel
theorem dX5_copy_20 : decode cX5_copy 20 = .ok (.iload_n 2, 1) := by decide +kernel
theorem dX5_copy_21 : decode cX5_copy 21 = .ok (.invokestatic 69, 3) := by decide +kernel
theorem dX5_copy_24 : decode cX5_copy 24 = .ok (.istore 4, 2) := by decide +kernel
theorem dX5_copy_26 : decode cX5_copy 26 = .ok (.iload_n 1, 1) := by decide +kernel
theorem dX5_copy_27 : decode cX5_copy 27 = .ok (.iload_n 3, 1) := by decide +kernel
theorem dX5_copy_28 : decode cX5_copy 28 = .ok (.invokestatic 69, 3) := by decide +kernel
theorem dX5_copy_31 : decode cX5_copy 31 = .ok (.istore 5, 2) := by decide +kernel
theorem dX5_copy_33 : decode cX5_copy 33 = .ok (.aload_n 0, 1) := by decide +kernel
theorem dX5_copy_34 : decode cX5_copy 34 = .ok (.getfield 12, 3) := by decide +kernel
theorem dX5_copy_37 : decode cX5_copy 37 = .ok (.iload 4, 2) := by decide +kernel
theorem dX5_copy_39 : decode cX5_copy 39 = .ok (.iload 5, 2) := by decide +kernel
theorem dX5_copy_41 : decode cX5_copy 41 = .ok (.invokevirtual 109, 3) := by decide +kernel
theorem dX5_copy_44 : decode cX5_copy 44 = .ok (.istore 6, 2) := by decide +kernel
theorem dX5_copy_46 : decode cX5_copy 46 = .ok (.iload 6, 2) := by decide +kernel
theorem dX5_copy_48 : decode cX5_copy 48 = .ok (.aload_n 0, 1) := by decide +kernel
theorem dX5_copy_49 : decode cX5_copy 49 = .ok (.getfield 12, 3) := by decide +kernel
theorem dX5_copy_52 : decode cX5_copy 52 = .ok (.iload 4, 2) := by decide +kernel
theorem dX5_copy_54 : decode cX5_copy 54 = .ok (.invokevirtual 82, 3) := by decide +kernel
theorem dX5_copy_57 : decode cX5_copy 57 = .ok (.if_icmp .le 6, 3) := by decide +kernel
theorem dX5_copy_60 : decode cX5_copy 60 = .ok (.ldc 85, 2) := by decide +kernel
theorem dX5_copy_62 : decode cX5_copy 62 = .ok (.ireturn, 1) := by decide +kernel
theorem dX5_copy_63 : decode cX5_copy 63 = .ok (.iload 6, 2) := by decide +kernel
theorem dX5_copy_65 : decode cX5_copy 65 = .ok (.ifCond .ne 6, 3) := by decide +kernel
theorem dX5_copy_68 : decode cX5_copy 68 = .ok (.ldc 86, 2) := by decide +kernel
theorem dX5_copy_70 : decode cX5_copy 70 = .ok (.ireturn, 1) := by decide +kernel
theorem dX5_copy_71 : decode cX5_copy 71 = .ok (.aload_n 0, 1) := by decide +kernel
theorem dX5_copy_72 : decode cX5_copy 72 = .ok (.getfield 19, 3) := by decide +kernel
theorem dX5_copy_75 : decode cX5_copy 75 = .ok (.aload_n 0, 1) := by decide +kernel
theorem dX5_copy_76 : decode cX5_copy 76 = .ok (.getfield 12, 3) := by decide +kernel
theorem dX5_copy_79 : decode cX5_copy 79 = .ok (.invokevirtual 87, 3) := by decide +kernel
theorem dX5_copy_82 : decode cX5_copy 82 = .ok (.aload_n 0, 1) := by decide +kernel
theorem dX5_copy_83 : decode cX5_copy 83 = .ok (.getfield 12, 3) := by decide +kernel
theorem dX5_copy_86 : decode cX5_copy 86 = .ok (.iload 4, 2) := by decide +kernel
theorem dX5_copy_88 : decode cX5_copy 88 = .ok (.iload 6, 2) := by decide +kernel
theorem dX5_copy_90 : decode cX5_copy 90 = .ok (.invokevirtual 95, 3) := by decide +kernel
theorem dX5_copy_93 : decode cX5_copy 93 = .ok (.aload_n 0, 1) := by decide +kernel
theorem dX5_copy_94 : decode cX5_copy 94 = .ok (.getfield 12, 3) := by decide +kernel
theorem dX5_copy_97 : decode cX5_copy 97 = .ok (.iload 4, 2) := by decide +kernel
theorem dX5_copy_99 : decode cX5_copy 99 = .ok (.iload 5, 2) := by decide +kernel
theorem dX5_copy_101 : decode cX5_copy 101 = .ok (.invokevirtual 112, 3) := by decide +kernel
theorem dX5_copy_104 : decode cX5_copy 104 = .ok (.ireturn, 1) := by decide +kernel
theorem dX5_hour_0 : decode cX5_hour 0 = .ok (.aload_n 0, 1) := by decide +kernel
theorem dX5_hour_1 : decode cX5_hour 1 = .ok (.getfield 19, 3) := by decide +kernel
theorem dX5_hour_4 : decode cX5_hour 4 = .ok (.aload_n 0, 1) := by decide +kernel
theorem dX5_hour_5 : decode cX5_hour 5 = .ok (.getfield 12, 3) := by decide +kernel
theorem dX5_hour_8 : decode cX5_hour 8 = .ok (.invokevirtual 87, 3) := by decide +kernel
theorem dX5_hour_11 : decode cX5_hour 11 = .ok (.aload_n 0, 1) := by decide +kernel
theorem dX5_hour_12 : decode cX5_hour 12 = .ok (.getfield 12, 3) := by decide +kernel
theorem dX5_hour_15 : decode cX5_hour 15 = .ok (.invokevirtual 115, 3) := by decide +kernel
theorem dX5_hour_18 : decode cX5_hour 18 = .ok (.ireturn, 1) := by decide +kernel
theorem dX5_readRows_0 : decode cX5_readRows 0 = .ok (.aload_n 0, 1) := by decide +kernel
theorem dX5_readRows_1 : decode cX5_readRows 1 = .ok (.getfield 33, 3) := by decide +kernel
theorem dX5_readRows_4 : decode cX5_readRows 4 = .ok (.invokevirtual 119, 3) := by decide +kernel
theorem dX5_readRows_7 : decode cX5_readRows 7 = .ok (.istore_n 1, 1) := by decide +kernel
theorem dX5_readRows_8 : decode cX5_readRows 8 = .ok (.iload_n 1, 1) := by decide +kernel
theorem dX5_readRows_9 : decode cX5_readRows 9 = .ok (.iconst (-1), 1) := by decide +kernel
theorem dX5_readRows_10 : decode cX5_readRows 10 = .ok (.if_icmp .eq 8, 3) := by decide +kernel
theorem dX5_readRows_13 : decode cX5_readRows 13 = .ok (.ldc 122, 2) := by decide +kernel
theorem dX5_readRows_15 : decode cX5_readRows 15 = .ok (.iload_n 1, 1) := by decide +kernel
theorem dX5_readRows_16 : decode cX5_readRows 16 = .ok (.isub, 1) := by decide +kernel
theorem dX5_readRows_17 : decode cX5_readRows 17 = .ok (.ireturn, 1) := by decide +kernel
theorem dX5_readRows_18 : decode cX5_readRows 18 = .ok (.aload_n 0, 1) := by decide +kernel
theorem dX5_readRows_19 : decode cX5_readRows 19 = .ok (.getfield 19, 3) := by decide +kernel
theorem dX5_readRows_22 : decode cX5_readRows 22 = .ok (.aload_n 0, 1) := by decide +kernel
theorem dX5_readRows_23 : decode cX5_readRows 23 = .ok (.getfield 12, 3) := by decide +kernel
theorem dX5_readRows_26 : decode cX5_readRows 26 = .ok (.invokevirtual 87, 3) := by decide +kernel
theorem dX5_readRows_29 : decode cX5_readRows 29 = .ok (.aload_n 0, 1) := by decide +kernel
theorem dX5_readRows_30 : decode cX5_readRows 30 = .ok (.getfield 33, 3) := by decide +kernel
theorem dX5_readRows_33 : decode cX5_readRows 33 = .ok (.aload_n 0, 1) := by decide +kernel
theorem dX5_readRows_34 : decode cX5_readRows 34 = .ok (.getfield 12, 3) := by decide +kernel
theorem dX5_readRows_37 : decode cX5_readRows 37 = .ok (.invokevirtual 123, 3) := by decide +kernel
theorem dX5_readRows_40 : decode cX5_readRows 40 = .ok (.ireturn, 1) := by decide +kernel
theorem dX5_pair_0 : decode cX5_pair 0 = .ok (.iload_n 1, 1) := by decide +kernel
theorem dX5_pair_1 : decode cX5_pair 1 = .ok (.iconst 4, 1) := by decide +kernel
theorem dX5_pair_2 : decode cX5_pair 2 = .ok (.invokestatic 51, 3) := by decide +kernel
theorem dX5_pair_5 : decode cX5_pair 5 = .ok (.ifCond .eq 11, 3) := by decide +kernel
theorem dX5_pair_8 : decode cX5_pair 8 = .ok (.iload_n 2, 1) := by decide +kernel
theorem dX5_pair_9 : decode cX5_pair 9 = .ok (.iconst 4, 1) := by decide +kernel
theorem dX5_pair_10 : decode cX5_pair 10 = .ok (.invokestatic 51, 3) := by decide +kernel
theorem dX5_pair_13 : decode cX5_pair 13 = .ok (.ifCond .ne 6, 3) := by decide +kernel
theorem dX5_pair_16 : decode cX5_pair 16 = .ok (.ldc 55, 2) := by decide +kernel
theorem dX5_pair_18 : decode cX5_pair 18 = .ok (.ireturn, 1) := by decide +kernel
theorem dX5_pair_19 : decode cX5_pair 19 = .ok (.aload_n 0, 1) := by decide +kernel
theorem dX5_pair_20 : decode cX5_pair 20 = .ok (.getfield 12, 3) := by decide +kernel
theorem dX5_pair_23 : decode cX5_pair 23 = .ok (.iload_n 1, 1) := by decide +kernel
theorem dX5_pair_24 : decode cX5_pair 24 = .ok (.invokevirtual 127, 3) := by decide +kernel
theorem dX5_pair_27 : decode cX5_pair 27 = .ok (.istore_n 3, 1) := by decide +kernel
theorem dX5_pair_28 : decode cX5_pair 28 = .ok (.iload_n 3, 1) := by decide +kernel
theorem dX5_pair_29 : decode cX5_pair 29 = .ok (.iload_n 2, 1) := by decide +kernel
theorem dX5_pair_30 : decode cX5_pair 30 = .ok (.if_icmp .ne 6, 3) := by decide +kernel
theorem dX5_pair_33 : decode cX5_pair 33 = .ok (.ldc 86, 2) := by decide +kernel
theorem dX5_pair_35 : decode cX5_pair 35 = .ok (.ireturn, 1) := by decide +kernel
theorem dX5_pair_36 : decode cX5_pair 36 = .ok (.aload_n 0, 1) := by decide +kernel
theorem dX5_pair_37 : decode cX5_pair 37 = .ok (.getfield 12, 3) := by decide +kernel
theorem dX5_pair_40 : decode cX5_pair 40 = .ok (.iload_n 2, 1) := by decide +kernel
theorem dX5_pair_41 : decode cX5_pair 41 = .ok (.invokevirtual 130, 3) := by decide +kernel
theorem dX5_pair_44 : decode cX5_pair 44 = .ok (.istore 4, 2) := by decide +kernel
theorem dX5_pair_46 : decode cX5_pair 46 = .ok (.aload_n 0, 1) := by decide +kernel
theorem dX5_pair_47 : decode cX5_pair 47 = .ok (.getfield 19, 3) := by decide +kernel
theorem dX5_pair_50 : decode cX5_pair 50 = .ok (.aload_n 0, 1) := by decide +kernel
theorem dX5_pair_51 : decode cX5_pair 51 = .ok (.getfield 12, 3) := by decide +kernel
theorem dX5_pair_54 : decode cX5_pair 54 = .ok (.invokevirtual 87, 3) := by decide +kernel
theorem dX5_pair_57 : decode cX5_pair 57 = .ok (.aload_n 0, 1) := by decide +kernel
theorem dX5_pair_58 : decode cX5_pair 58 = .ok (.getfield 12, 3) := by decide +kernel
theorem dX5_pair_61 : decode cX5_pair 61 = .ok (.iload_n 1, 1) := by decide +kernel
theorem dX5_pair_62 : decode cX5_pair 62 = .ok (.iload_n 2, 1) := by decide +kernel
theorem dX5_pair_63 : decode cX5_pair 63 = .ok (.invokevirtual 133, 3) := by decide +kernel
theorem dX5_pair_66 : decode cX5_pair 66 = .ok (.aload_n 0, 1) := by decide +kernel
theorem dX5_pair_67 : decode cX5_pair 67 = .ok (.getfield 12, 3) := by decide +kernel
theorem dX5_pair_70 : decode cX5_pair 70 = .ok (.iload 4, 2) := by decide +kernel
theorem dX5_pair_72 : decode cX5_pair 72 = .ok (.iload_n 3, 1) := by decide +kernel
theorem dX5_pair_73 : decode cX5_pair 73 = .ok (.invokevirtual 133, 3) := by decide +kernel
theorem dX5_pair_76 : decode cX5_pair 76 = .ok (.aload_n 0, 1) := by decide +kernel
theorem dX5_pair_77 : decode cX5_pair 77 = .ok (.getfield 12, 3) := by decide +kernel
theorem dX5_pair_80 : decode cX5_pair 80 = .ok (.iload_n 1, 1) := by decide +kernel
theorem dX5_pair_81 : decode cX5_pair 81 = .ok (.iload_n 2, 1) := by decide +kernel
theorem dX5_pair_82 : decode cX5_pair 82 = .ok (.invokevirtual 136, 3) := by decide +kernel
theorem dX5_pair_85 : decode cX5_pair 85 = .ok (.ireturn, 1) := by decide +kernel
theorem dX5_pairBest_0 : decode cX5_pairBest 0 = .ok (.aload_n 0, 1) := by decide +kernel
theorem dX5_pairBest_1 : decode cX5_pairBest 1 = .ok (.getfield 40, 3) := by decide +kernel
theorem dX5_pairBest_4 : decode cX5_pairBest 4 = .ok (.aload_n 0, 1) := by decide +kernel
theorem dX5_pairBest_5 : decode cX5_pairBest 5 = .ok (.getfield 12, 3) := by decide +kernel
theorem dX5_pairBest_8 : decode cX5_pairBest 8 = .ok (.invokevirtual 139, 3) := by decide +kernel
theorem dX5_pairBest_11 : decode cX5_pairBest 11 = .ok (.iconst 0, 1) := by decide +kernel
theorem dX5_pairBest_12 : decode cX5_pairBest 12 = .ok (.istore_n 1, 1) := by decide +kernel
theorem dX5_pairBest_13 : decode cX5_pairBest 13 = .ok (.iconst 0, 1) := by decide +kernel
theorem dX5_pairBest_14 : decode cX5_pairBest 14 = .ok (.istore_n 2, 1) := by decide +kernel
theorem dX5_pairBest_15 : decode cX5_pairBest 15 = .ok (.iload_n 2, 1) := by decide +kernel
theorem dX5_pairBest_16 : decode cX5_pairBest 16 = .ok (.iconst 4, 1) := by decide +kernel
theorem dX5_pairBest_17 : decode cX5_pairBest 17 = .ok (.if_icmp .ge 31, 3) := by decide +kernel
theorem dX5_pairBest_20 : decode cX5_pairBest 20 = .ok (.aload_n 0, 1) := by decide +kernel
theorem dX5_pairBest_21 : decode cX5_pairBest 21 = .ok (.getfield 40, 3) := by decide +kernel
theorem dX5_pairBest_24 : decode cX5_pairBest 24 = .ok (.iload_n 2, 1) := by decide +kernel
theorem dX5_pairBest_25 : decode cX5_pairBest 25 = .ok (.invokevirtual 142, 3) := by decide +kernel
theorem dX5_pairBest_28 : decode cX5_pairBest 28 = .ok (.aload_n 0, 1) := by decide +kernel
theorem dX5_pairBest_29 : decode cX5_pairBest 29 = .ok (.getfield 12, 3) := by decide +kernel
theorem dX5_pairBest_32 : decode cX5_pairBest 32 = .ok (.iload_n 2, 1) := by decide +kernel
theorem dX5_pairBest_33 : decode cX5_pairBest 33 = .ok (.invokevirtual 127, 3) := by decide +kernel
theorem dX5_pairBest_36 : decode cX5_pairBest 36 = .ok (.if_icmp .eq 6, 3) := by decide +kernel
theorem dX5_pairBest_39 : decode cX5_pairBest 39 = .ok (.iinc 1 1, 3) := by decide +kernel
theorem dX5_pairBest_42 : decode cX5_pairBest 42 = .ok (.iinc 2 1, 3) := by decide +kernel
theorem dX5_pairBest_45 : decode cX5_pairBest 45 = .ok (.goto (-30), 3) := by decide +kernel
theorem dX5_pairBest_48 : decode cX5_pairBest 48 = .ok (.iload_n 1, 1) := by decide +kernel
theorem dX5_pairBest_49 : decode cX5_pairBest 49 = .ok (.ifCond .ne 6, 3) := by decide +kernel
theorem dX5_pairBest_52 : decode cX5_pairBest 52 = .ok (.ldc 86, 2) := by decide +kernel
theorem dX5_pairBest_54 : decode cX5_pairBest 54 = .ok (.ireturn, 1) := by decide +kernel
theorem dX5_pairBest_55 : decode cX5_pairBest 55 = .ok (.aload_n 0, 1) := by decide +kernel
theorem dX5_pairBest_56 : decode cX5_pairBest 56 = .ok (.getfield 19, 3) := by decide +kernel
theorem dX5_pairBest_59 : decode cX5_pairBest 59 = .ok (.aload_n 0, 1) := by decide +kernel
theorem dX5_pairBest_60 : decode cX5_pairBest 60 = .ok (.getfield 12, 3) := by decide +kernel
theorem dX5_pairBest_63 : decode cX5_pairBest 63 = .ok (.invokevirtual 87, 3) := by decide +kernel
theorem dX5_pairBest_66 : decode cX5_pairBest 66 = .ok (.iconst 0, 1) := by decide +kernel
theorem dX5_pairBest_67 : decode cX5_pairBest 67 = .ok (.istore_n 2, 1) := by decide +kernel
theorem dX5_pairBest_68 : decode cX5_pairBest 68 = .ok (.iload_n 2, 1) := by decide +kernel
theorem dX5_pairBest_69 : decode cX5_pairBest 69 = .ok (.iconst 4, 1) := by decide +kernel
theorem dX5_pairBest_70 : decode cX5_pairBest 70 = .ok (.if_icmp .ge 25, 3) := by decide +kernel
theorem dX5_pairBest_73 : decode cX5_pairBest 73 = .ok (.aload_n 0, 1) := by decide +kernel
theorem dX5_pairBest_74 : decode cX5_pairBest 74 = .ok (.getfield 12, 3) := by decide +kernel
theorem dX5_pairBest_77 : decode cX5_pairBest 77 = .ok (.iload_n 2, 1) := by decide +kernel
theorem dX5_pairBest_78 : decode cX5_pairBest 78 = .ok (.aload_n 0, 1) := by decide +kernel
theorem dX5_pairBest_79 : decode cX5_pairBest 79 = .ok (.getfield 40, 3) := by decide +kernel
theorem dX5_pairBest_82 : decode cX5_pairBest 82 = .ok (.iload_n 2, 1) := by decide +kernel
theorem dX5_pairBest_83 : decode cX5_pairBest 83 = .ok (.invokevirtual 142, 3) := by decide +kernel
theorem dX5_pairBest_86 : decode cX5_pairBest 86 = .ok (.invokevirtual 133, 3) := by decide +kernel
theorem dX5_pairBest_89 : decode cX5_pairBest 89 = .ok (.iinc 2 1, 3) := by decide +kernel
theorem dX5_pairBest_92 : decode cX5_pairBest 92 = .ok (.goto (-24), 3) := by decide +kernel
theorem dX5_pairBest_95 : decode cX5_pairBest 95 = .ok (.iload_n 1, 1) := by decide +kernel
theorem dX5_pairBest_96 : decode cX5_pairBest 96 = .ok (.ireturn, 1) := by decide +kernel
theorem dX5_show_0 : decode cX5_show 0 = .ok (.aload_n 0, 1) := by decide +kernel
theorem dX5_show_1 : decode cX5_show 1 = .ok (.getfield 19, 3) := by decide +kernel
theorem dX5_show_4 : decode cX5_show 4 = .ok (.aload_n 0, 1) := by decide +kernel
theorem dX5_show_5 : decode cX5_show 5 = .ok (.getfield 12, 3) := by decide +kernel
theorem dX5_show_8 : decode cX5_show 8 = .ok (.invokevirtual 87, 3) := by decide +kernel
theorem dX5_show_11 : decode cX5_show 11 = .ok (.aload_n 0, 1) := by decide +kernel
theorem dX5_show_12 : decode cX5_show 12 = .ok (.getfield 47, 3) := by decide +kernel
theorem dX5_show_15 : decode cX5_show 15 = .ok (.aload_n 0, 1) := by decide +kernel
theorem dX5_show_16 : decode cX5_show 16 = .ok (.getfield 12, 3) := by decide +kernel
theorem dX5_show_19 : decode cX5_show 19 = .ok (.invokevirtual 143, 3) := by decide +kernel
theorem dX5_show_22 : decode cX5_show 22 = .ok (.iconst 0, 1) := by decide +kernel
theorem dX5_show_23 : decode cX5_show 23 = .ok (.istore_n 1, 1) := by decide +kernel
theorem dX5_show_24 : decode cX5_show 24 = .ok (.iconst 0, 1) := by decide +kernel
theorem dX5_show_25 : decode cX5_show 25 = .ok (.istore_n 2, 1) := by decide +kernel
theorem dX5_show_26 : decode cX5_show 26 = .ok (.iload_n 2, 1) := by decide +kernel
theorem dX5_show_27 : decode cX5_show 27 = .ok (.iconst 4, 1) := by decide +kernel
theorem dX5_show_28 : decode cX5_show 28 = .ok (.if_icmp .ge 41, 3) := by decide +kernel
theorem dX5_show_31 : decode cX5_show 31 = .ok (.aload_n 0, 1) := by decide +kernel
theorem dX5_show_32 : decode cX5_show 32 = .ok (.getfield 47, 3) := by decide +kernel
theorem dX5_show_35 : decode cX5_show 35 = .ok (.iload_n 2, 1) := by decide +kernel
theorem dX5_show_36 : decode cX5_show 36 = .ok (.invokevirtual 146, 3) := by decide +kernel
theorem dX5_show_39 : decode cX5_show 39 = .ok (.istore_n 3, 1) := by decide +kernel
theorem dX5_show_40 : decode cX5_show 40 = .ok (.iload_n 3, 1) := by decide +kernel
theorem dX5_show_41 : decode cX5_show 41 = .ok (.ifCond .le 22, 3) := by decide +kernel
theorem dX5_show_44 : decode cX5_show 44 = .ok (.aload_n 0, 1) := by decide +kernel
theorem dX5_show_45 : decode cX5_show 45 = .ok (.getfield 12, 3) := by decide +kernel
theorem dX5_show_48 : decode cX5_show 48 = .ok (.aload_n 0, 1) := by decide +kernel
theorem dX5_show_49 : decode cX5_show 49 = .ok (.getfield 47, 3) := by decide +kernel
theorem dX5_show_52 : decode cX5_show 52 = .ok (.iload_n 2, 1) := by decide +kernel
theorem dX5_show_53 : decode cX5_show 53 = .ok (.invokevirtual 149, 3) := by decide +kernel
theorem dX5_show_56 : decode cX5_show 56 = .ok (.iload_n 3, 1) := by decide +kernel
theorem dX5_show_57 : decode cX5_show 57 = .ok (.invokevirtual 152, 3) := by decide +kernel
theorem dX5_show_60 : decode cX5_show 60 = .ok (.iinc 1 1, 3) := by decide +kernel
theorem dX5_show_63 : decode cX5_show 63 = .ok (.iinc 2 1, 3) := by decide +kernel
theorem dX5_show_66 : decode cX5_show 66 = .ok (.goto (-40), 3) := by decide +kernel
theorem dX5_show_69 : decode cX5_show 69 = .ok (.aload_n 0, 1) := by decide +kernel
theorem dX5_show_70 : decode cX5_show 70 = .ok (.getfield 12, 3) := by decide +kernel
theorem dX5_show_73 : decode cX5_show 73 = .ok (.invokevirtual 155, 3) := by decide +kernel
theorem dX5_show_76 : decode cX5_show 76 = .ok (.iload_n 1, 1) := by decide +kernel
theorem dX5_show_77 : decode cX5_show 77 = .ok (.ireturn, 1) := by decide +kernel
theorem dX5_undo_0 : decode cX5_undo 0 = .ok (.aload_n 0, 1) := by decide +kernel
theorem dX5_undo_1 : decode cX5_undo 1 = .ok (.getfield 19, 3) := by decide +kernel
theorem dX5_undo_4 : decode cX5_undo 4 = .ok (.aload_n 0, 1) := by decide +kernel
theorem dX5_undo_5 : decode cX5_undo 5 = .ok (.getfield 12, 3) := by decide +kernel
theorem dX5_undo_8 : decode cX5_undo 8 = .ok (.invokevirtual 169, 3) := by decide +kernel
theorem dX5_undo_11 : decode cX5_undo 11 = .ok (.ifCond .eq 13, 3) := by decide +kernel
theorem dX5_undo_14 : decode cX5_undo 14 = .ok (.aload_n 0, 1) := by decide +kernel
theorem dX5_undo_15 : decode cX5_undo 15 = .ok (.getfield 19, 3) := by decide +kernel
theorem dX5_undo_18 : decode cX5_undo 18 = .ok (.invokevirtual 173, 3) := by decide +kernel
theorem dX5_undo_21 : decode cX5_undo 21 = .ok (.goto 5, 3) := by decide +kernel
theorem dX5_undo_24 : decode cX5_undo 24 = .ok (.ldc 86, 2) := by decide +kernel
theorem dX5_undo_26 : decode cX5_undo 26 = .ok (.ireturn, 1) := by decide +kernel
theorem dX5_restore_0 : decode cX5_restore 0 = .ok (.aload_n 0, 1) := by decide +kernel
theorem dX5_restore_1 : decode cX5_restore 1 = .ok (.getfield 26, 3) := by decide +kernel
theorem dX5_restore_4 : decode cX5_restore 4 = .ok (.ifCond .ne 6, 3) := by decide +kernel
theorem dX5_restore_7 : decode cX5_restore 7 = .ok (.ldc 86, 2) := by decide +kernel
theorem dX5_restore_9 : decode cX5_restore 9 = .ok (.ireturn, 1) := by decide +kernel
theorem dX5_restore_10 : decode cX5_restore 10 = .ok (.aload_n 0, 1) := by decide +kernel
theorem dX5_restore_11 : decode cX5_restore 11 = .ok (.getfield 19, 3) := by decide +kernel
theorem dX5_restore_14 : decode cX5_restore 14 = .ok (.aload_n 0, 1) := by decide +kernel
theorem dX5_restore_15 : decode cX5_restore 15 = .ok (.getfield 12, 3) := by decide +kernel
theorem dX5_restore_18 : decode cX5_restore 18 = .ok (.invokevirtual 87, 3) := by decide +kernel
theorem dX5_restore_21 : decode cX5_restore 21 = .ok (.aload_n 0, 1) := by decide +kernel
theorem dX5_restore_22 : decode cX5_restore 22 = .ok (.getfield 12, 3) := by decide +kernel
theorem dX5_restore_25 : decode cX5_restore 25 = .ok (.aload_n 0, 1) := by decide +kernel
theorem dX5_restore_26 : decode cX5_restore 26 = .ok (.getfield 23, 3) := by decide +kernel
theorem dX5_restore_29 : decode cX5_restore 29 = .ok (.invokevirtual 176, 3) := by decide +kernel
theorem dX5_restore_32 : decode cX5_restore 32 = .ok (.aload_n 0, 1) := by decide +kernel
theorem dX5_restore_33 : decode cX5_restore 33 = .ok (.getfield 12, 3) := by decide +kernel
theorem dX5_restore_36 : decode cX5_restore 36 = .ok (.sipush 203, 3) := by decide +kernel
theorem dX5_restore_39 : decode cX5_restore 39 = .ok (.invokevirtual 179, 3) := by decide +kernel
theorem dX5_restore_42 : decode cX5_restore 42 = .ok (.ireturn, 1) := by decide +kernel
theorem dX5_sitter_0 : decode cX5_sitter 0 = .ok (.iload_n 1, 1) := by decide +kernel
theorem dX5_sitter_1 : decode cX5_sitter 1 = .ok (.bipush 6, 2) := by decide +kernel
theorem dX5_sitter_3 : decode cX5_sitter 3 = .ok (.invokestatic 51, 3) := by decide +kernel
theorem dX5_sitter_6 : decode cX5_sitter 6 = .ok (.ifCond .eq 12, 3) := by decide +kernel
theorem dX5_sitter_9 : decode cX5_sitter 9 = .ok (.iload_n 2, 1) := by decide +kernel
theorem dX5_sitter_10 : decode cX5_sitter 10 = .ok (.bipush 6, 2) := by decide +kernel
theorem dX5_sitter_12 : decode cX5_sitter 12 = .ok (.invokestatic 51, 3) := by decide +kernel
theorem dX5_sitter_15 : decode cX5_sitter 15 = .ok (.ifCond .ne 6, 3) := by decide +kernel
theorem dX5_sitter_18 : decode cX5_sitter 18 = .ok (.ldc 55, 2) := by decide +kernel
theorem dX5_sitter_20 : decode cX5_sitter 20 = .ok (.ireturn, 1) := by decide +kernel
theorem dX5_sitter_21 : decode cX5_sitter 21 = .ok (.aload_n 0, 1) := by decide +kernel
theorem dX5_sitter_22 : decode cX5_sitter 22 = .ok (.getfield 12, 3) := by decide +kernel
theorem dX5_sitter_25 : decode cX5_sitter 25 = .ok (.iload_n 1, 1) := by decide +kernel
theorem dX5_sitter_26 : decode cX5_sitter 26 = .ok (.iload_n 2, 1) := by decide +kernel
theorem dX5_sitter_27 : decode cX5_sitter 27 = .ok (.invokevirtual 182, 3) := by decide +kernel
theorem dX5_sitter_30 : decode cX5_sitter 30 = .ok (.ireturn, 1) := by decide +kernel
theorem dX5_tone_0 : decode cX5_tone 0 = .ok (.iload_n 2, 1) := by decide +kernel
theorem dX5_tone_1 : decode cX5_tone 1 = .ok (.iload_n 3, 1) := by decide +kernel
theorem dX5_tone_2 : decode cX5_tone 2 = .ok (.iload 4, 2) := by decide +kernel
theorem dX5_tone_4 : decode cX5_tone 4 = .ok (.invokestatic 65, 3) := by decide +kernel
theorem dX5_tone_7 : decode cX5_tone 7 = .ok (.ifCond .ne 6, 3) := by decide +kernel
theorem dX5_tone_10 : decode cX5_tone 10 = .ok (.ldc 55, 2) := by decide +kernel
theorem dX5_tone_12 : decode cX5_tone 12 = .ok (.ireturn, 1) := by decide +kernel
theorem dX5_tone_13 : decode cX5_tone 13 = .ok (.aload_n 0, 1) := by decide +kernel
theorem dX5_tone_14 : decode cX5_tone 14 = .ok (.getfield 12, 3) := by decide +kernel
theorem dX5_tone_17 : decode cX5_tone 17 = .ok (.iload_n 1, 1) := by decide +kernel
theorem dX5_tone_18 : decode cX5_tone 18 = .ok (.iload_n 2, 1) := by decide +kernel
theorem dX5_tone_19 : decode cX5_tone 19 = .ok (.invokestatic 69, 3) := by decide +kernel
theorem dX5_tone_22 : decode cX5_tone 22 = .ok (.iload_n 3, 1) := by decide +kernel
theorem dX5_tone_23 : decode cX5_tone 23 = .ok (.iconst 3, 1) := by decide +kernel
theorem dX5_tone_24 : decode cX5_tone 24 = .ok (.imul, 1) := by decide +kernel
theorem dX5_tone_25 : decode cX5_tone 25 = .ok (.iload 4, 2) := by decide +kernel
theorem dX5_tone_27 : decode cX5_tone 27 = .ok (.iadd, 1) := by decide +kernel
theorem dX5_tone_28 : decode cX5_tone 28 = .ok (.invokevirtual 73, 3) := by decide +kernel
theorem dX5_tone_31 : decode cX5_tone 31 = .ok (.ireturn, 1) := by decide +kernel
theorem dX5_painter_0 : decode cX5_painter 0 = .ok (.iload_n 2, 1) := by decide +kernel
theorem dX5_painter_1 : decode cX5_painter 1 = .ok (.iconst 4, 1) := by decide +kernel
theorem dX5_painter_2 : decode cX5_painter 2 = .ok (.invokestatic 51, 3) := by decide +kernel
theorem dX5_painter_5 : decode cX5_painter 5 = .ok (.ifCond .ne 6, 3) := by decide +kernel
theorem dX5_painter_8 : decode cX5_painter 8 = .ok (.ldc 55, 2) := by decide +kernel
theorem dX5_painter_10 : decode cX5_painter 10 = .ok (.ireturn, 1) := by decide +kernel
theorem dX5_painter_11 : decode cX5_painter 11 = .ok (.iload_n 1, 1) := by decide +kernel
theorem dX5_painter_12 : decode cX5_painter 12 = .ok (.iload_n 2, 1) := by decide +kernel
theorem dX5_painter_13 : decode cX5_painter 13 = .ok (.invokestatic 69, 3) := by decide +kernel
theorem dX5_painter_16 : decode cX5_painter 16 = .ok (.istore 4, 2) := by decide +kernel
theorem dX5_painter_18 : decode cX5_painter 18 = .ok (.iload_n 3, 1) := by decide +kernel
theorem dX5_painter_19 : decode cX5_painter 19 = .ok (.tableswitch 152 0 7 #[45, 55, 65, 89, 99, 118, 130, 142], 45) := by decide +kernel
theorem dX5_painter_64 : decode cX5_painter 64 = .ok (.aload_n 0, 1) := by decide +kernel
theorem dX5_painter_65 : decode cX5_painter 65 = .ok (.getfield 12, 3) := by decide +kernel
theorem dX5_painter_68 : decode cX5_painter 68 = .ok (.iload 4, 2) := by decide +kernel
theorem dX5_painter_70 : decode cX5_painter 70 = .ok (.invokevirtual 82, 3) := by decide +kernel
theorem dX5_painter_73 : decode cX5_painter 73 = .ok (.ireturn, 1) := by decide +kernel
theorem dX5_painter_74 : decode cX5_painter 74 = .ok (.aload_n 0, 1) := by decide +kernel
theorem dX5_painter_75 : decode cX5_painter 75 = .ok (.getfield 12, 3) := by decide +kernel
theorem dX5_painter_78 : decode cX5_painter 78 = .ok (.iload 4, 2) := by decide +kernel
theorem dX5_painter_80 : decode cX5_painter 80 = .ok (.invokevirtual 102, 3) := by decide +kernel
theorem dX5_painter_83 : decode cX5_painter 83 = .ok (.ireturn, 1) := by decide +kernel
theorem dX5_painter_84 : decode cX5_painter 84 = .ok (.iload_n 1, 1) := by decide +kernel
theorem dX5_painter_85 : decode cX5_painter 85 = .ok (.ifCond .eq 14, 3) := by decide +kernel
theorem dX5_painter_88 : decode cX5_painter 88 = .ok (.aload_n 0, 1) := by decide +kernel
theorem dX5_painter_89 : decode cX5_painter 89 = .ok (.getfield 12, 3) := by decide +kernel
theorem dX5_painter_92 : decode cX5_painter 92 = .ok (.iload_n 2, 1) := by decide +kernel
theorem dX5_painter_93 : decode cX5_painter 93 = .ok (.invokevirtual 130, 3) := by decide +kernel
theorem dX5_painter_96 : decode cX5_painter 96 = .ok (.goto 11, 3) := by decide +kernel
theorem dX5_painter_99 : decode cX5_painter 99 = .ok (.aload_n 0, 1) := by decide +kernel
theorem dX5_painter_100 : decode cX5_painter 100 = .ok (.getfield 12, 3) := by decide +kernel
theorem dX5_painter_103 : decode cX5_painter 103 = .ok (.iload_n 2, 1) := by decide +kernel
theorem dX5_painter_104 : decode cX5_painter 104 = .ok (.invokevirtual 127, 3) := by decide +kernel
theorem dX5_painter_107 : decode cX5_painter 107 = .ok (.ireturn, 1) := by decide +kernel
theorem dX5_painter_108 : decode cX5_painter 108 = .ok (.aload_n 0, 1) := by decide +kernel
theorem dX5_painter_109 : decode cX5_painter 109 = .ok (.getfield 12, 3) := by decide +kernel
theorem dX5_painter_112 : decode cX5_painter 112 = .ok (.iload 4, 2) := by decide +kernel
theorem dX5_painter_114 : decode cX5_painter 114 = .ok (.invokevirtual 185, 3) := by decide +kernel
theorem dX5_painter_117 : decode cX5_painter 117 = .ok (.ireturn, 1) := by decide +kernel
theorem dX5_painter_118 : decode cX5_painter 118 = .ok (.aload_n 0, 1) := by decide +kernel
theorem dX5_painter_119 : decode cX5_painter 119 = .ok (.getfield 12, 3) := by decide +kernel
theorem dX5_painter_122 : decode cX5_painter 122 = .ok (.iload 4, 2) := by decide +kernel
theorem dX5_painter_124 : decode cX5_painter 124 = .ok (.aload_n 0, 1) := by decide +kernel
theorem dX5_painter_125 : decode cX5_painter 125 = .ok (.getfield 12, 3) := by decide +kernel
theorem dX5_painter_128 : decode cX5_painter 128 = .ok (.iload 4, 2) := by decide +kernel
theorem dX5_painter_130 : decode cX5_painter 130 = .ok (.invokevirtual 188, 3) := by decide +kernel
theorem dX5_painter_133 : decode cX5_painter 133 = .ok (.invokevirtual 191, 3) := by decide +kernel
theorem dX5_painter_136 : decode cX5_painter 136 = .ok (.ireturn, 1) := by decide +kernel
theorem dX5_painter_137 : decode cX5_painter 137 = .ok (.aload_n 0, 1) := by decide +kernel
theorem dX5_painter_138 : decode cX5_painter 138 = .ok (.getfield 12, 3) := by decide +kernel
theorem dX5_painter_141 : decode cX5_painter 141 = .ok (.iload 4, 2) := by decide +kernel
theorem dX5_painter_143 : decode cX5_painter 143 = .ok (.invokevirtual 188, 3) := by decide +kernel
theorem dX5_painter_146 : decode cX5_painter 146 = .ok (.iconst 3, 1) := by decide +kernel
theorem dX5_painter_147 : decode cX5_painter 147 = .ok (.idiv, 1) := by decide +kernel
theorem dX5_painter_148 : decode cX5_painter 148 = .ok (.ireturn, 1) := by decide +kernel
theorem dX5_painter_149 : decode cX5_painter 149 = .ok (.aload_n 0, 1) := by decide +kernel
theorem dX5_painter_150 : decode cX5_painter 150 = .ok (.getfield 12, 3) := by decide +kernel
theorem dX5_painter_153 : decode cX5_painter 153 = .ok (.iload 4, 2) := by decide +kernel
theorem dX5_painter_155 : decode cX5_painter 155 = .ok (.invokevirtual 188, 3) := by decide +kernel
theorem dX5_painter_158 : decode cX5_painter 158 = .ok (.iconst 3, 1) := by decide +kernel
theorem dX5_painter_159 : decode cX5_painter 159 = .ok (.irem, 1) := by decide +kernel
theorem dX5_painter_160 : decode cX5_painter 160 = .ok (.ireturn, 1) := by decide +kernel
theorem dX5_painter_161 : decode cX5_painter 161 = .ok (.aload_n 0, 1) := by decide +kernel
theorem dX5_painter_162 : decode cX5_painter 162 = .ok (.getfield 12, 3) := by decide +kernel
theorem dX5_painter_165 : decode cX5_painter 165 = .ok (.iload 4, 2) := by decide +kernel
theorem dX5_painter_167 : decode cX5_painter 167 = .ok (.invokevirtual 194, 3) := by decide +kernel
theorem dX5_painter_170 : decode cX5_painter 170 = .ok (.ireturn, 1) := by decide +kernel
theorem dX5_painter_171 : decode cX5_painter 171 = .ok (.ldc 56, 2) := by decide +kernel
theorem dX5_painter_173 : decode cX5_painter 173 = .ok (.ireturn, 1) := by decide +kernel
theorem dX5_face_0 : decode cX5_face 0 = .ok (.iload_n 1, 1) := by decide +kernel
theorem dX5_face_1 : decode cX5_face 1 = .ok (.iconst 4, 1) := by decide +kernel
theorem dX5_face_2 : decode cX5_face 2 = .ok (.invokestatic 51, 3) := by decide +kernel
theorem dX5_face_5 : decode cX5_face 5 = .ok (.ifCond .eq 11, 3) := by decide +kernel
theorem dX5_face_8 : decode cX5_face 8 = .ok (.iload_n 2, 1) := by decide +kernel
theorem dX5_face_9 : decode cX5_face 9 = .ok (.iconst 4, 1) := by decide +kernel
theorem dX5_face_10 : decode cX5_face 10 = .ok (.invokestatic 51, 3) := by decide +kernel
theorem dX5_face_13 : decode cX5_face 13 = .ok (.ifCond .ne 6, 3) := by decide +kernel
theorem dX5_face_16 : decode cX5_face 16 = .ok (.ldc 55, 2) := by decide +kernel
theorem dX5_face_18 : decode cX5_face 18 = .ok (.ireturn, 1) := by decide +kernel
theorem dX5_face_19 : decode cX5_face 19 = .ok (.iload_n 3, 1) := by decide +kernel
theorem dX5_face_20 : decode cX5_face 20 = .ok (.tableswitch 72 0 3 #[32, 42, 52, 62], 32) := by decide +kernel
theorem dX5_face_52 : decode cX5_face 52 = .ok (.aload_n 0, 1) := by decide +kernel
theorem dX5_face_53 : decode cX5_face 53 = .ok (.getfield 12, 3) := by decide +kernel
theorem dX5_face_56 : decode cX5_face 56 = .ok (.iload_n 1, 1) := by decide +kernel
theorem dX5_face_57 : decode cX5_face 57 = .ok (.iload_n 2, 1) := by decide +kernel
theorem dX5_face_58 : decode cX5_face 58 = .ok (.invokevirtual 136, 3) := by decide +kernel
theorem dX5_face_61 : decode cX5_face 61 = .ok (.ireturn, 1) := by decide +kernel
theorem dX5_face_62 : decode cX5_face 62 = .ok (.aload_n 0, 1) := by decide +kernel
theorem dX5_face_63 : decode cX5_face 63 = .ok (.getfield 12, 3) := by decide +kernel
theorem dX5_face_66 : decode cX5_face 66 = .ok (.iload_n 1, 1) := by decide +kernel
theorem dX5_face_67 : decode cX5_face 67 = .ok (.iload_n 2, 1) := by decide +kernel
theorem dX5_face_68 : decode cX5_face 68 = .ok (.invokevirtual 197, 3) := by decide +kernel
theorem dX5_face_71 : decode cX5_face 71 = .ok (.ireturn, 1) := by decide +kernel
theorem dX5_face_72 : decode cX5_face 72 = .ok (.aload_n 0, 1) := by decide +kernel
theorem dX5_face_73 : decode cX5_face 73 = .ok (.getfield 12, 3) := by decide +kernel
theorem dX5_face_76 : decode cX5_face 76 = .ok (.iload_n 1, 1) := by decide +kernel
theorem dX5_face_77 : decode cX5_face 77 = .ok (.iload_n 2, 1) := by decide +kernel
theorem dX5_face_78 : decode cX5_face 78 = .ok (.invokevirtual 200, 3) := by decide +kernel
theorem dX5_face_81 : decode cX5_face 81 = .ok (.ireturn, 1) := by decide +kernel
theorem dX5_face_82 : decode cX5_face 82 = .ok (.aload_n 0, 1) := by decide +kernel
theorem dX5_face_83 : decode cX5_face 83 = .ok (.getfield 12, 3) := by decide +kernel
theorem dX5_face_86 : decode cX5_face 86 = .ok (.iload_n 1, 1) := by decide +kernel
theorem dX5_face_87 : decode cX5_face 87 = .ok (.iload_n 2, 1) := by decide +kernel
theorem dX5_face_88 : decode cX5_face 88 = .ok (.invokevirtual 203, 3) := by decide +kernel
theorem dX5_face_91 : decode cX5_face 91 = .ok (.ireturn, 1) := by decide +kernel
theorem dX5_face_92 : decode cX5_face 92 = .ok (.ldc 56, 2) := by decide +kernel
theorem dX5_face_94 : decode cX5_face 94 = .ok (.ireturn, 1) := by decide +kernel
theorem dX5_bestFor_0 : decode cX5_bestFor 0 = .ok (.iload_n 1, 1) := by decide +kernel
theorem dX5_bestFor_1 : decode cX5_bestFor 1 = .ok (.iconst 4, 1) := by decide +kernel
theorem dX5_bestFor_2 : decode cX5_bestFor 2 = .ok (.invokestatic 51, 3) := by decide +kernel
theorem dX5_bestFor_5 : decode cX5_bestFor 5 = .ok (.ifCond .ne 6, 3) := by decide +kernel
theorem dX5_bestFor_8 : decode cX5_bestFor 8 = .ok (.ldc 55, 2) := by decide +kernel
theorem dX5_bestFor_10 : decode cX5_bestFor 10 = .ok (.ireturn, 1) := by decide +kernel
theorem dX5_bestFor_11 : decode cX5_bestFor 11 = .ok (.aload_n 0, 1) := by decide +kernel
theorem dX5_bestFor_12 : decode cX5_bestFor 12 = .ok (.getfield 40, 3) := by decide +kernel
theorem dX5_bestFor_15 : decode cX5_bestFor 15 = .ok (.aload_n 0, 1) := by decide +kernel
theorem dX5_bestFor_16 : decode cX5_bestFor 16 = .ok (.getfield 12, 3) := by decide +kernel
theorem dX5_bestFor_19 : decode cX5_bestFor 19 = .ok (.invokevirtual 139, 3) := by decide +kernel
theorem dX5_bestFor_22 : decode cX5_bestFor 22 = .ok (.aload_n 0, 1) := by decide +kernel
theorem dX5_bestFor_23 : decode cX5_bestFor 23 = .ok (.getfield 40, 3) := by decide +kernel
theorem dX5_bestFor_26 : decode cX5_bestFor 26 = .ok (.iload_n 1, 1) := by decide +kernel
theorem dX5_bestFor_27 : decode cX5_bestFor 27 = .ok (.invokevirtual 142, 3) := by decide +kernel
theorem dX5_bestFor_30 : decode cX5_bestFor 30 = .ok (.ireturn, 1) := by decide +kernel
theorem dX5_ranked_0 : decode cX5_ranked 0 = .ok (.iload_n 1, 1) := by decide +kernel
theorem dX5_ranked_1 : decode cX5_ranked 1 = .ok (.iconst 4, 1) := by decide +kernel
theorem dX5_ranked_2 : decode cX5_ranked 2 = .ok (.invokestatic 51, 3) := by decide +kernel
theorem dX5_ranked_5 : decode cX5_ranked 5 = .ok (.ifCond .ne 6, 3) := by decide +kernel
theorem dX5_ranked_8 : decode cX5_ranked 8 = .ok (.ldc 56, 2) := by decide +kernel
theorem dX5_ranked_10 : decode cX5_ranked 10 = .ok (.ireturn, 1) := by decide +kernel
theorem dX5_ranked_11 : decode cX5_ranked 11 = .ok (.aload_n 0, 1) := by decide +kernel
theorem dX5_ranked_12 : decode cX5_ranked 12 = .ok (.getfield 47, 3) := by decide +kernel
theorem dX5_ranked_15 : decode cX5_ranked 15 = .ok (.aload_n 0, 1) := by decide +kernel
theorem dX5_ranked_16 : decode cX5_ranked 16 = .ok (.getfield 12, 3) := by decide +kernel
theorem dX5_ranked_19 : decode cX5_ranked 19 = .ok (.invokevirtual 143, 3) := by decide +kernel
theorem dX5_ranked_22 : decode cX5_ranked 22 = .ok (.iload_n 2, 1) := by decide +kernel
theorem dX5_ranked_23 : decode cX5_ranked 23 = .ok (.tableswitch 52 0 2 #[25, 34, 43], 25) := by decide +kernel
theorem dX5_ranked_48 : decode cX5_ranked 48 = .ok (.aload_n 0, 1) := by decide +kernel
theorem dX5_ranked_49 : decode cX5_ranked 49 = .ok (.getfield 47, 3) := by decide +kernel
theorem dX5_ranked_52 : decode cX5_ranked 52 = .ok (.iload_n 1, 1) := by decide +kernel
theorem dX5_ranked_53 : decode cX5_ranked 53 = .ok (.invokevirtual 149, 3) := by decide +kernel
theorem dX5_ranked_56 : decode cX5_ranked 56 = .ok (.ireturn, 1) := by decide +kernel
theorem dX5_ranked_57 : decode cX5_ranked 57 = .ok (.aload_n 0, 1) := by decide +kernel
theorem dX5_ranked_58 : decode cX5_ranked 58 = .ok (.getfield 47, 3) := by decide +kernel
theorem dX5_ranked_61 : decode cX5_ranked 61 = .ok (.iload_n 1, 1) := by decide +kernel
theorem dX5_ranked_62 : decode cX5_ranked 62 = .ok (.invokevirtual 206, 3) := by decide +kernel
theorem dX5_ranked_65 : decode cX5_ranked 65 = .ok (.ireturn, 1) := by decide +kernel
theorem dX5_ranked_66 : decode cX5_ranked 66 = .ok (.aload_n 0, 1) := by decide +kernel
theorem dX5_ranked_67 : decode cX5_ranked 67 = .ok (.getfield 47, 3) := by decide +kernel
theorem dX5_ranked_70 : decode cX5_ranked 70 = .ok (.iload_n 1, 1) := by decide +kernel
theorem dX5_ranked_71 : decode cX5_ranked 71 = .ok (.invokevirtual 146, 3) := by decide +kernel
theorem dX5_ranked_74 : decode cX5_ranked 74 = .ok (.ireturn, 1) := by decide +kernel
theorem dX5_ranked_75 : decode cX5_ranked 75 = .ok (.ldc 56, 2) := by decide +kernel
theorem dX5_ranked_77 : decode cX5_ranked 77 = .ok (.ireturn, 1) := by decide +kernel
theorem dX5_count_0 : decode cX5_count 0 = .ok (.iload_n 1, 1) := by decide +kernel
theorem dX5_count_1 : decode cX5_count 1 = .ok (.tableswitch 170 0 10 #[59, 70, 81, 92, 103, 111, 119, 127, 146, 154, 162], 59) := by decide +kernel
theorem dX5_count_60 : decode cX5_count 60 = .ok (.aload_n 0, 1) := by decide +kernel
theorem dX5_count_61 : decode cX5_count 61 = .ok (.getfield 12, 3) := by decide +kernel
theorem dX5_count_64 : decode cX5_count 64 = .ok (.sipush 200, 3) := by decide +kernel
theorem dX5_count_67 : decode cX5_count 67 = .ok (.invokevirtual 179, 3) := by decide +kernel
theorem dX5_count_70 : decode cX5_count 70 = .ok (.ireturn, 1) := by decide +kernel
theorem dX5_count_71 : decode cX5_count 71 = .ok (.aload_n 0, 1) := by decide +kernel
theorem dX5_count_72 : decode cX5_count 72 = .ok (.getfield 12, 3) := by decide +kernel
theorem dX5_count_75 : decode cX5_count 75 = .ok (.sipush 201, 3) := by decide +kernel
theorem dX5_count_78 : decode cX5_count 78 = .ok (.invokevirtual 179, 3) := by decide +kernel
theorem dX5_count_81 : decode cX5_count 81 = .ok (.ireturn, 1) := by decide +kernel
theorem dX5_count_82 : decode cX5_count 82 = .ok (.aload_n 0, 1) := by decide +kernel
theorem dX5_count_83 : decode cX5_count 83 = .ok (.getfield 12, 3) := by decide +kernel
theorem dX5_count_86 : decode cX5_count 86 = .ok (.sipush 202, 3) := by decide +kernel
theorem dX5_count_89 : decode cX5_count 89 = .ok (.invokevirtual 179, 3) := by decide +kernel
theorem dX5_count_92 : decode cX5_count 92 = .ok (.ireturn, 1) := by decide +kernel
theorem dX5_count_93 : decode cX5_count 93 = .ok (.aload_n 0, 1) := by decide +kernel
theorem dX5_count_94 : decode cX5_count 94 = .ok (.getfield 12, 3) := by decide +kernel
theorem dX5_count_97 : decode cX5_count 97 = .ok (.sipush 203, 3) := by decide +kernel
theorem dX5_count_100 : decode cX5_count 100 = .ok (.invokevirtual 179, 3) := by decide +kernel
theorem dX5_count_103 : decode cX5_count 103 = .ok (.ireturn, 1) := by decide +kernel
theorem dX5_count_104 : decode cX5_count 104 = .ok (.aload_n 0, 1) := by decide +kernel
theorem dX5_count_105 : decode cX5_count 105 = .ok (.getfield 12, 3) := by decide +kernel
theorem dX5_count_108 : decode cX5_count 108 = .ok (.invokevirtual 209, 3) := by decide +kernel
theorem dX5_count_111 : decode cX5_count 111 = .ok (.ireturn, 1) := by decide +kernel
theorem dX5_count_112 : decode cX5_count 112 = .ok (.aload_n 0, 1) := by decide +kernel
theorem dX5_count_113 : decode cX5_count 113 = .ok (.getfield 12, 3) := by decide +kernel
theorem dX5_count_116 : decode cX5_count 116 = .ok (.invokevirtual 212, 3) := by decide +kernel
theorem dX5_count_119 : decode cX5_count 119 = .ok (.ireturn, 1) := by decide +kernel
theorem dX5_count_120 : decode cX5_count 120 = .ok (.aload_n 0, 1) := by decide +kernel
theorem dX5_count_121 : decode cX5_count 121 = .ok (.getfield 12, 3) := by decide +kernel
theorem dX5_count_124 : decode cX5_count 124 = .ok (.invokevirtual 215, 3) := by decide +kernel
theorem dX5_count_127 : decode cX5_count 127 = .ok (.ireturn, 1) := by decide +kernel
theorem dX5_count_128 : decode cX5_count 128 = .ok (.aload_n 0, 1) := by decide +kernel
theorem dX5_count_129 : decode cX5_count 129 = .ok (.getfield 40, 3) := by decide +kernel
theorem dX5_count_132 : decode cX5_count 132 = .ok (.aload_n 0, 1) := by decide +kernel
theorem dX5_count_133 : decode cX5_count 133 = .ok (.getfield 12, 3) := by decide +kernel
theorem dX5_count_136 : decode cX5_count 136 = .ok (.invokevirtual 139, 3) := by decide +kernel
theorem dX5_count_139 : decode cX5_count 139 = .ok (.aload_n 0, 1) := by decide +kernel
theorem dX5_count_140 : decode cX5_count 140 = .ok (.getfield 40, 3) := by decide +kernel
theorem dX5_count_143 : decode cX5_count 143 = .ok (.invokevirtual 218, 3) := by decide +kernel
theorem dX5_count_146 : decode cX5_count 146 = .ok (.ireturn, 1) := by decide +kernel
theorem dX5_count_147 : decode cX5_count 147 = .ok (.aload_n 0, 1) := by decide +kernel
theorem dX5_count_148 : decode cX5_count 148 = .ok (.getfield 12, 3) := by decide +kernel
theorem dX5_count_151 : decode cX5_count 151 = .ok (.invokevirtual 221, 3) := by decide +kernel
theorem dX5_count_154 : decode cX5_count 154 = .ok (.ireturn, 1) := by decide +kernel
theorem dX5_count_155 : decode cX5_count 155 = .ok (.aload_n 0, 1) := by decide +kernel
theorem dX5_count_156 : decode cX5_count 156 = .ok (.getfield 19, 3) := by decide +kernel
theorem dX5_count_159 : decode cX5_count 159 = .ok (.invokevirtual 173, 3) := by decide +kernel
theorem dX5_count_162 : decode cX5_count 162 = .ok (.ireturn, 1) := by decide +kernel
theorem dX5_count_163 : decode cX5_count 163 = .ok (.aload_n 0, 1) := by decide +kernel
theorem dX5_count_164 : decode cX5_count 164 = .ok (.getfield 33, 3) := by decide +kernel
theorem dX5_count_167 : decode cX5_count 167 = .ok (.invokevirtual 162, 3) := by decide +kernel
theorem dX5_count_170 : decode cX5_count 170 = .ok (.ireturn, 1) := by decide +kernel
theorem dX5_count_171 : decode cX5_count 171 = .ok (.ldc 56, 2) := by decide +kernel
theorem dX5_count_173 : decode cX5_count 173 = .ok (.ireturn, 1) := by decide +kernel
theorem dX5_isBelow_0 : decode cX5_isBelow 0 = .ok (.iload_n 0, 1) := by decide +kernel
theorem dX5_isBelow_1 : decode cX5_isBelow 1 = .ok (.ifCond .lt 12, 3) := by decide +kernel
theorem dX5_isBelow_4 : decode cX5_isBelow 4 = .ok (.iload_n 0, 1) := by decide +kernel
theorem dX5_isBelow_5 : decode cX5_isBelow 5 = .ok (.iload_n 1, 1) := by decide +kernel
theorem dX5_isBelow_6 : decode cX5_isBelow 6 = .ok (.if_icmp .ge 7, 3) := by decide +kernel
theorem dX5_isBelow_9 : decode cX5_isBelow 9 = .ok (.iconst 1, 1) := by decide +kernel
theorem dX5_isBelow_10 : decode cX5_isBelow 10 = .ok (.goto 4, 3) := by decide +kernel
theorem dX5_isBelow_13 : decode cX5_isBelow 13 = .ok (.iconst 0, 1) := by decide +kernel
theorem dX5_isBelow_14 : decode cX5_isBelow 14 = .ok (.ireturn, 1) := by decide +kernel
theorem dX5_areMinutes_0 : decode cX5_areMinutes 0 = .ok (.iload_n 0, 1) := by decide +kernel
theorem dX5_areMinutes_1 : decode cX5_areMinutes 1 = .ok (.iconst 1, 1) := by decide +kernel
theorem dX5_areMinutes_2 : decode cX5_areMinutes 2 = .ok (.if_icmp .lt 14, 3) := by decide +kernel
theorem dX5_areMinutes_5 : decode cX5_areMinutes 5 = .ok (.iload_n 0, 1) := by decide +kernel
theorem dX5_areMinutes_6 : decode cX5_areMinutes 6 = .ok (.sipush 200, 3) := by decide +kernel
theorem dX5_areMinutes_9 : decode cX5_areMinutes 9 = .ok (.if_icmp .gt 7, 3) := by decide +kernel
theorem dX5_areMinutes_12 : decode cX5_areMinutes 12 = .ok (.iconst 1, 1) := by decide +kernel
theorem dX5_areMinutes_13 : decode cX5_areMinutes 13 = .ok (.goto 4, 3) := by decide +kernel
theorem dX5_areMinutes_16 : decode cX5_areMinutes 16 = .ok (.iconst 0, 1) := by decide +kernel
theorem dX5_areMinutes_17 : decode cX5_areMinutes 17 = .ok (.ireturn, 1) := by decide +kernel
theorem dX5_isCell_0 : decode cX5_isCell 0 = .ok (.iload_n 0, 1) := by decide +kernel
theorem dX5_isCell_1 : decode cX5_isCell 1 = .ok (.iconst 4, 1) := by decide +kernel
theorem dX5_isCell_2 : decode cX5_isCell 2 = .ok (.invokestatic 51, 3) := by decide +kernel
theorem dX5_isCell_5 : decode cX5_isCell 5 = .ok (.ifCond .eq 24, 3) := by decide +kernel
theorem dX5_isCell_8 : decode cX5_isCell 8 = .ok (.iload_n 1, 1) := by decide +kernel
theorem dX5_isCell_9 : decode cX5_isCell 9 = .ok (.bipush 6, 2) := by decide +kernel
theorem dX5_isCell_11 : decode cX5_isCell 11 = .ok (.invokestatic 51, 3) := by decide +kernel
theorem dX5_isCell_14 : decode cX5_isCell 14 = .ok (.ifCond .eq 15, 3) := by decide +kernel
theorem dX5_isCell_17 : decode cX5_isCell 17 = .ok (.iload_n 2, 1) := by decide +kernel
theorem dX5_isCell_18 : decode cX5_isCell 18 = .ok (.iconst 3, 1) := by decide +kernel
theorem dX5_isCell_19 : decode cX5_isCell 19 = .ok (.invokestatic 51, 3) := by decide +kernel
theorem dX5_isCell_22 : decode cX5_isCell 22 = .ok (.ifCond .eq 7, 3) := by decide +kernel
theorem dX5_isCell_25 : decode cX5_isCell 25 = .ok (.iconst 1, 1) := by decide +kernel
theorem dX5_isCell_26 : decode cX5_isCell 26 = .ok (.goto 4, 3) := by decide +kernel
theorem dX5_isCell_29 : decode cX5_isCell 29 = .ok (.iconst 0, 1) := by decide +kernel
theorem dX5_isCell_30 : decode cX5_isCell 30 = .ok (.ireturn, 1) := by decide +kernel
theorem dX5_halfOf_0 : decode cX5_halfOf 0 = .ok (.iload_n 0, 1) := by decide +kernel
theorem dX5_halfOf_1 : decode cX5_halfOf 1 = .ok (.ifCond .eq 9, 3) := by decide +kernel
theorem dX5_halfOf_4 : decode cX5_halfOf 4 = .ok (.iconst 4, 1) := by decide +kernel
theorem dX5_halfOf_5 : decode cX5_halfOf 5 = .ok (.iload_n 1, 1) := by decide +kernel
theorem dX5_halfOf_6 : decode cX5_halfOf 6 = .ok (.iadd, 1) := by decide +kernel
theorem dX5_halfOf_7 : decode cX5_halfOf 7 = .ok (.goto 4, 3) := by decide +kernel
theorem dX5_halfOf_10 : decode cX5_halfOf 10 = .ok (.iload_n 1, 1) := by decide +kernel
theorem dX5_halfOf_11 : decode cX5_halfOf 11 = .ok (.ireturn, 1) := by decide +kernel
theorem dX5_change_0 : decode cX5_change 0 = .ok (.aload_n 0, 1) := by decide +kernel
theorem dX5_change_1 : decode cX5_change 1 = .ok (.getfield 12, 3) := by decide +kernel
theorem dX5_change_4 : decode cX5_change 4 = .ok (.iload_n 1, 1) := by decide +kernel
theorem dX5_change_5 : decode cX5_change 5 = .ok (.invokevirtual 179, 3) := by decide +kernel
theorem dX5_change_8 : decode cX5_change 8 = .ok (.istore_n 3, 1) := by decide +kernel
theorem dX5_change_9 : decode cX5_change 9 = .ok (.iload_n 3, 1) := by decide +kernel
theorem dX5_change_10 : decode cX5_change 10 = .ok (.iload_n 2, 1) := by decide +kernel
theorem dX5_change_11 : decode cX5_change 11 = .ok (.if_icmp .ne 6, 3) := by decide +kernel
theorem dX5_change_14 : decode cX5_change 14 = .ok (.ldc 86, 2) := by decide +kernel
theorem dX5_change_16 : decode cX5_change 16 = .ok (.ireturn, 1) := by decide +kernel
theorem dX5_change_17 : decode cX5_change 17 = .ok (.aload_n 0, 1) := by decide +kernel
theorem dX5_change_18 : decode cX5_change 18 = .ok (.getfield 19, 3) := by decide +kernel
theorem dX5_change_21 : decode cX5_change 21 = .ok (.aload_n 0, 1) := by decide +kernel
theorem dX5_change_22 : decode cX5_change 22 = .ok (.getfield 12, 3) := by decide +kernel
theorem dX5_change_25 : decode cX5_change 25 = .ok (.invokevirtual 87, 3) := by decide +kernel
theorem dX5_change_28 : decode cX5_change 28 = .ok (.aload_n 0, 1) := by decide +kernel
theorem dX5_change_29 : decode cX5_change 29 = .ok (.getfield 12, 3) := by decide +kernel
theorem dX5_change_32 : decode cX5_change 32 = .ok (.iload_n 1, 1) := by decide +kernel
theorem dX5_change_33 : decode cX5_change 33 = .ok (.iload_n 2, 1) := by decide +kernel
theorem dX5_change_34 : decode cX5_change 34 = .ok (.invokevirtual 224, 3) := by decide +kernel
theorem dX5_change_37 : decode cX5_change 37 = .ok (.iload_n 3, 1) := by decide +kernel
theorem dX5_change_38 : decode cX5_change 38 = .ok (.ireturn, 1) := by decide +kernel
theorem dJ0_length_8abf5_0 : decode cJ0_length_8abf5 0 = .ok (.aload_n 0, 1) := by decide +kernel
theorem dJ0_length_8abf5_1 : decode cJ0_length_8abf5 1 = .ok (.getfield 9, 3) := by decide +kernel
theorem dJ0_length_8abf5_4 : decode cJ0_length_8abf5 4 = .ok (.arraylength, 1) := by decide +kernel
theorem dJ0_length_8abf5_5 : decode cJ0_length_8abf5 5 = .ok (.aload_n 0, 1) := by decide +kernel
theorem dJ0_length_8abf5_6 : decode cJ0_length_8abf5 6 = .ok (.invokevirtual 335, 3) := by decide +kernel
theorem dJ0_length_8abf5_9 : decode cJ0_length_8abf5 9 = .ok (.ishr, 1) := by decide +kernel
theorem dJ0_length_8abf5_10 : decode cJ0_length_8abf5 10 = .ok (.ireturn, 1) := by decide +kernel
theorem dJ0_charAt_5068e_0 : decode cJ0_charAt_5068e 0 = .ok (.aload_n 0, 1) := by decide +kernel
theorem dJ0_charAt_5068e_1 : decode cJ0_charAt_5068e 1 = .ok (.invokevirtual 492, 3) := by decide +kernel
theorem dJ0_charAt_5068e_4 : decode cJ0_charAt_5068e 4 = .ok (.ifCond .eq 12, 3) := by decide +kernel
theorem dJ0_charAt_5068e_7 : decode cJ0_charAt_5068e 7 = .ok (.aload_n 0, 1) := by decide +kernel
theorem dJ0_charAt_5068e_8 : decode cJ0_charAt_5068e 8 = .ok (.getfield 9, 3) := by decide +kernel
theorem dJ0_charAt_5068e_11 : decode cJ0_charAt_5068e 11 = .ok (.iload_n 1, 1) := by decide +kernel
theorem dJ0_charAt_5068e_12 : decode cJ0_charAt_5068e 12 = .ok (.invokestatic 495, 3) := by decide +kernel
theorem dJ0_charAt_5068e_15 : decode cJ0_charAt_5068e 15 = .ok (.ireturn, 1) := by decide +kernel
theorem dJ0_charAt_5068e_16 : decode cJ0_charAt_5068e 16 = .ok (.aload_n 0, 1) := by decide +kernel
theorem dJ0_charAt_5068e_17 : decode cJ0_charAt_5068e 17 = .ok (.getfield 9, 3) := by decide +kernel
theorem dJ0_charAt_5068e_20 : decode cJ0_charAt_5068e 20 = .ok (.iload_n 1, 1) := by decide +kernel
theorem dJ0_charAt_5068e_21 : decode cJ0_charAt_5068e 21 = .ok (.invokestatic 498, 3) := by decide +kernel
theorem dJ0_charAt_5068e_24 : decode cJ0_charAt_5068e 24 = .ok (.ireturn, 1) := by decide +kernel
theorem dJ0_coder_7d493_0 : decode cJ0_coder_7d493 0 = .ok (.getstatic 38, 3) := by decide +kernel
theorem dJ0_coder_7d493_3 : decode cJ0_coder_7d493 3 = .ok (.ifCond .eq 10, 3) := by decide +kernel
theorem dJ0_coder_7d493_6 : decode cJ0_coder_7d493 6 = .ok (.aload_n 0, 1) := by decide +kernel
theorem dJ0_coder_7d493_7 : decode cJ0_coder_7d493 7 = .ok (.getfield 15, 3) := by decide +kernel
theorem dJ0_coder_7d493_10 : decode cJ0_coder_7d493 10 = .ok (.goto 4, 3) := by decide +kernel
theorem dJ0_coder_7d493_13 : decode cJ0_coder_7d493 13 = .ok (.iconst 1, 1) := by decide +kernel
theorem dJ0_coder_7d493_14 : decode cJ0_coder_7d493 14 = .ok (.ireturn, 1) := by decide +kernel
theorem dJ0_isLatin1_aae02_0 : decode cJ0_isLatin1_aae02 0 = .ok (.getstatic 38, 3) := by decide +kernel
theorem dJ0_isLatin1_aae02_3 : decode cJ0_isLatin1_aae02 3 = .ok (.ifCond .eq 14, 3) := by decide +kernel
theorem dJ0_isLatin1_aae02_6 : decode cJ0_isLatin1_aae02 6 = .ok (.aload_n 0, 1) := by decide +kernel
theorem dJ0_isLatin1_aae02_7 : decode cJ0_isLatin1_aae02 7 = .ok (.getfield 15, 3) := by decide +kernel
theorem dJ0_isLatin1_aae02_10 : decode cJ0_isLatin1_aae02 10 = .ok (.ifCond .ne 7, 3) := by decide +kernel
theorem dJ0_isLatin1_aae02_13 : decode cJ0_isLatin1_aae02 13 = .ok (.iconst 1, 1) := by decide +kernel
theorem dJ0_isLatin1_aae02_14 : decode cJ0_isLatin1_aae02 14 = .ok (.goto 4, 3) := by decide +kernel
theorem dJ0_isLatin1_aae02_17 : decode cJ0_isLatin1_aae02 17 = .ok (.iconst 0, 1) := by decide +kernel
theorem dJ0_isLatin1_aae02_18 : decode cJ0_isLatin1_aae02 18 = .ok (.ireturn, 1) := by decide +kernel
theorem dJ1_charAt_3b067_0 : decode cJ1_charAt_3b067 0 = .ok (.iload_n 1, 1) := by decide +kernel
theorem dJ1_charAt_3b067_1 : decode cJ1_charAt_3b067 1 = .ok (.aload_n 0, 1) := by decide +kernel
theorem dJ1_charAt_3b067_2 : decode cJ1_charAt_3b067 2 = .ok (.arraylength, 1) := by decide +kernel
theorem dJ1_charAt_3b067_3 : decode cJ1_charAt_3b067 3 = .ok (.invokestatic 9, 3) := by decide +kernel
theorem dJ1_charAt_3b067_6 : decode cJ1_charAt_3b067 6 = .ok (.aload_n 0, 1) := by decide +kernel
theorem dJ1_charAt_3b067_7 : decode cJ1_charAt_3b067 7 = .ok (.iload_n 1, 1) := by decide +kernel
theorem dJ1_charAt_3b067_8 : decode cJ1_charAt_3b067 8 = .ok (.baload, 1) := by decide +kernel
theorem dJ1_charAt_3b067_9 : decode cJ1_charAt_3b067 9 = .ok (.sipush 255, 3) := by decide +kernel
theorem dJ1_charAt_3b067_12 : decode cJ1_charAt_3b067 12 = .ok (.iand, 1) := by decide +kernel
theorem dJ1_charAt_3b067_13 : decode cJ1_charAt_3b067 13 = .ok (.i2c, 1) := by decide +kernel
theorem dJ1_charAt_3b067_14 : decode cJ1_charAt_3b067 14 = .ok (.ireturn, 1) := by decide +kernel
