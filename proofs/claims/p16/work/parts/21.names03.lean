theorem dX9_allRows_41 : decode cX9_allRows 41 = .ok (.goto (-15), 3) := by decide +kernel
theorem dX9_allRows_44 : decode cX9_allRows 44 = .ok (.lload 4, 2) := by decide +kernel
theorem dX9_allRows_46 : decode cX9_allRows 46 = .ok (.lreturn, 1) := by decide +kernel
theorem dX9_uneven_0 : decode cX9_uneven 0 = .ok (.aload_n 0, 1) := by decide +kernel
theorem dX9_uneven_1 : decode cX9_uneven 1 = .ok (.iload_n 1, 1) := by decide +kernel
theorem dX9_uneven_2 : decode cX9_uneven 2 = .ok (.invokevirtual 113, 3) := by decide +kernel
theorem dX9_uneven_5 : decode cX9_uneven 5 = .ok (.aload_n 0, 1) := by decide +kernel
theorem dX9_uneven_6 : decode cX9_uneven 6 = .ok (.getfield 22, 3) := by decide +kernel
theorem dX9_uneven_9 : decode cX9_uneven 9 = .ok (.getfield 64, 3) := by decide +kernel
theorem dX9_uneven_12 : decode cX9_uneven 12 = .ok (.i2l, 1) := by decide +kernel
theorem dX9_uneven_13 : decode cX9_uneven 13 = .ok (.lstore_n 2, 1) := by decide +kernel
theorem dX9_uneven_14 : decode cX9_uneven 14 = .ok (.aload_n 0, 1) := by decide +kernel
theorem dX9_uneven_15 : decode cX9_uneven 15 = .ok (.iload_n 1, 1) := by decide +kernel
theorem dX9_uneven_16 : decode cX9_uneven 16 = .ok (.invokevirtual 116, 3) := by decide +kernel
theorem dX9_uneven_19 : decode cX9_uneven 19 = .ok (.lstore 4, 2) := by decide +kernel
theorem dX9_uneven_21 : decode cX9_uneven 21 = .ok (.lconst 0, 1) := by decide +kernel
theorem dX9_uneven_22 : decode cX9_uneven 22 = .ok (.lstore 6, 2) := by decide +kernel
theorem dX9_uneven_24 : decode cX9_uneven 24 = .ok (.iconst 0, 1) := by decide +kernel
theorem dX9_uneven_25 : decode cX9_uneven 25 = .ok (.istore 8, 2) := by decide +kernel
theorem dX9_uneven_27 : decode cX9_uneven 27 = .ok (.iload 8, 2) := by decide +kernel
theorem dX9_uneven_29 : decode cX9_uneven 29 = .ok (.aload_n 0, 1) := by decide +kernel
theorem dX9_uneven_30 : decode cX9_uneven 30 = .ok (.getfield 22, 3) := by decide +kernel
theorem dX9_uneven_33 : decode cX9_uneven 33 = .ok (.getfield 64, 3) := by decide +kernel
theorem dX9_uneven_36 : decode cX9_uneven 36 = .ok (.if_icmp .ge 38, 3) := by decide +kernel
theorem dX9_uneven_39 : decode cX9_uneven 39 = .ok (.lload 6, 2) := by decide +kernel
theorem dX9_uneven_41 : decode cX9_uneven 41 = .ok (.aload_n 0, 1) := by decide +kernel
theorem dX9_uneven_42 : decode cX9_uneven 42 = .ok (.getfield 9, 3) := by decide +kernel
theorem dX9_uneven_45 : decode cX9_uneven 45 = .ok (.aload_n 0, 1) := by decide +kernel
theorem dX9_uneven_46 : decode cX9_uneven 46 = .ok (.getfield 22, 3) := by decide +kernel
theorem dX9_uneven_49 : decode cX9_uneven 49 = .ok (.getfield 67, 3) := by decide +kernel
theorem dX9_uneven_52 : decode cX9_uneven 52 = .ok (.iload 8, 2) := by decide +kernel
theorem dX9_uneven_54 : decode cX9_uneven 54 = .ok (.iaload, 1) := by decide +kernel
theorem dX9_uneven_55 : decode cX9_uneven 55 = .ok (.iaload, 1) := by decide +kernel
theorem dX9_uneven_56 : decode cX9_uneven 56 = .ok (.i2l, 1) := by decide +kernel
theorem dX9_uneven_57 : decode cX9_uneven 57 = .ok (.lload_n 2, 1) := by decide +kernel
theorem dX9_uneven_58 : decode cX9_uneven 58 = .ok (.lmul, 1) := by decide +kernel
theorem dX9_uneven_59 : decode cX9_uneven 59 = .ok (.lload 4, 2) := by decide +kernel
theorem dX9_uneven_61 : decode cX9_uneven 61 = .ok (.lsub, 1) := by decide +kernel
theorem dX9_uneven_62 : decode cX9_uneven 62 = .ok (.invokestatic 120, 3) := by decide +kernel
theorem dX9_uneven_65 : decode cX9_uneven 65 = .ok (.ladd, 1) := by decide +kernel
theorem dX9_uneven_66 : decode cX9_uneven 66 = .ok (.lstore 6, 2) := by decide +kernel
theorem dX9_uneven_68 : decode cX9_uneven 68 = .ok (.iinc 8 1, 3) := by decide +kernel
theorem dX9_uneven_71 : decode cX9_uneven 71 = .ok (.goto (-44), 3) := by decide +kernel
theorem dX9_uneven_74 : decode cX9_uneven 74 = .ok (.lload 6, 2) := by decide +kernel
theorem dX9_uneven_76 : decode cX9_uneven 76 = .ok (.lreturn, 1) := by decide +kernel
theorem dX9_swapTimes_0 : decode cX9_swapTimes 0 = .ok (.aload_n 0, 1) := by decide +kernel
theorem dX9_swapTimes_1 : decode cX9_swapTimes 1 = .ok (.getfield 18, 3) := by decide +kernel
theorem dX9_swapTimes_4 : decode cX9_swapTimes 4 = .ok (.iconst (-1), 1) := by decide +kernel
theorem dX9_swapTimes_5 : decode cX9_swapTimes 5 = .ok (.if_icmp .eq 11, 3) := by decide +kernel
theorem dX9_swapTimes_8 : decode cX9_swapTimes 8 = .ok (.aload_n 0, 1) := by decide +kernel
theorem dX9_swapTimes_9 : decode cX9_swapTimes 9 = .ok (.getfield 18, 3) := by decide +kernel
theorem dX9_swapTimes_12 : decode cX9_swapTimes 12 = .ok (.iload_n 1, 1) := by decide +kernel
theorem dX9_swapTimes_13 : decode cX9_swapTimes 13 = .ok (.if_icmp .le 27, 3) := by decide +kernel
theorem dX9_swapTimes_16 : decode cX9_swapTimes 16 = .ok (.aload_n 0, 1) := by decide +kernel
theorem dX9_swapTimes_17 : decode cX9_swapTimes 17 = .ok (.invokevirtual 58, 3) := by decide +kernel
theorem dX9_swapTimes_20 : decode cX9_swapTimes 20 = .ok (.aload_n 0, 1) := by decide +kernel
theorem dX9_swapTimes_21 : decode cX9_swapTimes 21 = .ok (.getfield 9, 3) := by decide +kernel
theorem dX9_swapTimes_24 : decode cX9_swapTimes 24 = .ok (.aload_n 0, 1) := by decide +kernel
theorem dX9_swapTimes_25 : decode cX9_swapTimes 25 = .ok (.getfield 22, 3) := by decide +kernel
theorem dX9_swapTimes_28 : decode cX9_swapTimes 28 = .ok (.getfield 67, 3) := by decide +kernel
theorem dX9_swapTimes_31 : decode cX9_swapTimes 31 = .ok (.iconst 0, 1) := by decide +kernel
theorem dX9_swapTimes_32 : decode cX9_swapTimes 32 = .ok (.iaload, 1) := by decide +kernel
theorem dX9_swapTimes_33 : decode cX9_swapTimes 33 = .ok (.iconst 1, 1) := by decide +kernel
theorem dX9_swapTimes_34 : decode cX9_swapTimes 34 = .ok (.iastore, 1) := by decide +kernel
theorem dX9_swapTimes_35 : decode cX9_swapTimes 35 = .ok (.aload_n 0, 1) := by decide +kernel
theorem dX9_swapTimes_36 : decode cX9_swapTimes 36 = .ok (.iconst 0, 1) := by decide +kernel
theorem dX9_swapTimes_37 : decode cX9_swapTimes 37 = .ok (.putfield 18, 3) := by decide +kernel
theorem dX9_swapTimes_40 : decode cX9_swapTimes 40 = .ok (.aload_n 0, 1) := by decide +kernel
theorem dX9_swapTimes_41 : decode cX9_swapTimes 41 = .ok (.getfield 18, 3) := by decide +kernel
theorem dX9_swapTimes_44 : decode cX9_swapTimes 44 = .ok (.istore_n 2, 1) := by decide +kernel
theorem dX9_swapTimes_45 : decode cX9_swapTimes 45 = .ok (.iload_n 2, 1) := by decide +kernel
theorem dX9_swapTimes_46 : decode cX9_swapTimes 46 = .ok (.iload_n 1, 1) := by decide +kernel
theorem dX9_swapTimes_47 : decode cX9_swapTimes 47 = .ok (.if_icmp .ge 13, 3) := by decide +kernel
theorem dX9_swapTimes_50 : decode cX9_swapTimes 50 = .ok (.aload_n 0, 1) := by decide +kernel
theorem dX9_swapTimes_51 : decode cX9_swapTimes 51 = .ok (.invokevirtual 124, 3) := by decide +kernel
theorem dX9_swapTimes_54 : decode cX9_swapTimes 54 = .ok (.iinc 2 1, 3) := by decide +kernel
theorem dX9_swapTimes_57 : decode cX9_swapTimes 57 = .ok (.goto (-12), 3) := by decide +kernel
theorem dX9_swapTimes_60 : decode cX9_swapTimes 60 = .ok (.aload_n 0, 1) := by decide +kernel
theorem dX9_swapTimes_61 : decode cX9_swapTimes 61 = .ok (.iload_n 1, 1) := by decide +kernel
theorem dX9_swapTimes_62 : decode cX9_swapTimes 62 = .ok (.putfield 18, 3) := by decide +kernel
theorem dX9_swapTimes_65 : decode cX9_swapTimes 65 = .ok (.return_, 1) := by decide +kernel
theorem dX9_swapOnce_0 : decode cX9_swapOnce 0 = .ok (.aload_n 0, 1) := by decide +kernel
theorem dX9_swapOnce_1 : decode cX9_swapOnce 1 = .ok (.getfield 15, 3) := by decide +kernel
theorem dX9_swapOnce_4 : decode cX9_swapOnce 4 = .ok (.iconst 0, 1) := by decide +kernel
theorem dX9_swapOnce_5 : decode cX9_swapOnce 5 = .ok (.aload_n 0, 1) := by decide +kernel
theorem dX9_swapOnce_6 : decode cX9_swapOnce 6 = .ok (.getfield 22, 3) := by decide +kernel
theorem dX9_swapOnce_9 : decode cX9_swapOnce 9 = .ok (.getfield 49, 3) := by decide +kernel
theorem dX9_swapOnce_12 : decode cX9_swapOnce 12 = .ok (.iconst 0, 1) := by decide +kernel
theorem dX9_swapOnce_13 : decode cX9_swapOnce 13 = .ok (.invokestatic 52, 3) := by decide +kernel
theorem dX9_swapOnce_16 : decode cX9_swapOnce 16 = .ok (.iconst 0, 1) := by decide +kernel
theorem dX9_swapOnce_17 : decode cX9_swapOnce 17 = .ok (.istore_n 1, 1) := by decide +kernel
theorem dX9_swapOnce_18 : decode cX9_swapOnce 18 = .ok (.iload_n 1, 1) := by decide +kernel
theorem dX9_swapOnce_19 : decode cX9_swapOnce 19 = .ok (.aload_n 0, 1) := by decide +kernel
theorem dX9_swapOnce_20 : decode cX9_swapOnce 20 = .ok (.getfield 22, 3) := by decide +kernel
theorem dX9_swapOnce_23 : decode cX9_swapOnce 23 = .ok (.getfield 64, 3) := by decide +kernel
theorem dX9_swapOnce_26 : decode cX9_swapOnce 26 = .ok (.if_icmp .ge 39, 3) := by decide +kernel
theorem dX9_swapOnce_29 : decode cX9_swapOnce 29 = .ok (.aload_n 0, 1) := by decide +kernel
theorem dX9_swapOnce_30 : decode cX9_swapOnce 30 = .ok (.getfield 22, 3) := by decide +kernel
theorem dX9_swapOnce_33 : decode cX9_swapOnce 33 = .ok (.getfield 67, 3) := by decide +kernel
theorem dX9_swapOnce_36 : decode cX9_swapOnce 36 = .ok (.iload_n 1, 1) := by decide +kernel
theorem dX9_swapOnce_37 : decode cX9_swapOnce 37 = .ok (.iaload, 1) := by decide +kernel
theorem dX9_swapOnce_38 : decode cX9_swapOnce 38 = .ok (.istore_n 2, 1) := by decide +kernel
theorem dX9_swapOnce_39 : decode cX9_swapOnce 39 = .ok (.aload_n 0, 1) := by decide +kernel
theorem dX9_swapOnce_40 : decode cX9_swapOnce 40 = .ok (.getfield 9, 3) := by decide +kernel
theorem dX9_swapOnce_43 : decode cX9_swapOnce 43 = .ok (.iload_n 2, 1) := by decide +kernel
theorem dX9_swapOnce_44 : decode cX9_swapOnce 44 = .ok (.iaload, 1) := by decide +kernel
theorem dX9_swapOnce_45 : decode cX9_swapOnce 45 = .ok (.ifCond .eq 14, 3) := by decide +kernel
theorem dX9_swapOnce_48 : decode cX9_swapOnce 48 = .ok (.aload_n 0, 1) := by decide +kernel
theorem dX9_swapOnce_49 : decode cX9_swapOnce 49 = .ok (.iload_n 2, 1) := by decide +kernel
theorem dX9_swapOnce_50 : decode cX9_swapOnce 50 = .ok (.aload_n 0, 1) := by decide +kernel
theorem dX9_swapOnce_51 : decode cX9_swapOnce 51 = .ok (.getfield 9, 3) := by decide +kernel
theorem dX9_swapOnce_54 : decode cX9_swapOnce 54 = .ok (.iload_n 2, 1) := by decide +kernel
theorem dX9_swapOnce_55 : decode cX9_swapOnce 55 = .ok (.iaload, 1) := by decide +kernel
theorem dX9_swapOnce_56 : decode cX9_swapOnce 56 = .ok (.invokevirtual 127, 3) := by decide +kernel
theorem dX9_swapOnce_59 : decode cX9_swapOnce 59 = .ok (.iinc 1 1, 3) := by decide +kernel
theorem dX9_swapOnce_62 : decode cX9_swapOnce 62 = .ok (.goto (-44), 3) := by decide +kernel
theorem dX9_swapOnce_65 : decode cX9_swapOnce 65 = .ok (.aload_n 0, 1) := by decide +kernel
theorem dX9_swapOnce_66 : decode cX9_swapOnce 66 = .ok (.getfield 9, 3) := by decide +kernel
theorem dX9_swapOnce_69 : decode cX9_swapOnce 69 = .ok (.astore_n 1, 1) := by decide +kernel
theorem dX9_swapOnce_70 : decode cX9_swapOnce 70 = .ok (.aload_n 0, 1) := by decide +kernel
theorem dX9_swapOnce_71 : decode cX9_swapOnce 71 = .ok (.aload_n 0, 1) := by decide +kernel
theorem dX9_swapOnce_72 : decode cX9_swapOnce 72 = .ok (.getfield 15, 3) := by decide +kernel
theorem dX9_swapOnce_75 : decode cX9_swapOnce 75 = .ok (.putfield 9, 3) := by decide +kernel
theorem dX9_swapOnce_78 : decode cX9_swapOnce 78 = .ok (.aload_n 0, 1) := by decide +kernel
theorem dX9_swapOnce_79 : decode cX9_swapOnce 79 = .ok (.aload_n 1, 1) := by decide +kernel
theorem dX9_swapOnce_80 : decode cX9_swapOnce 80 = .ok (.putfield 15, 3) := by decide +kernel
theorem dX9_swapOnce_83 : decode cX9_swapOnce 83 = .ok (.return_, 1) := by decide +kernel
theorem dX9_pass_0 : decode cX9_pass 0 = .ok (.iconst 0, 1) := by decide +kernel
theorem dX9_pass_1 : decode cX9_pass 1 = .ok (.istore_n 3, 1) := by decide +kernel
theorem dX9_pass_2 : decode cX9_pass 2 = .ok (.iload_n 3, 1) := by decide +kernel
theorem dX9_pass_3 : decode cX9_pass 3 = .ok (.aload_n 0, 1) := by decide +kernel
theorem dX9_pass_4 : decode cX9_pass 4 = .ok (.getfield 22, 3) := by decide +kernel
theorem dX9_pass_7 : decode cX9_pass 7 = .ok (.getfield 87, 3) := by decide +kernel
theorem dX9_pass_10 : decode cX9_pass 10 = .ok (.getfield 91, 3) := by decide +kernel
theorem dX9_pass_13 : decode cX9_pass 13 = .ok (.if_icmp .ge 113, 3) := by decide +kernel
theorem dX9_pass_16 : decode cX9_pass 16 = .ok (.aload_n 0, 1) := by decide +kernel
theorem dX9_pass_17 : decode cX9_pass 17 = .ok (.getfield 22, 3) := by decide +kernel
theorem dX9_pass_20 : decode cX9_pass 20 = .ok (.getfield 96, 3) := by decide +kernel
theorem dX9_pass_23 : decode cX9_pass 23 = .ok (.iload_n 3, 1) := by decide +kernel
theorem dX9_pass_24 : decode cX9_pass 24 = .ok (.iaload, 1) := by decide +kernel
theorem dX9_pass_25 : decode cX9_pass 25 = .ok (.istore 4, 2) := by decide +kernel
theorem dX9_pass_27 : decode cX9_pass 27 = .ok (.aload_n 0, 1) := by decide +kernel
theorem dX9_pass_28 : decode cX9_pass 28 = .ok (.getfield 22, 3) := by decide +kernel
theorem dX9_pass_31 : decode cX9_pass 31 = .ok (.iload_n 1, 1) := by decide +kernel
theorem dX9_pass_32 : decode cX9_pass 32 = .ok (.iload_n 3, 1) := by decide +kernel
theorem dX9_pass_33 : decode cX9_pass 33 = .ok (.invokevirtual 99, 3) := by decide +kernel
theorem dX9_pass_36 : decode cX9_pass 36 = .ok (.istore 5, 2) := by decide +kernel
theorem dX9_pass_38 : decode cX9_pass 38 = .ok (.iload_n 1, 1) := by decide +kernel
theorem dX9_pass_39 : decode cX9_pass 39 = .ok (.iload 5, 2) := by decide +kernel
theorem dX9_pass_41 : decode cX9_pass 41 = .ok (.iload 4, 2) := by decide +kernel
theorem dX9_pass_43 : decode cX9_pass 43 = .ok (.imul, 1) := by decide +kernel
theorem dX9_pass_44 : decode cX9_pass 44 = .ok (.isub, 1) := by decide +kernel
theorem dX9_pass_45 : decode cX9_pass 45 = .ok (.istore 6, 2) := by decide +kernel
theorem dX9_pass_47 : decode cX9_pass 47 = .ok (.iconst 0, 1) := by decide +kernel
theorem dX9_pass_48 : decode cX9_pass 48 = .ok (.istore 7, 2) := by decide +kernel
theorem dX9_pass_50 : decode cX9_pass 50 = .ok (.iload 7, 2) := by decide +kernel
theorem dX9_pass_52 : decode cX9_pass 52 = .ok (.aload_n 0, 1) := by decide +kernel
theorem dX9_pass_53 : decode cX9_pass 53 = .ok (.getfield 32, 3) := by decide +kernel
theorem dX9_pass_56 : decode cX9_pass 56 = .ok (.getfield 102, 3) := by decide +kernel
theorem dX9_pass_59 : decode cX9_pass 59 = .ok (.if_icmp .ge 61, 3) := by decide +kernel
theorem dX9_pass_62 : decode cX9_pass 62 = .ok (.iload 6, 2) := by decide +kernel
theorem dX9_pass_64 : decode cX9_pass 64 = .ok (.aload_n 0, 1) := by decide +kernel
theorem dX9_pass_65 : decode cX9_pass 65 = .ok (.getfield 32, 3) := by decide +kernel
theorem dX9_pass_68 : decode cX9_pass 68 = .ok (.getfield 107, 3) := by decide +kernel
theorem dX9_pass_71 : decode cX9_pass 71 = .ok (.iload 5, 2) := by decide +kernel
theorem dX9_pass_73 : decode cX9_pass 73 = .ok (.bipush 6, 2) := by decide +kernel
theorem dX9_pass_75 : decode cX9_pass 75 = .ok (.imul, 1) := by decide +kernel
theorem dX9_pass_76 : decode cX9_pass 76 = .ok (.iload 7, 2) := by decide +kernel
theorem dX9_pass_78 : decode cX9_pass 78 = .ok (.iadd, 1) := by decide +kernel
theorem dX9_pass_79 : decode cX9_pass 79 = .ok (.iaload, 1) := by decide +kernel
theorem dX9_pass_80 : decode cX9_pass 80 = .ok (.iload 4, 2) := by decide +kernel
theorem dX9_pass_82 : decode cX9_pass 82 = .ok (.imul, 1) := by decide +kernel
theorem dX9_pass_83 : decode cX9_pass 83 = .ok (.iadd, 1) := by decide +kernel
theorem dX9_pass_84 : decode cX9_pass 84 = .ok (.istore 8, 2) := by decide +kernel
theorem dX9_pass_86 : decode cX9_pass 86 = .ok (.aload_n 0, 1) := by decide +kernel
theorem dX9_pass_87 : decode cX9_pass 87 = .ok (.getfield 15, 3) := by decide +kernel
theorem dX9_pass_90 : decode cX9_pass 90 = .ok (.aload_n 0, 1) := by decide +kernel
theorem dX9_pass_91 : decode cX9_pass 91 = .ok (.getfield 22, 3) := by decide +kernel
theorem dX9_pass_94 : decode cX9_pass 94 = .ok (.getfield 110, 3) := by decide +kernel
theorem dX9_pass_97 : decode cX9_pass 97 = .ok (.iload 8, 2) := by decide +kernel
theorem dX9_pass_99 : decode cX9_pass 99 = .ok (.iaload, 1) := by decide +kernel
theorem dX9_pass_100 : decode cX9_pass 100 = .ok (.ifCond .ne 8, 3) := by decide +kernel
theorem dX9_pass_103 : decode cX9_pass 103 = .ok (.iload 8, 2) := by decide +kernel
theorem dX9_pass_105 : decode cX9_pass 105 = .ok (.goto 4, 3) := by decide +kernel
theorem dX9_pass_108 : decode cX9_pass 108 = .ok (.iload_n 1, 1) := by decide +kernel
theorem dX9_pass_109 : decode cX9_pass 109 = .ok (.dup2, 1) := by decide +kernel
theorem dX9_pass_110 : decode cX9_pass 110 = .ok (.iaload, 1) := by decide +kernel
theorem dX9_pass_111 : decode cX9_pass 111 = .ok (.iload_n 2, 1) := by decide +kernel
theorem dX9_pass_112 : decode cX9_pass 112 = .ok (.iadd, 1) := by decide +kernel
theorem dX9_pass_113 : decode cX9_pass 113 = .ok (.iastore, 1) := by decide +kernel
theorem dX9_pass_114 : decode cX9_pass 114 = .ok (.iinc 7 1, 3) := by decide +kernel
theorem dX9_pass_117 : decode cX9_pass 117 = .ok (.goto (-67), 3) := by decide +kernel
theorem dX9_pass_120 : decode cX9_pass 120 = .ok (.iinc 3 1, 3) := by decide +kernel
theorem dX9_pass_123 : decode cX9_pass 123 = .ok (.goto (-121), 3) := by decide +kernel
theorem dX9_pass_126 : decode cX9_pass 126 = .ok (.return_, 1) := by decide +kernel
theorem dX10_ranksOpen_0 : decode cX10_ranksOpen 0 = .ok (.iload_n 1, 1) := by decide +kernel
theorem dX10_ranksOpen_1 : decode cX10_ranksOpen 1 = .ok (.ifCond .lt 12, 3) := by decide +kernel
theorem dX10_ranksOpen_4 : decode cX10_ranksOpen 4 = .ok (.iload_n 1, 1) := by decide +kernel
theorem dX10_ranksOpen_5 : decode cX10_ranksOpen 5 = .ok (.iconst 4, 1) := by decide +kernel
theorem dX10_ranksOpen_6 : decode cX10_ranksOpen 6 = .ok (.if_icmp .ge 7, 3) := by decide +kernel
theorem dX10_ranksOpen_9 : decode cX10_ranksOpen 9 = .ok (.iload_n 2, 1) := by decide +kernel
theorem dX10_ranksOpen_10 : decode cX10_ranksOpen 10 = .ok (.ifCond .ge 5, 3) := by decide +kernel
theorem dX10_ranksOpen_13 : decode cX10_ranksOpen 13 = .ok (.iconst 0, 1) := by decide +kernel
theorem dX10_ranksOpen_14 : decode cX10_ranksOpen 14 = .ok (.ireturn, 1) := by decide +kernel
theorem dX10_ranksOpen_15 : decode cX10_ranksOpen 15 = .ok (.aload_n 0, 1) := by decide +kernel
theorem dX10_ranksOpen_16 : decode cX10_ranksOpen 16 = .ok (.getfield 15, 3) := by decide +kernel
theorem dX10_ranksOpen_19 : decode cX10_ranksOpen 19 = .ok (.iload_n 1, 1) := by decide +kernel
theorem dX10_ranksOpen_20 : decode cX10_ranksOpen 20 = .ok (.iaload, 1) := by decide +kernel
theorem dX10_ranksOpen_21 : decode cX10_ranksOpen 21 = .ok (.iload_n 2, 1) := by decide +kernel
theorem dX10_ranksOpen_22 : decode cX10_ranksOpen 22 = .ok (.iadd, 1) := by decide +kernel
theorem dX10_ranksOpen_23 : decode cX10_ranksOpen 23 = .ok (.istore_n 3, 1) := by decide +kernel
theorem dX10_ranksOpen_24 : decode cX10_ranksOpen 24 = .ok (.iload_n 3, 1) := by decide +kernel
theorem dX10_ranksOpen_25 : decode cX10_ranksOpen 25 = .ok (.sipush 601, 3) := by decide +kernel
theorem dX10_ranksOpen_28 : decode cX10_ranksOpen 28 = .ok (.if_icmp .ge 12, 3) := by decide +kernel
theorem dX10_ranksOpen_31 : decode cX10_ranksOpen 31 = .ok (.aload_n 0, 1) := by decide +kernel
theorem dX10_ranksOpen_32 : decode cX10_ranksOpen 32 = .ok (.getfield 11, 3) := by decide +kernel
theorem dX10_ranksOpen_35 : decode cX10_ranksOpen 35 = .ok (.iload_n 3, 1) := by decide +kernel
theorem dX10_ranksOpen_36 : decode cX10_ranksOpen 36 = .ok (.iaload, 1) := by decide +kernel
theorem dX10_ranksOpen_37 : decode cX10_ranksOpen 37 = .ok (.goto 4, 3) := by decide +kernel
theorem dX10_ranksOpen_40 : decode cX10_ranksOpen 40 = .ok (.iconst 0, 1) := by decide +kernel
theorem dX10_ranksOpen_41 : decode cX10_ranksOpen 41 = .ok (.ireturn, 1) := by decide +kernel
theorem dX10_build_0 : decode cX10_build 0 = .ok (.aload_n 1, 1) := by decide +kernel
theorem dX10_build_1 : decode cX10_build 1 = .ok (.iconst 0, 1) := by decide +kernel
theorem dX10_build_2 : decode cX10_build 2 = .ok (.aload_n 0, 1) := by decide +kernel
theorem dX10_build_3 : decode cX10_build 3 = .ok (.getfield 18, 3) := by decide +kernel
theorem dX10_build_6 : decode cX10_build 6 = .ok (.iconst 0, 1) := by decide +kernel
theorem dX10_build_7 : decode cX10_build 7 = .ok (.iconst 4, 1) := by decide +kernel
theorem dX10_build_8 : decode cX10_build 8 = .ok (.invokestatic 25, 3) := by decide +kernel
theorem dX10_build_11 : decode cX10_build 11 = .ok (.aload_n 0, 1) := by decide +kernel
theorem dX10_build_12 : decode cX10_build 12 = .ok (.getfield 21, 3) := by decide +kernel
theorem dX10_build_15 : decode cX10_build 15 = .ok (.getfield 31, 3) := by decide +kernel
theorem dX10_build_18 : decode cX10_build 18 = .ok (.getfield 37, 3) := by decide +kernel
theorem dX10_build_21 : decode cX10_build 21 = .ok (.istore_n 2, 1) := by decide +kernel
theorem dX10_build_22 : decode cX10_build 22 = .ok (.iconst 1, 1) := by decide +kernel
theorem dX10_build_23 : decode cX10_build 23 = .ok (.istore_n 3, 1) := by decide +kernel
theorem dX10_build_24 : decode cX10_build 24 = .ok (.aload_n 0, 1) := by decide +kernel
theorem dX10_build_25 : decode cX10_build 25 = .ok (.getfield 15, 3) := by decide +kernel
theorem dX10_build_28 : decode cX10_build 28 = .ok (.iconst 0, 1) := by decide +kernel
theorem dX10_build_29 : decode cX10_build 29 = .ok (.iconst 0, 1) := by decide +kernel
theorem dX10_build_30 : decode cX10_build 30 = .ok (.iastore, 1) := by decide +kernel
theorem dX10_build_31 : decode cX10_build 31 = .ok (.iconst 0, 1) := by decide +kernel
theorem dX10_build_32 : decode cX10_build 32 = .ok (.istore 4, 2) := by decide +kernel
theorem dX10_build_34 : decode cX10_build 34 = .ok (.iload 4, 2) := by decide +kernel
theorem dX10_build_36 : decode cX10_build 36 = .ok (.iload_n 2, 1) := by decide +kernel
theorem dX10_build_37 : decode cX10_build 37 = .ok (.if_icmp .ge 40, 3) := by decide +kernel
theorem dX10_build_40 : decode cX10_build 40 = .ok (.aload_n 0, 1) := by decide +kernel
theorem dX10_build_41 : decode cX10_build 41 = .ok (.getfield 15, 3) := by decide +kernel
theorem dX10_build_44 : decode cX10_build 44 = .ok (.iload 4, 2) := by decide +kernel
theorem dX10_build_46 : decode cX10_build 46 = .ok (.iconst 1, 1) := by decide +kernel
theorem dX10_build_47 : decode cX10_build 47 = .ok (.iadd, 1) := by decide +kernel
theorem dX10_build_48 : decode cX10_build 48 = .ok (.aload_n 0, 1) := by decide +kernel
theorem dX10_build_49 : decode cX10_build 49 = .ok (.getfield 15, 3) := by decide +kernel
theorem dX10_build_52 : decode cX10_build 52 = .ok (.iload 4, 2) := by decide +kernel
theorem dX10_build_54 : decode cX10_build 54 = .ok (.iaload, 1) := by decide +kernel
theorem dX10_build_55 : decode cX10_build 55 = .ok (.iload_n 3, 1) := by decide +kernel
theorem dX10_build_56 : decode cX10_build 56 = .ok (.iadd, 1) := by decide +kernel
theorem dX10_build_57 : decode cX10_build 57 = .ok (.iastore, 1) := by decide +kernel
theorem dX10_build_58 : decode cX10_build 58 = .ok (.iload_n 3, 1) := by decide +kernel
theorem dX10_build_59 : decode cX10_build 59 = .ok (.aload_n 0, 1) := by decide +kernel
theorem dX10_build_60 : decode cX10_build 60 = .ok (.getfield 21, 3) := by decide +kernel
theorem dX10_build_63 : decode cX10_build 63 = .ok (.getfield 43, 3) := by decide +kernel
theorem dX10_build_66 : decode cX10_build 66 = .ok (.getfield 47, 3) := by decide +kernel
theorem dX10_build_69 : decode cX10_build 69 = .ok (.imul, 1) := by decide +kernel
theorem dX10_build_70 : decode cX10_build 70 = .ok (.istore_n 3, 1) := by decide +kernel
theorem dX10_build_71 : decode cX10_build 71 = .ok (.iinc 4 1, 3) := by decide +kernel
theorem dX10_build_74 : decode cX10_build 74 = .ok (.goto (-40), 3) := by decide +kernel
theorem dX10_build_77 : decode cX10_build 77 = .ok (.iload_n 2, 1) := by decide +kernel
theorem dX10_build_78 : decode cX10_build 78 = .ok (.ifCond .le 7, 3) := by decide +kernel
theorem dX10_build_81 : decode cX10_build 81 = .ok (.aload_n 0, 1) := by decide +kernel
theorem dX10_build_82 : decode cX10_build 82 = .ok (.invokevirtual 52, 3) := by decide +kernel
theorem dX10_build_85 : decode cX10_build 85 = .ok (.iload_n 2, 1) := by decide +kernel
theorem dX10_build_86 : decode cX10_build 86 = .ok (.iconst 2, 1) := by decide +kernel
theorem dX10_build_87 : decode cX10_build 87 = .ok (.isub, 1) := by decide +kernel
theorem dX10_build_88 : decode cX10_build 88 = .ok (.istore 4, 2) := by decide +kernel
theorem dX10_build_90 : decode cX10_build 90 = .ok (.iload 4, 2) := by decide +kernel
theorem dX10_build_92 : decode cX10_build 92 = .ok (.ifCond .lt 15, 3) := by decide +kernel
theorem dX10_build_95 : decode cX10_build 95 = .ok (.aload_n 0, 1) := by decide +kernel
theorem dX10_build_96 : decode cX10_build 96 = .ok (.iload 4, 2) := by decide +kernel
theorem dX10_build_98 : decode cX10_build 98 = .ok (.invokevirtual 55, 3) := by decide +kernel
theorem dX10_build_101 : decode cX10_build 101 = .ok (.iinc 4 (-1), 3) := by decide +kernel
theorem dX10_build_104 : decode cX10_build 104 = .ok (.goto (-14), 3) := by decide +kernel
theorem dX10_build_107 : decode cX10_build 107 = .ok (.aload_n 0, 1) := by decide +kernel
theorem dX10_build_108 : decode cX10_build 108 = .ok (.iconst 1, 1) := by decide +kernel
theorem dX10_build_109 : decode cX10_build 109 = .ok (.putfield 59, 3) := by decide +kernel
theorem dX10_build_112 : decode cX10_build 112 = .ok (.return_, 1) := by decide +kernel
theorem dX10_fillLast_0 : decode cX10_fillLast 0 = .ok (.aload_n 0, 1) := by decide +kernel
theorem dX10_fillLast_1 : decode cX10_fillLast 1 = .ok (.getfield 21, 3) := by decide +kernel
theorem dX10_fillLast_4 : decode cX10_fillLast 4 = .ok (.getfield 31, 3) := by decide +kernel
theorem dX10_fillLast_7 : decode cX10_fillLast 7 = .ok (.getfield 37, 3) := by decide +kernel
theorem dX10_fillLast_10 : decode cX10_fillLast 10 = .ok (.iconst 1, 1) := by decide +kernel
theorem dX10_fillLast_11 : decode cX10_fillLast 11 = .ok (.isub, 1) := by decide +kernel
theorem dX10_fillLast_12 : decode cX10_fillLast 12 = .ok (.istore_n 1, 1) := by decide +kernel
theorem dX10_fillLast_13 : decode cX10_fillLast 13 = .ok (.aload_n 0, 1) := by decide +kernel
theorem dX10_fillLast_14 : decode cX10_fillLast 14 = .ok (.getfield 21, 3) := by decide +kernel
theorem dX10_fillLast_17 : decode cX10_fillLast 17 = .ok (.getfield 43, 3) := by decide +kernel
theorem dX10_fillLast_20 : decode cX10_fillLast 20 = .ok (.getfield 47, 3) := by decide +kernel
theorem dX10_fillLast_23 : decode cX10_fillLast 23 = .ok (.istore_n 2, 1) := by decide +kernel
theorem dX10_fillLast_24 : decode cX10_fillLast 24 = .ok (.aload_n 0, 1) := by decide +kernel
theorem dX10_fillLast_25 : decode cX10_fillLast 25 = .ok (.getfield 21, 3) := by decide +kernel
theorem dX10_fillLast_28 : decode cX10_fillLast 28 = .ok (.getfield 63, 3) := by decide +kernel
theorem dX10_fillLast_31 : decode cX10_fillLast 31 = .ok (.aload_n 0, 1) := by decide +kernel
theorem dX10_fillLast_32 : decode cX10_fillLast 32 = .ok (.getfield 18, 3) := by decide +kernel
theorem dX10_fillLast_35 : decode cX10_fillLast 35 = .ok (.iload_n 1, 1) := by decide +kernel
theorem dX10_fillLast_36 : decode cX10_fillLast 36 = .ok (.iaload, 1) := by decide +kernel
theorem dX10_fillLast_37 : decode cX10_fillLast 37 = .ok (.iaload, 1) := by decide +kernel
theorem dX10_fillLast_38 : decode cX10_fillLast 38 = .ok (.istore_n 3, 1) := by decide +kernel
theorem dX10_fillLast_39 : decode cX10_fillLast 39 = .ok (.aload_n 0, 1) := by decide +kernel
theorem dX10_fillLast_40 : decode cX10_fillLast 40 = .ok (.getfield 15, 3) := by decide +kernel
theorem dX10_fillLast_43 : decode cX10_fillLast 43 = .ok (.iload_n 1, 1) := by decide +kernel
theorem dX10_fillLast_44 : decode cX10_fillLast 44 = .ok (.iaload, 1) := by decide +kernel
theorem dX10_fillLast_45 : decode cX10_fillLast 45 = .ok (.istore 4, 2) := by decide +kernel
theorem dX10_fillLast_47 : decode cX10_fillLast 47 = .ok (.iload 4, 2) := by decide +kernel
theorem dX10_fillLast_49 : decode cX10_fillLast 49 = .ok (.aload_n 0, 1) := by decide +kernel
theorem dX10_fillLast_50 : decode cX10_fillLast 50 = .ok (.getfield 15, 3) := by decide +kernel
theorem dX10_fillLast_53 : decode cX10_fillLast 53 = .ok (.iload_n 1, 1) := by decide +kernel
theorem dX10_fillLast_54 : decode cX10_fillLast 54 = .ok (.iconst 1, 1) := by decide +kernel
theorem dX10_fillLast_55 : decode cX10_fillLast 55 = .ok (.iadd, 1) := by decide +kernel
theorem dX10_fillLast_56 : decode cX10_fillLast 56 = .ok (.iaload, 1) := by decide +kernel
theorem dX10_fillLast_57 : decode cX10_fillLast 57 = .ok (.if_icmp .ge 95, 3) := by decide +kernel
theorem dX10_fillLast_60 : decode cX10_fillLast 60 = .ok (.aload_n 0, 1) := by decide +kernel
theorem dX10_fillLast_61 : decode cX10_fillLast 61 = .ok (.iload 4, 2) := by decide +kernel
theorem dX10_fillLast_63 : decode cX10_fillLast 63 = .ok (.aload_n 0, 1) := by decide +kernel
theorem dX10_fillLast_64 : decode cX10_fillLast 64 = .ok (.getfield 15, 3) := by decide +kernel
theorem dX10_fillLast_67 : decode cX10_fillLast 67 = .ok (.iload_n 1, 1) := by decide +kernel
theorem dX10_fillLast_68 : decode cX10_fillLast 68 = .ok (.iaload, 1) := by decide +kernel
theorem dX10_fillLast_69 : decode cX10_fillLast 69 = .ok (.isub, 1) := by decide +kernel
theorem dX10_fillLast_70 : decode cX10_fillLast 70 = .ok (.iload_n 1, 1) := by decide +kernel
theorem dX10_fillLast_71 : decode cX10_fillLast 71 = .ok (.invokevirtual 66, 3) := by decide +kernel
theorem dX10_fillLast_74 : decode cX10_fillLast 74 = .ok (.istore 5, 2) := by decide +kernel
theorem dX10_fillLast_76 : decode cX10_fillLast 76 = .ok (.iconst 0, 1) := by decide +kernel
theorem dX10_fillLast_77 : decode cX10_fillLast 77 = .ok (.istore 6, 2) := by decide +kernel
theorem dX10_fillLast_79 : decode cX10_fillLast 79 = .ok (.iconst 0, 1) := by decide +kernel
theorem dX10_fillLast_80 : decode cX10_fillLast 80 = .ok (.istore 7, 2) := by decide +kernel
theorem dX10_fillLast_82 : decode cX10_fillLast 82 = .ok (.iload 7, 2) := by decide +kernel
theorem dX10_fillLast_84 : decode cX10_fillLast 84 = .ok (.iload_n 2, 1) := by decide +kernel
theorem dX10_fillLast_85 : decode cX10_fillLast 85 = .ok (.if_icmp .ge 52, 3) := by decide +kernel
theorem dX10_fillLast_88 : decode cX10_fillLast 88 = .ok (.aload_n 0, 1) := by decide +kernel
theorem dX10_fillLast_89 : decode cX10_fillLast 89 = .ok (.getfield 21, 3) := by decide +kernel
theorem dX10_fillLast_92 : decode cX10_fillLast 92 = .ok (.getfield 70, 3) := by decide +kernel
theorem dX10_fillLast_95 : decode cX10_fillLast 95 = .ok (.iload 5, 2) := by decide +kernel
theorem dX10_fillLast_97 : decode cX10_fillLast 97 = .ok (.iaload, 1) := by decide +kernel
theorem dX10_fillLast_98 : decode cX10_fillLast 98 = .ok (.ifCond .ne 12, 3) := by decide +kernel
theorem dX10_fillLast_101 : decode cX10_fillLast 101 = .ok (.iload 6, 2) := by decide +kernel
theorem dX10_fillLast_103 : decode cX10_fillLast 103 = .ok (.iconst 1, 1) := by decide +kernel
theorem dX10_fillLast_104 : decode cX10_fillLast 104 = .ok (.iload 7, 2) := by decide +kernel
theorem dX10_fillLast_106 : decode cX10_fillLast 106 = .ok (.ishl, 1) := by decide +kernel
theorem dX10_fillLast_107 : decode cX10_fillLast 107 = .ok (.ior, 1) := by decide +kernel
theorem dX10_fillLast_108 : decode cX10_fillLast 108 = .ok (.istore 6, 2) := by decide +kernel
theorem dX10_fillLast_110 : decode cX10_fillLast 110 = .ok (.iload 5, 2) := by decide +kernel
theorem dX10_fillLast_112 : decode cX10_fillLast 112 = .ok (.iload_n 3, 1) := by decide +kernel
theorem dX10_fillLast_113 : decode cX10_fillLast 113 = .ok (.iadd, 1) := by decide +kernel
theorem dX10_fillLast_114 : decode cX10_fillLast 114 = .ok (.istore 5, 2) := by decide +kernel
theorem dX10_fillLast_116 : decode cX10_fillLast 116 = .ok (.iload 5, 2) := by decide +kernel
theorem dX10_fillLast_118 : decode cX10_fillLast 118 = .ok (.aload_n 0, 1) := by decide +kernel
theorem dX10_fillLast_119 : decode cX10_fillLast 119 = .ok (.getfield 21, 3) := by decide +kernel
theorem dX10_fillLast_122 : decode cX10_fillLast 122 = .ok (.getfield 73, 3) := by decide +kernel
theorem dX10_fillLast_125 : decode cX10_fillLast 125 = .ok (.if_icmp .lt 6, 3) := by decide +kernel
theorem dX10_fillLast_128 : decode cX10_fillLast 128 = .ok (.goto 9, 3) := by decide +kernel
theorem dX10_fillLast_131 : decode cX10_fillLast 131 = .ok (.iinc 7 1, 3) := by decide +kernel
theorem dX10_fillLast_134 : decode cX10_fillLast 134 = .ok (.goto (-52), 3) := by decide +kernel
theorem dX10_fillLast_137 : decode cX10_fillLast 137 = .ok (.aload_n 0, 1) := by decide +kernel
theorem dX10_fillLast_138 : decode cX10_fillLast 138 = .ok (.getfield 11, 3) := by decide +kernel
theorem dX10_fillLast_141 : decode cX10_fillLast 141 = .ok (.iload 4, 2) := by decide +kernel
theorem dX10_fillLast_143 : decode cX10_fillLast 143 = .ok (.iload 6, 2) := by decide +kernel
theorem dX10_fillLast_145 : decode cX10_fillLast 145 = .ok (.iastore, 1) := by decide +kernel
theorem dX10_fillLast_146 : decode cX10_fillLast 146 = .ok (.iinc 4 1, 3) := by decide +kernel
theorem dX10_fillLast_149 : decode cX10_fillLast 149 = .ok (.goto (-102), 3) := by decide +kernel
theorem dX10_fillLast_152 : decode cX10_fillLast 152 = .ok (.return_, 1) := by decide +kernel
theorem dX10_codeOf_0 : decode cX10_codeOf 0 = .ok (.aload_n 0, 1) := by decide +kernel
theorem dX10_codeOf_1 : decode cX10_codeOf 1 = .ok (.getfield 21, 3) := by decide +kernel
theorem dX10_codeOf_4 : decode cX10_codeOf 4 = .ok (.getfield 43, 3) := by decide +kernel
theorem dX10_codeOf_7 : decode cX10_codeOf 7 = .ok (.getfield 47, 3) := by decide +kernel
theorem dX10_codeOf_10 : decode cX10_codeOf 10 = .ok (.istore_n 3, 1) := by decide +kernel
theorem dX10_codeOf_11 : decode cX10_codeOf 11 = .ok (.iconst 0, 1) := by decide +kernel
theorem dX10_codeOf_12 : decode cX10_codeOf 12 = .ok (.istore 4, 2) := by decide +kernel
theorem dX10_codeOf_14 : decode cX10_codeOf 14 = .ok (.iload_n 1, 1) := by decide +kernel
theorem dX10_codeOf_15 : decode cX10_codeOf 15 = .ok (.istore 5, 2) := by decide +kernel
theorem dX10_codeOf_17 : decode cX10_codeOf 17 = .ok (.iload_n 2, 1) := by decide +kernel
theorem dX10_codeOf_18 : decode cX10_codeOf 18 = .ok (.iconst 1, 1) := by decide +kernel
theorem dX10_codeOf_19 : decode cX10_codeOf 19 = .ok (.isub, 1) := by decide +kernel
theorem dX10_codeOf_20 : decode cX10_codeOf 20 = .ok (.istore 6, 2) := by decide +kernel
theorem dX10_codeOf_22 : decode cX10_codeOf 22 = .ok (.iload 6, 2) := by decide +kernel
theorem dX10_codeOf_24 : decode cX10_codeOf 24 = .ok (.ifCond .lt 44, 3) := by decide +kernel
theorem dX10_codeOf_27 : decode cX10_codeOf 27 = .ok (.iload_n 3, 1) := by decide +kernel
theorem dX10_codeOf_28 : decode cX10_codeOf 28 = .ok (.ifCond .le 40, 3) := by decide +kernel
theorem dX10_codeOf_31 : decode cX10_codeOf 31 = .ok (.iload 4, 2) := by decide +kernel
theorem dX10_codeOf_33 : decode cX10_codeOf 33 = .ok (.iload 5, 2) := by decide +kernel
theorem dX10_codeOf_35 : decode cX10_codeOf 35 = .ok (.iload_n 3, 1) := by decide +kernel
theorem dX10_codeOf_36 : decode cX10_codeOf 36 = .ok (.irem, 1) := by decide +kernel
theorem dX10_codeOf_37 : decode cX10_codeOf 37 = .ok (.aload_n 0, 1) := by decide +kernel
theorem dX10_codeOf_38 : decode cX10_codeOf 38 = .ok (.getfield 21, 3) := by decide +kernel
theorem dX10_codeOf_41 : decode cX10_codeOf 41 = .ok (.getfield 63, 3) := by decide +kernel
theorem dX10_codeOf_44 : decode cX10_codeOf 44 = .ok (.aload_n 0, 1) := by decide +kernel
theorem dX10_codeOf_45 : decode cX10_codeOf 45 = .ok (.getfield 18, 3) := by decide +kernel
theorem dX10_codeOf_48 : decode cX10_codeOf 48 = .ok (.iload 6, 2) := by decide +kernel
theorem dX10_codeOf_50 : decode cX10_codeOf 50 = .ok (.iaload, 1) := by decide +kernel
theorem dX10_codeOf_51 : decode cX10_codeOf 51 = .ok (.iaload, 1) := by decide +kernel
theorem dX10_codeOf_52 : decode cX10_codeOf 52 = .ok (.imul, 1) := by decide +kernel
theorem dX10_codeOf_53 : decode cX10_codeOf 53 = .ok (.iadd, 1) := by decide +kernel
theorem dX10_codeOf_54 : decode cX10_codeOf 54 = .ok (.istore 4, 2) := by decide +kernel
theorem dX10_codeOf_56 : decode cX10_codeOf 56 = .ok (.iload 5, 2) := by decide +kernel
theorem dX10_codeOf_58 : decode cX10_codeOf 58 = .ok (.iload_n 3, 1) := by decide +kernel
theorem dX10_codeOf_59 : decode cX10_codeOf 59 = .ok (.idiv, 1) := by decide +kernel
theorem dX10_codeOf_60 : decode cX10_codeOf 60 = .ok (.istore 5, 2) := by decide +kernel
theorem dX10_codeOf_62 : decode cX10_codeOf 62 = .ok (.iinc 6 (-1), 3) := by decide +kernel
theorem dX10_codeOf_65 : decode cX10_codeOf 65 = .ok (.goto (-43), 3) := by decide +kernel
theorem dX10_codeOf_68 : decode cX10_codeOf 68 = .ok (.iload 4, 2) := by decide +kernel
theorem dX10_codeOf_70 : decode cX10_codeOf 70 = .ok (.ireturn, 1) := by decide +kernel
theorem dX10_fillFromNext_0 : decode cX10_fillFromNext 0 = .ok (.aload_n 0, 1) := by decide +kernel
theorem dX10_fillFromNext_1 : decode cX10_fillFromNext 1 = .ok (.getfield 21, 3) := by decide +kernel
theorem dX10_fillFromNext_4 : decode cX10_fillFromNext 4 = .ok (.getfield 43, 3) := by decide +kernel
theorem dX10_fillFromNext_7 : decode cX10_fillFromNext 7 = .ok (.getfield 47, 3) := by decide +kernel
theorem dX10_fillFromNext_10 : decode cX10_fillFromNext 10 = .ok (.istore_n 2, 1) := by decide +kernel
theorem dX10_fillFromNext_11 : decode cX10_fillFromNext 11 = .ok (.aload_n 0, 1) := by decide +kernel
theorem dX10_fillFromNext_12 : decode cX10_fillFromNext 12 = .ok (.getfield 15, 3) := by decide +kernel
theorem dX10_fillFromNext_15 : decode cX10_fillFromNext 15 = .ok (.iload_n 1, 1) := by decide +kernel
theorem dX10_fillFromNext_16 : decode cX10_fillFromNext 16 = .ok (.iconst 1, 1) := by decide +kernel
theorem dX10_fillFromNext_17 : decode cX10_fillFromNext 17 = .ok (.iadd, 1) := by decide +kernel
theorem dX10_fillFromNext_18 : decode cX10_fillFromNext 18 = .ok (.iaload, 1) := by decide +kernel
theorem dX10_fillFromNext_19 : decode cX10_fillFromNext 19 = .ok (.istore_n 3, 1) := by decide +kernel
theorem dX10_fillFromNext_20 : decode cX10_fillFromNext 20 = .ok (.aload_n 0, 1) := by decide +kernel
theorem dX10_fillFromNext_21 : decode cX10_fillFromNext 21 = .ok (.getfield 15, 3) := by decide +kernel
theorem dX10_fillFromNext_24 : decode cX10_fillFromNext 24 = .ok (.iload_n 1, 1) := by decide +kernel
theorem dX10_fillFromNext_25 : decode cX10_fillFromNext 25 = .ok (.iaload, 1) := by decide +kernel
theorem dX10_fillFromNext_26 : decode cX10_fillFromNext 26 = .ok (.istore 4, 2) := by decide +kernel
theorem dX10_fillFromNext_28 : decode cX10_fillFromNext 28 = .ok (.iload 4, 2) := by decide +kernel
theorem dX10_fillFromNext_30 : decode cX10_fillFromNext 30 = .ok (.aload_n 0, 1) := by decide +kernel
theorem dX10_fillFromNext_31 : decode cX10_fillFromNext 31 = .ok (.getfield 15, 3) := by decide +kernel
theorem dX10_fillFromNext_34 : decode cX10_fillFromNext 34 = .ok (.iload_n 1, 1) := by decide +kernel
theorem dX10_fillFromNext_35 : decode cX10_fillFromNext 35 = .ok (.iconst 1, 1) := by decide +kernel
theorem dX10_fillFromNext_36 : decode cX10_fillFromNext 36 = .ok (.iadd, 1) := by decide +kernel
theorem dX10_fillFromNext_37 : decode cX10_fillFromNext 37 = .ok (.iaload, 1) := by decide +kernel
theorem dX10_fillFromNext_38 : decode cX10_fillFromNext 38 = .ok (.if_icmp .ge 57, 3) := by decide +kernel
theorem dX10_fillFromNext_41 : decode cX10_fillFromNext 41 = .ok (.iconst 0, 1) := by decide +kernel
theorem dX10_fillFromNext_42 : decode cX10_fillFromNext 42 = .ok (.istore 5, 2) := by decide +kernel
theorem dX10_fillFromNext_44 : decode cX10_fillFromNext 44 = .ok (.iconst 0, 1) := by decide +kernel
theorem dX10_fillFromNext_45 : decode cX10_fillFromNext 45 = .ok (.istore 6, 2) := by decide +kernel
theorem dX10_fillFromNext_47 : decode cX10_fillFromNext 47 = .ok (.iload 6, 2) := by decide +kernel
theorem dX10_fillFromNext_49 : decode cX10_fillFromNext 49 = .ok (.iload_n 2, 1) := by decide +kernel
theorem dX10_fillFromNext_50 : decode cX10_fillFromNext 50 = .ok (.if_icmp .ge 30, 3) := by decide +kernel
theorem dX10_fillFromNext_53 : decode cX10_fillFromNext 53 = .ok (.aload_n 0, 1) := by decide +kernel
theorem dX10_fillFromNext_54 : decode cX10_fillFromNext 54 = .ok (.getfield 11, 3) := by decide +kernel
theorem dX10_fillFromNext_57 : decode cX10_fillFromNext 57 = .ok (.iload_n 3, 1) := by decide +kernel
theorem dX10_fillFromNext_58 : decode cX10_fillFromNext 58 = .ok (.iaload, 1) := by decide +kernel
theorem dX10_fillFromNext_59 : decode cX10_fillFromNext 59 = .ok (.ifCond .eq 12, 3) := by decide +kernel
theorem dX10_fillFromNext_62 : decode cX10_fillFromNext 62 = .ok (.iload 5, 2) := by decide +kernel
theorem dX10_fillFromNext_64 : decode cX10_fillFromNext 64 = .ok (.iconst 1, 1) := by decide +kernel
theorem dX10_fillFromNext_65 : decode cX10_fillFromNext 65 = .ok (.iload 6, 2) := by decide +kernel
theorem dX10_fillFromNext_67 : decode cX10_fillFromNext 67 = .ok (.ishl, 1) := by decide +kernel
theorem dX10_fillFromNext_68 : decode cX10_fillFromNext 68 = .ok (.ior, 1) := by decide +kernel
theorem dX10_fillFromNext_69 : decode cX10_fillFromNext 69 = .ok (.istore 5, 2) := by decide +kernel
theorem dX10_fillFromNext_71 : decode cX10_fillFromNext 71 = .ok (.iinc 3 1, 3) := by decide +kernel
theorem dX10_fillFromNext_74 : decode cX10_fillFromNext 74 = .ok (.iinc 6 1, 3) := by decide +kernel
theorem dX10_fillFromNext_77 : decode cX10_fillFromNext 77 = .ok (.goto (-30), 3) := by decide +kernel
theorem dX10_fillFromNext_80 : decode cX10_fillFromNext 80 = .ok (.aload_n 0, 1) := by decide +kernel
theorem dX10_fillFromNext_81 : decode cX10_fillFromNext 81 = .ok (.getfield 11, 3) := by decide +kernel
theorem dX10_fillFromNext_84 : decode cX10_fillFromNext 84 = .ok (.iload 4, 2) := by decide +kernel
theorem dX10_fillFromNext_86 : decode cX10_fillFromNext 86 = .ok (.iload 5, 2) := by decide +kernel
theorem dX10_fillFromNext_88 : decode cX10_fillFromNext 88 = .ok (.iastore, 1) := by decide +kernel
theorem dX10_fillFromNext_89 : decode cX10_fillFromNext 89 = .ok (.iinc 4 1, 3) := by decide +kernel
theorem dX10_fillFromNext_92 : decode cX10_fillFromNext 92 = .ok (.goto (-64), 3) := by decide +kernel
theorem dX10_fillFromNext_95 : decode cX10_fillFromNext 95 = .ok (.return_, 1) := by decide +kernel
theorem dX11_feed_0 : decode cX11_feed 0 = .ok (.aload_n 0, 1) := by decide +kernel
theorem dX11_feed_1 : decode cX11_feed 1 = .ok (.getfield 114, 3) := by decide +kernel
theorem dX11_feed_4 : decode cX11_feed 4 = .ok (.bipush 20, 2) := by decide +kernel
theorem dX11_feed_6 : decode cX11_feed 6 = .ok (.iadd, 1) := by decide +kernel
theorem dX11_feed_7 : decode cX11_feed 7 = .ok (.sipush 400, 3) := by decide +kernel
theorem dX11_feed_10 : decode cX11_feed 10 = .ok (.if_icmp .le 5, 3) := by decide +kernel
theorem dX11_feed_13 : decode cX11_feed 13 = .ok (.iconst (-1), 1) := by decide +kernel
theorem dX11_feed_14 : decode cX11_feed 14 = .ok (.ireturn, 1) := by decide +kernel
theorem dX11_feed_15 : decode cX11_feed 15 = .ok (.aload_n 0, 1) := by decide +kernel
theorem dX11_feed_16 : decode cX11_feed 16 = .ok (.iload_n 1, 1) := by decide +kernel
theorem dX11_feed_17 : decode cX11_feed 17 = .ok (.invokevirtual 117, 3) := by decide +kernel
theorem dX11_feed_20 : decode cX11_feed 20 = .ok (.aload_n 0, 1) := by decide +kernel
theorem dX11_feed_21 : decode cX11_feed 21 = .ok (.iload_n 2, 1) := by decide +kernel
theorem dX11_feed_22 : decode cX11_feed 22 = .ok (.invokevirtual 117, 3) := by decide +kernel
theorem dX11_feed_25 : decode cX11_feed 25 = .ok (.aload_n 0, 1) := by decide +kernel
theorem dX11_feed_26 : decode cX11_feed 26 = .ok (.iload_n 3, 1) := by decide +kernel
theorem dX11_feed_27 : decode cX11_feed 27 = .ok (.invokevirtual 117, 3) := by decide +kernel
theorem dX11_feed_30 : decode cX11_feed 30 = .ok (.aload_n 0, 1) := by decide +kernel
theorem dX11_feed_31 : decode cX11_feed 31 = .ok (.iload 4, 2) := by decide +kernel
theorem dX11_feed_33 : decode cX11_feed 33 = .ok (.invokevirtual 117, 3) := by decide +kernel
theorem dX11_feed_36 : decode cX11_feed 36 = .ok (.aload_n 0, 1) := by decide +kernel
theorem dX11_feed_37 : decode cX11_feed 37 = .ok (.iload 5, 2) := by decide +kernel
theorem dX11_feed_39 : decode cX11_feed 39 = .ok (.invokevirtual 117, 3) := by decide +kernel
theorem dX11_feed_42 : decode cX11_feed 42 = .ok (.aload_n 0, 1) := by decide +kernel
theorem dX11_feed_43 : decode cX11_feed 43 = .ok (.getfield 114, 3) := by decide +kernel
theorem dX11_feed_46 : decode cX11_feed 46 = .ok (.ireturn, 1) := by decide +kernel
theorem dX11_tapeFour_0 : decode cX11_tapeFour 0 = .ok (.bipush 24, 2) := by decide +kernel
theorem dX11_tapeFour_2 : decode cX11_tapeFour 2 = .ok (.istore_n 2, 1) := by decide +kernel
theorem dX11_tapeFour_3 : decode cX11_tapeFour 3 = .ok (.iload_n 2, 1) := by decide +kernel
theorem dX11_tapeFour_4 : decode cX11_tapeFour 4 = .ok (.ifCond .lt 45, 3) := by decide +kernel
theorem dX11_tapeFour_7 : decode cX11_tapeFour 7 = .ok (.aload_n 0, 1) := by decide +kernel
theorem dX11_tapeFour_8 : decode cX11_tapeFour 8 = .ok (.getfield 114, 3) := by decide +kernel
theorem dX11_tapeFour_11 : decode cX11_tapeFour 11 = .ok (.sipush 400, 3) := by decide +kernel
theorem dX11_tapeFour_14 : decode cX11_tapeFour 14 = .ok (.if_icmp .ge 35, 3) := by decide +kernel
theorem dX11_tapeFour_17 : decode cX11_tapeFour 17 = .ok (.aload_n 0, 1) := by decide +kernel
theorem dX11_tapeFour_18 : decode cX11_tapeFour 18 = .ok (.getfield 9, 3) := by decide +kernel
theorem dX11_tapeFour_21 : decode cX11_tapeFour 21 = .ok (.aload_n 0, 1) := by decide +kernel
theorem dX11_tapeFour_22 : decode cX11_tapeFour 22 = .ok (.getfield 114, 3) := by decide +kernel
theorem dX11_tapeFour_25 : decode cX11_tapeFour 25 = .ok (.iload_n 1, 1) := by decide +kernel
theorem dX11_tapeFour_26 : decode cX11_tapeFour 26 = .ok (.iload_n 2, 1) := by decide +kernel
theorem dX11_tapeFour_27 : decode cX11_tapeFour 27 = .ok (.iushr, 1) := by decide +kernel
theorem dX11_tapeFour_28 : decode cX11_tapeFour 28 = .ok (.sipush 255, 3) := by decide +kernel
theorem dX11_tapeFour_31 : decode cX11_tapeFour 31 = .ok (.iand, 1) := by decide +kernel
theorem dX11_tapeFour_32 : decode cX11_tapeFour 32 = .ok (.iastore, 1) := by decide +kernel
theorem dX11_tapeFour_33 : decode cX11_tapeFour 33 = .ok (.aload_n 0, 1) := by decide +kernel
theorem dX11_tapeFour_34 : decode cX11_tapeFour 34 = .ok (.dup, 1) := by decide +kernel
theorem dX11_tapeFour_35 : decode cX11_tapeFour 35 = .ok (.getfield 114, 3) := by decide +kernel
theorem dX11_tapeFour_38 : decode cX11_tapeFour 38 = .ok (.iconst 1, 1) := by decide +kernel
theorem dX11_tapeFour_39 : decode cX11_tapeFour 39 = .ok (.iadd, 1) := by decide +kernel
theorem dX11_tapeFour_40 : decode cX11_tapeFour 40 = .ok (.putfield 114, 3) := by decide +kernel
theorem dX11_tapeFour_43 : decode cX11_tapeFour 43 = .ok (.iinc 2 (-8), 3) := by decide +kernel
theorem dX11_tapeFour_46 : decode cX11_tapeFour 46 = .ok (.goto (-43), 3) := by decide +kernel
theorem dX11_tapeFour_49 : decode cX11_tapeFour 49 = .ok (.return_, 1) := by decide +kernel
theorem dX11_text_0 : decode cX11_text 0 = .ok (.iload_n 1, 1) := by decide +kernel
theorem dX11_text_1 : decode cX11_text 1 = .ok (.ifCond .lt 11, 3) := by decide +kernel
theorem dX11_text_4 : decode cX11_text 4 = .ok (.iload_n 1, 1) := by decide +kernel
theorem dX11_text_5 : decode cX11_text 5 = .ok (.aload_n 0, 1) := by decide +kernel
theorem dX11_text_6 : decode cX11_text 6 = .ok (.getfield 114, 3) := by decide +kernel
theorem dX11_text_9 : decode cX11_text 9 = .ok (.if_icmp .le 6, 3) := by decide +kernel
theorem dX11_text_12 : decode cX11_text 12 = .ok (.bipush (-2), 2) := by decide +kernel
theorem dX11_text_14 : decode cX11_text 14 = .ok (.ireturn, 1) := by decide +kernel
theorem dX11_text_15 : decode cX11_text 15 = .ok (.aload_n 0, 1) := by decide +kernel
theorem dX11_text_16 : decode cX11_text 16 = .ok (.getfield 25, 3) := by decide +kernel
theorem dX11_text_19 : decode cX11_text 19 = .ok (.iload_n 1, 1) := by decide +kernel
theorem dX11_text_20 : decode cX11_text 20 = .ok (.invokevirtual 121, 3) := by decide +kernel
theorem dX11_text_23 : decode cX11_text 23 = .ok (.istore_n 2, 1) := by decide +kernel
theorem dX11_text_24 : decode cX11_text 24 = .ok (.aload_n 0, 1) := by decide +kernel
theorem dX11_text_25 : decode cX11_text 25 = .ok (.iconst 0, 1) := by decide +kernel
theorem dX11_text_26 : decode cX11_text 26 = .ok (.putfield 114, 3) := by decide +kernel
theorem dX11_text_29 : decode cX11_text 29 = .ok (.aload_n 0, 1) := by decide +kernel
theorem dX11_text_30 : decode cX11_text 30 = .ok (.getfield 25, 3) := by decide +kernel
theorem dX11_text_33 : decode cX11_text 33 = .ok (.getfield 125, 3) := by decide +kernel
theorem dX11_text_36 : decode cX11_text 36 = .ok (.ifCond .eq 5, 3) := by decide +kernel
theorem dX11_text_39 : decode cX11_text 39 = .ok (.iconst (-1), 1) := by decide +kernel
theorem dX11_text_40 : decode cX11_text 40 = .ok (.ireturn, 1) := by decide +kernel
theorem dX11_text_41 : decode cX11_text 41 = .ok (.aload_n 0, 1) := by decide +kernel
theorem dX11_text_42 : decode cX11_text 42 = .ok (.getfield 16, 3) := by decide +kernel
theorem dX11_text_45 : decode cX11_text 45 = .ok (.aload_n 0, 1) := by decide +kernel
theorem dX11_text_46 : decode cX11_text 46 = .ok (.getfield 25, 3) := by decide +kernel
theorem dX11_text_49 : decode cX11_text 49 = .ok (.getfield 128, 3) := by decide +kernel
theorem dX11_text_52 : decode cX11_text 52 = .ok (.invokevirtual 129, 3) := by decide +kernel
theorem dX11_text_55 : decode cX11_text 55 = .ok (.aload_n 0, 1) := by decide +kernel
theorem dX11_text_56 : decode cX11_text 56 = .ok (.invokevirtual 111, 3) := by decide +kernel
theorem dX11_text_59 : decode cX11_text 59 = .ok (.iload_n 2, 1) := by decide +kernel
theorem dX11_text_60 : decode cX11_text 60 = .ok (.ireturn, 1) := by decide +kernel
theorem dX11_beginAnew_0 : decode cX11_beginAnew 0 = .ok (.aload_n 0, 1) := by decide +kernel
theorem dX11_beginAnew_1 : decode cX11_beginAnew 1 = .ok (.getfield 32, 3) := by decide +kernel
theorem dX11_beginAnew_4 : decode cX11_beginAnew 4 = .ok (.aload_n 0, 1) := by decide +kernel
theorem dX11_beginAnew_5 : decode cX11_beginAnew 5 = .ok (.getfield 16, 3) := by decide +kernel
theorem dX11_beginAnew_8 : decode cX11_beginAnew 8 = .ok (.getfield 133, 3) := by decide +kernel
theorem dX11_beginAnew_11 : decode cX11_beginAnew 11 = .ok (.invokevirtual 136, 3) := by decide +kernel
theorem dX11_beginAnew_14 : decode cX11_beginAnew 14 = .ok (.aload_n 0, 1) := by decide +kernel
theorem dX11_beginAnew_15 : decode cX11_beginAnew 15 = .ok (.getfield 41, 3) := by decide +kernel
theorem dX11_beginAnew_18 : decode cX11_beginAnew 18 = .ok (.invokevirtual 139, 3) := by decide +kernel
theorem dX11_beginAnew_21 : decode cX11_beginAnew 21 = .ok (.aload_n 0, 1) := by decide +kernel
theorem dX11_beginAnew_22 : decode cX11_beginAnew 22 = .ok (.getfield 48, 3) := by decide +kernel
theorem dX11_beginAnew_25 : decode cX11_beginAnew 25 = .ok (.invokevirtual 142, 3) := by decide +kernel
theorem dX11_beginAnew_28 : decode cX11_beginAnew 28 = .ok (.aload_n 0, 1) := by decide +kernel
theorem dX11_beginAnew_29 : decode cX11_beginAnew 29 = .ok (.getfield 57, 3) := by decide +kernel
theorem dX11_beginAnew_32 : decode cX11_beginAnew 32 = .ok (.iconst 0, 1) := by decide +kernel
theorem dX11_beginAnew_33 : decode cX11_beginAnew 33 = .ok (.putfield 145, 3) := by decide +kernel
theorem dX11_beginAnew_36 : decode cX11_beginAnew 36 = .ok (.aload_n 0, 1) := by decide +kernel
theorem dX11_beginAnew_37 : decode cX11_beginAnew 37 = .ok (.getfield 61, 3) := by decide +kernel
theorem dX11_beginAnew_40 : decode cX11_beginAnew 40 = .ok (.iconst 0, 1) := by decide +kernel
theorem dX11_beginAnew_41 : decode cX11_beginAnew 41 = .ok (.putfield 145, 3) := by decide +kernel
theorem dX11_beginAnew_44 : decode cX11_beginAnew 44 = .ok (.aload_n 0, 1) := by decide +kernel
theorem dX11_beginAnew_45 : decode cX11_beginAnew 45 = .ok (.getfield 78, 3) := by decide +kernel
theorem dX11_beginAnew_48 : decode cX11_beginAnew 48 = .ok (.iconst 1, 1) := by decide +kernel
theorem dX11_beginAnew_49 : decode cX11_beginAnew 49 = .ok (.aaload, 1) := by decide +kernel
theorem dX11_beginAnew_50 : decode cX11_beginAnew 50 = .ok (.iconst 0, 1) := by decide +kernel
theorem dX11_beginAnew_51 : decode cX11_beginAnew 51 = .ok (.putfield 149, 3) := by decide +kernel
theorem dX11_beginAnew_54 : decode cX11_beginAnew 54 = .ok (.aload_n 0, 1) := by decide +kernel
theorem dX11_beginAnew_55 : decode cX11_beginAnew 55 = .ok (.getfield 93, 3) := by decide +kernel
theorem dX11_beginAnew_58 : decode cX11_beginAnew 58 = .ok (.iconst 0, 1) := by decide +kernel
theorem dX11_beginAnew_59 : decode cX11_beginAnew 59 = .ok (.putfield 150, 3) := by decide +kernel
theorem dX11_beginAnew_62 : decode cX11_beginAnew 62 = .ok (.aload_n 0, 1) := by decide +kernel
theorem dX11_beginAnew_63 : decode cX11_beginAnew 63 = .ok (.getfield 100, 3) := by decide +kernel
theorem dX11_beginAnew_66 : decode cX11_beginAnew 66 = .ok (.invokevirtual 151, 3) := by decide +kernel
theorem dX11_beginAnew_69 : decode cX11_beginAnew 69 = .ok (.aload_n 0, 1) := by decide +kernel
theorem dX11_beginAnew_70 : decode cX11_beginAnew 70 = .ok (.bipush (-3), 2) := by decide +kernel
theorem dX11_beginAnew_72 : decode cX11_beginAnew 72 = .ok (.putfield 104, 3) := by decide +kernel
theorem dX11_beginAnew_75 : decode cX11_beginAnew 75 = .ok (.aload_n 0, 1) := by decide +kernel
theorem dX11_beginAnew_76 : decode cX11_beginAnew 76 = .ok (.bipush (-3), 2) := by decide +kernel
theorem dX11_beginAnew_78 : decode cX11_beginAnew 78 = .ok (.putfield 108, 3) := by decide +kernel
theorem dX11_beginAnew_81 : decode cX11_beginAnew 81 = .ok (.aload_n 0, 1) := by decide +kernel
theorem dX11_beginAnew_82 : decode cX11_beginAnew 82 = .ok (.invokevirtual 154, 3) := by decide +kernel
theorem dX11_beginAnew_85 : decode cX11_beginAnew 85 = .ok (.return_, 1) := by decide +kernel
theorem dX11_startChanged_0 : decode cX11_startChanged 0 = .ok (.aload_n 0, 1) := by decide +kernel
theorem dX11_startChanged_1 : decode cX11_startChanged 1 = .ok (.getfield 78, 3) := by decide +kernel
theorem dX11_startChanged_4 : decode cX11_startChanged 4 = .ok (.iconst 0, 1) := by decide +kernel
theorem dX11_startChanged_5 : decode cX11_startChanged 5 = .ok (.aaload, 1) := by decide +kernel
theorem dX11_startChanged_6 : decode cX11_startChanged 6 = .ok (.iconst 0, 1) := by decide +kernel
theorem dX11_startChanged_7 : decode cX11_startChanged 7 = .ok (.putfield 149, 3) := by decide +kernel
theorem dX11_startChanged_10 : decode cX11_startChanged 10 = .ok (.aload_n 0, 1) := by decide +kernel
theorem dX11_startChanged_11 : decode cX11_startChanged 11 = .ok (.getfield 78, 3) := by decide +kernel
theorem dX11_startChanged_14 : decode cX11_startChanged 14 = .ok (.iconst 2, 1) := by decide +kernel
theorem dX11_startChanged_15 : decode cX11_startChanged 15 = .ok (.aaload, 1) := by decide +kernel
theorem dX11_startChanged_16 : decode cX11_startChanged 16 = .ok (.iconst 0, 1) := by decide +kernel
theorem dX11_startChanged_17 : decode cX11_startChanged 17 = .ok (.putfield 149, 3) := by decide +kernel
theorem dX11_startChanged_20 : decode cX11_startChanged 20 = .ok (.aload_n 0, 1) := by decide +kernel
theorem dX11_startChanged_21 : decode cX11_startChanged 21 = .ok (.invokevirtual 157, 3) := by decide +kernel
theorem dX11_startChanged_24 : decode cX11_startChanged 24 = .ok (.return_, 1) := by decide +kernel
theorem dX11_stageChanged_0 : decode cX11_stageChanged 0 = .ok (.iconst 0, 1) := by decide +kernel
theorem dX11_stageChanged_1 : decode cX11_stageChanged 1 = .ok (.istore_n 1, 1) := by decide +kernel
theorem dX11_stageChanged_2 : decode cX11_stageChanged 2 = .ok (.iload_n 1, 1) := by decide +kernel
theorem dX11_stageChanged_3 : decode cX11_stageChanged 3 = .ok (.iconst 3, 1) := by decide +kernel
theorem dX11_stageChanged_4 : decode cX11_stageChanged 4 = .ok (.if_icmp .ge 19, 3) := by decide +kernel
theorem dX11_stageChanged_7 : decode cX11_stageChanged 7 = .ok (.aload_n 0, 1) := by decide +kernel
theorem dX11_stageChanged_8 : decode cX11_stageChanged 8 = .ok (.getfield 82, 3) := by decide +kernel
theorem dX11_stageChanged_11 : decode cX11_stageChanged 11 = .ok (.iload_n 1, 1) := by decide +kernel
theorem dX11_stageChanged_12 : decode cX11_stageChanged 12 = .ok (.aaload, 1) := by decide +kernel
theorem dX11_stageChanged_13 : decode cX11_stageChanged 13 = .ok (.iconst 0, 1) := by decide +kernel
theorem dX11_stageChanged_14 : decode cX11_stageChanged 14 = .ok (.putfield 149, 3) := by decide +kernel
theorem dX11_stageChanged_17 : decode cX11_stageChanged 17 = .ok (.iinc 1 1, 3) := by decide +kernel
theorem dX11_stageChanged_20 : decode cX11_stageChanged 20 = .ok (.goto (-18), 3) := by decide +kernel
theorem dX11_stageChanged_23 : decode cX11_stageChanged 23 = .ok (.return_, 1) := by decide +kernel
theorem dX11_fault_0 : decode cX11_fault 0 = .ok (.iload_n 1, 1) := by decide +kernel
theorem dX11_fault_1 : decode cX11_fault 1 = .ok (.ifCond .ne 11, 3) := by decide +kernel
theorem dX11_fault_4 : decode cX11_fault 4 = .ok (.aload_n 0, 1) := by decide +kernel
theorem dX11_fault_5 : decode cX11_fault 5 = .ok (.getfield 25, 3) := by decide +kernel
theorem dX11_fault_8 : decode cX11_fault 8 = .ok (.getfield 125, 3) := by decide +kernel
theorem dX11_fault_11 : decode cX11_fault 11 = .ok (.ireturn, 1) := by decide +kernel
theorem dX11_fault_12 : decode cX11_fault 12 = .ok (.iload_n 1, 1) := by decide +kernel
theorem dX11_fault_13 : decode cX11_fault 13 = .ok (.iconst 1, 1) := by decide +kernel
theorem dX11_fault_14 : decode cX11_fault 14 = .ok (.if_icmp .ne 13, 3) := by decide +kernel
theorem dX11_fault_17 : decode cX11_fault 17 = .ok (.aload_n 0, 1) := by decide +kernel
theorem dX11_fault_18 : decode cX11_fault 18 = .ok (.getfield 25, 3) := by decide +kernel
theorem dX11_fault_21 : decode cX11_fault 21 = .ok (.getfield 160, 3) := by decide +kernel
theorem dX11_fault_24 : decode cX11_fault 24 = .ok (.goto 4, 3) := by decide +kernel
theorem dX11_fault_27 : decode cX11_fault 27 = .ok (.iconst (-1), 1) := by decide +kernel
theorem dX11_fault_28 : decode cX11_fault 28 = .ok (.ireturn, 1) := by decide +kernel
theorem dX11_named_0 : decode cX11_named 0 = .ok (.iload_n 1, 1) := by decide +kernel
theorem dX11_named_1 : decode cX11_named 1 = .ok (.ifCond .ne 12, 3) := by decide +kernel
theorem dX11_named_4 : decode cX11_named 4 = .ok (.aload_n 0, 1) := by decide +kernel
theorem dX11_named_5 : decode cX11_named 5 = .ok (.getfield 16, 3) := by decide +kernel
theorem dX11_named_8 : decode cX11_named 8 = .ok (.iload_n 2, 1) := by decide +kernel
theorem dX11_named_9 : decode cX11_named 9 = .ok (.invokevirtual 163, 3) := by decide +kernel
theorem dX11_named_12 : decode cX11_named 12 = .ok (.ireturn, 1) := by decide +kernel
theorem dX11_named_13 : decode cX11_named 13 = .ok (.iload_n 1, 1) := by decide +kernel
theorem dX11_named_14 : decode cX11_named 14 = .ok (.iconst 1, 1) := by decide +kernel
theorem dX11_named_15 : decode cX11_named 15 = .ok (.if_icmp .ne 14, 3) := by decide +kernel
theorem dX11_named_18 : decode cX11_named 18 = .ok (.aload_n 0, 1) := by decide +kernel
theorem dX11_named_19 : decode cX11_named 19 = .ok (.getfield 16, 3) := by decide +kernel
theorem dX11_named_22 : decode cX11_named 22 = .ok (.iload_n 2, 1) := by decide +kernel
theorem dX11_named_23 : decode cX11_named 23 = .ok (.invokevirtual 166, 3) := by decide +kernel
theorem dX11_named_26 : decode cX11_named 26 = .ok (.goto 4, 3) := by decide +kernel
theorem dX11_named_29 : decode cX11_named 29 = .ok (.iconst (-1), 1) := by decide +kernel
theorem dX11_named_30 : decode cX11_named 30 = .ok (.ireturn, 1) := by decide +kernel
theorem dX11_lawful_0 : decode cX11_lawful 0 = .ok (.aload_n 0, 1) := by decide +kernel
theorem dX11_lawful_1 : decode cX11_lawful 1 = .ok (.getfield 41, 3) := by decide +kernel
theorem dX11_lawful_4 : decode cX11_lawful 4 = .ok (.getfield 169, 3) := by decide +kernel
theorem dX11_lawful_7 : decode cX11_lawful 7 = .ok (.ireturn, 1) := by decide +kernel
theorem dX11_without_0 : decode cX11_without 0 = .ok (.aload_n 0, 1) := by decide +kernel
theorem dX11_without_1 : decode cX11_without 1 = .ok (.iload_n 1, 1) := by decide +kernel
theorem dX11_without_2 : decode cX11_without 2 = .ok (.invokevirtual 172, 3) := by decide +kernel
theorem dX11_without_5 : decode cX11_without 5 = .ok (.ifCond .eq 17, 3) := by decide +kernel
theorem dX11_without_8 : decode cX11_without 8 = .ok (.aload_n 0, 1) := by decide +kernel
theorem dX11_without_9 : decode cX11_without 9 = .ok (.getfield 41, 3) := by decide +kernel
theorem dX11_without_12 : decode cX11_without 12 = .ok (.getfield 176, 3) := by decide +kernel
theorem dX11_without_15 : decode cX11_without 15 = .ok (.iconst 1, 1) := by decide +kernel
theorem dX11_without_16 : decode cX11_without 16 = .ok (.iload_n 1, 1) := by decide +kernel
theorem dX11_without_17 : decode cX11_without 17 = .ok (.ishl, 1) := by decide +kernel
theorem dX11_without_18 : decode cX11_without 18 = .ok (.iaload, 1) := by decide +kernel
theorem dX11_without_19 : decode cX11_without 19 = .ok (.goto 4, 3) := by decide +kernel
theorem dX11_without_22 : decode cX11_without 22 = .ok (.iconst (-1), 1) := by decide +kernel
theorem dX11_without_23 : decode cX11_without 23 = .ok (.ireturn, 1) := by decide +kernel
theorem dX11_forbids_0 : decode cX11_forbids 0 = .ok (.aload_n 0, 1) := by decide +kernel
theorem dX11_forbids_1 : decode cX11_forbids 1 = .ok (.getfield 41, 3) := by decide +kernel
theorem dX11_forbids_4 : decode cX11_forbids 4 = .ok (.getfield 169, 3) := by decide +kernel
theorem dX11_forbids_7 : decode cX11_forbids 7 = .ok (.ifCond .le 7, 3) := by decide +kernel
theorem dX11_forbids_10 : decode cX11_forbids 10 = .ok (.iconst 0, 1) := by decide +kernel
theorem dX11_forbids_11 : decode cX11_forbids 11 = .ok (.goto 20, 3) := by decide +kernel
theorem dX11_forbids_14 : decode cX11_forbids 14 = .ok (.aload_n 0, 1) := by decide +kernel
theorem dX11_forbids_15 : decode cX11_forbids 15 = .ok (.getfield 41, 3) := by decide +kernel
theorem dX11_forbids_18 : decode cX11_forbids 18 = .ok (.getfield 176, 3) := by decide +kernel
theorem dX11_forbids_21 : decode cX11_forbids 21 = .ok (.aload_n 0, 1) := by decide +kernel
theorem dX11_forbids_22 : decode cX11_forbids 22 = .ok (.getfield 16, 3) := by decide +kernel
theorem dX11_forbids_25 : decode cX11_forbids 25 = .ok (.getfield 179, 3) := by decide +kernel
theorem dX11_forbids_28 : decode cX11_forbids 28 = .ok (.invokestatic 182, 3) := by decide +kernel
theorem dX11_forbids_31 : decode cX11_forbids 31 = .ok (.ireturn, 1) := by decide +kernel
theorem dX11_draw_0 : decode cX11_draw 0 = .ok (.iload_n 1, 1) := by decide +kernel
theorem dX11_draw_1 : decode cX11_draw 1 = .ok (.ifCond .lt 22, 3) := by decide +kernel
theorem dX11_draw_4 : decode cX11_draw 4 = .ok (.iload_n 1, 1) := by decide +kernel
theorem dX11_draw_5 : decode cX11_draw 5 = .ok (.aload_n 0, 1) := by decide +kernel
theorem dX11_draw_6 : decode cX11_draw 6 = .ok (.getfield 41, 3) := by decide +kernel
theorem dX11_draw_9 : decode cX11_draw 9 = .ok (.getfield 169, 3) := by decide +kernel
theorem dX11_draw_12 : decode cX11_draw 12 = .ok (.if_icmp .ge 11, 3) := by decide +kernel
theorem dX11_draw_15 : decode cX11_draw 15 = .ok (.aload_n 0, 1) := by decide +kernel
theorem dX11_draw_16 : decode cX11_draw 16 = .ok (.iload_n 2, 1) := by decide +kernel
theorem dX11_draw_17 : decode cX11_draw 17 = .ok (.invokevirtual 186, 3) := by decide +kernel
theorem dX11_draw_20 : decode cX11_draw 20 = .ok (.ifCond .ne 5, 3) := by decide +kernel
theorem dX11_draw_23 : decode cX11_draw 23 = .ok (.iconst (-1), 1) := by decide +kernel
theorem dX11_draw_24 : decode cX11_draw 24 = .ok (.ireturn, 1) := by decide +kernel
theorem dX11_draw_25 : decode cX11_draw 25 = .ok (.aload_n 0, 1) := by decide +kernel
theorem dX11_draw_26 : decode cX11_draw 26 = .ok (.getfield 41, 3) := by decide +kernel
theorem dX11_draw_29 : decode cX11_draw 29 = .ok (.aload_n 0, 1) := by decide +kernel
theorem dX11_draw_30 : decode cX11_draw 30 = .ok (.getfield 41, 3) := by decide +kernel
theorem dX11_draw_33 : decode cX11_draw 33 = .ok (.getfield 189, 3) := by decide +kernel
theorem dX11_draw_36 : decode cX11_draw 36 = .ok (.iload_n 1, 1) := by decide +kernel
theorem dX11_draw_37 : decode cX11_draw 37 = .ok (.iaload, 1) := by decide +kernel
theorem dX11_draw_38 : decode cX11_draw 38 = .ok (.iload_n 2, 1) := by decide +kernel
theorem dX11_draw_39 : decode cX11_draw 39 = .ok (.invokevirtual 192, 3) := by decide +kernel
theorem dX11_draw_42 : decode cX11_draw 42 = .ok (.ireturn, 1) := by decide +kernel
theorem dX11_judge_0 : decode cX11_judge 0 = .ok (.aload_n 0, 1) := by decide +kernel
theorem dX11_judge_1 : decode cX11_judge 1 = .ok (.iload_n 1, 1) := by decide +kernel
theorem dX11_judge_2 : decode cX11_judge 2 = .ok (.invokevirtual 196, 3) := by decide +kernel
theorem dX11_judge_5 : decode cX11_judge 5 = .ok (.ifCond .ne 5, 3) := by decide +kernel
theorem dX11_judge_8 : decode cX11_judge 8 = .ok (.iconst (-1), 1) := by decide +kernel
theorem dX11_judge_9 : decode cX11_judge 9 = .ok (.ireturn, 1) := by decide +kernel
theorem dX11_judge_10 : decode cX11_judge 10 = .ok (.aload_n 0, 1) := by decide +kernel
theorem dX11_judge_11 : decode cX11_judge 11 = .ok (.getfield 41, 3) := by decide +kernel
theorem dX11_judge_14 : decode cX11_judge 14 = .ok (.getfield 199, 3) := by decide +kernel
theorem dX11_judge_17 : decode cX11_judge 17 = .ok (.iload_n 1, 1) := by decide +kernel
theorem dX11_judge_18 : decode cX11_judge 18 = .ok (.iaload, 1) := by decide +kernel
theorem dX11_judge_19 : decode cX11_judge 19 = .ok (.ifCond .ne 7, 3) := by decide +kernel
theorem dX11_judge_22 : decode cX11_judge 22 = .ok (.iconst 1, 1) := by decide +kernel
theorem dX11_judge_23 : decode cX11_judge 23 = .ok (.goto 4, 3) := by decide +kernel
theorem dX11_judge_26 : decode cX11_judge 26 = .ok (.iconst 0, 1) := by decide +kernel
theorem dX11_judge_27 : decode cX11_judge 27 = .ok (.ireturn, 1) := by decide +kernel
theorem dX11_isTeam_0 : decode cX11_isTeam 0 = .ok (.iload_n 1, 1) := by decide +kernel
theorem dX11_isTeam_1 : decode cX11_isTeam 1 = .ok (.ifCond .lt 18, 3) := by decide +kernel
theorem dX11_isTeam_4 : decode cX11_isTeam 4 = .ok (.iload_n 1, 1) := by decide +kernel
theorem dX11_isTeam_5 : decode cX11_isTeam 5 = .ok (.aload_n 0, 1) := by decide +kernel
theorem dX11_isTeam_6 : decode cX11_isTeam 6 = .ok (.getfield 16, 3) := by decide +kernel
theorem dX11_isTeam_9 : decode cX11_isTeam 9 = .ok (.getfield 202, 3) := by decide +kernel
theorem dX11_isTeam_12 : decode cX11_isTeam 12 = .ok (.if_icmp .ge 7, 3) := by decide +kernel
theorem dX11_isTeam_15 : decode cX11_isTeam 15 = .ok (.iconst 1, 1) := by decide +kernel
theorem dX11_isTeam_16 : decode cX11_isTeam 16 = .ok (.goto 4, 3) := by decide +kernel
theorem dX11_isTeam_19 : decode cX11_isTeam 19 = .ok (.iconst 0, 1) := by decide +kernel
theorem dX11_isTeam_20 : decode cX11_isTeam 20 = .ok (.ireturn, 1) := by decide +kernel
theorem dX11_isGroup_0 : decode cX11_isGroup 0 = .ok (.iload_n 1, 1) := by decide +kernel
theorem dX11_isGroup_1 : decode cX11_isGroup 1 = .ok (.ifCond .lt 18, 3) := by decide +kernel
theorem dX11_isGroup_4 : decode cX11_isGroup 4 = .ok (.iload_n 1, 1) := by decide +kernel
theorem dX11_isGroup_5 : decode cX11_isGroup 5 = .ok (.aload_n 0, 1) := by decide +kernel
theorem dX11_isGroup_6 : decode cX11_isGroup 6 = .ok (.getfield 16, 3) := by decide +kernel
theorem dX11_isGroup_9 : decode cX11_isGroup 9 = .ok (.getfield 133, 3) := by decide +kernel
theorem dX11_isGroup_12 : decode cX11_isGroup 12 = .ok (.if_icmp .ge 7, 3) := by decide +kernel
theorem dX11_isGroup_15 : decode cX11_isGroup 15 = .ok (.iconst 1, 1) := by decide +kernel
theorem dX11_isGroup_16 : decode cX11_isGroup 16 = .ok (.goto 4, 3) := by decide +kernel
theorem dX11_isGroup_19 : decode cX11_isGroup 19 = .ok (.iconst 0, 1) := by decide +kernel
theorem dX11_isGroup_20 : decode cX11_isGroup 20 = .ok (.ireturn, 1) := by decide +kernel
theorem dX11_isBar_0 : decode cX11_isBar 0 = .ok (.iload_n 1, 1) := by decide +kernel
theorem dX11_isBar_1 : decode cX11_isBar 1 = .ok (.ifCond .lt 18, 3) := by decide +kernel
theorem dX11_isBar_4 : decode cX11_isBar 4 = .ok (.iload_n 1, 1) := by decide +kernel
theorem dX11_isBar_5 : decode cX11_isBar 5 = .ok (.aload_n 0, 1) := by decide +kernel
theorem dX11_isBar_6 : decode cX11_isBar 6 = .ok (.getfield 16, 3) := by decide +kernel
theorem dX11_isBar_9 : decode cX11_isBar 9 = .ok (.getfield 179, 3) := by decide +kernel
theorem dX11_isBar_12 : decode cX11_isBar 12 = .ok (.if_icmp .ge 7, 3) := by decide +kernel
theorem dX11_isBar_15 : decode cX11_isBar 15 = .ok (.iconst 1, 1) := by decide +kernel
theorem dX11_isBar_16 : decode cX11_isBar 16 = .ok (.goto 4, 3) := by decide +kernel
theorem dX11_isBar_19 : decode cX11_isBar 19 = .ok (.iconst 0, 1) := by decide +kernel
theorem dX11_isBar_20 : decode cX11_isBar 20 = .ok (.ireturn, 1) := by decide +kernel
theorem dX11_isCode_0 : decode cX11_isCode 0 = .ok (.iload_n 1, 1) := by decide +kernel
theorem dX11_isCode_1 : decode cX11_isCode 1 = .ok (.ifCond .lt 18, 3) := by decide +kernel
theorem dX11_isCode_4 : decode cX11_isCode 4 = .ok (.iload_n 1, 1) := by decide +kernel
theorem dX11_isCode_5 : decode cX11_isCode 5 = .ok (.aload_n 0, 1) := by decide +kernel
theorem dX11_isCode_6 : decode cX11_isCode 6 = .ok (.getfield 41, 3) := by decide +kernel
theorem dX11_isCode_9 : decode cX11_isCode 9 = .ok (.getfield 205, 3) := by decide +kernel
theorem dX11_isCode_12 : decode cX11_isCode 12 = .ok (.if_icmp .ge 7, 3) := by decide +kernel
theorem dX11_isCode_15 : decode cX11_isCode 15 = .ok (.iconst 1, 1) := by decide +kernel
theorem dX11_isCode_16 : decode cX11_isCode 16 = .ok (.goto 4, 3) := by decide +kernel
theorem dX11_isCode_19 : decode cX11_isCode 19 = .ok (.iconst 0, 1) := by decide +kernel
theorem dX11_isCode_20 : decode cX11_isCode 20 = .ok (.ireturn, 1) := by decide +kernel
theorem dX11_isWay_0 : decode cX11_isWay 0 = .ok (.iload_n 0, 1) := by decide +kernel
theorem dX11_isWay_1 : decode cX11_isWay 1 = .ok (.ifCond .lt 12, 3) := by decide +kernel
theorem dX11_isWay_4 : decode cX11_isWay 4 = .ok (.iload_n 0, 1) := by decide +kernel
theorem dX11_isWay_5 : decode cX11_isWay 5 = .ok (.iconst 3, 1) := by decide +kernel
theorem dX11_isWay_6 : decode cX11_isWay 6 = .ok (.if_icmp .ge 7, 3) := by decide +kernel
theorem dX11_isWay_9 : decode cX11_isWay 9 = .ok (.iconst 1, 1) := by decide +kernel
theorem dX11_isWay_10 : decode cX11_isWay 10 = .ok (.goto 4, 3) := by decide +kernel
theorem dX11_isWay_13 : decode cX11_isWay 13 = .ok (.iconst 0, 1) := by decide +kernel
theorem dX11_isWay_14 : decode cX11_isWay 14 = .ok (.ireturn, 1) := by decide +kernel
theorem dX11_order_0 : decode cX11_order 0 = .ok (.iload_n 1, 1) := by decide +kernel
theorem dX11_order_1 : decode cX11_order 1 = .ok (.aload_n 0, 1) := by decide +kernel
theorem dX11_order_2 : decode cX11_order 2 = .ok (.getfield 16, 3) := by decide +kernel
theorem dX11_order_5 : decode cX11_order 5 = .ok (.getfield 208, 3) := by decide +kernel
theorem dX11_order_8 : decode cX11_order 8 = .ok (.aload_n 0, 1) := by decide +kernel
theorem dX11_order_9 : decode cX11_order 9 = .ok (.getfield 48, 3) := by decide +kernel
theorem dX11_order_12 : decode cX11_order 12 = .ok (.getfield 211, 3) := by decide +kernel
theorem dX11_order_15 : decode cX11_order 15 = .ok (.invokestatic 214, 3) := by decide +kernel
theorem dX11_order_18 : decode cX11_order 18 = .ok (.ifCond .ne 5, 3) := by decide +kernel
theorem dX11_order_21 : decode cX11_order 21 = .ok (.iconst 0, 1) := by decide +kernel
theorem dX11_order_22 : decode cX11_order 22 = .ok (.ireturn, 1) := by decide +kernel
theorem dX11_order_23 : decode cX11_order 23 = .ok (.aload_n 0, 1) := by decide +kernel
theorem dX11_order_24 : decode cX11_order 24 = .ok (.getfield 48, 3) := by decide +kernel
theorem dX11_order_27 : decode cX11_order 27 = .ok (.invokevirtual 218, 3) := by decide +kernel
theorem dX11_order_30 : decode cX11_order 30 = .ok (.aload_n 0, 1) := by decide +kernel
theorem dX11_order_31 : decode cX11_order 31 = .ok (.getfield 57, 3) := by decide +kernel
theorem dX11_order_34 : decode cX11_order 34 = .ok (.iconst 0, 1) := by decide +kernel
theorem dX11_order_35 : decode cX11_order 35 = .ok (.putfield 145, 3) := by decide +kernel
theorem dX11_order_38 : decode cX11_order 38 = .ok (.aload_n 0, 1) := by decide +kernel
theorem dX11_order_39 : decode cX11_order 39 = .ok (.bipush (-3), 2) := by decide +kernel
theorem dX11_order_41 : decode cX11_order 41 = .ok (.putfield 108, 3) := by decide +kernel
theorem dX11_order_44 : decode cX11_order 44 = .ok (.aload_n 0, 1) := by decide +kernel
theorem dX11_order_45 : decode cX11_order 45 = .ok (.invokevirtual 154, 3) := by decide +kernel
theorem dX11_order_48 : decode cX11_order 48 = .ok (.iconst 1, 1) := by decide +kernel
theorem dX11_order_49 : decode cX11_order 49 = .ok (.ireturn, 1) := by decide +kernel
theorem dX11_arrange_0 : decode cX11_arrange 0 = .ok (.iload_n 1, 1) := by decide +kernel
theorem dX11_arrange_1 : decode cX11_arrange 1 = .ok (.aload_n 0, 1) := by decide +kernel
theorem dX11_arrange_2 : decode cX11_arrange 2 = .ok (.getfield 16, 3) := by decide +kernel
theorem dX11_arrange_5 : decode cX11_arrange 5 = .ok (.getfield 133, 3) := by decide +kernel
theorem dX11_arrange_8 : decode cX11_arrange 8 = .ok (.aload_n 0, 1) := by decide +kernel
theorem dX11_arrange_9 : decode cX11_arrange 9 = .ok (.getfield 48, 3) := by decide +kernel
theorem dX11_arrange_12 : decode cX11_arrange 12 = .ok (.getfield 221, 3) := by decide +kernel
theorem dX11_arrange_15 : decode cX11_arrange 15 = .ok (.invokestatic 214, 3) := by decide +kernel
theorem dX11_arrange_18 : decode cX11_arrange 18 = .ok (.ifCond .ne 5, 3) := by decide +kernel
theorem dX11_arrange_21 : decode cX11_arrange 21 = .ok (.iconst 0, 1) := by decide +kernel
theorem dX11_arrange_22 : decode cX11_arrange 22 = .ok (.ireturn, 1) := by decide +kernel
theorem dX11_arrange_23 : decode cX11_arrange 23 = .ok (.aload_n 0, 1) := by decide +kernel
theorem dX11_arrange_24 : decode cX11_arrange 24 = .ok (.getfield 48, 3) := by decide +kernel
theorem dX11_arrange_27 : decode cX11_arrange 27 = .ok (.invokevirtual 218, 3) := by decide +kernel
theorem dX11_arrange_30 : decode cX11_arrange 30 = .ok (.aload_n 0, 1) := by decide +kernel
theorem dX11_arrange_31 : decode cX11_arrange 31 = .ok (.bipush (-3), 2) := by decide +kernel
theorem dX11_arrange_33 : decode cX11_arrange 33 = .ok (.putfield 104, 3) := by decide +kernel
theorem dX11_arrange_36 : decode cX11_arrange 36 = .ok (.aload_n 0, 1) := by decide +kernel
theorem dX11_arrange_37 : decode cX11_arrange 37 = .ok (.invokevirtual 154, 3) := by decide +kernel
theorem dX11_arrange_40 : decode cX11_arrange 40 = .ok (.iconst 1, 1) := by decide +kernel
theorem dX11_arrange_41 : decode cX11_arrange 41 = .ok (.ireturn, 1) := by decide +kernel
theorem dX11_readTurns_0 : decode cX11_readTurns 0 = .ok (.iconst 0, 1) := by decide +kernel
theorem dX11_readTurns_1 : decode cX11_readTurns 1 = .ok (.istore_n 3, 1) := by decide +kernel
theorem dX11_readTurns_2 : decode cX11_readTurns 2 = .ok (.iconst 0, 1) := by decide +kernel
theorem dX11_readTurns_3 : decode cX11_readTurns 3 = .ok (.istore 4, 2) := by decide +kernel
theorem dX11_readTurns_5 : decode cX11_readTurns 5 = .ok (.iload 4, 2) := by decide +kernel
theorem dX11_readTurns_7 : decode cX11_readTurns 7 = .ok (.iload_n 1, 1) := by decide +kernel
theorem dX11_readTurns_8 : decode cX11_readTurns 8 = .ok (.if_icmp .ge 22, 3) := by decide +kernel
theorem dX11_readTurns_11 : decode cX11_readTurns 11 = .ok (.iload_n 3, 1) := by decide +kernel
theorem dX11_readTurns_12 : decode cX11_readTurns 12 = .ok (.iconst 1, 1) := by decide +kernel
theorem dX11_readTurns_13 : decode cX11_readTurns 13 = .ok (.iload_n 0, 1) := by decide +kernel
theorem dX11_readTurns_14 : decode cX11_readTurns 14 = .ok (.iconst 2, 1) := by decide +kernel
theorem dX11_readTurns_15 : decode cX11_readTurns 15 = .ok (.iload 4, 2) := by decide +kernel
theorem dX11_readTurns_17 : decode cX11_readTurns 17 = .ok (.imul, 1) := by decide +kernel
theorem dX11_readTurns_18 : decode cX11_readTurns 18 = .ok (.iushr, 1) := by decide +kernel
theorem dX11_readTurns_19 : decode cX11_readTurns 19 = .ok (.iconst 3, 1) := by decide +kernel
theorem dX11_readTurns_20 : decode cX11_readTurns 20 = .ok (.iand, 1) := by decide +kernel
theorem dX11_readTurns_21 : decode cX11_readTurns 21 = .ok (.ishl, 1) := by decide +kernel
theorem dX11_readTurns_22 : decode cX11_readTurns 22 = .ok (.ior, 1) := by decide +kernel
theorem dX11_readTurns_23 : decode cX11_readTurns 23 = .ok (.istore_n 3, 1) := by decide +kernel
theorem dX11_readTurns_24 : decode cX11_readTurns 24 = .ok (.iinc 4 1, 3) := by decide +kernel
theorem dX11_readTurns_27 : decode cX11_readTurns 27 = .ok (.goto (-22), 3) := by decide +kernel
theorem dX11_readTurns_30 : decode cX11_readTurns 30 = .ok (.iload_n 3, 1) := by decide +kernel
theorem dX11_readTurns_31 : decode cX11_readTurns 31 = .ok (.iconst 1, 1) := by decide +kernel
theorem dX11_readTurns_32 : decode cX11_readTurns 32 = .ok (.iload_n 1, 1) := by decide +kernel
theorem dX11_readTurns_33 : decode cX11_readTurns 33 = .ok (.ishl, 1) := by decide +kernel
theorem dX11_readTurns_34 : decode cX11_readTurns 34 = .ok (.iconst 1, 1) := by decide +kernel
theorem dX11_readTurns_35 : decode cX11_readTurns 35 = .ok (.isub, 1) := by decide +kernel
theorem dX11_readTurns_36 : decode cX11_readTurns 36 = .ok (.if_icmp .eq 5, 3) := by decide +kernel
theorem dX11_readTurns_39 : decode cX11_readTurns 39 = .ok (.iconst 0, 1) := by decide +kernel
theorem dX11_readTurns_40 : decode cX11_readTurns 40 = .ok (.ireturn, 1) := by decide +kernel
theorem dX11_readTurns_41 : decode cX11_readTurns 41 = .ok (.iconst 0, 1) := by decide +kernel
theorem dX11_readTurns_42 : decode cX11_readTurns 42 = .ok (.istore 4, 2) := by decide +kernel
theorem dX11_readTurns_44 : decode cX11_readTurns 44 = .ok (.iload 4, 2) := by decide +kernel
theorem dX11_readTurns_46 : decode cX11_readTurns 46 = .ok (.iload_n 1, 1) := by decide +kernel
theorem dX11_readTurns_47 : decode cX11_readTurns 47 = .ok (.if_icmp .ge 28, 3) := by decide +kernel
theorem dX11_readTurns_50 : decode cX11_readTurns 50 = .ok (.iload 4, 2) := by decide +kernel
theorem dX11_readTurns_52 : decode cX11_readTurns 52 = .ok (.aload_n 2, 1) := by decide +kernel
theorem dX11_readTurns_53 : decode cX11_readTurns 53 = .ok (.arraylength, 1) := by decide +kernel
theorem dX11_readTurns_54 : decode cX11_readTurns 54 = .ok (.if_icmp .ge 21, 3) := by decide +kernel
theorem dX11_readTurns_57 : decode cX11_readTurns 57 = .ok (.aload_n 2, 1) := by decide +kernel
theorem dX11_readTurns_58 : decode cX11_readTurns 58 = .ok (.iload 4, 2) := by decide +kernel
theorem dX11_readTurns_60 : decode cX11_readTurns 60 = .ok (.iload_n 0, 1) := by decide +kernel
theorem dX11_readTurns_61 : decode cX11_readTurns 61 = .ok (.iconst 2, 1) := by decide +kernel
theorem dX11_readTurns_62 : decode cX11_readTurns 62 = .ok (.iload 4, 2) := by decide +kernel
theorem dX11_readTurns_64 : decode cX11_readTurns 64 = .ok (.imul, 1) := by decide +kernel
theorem dX11_readTurns_65 : decode cX11_readTurns 65 = .ok (.iushr, 1) := by decide +kernel
theorem dX11_readTurns_66 : decode cX11_readTurns 66 = .ok (.iconst 3, 1) := by decide +kernel
theorem dX11_readTurns_67 : decode cX11_readTurns 67 = .ok (.iand, 1) := by decide +kernel
theorem dX11_readTurns_68 : decode cX11_readTurns 68 = .ok (.iastore, 1) := by decide +kernel
theorem dX11_readTurns_69 : decode cX11_readTurns 69 = .ok (.iinc 4 1, 3) := by decide +kernel
theorem dX11_readTurns_72 : decode cX11_readTurns 72 = .ok (.goto (-28), 3) := by decide +kernel
theorem dX11_readTurns_75 : decode cX11_readTurns 75 = .ok (.iconst 1, 1) := by decide +kernel
theorem dX11_readTurns_76 : decode cX11_readTurns 76 = .ok (.ireturn, 1) := by decide +kernel
theorem dX11_treeOfNow_0 : decode cX11_treeOfNow 0 = .ok (.aload_n 0, 1) := by decide +kernel
theorem dX11_treeOfNow_1 : decode cX11_treeOfNow 1 = .ok (.getfield 57, 3) := by decide +kernel
theorem dX11_treeOfNow_4 : decode cX11_treeOfNow 4 = .ok (.getfield 145, 3) := by decide +kernel
theorem dX11_treeOfNow_7 : decode cX11_treeOfNow 7 = .ok (.ifCond .ne 17, 3) := by decide +kernel
theorem dX11_treeOfNow_10 : decode cX11_treeOfNow 10 = .ok (.aload_n 0, 1) := by decide +kernel
theorem dX11_treeOfNow_11 : decode cX11_treeOfNow 11 = .ok (.getfield 57, 3) := by decide +kernel
theorem dX11_treeOfNow_14 : decode cX11_treeOfNow 14 = .ok (.aload_n 0, 1) := by decide +kernel
theorem dX11_treeOfNow_15 : decode cX11_treeOfNow 15 = .ok (.getfield 48, 3) := by decide +kernel
theorem dX11_treeOfNow_18 : decode cX11_treeOfNow 18 = .ok (.getfield 211, 3) := by decide +kernel
theorem dX11_treeOfNow_21 : decode cX11_treeOfNow 21 = .ok (.invokevirtual 224, 3) := by decide +kernel
theorem dX11_treeOfNow_24 : decode cX11_treeOfNow 24 = .ok (.aload_n 0, 1) := by decide +kernel
theorem dX11_treeOfNow_25 : decode cX11_treeOfNow 25 = .ok (.getfield 57, 3) := by decide +kernel
theorem dX11_treeOfNow_28 : decode cX11_treeOfNow 28 = .ok (.areturn, 1) := by decide +kernel
theorem dX11_ball_0 : decode cX11_ball 0 = .ok (.aload_n 0, 1) := by decide +kernel
theorem dX11_ball_1 : decode cX11_ball 1 = .ok (.iload_n 1, 1) := by decide +kernel
theorem dX11_ball_2 : decode cX11_ball 2 = .ok (.invokevirtual 186, 3) := by decide +kernel
theorem dX11_ball_5 : decode cX11_ball 5 = .ok (.ifCond .eq 26, 3) := by decide +kernel
theorem dX11_ball_8 : decode cX11_ball 8 = .ok (.aload_n 0, 1) := by decide +kernel
theorem dX11_ball_9 : decode cX11_ball 9 = .ok (.getfield 41, 3) := by decide +kernel
theorem dX11_ball_12 : decode cX11_ball 12 = .ok (.getfield 169, 3) := by decide +kernel
theorem dX11_ball_15 : decode cX11_ball 15 = .ok (.ifCond .eq 16, 3) := by decide +kernel
theorem dX11_ball_18 : decode cX11_ball 18 = .ok (.aload_n 0, 1) := by decide +kernel
theorem dX11_ball_19 : decode cX11_ball 19 = .ok (.getfield 48, 3) := by decide +kernel
theorem dX11_ball_22 : decode cX11_ball 22 = .ok (.getfield 227, 3) := by decide +kernel
theorem dX11_ball_25 : decode cX11_ball 25 = .ok (.iload_n 1, 1) := by decide +kernel
theorem dX11_ball_26 : decode cX11_ball 26 = .ok (.iaload, 1) := by decide +kernel
theorem dX11_ball_27 : decode cX11_ball 27 = .ok (.iconst (-1), 1) := by decide +kernel
theorem dX11_ball_28 : decode cX11_ball 28 = .ok (.if_icmp .eq 5, 3) := by decide +kernel
theorem dX11_ball_31 : decode cX11_ball 31 = .ok (.iconst (-1), 1) := by decide +kernel
theorem dX11_ball_32 : decode cX11_ball 32 = .ok (.ireturn, 1) := by decide +kernel
theorem dX11_ball_33 : decode cX11_ball 33 = .ok (.aload_n 0, 1) := by decide +kernel
theorem dX11_ball_34 : decode cX11_ball 34 = .ok (.getfield 16, 3) := by decide +kernel
theorem dX11_ball_37 : decode cX11_ball 37 = .ok (.iload_n 1, 1) := by decide +kernel
theorem dX11_ball_38 : decode cX11_ball 38 = .ok (.invokevirtual 230, 3) := by decide +kernel
theorem dX11_ball_41 : decode cX11_ball 41 = .ok (.istore_n 2, 1) := by decide +kernel
theorem dX11_ball_42 : decode cX11_ball 42 = .ok (.iload_n 2, 1) := by decide +kernel
theorem dX11_ball_43 : decode cX11_ball 43 = .ok (.aload_n 0, 1) := by decide +kernel
theorem dX11_ball_44 : decode cX11_ball 44 = .ok (.getfield 48, 3) := by decide +kernel
theorem dX11_ball_47 : decode cX11_ball 47 = .ok (.invokevirtual 233, 3) := by decide +kernel
theorem dX11_ball_50 : decode cX11_ball 50 = .ok (.if_icmp .eq 5, 3) := by decide +kernel
theorem dX11_ball_53 : decode cX11_ball 53 = .ok (.iconst (-1), 1) := by decide +kernel
theorem dX11_ball_54 : decode cX11_ball 54 = .ok (.ireturn, 1) := by decide +kernel
theorem dX11_ball_55 : decode cX11_ball 55 = .ok (.aload_n 0, 1) := by decide +kernel
theorem dX11_ball_56 : decode cX11_ball 56 = .ok (.invokevirtual 237, 3) := by decide +kernel
theorem dX11_ball_59 : decode cX11_ball 59 = .ok (.aload_n 0, 1) := by decide +kernel
theorem dX11_ball_60 : decode cX11_ball 60 = .ok (.getfield 48, 3) := by decide +kernel
theorem dX11_ball_63 : decode cX11_ball 63 = .ok (.invokevirtual 241, 3) := by decide +kernel
theorem dX11_ball_66 : decode cX11_ball 66 = .ok (.aload_n 0, 1) := by decide +kernel
theorem dX11_ball_67 : decode cX11_ball 67 = .ok (.getfield 48, 3) := by decide +kernel
theorem dX11_ball_70 : decode cX11_ball 70 = .ok (.invokevirtual 244, 3) := by decide +kernel
theorem dX11_ball_73 : decode cX11_ball 73 = .ok (.invokevirtual 247, 3) := by decide +kernel
theorem dX11_ball_76 : decode cX11_ball 76 = .ok (.aload_n 0, 1) := by decide +kernel
theorem dX11_ball_77 : decode cX11_ball 77 = .ok (.getfield 48, 3) := by decide +kernel
theorem dX11_ball_80 : decode cX11_ball 80 = .ok (.iload_n 2, 1) := by decide +kernel
theorem dX11_ball_81 : decode cX11_ball 81 = .ok (.invokevirtual 250, 3) := by decide +kernel
theorem dX11_ball_84 : decode cX11_ball 84 = .ok (.iand, 1) := by decide +kernel
theorem dX11_ball_85 : decode cX11_ball 85 = .ok (.istore_n 3, 1) := by decide +kernel
theorem dX11_ball_86 : decode cX11_ball 86 = .ok (.aload_n 0, 1) := by decide +kernel
theorem dX11_ball_87 : decode cX11_ball 87 = .ok (.getfield 16, 3) := by decide +kernel
theorem dX11_ball_90 : decode cX11_ball 90 = .ok (.iload_n 1, 1) := by decide +kernel
theorem dX11_ball_91 : decode cX11_ball 91 = .ok (.invokevirtual 253, 3) := by decide +kernel
theorem dX11_ball_94 : decode cX11_ball 94 = .ok (.istore 4, 2) := by decide +kernel
theorem dX11_ball_96 : decode cX11_ball 96 = .ok (.aload_n 0, 1) := by decide +kernel
theorem dX11_ball_97 : decode cX11_ball 97 = .ok (.getfield 32, 3) := by decide +kernel
theorem dX11_ball_100 : decode cX11_ball 100 = .ok (.aload_n 0, 1) := by decide +kernel
theorem dX11_ball_101 : decode cX11_ball 101 = .ok (.getfield 32, 3) := by decide +kernel
theorem dX11_ball_104 : decode cX11_ball 104 = .ok (.iload_n 3, 1) := by decide +kernel
theorem dX11_ball_105 : decode cX11_ball 105 = .ok (.iload 4, 2) := by decide +kernel
theorem dX11_ball_107 : decode cX11_ball 107 = .ok (.aload_n 0, 1) := by decide +kernel
theorem dX11_ball_108 : decode cX11_ball 108 = .ok (.getfield 48, 3) := by decide +kernel
theorem dX11_ball_111 : decode cX11_ball 111 = .ok (.getfield 221, 3) := by decide +kernel
theorem dX11_ball_114 : decode cX11_ball 114 = .ok (.invokevirtual 256, 3) := by decide +kernel
theorem dX11_ball_117 : decode cX11_ball 117 = .ok (.iload 4, 2) := by decide +kernel
theorem dX11_ball_119 : decode cX11_ball 119 = .ok (.invokevirtual 260, 3) := by decide +kernel
theorem dX11_ball_122 : decode cX11_ball 122 = .ok (.istore 5, 2) := by decide +kernel
theorem dX11_ball_124 : decode cX11_ball 124 = .ok (.iload 5, 2) := by decide +kernel
theorem dX11_ball_126 : decode cX11_ball 126 = .ok (.iconst (-1), 1) := by decide +kernel
theorem dX11_ball_127 : decode cX11_ball 127 = .ok (.if_icmp .eq 17, 3) := by decide +kernel
theorem dX11_ball_130 : decode cX11_ball 130 = .ok (.aload_n 0, 1) := by decide +kernel
theorem dX11_ball_131 : decode cX11_ball 131 = .ok (.getfield 48, 3) := by decide +kernel
theorem dX11_ball_134 : decode cX11_ball 134 = .ok (.iload_n 1, 1) := by decide +kernel
theorem dX11_ball_135 : decode cX11_ball 135 = .ok (.iload 5, 2) := by decide +kernel
theorem dX11_ball_137 : decode cX11_ball 137 = .ok (.invokevirtual 263, 3) := by decide +kernel
theorem dX11_ball_140 : decode cX11_ball 140 = .ok (.aload_n 0, 1) := by decide +kernel
theorem dX11_ball_141 : decode cX11_ball 141 = .ok (.invokevirtual 157, 3) := by decide +kernel
theorem dX11_ball_144 : decode cX11_ball 144 = .ok (.iload 5, 2) := by decide +kernel
theorem dX11_ball_146 : decode cX11_ball 146 = .ok (.ireturn, 1) := by decide +kernel
theorem dX11_why_0 : decode cX11_why 0 = .ok (.aload_n 0, 1) := by decide +kernel
theorem dX11_why_1 : decode cX11_why 1 = .ok (.iload_n 1, 1) := by decide +kernel
theorem dX11_why_2 : decode cX11_why 2 = .ok (.invokevirtual 267, 3) := by decide +kernel
theorem dX11_why_5 : decode cX11_why 5 = .ok (.ifCond .eq 14, 3) := by decide +kernel
theorem dX11_why_8 : decode cX11_why 8 = .ok (.aload_n 0, 1) := by decide +kernel
theorem dX11_why_9 : decode cX11_why 9 = .ok (.getfield 48, 3) := by decide +kernel
theorem dX11_why_12 : decode cX11_why 12 = .ok (.iload_n 1, 1) := by decide +kernel
theorem dX11_why_13 : decode cX11_why 13 = .ok (.invokevirtual 270, 3) := by decide +kernel
theorem dX11_why_16 : decode cX11_why 16 = .ok (.goto 4, 3) := by decide +kernel
theorem dX11_why_19 : decode cX11_why 19 = .ok (.iconst (-1), 1) := by decide +kernel
theorem dX11_why_20 : decode cX11_why 20 = .ok (.ireturn, 1) := by decide +kernel
theorem dX11_clear_0 : decode cX11_clear 0 = .ok (.aload_n 0, 1) := by decide +kernel
theorem dX11_clear_1 : decode cX11_clear 1 = .ok (.getfield 48, 3) := by decide +kernel
theorem dX11_clear_4 : decode cX11_clear 4 = .ok (.getfield 273, 3) := by decide +kernel
theorem dX11_clear_7 : decode cX11_clear 7 = .ok (.istore_n 1, 1) := by decide +kernel
theorem dX11_clear_8 : decode cX11_clear 8 = .ok (.aload_n 0, 1) := by decide +kernel
theorem dX11_clear_9 : decode cX11_clear 9 = .ok (.getfield 48, 3) := by decide +kernel
theorem dX11_clear_12 : decode cX11_clear 12 = .ok (.invokevirtual 218, 3) := by decide +kernel
theorem dX11_clear_15 : decode cX11_clear 15 = .ok (.aload_n 0, 1) := by decide +kernel
theorem dX11_clear_16 : decode cX11_clear 16 = .ok (.invokevirtual 157, 3) := by decide +kernel
theorem dX11_clear_19 : decode cX11_clear 19 = .ok (.iload_n 1, 1) := by decide +kernel
theorem dX11_clear_20 : decode cX11_clear 20 = .ok (.ireturn, 1) := by decide +kernel
theorem dX11_placed_0 : decode cX11_placed 0 = .ok (.aload_n 0, 1) := by decide +kernel
theorem dX11_placed_1 : decode cX11_placed 1 = .ok (.iload_n 1, 1) := by decide +kernel
theorem dX11_placed_2 : decode cX11_placed 2 = .ok (.invokevirtual 186, 3) := by decide +kernel
theorem dX11_placed_5 : decode cX11_placed 5 = .ok (.ifCond .eq 15, 3) := by decide +kernel
theorem dX11_placed_8 : decode cX11_placed 8 = .ok (.aload_n 0, 1) := by decide +kernel
theorem dX11_placed_9 : decode cX11_placed 9 = .ok (.getfield 48, 3) := by decide +kernel
theorem dX11_placed_12 : decode cX11_placed 12 = .ok (.getfield 227, 3) := by decide +kernel
theorem dX11_placed_15 : decode cX11_placed 15 = .ok (.iload_n 1, 1) := by decide +kernel
theorem dX11_placed_16 : decode cX11_placed 16 = .ok (.iaload, 1) := by decide +kernel
theorem dX11_placed_17 : decode cX11_placed 17 = .ok (.goto 4, 3) := by decide +kernel
theorem dX11_placed_20 : decode cX11_placed 20 = .ok (.iconst (-1), 1) := by decide +kernel
theorem dX11_placed_21 : decode cX11_placed 21 = .ok (.ireturn, 1) := by decide +kernel
theorem dX11_undo_0 : decode cX11_undo 0 = .ok (.aload_n 0, 1) := by decide +kernel
theorem dX11_undo_1 : decode cX11_undo 1 = .ok (.getfield 48, 3) := by decide +kernel
theorem dX11_undo_4 : decode cX11_undo 4 = .ok (.getfield 273, 3) := by decide +kernel
theorem dX11_undo_7 : decode cX11_undo 7 = .ok (.ifCond .ne 5, 3) := by decide +kernel
theorem dX11_undo_10 : decode cX11_undo 10 = .ok (.iconst (-1), 1) := by decide +kernel
theorem dX11_undo_11 : decode cX11_undo 11 = .ok (.ireturn, 1) := by decide +kernel
theorem dX11_undo_12 : decode cX11_undo 12 = .ok (.aload_n 0, 1) := by decide +kernel
theorem dX11_undo_13 : decode cX11_undo 13 = .ok (.getfield 48, 3) := by decide +kernel
theorem dX11_undo_16 : decode cX11_undo 16 = .ok (.invokevirtual 276, 3) := by decide +kernel
theorem dX11_undo_19 : decode cX11_undo 19 = .ok (.aload_n 0, 1) := by decide +kernel
theorem dX11_undo_20 : decode cX11_undo 20 = .ok (.invokevirtual 157, 3) := by decide +kernel
theorem dX11_undo_23 : decode cX11_undo 23 = .ok (.aload_n 0, 1) := by decide +kernel
theorem dX11_undo_24 : decode cX11_undo 24 = .ok (.getfield 48, 3) := by decide +kernel
theorem dX11_undo_27 : decode cX11_undo 27 = .ok (.getfield 273, 3) := by decide +kernel
theorem dX11_undo_30 : decode cX11_undo 30 = .ok (.ireturn, 1) := by decide +kernel
theorem dX11_ends_0 : decode cX11_ends 0 = .ok (.aload_n 0, 1) := by decide +kernel
theorem dX11_ends_1 : decode cX11_ends 1 = .ok (.iload_n 1, 1) := by decide +kernel
theorem dX11_ends_2 : decode cX11_ends 2 = .ok (.invokevirtual 186, 3) := by decide +kernel
theorem dX11_ends_5 : decode cX11_ends 5 = .ok (.ifCond .ne 5, 3) := by decide +kernel
theorem dX11_ends_8 : decode cX11_ends 8 = .ok (.iconst (-1), 1) := by decide +kernel
theorem dX11_ends_9 : decode cX11_ends 9 = .ok (.ireturn, 1) := by decide +kernel
theorem dX11_ends_10 : decode cX11_ends 10 = .ok (.aload_n 0, 1) := by decide +kernel
theorem dX11_ends_11 : decode cX11_ends 11 = .ok (.getfield 48, 3) := by decide +kernel
theorem dX11_ends_14 : decode cX11_ends 14 = .ok (.iconst (-1), 1) := by decide +kernel
theorem dX11_ends_15 : decode cX11_ends 15 = .ok (.iconst (-1), 1) := by decide +kernel
theorem dX11_ends_16 : decode cX11_ends 16 = .ok (.invokevirtual 279, 3) := by decide +kernel
theorem dX11_ends_19 : decode cX11_ends 19 = .ok (.aload_n 0, 1) := by decide +kernel
theorem dX11_ends_20 : decode cX11_ends 20 = .ok (.getfield 41, 3) := by decide +kernel
theorem dX11_ends_23 : decode cX11_ends 23 = .ok (.aload_n 0, 1) := by decide +kernel
theorem dX11_ends_24 : decode cX11_ends 24 = .ok (.getfield 48, 3) := by decide +kernel
theorem dX11_ends_27 : decode cX11_ends 27 = .ok (.getfield 282, 3) := by decide +kernel
theorem dX11_ends_30 : decode cX11_ends 30 = .ok (.invokevirtual 285, 3) := by decide +kernel
theorem dX11_ends_33 : decode cX11_ends 33 = .ok (.istore_n 2, 1) := by decide +kernel
theorem dX11_ends_34 : decode cX11_ends 34 = .ok (.iload_n 2, 1) := by decide +kernel
theorem dX11_ends_35 : decode cX11_ends 35 = .ok (.iconst (-1), 1) := by decide +kernel
theorem dX11_ends_36 : decode cX11_ends 36 = .ok (.if_icmp .ne 7, 3) := by decide +kernel
theorem dX11_ends_39 : decode cX11_ends 39 = .ok (.iconst (-1), 1) := by decide +kernel
theorem dX11_ends_40 : decode cX11_ends 40 = .ok (.goto 12, 3) := by decide +kernel
theorem dX11_ends_43 : decode cX11_ends 43 = .ok (.aload_n 0, 1) := by decide +kernel
theorem dX11_ends_44 : decode cX11_ends 44 = .ok (.getfield 41, 3) := by decide +kernel
theorem dX11_ends_47 : decode cX11_ends 47 = .ok (.iload_n 2, 1) := by decide +kernel
theorem dX11_ends_48 : decode cX11_ends 48 = .ok (.iload_n 1, 1) := by decide +kernel
theorem dX11_ends_49 : decode cX11_ends 49 = .ok (.invokevirtual 192, 3) := by decide +kernel
theorem dX11_ends_52 : decode cX11_ends 52 = .ok (.ireturn, 1) := by decide +kernel
theorem dX11_blame_0 : decode cX11_blame 0 = .ok (.aload_n 0, 1) := by decide +kernel
theorem dX11_blame_1 : decode cX11_blame 1 = .ok (.iload_n 1, 1) := by decide +kernel
theorem dX11_blame_2 : decode cX11_blame 2 = .ok (.invokevirtual 267, 3) := by decide +kernel
theorem dX11_blame_5 : decode cX11_blame 5 = .ok (.ifCond .eq 15, 3) := by decide +kernel
theorem dX11_blame_8 : decode cX11_blame 8 = .ok (.aload_n 0, 1) := by decide +kernel
theorem dX11_blame_9 : decode cX11_blame 9 = .ok (.getfield 48, 3) := by decide +kernel
theorem dX11_blame_12 : decode cX11_blame 12 = .ok (.iload_n 1, 1) := by decide +kernel
theorem dX11_blame_13 : decode cX11_blame 13 = .ok (.invokevirtual 270, 3) := by decide +kernel
theorem dX11_blame_16 : decode cX11_blame 16 = .ok (.iconst 2, 1) := by decide +kernel
theorem dX11_blame_17 : decode cX11_blame 17 = .ok (.if_icmp .eq 5, 3) := by decide +kernel
theorem dX11_blame_20 : decode cX11_blame 20 = .ok (.iconst (-1), 1) := by decide +kernel
theorem dX11_blame_21 : decode cX11_blame 21 = .ok (.ireturn, 1) := by decide +kernel
theorem dX11_blame_22 : decode cX11_blame 22 = .ok (.aload_n 0, 1) := by decide +kernel
theorem dX11_blame_23 : decode cX11_blame 23 = .ok (.getfield 48, 3) := by decide +kernel
theorem dX11_blame_26 : decode cX11_blame 26 = .ok (.aload_n 0, 1) := by decide +kernel
theorem dX11_blame_27 : decode cX11_blame 27 = .ok (.getfield 48, 3) := by decide +kernel
theorem dX11_blame_30 : decode cX11_blame 30 = .ok (.invokevirtual 289, 3) := by decide +kernel
theorem dX11_blame_33 : decode cX11_blame 33 = .ok (.iload_n 1, 1) := by decide +kernel
theorem dX11_blame_34 : decode cX11_blame 34 = .ok (.invokevirtual 279, 3) := by decide +kernel
theorem dX11_blame_37 : decode cX11_blame 37 = .ok (.aload_n 0, 1) := by decide +kernel
theorem dX11_blame_38 : decode cX11_blame 38 = .ok (.getfield 41, 3) := by decide +kernel
theorem dX11_blame_41 : decode cX11_blame 41 = .ok (.aload_n 0, 1) := by decide +kernel
theorem dX11_blame_42 : decode cX11_blame 42 = .ok (.getfield 48, 3) := by decide +kernel
theorem dX11_blame_45 : decode cX11_blame 45 = .ok (.getfield 282, 3) := by decide +kernel
theorem dX11_blame_48 : decode cX11_blame 48 = .ok (.invokevirtual 292, 3) := by decide +kernel
theorem dX11_blame_51 : decode cX11_blame 51 = .ok (.ireturn, 1) := by decide +kernel
theorem dX11_pair_0 : decode cX11_pair 0 = .ok (.aload_n 0, 1) := by decide +kernel
theorem dX11_pair_1 : decode cX11_pair 1 = .ok (.iload_n 1, 1) := by decide +kernel
theorem dX11_pair_2 : decode cX11_pair 2 = .ok (.invokevirtual 186, 3) := by decide +kernel
theorem dX11_pair_5 : decode cX11_pair 5 = .ok (.ifCond .eq 23, 3) := by decide +kernel
theorem dX11_pair_8 : decode cX11_pair 8 = .ok (.aload_n 0, 1) := by decide +kernel
theorem dX11_pair_9 : decode cX11_pair 9 = .ok (.iload_n 2, 1) := by decide +kernel
theorem dX11_pair_10 : decode cX11_pair 10 = .ok (.invokevirtual 186, 3) := by decide +kernel
theorem dX11_pair_13 : decode cX11_pair 13 = .ok (.ifCond .eq 15, 3) := by decide +kernel
theorem dX11_pair_16 : decode cX11_pair 16 = .ok (.iload_n 1, 1) := by decide +kernel
theorem dX11_pair_17 : decode cX11_pair 17 = .ok (.iload_n 2, 1) := by decide +kernel
theorem dX11_pair_18 : decode cX11_pair 18 = .ok (.if_icmp .eq 10, 3) := by decide +kernel
theorem dX11_pair_21 : decode cX11_pair 21 = .ok (.iload_n 3, 1) := by decide +kernel
theorem dX11_pair_22 : decode cX11_pair 22 = .ok (.invokestatic 295, 3) := by decide +kernel
theorem dX11_pair_25 : decode cX11_pair 25 = .ok (.ifCond .ne 7, 3) := by decide +kernel
theorem dX11_pair_28 : decode cX11_pair 28 = .ok (.ldc2_w 298, 3) := by decide +kernel
theorem dX11_pair_31 : decode cX11_pair 31 = .ok (.lreturn, 1) := by decide +kernel
theorem dX11_pair_32 : decode cX11_pair 32 = .ok (.aload_n 0, 1) := by decide +kernel
theorem dX11_pair_33 : decode cX11_pair 33 = .ok (.getfield 41, 3) := by decide +kernel
theorem dX11_pair_36 : decode cX11_pair 36 = .ok (.getfield 169, 3) := by decide +kernel
theorem dX11_pair_39 : decode cX11_pair 39 = .ok (.ifCond .ne 7, 3) := by decide +kernel
theorem dX11_pair_42 : decode cX11_pair 42 = .ok (.lconst 0, 1) := by decide +kernel
theorem dX11_pair_43 : decode cX11_pair 43 = .ok (.goto 13, 3) := by decide +kernel
theorem dX11_pair_46 : decode cX11_pair 46 = .ok (.aload_n 0, 1) := by decide +kernel
theorem dX11_pair_47 : decode cX11_pair 47 = .ok (.iload_n 3, 1) := by decide +kernel
theorem dX11_pair_48 : decode cX11_pair 48 = .ok (.invokevirtual 300, 3) := by decide +kernel
theorem dX11_pair_51 : decode cX11_pair 51 = .ok (.iload_n 1, 1) := by decide +kernel
theorem dX11_pair_52 : decode cX11_pair 52 = .ok (.iload_n 2, 1) := by decide +kernel
theorem dX11_pair_53 : decode cX11_pair 53 = .ok (.invokevirtual 304, 3) := by decide +kernel
theorem dX11_pair_56 : decode cX11_pair 56 = .ok (.lreturn, 1) := by decide +kernel
theorem dX11_place_0 : decode cX11_place 0 = .ok (.aload_n 0, 1) := by decide +kernel
theorem dX11_place_1 : decode cX11_place 1 = .ok (.iload_n 1, 1) := by decide +kernel
theorem dX11_place_2 : decode cX11_place 2 = .ok (.invokevirtual 186, 3) := by decide +kernel
theorem dX11_place_5 : decode cX11_place 5 = .ok (.ifCond .eq 18, 3) := by decide +kernel
theorem dX11_place_8 : decode cX11_place 8 = .ok (.aload_n 0, 1) := by decide +kernel
theorem dX11_place_9 : decode cX11_place 9 = .ok (.iload_n 2, 1) := by decide +kernel
theorem dX11_place_10 : decode cX11_place 10 = .ok (.invokevirtual 267, 3) := by decide +kernel
theorem dX11_place_13 : decode cX11_place 13 = .ok (.ifCond .eq 10, 3) := by decide +kernel
theorem dX11_place_16 : decode cX11_place 16 = .ok (.iload_n 3, 1) := by decide +kernel
theorem dX11_place_17 : decode cX11_place 17 = .ok (.invokestatic 295, 3) := by decide +kernel
theorem dX11_place_20 : decode cX11_place 20 = .ok (.ifCond .ne 7, 3) := by decide +kernel
theorem dX11_place_23 : decode cX11_place 23 = .ok (.ldc2_w 298, 3) := by decide +kernel
theorem dX11_place_26 : decode cX11_place 26 = .ok (.lreturn, 1) := by decide +kernel
theorem dX11_place_27 : decode cX11_place 27 = .ok (.aload_n 0, 1) := by decide +kernel
theorem dX11_place_28 : decode cX11_place 28 = .ok (.getfield 41, 3) := by decide +kernel
theorem dX11_place_31 : decode cX11_place 31 = .ok (.getfield 169, 3) := by decide +kernel
theorem dX11_place_34 : decode cX11_place 34 = .ok (.ifCond .ne 7, 3) := by decide +kernel
theorem dX11_place_37 : decode cX11_place 37 = .ok (.lconst 0, 1) := by decide +kernel
theorem dX11_place_38 : decode cX11_place 38 = .ok (.goto 13, 3) := by decide +kernel
theorem dX11_place_41 : decode cX11_place 41 = .ok (.aload_n 0, 1) := by decide +kernel
theorem dX11_place_42 : decode cX11_place 42 = .ok (.iload_n 3, 1) := by decide +kernel
theorem dX11_place_43 : decode cX11_place 43 = .ok (.invokevirtual 300, 3) := by decide +kernel
theorem dX11_place_46 : decode cX11_place 46 = .ok (.iload_n 1, 1) := by decide +kernel
theorem dX11_place_47 : decode cX11_place 47 = .ok (.iload_n 2, 1) := by decide +kernel
theorem dX11_place_48 : decode cX11_place 48 = .ok (.invokevirtual 308, 3) := by decide +kernel
theorem dX11_place_51 : decode cX11_place 51 = .ok (.lreturn, 1) := by decide +kernel
theorem dX11_all_0 : decode cX11_all 0 = .ok (.iload_n 1, 1) := by decide +kernel
theorem dX11_all_1 : decode cX11_all 1 = .ok (.invokestatic 295, 3) := by decide +kernel
theorem dX11_all_4 : decode cX11_all 4 = .ok (.ifCond .ne 7, 3) := by decide +kernel
theorem dX11_all_7 : decode cX11_all 7 = .ok (.ldc2_w 298, 3) := by decide +kernel
theorem dX11_all_10 : decode cX11_all 10 = .ok (.lreturn, 1) := by decide +kernel
theorem dX11_all_11 : decode cX11_all 11 = .ok (.aload_n 0, 1) := by decide +kernel
theorem dX11_all_12 : decode cX11_all 12 = .ok (.getfield 41, 3) := by decide +kernel
theorem dX11_all_15 : decode cX11_all 15 = .ok (.getfield 169, 3) := by decide +kernel
theorem dX11_all_18 : decode cX11_all 18 = .ok (.ifCond .ne 5, 3) := by decide +kernel
theorem dX11_all_21 : decode cX11_all 21 = .ok (.lconst 0, 1) := by decide +kernel
theorem dX11_all_22 : decode cX11_all 22 = .ok (.lreturn, 1) := by decide +kernel
theorem dX11_all_23 : decode cX11_all 23 = .ok (.iload_n 1, 1) := by decide +kernel
theorem dX11_all_24 : decode cX11_all 24 = .ok (.iconst 1, 1) := by decide +kernel
theorem dX11_all_25 : decode cX11_all 25 = .ok (.if_icmp .ne 12, 3) := by decide +kernel
theorem dX11_all_28 : decode cX11_all 28 = .ok (.aload_n 0, 1) := by decide +kernel
theorem dX11_all_29 : decode cX11_all 29 = .ok (.iconst 1, 1) := by decide +kernel
theorem dX11_all_30 : decode cX11_all 30 = .ok (.invokevirtual 300, 3) := by decide +kernel
theorem dX11_all_33 : decode cX11_all 33 = .ok (.getfield 311, 3) := by decide +kernel
theorem dX11_all_36 : decode cX11_all 36 = .ok (.lreturn, 1) := by decide +kernel
theorem dX11_all_37 : decode cX11_all 37 = .ok (.aload_n 0, 1) := by decide +kernel
theorem dX11_all_38 : decode cX11_all 38 = .ok (.getfield 48, 3) := by decide +kernel
theorem dX11_all_41 : decode cX11_all 41 = .ok (.iload_n 1, 1) := by decide +kernel
theorem dX11_all_42 : decode cX11_all 42 = .ok (.ifCond .ne 9, 3) := by decide +kernel
theorem dX11_all_45 : decode cX11_all 45 = .ok (.getstatic 315, 3) := by decide +kernel
theorem dX11_all_48 : decode cX11_all 48 = .ok (.goto 6, 3) := by decide +kernel
theorem dX11_all_51 : decode cX11_all 51 = .ok (.getstatic 318, 3) := by decide +kernel
theorem dX11_all_54 : decode cX11_all 54 = .ok (.invokevirtual 321, 3) := by decide +kernel
theorem dX11_all_57 : decode cX11_all 57 = .ok (.lreturn, 1) := by decide +kernel
theorem dX11_chancesNow_0 : decode cX11_chancesNow 0 = .ok (.aload_n 0, 1) := by decide +kernel
theorem dX11_chancesNow_1 : decode cX11_chancesNow 1 = .ok (.getfield 48, 3) := by decide +kernel
theorem dX11_chancesNow_4 : decode cX11_chancesNow 4 = .ok (.getfield 273, 3) := by decide +kernel
theorem dX11_chancesNow_7 : decode cX11_chancesNow 7 = .ok (.ifCond .ne 9, 3) := by decide +kernel
theorem dX11_chancesNow_10 : decode cX11_chancesNow 10 = .ok (.aload_n 0, 1) := by decide +kernel
theorem dX11_chancesNow_11 : decode cX11_chancesNow 11 = .ok (.iload_n 1, 1) := by decide +kernel
theorem dX11_chancesNow_12 : decode cX11_chancesNow 12 = .ok (.invokevirtual 325, 3) := by decide +kernel
theorem dX11_chancesNow_15 : decode cX11_chancesNow 15 = .ok (.areturn, 1) := by decide +kernel
theorem dX11_chancesNow_16 : decode cX11_chancesNow 16 = .ok (.aload_n 0, 1) := by decide +kernel
theorem dX11_chancesNow_17 : decode cX11_chancesNow 17 = .ok (.getfield 82, 3) := by decide +kernel
theorem dX11_chancesNow_20 : decode cX11_chancesNow 20 = .ok (.iload_n 1, 1) := by decide +kernel
theorem dX11_chancesNow_21 : decode cX11_chancesNow 21 = .ok (.aaload, 1) := by decide +kernel
theorem dX11_chancesNow_22 : decode cX11_chancesNow 22 = .ok (.astore_n 2, 1) := by decide +kernel
theorem dX11_chancesNow_23 : decode cX11_chancesNow 23 = .ok (.aload_n 2, 1) := by decide +kernel
theorem dX11_chancesNow_24 : decode cX11_chancesNow 24 = .ok (.getfield 149, 3) := by decide +kernel
theorem dX11_chancesNow_27 : decode cX11_chancesNow 27 = .ok (.ifCond .ne 23, 3) := by decide +kernel
theorem dX11_chancesNow_30 : decode cX11_chancesNow 30 = .ok (.aload_n 0, 1) := by decide +kernel
theorem dX11_chancesNow_31 : decode cX11_chancesNow 31 = .ok (.getfield 72, 3) := by decide +kernel
theorem dX11_chancesNow_34 : decode cX11_chancesNow 34 = .ok (.iload_n 1, 1) := by decide +kernel
theorem dX11_chancesNow_35 : decode cX11_chancesNow 35 = .ok (.invokevirtual 328, 3) := by decide +kernel
theorem dX11_chancesNow_38 : decode cX11_chancesNow 38 = .ok (.aload_n 0, 1) := by decide +kernel
theorem dX11_chancesNow_39 : decode cX11_chancesNow 39 = .ok (.getfield 72, 3) := by decide +kernel
theorem dX11_chancesNow_42 : decode cX11_chancesNow 42 = .ok (.aload_n 2, 1) := by decide +kernel
theorem dX11_chancesNow_43 : decode cX11_chancesNow 43 = .ok (.aload_n 0, 1) := by decide +kernel
theorem dX11_chancesNow_44 : decode cX11_chancesNow 44 = .ok (.invokevirtual 237, 3) := by decide +kernel
theorem dX11_chancesNow_47 : decode cX11_chancesNow 47 = .ok (.invokevirtual 331, 3) := by decide +kernel
theorem dX11_chancesNow_50 : decode cX11_chancesNow 50 = .ok (.aload_n 2, 1) := by decide +kernel
theorem dX11_chancesNow_51 : decode cX11_chancesNow 51 = .ok (.areturn, 1) := by decide +kernel
theorem dX11_chancesAtStart_0 : decode cX11_chancesAtStart 0 = .ok (.aload_n 0, 1) := by decide +kernel
theorem dX11_chancesAtStart_1 : decode cX11_chancesAtStart 1 = .ok (.getfield 78, 3) := by decide +kernel
theorem dX11_chancesAtStart_4 : decode cX11_chancesAtStart 4 = .ok (.iload_n 1, 1) := by decide +kernel
theorem dX11_chancesAtStart_5 : decode cX11_chancesAtStart 5 = .ok (.aaload, 1) := by decide +kernel
theorem dX11_chancesAtStart_6 : decode cX11_chancesAtStart 6 = .ok (.astore_n 2, 1) := by decide +kernel
theorem dX11_chancesAtStart_7 : decode cX11_chancesAtStart 7 = .ok (.aload_n 2, 1) := by decide +kernel
theorem dX11_chancesAtStart_8 : decode cX11_chancesAtStart 8 = .ok (.getfield 149, 3) := by decide +kernel
theorem dX11_chancesAtStart_11 : decode cX11_chancesAtStart 11 = .ok (.ifCond .ne 30, 3) := by decide +kernel
theorem dX11_chancesAtStart_14 : decode cX11_chancesAtStart 14 = .ok (.aload_n 0, 1) := by decide +kernel
theorem dX11_chancesAtStart_15 : decode cX11_chancesAtStart 15 = .ok (.getfield 72, 3) := by decide +kernel
theorem dX11_chancesAtStart_18 : decode cX11_chancesAtStart 18 = .ok (.iload_n 1, 1) := by decide +kernel
theorem dX11_chancesAtStart_19 : decode cX11_chancesAtStart 19 = .ok (.aload_n 0, 1) := by decide +kernel
theorem dX11_chancesAtStart_20 : decode cX11_chancesAtStart 20 = .ok (.getfield 48, 3) := by decide +kernel
theorem dX11_chancesAtStart_23 : decode cX11_chancesAtStart 23 = .ok (.getfield 221, 3) := by decide +kernel
theorem dX11_chancesAtStart_26 : decode cX11_chancesAtStart 26 = .ok (.invokevirtual 335, 3) := by decide +kernel
theorem dX11_chancesAtStart_29 : decode cX11_chancesAtStart 29 = .ok (.aload_n 0, 1) := by decide +kernel
theorem dX11_chancesAtStart_30 : decode cX11_chancesAtStart 30 = .ok (.getfield 72, 3) := by decide +kernel
theorem dX11_chancesAtStart_33 : decode cX11_chancesAtStart 33 = .ok (.aload_n 2, 1) := by decide +kernel
theorem dX11_chancesAtStart_34 : decode cX11_chancesAtStart 34 = .ok (.aload_n 0, 1) := by decide +kernel
theorem dX11_chancesAtStart_35 : decode cX11_chancesAtStart 35 = .ok (.invokevirtual 237, 3) := by decide +kernel
theorem dX11_chancesAtStart_38 : decode cX11_chancesAtStart 38 = .ok (.invokevirtual 331, 3) := by decide +kernel
theorem dX11_chancesAtStart_41 : decode cX11_chancesAtStart 41 = .ok (.aload_n 2, 1) := by decide +kernel
theorem dX11_chancesAtStart_42 : decode cX11_chancesAtStart 42 = .ok (.areturn, 1) := by decide +kernel
theorem dX11_apart_0 : decode cX11_apart 0 = .ok (.iload_n 1, 1) := by decide +kernel
theorem dX11_apart_1 : decode cX11_apart 1 = .ok (.invokestatic 295, 3) := by decide +kernel
theorem dX11_apart_4 : decode cX11_apart 4 = .ok (.ifCond .eq 24, 3) := by decide +kernel
theorem dX11_apart_7 : decode cX11_apart 7 = .ok (.iload_n 2, 1) := by decide +kernel
theorem dX11_apart_8 : decode cX11_apart 8 = .ok (.invokestatic 295, 3) := by decide +kernel
theorem dX11_apart_11 : decode cX11_apart 11 = .ok (.ifCond .eq 17, 3) := by decide +kernel
theorem dX11_apart_14 : decode cX11_apart 14 = .ok (.iload_n 1, 1) := by decide +kernel
theorem dX11_apart_15 : decode cX11_apart 15 = .ok (.iload_n 2, 1) := by decide +kernel
theorem dX11_apart_16 : decode cX11_apart 16 = .ok (.if_icmp .eq 12, 3) := by decide +kernel
theorem dX11_apart_19 : decode cX11_apart 19 = .ok (.iload_n 3, 1) := by decide +kernel
theorem dX11_apart_20 : decode cX11_apart 20 = .ok (.ifCond .lt 8, 3) := by decide +kernel
theorem dX11_apart_23 : decode cX11_apart 23 = .ok (.iload_n 3, 1) := by decide +kernel
theorem dX11_apart_24 : decode cX11_apart 24 = .ok (.iconst 5, 1) := by decide +kernel
theorem dX11_apart_25 : decode cX11_apart 25 = .ok (.if_icmp .le 7, 3) := by decide +kernel
theorem dX11_apart_28 : decode cX11_apart 28 = .ok (.iconst 1, 1) := by decide +kernel
theorem dX11_apart_29 : decode cX11_apart 29 = .ok (.goto 4, 3) := by decide +kernel
theorem dX11_apart_32 : decode cX11_apart 32 = .ok (.iconst 0, 1) := by decide +kernel
theorem dX11_apart_33 : decode cX11_apart 33 = .ok (.istore 4, 2) := by decide +kernel
theorem dX11_apart_35 : decode cX11_apart 35 = .ok (.iload 4, 2) := by decide +kernel
theorem dX11_apart_37 : decode cX11_apart 37 = .ok (.ifCond .ne 13, 3) := by decide +kernel
theorem dX11_apart_40 : decode cX11_apart 40 = .ok (.aload_n 0, 1) := by decide +kernel
theorem dX11_apart_41 : decode cX11_apart 41 = .ok (.getfield 41, 3) := by decide +kernel
theorem dX11_apart_44 : decode cX11_apart 44 = .ok (.getfield 169, 3) := by decide +kernel
theorem dX11_apart_47 : decode cX11_apart 47 = .ok (.ifCond .ne 7, 3) := by decide +kernel
theorem dX11_apart_50 : decode cX11_apart 50 = .ok (.ldc2_w 341, 3) := by decide +kernel
theorem dX11_apart_53 : decode cX11_apart 53 = .ok (.lreturn, 1) := by decide +kernel
theorem dX11_apart_54 : decode cX11_apart 54 = .ok (.aload_n 0, 1) := by decide +kernel
theorem dX11_apart_55 : decode cX11_apart 55 = .ok (.iload_n 1, 1) := by decide +kernel
theorem dX11_apart_56 : decode cX11_apart 56 = .ok (.invokevirtual 325, 3) := by decide +kernel
theorem dX11_apart_59 : decode cX11_apart 59 = .ok (.astore 5, 2) := by decide +kernel
theorem dX11_apart_61 : decode cX11_apart 61 = .ok (.aload_n 0, 1) := by decide +kernel
theorem dX11_apart_62 : decode cX11_apart 62 = .ok (.iload_n 2, 1) := by decide +kernel
theorem dX11_apart_63 : decode cX11_apart 63 = .ok (.invokevirtual 325, 3) := by decide +kernel
theorem dX11_apart_66 : decode cX11_apart 66 = .ok (.astore 6, 2) := by decide +kernel
theorem dX11_apart_68 : decode cX11_apart 68 = .ok (.aload_n 0, 1) := by decide +kernel
theorem dX11_apart_69 : decode cX11_apart 69 = .ok (.aload 5, 2) := by decide +kernel
theorem dX11_apart_71 : decode cX11_apart 71 = .ok (.aload 6, 2) := by decide +kernel
theorem dX11_apart_73 : decode cX11_apart 73 = .ok (.invokevirtual 343, 3) := by decide +kernel
theorem dX11_apart_76 : decode cX11_apart 76 = .ok (.istore 7, 2) := by decide +kernel
theorem dX11_apart_78 : decode cX11_apart 78 = .ok (.iload_n 3, 1) := by decide +kernel
theorem dX11_apart_79 : decode cX11_apart 79 = .ok (.tableswitch 117 0 4 #[33, 42, 51, 70, 89], 33) := by decide +kernel
theorem dX11_apart_112 : decode cX11_apart 112 = .ok (.aload_n 0, 1) := by decide +kernel
theorem dX11_apart_113 : decode cX11_apart 113 = .ok (.aload 5, 2) := by decide +kernel
theorem dX11_apart_115 : decode cX11_apart 115 = .ok (.aload 6, 2) := by decide +kernel
theorem dX11_apart_117 : decode cX11_apart 117 = .ok (.invokevirtual 347, 3) := by decide +kernel
theorem dX11_apart_120 : decode cX11_apart 120 = .ok (.lreturn, 1) := by decide +kernel
theorem dX11_apart_121 : decode cX11_apart 121 = .ok (.aload_n 0, 1) := by decide +kernel
theorem dX11_apart_122 : decode cX11_apart 122 = .ok (.aload 5, 2) := by decide +kernel
theorem dX11_apart_124 : decode cX11_apart 124 = .ok (.aload 6, 2) := by decide +kernel
theorem dX11_apart_126 : decode cX11_apart 126 = .ok (.invokevirtual 351, 3) := by decide +kernel
theorem dX11_apart_129 : decode cX11_apart 129 = .ok (.lreturn, 1) := by decide +kernel
theorem dX11_apart_130 : decode cX11_apart 130 = .ok (.iload 7, 2) := by decide +kernel
theorem dX11_apart_132 : decode cX11_apart 132 = .ok (.iconst (-1), 1) := by decide +kernel
theorem dX11_apart_133 : decode cX11_apart 133 = .ok (.if_icmp .ne 9, 3) := by decide +kernel
theorem dX11_apart_136 : decode cX11_apart 136 = .ok (.ldc2_w 298, 3) := by decide +kernel
theorem dX11_apart_139 : decode cX11_apart 139 = .ok (.goto 9, 3) := by decide +kernel
theorem dX11_apart_142 : decode cX11_apart 142 = .ok (.iload 7, 2) := by decide +kernel
theorem dX11_apart_144 : decode cX11_apart 144 = .ok (.bipush 12, 2) := by decide +kernel
theorem dX11_apart_146 : decode cX11_apart 146 = .ok (.idiv, 1) := by decide +kernel
theorem dX11_apart_147 : decode cX11_apart 147 = .ok (.i2l, 1) := by decide +kernel
theorem dX11_apart_148 : decode cX11_apart 148 = .ok (.lreturn, 1) := by decide +kernel
theorem dX11_apart_149 : decode cX11_apart 149 = .ok (.iload 7, 2) := by decide +kernel
theorem dX11_apart_151 : decode cX11_apart 151 = .ok (.iconst (-1), 1) := by decide +kernel
theorem dX11_apart_152 : decode cX11_apart 152 = .ok (.if_icmp .ne 9, 3) := by decide +kernel
theorem dX11_apart_155 : decode cX11_apart 155 = .ok (.ldc2_w 298, 3) := by decide +kernel
theorem dX11_apart_158 : decode cX11_apart 158 = .ok (.goto 9, 3) := by decide +kernel
theorem dX11_apart_161 : decode cX11_apart 161 = .ok (.iload 7, 2) := by decide +kernel
theorem dX11_apart_163 : decode cX11_apart 163 = .ok (.bipush 12, 2) := by decide +kernel
theorem dX11_apart_165 : decode cX11_apart 165 = .ok (.irem, 1) := by decide +kernel
theorem dX11_apart_166 : decode cX11_apart 166 = .ok (.i2l, 1) := by decide +kernel
theorem dX11_apart_167 : decode cX11_apart 167 = .ok (.lreturn, 1) := by decide +kernel
theorem dX11_apart_168 : decode cX11_apart 168 = .ok (.iload 7, 2) := by decide +kernel
theorem dX11_apart_170 : decode cX11_apart 170 = .ok (.iconst (-1), 1) := by decide +kernel
theorem dX11_apart_171 : decode cX11_apart 171 = .ok (.if_icmp .ne 7, 3) := by decide +kernel
theorem dX11_apart_174 : decode cX11_apart 174 = .ok (.lconst 0, 1) := by decide +kernel
theorem dX11_apart_175 : decode cX11_apart 175 = .ok (.goto 20, 3) := by decide +kernel
theorem dX11_apart_178 : decode cX11_apart 178 = .ok (.aload 5, 2) := by decide +kernel
theorem dX11_apart_180 : decode cX11_apart 180 = .ok (.aload 6, 2) := by decide +kernel
theorem dX11_apart_182 : decode cX11_apart 182 = .ok (.iload 7, 2) := by decide +kernel
theorem dX11_apart_184 : decode cX11_apart 184 = .ok (.bipush 12, 2) := by decide +kernel
theorem dX11_apart_186 : decode cX11_apart 186 = .ok (.idiv, 1) := by decide +kernel
theorem dX11_apart_187 : decode cX11_apart 187 = .ok (.iload 7, 2) := by decide +kernel
theorem dX11_apart_189 : decode cX11_apart 189 = .ok (.bipush 12, 2) := by decide +kernel
theorem dX11_apart_191 : decode cX11_apart 191 = .ok (.irem, 1) := by decide +kernel
theorem dX11_apart_192 : decode cX11_apart 192 = .ok (.invokestatic 354, 3) := by decide +kernel
theorem dX11_apart_195 : decode cX11_apart 195 = .ok (.lreturn, 1) := by decide +kernel
theorem dX11_apart_196 : decode cX11_apart 196 = .ok (.aload 5, 2) := by decide +kernel
theorem dX11_apart_198 : decode cX11_apart 198 = .ok (.getfield 311, 3) := by decide +kernel
theorem dX11_apart_201 : decode cX11_apart 201 = .ok (.aload 6, 2) := by decide +kernel
theorem dX11_apart_203 : decode cX11_apart 203 = .ok (.getfield 311, 3) := by decide +kernel
theorem dX11_apart_206 : decode cX11_apart 206 = .ok (.lmul, 1) := by decide +kernel
theorem dX11_apart_207 : decode cX11_apart 207 = .ok (.lreturn, 1) := by decide +kernel
theorem dX11_far_0 : decode cX11_far 0 = .ok (.aload_n 0, 1) := by decide +kernel
theorem dX11_far_1 : decode cX11_far 1 = .ok (.iload_n 2, 1) := by decide +kernel
theorem dX11_far_2 : decode cX11_far 2 = .ok (.iload_n 3, 1) := by decide +kernel
theorem dX11_far_3 : decode cX11_far 3 = .ok (.invokevirtual 304, 3) := by decide +kernel
theorem dX11_far_6 : decode cX11_far 6 = .ok (.aload_n 1, 1) := by decide +kernel
theorem dX11_far_7 : decode cX11_far 7 = .ok (.getfield 311, 3) := by decide +kernel
theorem dX11_far_10 : decode cX11_far 10 = .ok (.lmul, 1) := by decide +kernel
theorem dX11_far_11 : decode cX11_far 11 = .ok (.aload_n 1, 1) := by decide +kernel
theorem dX11_far_12 : decode cX11_far 12 = .ok (.iload_n 2, 1) := by decide +kernel
theorem dX11_far_13 : decode cX11_far 13 = .ok (.iload_n 3, 1) := by decide +kernel
theorem dX11_far_14 : decode cX11_far 14 = .ok (.invokevirtual 304, 3) := by decide +kernel
theorem dX11_far_17 : decode cX11_far 17 = .ok (.aload_n 0, 1) := by decide +kernel
theorem dX11_far_18 : decode cX11_far 18 = .ok (.getfield 311, 3) := by decide +kernel
theorem dX11_far_21 : decode cX11_far 21 = .ok (.lmul, 1) := by decide +kernel
theorem dX11_far_22 : decode cX11_far 22 = .ok (.lsub, 1) := by decide +kernel
theorem dX11_far_23 : decode cX11_far 23 = .ok (.lreturn, 1) := by decide +kernel
theorem dX11_farthest_0 : decode cX11_farthest 0 = .ok (.iconst (-1), 1) := by decide +kernel
theorem dX11_farthest_1 : decode cX11_farthest 1 = .ok (.istore_n 3, 1) := by decide +kernel
theorem dX11_farthest_2 : decode cX11_farthest 2 = .ok (.ldc2_w 298, 3) := by decide +kernel
theorem dX11_farthest_5 : decode cX11_farthest 5 = .ok (.lstore 4, 2) := by decide +kernel
theorem dX11_farthest_7 : decode cX11_farthest 7 = .ok (.iconst 0, 1) := by decide +kernel
theorem dX11_farthest_8 : decode cX11_farthest 8 = .ok (.istore 6, 2) := by decide +kernel
theorem dX11_farthest_10 : decode cX11_farthest 10 = .ok (.iload 6, 2) := by decide +kernel
theorem dX11_farthest_12 : decode cX11_farthest 12 = .ok (.aload_n 0, 1) := by decide +kernel
theorem dX11_farthest_13 : decode cX11_farthest 13 = .ok (.getfield 16, 3) := by decide +kernel
theorem dX11_farthest_16 : decode cX11_farthest 16 = .ok (.getfield 202, 3) := by decide +kernel
theorem dX11_farthest_19 : decode cX11_farthest 19 = .ok (.if_icmp .ge 73, 3) := by decide +kernel
theorem dX11_farthest_22 : decode cX11_farthest 22 = .ok (.aload_n 0, 1) := by decide +kernel
theorem dX11_farthest_23 : decode cX11_farthest 23 = .ok (.getfield 16, 3) := by decide +kernel
theorem dX11_farthest_26 : decode cX11_farthest 26 = .ok (.iload 6, 2) := by decide +kernel
theorem dX11_farthest_28 : decode cX11_farthest 28 = .ok (.invokevirtual 358, 3) := by decide +kernel
theorem dX11_farthest_31 : decode cX11_farthest 31 = .ok (.istore 7, 2) := by decide +kernel
theorem dX11_farthest_33 : decode cX11_farthest 33 = .ok (.iload 7, 2) := by decide +kernel
theorem dX11_farthest_35 : decode cX11_farthest 35 = .ok (.aload_n 0, 1) := by decide +kernel
theorem dX11_farthest_36 : decode cX11_farthest 36 = .ok (.getfield 16, 3) := by decide +kernel
theorem dX11_farthest_39 : decode cX11_farthest 39 = .ok (.getfield 202, 3) := by decide +kernel
theorem dX11_farthest_42 : decode cX11_farthest 42 = .ok (.if_icmp .ge 44, 3) := by decide +kernel
theorem dX11_farthest_45 : decode cX11_farthest 45 = .ok (.aload_n 1, 1) := by decide +kernel
theorem dX11_farthest_46 : decode cX11_farthest 46 = .ok (.aload_n 2, 1) := by decide +kernel
theorem dX11_farthest_47 : decode cX11_farthest 47 = .ok (.iload 6, 2) := by decide +kernel
theorem dX11_farthest_49 : decode cX11_farthest 49 = .ok (.iload 7, 2) := by decide +kernel
theorem dX11_farthest_51 : decode cX11_farthest 51 = .ok (.invokestatic 354, 3) := by decide +kernel
theorem dX11_farthest_54 : decode cX11_farthest 54 = .ok (.invokestatic 361, 3) := by decide +kernel
theorem dX11_farthest_57 : decode cX11_farthest 57 = .ok (.lstore 8, 2) := by decide +kernel
theorem dX11_farthest_59 : decode cX11_farthest 59 = .ok (.lload 8, 2) := by decide +kernel
theorem dX11_farthest_61 : decode cX11_farthest 61 = .ok (.lload 4, 2) := by decide +kernel
theorem dX11_farthest_63 : decode cX11_farthest 63 = .ok (.lcmp, 1) := by decide +kernel
theorem dX11_farthest_64 : decode cX11_farthest 64 = .ok (.ifCond .le 16, 3) := by decide +kernel
theorem dX11_farthest_67 : decode cX11_farthest 67 = .ok (.lload 8, 2) := by decide +kernel
theorem dX11_farthest_69 : decode cX11_farthest 69 = .ok (.lstore 4, 2) := by decide +kernel
theorem dX11_farthest_71 : decode cX11_farthest 71 = .ok (.iload 6, 2) := by decide +kernel
theorem dX11_farthest_73 : decode cX11_farthest 73 = .ok (.bipush 12, 2) := by decide +kernel
theorem dX11_farthest_75 : decode cX11_farthest 75 = .ok (.imul, 1) := by decide +kernel
theorem dX11_farthest_76 : decode cX11_farthest 76 = .ok (.iload 7, 2) := by decide +kernel
theorem dX11_farthest_78 : decode cX11_farthest 78 = .ok (.iadd, 1) := by decide +kernel
theorem dX11_farthest_79 : decode cX11_farthest 79 = .ok (.istore_n 3, 1) := by decide +kernel
theorem dX11_farthest_80 : decode cX11_farthest 80 = .ok (.iinc 7 1, 3) := by decide +kernel
theorem dX11_farthest_83 : decode cX11_farthest 83 = .ok (.goto (-50), 3) := by decide +kernel
theorem dX11_farthest_86 : decode cX11_farthest 86 = .ok (.iinc 6 1, 3) := by decide +kernel
theorem dX11_farthest_89 : decode cX11_farthest 89 = .ok (.goto (-79), 3) := by decide +kernel
theorem dX11_farthest_92 : decode cX11_farthest 92 = .ok (.iload_n 3, 1) := by decide +kernel
theorem dX11_farthest_93 : decode cX11_farthest 93 = .ok (.ireturn, 1) := by decide +kernel
theorem dX11_sumOfFar_0 : decode cX11_sumOfFar 0 = .ok (.lconst 0, 1) := by decide +kernel
theorem dX11_sumOfFar_1 : decode cX11_sumOfFar 1 = .ok (.lstore_n 3, 1) := by decide +kernel
theorem dX11_sumOfFar_2 : decode cX11_sumOfFar 2 = .ok (.iconst 0, 1) := by decide +kernel
theorem dX11_sumOfFar_3 : decode cX11_sumOfFar 3 = .ok (.istore 5, 2) := by decide +kernel
theorem dX11_sumOfFar_5 : decode cX11_sumOfFar 5 = .ok (.iload 5, 2) := by decide +kernel
theorem dX11_sumOfFar_7 : decode cX11_sumOfFar 7 = .ok (.aload_n 0, 1) := by decide +kernel
theorem dX11_sumOfFar_8 : decode cX11_sumOfFar 8 = .ok (.getfield 16, 3) := by decide +kernel
theorem dX11_sumOfFar_11 : decode cX11_sumOfFar 11 = .ok (.getfield 202, 3) := by decide +kernel
theorem dX11_sumOfFar_14 : decode cX11_sumOfFar 14 = .ok (.if_icmp .ge 53, 3) := by decide +kernel
theorem dX11_sumOfFar_17 : decode cX11_sumOfFar 17 = .ok (.aload_n 0, 1) := by decide +kernel
theorem dX11_sumOfFar_18 : decode cX11_sumOfFar 18 = .ok (.getfield 16, 3) := by decide +kernel
theorem dX11_sumOfFar_21 : decode cX11_sumOfFar 21 = .ok (.iload 5, 2) := by decide +kernel
theorem dX11_sumOfFar_23 : decode cX11_sumOfFar 23 = .ok (.invokevirtual 358, 3) := by decide +kernel
theorem dX11_sumOfFar_26 : decode cX11_sumOfFar 26 = .ok (.istore 6, 2) := by decide +kernel
theorem dX11_sumOfFar_28 : decode cX11_sumOfFar 28 = .ok (.iload 6, 2) := by decide +kernel
theorem dX11_sumOfFar_30 : decode cX11_sumOfFar 30 = .ok (.aload_n 0, 1) := by decide +kernel
theorem dX11_sumOfFar_31 : decode cX11_sumOfFar 31 = .ok (.getfield 16, 3) := by decide +kernel
theorem dX11_sumOfFar_34 : decode cX11_sumOfFar 34 = .ok (.getfield 202, 3) := by decide +kernel
theorem dX11_sumOfFar_37 : decode cX11_sumOfFar 37 = .ok (.if_icmp .ge 24, 3) := by decide +kernel
theorem dX11_sumOfFar_40 : decode cX11_sumOfFar 40 = .ok (.lload_n 3, 1) := by decide +kernel
theorem dX11_sumOfFar_41 : decode cX11_sumOfFar 41 = .ok (.aload_n 1, 1) := by decide +kernel
theorem dX11_sumOfFar_42 : decode cX11_sumOfFar 42 = .ok (.aload_n 2, 1) := by decide +kernel
theorem dX11_sumOfFar_43 : decode cX11_sumOfFar 43 = .ok (.iload 5, 2) := by decide +kernel
theorem dX11_sumOfFar_45 : decode cX11_sumOfFar 45 = .ok (.iload 6, 2) := by decide +kernel
theorem dX11_sumOfFar_47 : decode cX11_sumOfFar 47 = .ok (.invokestatic 354, 3) := by decide +kernel
theorem dX11_sumOfFar_50 : decode cX11_sumOfFar 50 = .ok (.invokestatic 361, 3) := by decide +kernel
theorem dX11_sumOfFar_53 : decode cX11_sumOfFar 53 = .ok (.ladd, 1) := by decide +kernel
theorem dX11_sumOfFar_54 : decode cX11_sumOfFar 54 = .ok (.lstore_n 3, 1) := by decide +kernel
theorem dX11_sumOfFar_55 : decode cX11_sumOfFar 55 = .ok (.iinc 6 1, 3) := by decide +kernel
theorem dX11_sumOfFar_58 : decode cX11_sumOfFar 58 = .ok (.goto (-30), 3) := by decide +kernel
theorem dX11_sumOfFar_61 : decode cX11_sumOfFar 61 = .ok (.iinc 5 1, 3) := by decide +kernel
theorem dX11_sumOfFar_64 : decode cX11_sumOfFar 64 = .ok (.goto (-59), 3) := by decide +kernel
theorem dX11_sumOfFar_67 : decode cX11_sumOfFar 67 = .ok (.lload_n 3, 1) := by decide +kernel
theorem dX11_sumOfFar_68 : decode cX11_sumOfFar 68 = .ok (.lreturn, 1) := by decide +kernel
theorem dX11_nearest_0 : decode cX11_nearest 0 = .ok (.aload_n 0, 1) := by decide +kernel
theorem dX11_nearest_1 : decode cX11_nearest 1 = .ok (.getfield 41, 3) := by decide +kernel
theorem dX11_nearest_4 : decode cX11_nearest 4 = .ok (.getfield 169, 3) := by decide +kernel
theorem dX11_nearest_7 : decode cX11_nearest 7 = .ok (.ifCond .ne 6, 3) := by decide +kernel
theorem dX11_nearest_10 : decode cX11_nearest 10 = .ok (.bipush (-2), 2) := by decide +kernel
theorem dX11_nearest_12 : decode cX11_nearest 12 = .ok (.ireturn, 1) := by decide +kernel
theorem dX11_nearest_13 : decode cX11_nearest 13 = .ok (.aload_n 0, 1) := by decide +kernel
theorem dX11_nearest_14 : decode cX11_nearest 14 = .ok (.iconst 1, 1) := by decide +kernel
theorem dX11_nearest_15 : decode cX11_nearest 15 = .ok (.invokevirtual 325, 3) := by decide +kernel
theorem dX11_nearest_18 : decode cX11_nearest 18 = .ok (.astore_n 2, 1) := by decide +kernel
theorem dX11_nearest_19 : decode cX11_nearest 19 = .ok (.iload_n 1, 1) := by decide +kernel
theorem dX11_nearest_20 : decode cX11_nearest 20 = .ok (.ifCond .ne 41, 3) := by decide +kernel
theorem dX11_nearest_23 : decode cX11_nearest 23 = .ok (.aload_n 0, 1) := by decide +kernel
theorem dX11_nearest_24 : decode cX11_nearest 24 = .ok (.aload_n 0, 1) := by decide +kernel
theorem dX11_nearest_25 : decode cX11_nearest 25 = .ok (.getfield 104, 3) := by decide +kernel
theorem dX11_nearest_28 : decode cX11_nearest 28 = .ok (.bipush (-3), 2) := by decide +kernel
theorem dX11_nearest_30 : decode cX11_nearest 30 = .ok (.if_icmp .ne 19, 3) := by decide +kernel
theorem dX11_nearest_33 : decode cX11_nearest 33 = .ok (.aload_n 0, 1) := by decide +kernel
theorem dX11_nearest_34 : decode cX11_nearest 34 = .ok (.aload_n 0, 1) := by decide +kernel
theorem dX11_nearest_35 : decode cX11_nearest 35 = .ok (.getfield 16, 3) := by decide +kernel
theorem dX11_nearest_38 : decode cX11_nearest 38 = .ok (.getfield 208, 3) := by decide +kernel
theorem dX11_nearest_41 : decode cX11_nearest 41 = .ok (.iconst 1, 1) := by decide +kernel
theorem dX11_nearest_42 : decode cX11_nearest 42 = .ok (.aload_n 2, 1) := by decide +kernel
theorem dX11_nearest_43 : decode cX11_nearest 43 = .ok (.invokevirtual 367, 3) := by decide +kernel
theorem dX11_nearest_46 : decode cX11_nearest 46 = .ok (.goto 7, 3) := by decide +kernel
theorem dX11_nearest_49 : decode cX11_nearest 49 = .ok (.aload_n 0, 1) := by decide +kernel
theorem dX11_nearest_50 : decode cX11_nearest 50 = .ok (.getfield 104, 3) := by decide +kernel
theorem dX11_nearest_53 : decode cX11_nearest 53 = .ok (.putfield 104, 3) := by decide +kernel
theorem dX11_nearest_56 : decode cX11_nearest 56 = .ok (.aload_n 0, 1) := by decide +kernel
theorem dX11_nearest_57 : decode cX11_nearest 57 = .ok (.getfield 104, 3) := by decide +kernel
theorem dX11_nearest_60 : decode cX11_nearest 60 = .ok (.ireturn, 1) := by decide +kernel
theorem dX11_nearest_61 : decode cX11_nearest 61 = .ok (.iload_n 1, 1) := by decide +kernel
theorem dX11_nearest_62 : decode cX11_nearest 62 = .ok (.iconst 1, 1) := by decide +kernel
theorem dX11_nearest_63 : decode cX11_nearest 63 = .ok (.if_icmp .ne 41, 3) := by decide +kernel
theorem dX11_nearest_66 : decode cX11_nearest 66 = .ok (.aload_n 0, 1) := by decide +kernel
theorem dX11_nearest_67 : decode cX11_nearest 67 = .ok (.aload_n 0, 1) := by decide +kernel
theorem dX11_nearest_68 : decode cX11_nearest 68 = .ok (.getfield 108, 3) := by decide +kernel
theorem dX11_nearest_71 : decode cX11_nearest 71 = .ok (.bipush (-3), 2) := by decide +kernel
theorem dX11_nearest_73 : decode cX11_nearest 73 = .ok (.if_icmp .ne 19, 3) := by decide +kernel
theorem dX11_nearest_76 : decode cX11_nearest 76 = .ok (.aload_n 0, 1) := by decide +kernel
theorem dX11_nearest_77 : decode cX11_nearest 77 = .ok (.aload_n 0, 1) := by decide +kernel
theorem dX11_nearest_78 : decode cX11_nearest 78 = .ok (.getfield 16, 3) := by decide +kernel
theorem dX11_nearest_81 : decode cX11_nearest 81 = .ok (.getfield 133, 3) := by decide +kernel
theorem dX11_nearest_84 : decode cX11_nearest 84 = .ok (.iconst 0, 1) := by decide +kernel
theorem dX11_nearest_85 : decode cX11_nearest 85 = .ok (.aload_n 2, 1) := by decide +kernel
theorem dX11_nearest_86 : decode cX11_nearest 86 = .ok (.invokevirtual 367, 3) := by decide +kernel
theorem dX11_nearest_89 : decode cX11_nearest 89 = .ok (.goto 7, 3) := by decide +kernel
theorem dX11_nearest_92 : decode cX11_nearest 92 = .ok (.aload_n 0, 1) := by decide +kernel
theorem dX11_nearest_93 : decode cX11_nearest 93 = .ok (.getfield 108, 3) := by decide +kernel
theorem dX11_nearest_96 : decode cX11_nearest 96 = .ok (.putfield 108, 3) := by decide +kernel
theorem dX11_nearest_99 : decode cX11_nearest 99 = .ok (.aload_n 0, 1) := by decide +kernel
theorem dX11_nearest_100 : decode cX11_nearest 100 = .ok (.getfield 108, 3) := by decide +kernel
theorem dX11_nearest_103 : decode cX11_nearest 103 = .ok (.ireturn, 1) := by decide +kernel
theorem dX11_nearest_104 : decode cX11_nearest 104 = .ok (.iconst (-1), 1) := by decide +kernel
theorem dX11_nearest_105 : decode cX11_nearest 105 = .ok (.ireturn, 1) := by decide +kernel
theorem dX11_findNearest_0 : decode cX11_findNearest 0 = .ok (.iconst 4, 1) := by decide +kernel
theorem dX11_findNearest_1 : decode cX11_findNearest 1 = .ok (.newarray .int, 2) := by decide +kernel
theorem dX11_findNearest_3 : decode cX11_findNearest 3 = .ok (.astore 4, 2) := by decide +kernel
theorem dX11_findNearest_5 : decode cX11_findNearest 5 = .ok (.iconst 0, 1) := by decide +kernel
theorem dX11_findNearest_6 : decode cX11_findNearest 6 = .ok (.istore 5, 2) := by decide +kernel
theorem dX11_findNearest_8 : decode cX11_findNearest 8 = .ok (.ldc2_w 371, 3) := by decide +kernel
theorem dX11_findNearest_11 : decode cX11_findNearest 11 = .ok (.lstore 6, 2) := by decide +kernel
theorem dX11_findNearest_13 : decode cX11_findNearest 13 = .ok (.iconst 0, 1) := by decide +kernel
theorem dX11_findNearest_14 : decode cX11_findNearest 14 = .ok (.istore 8, 2) := by decide +kernel
theorem dX11_findNearest_16 : decode cX11_findNearest 16 = .ok (.iload 8, 2) := by decide +kernel
theorem dX11_findNearest_18 : decode cX11_findNearest 18 = .ok (.iconst 1, 1) := by decide +kernel
theorem dX11_findNearest_19 : decode cX11_findNearest 19 = .ok (.iconst 2, 1) := by decide +kernel
theorem dX11_findNearest_20 : decode cX11_findNearest 20 = .ok (.iload_n 1, 1) := by decide +kernel
theorem dX11_findNearest_21 : decode cX11_findNearest 21 = .ok (.imul, 1) := by decide +kernel
theorem dX11_findNearest_22 : decode cX11_findNearest 22 = .ok (.ishl, 1) := by decide +kernel
theorem dX11_findNearest_23 : decode cX11_findNearest 23 = .ok (.if_icmp .ge 83, 3) := by decide +kernel
theorem dX11_findNearest_26 : decode cX11_findNearest 26 = .ok (.lload 6, 2) := by decide +kernel
theorem dX11_findNearest_28 : decode cX11_findNearest 28 = .ok (.lconst 0, 1) := by decide +kernel
theorem dX11_findNearest_29 : decode cX11_findNearest 29 = .ok (.lcmp, 1) := by decide +kernel
theorem dX11_findNearest_30 : decode cX11_findNearest 30 = .ok (.ifCond .le 76, 3) := by decide +kernel
theorem dX11_findNearest_33 : decode cX11_findNearest 33 = .ok (.iload 8, 2) := by decide +kernel
theorem dX11_findNearest_35 : decode cX11_findNearest 35 = .ok (.iload_n 1, 1) := by decide +kernel
theorem dX11_findNearest_36 : decode cX11_findNearest 36 = .ok (.aload 4, 2) := by decide +kernel
theorem dX11_findNearest_38 : decode cX11_findNearest 38 = .ok (.invokestatic 373, 3) := by decide +kernel
theorem dX11_findNearest_41 : decode cX11_findNearest 41 = .ok (.ifCond .eq 59, 3) := by decide +kernel
theorem dX11_findNearest_44 : decode cX11_findNearest 44 = .ok (.iload_n 2, 1) := by decide +kernel
theorem dX11_findNearest_45 : decode cX11_findNearest 45 = .ok (.ifCond .ne 12, 3) := by decide +kernel
theorem dX11_findNearest_48 : decode cX11_findNearest 48 = .ok (.aload_n 0, 1) := by decide +kernel
theorem dX11_findNearest_49 : decode cX11_findNearest 49 = .ok (.aload 4, 2) := by decide +kernel
theorem dX11_findNearest_51 : decode cX11_findNearest 51 = .ok (.invokevirtual 376, 3) := by decide +kernel
theorem dX11_findNearest_54 : decode cX11_findNearest 54 = .ok (.ifCond .ne 46, 3) := by decide +kernel
theorem dX11_findNearest_57 : decode cX11_findNearest 57 = .ok (.iload_n 2, 1) := by decide +kernel
theorem dX11_findNearest_58 : decode cX11_findNearest 58 = .ok (.ifCond .eq 13, 3) := by decide +kernel
theorem dX11_findNearest_61 : decode cX11_findNearest 61 = .ok (.aload_n 0, 1) := by decide +kernel
theorem dX11_findNearest_62 : decode cX11_findNearest 62 = .ok (.aload 4, 2) := by decide +kernel
theorem dX11_findNearest_64 : decode cX11_findNearest 64 = .ok (.aload_n 3, 1) := by decide +kernel
theorem dX11_findNearest_65 : decode cX11_findNearest 65 = .ok (.invokevirtual 380, 3) := by decide +kernel
theorem dX11_findNearest_68 : decode cX11_findNearest 68 = .ok (.goto 10, 3) := by decide +kernel
theorem dX11_findNearest_71 : decode cX11_findNearest 71 = .ok (.aload_n 0, 1) := by decide +kernel
theorem dX11_findNearest_72 : decode cX11_findNearest 72 = .ok (.aload 4, 2) := by decide +kernel
theorem dX11_findNearest_74 : decode cX11_findNearest 74 = .ok (.aload_n 3, 1) := by decide +kernel
theorem dX11_findNearest_75 : decode cX11_findNearest 75 = .ok (.invokevirtual 384, 3) := by decide +kernel
theorem dX11_findNearest_78 : decode cX11_findNearest 78 = .ok (.lstore 9, 2) := by decide +kernel
theorem dX11_findNearest_80 : decode cX11_findNearest 80 = .ok (.lload 9, 2) := by decide +kernel
theorem dX11_findNearest_82 : decode cX11_findNearest 82 = .ok (.lload 6, 2) := by decide +kernel
theorem dX11_findNearest_84 : decode cX11_findNearest 84 = .ok (.lcmp, 1) := by decide +kernel
theorem dX11_findNearest_85 : decode cX11_findNearest 85 = .ok (.ifCond .ge 15, 3) := by decide +kernel
theorem dX11_findNearest_88 : decode cX11_findNearest 88 = .ok (.lload 9, 2) := by decide +kernel
theorem dX11_findNearest_90 : decode cX11_findNearest 90 = .ok (.lstore 6, 2) := by decide +kernel
theorem dX11_findNearest_92 : decode cX11_findNearest 92 = .ok (.aload 4, 2) := by decide +kernel
theorem dX11_findNearest_94 : decode cX11_findNearest 94 = .ok (.iload_n 1, 1) := by decide +kernel
theorem dX11_findNearest_95 : decode cX11_findNearest 95 = .ok (.invokestatic 387, 3) := by decide +kernel
theorem dX11_findNearest_98 : decode cX11_findNearest 98 = .ok (.istore 5, 2) := by decide +kernel
theorem dX11_findNearest_100 : decode cX11_findNearest 100 = .ok (.iinc 8 1, 3) := by decide +kernel
theorem dX11_findNearest_103 : decode cX11_findNearest 103 = .ok (.goto (-87), 3) := by decide +kernel
theorem dX11_findNearest_106 : decode cX11_findNearest 106 = .ok (.iload 5, 2) := by decide +kernel
theorem dX11_findNearest_108 : decode cX11_findNearest 108 = .ok (.ireturn, 1) := by decide +kernel
theorem dX11_likeAnEarlierOne_0 : decode cX11_likeAnEarlierOne 0 = .ok (.iconst (-1), 1) := by decide +kernel
theorem dX11_likeAnEarlierOne_1 : decode cX11_likeAnEarlierOne 1 = .ok (.istore_n 2, 1) := by decide +kernel
