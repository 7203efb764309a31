theorem dX11_chancesAtStart_4 : decode cX11_chancesAtStart 4 = .ok (.iload_n 1, 1) := by decide +kernel
theorem dX11_chancesAtStart_5 : decode cX11_chancesAtStart 5 = .ok (.aaload, 1) := by decide +kernel
theorem dX11_chancesAtStart_6 : decode cX11_chancesAtStart 6 = .ok (.astore_n 2, 1) := by decide +kernel
theorem dX11_chancesAtStart_7 : decode cX11_chancesAtStart 7 = .ok (.aload_n 2, 1) := by decide +kernel
theorem dX11_chancesAtStart_8 : decode cX11_chancesAtStart 8 = .ok (.getfield 149, 3) := by decide +kernel
theorem dX11_chancesAtStart_11 : decode cX11_chancesAtStart 11 = .ok (.ifCond .ne 30, 3) := by decide +kernel
theorem dX11_chancesAtStart_14 : decode cX11_chancesAtStart 14 = .ok (.aload_n 0, 1) := by decide +kernel
theorem dX11_chancesAtStart_15 : decode cX11_chancesAtStart 15 = .ok (.getfield 72, 3) := by decide +kernel
theorem dX11_chancesAtStart_18 : decode cX11_chancesAtStart 18 = .ok (.iload_n 1, 1) := by decide +kernel
theorem dX11_chancesAtStart_19 : decode cX11_chancesAtStart 19 = .ok (.aload_n 0, 1) := by decide +kernel
theorem dX11_chancesAtStart_20 : decode cX11_chancesAtStart 20 = .ok (.getfield 48, 3) := by decide +kernel
theorem dX11_chancesAtStart_23 : decode cX11_chancesAtStart 23 = .ok (.getfield 221, 3) := by decide +kernel
theorem dX11_chancesAtStart_26 : decode cX11_chancesAtStart 26 = .ok (.invokevirtual 335, 3) := by decide +kernel
theorem dX11_chancesAtStart_29 : decode cX11_chancesAtStart 29 = .ok (.aload_n 0, 1) := by decide +kernel
theorem dX11_chancesAtStart_30 : decode cX11_chancesAtStart 30 = .ok (.getfield 72, 3) := by decide +kernel
theorem dX11_chancesAtStart_33 : decode cX11_chancesAtStart 33 = .ok (.aload_n 2, 1) := by decide +kernel
theorem dX11_chancesAtStart_34 : decode cX11_chancesAtStart 34 = .ok (.aload_n 0, 1) := by decide +kernel
theorem dX11_chancesAtStart_35 : decode cX11_chancesAtStart 35 = .ok (.invokevirtual 237, 3) := by decide +kernel
theorem dX11_chancesAtStart_38 : decode cX11_chancesAtStart 38 = .ok (.invokevirtual 331, 3) := by decide +kernel
theorem dX11_chancesAtStart_41 : decode cX11_chancesAtStart 41 = .ok (.aload_n 2, 1) := by decide +kernel
theorem dX11_chancesAtStart_42 : decode cX11_chancesAtStart 42 = .ok (.areturn, 1) := by decide +kernel
theorem dX11_apart_0 : decode cX11_apart 0 = .ok (.iload_n 1, 1) := by decide +kernel
theorem dX11_apart_1 : decode cX11_apart 1 = .ok (.invokestatic 295, 3) := by decide +kernel
theorem dX11_apart_4 : decode cX11_apart 4 = .ok (.ifCond .eq 24, 3) := by decide +kernel
theorem dX11_apart_7 : decode cX11_apart 7 = .ok (.iload_n 2, 1) := by decide +kernel
theorem dX11_apart_8 : decode cX11_apart 8 = .ok (.invokestatic 295, 3) := by decide +kernel
theorem dX11_apart_11 : decode cX11_apart 11 = .ok (.ifCond .eq 17, 3) := by decide +kernel
theorem dX11_apart_14 : decode cX11_apart 14 = .ok (.iload_n 1, 1) := by decide +kernel
theorem dX11_apart_15 : decode cX11_apart 15 = .ok (.iload_n 2, 1) := by decide +kernel
theorem dX11_apart_16 : decode cX11_apart 16 = .ok (.if_icmp .eq 12, 3) := by decide +kernel
theorem dX11_apart_19 : decode cX11_apart 19 = .ok (.iload_n 3, 1) := by decide +kernel
theorem dX11_apart_20 : decode cX11_apart 20 = .ok (.ifCond .lt 8, 3) := by decide +kernel
theorem dX11_apart_23 : decode cX11_apart 23 = .ok (.iload_n 3, 1) := by decide +kernel
theorem dX11_apart_24 : decode cX11_apart 24 = .ok (.iconst 5, 1) := by decide +kernel
theorem dX11_apart_25 : decode cX11_apart 25 = .ok (.if_icmp .le 7, 3) := by decide +kernel
theorem dX11_apart_28 : decode cX11_apart 28 = .ok (.iconst 1, 1) := by decide +kernel
theorem dX11_apart_29 : decode cX11_apart 29 = .ok (.goto 4, 3) := by decide +kernel
theorem dX11_apart_32 : decode cX11_apart 32 = .ok (.iconst 0, 1) := by decide +kernel
theorem dX11_apart_33 : decode cX11_apart 33 = .ok (.istore 4, 2) := by decide +kernel
theorem dX11_apart_35 : decode cX11_apart 35 = .ok (.iload 4, 2) := by decide +kernel
theorem dX11_apart_37 : decode cX11_apart 37 = .ok (.ifCond .ne 13, 3) := by decide +kernel
theorem dX11_apart_40 : decode cX11_apart 40 = .ok (.aload_n 0, 1) := by decide +kernel
theorem dX11_apart_41 : decode cX11_apart 41 = .ok (.getfield 41, 3) := by decide +kernel
theorem dX11_apart_44 : decode cX11_apart 44 = .ok (.getfield 169, 3) := by decide +kernel
theorem dX11_apart_47 : decode cX11_apart 47 = .ok (.ifCond .ne 7, 3) := by decide +kernel
theorem dX11_apart_50 : decode cX11_apart 50 = .ok (.ldc2_w 341, 3) := by decide +kernel
theorem dX11_apart_53 : decode cX11_apart 53 = .ok (.lreturn, 1) := by decide +kernel
theorem dX11_apart_54 : decode cX11_apart 54 = .ok (.aload_n 0, 1) := by decide +kernel
theorem dX11_apart_55 : decode cX11_apart 55 = .ok (.iload_n 1, 1) := by decide +kernel
theorem dX11_apart_56 : decode cX11_apart 56 = .ok (.invokevirtual 325, 3) := by decide +kernel
theorem dX11_apart_59 : decode cX11_apart 59 = .ok (.astore 5, 2) := by decide +kernel
theorem dX11_apart_61 : decode cX11_apart 61 = .ok (.aload_n 0, 1) := by decide +kernel
theorem dX11_apart_62 : decode cX11_apart 62 = .ok (.iload_n 2, 1) := by decide +kernel
theorem dX11_apart_63 : decode cX11_apart 63 = .ok (.invokevirtual 325, 3) := by decide +kernel
theorem dX11_apart_66 : decode cX11_apart 66 = .ok (.astore 6, 2) := by decide +kernel
theorem dX11_apart_68 : decode cX11_apart 68 = .ok (.aload_n 0, 1) := by decide +kernel
theorem dX11_apart_69 : decode cX11_apart 69 = .ok (.aload 5, 2) := by decide +kernel
theorem dX11_apart_71 : decode cX11_apart 71 = .ok (.aload 6, 2) := by decide +kernel
theorem dX11_apart_73 : decode cX11_apart 73 = .ok (.invokevirtual 343, 3) := by decide +kernel
theorem dX11_apart_76 : decode cX11_apart 76 = .ok (.istore 7, 2) := by decide +kernel
theorem dX11_apart_78 : decode cX11_apart 78 = .ok (.iload_n 3, 1) := by decide +kernel
theorem dX11_apart_79 : decode cX11_apart 79 = .ok (.tableswitch 117 0 4 #[33, 42, 51, 70, 89], 33) := by decide +kernel
theorem dX11_apart_112 : decode cX11_apart 112 = .ok (.aload_n 0, 1) := by decide +kernel
theorem dX11_apart_113 : decode cX11_apart 113 = .ok (.aload 5, 2) := by decide +kernel
theorem dX11_apart_115 : decode cX11_apart 115 = .ok (.aload 6, 2) := by decide +kernel
theorem dX11_apart_117 : decode cX11_apart 117 = .ok (.invokevirtual 347, 3) := by decide +kernel
theorem dX11_apart_120 : decode cX11_apart 120 = .ok (.lreturn, 1) := by decide +kernel
theorem dX11_apart_121 : decode cX11_apart 121 = .ok (.aload_n 0, 1) := by decide +kernel
theorem dX11_apart_122 : decode cX11_apart 122 = .ok (.aload 5, 2) := by decide +kernel
theorem dX11_apart_124 : decode cX11_apart 124 = .ok (.aload 6, 2) := by decide +kernel
theorem dX11_apart_126 : decode cX11_apart 126 = .ok (.invokevirtual 351, 3) := by decide +kernel
theorem dX11_apart_129 : decode cX11_apart 129 = .ok (.lreturn, 1) := by decide +kernel
theorem dX11_apart_130 : decode cX11_apart 130 = .ok (.iload 7, 2) := by decide +kernel
theorem dX11_apart_132 : decode cX11_apart 132 = .ok (.iconst (-1), 1) := by decide +kernel
theorem dX11_apart_133 : decode cX11_apart 133 = .ok (.if_icmp .ne 9, 3) := by decide +kernel
theorem dX11_apart_136 : decode cX11_apart 136 = .ok (.ldc2_w 298, 3) := by decide +kernel
theorem dX11_apart_139 : decode cX11_apart 139 = .ok (.goto 9, 3) := by decide +kernel
theorem dX11_apart_148 : decode cX11_apart 148 = .ok (.lreturn, 1) := by decide +kernel
theorem dX11_apart_149 : decode cX11_apart 149 = .ok (.iload 7, 2) := by decide +kernel
theorem dX11_apart_151 : decode cX11_apart 151 = .ok (.iconst (-1), 1) := by decide +kernel
theorem dX11_apart_152 : decode cX11_apart 152 = .ok (.if_icmp .ne 9, 3) := by decide +kernel
theorem dX11_apart_155 : decode cX11_apart 155 = .ok (.ldc2_w 298, 3) := by decide +kernel
theorem dX11_apart_158 : decode cX11_apart 158 = .ok (.goto 9, 3) := by decide +kernel
theorem dX11_apart_167 : decode cX11_apart 167 = .ok (.lreturn, 1) := by decide +kernel
theorem dX11_apart_168 : decode cX11_apart 168 = .ok (.iload 7, 2) := by decide +kernel
theorem dX11_apart_170 : decode cX11_apart 170 = .ok (.iconst (-1), 1) := by decide +kernel
theorem dX11_apart_171 : decode cX11_apart 171 = .ok (.if_icmp .ne 7, 3) := by decide +kernel
theorem dX11_apart_174 : decode cX11_apart 174 = .ok (.lconst 0, 1) := by decide +kernel
theorem dX11_apart_175 : decode cX11_apart 175 = .ok (.goto 20, 3) := by decide +kernel
theorem dX11_apart_195 : decode cX11_apart 195 = .ok (.lreturn, 1) := by decide +kernel
theorem dX11_apart_196 : decode cX11_apart 196 = .ok (.aload 5, 2) := by decide +kernel
theorem dX11_apart_198 : decode cX11_apart 198 = .ok (.getfield 311, 3) := by decide +kernel
theorem dX11_apart_201 : decode cX11_apart 201 = .ok (.aload 6, 2) := by decide +kernel
theorem dX11_apart_203 : decode cX11_apart 203 = .ok (.getfield 311, 3) := by decide +kernel
theorem dX11_apart_206 : decode cX11_apart 206 = .ok (.lmul, 1) := by decide +kernel
theorem dX11_apart_207 : decode cX11_apart 207 = .ok (.lreturn, 1) := by decide +kernel
theorem dX11_farthest_0 : decode cX11_farthest 0 = .ok (.iconst (-1), 1) := by decide +kernel
theorem dX11_farthest_1 : decode cX11_farthest 1 = .ok (.istore_n 3, 1) := by decide +kernel
theorem dX11_farthest_2 : decode cX11_farthest 2 = .ok (.ldc2_w 298, 3) := by decide +kernel
theorem dX11_farthest_5 : decode cX11_farthest 5 = .ok (.lstore 4, 2) := by decide +kernel
theorem dX11_farthest_7 : decode cX11_farthest 7 = .ok (.iconst 0, 1) := by decide +kernel
theorem dX11_farthest_8 : decode cX11_farthest 8 = .ok (.istore 6, 2) := by decide +kernel
theorem dX11_farthest_10 : decode cX11_farthest 10 = .ok (.iload 6, 2) := by decide +kernel
theorem dX11_farthest_12 : decode cX11_farthest 12 = .ok (.aload_n 0, 1) := by decide +kernel
theorem dX11_farthest_13 : decode cX11_farthest 13 = .ok (.getfield 16, 3) := by decide +kernel
theorem dX11_farthest_16 : decode cX11_farthest 16 = .ok (.getfield 202, 3) := by decide +kernel
theorem dX11_farthest_19 : decode cX11_farthest 19 = .ok (.if_icmp .ge 73, 3) := by decide +kernel
theorem dX11_farthest_92 : decode cX11_farthest 92 = .ok (.iload_n 3, 1) := by decide +kernel
theorem dX11_farthest_93 : decode cX11_farthest 93 = .ok (.ireturn, 1) := by decide +kernel
theorem dX11_sumOfFar_0 : decode cX11_sumOfFar 0 = .ok (.lconst 0, 1) := by decide +kernel
theorem dX11_sumOfFar_1 : decode cX11_sumOfFar 1 = .ok (.lstore_n 3, 1) := by decide +kernel
theorem dX11_sumOfFar_2 : decode cX11_sumOfFar 2 = .ok (.iconst 0, 1) := by decide +kernel
theorem dX11_sumOfFar_3 : decode cX11_sumOfFar 3 = .ok (.istore 5, 2) := by decide +kernel
theorem dX11_sumOfFar_5 : decode cX11_sumOfFar 5 = .ok (.iload 5, 2) := by decide +kernel
theorem dX11_sumOfFar_7 : decode cX11_sumOfFar 7 = .ok (.aload_n 0, 1) := by decide +kernel
theorem dX11_sumOfFar_8 : decode cX11_sumOfFar 8 = .ok (.getfield 16, 3) := by decide +kernel
theorem dX11_sumOfFar_11 : decode cX11_sumOfFar 11 = .ok (.getfield 202, 3) := by decide +kernel
theorem dX11_sumOfFar_14 : decode cX11_sumOfFar 14 = .ok (.if_icmp .ge 53, 3) := by decide +kernel
theorem dX11_sumOfFar_67 : decode cX11_sumOfFar 67 = .ok (.lload_n 3, 1) := by decide +kernel
theorem dX11_sumOfFar_68 : decode cX11_sumOfFar 68 = .ok (.lreturn, 1) := by decide +kernel
theorem dX11_nearest_0 : decode cX11_nearest 0 = .ok (.aload_n 0, 1) := by decide +kernel
theorem dX11_nearest_1 : decode cX11_nearest 1 = .ok (.getfield 41, 3) := by decide +kernel
theorem dX11_nearest_4 : decode cX11_nearest 4 = .ok (.getfield 169, 3) := by decide +kernel
theorem dX11_nearest_7 : decode cX11_nearest 7 = .ok (.ifCond .ne 6, 3) := by decide +kernel
theorem dX11_nearest_13 : decode cX11_nearest 13 = .ok (.aload_n 0, 1) := by decide +kernel
theorem dX11_nearest_14 : decode cX11_nearest 14 = .ok (.iconst 1, 1) := by decide +kernel
theorem dX11_nearest_15 : decode cX11_nearest 15 = .ok (.invokevirtual 325, 3) := by decide +kernel
theorem dX11_nearest_18 : decode cX11_nearest 18 = .ok (.astore_n 2, 1) := by decide +kernel
theorem dX11_nearest_19 : decode cX11_nearest 19 = .ok (.iload_n 1, 1) := by decide +kernel
theorem dX11_nearest_20 : decode cX11_nearest 20 = .ok (.ifCond .ne 41, 3) := by decide +kernel
theorem dX11_nearest_23 : decode cX11_nearest 23 = .ok (.aload_n 0, 1) := by decide +kernel
theorem dX11_nearest_24 : decode cX11_nearest 24 = .ok (.aload_n 0, 1) := by decide +kernel
theorem dX11_nearest_25 : decode cX11_nearest 25 = .ok (.getfield 104, 3) := by decide +kernel
theorem dX11_nearest_28 : decode cX11_nearest 28 = .ok (.bipush (-3), 2) := by decide +kernel
theorem dX11_nearest_30 : decode cX11_nearest 30 = .ok (.if_icmp .ne 19, 3) := by decide +kernel
theorem dX11_nearest_33 : decode cX11_nearest 33 = .ok (.aload_n 0, 1) := by decide +kernel
theorem dX11_nearest_34 : decode cX11_nearest 34 = .ok (.aload_n 0, 1) := by decide +kernel
theorem dX11_nearest_35 : decode cX11_nearest 35 = .ok (.getfield 16, 3) := by decide +kernel
theorem dX11_nearest_38 : decode cX11_nearest 38 = .ok (.getfield 208, 3) := by decide +kernel
theorem dX11_nearest_41 : decode cX11_nearest 41 = .ok (.iconst 1, 1) := by decide +kernel
theorem dX11_nearest_42 : decode cX11_nearest 42 = .ok (.aload_n 2, 1) := by decide +kernel
theorem dX11_nearest_43 : decode cX11_nearest 43 = .ok (.invokevirtual 367, 3) := by decide +kernel
theorem dX11_nearest_46 : decode cX11_nearest 46 = .ok (.goto 7, 3) := by decide +kernel
theorem dX11_nearest_53 : decode cX11_nearest 53 = .ok (.putfield 104, 3) := by decide +kernel
theorem dX11_nearest_56 : decode cX11_nearest 56 = .ok (.aload_n 0, 1) := by decide +kernel
theorem dX11_nearest_57 : decode cX11_nearest 57 = .ok (.getfield 104, 3) := by decide +kernel
theorem dX11_nearest_60 : decode cX11_nearest 60 = .ok (.ireturn, 1) := by decide +kernel
theorem dX11_nearest_61 : decode cX11_nearest 61 = .ok (.iload_n 1, 1) := by decide +kernel
theorem dX11_nearest_62 : decode cX11_nearest 62 = .ok (.iconst 1, 1) := by decide +kernel
theorem dX11_nearest_63 : decode cX11_nearest 63 = .ok (.if_icmp .ne 41, 3) := by decide +kernel
theorem dX11_nearest_66 : decode cX11_nearest 66 = .ok (.aload_n 0, 1) := by decide +kernel
theorem dX11_nearest_67 : decode cX11_nearest 67 = .ok (.aload_n 0, 1) := by decide +kernel
theorem dX11_nearest_68 : decode cX11_nearest 68 = .ok (.getfield 108, 3) := by decide +kernel
theorem dX11_nearest_71 : decode cX11_nearest 71 = .ok (.bipush (-3), 2) := by decide +kernel
theorem dX11_nearest_73 : decode cX11_nearest 73 = .ok (.if_icmp .ne 19, 3) := by decide +kernel
theorem dX11_nearest_76 : decode cX11_nearest 76 = .ok (.aload_n 0, 1) := by decide +kernel
theorem dX11_nearest_77 : decode cX11_nearest 77 = .ok (.aload_n 0, 1) := by decide +kernel
theorem dX11_nearest_78 : decode cX11_nearest 78 = .ok (.getfield 16, 3) := by decide +kernel
theorem dX11_nearest_81 : decode cX11_nearest 81 = .ok (.getfield 133, 3) := by decide +kernel
theorem dX11_nearest_84 : decode cX11_nearest 84 = .ok (.iconst 0, 1) := by decide +kernel
theorem dX11_nearest_85 : decode cX11_nearest 85 = .ok (.aload_n 2, 1) := by decide +kernel
theorem dX11_nearest_86 : decode cX11_nearest 86 = .ok (.invokevirtual 367, 3) := by decide +kernel
theorem dX11_nearest_89 : decode cX11_nearest 89 = .ok (.goto 7, 3) := by decide +kernel
theorem dX11_nearest_96 : decode cX11_nearest 96 = .ok (.putfield 108, 3) := by decide +kernel
theorem dX11_nearest_99 : decode cX11_nearest 99 = .ok (.aload_n 0, 1) := by decide +kernel
theorem dX11_nearest_100 : decode cX11_nearest 100 = .ok (.getfield 108, 3) := by decide +kernel
theorem dX11_nearest_103 : decode cX11_nearest 103 = .ok (.ireturn, 1) := by decide +kernel
theorem dX11_nearest_104 : decode cX11_nearest 104 = .ok (.iconst (-1), 1) := by decide +kernel
theorem dX11_nearest_105 : decode cX11_nearest 105 = .ok (.ireturn, 1) := by decide +kernel
theorem dX11_findNearest_0 : decode cX11_findNearest 0 = .ok (.iconst 4, 1) := by decide +kernel
theorem dX11_findNearest_1 : decode cX11_findNearest 1 = .ok (.newarray .int, 2) := by decide +kernel
theorem dX11_findNearest_3 : decode cX11_findNearest 3 = .ok (.astore 4, 2) := by decide +kernel
theorem dX11_findNearest_5 : decode cX11_findNearest 5 = .ok (.iconst 0, 1) := by decide +kernel
theorem dX11_findNearest_6 : decode cX11_findNearest 6 = .ok (.istore 5, 2) := by decide +kernel
theorem dX11_findNearest_8 : decode cX11_findNearest 8 = .ok (.ldc2_w 371, 3) := by decide +kernel
theorem dX11_findNearest_11 : decode cX11_findNearest 11 = .ok (.lstore 6, 2) := by decide +kernel
theorem dX11_findNearest_13 : decode cX11_findNearest 13 = .ok (.iconst 0, 1) := by decide +kernel
theorem dX11_findNearest_14 : decode cX11_findNearest 14 = .ok (.istore 8, 2) := by decide +kernel
theorem dX11_findNearest_16 : decode cX11_findNearest 16 = .ok (.iload 8, 2) := by decide +kernel
theorem dX11_findNearest_18 : decode cX11_findNearest 18 = .ok (.iconst 1, 1) := by decide +kernel
theorem dX11_findNearest_19 : decode cX11_findNearest 19 = .ok (.iconst 2, 1) := by decide +kernel
theorem dX11_findNearest_20 : decode cX11_findNearest 20 = .ok (.iload_n 1, 1) := by decide +kernel
theorem dX11_findNearest_21 : decode cX11_findNearest 21 = .ok (.imul, 1) := by decide +kernel
theorem dX11_findNearest_22 : decode cX11_findNearest 22 = .ok (.ishl, 1) := by decide +kernel
theorem dX11_findNearest_23 : decode cX11_findNearest 23 = .ok (.if_icmp .ge 83, 3) := by decide +kernel
theorem dX11_findNearest_26 : decode cX11_findNearest 26 = .ok (.lload 6, 2) := by decide +kernel
theorem dX11_findNearest_28 : decode cX11_findNearest 28 = .ok (.lconst 0, 1) := by decide +kernel
theorem dX11_findNearest_29 : decode cX11_findNearest 29 = .ok (.lcmp, 1) := by decide +kernel
theorem dX11_findNearest_30 : decode cX11_findNearest 30 = .ok (.ifCond .le 76, 3) := by decide +kernel
theorem dX11_findNearest_33 : decode cX11_findNearest 33 = .ok (.iload 8, 2) := by decide +kernel
theorem dX11_findNearest_35 : decode cX11_findNearest 35 = .ok (.iload_n 1, 1) := by decide +kernel
theorem dX11_findNearest_36 : decode cX11_findNearest 36 = .ok (.aload 4, 2) := by decide +kernel
theorem dX11_findNearest_38 : decode cX11_findNearest 38 = .ok (.invokestatic 373, 3) := by decide +kernel
theorem dX11_findNearest_41 : decode cX11_findNearest 41 = .ok (.ifCond .eq 59, 3) := by decide +kernel
theorem dX11_findNearest_44 : decode cX11_findNearest 44 = .ok (.iload_n 2, 1) := by decide +kernel
theorem dX11_findNearest_45 : decode cX11_findNearest 45 = .ok (.ifCond .ne 12, 3) := by decide +kernel
theorem dX11_findNearest_48 : decode cX11_findNearest 48 = .ok (.aload_n 0, 1) := by decide +kernel
theorem dX11_findNearest_49 : decode cX11_findNearest 49 = .ok (.aload 4, 2) := by decide +kernel
theorem dX11_findNearest_51 : decode cX11_findNearest 51 = .ok (.invokevirtual 376, 3) := by decide +kernel
theorem dX11_findNearest_54 : decode cX11_findNearest 54 = .ok (.ifCond .ne 46, 3) := by decide +kernel
theorem dX11_findNearest_57 : decode cX11_findNearest 57 = .ok (.iload_n 2, 1) := by decide +kernel
theorem dX11_findNearest_58 : decode cX11_findNearest 58 = .ok (.ifCond .eq 13, 3) := by decide +kernel
theorem dX11_findNearest_61 : decode cX11_findNearest 61 = .ok (.aload_n 0, 1) := by decide +kernel
theorem dX11_findNearest_62 : decode cX11_findNearest 62 = .ok (.aload 4, 2) := by decide +kernel
theorem dX11_findNearest_64 : decode cX11_findNearest 64 = .ok (.aload_n 3, 1) := by decide +kernel
theorem dX11_findNearest_65 : decode cX11_findNearest 65 = .ok (.invokevirtual 380, 3) := by decide +kernel
theorem dX11_findNearest_68 : decode cX11_findNearest 68 = .ok (.goto 10, 3) := by decide +kernel
theorem dX11_findNearest_71 : decode cX11_findNearest 71 = .ok (.aload_n 0, 1) := by decide +kernel
theorem dX11_findNearest_72 : decode cX11_findNearest 72 = .ok (.aload 4, 2) := by decide +kernel
theorem dX11_findNearest_74 : decode cX11_findNearest 74 = .ok (.aload_n 3, 1) := by decide +kernel
theorem dX11_findNearest_75 : decode cX11_findNearest 75 = .ok (.invokevirtual 384, 3) := by decide +kernel
theorem dX11_findNearest_78 : decode cX11_findNearest 78 = .ok (.lstore 9, 2) := by decide +kernel
theorem dX11_findNearest_80 : decode cX11_findNearest 80 = .ok (.lload 9, 2) := by decide +kernel
theorem dX11_findNearest_82 : decode cX11_findNearest 82 = .ok (.lload 6, 2) := by decide +kernel
theorem dX11_findNearest_84 : decode cX11_findNearest 84 = .ok (.lcmp, 1) := by decide +kernel
theorem dX11_findNearest_85 : decode cX11_findNearest 85 = .ok (.ifCond .ge 15, 3) := by decide +kernel
theorem dX11_findNearest_88 : decode cX11_findNearest 88 = .ok (.lload 9, 2) := by decide +kernel
theorem dX11_findNearest_90 : decode cX11_findNearest 90 = .ok (.lstore 6, 2) := by decide +kernel
theorem dX11_findNearest_92 : decode cX11_findNearest 92 = .ok (.aload 4, 2) := by decide +kernel
theorem dX11_findNearest_94 : decode cX11_findNearest 94 = .ok (.iload_n 1, 1) := by decide +kernel
theorem dX11_findNearest_95 : decode cX11_findNearest 95 = .ok (.invokestatic 387, 3) := by decide +kernel
theorem dX11_findNearest_98 : decode cX11_findNearest 98 = .ok (.istore 5, 2) := by decide +kernel
theorem dX11_findNearest_100 : decode cX11_findNearest 100 = .ok (.iinc 8 1, 3) := by decide +kernel
theorem dX11_findNearest_103 : decode cX11_findNearest 103 = .ok (.goto (-87), 3) := by decide +kernel
theorem dX11_findNearest_106 : decode cX11_findNearest 106 = .ok (.iload 5, 2) := by decide +kernel
theorem dX11_findNearest_108 : decode cX11_findNearest 108 = .ok (.ireturn, 1) := by decide +kernel
theorem dX11_likeAnEarlierOne_0 : decode cX11_likeAnEarlierOne 0 = .ok (.iconst (-1), 1) := by decide +kernel
theorem dX11_likeAnEarlierOne_1 : decode cX11_likeAnEarlierOne 1 = .ok (.istore_n 2, 1) := by decide +kernel
theorem dX11_likeAnEarlierOne_2 : decode cX11_likeAnEarlierOne 2 = .ok (.iconst 0, 1) := by decide +kernel
theorem dX11_likeAnEarlierOne_3 : decode cX11_likeAnEarlierOne 3 = .ok (.istore_n 3, 1) := by decide +kernel
theorem dX11_likeAnEarlierOne_4 : decode cX11_likeAnEarlierOne 4 = .ok (.iload_n 3, 1) := by decide +kernel
theorem dX11_likeAnEarlierOne_5 : decode cX11_likeAnEarlierOne 5 = .ok (.aload_n 0, 1) := by decide +kernel
theorem dX11_likeAnEarlierOne_6 : decode cX11_likeAnEarlierOne 6 = .ok (.getfield 16, 3) := by decide +kernel
theorem dX11_likeAnEarlierOne_9 : decode cX11_likeAnEarlierOne 9 = .ok (.getfield 133, 3) := by decide +kernel
theorem dX11_likeAnEarlierOne_12 : decode cX11_likeAnEarlierOne 12 = .ok (.if_icmp .ge 35, 3) := by decide +kernel
theorem dX11_likeAnEarlierOne_15 : decode cX11_likeAnEarlierOne 15 = .ok (.aload_n 0, 1) := by decide +kernel
theorem dX11_likeAnEarlierOne_16 : decode cX11_likeAnEarlierOne 16 = .ok (.getfield 16, 3) := by decide +kernel
theorem dX11_likeAnEarlierOne_19 : decode cX11_likeAnEarlierOne 19 = .ok (.aload_n 1, 1) := by decide +kernel
theorem dX11_likeAnEarlierOne_20 : decode cX11_likeAnEarlierOne 20 = .ok (.iload_n 3, 1) := by decide +kernel
theorem dX11_likeAnEarlierOne_21 : decode cX11_likeAnEarlierOne 21 = .ok (.iaload, 1) := by decide +kernel
theorem dX11_likeAnEarlierOne_22 : decode cX11_likeAnEarlierOne 22 = .ok (.invokevirtual 390, 3) := by decide +kernel
theorem dX11_likeAnEarlierOne_25 : decode cX11_likeAnEarlierOne 25 = .ok (.ifCond .ne 16, 3) := by decide +kernel
theorem dX11_likeAnEarlierOne_28 : decode cX11_likeAnEarlierOne 28 = .ok (.aload_n 1, 1) := by decide +kernel
theorem dX11_likeAnEarlierOne_29 : decode cX11_likeAnEarlierOne 29 = .ok (.iload_n 3, 1) := by decide +kernel
theorem dX11_likeAnEarlierOne_30 : decode cX11_likeAnEarlierOne 30 = .ok (.iaload, 1) := by decide +kernel
theorem dX11_likeAnEarlierOne_31 : decode cX11_likeAnEarlierOne 31 = .ok (.iload_n 2, 1) := by decide +kernel
theorem dX11_likeAnEarlierOne_32 : decode cX11_likeAnEarlierOne 32 = .ok (.if_icmp .ge 5, 3) := by decide +kernel
theorem dX11_likeAnEarlierOne_37 : decode cX11_likeAnEarlierOne 37 = .ok (.aload_n 1, 1) := by decide +kernel
theorem dX11_likeAnEarlierOne_38 : decode cX11_likeAnEarlierOne 38 = .ok (.iload_n 3, 1) := by decide +kernel
theorem dX11_likeAnEarlierOne_39 : decode cX11_likeAnEarlierOne 39 = .ok (.iaload, 1) := by decide +kernel
theorem dX11_likeAnEarlierOne_40 : decode cX11_likeAnEarlierOne 40 = .ok (.istore_n 2, 1) := by decide +kernel
theorem dX11_likeAnEarlierOne_41 : decode cX11_likeAnEarlierOne 41 = .ok (.iinc 3 1, 3) := by decide +kernel
theorem dX11_likeAnEarlierOne_44 : decode cX11_likeAnEarlierOne 44 = .ok (.goto (-40), 3) := by decide +kernel
theorem dX11_likeAnEarlierOne_47 : decode cX11_likeAnEarlierOne 47 = .ok (.iconst 0, 1) := by decide +kernel
theorem dX11_likeAnEarlierOne_48 : decode cX11_likeAnEarlierOne 48 = .ok (.ireturn, 1) := by decide +kernel
theorem dX11_apartByOrder_0 : decode cX11_apartByOrder 0 = .ok (.aload_n 0, 1) := by decide +kernel
theorem dX11_apartByOrder_1 : decode cX11_apartByOrder 1 = .ok (.getfield 64, 3) := by decide +kernel
theorem dX11_apartByOrder_4 : decode cX11_apartByOrder 4 = .ok (.aload_n 1, 1) := by decide +kernel
theorem dX11_apartByOrder_5 : decode cX11_apartByOrder 5 = .ok (.invokevirtual 224, 3) := by decide +kernel
theorem dX11_apartByOrder_8 : decode cX11_apartByOrder 8 = .ok (.aload_n 0, 1) := by decide +kernel
theorem dX11_apartByOrder_9 : decode cX11_apartByOrder 9 = .ok (.getfield 72, 3) := by decide +kernel
theorem dX11_apartByOrder_12 : decode cX11_apartByOrder 12 = .ok (.iconst 0, 1) := by decide +kernel
theorem dX11_apartByOrder_13 : decode cX11_apartByOrder 13 = .ok (.aload_n 0, 1) := by decide +kernel
theorem dX11_apartByOrder_14 : decode cX11_apartByOrder 14 = .ok (.getfield 48, 3) := by decide +kernel
theorem dX11_apartByOrder_17 : decode cX11_apartByOrder 17 = .ok (.getfield 221, 3) := by decide +kernel
theorem dX11_apartByOrder_20 : decode cX11_apartByOrder 20 = .ok (.invokevirtual 335, 3) := by decide +kernel
theorem dX11_apartByOrder_23 : decode cX11_apartByOrder 23 = .ok (.aload_n 0, 1) := by decide +kernel
theorem dX11_apartByOrder_24 : decode cX11_apartByOrder 24 = .ok (.getfield 72, 3) := by decide +kernel
theorem dX11_apartByOrder_27 : decode cX11_apartByOrder 27 = .ok (.aload_n 0, 1) := by decide +kernel
theorem dX11_apartByOrder_28 : decode cX11_apartByOrder 28 = .ok (.getfield 86, 3) := by decide +kernel
theorem dX11_apartByOrder_31 : decode cX11_apartByOrder 31 = .ok (.aload_n 0, 1) := by decide +kernel
theorem dX11_apartByOrder_32 : decode cX11_apartByOrder 32 = .ok (.getfield 64, 3) := by decide +kernel
theorem dX11_apartByOrder_35 : decode cX11_apartByOrder 35 = .ok (.invokevirtual 331, 3) := by decide +kernel
theorem dX11_apartByOrder_38 : decode cX11_apartByOrder 38 = .ok (.aload_n 0, 1) := by decide +kernel
theorem dX11_apartByOrder_39 : decode cX11_apartByOrder 39 = .ok (.aload_n 0, 1) := by decide +kernel
theorem dX11_apartByOrder_40 : decode cX11_apartByOrder 40 = .ok (.getfield 86, 3) := by decide +kernel
theorem dX11_apartByOrder_43 : decode cX11_apartByOrder 43 = .ok (.aload_n 2, 1) := by decide +kernel
theorem dX11_apartByOrder_44 : decode cX11_apartByOrder 44 = .ok (.invokevirtual 347, 3) := by decide +kernel
theorem dX11_apartByOrder_47 : decode cX11_apartByOrder 47 = .ok (.lreturn, 1) := by decide +kernel
theorem dX11_apartByArrangement_0 : decode cX11_apartByArrangement 0 = .ok (.aload_n 0, 1) := by decide +kernel
theorem dX11_apartByArrangement_1 : decode cX11_apartByArrangement 1 = .ok (.getfield 72, 3) := by decide +kernel
theorem dX11_apartByArrangement_4 : decode cX11_apartByArrangement 4 = .ok (.iconst 0, 1) := by decide +kernel
theorem dX11_apartByArrangement_5 : decode cX11_apartByArrangement 5 = .ok (.aload_n 1, 1) := by decide +kernel
theorem dX11_apartByArrangement_6 : decode cX11_apartByArrangement 6 = .ok (.invokevirtual 335, 3) := by decide +kernel
theorem dX11_apartByArrangement_9 : decode cX11_apartByArrangement 9 = .ok (.aload_n 0, 1) := by decide +kernel
theorem dX11_apartByArrangement_10 : decode cX11_apartByArrangement 10 = .ok (.getfield 72, 3) := by decide +kernel
theorem dX11_apartByArrangement_13 : decode cX11_apartByArrangement 13 = .ok (.aload_n 0, 1) := by decide +kernel
theorem dX11_apartByArrangement_14 : decode cX11_apartByArrangement 14 = .ok (.getfield 86, 3) := by decide +kernel
theorem dX11_apartByArrangement_17 : decode cX11_apartByArrangement 17 = .ok (.aload_n 0, 1) := by decide +kernel
theorem dX11_apartByArrangement_18 : decode cX11_apartByArrangement 18 = .ok (.invokevirtual 237, 3) := by decide +kernel
theorem dX11_apartByArrangement_21 : decode cX11_apartByArrangement 21 = .ok (.invokevirtual 331, 3) := by decide +kernel
theorem dX11_apartByArrangement_24 : decode cX11_apartByArrangement 24 = .ok (.aload_n 0, 1) := by decide +kernel
theorem dX11_apartByArrangement_25 : decode cX11_apartByArrangement 25 = .ok (.aload_n 0, 1) := by decide +kernel
theorem dX11_apartByArrangement_26 : decode cX11_apartByArrangement 26 = .ok (.getfield 86, 3) := by decide +kernel
theorem dX11_apartByArrangement_29 : decode cX11_apartByArrangement 29 = .ok (.aload_n 2, 1) := by decide +kernel
theorem dX11_apartByArrangement_30 : decode cX11_apartByArrangement 30 = .ok (.invokevirtual 347, 3) := by decide +kernel
theorem dX11_apartByArrangement_33 : decode cX11_apartByArrangement 33 = .ok (.lreturn, 1) := by decide +kernel
theorem dX11_sizeOfFarthest_0 : decode cX11_sizeOfFarthest 0 = .ok (.aload_n 0, 1) := by decide +kernel
theorem dX11_sizeOfFarthest_1 : decode cX11_sizeOfFarthest 1 = .ok (.aload_n 1, 1) := by decide +kernel
theorem dX11_sizeOfFarthest_2 : decode cX11_sizeOfFarthest 2 = .ok (.aload_n 2, 1) := by decide +kernel
theorem dX11_sizeOfFarthest_3 : decode cX11_sizeOfFarthest 3 = .ok (.invokevirtual 343, 3) := by decide +kernel
theorem dX11_sizeOfFarthest_6 : decode cX11_sizeOfFarthest 6 = .ok (.istore_n 3, 1) := by decide +kernel
theorem dX11_sizeOfFarthest_7 : decode cX11_sizeOfFarthest 7 = .ok (.iload_n 3, 1) := by decide +kernel
theorem dX11_sizeOfFarthest_8 : decode cX11_sizeOfFarthest 8 = .ok (.iconst (-1), 1) := by decide +kernel
theorem dX11_sizeOfFarthest_9 : decode cX11_sizeOfFarthest 9 = .ok (.if_icmp .ne 7, 3) := by decide +kernel
theorem dX11_sizeOfFarthest_12 : decode cX11_sizeOfFarthest 12 = .ok (.lconst 0, 1) := by decide +kernel
theorem dX11_sizeOfFarthest_13 : decode cX11_sizeOfFarthest 13 = .ok (.goto 19, 3) := by decide +kernel
theorem dX11_sizeOfFarthest_32 : decode cX11_sizeOfFarthest 32 = .ok (.lreturn, 1) := by decide +kernel
theorem dX11_bitsOf_0 : decode cX11_bitsOf 0 = .ok (.iconst 0, 1) := by decide +kernel
theorem dX11_bitsOf_1 : decode cX11_bitsOf 1 = .ok (.istore_n 2, 1) := by decide +kernel
theorem dX11_bitsOf_2 : decode cX11_bitsOf 2 = .ok (.iconst 0, 1) := by decide +kernel
theorem dX11_bitsOf_3 : decode cX11_bitsOf 3 = .ok (.istore_n 3, 1) := by decide +kernel
theorem dX11_bitsOf_4 : decode cX11_bitsOf 4 = .ok (.iload_n 3, 1) := by decide +kernel
theorem dX11_bitsOf_5 : decode cX11_bitsOf 5 = .ok (.iload_n 1, 1) := by decide +kernel
theorem dX11_bitsOf_6 : decode cX11_bitsOf 6 = .ok (.if_icmp .ge 25, 3) := by decide +kernel
theorem dX11_bitsOf_9 : decode cX11_bitsOf 9 = .ok (.iload_n 3, 1) := by decide +kernel
theorem dX11_bitsOf_10 : decode cX11_bitsOf 10 = .ok (.aload_n 0, 1) := by decide +kernel
theorem dX11_bitsOf_11 : decode cX11_bitsOf 11 = .ok (.arraylength, 1) := by decide +kernel
theorem dX11_bitsOf_12 : decode cX11_bitsOf 12 = .ok (.if_icmp .ge 19, 3) := by decide +kernel
theorem dX11_bitsOf_15 : decode cX11_bitsOf 15 = .ok (.iload_n 2, 1) := by decide +kernel
theorem dX11_bitsOf_16 : decode cX11_bitsOf 16 = .ok (.aload_n 0, 1) := by decide +kernel
theorem dX11_bitsOf_17 : decode cX11_bitsOf 17 = .ok (.iload_n 3, 1) := by decide +kernel
theorem dX11_bitsOf_18 : decode cX11_bitsOf 18 = .ok (.iaload, 1) := by decide +kernel
theorem dX11_bitsOf_19 : decode cX11_bitsOf 19 = .ok (.iconst 2, 1) := by decide +kernel
theorem dX11_bitsOf_20 : decode cX11_bitsOf 20 = .ok (.iload_n 3, 1) := by decide +kernel
theorem dX11_bitsOf_21 : decode cX11_bitsOf 21 = .ok (.imul, 1) := by decide +kernel
theorem dX11_bitsOf_22 : decode cX11_bitsOf 22 = .ok (.ishl, 1) := by decide +kernel
theorem dX11_bitsOf_23 : decode cX11_bitsOf 23 = .ok (.ior, 1) := by decide +kernel
theorem dX11_bitsOf_24 : decode cX11_bitsOf 24 = .ok (.istore_n 2, 1) := by decide +kernel
theorem dX11_bitsOf_25 : decode cX11_bitsOf 25 = .ok (.iinc 3 1, 3) := by decide +kernel
theorem dX11_bitsOf_28 : decode cX11_bitsOf 28 = .ok (.goto (-24), 3) := by decide +kernel
theorem dX11_bitsOf_31 : decode cX11_bitsOf 31 = .ok (.iload_n 2, 1) := by decide +kernel
theorem dX11_bitsOf_32 : decode cX11_bitsOf 32 = .ok (.ireturn, 1) := by decide +kernel
theorem dX11_leads_0 : decode cX11_leads 0 = .ok (.aload_n 0, 1) := by decide +kernel
theorem dX11_leads_1 : decode cX11_leads 1 = .ok (.iload_n 1, 1) := by decide +kernel
theorem dX11_leads_2 : decode cX11_leads 2 = .ok (.invokevirtual 196, 3) := by decide +kernel
theorem dX11_leads_5 : decode cX11_leads 5 = .ok (.ifCond .eq 13, 3) := by decide +kernel
theorem dX11_leads_8 : decode cX11_leads 8 = .ok (.aload_n 0, 1) := by decide +kernel
theorem dX11_leads_9 : decode cX11_leads 9 = .ok (.getfield 41, 3) := by decide +kernel
theorem dX11_leads_12 : decode cX11_leads 12 = .ok (.getfield 169, 3) := by decide +kernel
theorem dX11_leads_15 : decode cX11_leads 15 = .ok (.ifCond .ne 5, 3) := by decide +kernel
theorem dX11_leads_18 : decode cX11_leads 18 = .ok (.iconst (-1), 1) := by decide +kernel
theorem dX11_leads_19 : decode cX11_leads 19 = .ok (.ireturn, 1) := by decide +kernel
theorem dX11_leads_20 : decode cX11_leads 20 = .ok (.aload_n 0, 1) := by decide +kernel
theorem dX11_leads_21 : decode cX11_leads 21 = .ok (.invokevirtual 237, 3) := by decide +kernel
theorem dX11_leads_24 : decode cX11_leads 24 = .ok (.astore_n 2, 1) := by decide +kernel
theorem dX11_leads_25 : decode cX11_leads 25 = .ok (.iconst 0, 1) := by decide +kernel
theorem dX11_leads_26 : decode cX11_leads 26 = .ok (.istore_n 3, 1) := by decide +kernel
theorem dX11_leads_27 : decode cX11_leads 27 = .ok (.iconst 0, 1) := by decide +kernel
theorem dX11_leads_28 : decode cX11_leads 28 = .ok (.istore 4, 2) := by decide +kernel
theorem dX11_leads_30 : decode cX11_leads 30 = .ok (.iconst 0, 1) := by decide +kernel
theorem dX11_leads_31 : decode cX11_leads 31 = .ok (.istore 5, 2) := by decide +kernel
theorem dX11_leads_33 : decode cX11_leads 33 = .ok (.iload 5, 2) := by decide +kernel
theorem dX11_leads_35 : decode cX11_leads 35 = .ok (.aload_n 0, 1) := by decide +kernel
theorem dX11_leads_36 : decode cX11_leads 36 = .ok (.getfield 16, 3) := by decide +kernel
theorem dX11_leads_39 : decode cX11_leads 39 = .ok (.getfield 208, 3) := by decide +kernel
theorem dX11_leads_42 : decode cX11_leads 42 = .ok (.if_icmp .ge 127, 3) := by decide +kernel
theorem dX11_leads_169 : decode cX11_leads 169 = .ok (.iload_n 3, 1) := by decide +kernel
theorem dX11_leads_170 : decode cX11_leads 170 = .ok (.ireturn, 1) := by decide +kernel
theorem dX11_moves_0 : decode cX11_moves 0 = .ok (.aload_n 0, 1) := by decide +kernel
theorem dX11_moves_1 : decode cX11_moves 1 = .ok (.iload_n 1, 1) := by decide +kernel
theorem dX11_moves_2 : decode cX11_moves 2 = .ok (.invokevirtual 172, 3) := by decide +kernel
theorem dX11_moves_5 : decode cX11_moves 5 = .ok (.ifCond .eq 24, 3) := by decide +kernel
theorem dX11_moves_29 : decode cX11_moves 29 = .ok (.ldc2_w 341, 3) := by decide +kernel
theorem dX11_moves_32 : decode cX11_moves 32 = .ok (.lreturn, 1) := by decide +kernel
theorem dX11_leave_0 : decode cX11_leave 0 = .ok (.iload_n 1, 1) := by decide +kernel
theorem dX11_leave_1 : decode cX11_leave 1 = .ok (.ifCond .lt 9, 3) := by decide +kernel
theorem dX11_leave_4 : decode cX11_leave 4 = .ok (.iload_n 1, 1) := by decide +kernel
theorem dX11_leave_5 : decode cX11_leave 5 = .ok (.bipush 100, 2) := by decide +kernel
theorem dX11_leave_7 : decode cX11_leave 7 = .ok (.if_icmp .le 5, 3) := by decide +kernel
theorem dX11_leave_10 : decode cX11_leave 10 = .ok (.iconst (-1), 1) := by decide +kernel
theorem dX11_leave_11 : decode cX11_leave 11 = .ok (.ireturn, 1) := by decide +kernel
theorem dX11_leave_12 : decode cX11_leave 12 = .ok (.aload_n 0, 1) := by decide +kernel
theorem dX11_leave_13 : decode cX11_leave 13 = .ok (.getfield 93, 3) := by decide +kernel
theorem dX11_leave_16 : decode cX11_leave 16 = .ok (.iconst (-1), 1) := by decide +kernel
theorem dX11_leave_17 : decode cX11_leave 17 = .ok (.iconst (-1), 1) := by decide +kernel
theorem dX11_leave_18 : decode cX11_leave 18 = .ok (.iload_n 1, 1) := by decide +kernel
theorem dX11_leave_19 : decode cX11_leave 19 = .ok (.invokevirtual 411, 3) := by decide +kernel
theorem dX11_leave_22 : decode cX11_leave 22 = .ok (.ifCond .eq 5, 3) := by decide +kernel
theorem dX11_leave_25 : decode cX11_leave 25 = .ok (.iconst 0, 1) := by decide +kernel
theorem dX11_leave_26 : decode cX11_leave 26 = .ok (.ireturn, 1) := by decide +kernel
theorem dX11_parts_0 : decode cX11_parts 0 = .ok (.iload_n 1, 1) := by decide +kernel
theorem dX11_parts_1 : decode cX11_parts 1 = .ok (.tableswitch 51 0 2 #[27, 35, 43], 27) := by decide +kernel
theorem dX11_parts_28 : decode cX11_parts 28 = .ok (.aload_n 0, 1) := by decide +kernel
theorem dX11_parts_29 : decode cX11_parts 29 = .ok (.getfield 100, 3) := by decide +kernel
theorem dX11_parts_32 : decode cX11_parts 32 = .ok (.invokevirtual 415, 3) := by decide +kernel
theorem dX11_parts_35 : decode cX11_parts 35 = .ok (.ireturn, 1) := by decide +kernel
theorem dX11_parts_36 : decode cX11_parts 36 = .ok (.aload_n 0, 1) := by decide +kernel
theorem dX11_parts_37 : decode cX11_parts 37 = .ok (.getfield 100, 3) := by decide +kernel
theorem dX11_parts_40 : decode cX11_parts 40 = .ok (.invokevirtual 418, 3) := by decide +kernel
theorem dX11_parts_43 : decode cX11_parts 43 = .ok (.ireturn, 1) := by decide +kernel
theorem dX11_parts_44 : decode cX11_parts 44 = .ok (.aload_n 0, 1) := by decide +kernel
theorem dX11_parts_45 : decode cX11_parts 45 = .ok (.getfield 100, 3) := by decide +kernel
theorem dX11_parts_48 : decode cX11_parts 48 = .ok (.invokevirtual 421, 3) := by decide +kernel
theorem dX11_parts_51 : decode cX11_parts 51 = .ok (.ireturn, 1) := by decide +kernel
theorem dX11_parts_52 : decode cX11_parts 52 = .ok (.iconst (-1), 1) := by decide +kernel
theorem dX11_parts_53 : decode cX11_parts 53 = .ok (.ireturn, 1) := by decide +kernel
theorem dX11_mix_0 : decode cX11_mix 0 = .ok (.iload_n 1, 1) := by decide +kernel
theorem dX11_mix_1 : decode cX11_mix 1 = .ok (.ifCond .lt 26, 3) := by decide +kernel
theorem dX11_mix_4 : decode cX11_mix 4 = .ok (.iload_n 1, 1) := by decide +kernel
theorem dX11_mix_5 : decode cX11_mix 5 = .ok (.iconst 5, 1) := by decide +kernel
theorem dX11_mix_6 : decode cX11_mix 6 = .ok (.if_icmp .gt 21, 3) := by decide +kernel
theorem dX11_mix_9 : decode cX11_mix 9 = .ok (.aload_n 0, 1) := by decide +kernel
theorem dX11_mix_10 : decode cX11_mix 10 = .ok (.iload_n 2, 1) := by decide +kernel
theorem dX11_mix_11 : decode cX11_mix 11 = .ok (.invokevirtual 196, 3) := by decide +kernel
theorem dX11_mix_14 : decode cX11_mix 14 = .ok (.ifCond .eq 13, 3) := by decide +kernel
theorem dX11_mix_17 : decode cX11_mix 17 = .ok (.aload_n 0, 1) := by decide +kernel
theorem dX11_mix_18 : decode cX11_mix 18 = .ok (.getfield 41, 3) := by decide +kernel
theorem dX11_mix_21 : decode cX11_mix 21 = .ok (.getfield 169, 3) := by decide +kernel
theorem dX11_mix_24 : decode cX11_mix 24 = .ok (.ifCond .ne 5, 3) := by decide +kernel
theorem dX11_mix_27 : decode cX11_mix 27 = .ok (.iconst (-1), 1) := by decide +kernel
theorem dX11_mix_28 : decode cX11_mix 28 = .ok (.ireturn, 1) := by decide +kernel
theorem dX11_mix_29 : decode cX11_mix 29 = .ok (.aload_n 0, 1) := by decide +kernel
theorem dX11_mix_30 : decode cX11_mix 30 = .ok (.getfield 100, 3) := by decide +kernel
theorem dX11_mix_33 : decode cX11_mix 33 = .ok (.iload_n 1, 1) := by decide +kernel
theorem dX11_mix_34 : decode cX11_mix 34 = .ok (.iload_n 2, 1) := by decide +kernel
theorem dX11_mix_35 : decode cX11_mix 35 = .ok (.invokevirtual 424, 3) := by decide +kernel
theorem dX11_mix_38 : decode cX11_mix 38 = .ok (.ireturn, 1) := by decide +kernel
theorem dX11_mixed_0 : decode cX11_mixed 0 = .ok (.iload_n 1, 1) := by decide +kernel
theorem dX11_mixed_1 : decode cX11_mixed 1 = .ok (.ifCond .lt 18, 3) := by decide +kernel
theorem dX11_mixed_4 : decode cX11_mixed 4 = .ok (.iload_n 1, 1) := by decide +kernel
theorem dX11_mixed_5 : decode cX11_mixed 5 = .ok (.iconst 5, 1) := by decide +kernel
theorem dX11_mixed_6 : decode cX11_mixed 6 = .ok (.if_icmp .gt 13, 3) := by decide +kernel
theorem dX11_mixed_9 : decode cX11_mixed 9 = .ok (.aload_n 0, 1) := by decide +kernel
theorem dX11_mixed_10 : decode cX11_mixed 10 = .ok (.getfield 41, 3) := by decide +kernel
theorem dX11_mixed_13 : decode cX11_mixed 13 = .ok (.getfield 169, 3) := by decide +kernel
theorem dX11_mixed_16 : decode cX11_mixed 16 = .ok (.ifCond .ne 7, 3) := by decide +kernel
theorem dX11_mixed_19 : decode cX11_mixed 19 = .ok (.ldc2_w 298, 3) := by decide +kernel
theorem dX11_mixed_22 : decode cX11_mixed 22 = .ok (.lreturn, 1) := by decide +kernel
theorem dX11_mixed_23 : decode cX11_mixed 23 = .ok (.iload_n 2, 1) := by decide +kernel
theorem dX11_mixed_24 : decode cX11_mixed 24 = .ok (.ifCond .ne 12, 3) := by decide +kernel
theorem dX11_mixed_27 : decode cX11_mixed 27 = .ok (.aload_n 0, 1) := by decide +kernel
theorem dX11_mixed_28 : decode cX11_mixed 28 = .ok (.getfield 100, 3) := by decide +kernel
theorem dX11_mixed_31 : decode cX11_mixed 31 = .ok (.iload_n 1, 1) := by decide +kernel
theorem dX11_mixed_32 : decode cX11_mixed 32 = .ok (.invokevirtual 427, 3) := by decide +kernel
theorem dX11_mixed_35 : decode cX11_mixed 35 = .ok (.lreturn, 1) := by decide +kernel
theorem dX11_mixed_36 : decode cX11_mixed 36 = .ok (.iload_n 2, 1) := by decide +kernel
theorem dX11_mixed_37 : decode cX11_mixed 37 = .ok (.iconst 1, 1) := by decide +kernel
theorem dX11_mixed_38 : decode cX11_mixed 38 = .ok (.if_icmp .ne 23, 3) := by decide +kernel
theorem dX11_mixed_41 : decode cX11_mixed 41 = .ok (.aload_n 0, 1) := by decide +kernel
theorem dX11_mixed_42 : decode cX11_mixed 42 = .ok (.getfield 100, 3) := by decide +kernel
theorem dX11_mixed_45 : decode cX11_mixed 45 = .ok (.iload_n 1, 1) := by decide +kernel
theorem dX11_mixed_46 : decode cX11_mixed 46 = .ok (.invokevirtual 431, 3) := by decide +kernel
theorem dX11_mixed_49 : decode cX11_mixed 49 = .ok (.aload_n 0, 1) := by decide +kernel
theorem dX11_mixed_50 : decode cX11_mixed 50 = .ok (.getfield 41, 3) := by decide +kernel
theorem dX11_mixed_53 : decode cX11_mixed 53 = .ok (.getfield 169, 3) := by decide +kernel
theorem dX11_mixed_56 : decode cX11_mixed 56 = .ok (.i2l, 1) := by decide +kernel
theorem dX11_mixed_57 : decode cX11_mixed 57 = .ok (.lmul, 1) := by decide +kernel
theorem dX11_mixed_58 : decode cX11_mixed 58 = .ok (.goto 6, 3) := by decide +kernel
theorem dX11_mixed_61 : decode cX11_mixed 61 = .ok (.ldc2_w 298, 3) := by decide +kernel
theorem dX11_mixed_64 : decode cX11_mixed 64 = .ok (.lreturn, 1) := by decide +kernel
theorem dX11_run_0 : decode cX11_run 0 = .ok (.iload_n 1, 1) := by decide +kernel
theorem dX11_run_1 : decode cX11_run 1 = .ok (.ifCond .lt 21, 3) := by decide +kernel
theorem dX11_run_4 : decode cX11_run 4 = .ok (.aload_n 0, 1) := by decide +kernel
theorem dX11_run_5 : decode cX11_run 5 = .ok (.iload_n 2, 1) := by decide +kernel
theorem dX11_run_6 : decode cX11_run 6 = .ok (.invokevirtual 186, 3) := by decide +kernel
theorem dX11_run_9 : decode cX11_run 9 = .ok (.ifCond .eq 13, 3) := by decide +kernel
theorem dX11_run_22 : decode cX11_run 22 = .ok (.iconst (-1), 1) := by decide +kernel
theorem dX11_run_23 : decode cX11_run 23 = .ok (.ireturn, 1) := by decide +kernel
theorem dX11_evenly_0 : decode cX11_evenly 0 = .ok (.aload_n 0, 1) := by decide +kernel
theorem dX11_evenly_1 : decode cX11_evenly 1 = .ok (.getfield 41, 3) := by decide +kernel
theorem dX11_evenly_4 : decode cX11_evenly 4 = .ok (.getfield 169, 3) := by decide +kernel
theorem dX11_evenly_7 : decode cX11_evenly 7 = .ok (.istore_n 3, 1) := by decide +kernel
theorem dX11_evenly_8 : decode cX11_evenly 8 = .ok (.iload_n 1, 1) := by decide +kernel
theorem dX11_evenly_9 : decode cX11_evenly 9 = .ok (.ifCond .lt 16, 3) := by decide +kernel
theorem dX11_evenly_12 : decode cX11_evenly 12 = .ok (.iload_n 2, 1) := by decide +kernel
theorem dX11_evenly_13 : decode cX11_evenly 13 = .ok (.ifCond .lt 12, 3) := by decide +kernel
theorem dX11_evenly_16 : decode cX11_evenly 16 = .ok (.iload_n 2, 1) := by decide +kernel
theorem dX11_evenly_17 : decode cX11_evenly 17 = .ok (.iconst 2, 1) := by decide +kernel
theorem dX11_evenly_18 : decode cX11_evenly 18 = .ok (.if_icmp .gt 7, 3) := by decide +kernel
theorem dX11_evenly_25 : decode cX11_evenly 25 = .ok (.iconst (-1), 1) := by decide +kernel
theorem dX11_evenly_26 : decode cX11_evenly 26 = .ok (.ireturn, 1) := by decide +kernel
theorem dX11_count_0 : decode cX11_count 0 = .ok (.iload_n 1, 1) := by decide +kernel
theorem dX11_count_1 : decode cX11_count 1 = .ok (.tableswitch 99 0 6 #[43, 51, 59, 67, 75, 83, 91], 43) := by decide +kernel
theorem dX11_count_44 : decode cX11_count 44 = .ok (.aload_n 0, 1) := by decide +kernel
theorem dX11_count_45 : decode cX11_count 45 = .ok (.getfield 16, 3) := by decide +kernel
theorem dX11_count_48 : decode cX11_count 48 = .ok (.getfield 133, 3) := by decide +kernel
theorem dX11_count_51 : decode cX11_count 51 = .ok (.ireturn, 1) := by decide +kernel
theorem dX11_count_52 : decode cX11_count 52 = .ok (.aload_n 0, 1) := by decide +kernel
theorem dX11_count_53 : decode cX11_count 53 = .ok (.getfield 16, 3) := by decide +kernel
theorem dX11_count_56 : decode cX11_count 56 = .ok (.getfield 208, 3) := by decide +kernel
theorem dX11_count_59 : decode cX11_count 59 = .ok (.ireturn, 1) := by decide +kernel
theorem dX11_count_60 : decode cX11_count 60 = .ok (.aload_n 0, 1) := by decide +kernel
theorem dX11_count_61 : decode cX11_count 61 = .ok (.getfield 16, 3) := by decide +kernel
theorem dX11_count_64 : decode cX11_count 64 = .ok (.getfield 202, 3) := by decide +kernel
theorem dX11_count_67 : decode cX11_count 67 = .ok (.ireturn, 1) := by decide +kernel
theorem dX11_count_68 : decode cX11_count 68 = .ok (.aload_n 0, 1) := by decide +kernel
theorem dX11_count_69 : decode cX11_count 69 = .ok (.getfield 16, 3) := by decide +kernel
theorem dX11_count_72 : decode cX11_count 72 = .ok (.getfield 465, 3) := by decide +kernel
theorem dX11_count_75 : decode cX11_count 75 = .ok (.ireturn, 1) := by decide +kernel
theorem dX11_count_76 : decode cX11_count 76 = .ok (.aload_n 0, 1) := by decide +kernel
theorem dX11_count_77 : decode cX11_count 77 = .ok (.getfield 16, 3) := by decide +kernel
theorem dX11_count_80 : decode cX11_count 80 = .ok (.getfield 179, 3) := by decide +kernel
theorem dX11_count_83 : decode cX11_count 83 = .ok (.ireturn, 1) := by decide +kernel
theorem dX11_count_84 : decode cX11_count 84 = .ok (.aload_n 0, 1) := by decide +kernel
theorem dX11_count_85 : decode cX11_count 85 = .ok (.getfield 48, 3) := by decide +kernel
theorem dX11_count_88 : decode cX11_count 88 = .ok (.getfield 273, 3) := by decide +kernel
theorem dX11_count_91 : decode cX11_count 91 = .ok (.ireturn, 1) := by decide +kernel
theorem dX11_count_92 : decode cX11_count 92 = .ok (.aload_n 0, 1) := by decide +kernel
theorem dX11_count_93 : decode cX11_count 93 = .ok (.getfield 41, 3) := by decide +kernel
theorem dX11_count_96 : decode cX11_count 96 = .ok (.getfield 205, 3) := by decide +kernel
theorem dX11_count_99 : decode cX11_count 99 = .ok (.ireturn, 1) := by decide +kernel
theorem dX11_count_100 : decode cX11_count 100 = .ok (.iconst (-1), 1) := by decide +kernel
theorem dX11_count_101 : decode cX11_count 101 = .ok (.ireturn, 1) := by decide +kernel
theorem dX12_init_0 : decode cX12_init 0 = .ok (.aload_n 0, 1) := by decide +kernel
theorem dX12_init_1 : decode cX12_init 1 = .ok (.invokespecial 1, 3) := by decide +kernel
theorem dX12_init_4 : decode cX12_init 4 = .ok (.aload_n 0, 1) := by decide +kernel
theorem dX12_init_5 : decode cX12_init 5 = .ok (.sipush 400, 3) := by decide +kernel
theorem dX12_init_8 : decode cX12_init 8 = .ok (.newarray .int, 2) := by decide +kernel
theorem dX12_init_10 : decode cX12_init 10 = .ok (.putfield 7, 3) := by decide +kernel
theorem dX12_init_13 : decode cX12_init 13 = .ok (.aload_n 0, 1) := by decide +kernel
theorem dX12_init_14 : decode cX12_init 14 = .ok (.bipush 41, 2) := by decide +kernel
theorem dX12_init_16 : decode cX12_init 16 = .ok (.newarray .int, 2) := by decide +kernel
theorem dX12_init_18 : decode cX12_init 18 = .ok (.dup, 1) := by decide +kernel
theorem dX12_init_19 : decode cX12_init 19 = .ok (.iconst 0, 1) := by decide +kernel
theorem dX12_init_20 : decode cX12_init 20 = .ok (.bipush 103, 2) := by decide +kernel
theorem dX12_init_22 : decode cX12_init 22 = .ok (.iastore, 1) := by decide +kernel
theorem dX12_init_23 : decode cX12_init 23 = .ok (.dup, 1) := by decide +kernel
theorem dX12_init_24 : decode cX12_init 24 = .ok (.iconst 1, 1) := by decide +kernel
theorem dX12_init_25 : decode cX12_init 25 = .ok (.bipush 114, 2) := by decide +kernel
theorem dX12_init_27 : decode cX12_init 27 = .ok (.iastore, 1) := by decide +kernel
theorem dX12_init_28 : decode cX12_init 28 = .ok (.dup, 1) := by decide +kernel
theorem dX12_init_29 : decode cX12_init 29 = .ok (.iconst 2, 1) := by decide +kernel
theorem dX12_init_30 : decode cX12_init 30 = .ok (.bipush 111, 2) := by decide +kernel
theorem dX12_init_32 : decode cX12_init 32 = .ok (.iastore, 1) := by decide +kernel
theorem dX12_init_33 : decode cX12_init 33 = .ok (.dup, 1) := by decide +kernel
theorem dX12_init_34 : decode cX12_init 34 = .ok (.iconst 3, 1) := by decide +kernel
theorem dX12_init_35 : decode cX12_init 35 = .ok (.bipush 117, 2) := by decide +kernel
theorem dX12_init_37 : decode cX12_init 37 = .ok (.iastore, 1) := by decide +kernel
theorem dX12_init_38 : decode cX12_init 38 = .ok (.dup, 1) := by decide +kernel
theorem dX12_init_39 : decode cX12_init 39 = .ok (.iconst 4, 1) := by decide +kernel
theorem dX12_init_40 : decode cX12_init 40 = .ok (.bipush 112, 2) := by decide +kernel
theorem dX12_init_42 : decode cX12_init 42 = .ok (.iastore, 1) := by decide +kernel
theorem dX12_init_43 : decode cX12_init 43 = .ok (.dup, 1) := by decide +kernel
theorem dX12_init_44 : decode cX12_init 44 = .ok (.iconst 5, 1) := by decide +kernel
theorem dX12_init_45 : decode cX12_init 45 = .ok (.bipush 115, 2) := by decide +kernel
theorem dX12_init_47 : decode cX12_init 47 = .ok (.iastore, 1) := by decide +kernel
theorem dX12_init_48 : decode cX12_init 48 = .ok (.dup, 1) := by decide +kernel
theorem dX12_init_49 : decode cX12_init 49 = .ok (.bipush 6, 2) := by decide +kernel
theorem dX12_init_51 : decode cX12_init 51 = .ok (.bipush 32, 2) := by decide +kernel
theorem dX12_init_53 : decode cX12_init 53 = .ok (.iastore, 1) := by decide +kernel
theorem dX12_init_54 : decode cX12_init 54 = .ok (.dup, 1) := by decide +kernel
theorem dX12_init_55 : decode cX12_init 55 = .ok (.bipush 7, 2) := by decide +kernel
theorem dX12_init_57 : decode cX12_init 57 = .ok (.bipush 112, 2) := by decide +kernel
theorem dX12_init_59 : decode cX12_init 59 = .ok (.iastore, 1) := by decide +kernel
theorem dX12_init_60 : decode cX12_init 60 = .ok (.dup, 1) := by decide +kernel
theorem dX12_init_61 : decode cX12_init 61 = .ok (.bipush 8, 2) := by decide +kernel
theorem dX12_init_63 : decode cX12_init 63 = .ok (.bipush 111, 2) := by decide +kernel
theorem dX12_init_65 : decode cX12_init 65 = .ok (.iastore, 1) := by decide +kernel
theorem dX12_init_66 : decode cX12_init 66 = .ok (.dup, 1) := by decide +kernel
theorem dX12_init_67 : decode cX12_init 67 = .ok (.bipush 9, 2) := by decide +kernel
theorem dX12_init_69 : decode cX12_init 69 = .ok (.bipush 116, 2) := by decide +kernel
theorem dX12_init_71 : decode cX12_init 71 = .ok (.iastore, 1) := by decide +kernel
theorem dX12_init_72 : decode cX12_init 72 = .ok (.dup, 1) := by decide +kernel
theorem dX12_init_73 : decode cX12_init 73 = .ok (.bipush 10, 2) := by decide +kernel
theorem dX12_init_75 : decode cX12_init 75 = .ok (.bipush 32, 2) := by decide +kernel
theorem dX12_init_77 : decode cX12_init 77 = .ok (.iastore, 1) := by decide +kernel
theorem dX12_init_78 : decode cX12_init 78 = .ok (.dup, 1) := by decide +kernel
theorem dX12_init_79 : decode cX12_init 79 = .ok (.bipush 11, 2) := by decide +kernel
theorem dX12_init_81 : decode cX12_init 81 = .ok (.bipush 109, 2) := by decide +kernel
theorem dX12_init_83 : decode cX12_init 83 = .ok (.iastore, 1) := by decide +kernel
theorem dX12_init_84 : decode cX12_init 84 = .ok (.dup, 1) := by decide +kernel
theorem dX12_init_85 : decode cX12_init 85 = .ok (.bipush 12, 2) := by decide +kernel
theorem dX12_init_87 : decode cX12_init 87 = .ok (.bipush 97, 2) := by decide +kernel
theorem dX12_init_89 : decode cX12_init 89 = .ok (.iastore, 1) := by decide +kernel
theorem dX12_init_90 : decode cX12_init 90 = .ok (.dup, 1) := by decide +kernel
theorem dX12_init_91 : decode cX12_init 91 = .ok (.bipush 13, 2) := by decide +kernel
theorem dX12_init_93 : decode cX12_init 93 = .ok (.bipush 114, 2) := by decide +kernel
theorem dX12_init_95 : decode cX12_init 95 = .ok (.iastore, 1) := by decide +kernel
theorem dX12_init_96 : decode cX12_init 96 = .ok (.dup, 1) := by decide +kernel
theorem dX12_init_97 : decode cX12_init 97 = .ok (.bipush 14, 2) := by decide +kernel
theorem dX12_init_99 : decode cX12_init 99 = .ok (.bipush 107, 2) := by decide +kernel
theorem dX12_init_101 : decode cX12_init 101 = .ok (.iastore, 1) := by decide +kernel
theorem dX12_init_102 : decode cX12_init 102 = .ok (.dup, 1) := by decide +kernel
theorem dX12_init_103 : decode cX12_init 103 = .ok (.bipush 15, 2) := by decide +kernel
theorem dX12_init_105 : decode cX12_init 105 = .ok (.bipush 32, 2) := by decide +kernel
theorem dX12_init_107 : decode cX12_init 107 = .ok (.iastore, 1) := by decide +kernel
theorem dX12_init_108 : decode cX12_init 108 = .ok (.dup, 1) := by decide +kernel
theorem dX12_init_109 : decode cX12_init 109 = .ok (.bipush 16, 2) := by decide +kernel
theorem dX12_init_111 : decode cX12_init 111 = .ok (.bipush 97, 2) := by decide +kernel
theorem dX12_init_113 : decode cX12_init 113 = .ok (.iastore, 1) := by decide +kernel
theorem dX12_init_114 : decode cX12_init 114 = .ok (.dup, 1) := by decide +kernel
theorem dX12_init_115 : decode cX12_init 115 = .ok (.bipush 17, 2) := by decide +kernel
theorem dX12_init_117 : decode cX12_init 117 = .ok (.bipush 116, 2) := by decide +kernel
theorem dX12_init_119 : decode cX12_init 119 = .ok (.iastore, 1) := by decide +kernel
theorem dX12_init_120 : decode cX12_init 120 = .ok (.dup, 1) := by decide +kernel
theorem dX12_init_121 : decode cX12_init 121 = .ok (.bipush 18, 2) := by decide +kernel
theorem dX12_init_123 : decode cX12_init 123 = .ok (.bipush 109, 2) := by decide +kernel
theorem dX12_init_125 : decode cX12_init 125 = .ok (.iastore, 1) := by decide +kernel
theorem dX12_init_126 : decode cX12_init 126 = .ok (.dup, 1) := by decide +kernel
theorem dX12_init_127 : decode cX12_init 127 = .ok (.bipush 19, 2) := by decide +kernel
theorem dX12_init_129 : decode cX12_init 129 = .ok (.bipush 111, 2) := by decide +kernel
theorem dX12_init_131 : decode cX12_init 131 = .ok (.iastore, 1) := by decide +kernel
theorem dX12_init_132 : decode cX12_init 132 = .ok (.dup, 1) := by decide +kernel
theorem dX12_init_133 : decode cX12_init 133 = .ok (.bipush 20, 2) := by decide +kernel
theorem dX12_init_135 : decode cX12_init 135 = .ok (.bipush 115, 2) := by decide +kernel
theorem dX12_init_137 : decode cX12_init 137 = .ok (.iastore, 1) := by decide +kernel
theorem dX12_init_138 : decode cX12_init 138 = .ok (.dup, 1) := by decide +kernel
theorem dX12_init_139 : decode cX12_init 139 = .ok (.bipush 21, 2) := by decide +kernel
theorem dX12_init_141 : decode cX12_init 141 = .ok (.bipush 116, 2) := by decide +kernel
theorem dX12_init_143 : decode cX12_init 143 = .ok (.iastore, 1) := by decide +kernel
theorem dX12_init_144 : decode cX12_init 144 = .ok (.dup, 1) := by decide +kernel
theorem dX12_init_145 : decode cX12_init 145 = .ok (.bipush 22, 2) := by decide +kernel
theorem dX12_init_147 : decode cX12_init 147 = .ok (.bipush 32, 2) := by decide +kernel
theorem dX12_init_149 : decode cX12_init 149 = .ok (.iastore, 1) := by decide +kernel
theorem dX12_init_150 : decode cX12_init 150 = .ok (.dup, 1) := by decide +kernel
theorem dX12_init_151 : decode cX12_init 151 = .ok (.bipush 23, 2) := by decide +kernel
theorem dX12_init_153 : decode cX12_init 153 = .ok (.bipush 97, 2) := by decide +kernel
theorem dX12_init_155 : decode cX12_init 155 = .ok (.iastore, 1) := by decide +kernel
theorem dX12_init_156 : decode cX12_init 156 = .ok (.dup, 1) := by decide +kernel
theorem dX12_init_157 : decode cX12_init 157 = .ok (.bipush 24, 2) := by decide +kernel
theorem dX12_init_159 : decode cX12_init 159 = .ok (.bipush 112, 2) := by decide +kernel
theorem dX12_init_161 : decode cX12_init 161 = .ok (.iastore, 1) := by decide +kernel
theorem dX12_init_162 : decode cX12_init 162 = .ok (.dup, 1) := by decide +kernel
theorem dX12_init_163 : decode cX12_init 163 = .ok (.bipush 25, 2) := by decide +kernel
theorem dX12_init_165 : decode cX12_init 165 = .ok (.bipush 97, 2) := by decide +kernel
theorem dX12_init_167 : decode cX12_init 167 = .ok (.iastore, 1) := by decide +kernel
theorem dX12_init_168 : decode cX12_init 168 = .ok (.dup, 1) := by decide +kernel
theorem dX12_init_169 : decode cX12_init 169 = .ok (.bipush 26, 2) := by decide +kernel
theorem dX12_init_171 : decode cX12_init 171 = .ok (.bipush 114, 2) := by decide +kernel
theorem dX12_init_173 : decode cX12_init 173 = .ok (.iastore, 1) := by decide +kernel
theorem dX12_init_174 : decode cX12_init 174 = .ok (.dup, 1) := by decide +kernel
theorem dX12_init_175 : decode cX12_init 175 = .ok (.bipush 27, 2) := by decide +kernel
theorem dX12_init_177 : decode cX12_init 177 = .ok (.bipush 116, 2) := by decide +kernel
theorem dX12_init_179 : decode cX12_init 179 = .ok (.iastore, 1) := by decide +kernel
theorem dX12_init_180 : decode cX12_init 180 = .ok (.dup, 1) := by decide +kernel
theorem dX12_init_181 : decode cX12_init 181 = .ok (.bipush 28, 2) := by decide +kernel
theorem dX12_init_183 : decode cX12_init 183 = .ok (.bipush 32, 2) := by decide +kernel
theorem dX12_init_185 : decode cX12_init 185 = .ok (.iastore, 1) := by decide +kernel
theorem dX12_init_186 : decode cX12_init 186 = .ok (.dup, 1) := by decide +kernel
theorem dX12_init_187 : decode cX12_init 187 = .ok (.bipush 29, 2) := by decide +kernel
theorem dX12_init_189 : decode cX12_init 189 = .ok (.bipush 110, 2) := by decide +kernel
theorem dX12_init_191 : decode cX12_init 191 = .ok (.iastore, 1) := by decide +kernel
theorem dX12_init_192 : decode cX12_init 192 = .ok (.dup, 1) := by decide +kernel
theorem dX12_init_193 : decode cX12_init 193 = .ok (.bipush 30, 2) := by decide +kernel
theorem dX12_init_195 : decode cX12_init 195 = .ok (.bipush 101, 2) := by decide +kernel
theorem dX12_init_197 : decode cX12_init 197 = .ok (.iastore, 1) := by decide +kernel
theorem dX12_init_198 : decode cX12_init 198 = .ok (.dup, 1) := by decide +kernel
theorem dX12_init_199 : decode cX12_init 199 = .ok (.bipush 31, 2) := by decide +kernel
theorem dX12_init_201 : decode cX12_init 201 = .ok (.bipush 118, 2) := by decide +kernel
theorem dX12_init_203 : decode cX12_init 203 = .ok (.iastore, 1) := by decide +kernel
theorem dX12_init_204 : decode cX12_init 204 = .ok (.dup, 1) := by decide +kernel
theorem dX12_init_205 : decode cX12_init 205 = .ok (.bipush 32, 2) := by decide +kernel
theorem dX12_init_207 : decode cX12_init 207 = .ok (.bipush 101, 2) := by decide +kernel
theorem dX12_init_209 : decode cX12_init 209 = .ok (.iastore, 1) := by decide +kernel
theorem dX12_init_210 : decode cX12_init 210 = .ok (.dup, 1) := by decide +kernel
theorem dX12_init_211 : decode cX12_init 211 = .ok (.bipush 33, 2) := by decide +kernel
theorem dX12_init_213 : decode cX12_init 213 = .ok (.bipush 114, 2) := by decide +kernel
theorem dX12_init_215 : decode cX12_init 215 = .ok (.iastore, 1) := by decide +kernel
theorem dX12_init_216 : decode cX12_init 216 = .ok (.dup, 1) := by decide +kernel
theorem dX12_init_217 : decode cX12_init 217 = .ok (.bipush 34, 2) := by decide +kernel
theorem dX12_init_219 : decode cX12_init 219 = .ok (.bipush 32, 2) := by decide +kernel
theorem dX12_init_221 : decode cX12_init 221 = .ok (.iastore, 1) := by decide +kernel
theorem dX12_init_222 : decode cX12_init 222 = .ok (.dup, 1) := by decide +kernel
theorem dX12_init_223 : decode cX12_init 223 = .ok (.bipush 35, 2) := by decide +kernel
theorem dX12_init_225 : decode cX12_init 225 = .ok (.bipush 102, 2) := by decide +kernel
theorem dX12_init_227 : decode cX12_init 227 = .ok (.iastore, 1) := by decide +kernel
theorem dX12_init_228 : decode cX12_init 228 = .ok (.dup, 1) := by decide +kernel
theorem dX12_init_229 : decode cX12_init 229 = .ok (.bipush 36, 2) := by decide +kernel
theorem dX12_init_231 : decode cX12_init 231 = .ok (.bipush 105, 2) := by decide +kernel
theorem dX12_init_233 : decode cX12_init 233 = .ok (.iastore, 1) := by decide +kernel
theorem dX12_init_234 : decode cX12_init 234 = .ok (.dup, 1) := by decide +kernel
theorem dX12_init_235 : decode cX12_init 235 = .ok (.bipush 37, 2) := by decide +kernel
theorem dX12_init_237 : decode cX12_init 237 = .ok (.bipush 120, 2) := by decide +kernel
theorem dX12_init_239 : decode cX12_init 239 = .ok (.iastore, 1) := by decide +kernel
theorem dX12_init_240 : decode cX12_init 240 = .ok (.dup, 1) := by decide +kernel
theorem dX12_init_241 : decode cX12_init 241 = .ok (.bipush 38, 2) := by decide +kernel
theorem dX12_init_243 : decode cX12_init 243 = .ok (.bipush 101, 2) := by decide +kernel
theorem dX12_init_245 : decode cX12_init 245 = .ok (.iastore, 1) := by decide +kernel
theorem dX12_init_246 : decode cX12_init 246 = .ok (.dup, 1) := by decide +kernel
theorem dX12_init_247 : decode cX12_init 247 = .ok (.bipush 39, 2) := by decide +kernel
theorem dX12_init_249 : decode cX12_init 249 = .ok (.bipush 100, 2) := by decide +kernel
theorem dX12_init_251 : decode cX12_init 251 = .ok (.iastore, 1) := by decide +kernel
theorem dX12_init_252 : decode cX12_init 252 = .ok (.dup, 1) := by decide +kernel
theorem dX12_init_253 : decode cX12_init 253 = .ok (.bipush 40, 2) := by decide +kernel
theorem dX12_init_255 : decode cX12_init 255 = .ok (.bipush 32, 2) := by decide +kernel
theorem dX12_init_257 : decode cX12_init 257 = .ok (.iastore, 1) := by decide +kernel
theorem dX12_init_258 : decode cX12_init 258 = .ok (.putfield 13, 3) := by decide +kernel
theorem dX12_init_261 : decode cX12_init 261 = .ok (.aload_n 0, 1) := by decide +kernel
theorem dX12_init_262 : decode cX12_init 262 = .ok (.iconst (-1), 1) := by decide +kernel
theorem dX12_init_263 : decode cX12_init 263 = .ok (.putfield 16, 3) := by decide +kernel
theorem dX12_init_266 : decode cX12_init 266 = .ok (.aload_n 0, 1) := by decide +kernel
theorem dX12_init_267 : decode cX12_init 267 = .ok (.bipush 12, 2) := by decide +kernel
theorem dX12_init_269 : decode cX12_init 269 = .ok (.newarray .int, 2) := by decide +kernel
theorem dX12_init_271 : decode cX12_init 271 = .ok (.putfield 20, 3) := by decide +kernel
theorem dX12_init_274 : decode cX12_init 274 = .ok (.aload_n 0, 1) := by decide +kernel
theorem dX12_init_275 : decode cX12_init 275 = .ok (.bipush 6, 2) := by decide +kernel
theorem dX12_init_277 : decode cX12_init 277 = .ok (.newarray .int, 2) := by decide +kernel
theorem dX12_init_279 : decode cX12_init 279 = .ok (.putfield 23, 3) := by decide +kernel
theorem dX12_init_282 : decode cX12_init 282 = .ok (.aload_n 0, 1) := by decide +kernel
theorem dX12_init_283 : decode cX12_init 283 = .ok (.bipush 6, 2) := by decide +kernel
theorem dX12_init_285 : decode cX12_init 285 = .ok (.newarray .int, 2) := by decide +kernel
theorem dX12_init_287 : decode cX12_init 287 = .ok (.putfield 26, 3) := by decide +kernel
theorem dX12_init_290 : decode cX12_init 290 = .ok (.aload_n 0, 1) := by decide +kernel
theorem dX12_init_291 : decode cX12_init 291 = .ok (.bipush 30, 2) := by decide +kernel
theorem dX12_init_293 : decode cX12_init 293 = .ok (.newarray .int, 2) := by decide +kernel
theorem dX12_init_295 : decode cX12_init 295 = .ok (.putfield 29, 3) := by decide +kernel
theorem dX12_init_298 : decode cX12_init 298 = .ok (.aload_n 0, 1) := by decide +kernel
theorem dX12_init_299 : decode cX12_init 299 = .ok (.bipush 12, 2) := by decide +kernel
theorem dX12_init_301 : decode cX12_init 301 = .ok (.newarray .int, 2) := by decide +kernel
theorem dX12_init_303 : decode cX12_init 303 = .ok (.putfield 32, 3) := by decide +kernel
theorem dX12_init_306 : decode cX12_init 306 = .ok (.aload_n 0, 1) := by decide +kernel
theorem dX12_init_307 : decode cX12_init 307 = .ok (.bipush 6, 2) := by decide +kernel
theorem dX12_init_309 : decode cX12_init 309 = .ok (.newarray .int, 2) := by decide +kernel
theorem dX12_init_311 : decode cX12_init 311 = .ok (.putfield 35, 3) := by decide +kernel
theorem dX12_init_314 : decode cX12_init 314 = .ok (.aload_n 0, 1) := by decide +kernel
theorem dX12_init_315 : decode cX12_init 315 = .ok (.bipush 6, 2) := by decide +kernel
theorem dX12_init_317 : decode cX12_init 317 = .ok (.newarray .int, 2) := by decide +kernel
theorem dX12_init_319 : decode cX12_init 319 = .ok (.putfield 38, 3) := by decide +kernel
theorem dX12_init_322 : decode cX12_init 322 = .ok (.aload_n 0, 1) := by decide +kernel
theorem dX12_init_323 : decode cX12_init 323 = .ok (.bipush 30, 2) := by decide +kernel
theorem dX12_init_325 : decode cX12_init 325 = .ok (.newarray .int, 2) := by decide +kernel
theorem dX12_init_327 : decode cX12_init 327 = .ok (.putfield 41, 3) := by decide +kernel
theorem dX12_init_330 : decode cX12_init 330 = .ok (.aload_n 0, 1) := by decide +kernel
theorem dX12_init_331 : decode cX12_init 331 = .ok (.bipush 100, 2) := by decide +kernel
theorem dX12_init_333 : decode cX12_init 333 = .ok (.newarray .int, 2) := by decide +kernel
theorem dX12_init_335 : decode cX12_init 335 = .ok (.putfield 44, 3) := by decide +kernel
theorem dX12_init_338 : decode cX12_init 338 = .ok (.aload_n 0, 1) := by decide +kernel
theorem dX12_init_339 : decode cX12_init 339 = .ok (.sipush 13824, 3) := by decide +kernel
theorem dX12_init_342 : decode cX12_init 342 = .ok (.newarray .int, 2) := by decide +kernel
theorem dX12_init_344 : decode cX12_init 344 = .ok (.putfield 47, 3) := by decide +kernel
theorem dX12_init_347 : decode cX12_init 347 = .ok (.aload_n 0, 1) := by decide +kernel
theorem dX12_init_348 : decode cX12_init 348 = .ok (.ldc 50, 2) := by decide +kernel
theorem dX12_init_350 : decode cX12_init 350 = .ok (.newarray .byte, 2) := by decide +kernel
theorem dX12_init_352 : decode cX12_init 352 = .ok (.putfield 51, 3) := by decide +kernel
theorem dX12_init_355 : decode cX12_init 355 = .ok (.aload_n 0, 1) := by decide +kernel
theorem dX12_init_356 : decode cX12_init 356 = .ok (.sipush 1024, 3) := by decide +kernel
theorem dX12_init_359 : decode cX12_init 359 = .ok (.newarray .boolean, 2) := by decide +kernel
theorem dX12_init_361 : decode cX12_init 361 = .ok (.putfield 55, 3) := by decide +kernel
theorem dX12_init_364 : decode cX12_init 364 = .ok (.aload_n 0, 1) := by decide +kernel
theorem dX12_init_365 : decode cX12_init 365 = .ok (.iconst 4, 1) := by decide +kernel
theorem dX12_init_366 : decode cX12_init 366 = .ok (.newarray .int, 2) := by decide +kernel
theorem dX12_init_368 : decode cX12_init 368 = .ok (.putfield 59, 3) := by decide +kernel
theorem dX12_init_371 : decode cX12_init 371 = .ok (.aload_n 0, 1) := by decide +kernel
theorem dX12_init_372 : decode cX12_init 372 = .ok (.iconst 4, 1) := by decide +kernel
theorem dX12_init_373 : decode cX12_init 373 = .ok (.newarray .int, 2) := by decide +kernel
theorem dX12_init_375 : decode cX12_init 375 = .ok (.putfield 62, 3) := by decide +kernel
theorem dX12_init_378 : decode cX12_init 378 = .ok (.aload_n 0, 1) := by decide +kernel
theorem dX12_init_379 : decode cX12_init 379 = .ok (.bipush 12, 2) := by decide +kernel
theorem dX12_init_381 : decode cX12_init 381 = .ok (.newarray .int, 2) := by decide +kernel
theorem dX12_init_383 : decode cX12_init 383 = .ok (.putfield 65, 3) := by decide +kernel
theorem dX12_init_386 : decode cX12_init 386 = .ok (.aload_n 0, 1) := by decide +kernel
theorem dX12_init_387 : decode cX12_init 387 = .ok (.bipush 12, 2) := by decide +kernel
theorem dX12_init_389 : decode cX12_init 389 = .ok (.newarray .int, 2) := by decide +kernel
theorem dX12_init_391 : decode cX12_init 391 = .ok (.putfield 68, 3) := by decide +kernel
theorem dX12_init_394 : decode cX12_init 394 = .ok (.aload_n 0, 1) := by decide +kernel
theorem dX12_init_395 : decode cX12_init 395 = .ok (.iconst 4, 1) := by decide +kernel
theorem dX12_init_396 : decode cX12_init 396 = .ok (.newarray .int, 2) := by decide +kernel
theorem dX12_init_398 : decode cX12_init 398 = .ok (.putfield 71, 3) := by decide +kernel
theorem dX12_init_401 : decode cX12_init 401 = .ok (.aload_n 0, 1) := by decide +kernel
theorem dX12_init_402 : decode cX12_init 402 = .ok (.iconst 4, 1) := by decide +kernel
theorem dX12_init_403 : decode cX12_init 403 = .ok (.newarray .int, 2) := by decide +kernel
theorem dX12_init_405 : decode cX12_init 405 = .ok (.putfield 74, 3) := by decide +kernel
theorem dX12_init_408 : decode cX12_init 408 = .ok (.aload_n 0, 1) := by decide +kernel
theorem dX12_init_409 : decode cX12_init 409 = .ok (.bipush 6, 2) := by decide +kernel
theorem dX12_init_411 : decode cX12_init 411 = .ok (.newarray .int, 2) := by decide +kernel
theorem dX12_init_413 : decode cX12_init 413 = .ok (.putfield 77, 3) := by decide +kernel
theorem dX12_init_416 : decode cX12_init 416 = .ok (.aload_n 0, 1) := by decide +kernel
theorem dX12_init_417 : decode cX12_init 417 = .ok (.sipush 14425, 3) := by decide +kernel
theorem dX12_init_420 : decode cX12_init 420 = .ok (.newarray .int, 2) := by decide +kernel
theorem dX12_init_422 : decode cX12_init 422 = .ok (.putfield 80, 3) := by decide +kernel
theorem dX12_init_425 : decode cX12_init 425 = .ok (.aload_n 0, 1) := by decide +kernel
theorem dX12_init_426 : decode cX12_init 426 = .ok (.sipush 14425, 3) := by decide +kernel
theorem dX12_init_429 : decode cX12_init 429 = .ok (.newarray .long, 2) := by decide +kernel
theorem dX12_init_431 : decode cX12_init 431 = .ok (.putfield 83, 3) := by decide +kernel
theorem dX12_init_434 : decode cX12_init 434 = .ok (.aload_n 0, 1) := by decide +kernel
theorem dX12_init_435 : decode cX12_init 435 = .ok (.sipush 13824, 3) := by decide +kernel
theorem dX12_init_438 : decode cX12_init 438 = .ok (.newarray .int, 2) := by decide +kernel
theorem dX12_init_440 : decode cX12_init 440 = .ok (.putfield 87, 3) := by decide +kernel
theorem dX12_init_443 : decode cX12_init 443 = .ok (.aload_n 0, 1) := by decide +kernel
theorem dX12_init_444 : decode cX12_init 444 = .ok (.bipush 16, 2) := by decide +kernel
theorem dX12_init_446 : decode cX12_init 446 = .ok (.newarray .int, 2) := by decide +kernel
theorem dX12_init_448 : decode cX12_init 448 = .ok (.putfield 90, 3) := by decide +kernel
theorem dX12_init_451 : decode cX12_init 451 = .ok (.aload_n 0, 1) := by decide +kernel
theorem dX12_init_452 : decode cX12_init 452 = .ok (.iconst 5, 1) := by decide +kernel
theorem dX12_init_453 : decode cX12_init 453 = .ok (.newarray .int, 2) := by decide +kernel
theorem dX12_init_455 : decode cX12_init 455 = .ok (.putfield 93, 3) := by decide +kernel
theorem dX12_init_458 : decode cX12_init 458 = .ok (.aload_n 0, 1) := by decide +kernel
theorem dX12_init_459 : decode cX12_init 459 = .ok (.sipush 625, 3) := by decide +kernel
theorem dX12_init_462 : decode cX12_init 462 = .ok (.newarray .long, 2) := by decide +kernel
theorem dX12_init_464 : decode cX12_init 464 = .ok (.putfield 96, 3) := by decide +kernel
theorem dX12_init_467 : decode cX12_init 467 = .ok (.aload_n 0, 1) := by decide +kernel
theorem dX12_init_468 : decode cX12_init 468 = .ok (.sipush 13824, 3) := by decide +kernel
theorem dX12_init_471 : decode cX12_init 471 = .ok (.newarray .long, 2) := by decide +kernel
theorem dX12_init_473 : decode cX12_init 473 = .ok (.putfield 99, 3) := by decide +kernel
theorem dX12_init_476 : decode cX12_init 476 = .ok (.aload_n 0, 1) := by decide +kernel
theorem dX12_init_477 : decode cX12_init 477 = .ok (.iconst (-1), 1) := by decide +kernel
theorem dX12_init_478 : decode cX12_init 478 = .ok (.putfield 102, 3) := by decide +kernel
theorem dX12_init_481 : decode cX12_init 481 = .ok (.aload_n 0, 1) := by decide +kernel
theorem dX12_init_482 : decode cX12_init 482 = .ok (.sipush 144, 3) := by decide +kernel
theorem dX12_init_485 : decode cX12_init 485 = .ok (.newarray .long, 2) := by decide +kernel
theorem dX12_init_487 : decode cX12_init 487 = .ok (.putfield 105, 3) := by decide +kernel
theorem dX12_init_490 : decode cX12_init 490 = .ok (.aload_n 0, 1) := by decide +kernel
theorem dX12_init_491 : decode cX12_init 491 = .ok (.sipush 13824, 3) := by decide +kernel
theorem dX12_init_494 : decode cX12_init 494 = .ok (.newarray .int, 2) := by decide +kernel
theorem dX12_init_496 : decode cX12_init 496 = .ok (.putfield 108, 3) := by decide +kernel
theorem dX12_init_499 : decode cX12_init 499 = .ok (.aload_n 0, 1) := by decide +kernel
theorem dX12_init_500 : decode cX12_init 500 = .ok (.sipush 13824, 3) := by decide +kernel
theorem dX12_init_503 : decode cX12_init 503 = .ok (.newarray .int, 2) := by decide +kernel
theorem dX12_init_505 : decode cX12_init 505 = .ok (.putfield 111, 3) := by decide +kernel
theorem dX12_init_508 : decode cX12_init 508 = .ok (.aload_n 0, 1) := by decide +kernel
theorem dX12_init_509 : decode cX12_init 509 = .ok (.iconst 5, 1) := by decide +kernel
theorem dX12_init_510 : decode cX12_init 510 = .ok (.newarray .int, 2) := by decide +kernel
theorem dX12_init_512 : decode cX12_init 512 = .ok (.putfield 114, 3) := by decide +kernel
theorem dX12_init_515 : decode cX12_init 515 = .ok (.aload_n 0, 1) := by decide +kernel
theorem dX12_init_516 : decode cX12_init 516 = .ok (.sipush 384, 3) := by decide +kernel
theorem dX12_init_519 : decode cX12_init 519 = .ok (.newarray .int, 2) := by decide +kernel
theorem dX12_init_521 : decode cX12_init 521 = .ok (.putfield 117, 3) := by decide +kernel
theorem dX12_init_524 : decode cX12_init 524 = .ok (.aload_n 0, 1) := by decide +kernel
theorem dX12_init_525 : decode cX12_init 525 = .ok (.sipush 13824, 3) := by decide +kernel
theorem dX12_init_528 : decode cX12_init 528 = .ok (.newarray .int, 2) := by decide +kernel
theorem dX12_init_530 : decode cX12_init 530 = .ok (.putfield 120, 3) := by decide +kernel
theorem dX12_init_533 : decode cX12_init 533 = .ok (.aload_n 0, 1) := by decide +kernel
theorem dX12_init_534 : decode cX12_init 534 = .ok (.sipush 13824, 3) := by decide +kernel
theorem dX12_init_537 : decode cX12_init 537 = .ok (.newarray .int, 2) := by decide +kernel
theorem dX12_init_539 : decode cX12_init 539 = .ok (.putfield 123, 3) := by decide +kernel
theorem dX12_init_542 : decode cX12_init 542 = .ok (.aload_n 0, 1) := by decide +kernel
theorem dX12_init_543 : decode cX12_init 543 = .ok (.invokevirtual 126, 3) := by decide +kernel
theorem dX12_init_546 : decode cX12_init 546 = .ok (.aload_n 0, 1) := by decide +kernel
theorem dX12_init_547 : decode cX12_init 547 = .ok (.invokevirtual 129, 3) := by decide +kernel
theorem dX12_init_550 : decode cX12_init 550 = .ok (.return_, 1) := by decide +kernel
theorem dX12_feed_0 : decode cX12_feed 0 = .ok (.aload_n 0, 1) := by decide +kernel
theorem dX12_feed_1 : decode cX12_feed 1 = .ok (.iconst 0, 1) := by decide +kernel
theorem dX12_feed_2 : decode cX12_feed 2 = .ok (.putfield 132, 3) := by decide +kernel
theorem dX12_feed_5 : decode cX12_feed 5 = .ok (.aload_n 0, 1) := by decide +kernel
theorem dX12_feed_6 : decode cX12_feed 6 = .ok (.getfield 135, 3) := by decide +kernel
theorem dX12_feed_9 : decode cX12_feed 9 = .ok (.bipush 20, 2) := by decide +kernel
theorem dX12_feed_11 : decode cX12_feed 11 = .ok (.iadd, 1) := by decide +kernel
theorem dX12_feed_12 : decode cX12_feed 12 = .ok (.sipush 400, 3) := by decide +kernel
theorem dX12_feed_15 : decode cX12_feed 15 = .ok (.if_icmp .le 5, 3) := by decide +kernel
theorem dX12_feed_20 : decode cX12_feed 20 = .ok (.iconst 0, 1) := by decide +kernel
theorem dX12_feed_21 : decode cX12_feed 21 = .ok (.istore 6, 2) := by decide +kernel
theorem dX12_feed_23 : decode cX12_feed 23 = .ok (.iload 6, 2) := by decide +kernel
theorem dX12_feed_25 : decode cX12_feed 25 = .ok (.bipush 20, 2) := by decide +kernel
theorem dX12_feed_27 : decode cX12_feed 27 = .ok (.if_icmp .ge 86, 3) := by decide +kernel
theorem dX12_feed_30 : decode cX12_feed 30 = .ok (.iload 6, 2) := by decide +kernel
theorem dX12_feed_32 : decode cX12_feed 32 = .ok (.iconst 4, 1) := by decide +kernel
theorem dX12_feed_33 : decode cX12_feed 33 = .ok (.if_icmp .ge 7, 3) := by decide +kernel
theorem dX12_feed_36 : decode cX12_feed 36 = .ok (.iload_n 1, 1) := by decide +kernel
theorem dX12_feed_37 : decode cX12_feed 37 = .ok (.goto 39, 3) := by decide +kernel
theorem dX12_feed_40 : decode cX12_feed 40 = .ok (.iload 6, 2) := by decide +kernel
theorem dX12_feed_42 : decode cX12_feed 42 = .ok (.bipush 8, 2) := by decide +kernel
theorem dX12_feed_44 : decode cX12_feed 44 = .ok (.if_icmp .ge 7, 3) := by decide +kernel
theorem dX12_feed_47 : decode cX12_feed 47 = .ok (.iload_n 2, 1) := by decide +kernel
theorem dX12_feed_48 : decode cX12_feed 48 = .ok (.goto 28, 3) := by decide +kernel
theorem dX12_feed_51 : decode cX12_feed 51 = .ok (.iload 6, 2) := by decide +kernel
theorem dX12_feed_53 : decode cX12_feed 53 = .ok (.bipush 12, 2) := by decide +kernel
theorem dX12_feed_55 : decode cX12_feed 55 = .ok (.if_icmp .ge 7, 3) := by decide +kernel
theorem dX12_feed_58 : decode cX12_feed 58 = .ok (.iload_n 3, 1) := by decide +kernel
theorem dX12_feed_59 : decode cX12_feed 59 = .ok (.goto 17, 3) := by decide +kernel
theorem dX12_feed_62 : decode cX12_feed 62 = .ok (.iload 6, 2) := by decide +kernel
theorem dX12_feed_64 : decode cX12_feed 64 = .ok (.bipush 16, 2) := by decide +kernel
theorem dX12_feed_66 : decode cX12_feed 66 = .ok (.if_icmp .ge 8, 3) := by decide +kernel
theorem dX12_feed_69 : decode cX12_feed 69 = .ok (.iload 4, 2) := by decide +kernel
theorem dX12_feed_71 : decode cX12_feed 71 = .ok (.goto 5, 3) := by decide +kernel
theorem dX12_feed_74 : decode cX12_feed 74 = .ok (.iload 5, 2) := by decide +kernel
theorem dX12_feed_76 : decode cX12_feed 76 = .ok (.istore 7, 2) := by decide +kernel
theorem dX12_feed_78 : decode cX12_feed 78 = .ok (.aload_n 0, 1) := by decide +kernel
theorem dX12_feed_79 : decode cX12_feed 79 = .ok (.getfield 7, 3) := by decide +kernel
theorem dX12_feed_82 : decode cX12_feed 82 = .ok (.aload_n 0, 1) := by decide +kernel
theorem dX12_feed_83 : decode cX12_feed 83 = .ok (.getfield 135, 3) := by decide +kernel
theorem dX12_feed_86 : decode cX12_feed 86 = .ok (.iload 6, 2) := by decide +kernel
theorem dX12_feed_88 : decode cX12_feed 88 = .ok (.iadd, 1) := by decide +kernel
theorem dX12_feed_89 : decode cX12_feed 89 = .ok (.iload 7, 2) := by decide +kernel
theorem dX12_feed_91 : decode cX12_feed 91 = .ok (.bipush 24, 2) := by decide +kernel
theorem dX12_feed_93 : decode cX12_feed 93 = .ok (.bipush 8, 2) := by decide +kernel
theorem dX12_feed_95 : decode cX12_feed 95 = .ok (.iload 6, 2) := by decide +kernel
theorem dX12_feed_97 : decode cX12_feed 97 = .ok (.iconst 4, 1) := by decide +kernel
theorem dX12_feed_98 : decode cX12_feed 98 = .ok (.irem, 1) := by decide +kernel
theorem dX12_feed_99 : decode cX12_feed 99 = .ok (.imul, 1) := by decide +kernel
theorem dX12_feed_100 : decode cX12_feed 100 = .ok (.isub, 1) := by decide +kernel
theorem dX12_feed_101 : decode cX12_feed 101 = .ok (.ishr, 1) := by decide +kernel
theorem dX12_feed_102 : decode cX12_feed 102 = .ok (.sipush 255, 3) := by decide +kernel
theorem dX12_feed_105 : decode cX12_feed 105 = .ok (.iand, 1) := by decide +kernel
theorem dX12_feed_106 : decode cX12_feed 106 = .ok (.iastore, 1) := by decide +kernel
theorem dX12_feed_107 : decode cX12_feed 107 = .ok (.iinc 6 1, 3) := by decide +kernel
theorem dX12_feed_110 : decode cX12_feed 110 = .ok (.goto (-87), 3) := by decide +kernel
theorem dX12_feed_113 : decode cX12_feed 113 = .ok (.aload_n 0, 1) := by decide +kernel
theorem dX12_feed_114 : decode cX12_feed 114 = .ok (.dup, 1) := by decide +kernel
theorem dX12_feed_115 : decode cX12_feed 115 = .ok (.getfield 135, 3) := by decide +kernel
theorem dX12_feed_118 : decode cX12_feed 118 = .ok (.bipush 20, 2) := by decide +kernel
theorem dX12_feed_120 : decode cX12_feed 120 = .ok (.iadd, 1) := by decide +kernel
theorem dX12_feed_121 : decode cX12_feed 121 = .ok (.putfield 135, 3) := by decide +kernel
theorem dX12_feed_124 : decode cX12_feed 124 = .ok (.aload_n 0, 1) := by decide +kernel
theorem dX12_feed_125 : decode cX12_feed 125 = .ok (.getfield 135, 3) := by decide +kernel
theorem dX12_feed_128 : decode cX12_feed 128 = .ok (.ireturn, 1) := by decide +kernel
theorem dX12_isIn_0 : decode cX12_isIn 0 = .ok (.iload_n 0, 1) := by decide +kernel
theorem dX12_isIn_1 : decode cX12_isIn 1 = .ok (.iload_n 1, 1) := by decide +kernel
theorem dX12_isIn_2 : decode cX12_isIn 2 = .ok (.if_icmp .lt 12, 3) := by decide +kernel
theorem dX12_isIn_5 : decode cX12_isIn 5 = .ok (.iload_n 0, 1) := by decide +kernel
theorem dX12_isIn_6 : decode cX12_isIn 6 = .ok (.iload_n 2, 1) := by decide +kernel
theorem dX12_isIn_7 : decode cX12_isIn 7 = .ok (.if_icmp .gt 7, 3) := by decide +kernel
theorem dX12_isIn_10 : decode cX12_isIn 10 = .ok (.iconst 1, 1) := by decide +kernel
theorem dX12_isIn_11 : decode cX12_isIn 11 = .ok (.goto 4, 3) := by decide +kernel
theorem dX12_isIn_14 : decode cX12_isIn 14 = .ok (.iconst 0, 1) := by decide +kernel
theorem dX12_isIn_15 : decode cX12_isIn 15 = .ok (.ireturn, 1) := by decide +kernel
theorem dX12_take_0 : decode cX12_take 0 = .ok (.aload_n 0, 1) := by decide +kernel
theorem dX12_take_1 : decode cX12_take 1 = .ok (.getfield 147, 3) := by decide +kernel
theorem dX12_take_4 : decode cX12_take 4 = .ok (.aload_n 0, 1) := by decide +kernel
theorem dX12_take_5 : decode cX12_take 5 = .ok (.getfield 144, 3) := by decide +kernel
theorem dX12_take_8 : decode cX12_take 8 = .ok (.if_icmp .ge 44, 3) := by decide +kernel
theorem dX12_take_52 : decode cX12_take 52 = .ok (.aload_n 0, 1) := by decide +kernel
theorem dX12_take_53 : decode cX12_take 53 = .ok (.aload_n 0, 1) := by decide +kernel
theorem dX12_take_54 : decode cX12_take 54 = .ok (.getfield 147, 3) := by decide +kernel
theorem dX12_take_57 : decode cX12_take 57 = .ok (.putfield 141, 3) := by decide +kernel
theorem dX12_take_60 : decode cX12_take 60 = .ok (.aload_n 0, 1) := by decide +kernel
theorem dX12_take_61 : decode cX12_take 61 = .ok (.getfield 147, 3) := by decide +kernel
theorem dX12_take_64 : decode cX12_take 64 = .ok (.aload_n 0, 1) := by decide +kernel
theorem dX12_take_65 : decode cX12_take 65 = .ok (.getfield 144, 3) := by decide +kernel
theorem dX12_take_68 : decode cX12_take 68 = .ok (.if_icmp .ne 11, 3) := by decide +kernel
theorem dX12_take_71 : decode cX12_take 71 = .ok (.aload_n 0, 1) := by decide +kernel
theorem dX12_take_72 : decode cX12_take 72 = .ok (.iconst 0, 1) := by decide +kernel
theorem dX12_take_73 : decode cX12_take 73 = .ok (.putfield 150, 3) := by decide +kernel
theorem dX12_take_76 : decode cX12_take 76 = .ok (.goto 233, 3) := by decide +kernel
theorem dX12_take_309 : decode cX12_take 309 = .ok (.return_, 1) := by decide +kernel
theorem dX12_plain_0 : decode cX12_plain 0 = .ok (.aload_n 0, 1) := by decide +kernel
theorem dX12_plain_1 : decode cX12_plain 1 = .ok (.iconst 2, 1) := by decide +kernel
theorem dX12_plain_2 : decode cX12_plain 2 = .ok (.putfield 170, 3) := by decide +kernel
theorem dX12_plain_5 : decode cX12_plain 5 = .ok (.aload_n 0, 1) := by decide +kernel
theorem dX12_plain_6 : decode cX12_plain 6 = .ok (.iconst 0, 1) := by decide +kernel
theorem dX12_plain_7 : decode cX12_plain 7 = .ok (.putfield 173, 3) := by decide +kernel
theorem dX12_plain_10 : decode cX12_plain 10 = .ok (.aload_n 0, 1) := by decide +kernel
theorem dX12_plain_11 : decode cX12_plain 11 = .ok (.iconst 0, 1) := by decide +kernel
theorem dX12_plain_12 : decode cX12_plain 12 = .ok (.putfield 176, 3) := by decide +kernel
theorem dX12_plain_15 : decode cX12_plain 15 = .ok (.aload_n 0, 1) := by decide +kernel
theorem dX12_plain_16 : decode cX12_plain 16 = .ok (.iconst 0, 1) := by decide +kernel
theorem dX12_plain_17 : decode cX12_plain 17 = .ok (.putfield 179, 3) := by decide +kernel
theorem dX12_plain_20 : decode cX12_plain 20 = .ok (.aload_n 0, 1) := by decide +kernel
theorem dX12_plain_21 : decode cX12_plain 21 = .ok (.iconst 0, 1) := by decide +kernel
theorem dX12_plain_22 : decode cX12_plain 22 = .ok (.putfield 182, 3) := by decide +kernel
theorem dX12_plain_25 : decode cX12_plain 25 = .ok (.return_, 1) := by decide +kernel
theorem dX12_teams_0 : decode cX12_teams 0 = .ok (.aload_n 0, 1) := by decide +kernel
theorem dX12_teams_1 : decode cX12_teams 1 = .ok (.getfield 185, 3) := by decide +kernel
theorem dX12_teams_4 : decode cX12_teams 4 = .ok (.aload_n 0, 1) := by decide +kernel
theorem dX12_teams_5 : decode cX12_teams 5 = .ok (.getfield 188, 3) := by decide +kernel
theorem dX12_teams_8 : decode cX12_teams 8 = .ok (.imul, 1) := by decide +kernel
theorem dX12_teams_9 : decode cX12_teams 9 = .ok (.ireturn, 1) := by decide +kernel
theorem dX12_text_0 : decode cX12_text 0 = .ok (.aload_n 0, 1) := by decide +kernel
theorem dX12_text_1 : decode cX12_text 1 = .ok (.iconst 0, 1) := by decide +kernel
theorem dX12_text_2 : decode cX12_text 2 = .ok (.putfield 132, 3) := by decide +kernel
theorem dX12_text_5 : decode cX12_text 5 = .ok (.iload_n 1, 1) := by decide +kernel
theorem dX12_text_6 : decode cX12_text 6 = .ok (.ifCond .lt 11, 3) := by decide +kernel
theorem dX12_text_9 : decode cX12_text 9 = .ok (.iload_n 1, 1) := by decide +kernel
theorem dX12_text_10 : decode cX12_text 10 = .ok (.aload_n 0, 1) := by decide +kernel
theorem dX12_text_11 : decode cX12_text 11 = .ok (.getfield 135, 3) := by decide +kernel
theorem dX12_text_14 : decode cX12_text 14 = .ok (.if_icmp .le 6, 3) := by decide +kernel
theorem dX12_text_17 : decode cX12_text 17 = .ok (.bipush (-2), 2) := by decide +kernel
theorem dX12_text_19 : decode cX12_text 19 = .ok (.ireturn, 1) := by decide +kernel
theorem dX12_text_20 : decode cX12_text 20 = .ok (.aload_n 0, 1) := by decide +kernel
theorem dX12_text_21 : decode cX12_text 21 = .ok (.iload_n 1, 1) := by decide +kernel
theorem dX12_text_22 : decode cX12_text 22 = .ok (.putfield 144, 3) := by decide +kernel
theorem dX12_text_25 : decode cX12_text 25 = .ok (.aload_n 0, 1) := by decide +kernel
theorem dX12_text_26 : decode cX12_text 26 = .ok (.iconst 0, 1) := by decide +kernel
theorem dX12_text_27 : decode cX12_text 27 = .ok (.putfield 135, 3) := by decide +kernel
theorem dX12_text_30 : decode cX12_text 30 = .ok (.aload_n 0, 1) := by decide +kernel
theorem dX12_text_31 : decode cX12_text 31 = .ok (.iconst 0, 1) := by decide +kernel
theorem dX12_text_32 : decode cX12_text 32 = .ok (.putfield 138, 3) := by decide +kernel
theorem dX12_text_35 : decode cX12_text 35 = .ok (.aload_n 0, 1) := by decide +kernel
theorem dX12_text_36 : decode cX12_text 36 = .ok (.iconst (-1), 1) := by decide +kernel
theorem dX12_text_37 : decode cX12_text 37 = .ok (.putfield 16, 3) := by decide +kernel
theorem dX12_text_40 : decode cX12_text 40 = .ok (.aload_n 0, 1) := by decide +kernel
theorem dX12_text_41 : decode cX12_text 41 = .ok (.iconst 0, 1) := by decide +kernel
theorem dX12_text_42 : decode cX12_text 42 = .ok (.putfield 147, 3) := by decide +kernel
theorem dX12_text_45 : decode cX12_text 45 = .ok (.aload_n 0, 1) := by decide +kernel
theorem dX12_text_46 : decode cX12_text 46 = .ok (.invokevirtual 126, 3) := by decide +kernel
theorem dX12_text_49 : decode cX12_text 49 = .ok (.iconst 0, 1) := by decide +kernel
theorem dX12_text_50 : decode cX12_text 50 = .ok (.istore_n 2, 1) := by decide +kernel
theorem dX12_text_51 : decode cX12_text 51 = .ok (.aload_n 0, 1) := by decide +kernel
theorem dX12_text_52 : decode cX12_text 52 = .ok (.invokevirtual 194, 3) := by decide +kernel
theorem dX12_text_55 : decode cX12_text 55 = .ok (.aload_n 0, 1) := by decide +kernel
theorem dX12_text_56 : decode cX12_text 56 = .ok (.getfield 150, 3) := by decide +kernel
theorem dX12_text_59 : decode cX12_text 59 = .ok (.ifCond .eq 27, 3) := by decide +kernel
theorem dX12_text_86 : decode cX12_text 86 = .ok (.aload_n 0, 1) := by decide +kernel
theorem dX12_text_87 : decode cX12_text 87 = .ok (.invokevirtual 129, 3) := by decide +kernel
theorem dX12_text_90 : decode cX12_text 90 = .ok (.iload_n 2, 1) := by decide +kernel
theorem dX12_text_91 : decode cX12_text 91 = .ok (.ireturn, 1) := by decide +kernel
theorem dX12_keep_0 : decode cX12_keep 0 = .ok (.aload_n 0, 1) := by decide +kernel
theorem dX12_keep_1 : decode cX12_keep 1 = .ok (.aload_n 0, 1) := by decide +kernel
theorem dX12_keep_2 : decode cX12_keep 2 = .ok (.getfield 170, 3) := by decide +kernel
theorem dX12_keep_5 : decode cX12_keep 5 = .ok (.putfield 185, 3) := by decide +kernel
theorem dX12_keep_8 : decode cX12_keep 8 = .ok (.aload_n 0, 1) := by decide +kernel
theorem dX12_keep_9 : decode cX12_keep 9 = .ok (.aload_n 0, 1) := by decide +kernel
theorem dX12_keep_10 : decode cX12_keep 10 = .ok (.getfield 173, 3) := by decide +kernel
theorem dX12_keep_13 : decode cX12_keep 13 = .ok (.putfield 188, 3) := by decide +kernel
theorem dX12_keep_16 : decode cX12_keep 16 = .ok (.aload_n 0, 1) := by decide +kernel
theorem dX12_keep_17 : decode cX12_keep 17 = .ok (.aload_n 0, 1) := by decide +kernel
theorem dX12_keep_18 : decode cX12_keep 18 = .ok (.getfield 179, 3) := by decide +kernel
theorem dX12_keep_21 : decode cX12_keep 21 = .ok (.putfield 222, 3) := by decide +kernel
theorem dX12_keep_24 : decode cX12_keep 24 = .ok (.aload_n 0, 1) := by decide +kernel
theorem dX12_keep_25 : decode cX12_keep 25 = .ok (.aload_n 0, 1) := by decide +kernel
theorem dX12_keep_26 : decode cX12_keep 26 = .ok (.getfield 182, 3) := by decide +kernel
theorem dX12_keep_29 : decode cX12_keep 29 = .ok (.putfield 225, 3) := by decide +kernel
theorem dX12_keep_32 : decode cX12_keep 32 = .ok (.iconst 0, 1) := by decide +kernel
theorem dX12_keep_33 : decode cX12_keep 33 = .ok (.istore_n 1, 1) := by decide +kernel
theorem dX12_keep_34 : decode cX12_keep 34 = .ok (.iload_n 1, 1) := by decide +kernel
theorem dX12_keep_35 : decode cX12_keep 35 = .ok (.aload_n 0, 1) := by decide +kernel
theorem dX12_keep_36 : decode cX12_keep 36 = .ok (.getfield 176, 3) := by decide +kernel
theorem dX12_keep_39 : decode cX12_keep 39 = .ok (.if_icmp .ge 21, 3) := by decide +kernel
theorem dX12_keep_60 : decode cX12_keep 60 = .ok (.iconst 0, 1) := by decide +kernel
theorem dX12_keep_61 : decode cX12_keep 61 = .ok (.istore_n 1, 1) := by decide +kernel
theorem dX12_keep_62 : decode cX12_keep 62 = .ok (.iload_n 1, 1) := by decide +kernel
theorem dX12_keep_63 : decode cX12_keep 63 = .ok (.aload_n 0, 1) := by decide +kernel
theorem dX12_keep_64 : decode cX12_keep 64 = .ok (.getfield 222, 3) := by decide +kernel
theorem dX12_keep_67 : decode cX12_keep 67 = .ok (.if_icmp .ge 33, 3) := by decide +kernel
theorem dX12_keep_100 : decode cX12_keep 100 = .ok (.iconst 0, 1) := by decide +kernel
theorem dX12_keep_101 : decode cX12_keep 101 = .ok (.istore_n 1, 1) := by decide +kernel
theorem dX12_keep_102 : decode cX12_keep 102 = .ok (.iload_n 1, 1) := by decide +kernel
theorem dX12_keep_103 : decode cX12_keep 103 = .ok (.iconst 3, 1) := by decide +kernel
theorem dX12_keep_104 : decode cX12_keep 104 = .ok (.aload_n 0, 1) := by decide +kernel
theorem dX12_keep_105 : decode cX12_keep 105 = .ok (.getfield 225, 3) := by decide +kernel
theorem dX12_keep_108 : decode cX12_keep 108 = .ok (.imul, 1) := by decide +kernel
theorem dX12_keep_109 : decode cX12_keep 109 = .ok (.if_icmp .ge 21, 3) := by decide +kernel
theorem dX12_keep_130 : decode cX12_keep 130 = .ok (.aload_n 0, 1) := by decide +kernel
theorem dX12_keep_131 : decode cX12_keep 131 = .ok (.invokevirtual 228, 3) := by decide +kernel
theorem dX12_keep_134 : decode cX12_keep 134 = .ok (.aload_n 0, 1) := by decide +kernel
theorem dX12_keep_135 : decode cX12_keep 135 = .ok (.invokevirtual 231, 3) := by decide +kernel
theorem dX12_keep_138 : decode cX12_keep 138 = .ok (.iconst 0, 1) := by decide +kernel
theorem dX12_keep_139 : decode cX12_keep 139 = .ok (.istore_n 1, 1) := by decide +kernel
theorem dX12_keep_140 : decode cX12_keep 140 = .ok (.iload_n 1, 1) := by decide +kernel
theorem dX12_keep_141 : decode cX12_keep 141 = .ok (.iconst 4, 1) := by decide +kernel
theorem dX12_keep_142 : decode cX12_keep 142 = .ok (.if_icmp .ge 23, 3) := by decide +kernel
theorem dX12_keep_145 : decode cX12_keep 145 = .ok (.aload_n 0, 1) := by decide +kernel
theorem dX12_keep_146 : decode cX12_keep 146 = .ok (.getfield 59, 3) := by decide +kernel
theorem dX12_keep_149 : decode cX12_keep 149 = .ok (.iload_n 1, 1) := by decide +kernel
theorem dX12_keep_150 : decode cX12_keep 150 = .ok (.iload_n 1, 1) := by decide +kernel
theorem dX12_keep_151 : decode cX12_keep 151 = .ok (.iastore, 1) := by decide +kernel
theorem dX12_keep_152 : decode cX12_keep 152 = .ok (.aload_n 0, 1) := by decide +kernel
theorem dX12_keep_153 : decode cX12_keep 153 = .ok (.getfield 62, 3) := by decide +kernel
theorem dX12_keep_156 : decode cX12_keep 156 = .ok (.iload_n 1, 1) := by decide +kernel
theorem dX12_keep_157 : decode cX12_keep 157 = .ok (.iload_n 1, 1) := by decide +kernel
theorem dX12_keep_158 : decode cX12_keep 158 = .ok (.iastore, 1) := by decide +kernel
theorem dX12_keep_159 : decode cX12_keep 159 = .ok (.iinc 1 1, 3) := by decide +kernel
theorem dX12_keep_162 : decode cX12_keep 162 = .ok (.goto (-22), 3) := by decide +kernel
theorem dX12_keep_165 : decode cX12_keep 165 = .ok (.aload_n 0, 1) := by decide +kernel
theorem dX12_keep_166 : decode cX12_keep 166 = .ok (.iconst 0, 1) := by decide +kernel
theorem dX12_keep_167 : decode cX12_keep 167 = .ok (.putfield 234, 3) := by decide +kernel
theorem dX12_keep_170 : decode cX12_keep 170 = .ok (.aload_n 0, 1) := by decide +kernel
theorem dX12_keep_171 : decode cX12_keep 171 = .ok (.iconst (-1), 1) := by decide +kernel
theorem dX12_keep_172 : decode cX12_keep 172 = .ok (.putfield 102, 3) := by decide +kernel
theorem dX12_keep_175 : decode cX12_keep 175 = .ok (.return_, 1) := by decide +kernel
theorem dX12_fault_0 : decode cX12_fault 0 = .ok (.aload_n 0, 1) := by decide +kernel
theorem dX12_fault_1 : decode cX12_fault 1 = .ok (.iconst 0, 1) := by decide +kernel
theorem dX12_fault_2 : decode cX12_fault 2 = .ok (.putfield 132, 3) := by decide +kernel
theorem dX12_fault_5 : decode cX12_fault 5 = .ok (.iload_n 1, 1) := by decide +kernel
theorem dX12_fault_6 : decode cX12_fault 6 = .ok (.ifCond .ne 10, 3) := by decide +kernel
theorem dX12_fault_9 : decode cX12_fault 9 = .ok (.aload_n 0, 1) := by decide +kernel
theorem dX12_fault_10 : decode cX12_fault 10 = .ok (.getfield 138, 3) := by decide +kernel
theorem dX12_fault_13 : decode cX12_fault 13 = .ok (.goto 16, 3) := by decide +kernel
theorem dX12_fault_16 : decode cX12_fault 16 = .ok (.iload_n 1, 1) := by decide +kernel
theorem dX12_fault_17 : decode cX12_fault 17 = .ok (.iconst 1, 1) := by decide +kernel
theorem dX12_fault_18 : decode cX12_fault 18 = .ok (.if_icmp .ne 10, 3) := by decide +kernel
theorem dX12_fault_21 : decode cX12_fault 21 = .ok (.aload_n 0, 1) := by decide +kernel
theorem dX12_fault_22 : decode cX12_fault 22 = .ok (.getfield 16, 3) := by decide +kernel
theorem dX12_fault_25 : decode cX12_fault 25 = .ok (.goto 4, 3) := by decide +kernel
theorem dX12_fault_28 : decode cX12_fault 28 = .ok (.iconst (-1), 1) := by decide +kernel
theorem dX12_fault_29 : decode cX12_fault 29 = .ok (.ireturn, 1) := by decide +kernel
theorem dX12_named_0 : decode cX12_named 0 = .ok (.aload_n 0, 1) := by decide +kernel
theorem dX12_named_1 : decode cX12_named 1 = .ok (.iconst 0, 1) := by decide +kernel
theorem dX12_named_2 : decode cX12_named 2 = .ok (.putfield 132, 3) := by decide +kernel
theorem dX12_named_5 : decode cX12_named 5 = .ok (.iload_n 1, 1) := by decide +kernel
theorem dX12_named_6 : decode cX12_named 6 = .ok (.iconst 0, 1) := by decide +kernel
theorem dX12_named_7 : decode cX12_named 7 = .ok (.iconst 1, 1) := by decide +kernel
theorem dX12_named_8 : decode cX12_named 8 = .ok (.invokestatic 237, 3) := by decide +kernel
theorem dX12_named_11 : decode cX12_named 11 = .ok (.ifCond .ne 5, 3) := by decide +kernel
theorem dX12_named_14 : decode cX12_named 14 = .ok (.iconst (-1), 1) := by decide +kernel
theorem dX12_named_15 : decode cX12_named 15 = .ok (.ireturn, 1) := by decide +kernel
theorem dX12_named_16 : decode cX12_named 16 = .ok (.iload_n 1, 1) := by decide +kernel
theorem dX12_named_17 : decode cX12_named 17 = .ok (.ifCond .ne 10, 3) := by decide +kernel
theorem dX12_named_20 : decode cX12_named 20 = .ok (.aload_n 0, 1) := by decide +kernel
theorem dX12_named_21 : decode cX12_named 21 = .ok (.invokevirtual 241, 3) := by decide +kernel
theorem dX12_named_24 : decode cX12_named 24 = .ok (.goto 7, 3) := by decide +kernel
theorem dX12_named_27 : decode cX12_named 27 = .ok (.aload_n 0, 1) := by decide +kernel
theorem dX12_named_28 : decode cX12_named 28 = .ok (.getfield 222, 3) := by decide +kernel
theorem dX12_named_31 : decode cX12_named 31 = .ok (.istore_n 3, 1) := by decide +kernel
theorem dX12_named_32 : decode cX12_named 32 = .ok (.iconst 0, 1) := by decide +kernel
theorem dX12_named_33 : decode cX12_named 33 = .ok (.istore 4, 2) := by decide +kernel
theorem dX12_named_35 : decode cX12_named 35 = .ok (.iload 4, 2) := by decide +kernel
theorem dX12_named_37 : decode cX12_named 37 = .ok (.iload_n 3, 1) := by decide +kernel
theorem dX12_named_38 : decode cX12_named 38 = .ok (.if_icmp .ge 37, 3) := by decide +kernel
theorem dX12_named_75 : decode cX12_named 75 = .ok (.iconst (-1), 1) := by decide +kernel
theorem dX12_named_76 : decode cX12_named 76 = .ok (.ireturn, 1) := by decide +kernel
theorem dX12_layRows_0 : decode cX12_layRows 0 = .ok (.aload_n 0, 1) := by decide +kernel
theorem dX12_layRows_1 : decode cX12_layRows 1 = .ok (.iconst 0, 1) := by decide +kernel
theorem dX12_layRows_2 : decode cX12_layRows 2 = .ok (.putfield 245, 3) := by decide +kernel
theorem dX12_layRows_5 : decode cX12_layRows 5 = .ok (.iconst 1, 1) := by decide +kernel
theorem dX12_layRows_6 : decode cX12_layRows 6 = .ok (.istore_n 1, 1) := by decide +kernel
theorem dX12_layRows_7 : decode cX12_layRows 7 = .ok (.iconst 0, 1) := by decide +kernel
theorem dX12_layRows_8 : decode cX12_layRows 8 = .ok (.istore_n 2, 1) := by decide +kernel
theorem dX12_layRows_9 : decode cX12_layRows 9 = .ok (.iload_n 2, 1) := by decide +kernel
theorem dX12_layRows_10 : decode cX12_layRows 10 = .ok (.aload_n 0, 1) := by decide +kernel
theorem dX12_layRows_11 : decode cX12_layRows 11 = .ok (.getfield 185, 3) := by decide +kernel
theorem dX12_layRows_14 : decode cX12_layRows 14 = .ok (.if_icmp .ge 16, 3) := by decide +kernel
theorem dX12_layRows_17 : decode cX12_layRows 17 = .ok (.iload_n 1, 1) := by decide +kernel
theorem dX12_layRows_18 : decode cX12_layRows 18 = .ok (.aload_n 0, 1) := by decide +kernel
theorem dX12_layRows_19 : decode cX12_layRows 19 = .ok (.getfield 185, 3) := by decide +kernel
theorem dX12_layRows_22 : decode cX12_layRows 22 = .ok (.imul, 1) := by decide +kernel
theorem dX12_layRows_23 : decode cX12_layRows 23 = .ok (.istore_n 1, 1) := by decide +kernel
theorem dX12_layRows_24 : decode cX12_layRows 24 = .ok (.iinc 2 1, 3) := by decide +kernel
theorem dX12_layRows_27 : decode cX12_layRows 27 = .ok (.goto (-18), 3) := by decide +kernel
theorem dX12_layRows_30 : decode cX12_layRows 30 = .ok (.iconst 0, 1) := by decide +kernel
theorem dX12_layRows_31 : decode cX12_layRows 31 = .ok (.istore_n 2, 1) := by decide +kernel
theorem dX12_layRows_32 : decode cX12_layRows 32 = .ok (.iload_n 2, 1) := by decide +kernel
theorem dX12_layRows_33 : decode cX12_layRows 33 = .ok (.iload_n 1, 1) := by decide +kernel
theorem dX12_layRows_34 : decode cX12_layRows 34 = .ok (.if_icmp .ge 97, 3) := by decide +kernel
theorem dX12_layRows_37 : decode cX12_layRows 37 = .ok (.iconst 0, 1) := by decide +kernel
theorem dX12_layRows_38 : decode cX12_layRows 38 = .ok (.istore_n 3, 1) := by decide +kernel
theorem dX12_layRows_39 : decode cX12_layRows 39 = .ok (.iload_n 2, 1) := by decide +kernel
theorem dX12_layRows_40 : decode cX12_layRows 40 = .ok (.istore 4, 2) := by decide +kernel
theorem dX12_layRows_42 : decode cX12_layRows 42 = .ok (.aload_n 0, 1) := by decide +kernel
theorem dX12_layRows_43 : decode cX12_layRows 43 = .ok (.getfield 185, 3) := by decide +kernel
theorem dX12_layRows_46 : decode cX12_layRows 46 = .ok (.iconst 1, 1) := by decide +kernel
theorem dX12_layRows_47 : decode cX12_layRows 47 = .ok (.isub, 1) := by decide +kernel
theorem dX12_layRows_48 : decode cX12_layRows 48 = .ok (.istore 5, 2) := by decide +kernel
theorem dX12_layRows_50 : decode cX12_layRows 50 = .ok (.iload 5, 2) := by decide +kernel
theorem dX12_layRows_52 : decode cX12_layRows 52 = .ok (.ifCond .lt 51, 3) := by decide +kernel
theorem dX12_layRows_55 : decode cX12_layRows 55 = .ok (.aload_n 0, 1) := by decide +kernel
theorem dX12_layRows_56 : decode cX12_layRows 56 = .ok (.getfield 44, 3) := by decide +kernel
theorem dX12_layRows_59 : decode cX12_layRows 59 = .ok (.iconst 4, 1) := by decide +kernel
theorem dX12_layRows_60 : decode cX12_layRows 60 = .ok (.aload_n 0, 1) := by decide +kernel
theorem dX12_layRows_61 : decode cX12_layRows 61 = .ok (.getfield 245, 3) := by decide +kernel
theorem dX12_layRows_64 : decode cX12_layRows 64 = .ok (.imul, 1) := by decide +kernel
theorem dX12_layRows_65 : decode cX12_layRows 65 = .ok (.iload 5, 2) := by decide +kernel
theorem dX12_layRows_67 : decode cX12_layRows 67 = .ok (.iadd, 1) := by decide +kernel
theorem dX12_layRows_68 : decode cX12_layRows 68 = .ok (.iload 4, 2) := by decide +kernel
theorem dX12_layRows_70 : decode cX12_layRows 70 = .ok (.aload_n 0, 1) := by decide +kernel
theorem dX12_layRows_71 : decode cX12_layRows 71 = .ok (.getfield 185, 3) := by decide +kernel
theorem dX12_layRows_74 : decode cX12_layRows 74 = .ok (.irem, 1) := by decide +kernel
theorem dX12_layRows_75 : decode cX12_layRows 75 = .ok (.iastore, 1) := by decide +kernel
theorem dX12_layRows_76 : decode cX12_layRows 76 = .ok (.iload_n 3, 1) := by decide +kernel
theorem dX12_layRows_77 : decode cX12_layRows 77 = .ok (.iconst 1, 1) := by decide +kernel
theorem dX12_layRows_78 : decode cX12_layRows 78 = .ok (.iload 4, 2) := by decide +kernel
theorem dX12_layRows_80 : decode cX12_layRows 80 = .ok (.aload_n 0, 1) := by decide +kernel
theorem dX12_layRows_81 : decode cX12_layRows 81 = .ok (.getfield 185, 3) := by decide +kernel
theorem dX12_layRows_84 : decode cX12_layRows 84 = .ok (.irem, 1) := by decide +kernel
theorem dX12_layRows_85 : decode cX12_layRows 85 = .ok (.ishl, 1) := by decide +kernel
theorem dX12_layRows_86 : decode cX12_layRows 86 = .ok (.ior, 1) := by decide +kernel
theorem dX12_layRows_87 : decode cX12_layRows 87 = .ok (.istore_n 3, 1) := by decide +kernel
theorem dX12_layRows_88 : decode cX12_layRows 88 = .ok (.iload 4, 2) := by decide +kernel
theorem dX12_layRows_90 : decode cX12_layRows 90 = .ok (.aload_n 0, 1) := by decide +kernel
theorem dX12_layRows_91 : decode cX12_layRows 91 = .ok (.getfield 185, 3) := by decide +kernel
theorem dX12_layRows_94 : decode cX12_layRows 94 = .ok (.idiv, 1) := by decide +kernel
theorem dX12_layRows_95 : decode cX12_layRows 95 = .ok (.istore 4, 2) := by decide +kernel
theorem dX12_layRows_97 : decode cX12_layRows 97 = .ok (.iinc 5 (-1), 3) := by decide +kernel
theorem dX12_layRows_100 : decode cX12_layRows 100 = .ok (.goto (-50), 3) := by decide +kernel
theorem dX12_layRows_103 : decode cX12_layRows 103 = .ok (.iload_n 3, 1) := by decide +kernel
theorem dX12_layRows_104 : decode cX12_layRows 104 = .ok (.iconst 1, 1) := by decide +kernel
theorem dX12_layRows_105 : decode cX12_layRows 105 = .ok (.aload_n 0, 1) := by decide +kernel
theorem dX12_layRows_106 : decode cX12_layRows 106 = .ok (.getfield 185, 3) := by decide +kernel
theorem dX12_layRows_109 : decode cX12_layRows 109 = .ok (.ishl, 1) := by decide +kernel
theorem dX12_layRows_110 : decode cX12_layRows 110 = .ok (.iconst 1, 1) := by decide +kernel
theorem dX12_layRows_111 : decode cX12_layRows 111 = .ok (.isub, 1) := by decide +kernel
theorem dX12_layRows_112 : decode cX12_layRows 112 = .ok (.if_icmp .ne 13, 3) := by decide +kernel
theorem dX12_layRows_115 : decode cX12_layRows 115 = .ok (.aload_n 0, 1) := by decide +kernel
theorem dX12_layRows_116 : decode cX12_layRows 116 = .ok (.dup, 1) := by decide +kernel
theorem dX12_layRows_117 : decode cX12_layRows 117 = .ok (.getfield 245, 3) := by decide +kernel
theorem dX12_layRows_120 : decode cX12_layRows 120 = .ok (.iconst 1, 1) := by decide +kernel
theorem dX12_layRows_121 : decode cX12_layRows 121 = .ok (.iadd, 1) := by decide +kernel
theorem dX12_layRows_122 : decode cX12_layRows 122 = .ok (.putfield 245, 3) := by decide +kernel
theorem dX12_layRows_125 : decode cX12_layRows 125 = .ok (.iinc 2 1, 3) := by decide +kernel
theorem dX12_layRows_128 : decode cX12_layRows 128 = .ok (.goto (-96), 3) := by decide +kernel
theorem dX12_layRows_131 : decode cX12_layRows 131 = .ok (.return_, 1) := by decide +kernel
theorem dX12_layDraws_0 : decode cX12_layDraws 0 = .ok (.aload_n 0, 1) := by decide +kernel
theorem dX12_layDraws_1 : decode cX12_layDraws 1 = .ok (.iconst 1, 1) := by decide +kernel
theorem dX12_layDraws_2 : decode cX12_layDraws 2 = .ok (.putfield 248, 3) := by decide +kernel
theorem dX12_layDraws_5 : decode cX12_layDraws 5 = .ok (.iconst 0, 1) := by decide +kernel
theorem dX12_layDraws_6 : decode cX12_layDraws 6 = .ok (.istore_n 1, 1) := by decide +kernel
theorem dX12_layDraws_7 : decode cX12_layDraws 7 = .ok (.iload_n 1, 1) := by decide +kernel
theorem dX12_layDraws_8 : decode cX12_layDraws 8 = .ok (.aload_n 0, 1) := by decide +kernel
theorem dX12_layDraws_9 : decode cX12_layDraws 9 = .ok (.getfield 188, 3) := by decide +kernel
theorem dX12_layDraws_12 : decode cX12_layDraws 12 = .ok (.if_icmp .ge 22, 3) := by decide +kernel
theorem dX12_layDraws_34 : decode cX12_layDraws 34 = .ok (.aload_n 0, 1) := by decide +kernel
theorem dX12_layDraws_35 : decode cX12_layDraws 35 = .ok (.iconst 0, 1) := by decide +kernel
theorem dX12_layDraws_36 : decode cX12_layDraws 36 = .ok (.putfield 251, 3) := by decide +kernel
theorem dX12_layDraws_39 : decode cX12_layDraws 39 = .ok (.iconst 0, 1) := by decide +kernel
theorem dX12_layDraws_40 : decode cX12_layDraws 40 = .ok (.istore_n 1, 1) := by decide +kernel
theorem dX12_layDraws_41 : decode cX12_layDraws 41 = .ok (.iload_n 1, 1) := by decide +kernel
theorem dX12_layDraws_42 : decode cX12_layDraws 42 = .ok (.aload_n 0, 1) := by decide +kernel
theorem dX12_layDraws_43 : decode cX12_layDraws 43 = .ok (.getfield 248, 3) := by decide +kernel
theorem dX12_layDraws_46 : decode cX12_layDraws 46 = .ok (.if_icmp .ge 151, 3) := by decide +kernel
theorem dX12_layDraws_49 : decode cX12_layDraws 49 = .ok (.iconst 0, 1) := by decide +kernel
theorem dX12_layDraws_50 : decode cX12_layDraws 50 = .ok (.istore_n 2, 1) := by decide +kernel
theorem dX12_layDraws_51 : decode cX12_layDraws 51 = .ok (.iload_n 2, 1) := by decide +kernel
theorem dX12_layDraws_52 : decode cX12_layDraws 52 = .ok (.aload_n 0, 1) := by decide +kernel
theorem dX12_layDraws_53 : decode cX12_layDraws 53 = .ok (.getfield 188, 3) := by decide +kernel
theorem dX12_layDraws_56 : decode cX12_layDraws 56 = .ok (.if_icmp .ge 65, 3) := by decide +kernel
theorem dX12_layDraws_121 : decode cX12_layDraws 121 = .ok (.aload_n 0, 1) := by decide +kernel
theorem dX12_layDraws_122 : decode cX12_layDraws 122 = .ok (.getfield 47, 3) := by decide +kernel
theorem dX12_layDraws_125 : decode cX12_layDraws 125 = .ok (.iload_n 1, 1) := by decide +kernel
theorem dX12_layDraws_126 : decode cX12_layDraws 126 = .ok (.iconst 0, 1) := by decide +kernel
theorem dX12_layDraws_127 : decode cX12_layDraws 127 = .ok (.iastore, 1) := by decide +kernel
theorem dX12_layDraws_128 : decode cX12_layDraws 128 = .ok (.iconst 0, 1) := by decide +kernel
theorem dX12_layDraws_129 : decode cX12_layDraws 129 = .ok (.istore_n 2, 1) := by decide +kernel
theorem dX12_layDraws_130 : decode cX12_layDraws 130 = .ok (.iload_n 2, 1) := by decide +kernel
theorem dX12_layDraws_131 : decode cX12_layDraws 131 = .ok (.aload_n 0, 1) := by decide +kernel
theorem dX12_layDraws_132 : decode cX12_layDraws 132 = .ok (.getfield 225, 3) := by decide +kernel
theorem dX12_layDraws_135 : decode cX12_layDraws 135 = .ok (.if_icmp .ge 33, 3) := by decide +kernel
theorem dX12_layDraws_168 : decode cX12_layDraws 168 = .ok (.aload_n 0, 1) := by decide +kernel
theorem dX12_layDraws_169 : decode cX12_layDraws 169 = .ok (.dup, 1) := by decide +kernel
theorem dX12_layDraws_170 : decode cX12_layDraws 170 = .ok (.getfield 251, 3) := by decide +kernel
theorem dX12_layDraws_173 : decode cX12_layDraws 173 = .ok (.aload_n 0, 1) := by decide +kernel
theorem dX12_layDraws_174 : decode cX12_layDraws 174 = .ok (.getfield 47, 3) := by decide +kernel
theorem dX12_layDraws_177 : decode cX12_layDraws 177 = .ok (.iload_n 1, 1) := by decide +kernel
theorem dX12_layDraws_178 : decode cX12_layDraws 178 = .ok (.iaload, 1) := by decide +kernel
theorem dX12_layDraws_179 : decode cX12_layDraws 179 = .ok (.ifCond .ne 7, 3) := by decide +kernel
theorem dX12_layDraws_182 : decode cX12_layDraws 182 = .ok (.iconst 1, 1) := by decide +kernel
theorem dX12_layDraws_183 : decode cX12_layDraws 183 = .ok (.goto 4, 3) := by decide +kernel
theorem dX12_layDraws_187 : decode cX12_layDraws 187 = .ok (.iadd, 1) := by decide +kernel
theorem dX12_layDraws_188 : decode cX12_layDraws 188 = .ok (.putfield 251, 3) := by decide +kernel
theorem dX12_layDraws_191 : decode cX12_layDraws 191 = .ok (.iinc 1 1, 3) := by decide +kernel
theorem dX12_layDraws_194 : decode cX12_layDraws 194 = .ok (.goto (-153), 3) := by decide +kernel
theorem dX12_layDraws_197 : decode cX12_layDraws 197 = .ok (.return_, 1) := by decide +kernel
theorem dX12_lawful_0 : decode cX12_lawful 0 = .ok (.aload_n 0, 1) := by decide +kernel
theorem dX12_lawful_1 : decode cX12_lawful 1 = .ok (.iconst 0, 1) := by decide +kernel
theorem dX12_lawful_2 : decode cX12_lawful 2 = .ok (.putfield 132, 3) := by decide +kernel
theorem dX12_lawful_5 : decode cX12_lawful 5 = .ok (.aload_n 0, 1) := by decide +kernel
theorem dX12_lawful_6 : decode cX12_lawful 6 = .ok (.getfield 251, 3) := by decide +kernel
theorem dX12_lawful_9 : decode cX12_lawful 9 = .ok (.ireturn, 1) := by decide +kernel
theorem dX12_lawfulBut_0 : decode cX12_lawfulBut 0 = .ok (.iconst 0, 1) := by decide +kernel
theorem dX12_lawfulBut_1 : decode cX12_lawfulBut 1 = .ok (.istore_n 2, 1) := by decide +kernel
theorem dX12_lawfulBut_2 : decode cX12_lawfulBut 2 = .ok (.iconst 0, 1) := by decide +kernel
theorem dX12_lawfulBut_3 : decode cX12_lawfulBut 3 = .ok (.istore_n 3, 1) := by decide +kernel
theorem dX12_lawfulBut_4 : decode cX12_lawfulBut 4 = .ok (.iload_n 3, 1) := by decide +kernel
theorem dX12_lawfulBut_5 : decode cX12_lawfulBut 5 = .ok (.aload_n 0, 1) := by decide +kernel
theorem dX12_lawfulBut_6 : decode cX12_lawfulBut 6 = .ok (.getfield 248, 3) := by decide +kernel
theorem dX12_lawfulBut_9 : decode cX12_lawfulBut 9 = .ok (.if_icmp .ge 30, 3) := by decide +kernel
theorem dX12_lawfulBut_12 : decode cX12_lawfulBut 12 = .ok (.iload_n 2, 1) := by decide +kernel
theorem dX12_lawfulBut_13 : decode cX12_lawfulBut 13 = .ok (.aload_n 0, 1) := by decide +kernel
theorem dX12_lawfulBut_14 : decode cX12_lawfulBut 14 = .ok (.getfield 47, 3) := by decide +kernel
theorem dX12_lawfulBut_17 : decode cX12_lawfulBut 17 = .ok (.iload_n 3, 1) := by decide +kernel
theorem dX12_lawfulBut_18 : decode cX12_lawfulBut 18 = .ok (.iaload, 1) := by decide +kernel
theorem dX12_lawfulBut_19 : decode cX12_lawfulBut 19 = .ok (.iload_n 1, 1) := by decide +kernel
theorem dX12_lawfulBut_20 : decode cX12_lawfulBut 20 = .ok (.iconst (-1), 1) := by decide +kernel
theorem dX12_lawfulBut_21 : decode cX12_lawfulBut 21 = .ok (.ixor, 1) := by decide +kernel
theorem dX12_lawfulBut_22 : decode cX12_lawfulBut 22 = .ok (.iand, 1) := by decide +kernel
theorem dX12_lawfulBut_23 : decode cX12_lawfulBut 23 = .ok (.ifCond .ne 7, 3) := by decide +kernel
theorem dX12_lawfulBut_26 : decode cX12_lawfulBut 26 = .ok (.iconst 1, 1) := by decide +kernel
theorem dX12_lawfulBut_27 : decode cX12_lawfulBut 27 = .ok (.goto 4, 3) := by decide +kernel
theorem dX12_lawfulBut_31 : decode cX12_lawfulBut 31 = .ok (.iadd, 1) := by decide +kernel
theorem dX12_lawfulBut_32 : decode cX12_lawfulBut 32 = .ok (.istore_n 2, 1) := by decide +kernel
theorem dX12_lawfulBut_33 : decode cX12_lawfulBut 33 = .ok (.iinc 3 1, 3) := by decide +kernel
theorem dX12_lawfulBut_36 : decode cX12_lawfulBut 36 = .ok (.goto (-32), 3) := by decide +kernel
theorem dX12_lawfulBut_39 : decode cX12_lawfulBut 39 = .ok (.iload_n 2, 1) := by decide +kernel
theorem dX12_lawfulBut_40 : decode cX12_lawfulBut 40 = .ok (.ireturn, 1) := by decide +kernel
theorem dX12_without_0 : decode cX12_without 0 = .ok (.aload_n 0, 1) := by decide +kernel
theorem dX12_without_1 : decode cX12_without 1 = .ok (.iconst 0, 1) := by decide +kernel
theorem dX12_without_2 : decode cX12_without 2 = .ok (.putfield 132, 3) := by decide +kernel
theorem dX12_without_5 : decode cX12_without 5 = .ok (.iload_n 1, 1) := by decide +kernel
theorem dX12_without_6 : decode cX12_without 6 = .ok (.ifCond .lt 11, 3) := by decide +kernel
theorem dX12_without_9 : decode cX12_without 9 = .ok (.iload_n 1, 1) := by decide +kernel
theorem dX12_without_10 : decode cX12_without 10 = .ok (.aload_n 0, 1) := by decide +kernel
theorem dX12_without_11 : decode cX12_without 11 = .ok (.getfield 225, 3) := by decide +kernel
theorem dX12_without_14 : decode cX12_without 14 = .ok (.if_icmp .lt 7, 3) := by decide +kernel
theorem dX12_without_17 : decode cX12_without 17 = .ok (.iconst (-1), 1) := by decide +kernel
theorem dX12_without_18 : decode cX12_without 18 = .ok (.goto 10, 3) := by decide +kernel
theorem dX12_without_28 : decode cX12_without 28 = .ok (.ireturn, 1) := by decide +kernel
theorem dX12_many_0 : decode cX12_many 0 = .ok (.iconst 0, 1) := by decide +kernel
theorem dX12_many_1 : decode cX12_many 1 = .ok (.istore_n 1, 1) := by decide +kernel
theorem dX12_many_2 : decode cX12_many 2 = .ok (.iconst 0, 1) := by decide +kernel
theorem dX12_many_3 : decode cX12_many 3 = .ok (.istore_n 2, 1) := by decide +kernel
theorem dX12_many_4 : decode cX12_many 4 = .ok (.iload_n 2, 1) := by decide +kernel
theorem dX12_many_5 : decode cX12_many 5 = .ok (.bipush 12, 2) := by decide +kernel
theorem dX12_many_7 : decode cX12_many 7 = .ok (.if_icmp .ge 17, 3) := by decide +kernel
theorem dX12_many_10 : decode cX12_many 10 = .ok (.iload_n 1, 1) := by decide +kernel
theorem dX12_many_11 : decode cX12_many 11 = .ok (.iload_n 0, 1) := by decide +kernel
theorem dX12_many_12 : decode cX12_many 12 = .ok (.iload_n 2, 1) := by decide +kernel
theorem dX12_many_13 : decode cX12_many 13 = .ok (.ishr, 1) := by decide +kernel
theorem dX12_many_14 : decode cX12_many 14 = .ok (.iconst 1, 1) := by decide +kernel
theorem dX12_many_15 : decode cX12_many 15 = .ok (.iand, 1) := by decide +kernel
theorem dX12_many_16 : decode cX12_many 16 = .ok (.iadd, 1) := by decide +kernel
theorem dX12_many_17 : decode cX12_many 17 = .ok (.istore_n 1, 1) := by decide +kernel
theorem dX12_many_18 : decode cX12_many 18 = .ok (.iinc 2 1, 3) := by decide +kernel
theorem dX12_many_21 : decode cX12_many 21 = .ok (.goto (-17), 3) := by decide +kernel
theorem dX12_many_24 : decode cX12_many 24 = .ok (.iload_n 1, 1) := by decide +kernel
theorem dX12_many_25 : decode cX12_many 25 = .ok (.ireturn, 1) := by decide +kernel
theorem dX12_forbids_0 : decode cX12_forbids 0 = .ok (.aload_n 0, 1) := by decide +kernel
theorem dX12_forbids_1 : decode cX12_forbids 1 = .ok (.iconst 0, 1) := by decide +kernel
theorem dX12_forbids_2 : decode cX12_forbids 2 = .ok (.putfield 132, 3) := by decide +kernel
theorem dX12_forbids_5 : decode cX12_forbids 5 = .ok (.aload_n 0, 1) := by decide +kernel
theorem dX12_forbids_6 : decode cX12_forbids 6 = .ok (.getfield 251, 3) := by decide +kernel
theorem dX12_forbids_9 : decode cX12_forbids 9 = .ok (.ifCond .le 5, 3) := by decide +kernel
theorem dX12_forbids_12 : decode cX12_forbids 12 = .ok (.iconst 0, 1) := by decide +kernel
theorem dX12_forbids_13 : decode cX12_forbids 13 = .ok (.ireturn, 1) := by decide +kernel
theorem dX12_isTeam_0 : decode cX12_isTeam 0 = .ok (.iload_n 1, 1) := by decide +kernel
theorem dX12_isTeam_1 : decode cX12_isTeam 1 = .ok (.ifCond .lt 15, 3) := by decide +kernel
theorem dX12_isTeam_4 : decode cX12_isTeam 4 = .ok (.iload_n 1, 1) := by decide +kernel
theorem dX12_isTeam_5 : decode cX12_isTeam 5 = .ok (.aload_n 0, 1) := by decide +kernel
theorem dX12_isTeam_6 : decode cX12_isTeam 6 = .ok (.invokevirtual 241, 3) := by decide +kernel
theorem dX12_isTeam_9 : decode cX12_isTeam 9 = .ok (.if_icmp .ge 7, 3) := by decide +kernel
theorem dX12_isTeam_16 : decode cX12_isTeam 16 = .ok (.iconst 0, 1) := by decide +kernel
theorem dX12_isTeam_17 : decode cX12_isTeam 17 = .ok (.ireturn, 1) := by decide +kernel
theorem dX12_draw_0 : decode cX12_draw 0 = .ok (.aload_n 0, 1) := by decide +kernel
theorem dX12_draw_1 : decode cX12_draw 1 = .ok (.iconst 0, 1) := by decide +kernel
theorem dX12_draw_2 : decode cX12_draw 2 = .ok (.putfield 132, 3) := by decide +kernel
theorem dX12_draw_5 : decode cX12_draw 5 = .ok (.iload_n 1, 1) := by decide +kernel
theorem dX12_draw_6 : decode cX12_draw 6 = .ok (.ifCond .lt 19, 3) := by decide +kernel
theorem dX12_draw_9 : decode cX12_draw 9 = .ok (.iload_n 1, 1) := by decide +kernel
theorem dX12_draw_10 : decode cX12_draw 10 = .ok (.aload_n 0, 1) := by decide +kernel
theorem dX12_draw_11 : decode cX12_draw 11 = .ok (.getfield 251, 3) := by decide +kernel
theorem dX12_draw_14 : decode cX12_draw 14 = .ok (.if_icmp .ge 11, 3) := by decide +kernel
theorem dX12_draw_17 : decode cX12_draw 17 = .ok (.aload_n 0, 1) := by decide +kernel
theorem dX12_draw_18 : decode cX12_draw 18 = .ok (.iload_n 2, 1) := by decide +kernel
theorem dX12_draw_19 : decode cX12_draw 19 = .ok (.invokevirtual 269, 3) := by decide +kernel
theorem dX12_draw_22 : decode cX12_draw 22 = .ok (.ifCond .ne 5, 3) := by decide +kernel
theorem dX12_draw_25 : decode cX12_draw 25 = .ok (.iconst (-1), 1) := by decide +kernel
theorem dX12_draw_26 : decode cX12_draw 26 = .ok (.ireturn, 1) := by decide +kernel
theorem dX12_judge_0 : decode cX12_judge 0 = .ok (.aload_n 0, 1) := by decide +kernel
theorem dX12_judge_1 : decode cX12_judge 1 = .ok (.iconst 0, 1) := by decide +kernel
theorem dX12_judge_2 : decode cX12_judge 2 = .ok (.putfield 132, 3) := by decide +kernel
theorem dX12_judge_5 : decode cX12_judge 5 = .ok (.iload_n 1, 1) := by decide +kernel
theorem dX12_judge_6 : decode cX12_judge 6 = .ok (.ifCond .lt 11, 3) := by decide +kernel
theorem dX12_judge_9 : decode cX12_judge 9 = .ok (.iload_n 1, 1) := by decide +kernel
theorem dX12_judge_10 : decode cX12_judge 10 = .ok (.aload_n 0, 1) := by decide +kernel
theorem dX12_judge_11 : decode cX12_judge 11 = .ok (.getfield 248, 3) := by decide +kernel
theorem dX12_judge_14 : decode cX12_judge 14 = .ok (.if_icmp .lt 7, 3) := by decide +kernel
theorem dX12_judge_17 : decode cX12_judge 17 = .ok (.iconst (-1), 1) := by decide +kernel
theorem dX12_judge_18 : decode cX12_judge 18 = .ok (.goto 17, 3) := by decide +kernel
theorem dX12_judge_21 : decode cX12_judge 21 = .ok (.aload_n 0, 1) := by decide +kernel
theorem dX12_judge_22 : decode cX12_judge 22 = .ok (.getfield 47, 3) := by decide +kernel
theorem dX12_judge_25 : decode cX12_judge 25 = .ok (.iload_n 1, 1) := by decide +kernel
theorem dX12_judge_26 : decode cX12_judge 26 = .ok (.iaload, 1) := by decide +kernel
theorem dX12_judge_27 : decode cX12_judge 27 = .ok (.ifCond .ne 7, 3) := by decide +kernel
theorem dX12_judge_30 : decode cX12_judge 30 = .ok (.iconst 1, 1) := by decide +kernel
theorem dX12_judge_31 : decode cX12_judge 31 = .ok (.goto 4, 3) := by decide +kernel
theorem dX12_judge_35 : decode cX12_judge 35 = .ok (.ireturn, 1) := by decide +kernel
theorem dX12_isOnce_0 : decode cX12_isOnce 0 = .ok (.iconst 0, 1) := by decide +kernel
theorem dX12_isOnce_1 : decode cX12_isOnce 1 = .ok (.istore_n 2, 1) := by decide +kernel
theorem dX12_isOnce_2 : decode cX12_isOnce 2 = .ok (.iconst 0, 1) := by decide +kernel
theorem dX12_isOnce_3 : decode cX12_isOnce 3 = .ok (.istore_n 3, 1) := by decide +kernel
theorem dX12_isOnce_4 : decode cX12_isOnce 4 = .ok (.iload_n 3, 1) := by decide +kernel
theorem dX12_isOnce_5 : decode cX12_isOnce 5 = .ok (.iload_n 1, 1) := by decide +kernel
theorem dX12_isOnce_6 : decode cX12_isOnce 6 = .ok (.if_icmp .ge 21, 3) := by decide +kernel
theorem dX12_isOnce_9 : decode cX12_isOnce 9 = .ok (.iload_n 2, 1) := by decide +kernel
theorem dX12_isOnce_10 : decode cX12_isOnce 10 = .ok (.iconst 1, 1) := by decide +kernel
theorem dX12_isOnce_11 : decode cX12_isOnce 11 = .ok (.iload_n 0, 1) := by decide +kernel
theorem dX12_isOnce_12 : decode cX12_isOnce 12 = .ok (.iconst 2, 1) := by decide +kernel
theorem dX12_isOnce_13 : decode cX12_isOnce 13 = .ok (.iload_n 3, 1) := by decide +kernel
theorem dX12_isOnce_14 : decode cX12_isOnce 14 = .ok (.imul, 1) := by decide +kernel
theorem dX12_isOnce_15 : decode cX12_isOnce 15 = .ok (.ishr, 1) := by decide +kernel
theorem dX12_isOnce_16 : decode cX12_isOnce 16 = .ok (.iconst 3, 1) := by decide +kernel
theorem dX12_isOnce_17 : decode cX12_isOnce 17 = .ok (.iand, 1) := by decide +kernel
theorem dX12_isOnce_18 : decode cX12_isOnce 18 = .ok (.ishl, 1) := by decide +kernel
theorem dX12_isOnce_19 : decode cX12_isOnce 19 = .ok (.ior, 1) := by decide +kernel
theorem dX12_isOnce_20 : decode cX12_isOnce 20 = .ok (.istore_n 2, 1) := by decide +kernel
theorem dX12_isOnce_21 : decode cX12_isOnce 21 = .ok (.iinc 3 1, 3) := by decide +kernel
theorem dX12_isOnce_24 : decode cX12_isOnce 24 = .ok (.goto (-20), 3) := by decide +kernel
theorem dX12_isOnce_27 : decode cX12_isOnce 27 = .ok (.iload_n 2, 1) := by decide +kernel
theorem dX12_isOnce_28 : decode cX12_isOnce 28 = .ok (.iconst 1, 1) := by decide +kernel
theorem dX12_isOnce_29 : decode cX12_isOnce 29 = .ok (.iload_n 1, 1) := by decide +kernel
theorem dX12_isOnce_30 : decode cX12_isOnce 30 = .ok (.ishl, 1) := by decide +kernel
theorem dX12_isOnce_31 : decode cX12_isOnce 31 = .ok (.iconst 1, 1) := by decide +kernel
theorem dX12_isOnce_32 : decode cX12_isOnce 32 = .ok (.isub, 1) := by decide +kernel
theorem dX12_isOnce_33 : decode cX12_isOnce 33 = .ok (.if_icmp .ne 7, 3) := by decide +kernel
theorem dX12_isOnce_36 : decode cX12_isOnce 36 = .ok (.iconst 1, 1) := by decide +kernel
theorem dX12_isOnce_37 : decode cX12_isOnce 37 = .ok (.goto 4, 3) := by decide +kernel
theorem dX12_isOnce_40 : decode cX12_isOnce 40 = .ok (.iconst 0, 1) := by decide +kernel
theorem dX12_isOnce_41 : decode cX12_isOnce 41 = .ok (.ireturn, 1) := by decide +kernel
theorem dX12_order_0 : decode cX12_order 0 = .ok (.aload_n 0, 1) := by decide +kernel
theorem dX12_order_1 : decode cX12_order 1 = .ok (.iconst 0, 1) := by decide +kernel
theorem dX12_order_2 : decode cX12_order 2 = .ok (.putfield 132, 3) := by decide +kernel
theorem dX12_order_5 : decode cX12_order 5 = .ok (.iload_n 1, 1) := by decide +kernel
theorem dX12_order_6 : decode cX12_order 6 = .ok (.aload_n 0, 1) := by decide +kernel
theorem dX12_order_7 : decode cX12_order 7 = .ok (.getfield 188, 3) := by decide +kernel
theorem dX12_order_10 : decode cX12_order 10 = .ok (.invokestatic 272, 3) := by decide +kernel
theorem dX12_order_13 : decode cX12_order 13 = .ok (.ifCond .ne 5, 3) := by decide +kernel
theorem dX12_order_18 : decode cX12_order 18 = .ok (.iconst 0, 1) := by decide +kernel
theorem dX12_order_19 : decode cX12_order 19 = .ok (.istore_n 2, 1) := by decide +kernel
theorem dX12_order_20 : decode cX12_order 20 = .ok (.iload_n 2, 1) := by decide +kernel
theorem dX12_order_21 : decode cX12_order 21 = .ok (.aload_n 0, 1) := by decide +kernel
theorem dX12_order_22 : decode cX12_order 22 = .ok (.getfield 188, 3) := by decide +kernel
theorem dX12_order_25 : decode cX12_order 25 = .ok (.if_icmp .ge 22, 3) := by decide +kernel
theorem dX12_order_47 : decode cX12_order 47 = .ok (.aload_n 0, 1) := by decide +kernel
theorem dX12_order_48 : decode cX12_order 48 = .ok (.iconst 0, 1) := by decide +kernel
theorem dX12_order_49 : decode cX12_order 49 = .ok (.putfield 234, 3) := by decide +kernel
theorem dX12_order_52 : decode cX12_order 52 = .ok (.aload_n 0, 1) := by decide +kernel
theorem dX12_order_53 : decode cX12_order 53 = .ok (.iconst (-1), 1) := by decide +kernel
theorem dX12_order_54 : decode cX12_order 54 = .ok (.putfield 102, 3) := by decide +kernel
theorem dX12_order_57 : decode cX12_order 57 = .ok (.iconst 1, 1) := by decide +kernel
theorem dX12_order_58 : decode cX12_order 58 = .ok (.ireturn, 1) := by decide +kernel
theorem dX12_isAsPlaced_0 : decode cX12_isAsPlaced 0 = .ok (.iconst 0, 1) := by decide +kernel
theorem dX12_isAsPlaced_1 : decode cX12_isAsPlaced 1 = .ok (.istore_n 3, 1) := by decide +kernel
theorem dX12_isAsPlaced_2 : decode cX12_isAsPlaced 2 = .ok (.iload_n 3, 1) := by decide +kernel
theorem dX12_isAsPlaced_3 : decode cX12_isAsPlaced 3 = .ok (.iload_n 2, 1) := by decide +kernel
theorem dX12_isAsPlaced_4 : decode cX12_isAsPlaced 4 = .ok (.if_icmp .ge 36, 3) := by decide +kernel
theorem dX12_isAsPlaced_40 : decode cX12_isAsPlaced 40 = .ok (.iconst 1, 1) := by decide +kernel
theorem dX12_isAsPlaced_41 : decode cX12_isAsPlaced 41 = .ok (.ireturn, 1) := by decide +kernel
theorem dX12_ball_0 : decode cX12_ball 0 = .ok (.aload_n 0, 1) := by decide +kernel
theorem dX12_ball_1 : decode cX12_ball 1 = .ok (.iconst 0, 1) := by decide +kernel
theorem dX12_ball_2 : decode cX12_ball 2 = .ok (.putfield 132, 3) := by decide +kernel
theorem dX12_ball_5 : decode cX12_ball 5 = .ok (.aload_n 0, 1) := by decide +kernel
theorem dX12_ball_6 : decode cX12_ball 6 = .ok (.iload_n 1, 1) := by decide +kernel
theorem dX12_ball_7 : decode cX12_ball 7 = .ok (.invokevirtual 269, 3) := by decide +kernel
theorem dX12_ball_10 : decode cX12_ball 10 = .ok (.ifCond .eq 46, 3) := by decide +kernel
theorem dX12_ball_56 : decode cX12_ball 56 = .ok (.iconst (-1), 1) := by decide +kernel
theorem dX12_ball_57 : decode cX12_ball 57 = .ok (.ireturn, 1) := by decide +kernel
theorem dX12_whyOf_0 : decode cX12_whyOf 0 = .ok (.aload_n 0, 1) := by decide +kernel
theorem dX12_whyOf_1 : decode cX12_whyOf 1 = .ok (.getfield 234, 3) := by decide +kernel
theorem dX12_whyOf_4 : decode cX12_whyOf 4 = .ok (.ifCond .eq 15, 3) := by decide +kernel
theorem dX12_whyOf_19 : decode cX12_whyOf 19 = .ok (.iconst (-1), 1) := by decide +kernel
theorem dX12_whyOf_20 : decode cX12_whyOf 20 = .ok (.ireturn, 1) := by decide +kernel
theorem dX12_why_0 : decode cX12_why 0 = .ok (.aload_n 0, 1) := by decide +kernel
theorem dX12_why_1 : decode cX12_why 1 = .ok (.iconst 0, 1) := by decide +kernel
theorem dX12_why_2 : decode cX12_why 2 = .ok (.putfield 132, 3) := by decide +kernel
theorem dX12_why_5 : decode cX12_why 5 = .ok (.aload_n 0, 1) := by decide +kernel
theorem dX12_why_6 : decode cX12_why 6 = .ok (.iload_n 1, 1) := by decide +kernel
theorem dX12_why_7 : decode cX12_why 7 = .ok (.invokevirtual 285, 3) := by decide +kernel
theorem dX12_why_10 : decode cX12_why 10 = .ok (.ireturn, 1) := by decide +kernel
theorem dX12_blame_0 : decode cX12_blame 0 = .ok (.aload_n 0, 1) := by decide +kernel
theorem dX12_blame_1 : decode cX12_blame 1 = .ok (.iconst 0, 1) := by decide +kernel
theorem dX12_blame_2 : decode cX12_blame 2 = .ok (.putfield 132, 3) := by decide +kernel
theorem dX12_blame_5 : decode cX12_blame 5 = .ok (.aload_n 0, 1) := by decide +kernel
theorem dX12_blame_6 : decode cX12_blame 6 = .ok (.iload_n 1, 1) := by decide +kernel
theorem dX12_blame_7 : decode cX12_blame 7 = .ok (.invokevirtual 285, 3) := by decide +kernel
theorem dX12_blame_10 : decode cX12_blame 10 = .ok (.iconst 2, 1) := by decide +kernel
theorem dX12_blame_11 : decode cX12_blame 11 = .ok (.if_icmp .eq 5, 3) := by decide +kernel
theorem dX12_blame_14 : decode cX12_blame 14 = .ok (.iconst (-1), 1) := by decide +kernel
theorem dX12_blame_15 : decode cX12_blame 15 = .ok (.ireturn, 1) := by decide +kernel
theorem dX12_clear_0 : decode cX12_clear 0 = .ok (.aload_n 0, 1) := by decide +kernel
theorem dX12_clear_1 : decode cX12_clear 1 = .ok (.iconst 0, 1) := by decide +kernel
theorem dX12_clear_2 : decode cX12_clear 2 = .ok (.putfield 132, 3) := by decide +kernel
theorem dX12_clear_5 : decode cX12_clear 5 = .ok (.aload_n 0, 1) := by decide +kernel
theorem dX12_clear_6 : decode cX12_clear 6 = .ok (.getfield 234, 3) := by decide +kernel
theorem dX12_clear_9 : decode cX12_clear 9 = .ok (.istore_n 1, 1) := by decide +kernel
theorem dX12_clear_10 : decode cX12_clear 10 = .ok (.aload_n 0, 1) := by decide +kernel
theorem dX12_clear_11 : decode cX12_clear 11 = .ok (.iconst 0, 1) := by decide +kernel
theorem dX12_clear_12 : decode cX12_clear 12 = .ok (.putfield 234, 3) := by decide +kernel
theorem dX12_clear_15 : decode cX12_clear 15 = .ok (.aload_n 0, 1) := by decide +kernel
theorem dX12_clear_16 : decode cX12_clear 16 = .ok (.iconst (-1), 1) := by decide +kernel
theorem dX12_clear_17 : decode cX12_clear 17 = .ok (.putfield 102, 3) := by decide +kernel
theorem dX12_clear_20 : decode cX12_clear 20 = .ok (.iload_n 1, 1) := by decide +kernel
theorem dX12_clear_21 : decode cX12_clear 21 = .ok (.ireturn, 1) := by decide +kernel
theorem dX12_undo_0 : decode cX12_undo 0 = .ok (.aload_n 0, 1) := by decide +kernel
theorem dX12_undo_1 : decode cX12_undo 1 = .ok (.iconst 0, 1) := by decide +kernel
theorem dX12_undo_2 : decode cX12_undo 2 = .ok (.putfield 132, 3) := by decide +kernel
theorem dX12_undo_5 : decode cX12_undo 5 = .ok (.aload_n 0, 1) := by decide +kernel
theorem dX12_undo_6 : decode cX12_undo 6 = .ok (.getfield 234, 3) := by decide +kernel
theorem dX12_undo_9 : decode cX12_undo 9 = .ok (.ifCond .ne 5, 3) := by decide +kernel
theorem dX12_undo_12 : decode cX12_undo 12 = .ok (.iconst (-1), 1) := by decide +kernel
theorem dX12_undo_13 : decode cX12_undo 13 = .ok (.ireturn, 1) := by decide +kernel
theorem dX12_placed_0 : decode cX12_placed 0 = .ok (.aload_n 0, 1) := by decide +kernel
theorem dX12_placed_1 : decode cX12_placed 1 = .ok (.iconst 0, 1) := by decide +kernel
theorem dX12_placed_2 : decode cX12_placed 2 = .ok (.putfield 132, 3) := by decide +kernel
theorem dX12_placed_5 : decode cX12_placed 5 = .ok (.aload_n 0, 1) := by decide +kernel
theorem dX12_placed_6 : decode cX12_placed 6 = .ok (.iload_n 1, 1) := by decide +kernel
theorem dX12_placed_7 : decode cX12_placed 7 = .ok (.invokevirtual 269, 3) := by decide +kernel
theorem dX12_placed_10 : decode cX12_placed 10 = .ok (.ifCond .eq 15, 3) := by decide +kernel
theorem dX12_placed_25 : decode cX12_placed 25 = .ok (.iconst (-1), 1) := by decide +kernel
theorem dX12_placed_26 : decode cX12_placed 26 = .ok (.ireturn, 1) := by decide +kernel
theorem dX12_ends_0 : decode cX12_ends 0 = .ok (.aload_n 0, 1) := by decide +kernel
theorem dX12_ends_1 : decode cX12_ends 1 = .ok (.iconst 0, 1) := by decide +kernel
theorem dX12_ends_2 : decode cX12_ends 2 = .ok (.putfield 132, 3) := by decide +kernel
theorem dX12_ends_5 : decode cX12_ends 5 = .ok (.aload_n 0, 1) := by decide +kernel
theorem dX12_ends_6 : decode cX12_ends 6 = .ok (.iload_n 1, 1) := by decide +kernel
theorem dX12_ends_7 : decode cX12_ends 7 = .ok (.invokevirtual 269, 3) := by decide +kernel
theorem dX12_ends_10 : decode cX12_ends 10 = .ok (.ifCond .ne 5, 3) := by decide +kernel
theorem dX12_ends_13 : decode cX12_ends 13 = .ok (.iconst (-1), 1) := by decide +kernel
theorem dX12_ends_14 : decode cX12_ends 14 = .ok (.ireturn, 1) := by decide +kernel
theorem dX12_turnsAs_0 : decode cX12_turnsAs 0 = .ok (.iconst 0, 1) := by decide +kernel
theorem dX12_turnsAs_1 : decode cX12_turnsAs 1 = .ok (.istore_n 1, 1) := by decide +kernel
theorem dX12_turnsAs_2 : decode cX12_turnsAs 2 = .ok (.iload_n 1, 1) := by decide +kernel
theorem dX12_turnsAs_3 : decode cX12_turnsAs 3 = .ok (.iconst 4, 1) := by decide +kernel
theorem dX12_turnsAs_4 : decode cX12_turnsAs 4 = .ok (.if_icmp .ge 33, 3) := by decide +kernel
theorem dX12_turnsAs_7 : decode cX12_turnsAs 7 = .ok (.aload_n 0, 1) := by decide +kernel
theorem dX12_turnsAs_8 : decode cX12_turnsAs 8 = .ok (.getfield 71, 3) := by decide +kernel
theorem dX12_turnsAs_11 : decode cX12_turnsAs 11 = .ok (.iload_n 1, 1) := by decide +kernel
theorem dX12_turnsAs_12 : decode cX12_turnsAs 12 = .ok (.aload_n 0, 1) := by decide +kernel
theorem dX12_turnsAs_13 : decode cX12_turnsAs 13 = .ok (.getfield 59, 3) := by decide +kernel
theorem dX12_turnsAs_16 : decode cX12_turnsAs 16 = .ok (.iload_n 1, 1) := by decide +kernel
theorem dX12_turnsAs_17 : decode cX12_turnsAs 17 = .ok (.iaload, 1) := by decide +kernel
theorem dX12_turnsAs_18 : decode cX12_turnsAs 18 = .ok (.iastore, 1) := by decide +kernel
theorem dX12_turnsAs_19 : decode cX12_turnsAs 19 = .ok (.aload_n 0, 1) := by decide +kernel
theorem dX12_turnsAs_20 : decode cX12_turnsAs 20 = .ok (.getfield 74, 3) := by decide +kernel
theorem dX12_turnsAs_23 : decode cX12_turnsAs 23 = .ok (.iload_n 1, 1) := by decide +kernel
theorem dX12_turnsAs_24 : decode cX12_turnsAs 24 = .ok (.aload_n 0, 1) := by decide +kernel
theorem dX12_turnsAs_25 : decode cX12_turnsAs 25 = .ok (.getfield 62, 3) := by decide +kernel
theorem dX12_turnsAs_28 : decode cX12_turnsAs 28 = .ok (.iload_n 1, 1) := by decide +kernel
theorem dX12_turnsAs_29 : decode cX12_turnsAs 29 = .ok (.iaload, 1) := by decide +kernel
theorem dX12_turnsAs_30 : decode cX12_turnsAs 30 = .ok (.iastore, 1) := by decide +kernel
theorem dX12_turnsAs_31 : decode cX12_turnsAs 31 = .ok (.iinc 1 1, 3) := by decide +kernel
theorem dX12_turnsAs_34 : decode cX12_turnsAs 34 = .ok (.goto (-32), 3) := by decide +kernel
theorem dX12_turnsAs_37 : decode cX12_turnsAs 37 = .ok (.return_, 1) := by decide +kernel
theorem dX12_layMasks_0 : decode cX12_layMasks 0 = .ok (.iconst 1, 1) := by decide +kernel
theorem dX12_layMasks_1 : decode cX12_layMasks 1 = .ok (.istore_n 1, 1) := by decide +kernel
theorem dX12_layMasks_2 : decode cX12_layMasks 2 = .ok (.aload_n 0, 1) := by decide +kernel
theorem dX12_layMasks_3 : decode cX12_layMasks 3 = .ok (.getfield 77, 3) := by decide +kernel
theorem dX12_layMasks_6 : decode cX12_layMasks 6 = .ok (.iconst 0, 1) := by decide +kernel
theorem dX12_layMasks_7 : decode cX12_layMasks 7 = .ok (.iconst 0, 1) := by decide +kernel
theorem dX12_layMasks_8 : decode cX12_layMasks 8 = .ok (.iastore, 1) := by decide +kernel
theorem dX12_layMasks_9 : decode cX12_layMasks 9 = .ok (.iconst 0, 1) := by decide +kernel
theorem dX12_layMasks_10 : decode cX12_layMasks 10 = .ok (.istore_n 2, 1) := by decide +kernel
theorem dX12_layMasks_11 : decode cX12_layMasks 11 = .ok (.iload_n 2, 1) := by decide +kernel
theorem dX12_layMasks_12 : decode cX12_layMasks 12 = .ok (.aload_n 0, 1) := by decide +kernel
theorem dX12_layMasks_13 : decode cX12_layMasks 13 = .ok (.getfield 188, 3) := by decide +kernel
theorem dX12_layMasks_16 : decode cX12_layMasks 16 = .ok (.if_icmp .gt 32, 3) := by decide +kernel
theorem dX12_layMasks_19 : decode cX12_layMasks 19 = .ok (.aload_n 0, 1) := by decide +kernel
theorem dX12_layMasks_20 : decode cX12_layMasks 20 = .ok (.getfield 77, 3) := by decide +kernel
theorem dX12_layMasks_23 : decode cX12_layMasks 23 = .ok (.iload_n 2, 1) := by decide +kernel
theorem dX12_layMasks_24 : decode cX12_layMasks 24 = .ok (.iconst 1, 1) := by decide +kernel
theorem dX12_layMasks_25 : decode cX12_layMasks 25 = .ok (.iadd, 1) := by decide +kernel
theorem dX12_layMasks_26 : decode cX12_layMasks 26 = .ok (.aload_n 0, 1) := by decide +kernel
theorem dX12_layMasks_27 : decode cX12_layMasks 27 = .ok (.getfield 77, 3) := by decide +kernel
