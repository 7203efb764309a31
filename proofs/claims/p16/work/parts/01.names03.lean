theorem dX12_fills_8 : decode cX12_fills 8 = .ok (.getfield 111, 3) := by decide +kernel
theorem dX12_fills_11 : decode cX12_fills 11 = .ok (.iconst 0, 1) := by decide +kernel
theorem dX12_fills_12 : decode cX12_fills 12 = .ok (.iload_n 1, 1) := by decide +kernel
theorem dX12_fills_13 : decode cX12_fills 13 = .ok (.iastore, 1) := by decide +kernel
theorem dX12_fills_14 : decode cX12_fills 14 = .ok (.iconst 0, 1) := by decide +kernel
theorem dX12_fills_15 : decode cX12_fills 15 = .ok (.istore_n 3, 1) := by decide +kernel
theorem dX12_fills_16 : decode cX12_fills 16 = .ok (.iconst 1, 1) := by decide +kernel
theorem dX12_fills_17 : decode cX12_fills 17 = .ok (.istore 4, 2) := by decide +kernel
theorem dX12_fills_19 : decode cX12_fills 19 = .ok (.iload_n 3, 1) := by decide +kernel
theorem dX12_fills_20 : decode cX12_fills 20 = .ok (.iload 4, 2) := by decide +kernel
theorem dX12_fills_22 : decode cX12_fills 22 = .ok (.if_icmp .ge 132, 3) := by decide +kernel
theorem dX12_fills_25 : decode cX12_fills 25 = .ok (.aload_n 0, 1) := by decide +kernel
theorem dX12_fills_26 : decode cX12_fills 26 = .ok (.getfield 111, 3) := by decide +kernel
theorem dX12_fills_29 : decode cX12_fills 29 = .ok (.iload_n 3, 1) := by decide +kernel
theorem dX12_fills_30 : decode cX12_fills 30 = .ok (.iaload, 1) := by decide +kernel
theorem dX12_fills_31 : decode cX12_fills 31 = .ok (.istore 5, 2) := by decide +kernel
theorem dX12_fills_33 : decode cX12_fills 33 = .ok (.iinc 3 1, 3) := by decide +kernel
theorem dX12_fills_36 : decode cX12_fills 36 = .ok (.iconst 0, 1) := by decide +kernel
theorem dX12_fills_37 : decode cX12_fills 37 = .ok (.istore 6, 2) := by decide +kernel
theorem dX12_fills_39 : decode cX12_fills 39 = .ok (.iload 6, 2) := by decide +kernel
theorem dX12_fills_41 : decode cX12_fills 41 = .ok (.aload_n 0, 1) := by decide +kernel
theorem dX12_fills_42 : decode cX12_fills 42 = .ok (.getfield 188, 3) := by decide +kernel
theorem dX12_fills_45 : decode cX12_fills 45 = .ok (.if_icmp .ge 106, 3) := by decide +kernel
theorem dX12_fills_48 : decode cX12_fills 48 = .ok (.iconst 0, 1) := by decide +kernel
theorem dX12_fills_49 : decode cX12_fills 49 = .ok (.istore 7, 2) := by decide +kernel
theorem dX12_fills_51 : decode cX12_fills 51 = .ok (.iload 7, 2) := by decide +kernel
theorem dX12_fills_53 : decode cX12_fills 53 = .ok (.aload_n 0, 1) := by decide +kernel
theorem dX12_fills_54 : decode cX12_fills 54 = .ok (.getfield 185, 3) := by decide +kernel
theorem dX12_fills_57 : decode cX12_fills 57 = .ok (.if_icmp .ge 88, 3) := by decide +kernel
theorem dX12_fills_60 : decode cX12_fills 60 = .ok (.iload 7, 2) := by decide +kernel
theorem dX12_fills_62 : decode cX12_fills 62 = .ok (.iconst 1, 1) := by decide +kernel
theorem dX12_fills_63 : decode cX12_fills 63 = .ok (.iadd, 1) := by decide +kernel
theorem dX12_fills_64 : decode cX12_fills 64 = .ok (.istore 8, 2) := by decide +kernel
theorem dX12_fills_66 : decode cX12_fills 66 = .ok (.iload 8, 2) := by decide +kernel
theorem dX12_fills_68 : decode cX12_fills 68 = .ok (.aload_n 0, 1) := by decide +kernel
theorem dX12_fills_69 : decode cX12_fills 69 = .ok (.getfield 185, 3) := by decide +kernel
theorem dX12_fills_72 : decode cX12_fills 72 = .ok (.if_icmp .ge 67, 3) := by decide +kernel
theorem dX12_fills_75 : decode cX12_fills 75 = .ok (.aload_n 0, 1) := by decide +kernel
theorem dX12_fills_76 : decode cX12_fills 76 = .ok (.iload 5, 2) := by decide +kernel
theorem dX12_fills_78 : decode cX12_fills 78 = .ok (.iload 6, 2) := by decide +kernel
theorem dX12_fills_80 : decode cX12_fills 80 = .ok (.iload 7, 2) := by decide +kernel
theorem dX12_fills_82 : decode cX12_fills 82 = .ok (.iload 8, 2) := by decide +kernel
theorem dX12_fills_84 : decode cX12_fills 84 = .ok (.invokevirtual 383, 3) := by decide +kernel
theorem dX12_fills_87 : decode cX12_fills 87 = .ok (.istore 9, 2) := by decide +kernel
theorem dX12_fills_89 : decode cX12_fills 89 = .ok (.aload_n 0, 1) := by decide +kernel
theorem dX12_fills_90 : decode cX12_fills 90 = .ok (.getfield 47, 3) := by decide +kernel
theorem dX12_fills_93 : decode cX12_fills 93 = .ok (.iload 9, 2) := by decide +kernel
theorem dX12_fills_95 : decode cX12_fills 95 = .ok (.iaload, 1) := by decide +kernel
theorem dX12_fills_96 : decode cX12_fills 96 = .ok (.ifCond .ne 37, 3) := by decide +kernel
theorem dX12_fills_99 : decode cX12_fills 99 = .ok (.aload_n 0, 1) := by decide +kernel
theorem dX12_fills_100 : decode cX12_fills 100 = .ok (.getfield 108, 3) := by decide +kernel
theorem dX12_fills_103 : decode cX12_fills 103 = .ok (.iload 9, 2) := by decide +kernel
theorem dX12_fills_105 : decode cX12_fills 105 = .ok (.iaload, 1) := by decide +kernel
theorem dX12_fills_106 : decode cX12_fills 106 = .ok (.iconst (-1), 1) := by decide +kernel
theorem dX12_fills_107 : decode cX12_fills 107 = .ok (.if_icmp .eq 6, 3) := by decide +kernel
theorem dX12_fills_110 : decode cX12_fills 110 = .ok (.goto 23, 3) := by decide +kernel
theorem dX12_fills_113 : decode cX12_fills 113 = .ok (.aload_n 0, 1) := by decide +kernel
theorem dX12_fills_114 : decode cX12_fills 114 = .ok (.getfield 108, 3) := by decide +kernel
theorem dX12_fills_117 : decode cX12_fills 117 = .ok (.iload 9, 2) := by decide +kernel
theorem dX12_fills_119 : decode cX12_fills 119 = .ok (.iload_n 2, 1) := by decide +kernel
theorem dX12_fills_120 : decode cX12_fills 120 = .ok (.iastore, 1) := by decide +kernel
theorem dX12_fills_121 : decode cX12_fills 121 = .ok (.aload_n 0, 1) := by decide +kernel
theorem dX12_fills_122 : decode cX12_fills 122 = .ok (.getfield 111, 3) := by decide +kernel
theorem dX12_fills_125 : decode cX12_fills 125 = .ok (.iload 4, 2) := by decide +kernel
theorem dX12_fills_127 : decode cX12_fills 127 = .ok (.iload 9, 2) := by decide +kernel
theorem dX12_fills_129 : decode cX12_fills 129 = .ok (.iastore, 1) := by decide +kernel
theorem dX12_fills_130 : decode cX12_fills 130 = .ok (.iinc 4 1, 3) := by decide +kernel
theorem dX12_fills_133 : decode cX12_fills 133 = .ok (.iinc 8 1, 3) := by decide +kernel
theorem dX12_fills_136 : decode cX12_fills 136 = .ok (.goto (-70), 3) := by decide +kernel
theorem dX12_fills_139 : decode cX12_fills 139 = .ok (.iinc 7 1, 3) := by decide +kernel
theorem dX12_fills_142 : decode cX12_fills 142 = .ok (.goto (-91), 3) := by decide +kernel
theorem dX12_fills_145 : decode cX12_fills 145 = .ok (.iinc 6 1, 3) := by decide +kernel
theorem dX12_fills_148 : decode cX12_fills 148 = .ok (.goto (-109), 3) := by decide +kernel
theorem dX12_fills_151 : decode cX12_fills 151 = .ok (.goto (-132), 3) := by decide +kernel
theorem dX12_fills_154 : decode cX12_fills 154 = .ok (.iload 4, 2) := by decide +kernel
theorem dX12_fills_156 : decode cX12_fills 156 = .ok (.ireturn, 1) := by decide +kernel
theorem dX12_mixes_0 : decode cX12_mixes 0 = .ok (.aload_n 0, 1) := by decide +kernel
theorem dX12_mixes_1 : decode cX12_mixes 1 = .ok (.invokevirtual 377, 3) := by decide +kernel
theorem dX12_mixes_4 : decode cX12_mixes 4 = .ok (.iconst 0, 1) := by decide +kernel
theorem dX12_mixes_5 : decode cX12_mixes 5 = .ok (.istore_n 2, 1) := by decide +kernel
theorem dX12_mixes_6 : decode cX12_mixes 6 = .ok (.aload_n 0, 1) := by decide +kernel
theorem dX12_mixes_7 : decode cX12_mixes 7 = .ok (.getfield 47, 3) := by decide +kernel
theorem dX12_mixes_10 : decode cX12_mixes 10 = .ok (.iload_n 2, 1) := by decide +kernel
theorem dX12_mixes_11 : decode cX12_mixes 11 = .ok (.iaload, 1) := by decide +kernel
theorem dX12_mixes_12 : decode cX12_mixes 12 = .ok (.ifCond .eq 9, 3) := by decide +kernel
theorem dX12_mixes_15 : decode cX12_mixes 15 = .ok (.iinc 2 1, 3) := by decide +kernel
theorem dX12_mixes_18 : decode cX12_mixes 18 = .ok (.goto (-12), 3) := by decide +kernel
theorem dX12_mixes_21 : decode cX12_mixes 21 = .ok (.iconst 0, 1) := by decide +kernel
theorem dX12_mixes_22 : decode cX12_mixes 22 = .ok (.istore_n 3, 1) := by decide +kernel
theorem dX12_mixes_23 : decode cX12_mixes 23 = .ok (.iload_n 3, 1) := by decide +kernel
theorem dX12_mixes_24 : decode cX12_mixes 24 = .ok (.aload_n 0, 1) := by decide +kernel
theorem dX12_mixes_25 : decode cX12_mixes 25 = .ok (.getfield 248, 3) := by decide +kernel
theorem dX12_mixes_28 : decode cX12_mixes 28 = .ok (.if_icmp .ge 16, 3) := by decide +kernel
theorem dX12_mixes_31 : decode cX12_mixes 31 = .ok (.aload_n 0, 1) := by decide +kernel
theorem dX12_mixes_32 : decode cX12_mixes 32 = .ok (.getfield 120, 3) := by decide +kernel
theorem dX12_mixes_35 : decode cX12_mixes 35 = .ok (.iload_n 3, 1) := by decide +kernel
theorem dX12_mixes_36 : decode cX12_mixes 36 = .ok (.iconst 0, 1) := by decide +kernel
theorem dX12_mixes_37 : decode cX12_mixes 37 = .ok (.iastore, 1) := by decide +kernel
theorem dX12_mixes_38 : decode cX12_mixes 38 = .ok (.iinc 3 1, 3) := by decide +kernel
theorem dX12_mixes_41 : decode cX12_mixes 41 = .ok (.goto (-18), 3) := by decide +kernel
theorem dX12_mixes_44 : decode cX12_mixes 44 = .ok (.aload_n 0, 1) := by decide +kernel
theorem dX12_mixes_45 : decode cX12_mixes 45 = .ok (.getfield 120, 3) := by decide +kernel
theorem dX12_mixes_48 : decode cX12_mixes 48 = .ok (.iload_n 2, 1) := by decide +kernel
theorem dX12_mixes_49 : decode cX12_mixes 49 = .ok (.iconst 1, 1) := by decide +kernel
theorem dX12_mixes_50 : decode cX12_mixes 50 = .ok (.iastore, 1) := by decide +kernel
theorem dX12_mixes_51 : decode cX12_mixes 51 = .ok (.aload_n 0, 1) := by decide +kernel
theorem dX12_mixes_52 : decode cX12_mixes 52 = .ok (.lconst 1, 1) := by decide +kernel
theorem dX12_mixes_53 : decode cX12_mixes 53 = .ok (.putfield 387, 3) := by decide +kernel
theorem dX12_mixes_56 : decode cX12_mixes 56 = .ok (.iconst 0, 1) := by decide +kernel
theorem dX12_mixes_57 : decode cX12_mixes 57 = .ok (.istore_n 3, 1) := by decide +kernel
theorem dX12_mixes_58 : decode cX12_mixes 58 = .ok (.iload_n 3, 1) := by decide +kernel
theorem dX12_mixes_59 : decode cX12_mixes 59 = .ok (.iload_n 1, 1) := by decide +kernel
theorem dX12_mixes_60 : decode cX12_mixes 60 = .ok (.if_icmp .ge 129, 3) := by decide +kernel
theorem dX12_mixes_63 : decode cX12_mixes 63 = .ok (.iconst 0, 1) := by decide +kernel
theorem dX12_mixes_64 : decode cX12_mixes 64 = .ok (.istore 4, 2) := by decide +kernel
theorem dX12_mixes_66 : decode cX12_mixes 66 = .ok (.iload 4, 2) := by decide +kernel
theorem dX12_mixes_68 : decode cX12_mixes 68 = .ok (.aload_n 0, 1) := by decide +kernel
theorem dX12_mixes_69 : decode cX12_mixes 69 = .ok (.getfield 248, 3) := by decide +kernel
theorem dX12_mixes_72 : decode cX12_mixes 72 = .ok (.if_icmp .ge 17, 3) := by decide +kernel
theorem dX12_mixes_75 : decode cX12_mixes 75 = .ok (.aload_n 0, 1) := by decide +kernel
theorem dX12_mixes_76 : decode cX12_mixes 76 = .ok (.getfield 123, 3) := by decide +kernel
theorem dX12_mixes_79 : decode cX12_mixes 79 = .ok (.iload 4, 2) := by decide +kernel
theorem dX12_mixes_81 : decode cX12_mixes 81 = .ok (.iconst 0, 1) := by decide +kernel
theorem dX12_mixes_82 : decode cX12_mixes 82 = .ok (.iastore, 1) := by decide +kernel
theorem dX12_mixes_83 : decode cX12_mixes 83 = .ok (.iinc 4 1, 3) := by decide +kernel
theorem dX12_mixes_86 : decode cX12_mixes 86 = .ok (.goto (-20), 3) := by decide +kernel
theorem dX12_mixes_89 : decode cX12_mixes 89 = .ok (.iconst 0, 1) := by decide +kernel
theorem dX12_mixes_90 : decode cX12_mixes 90 = .ok (.istore 4, 2) := by decide +kernel
theorem dX12_mixes_92 : decode cX12_mixes 92 = .ok (.iload 4, 2) := by decide +kernel
theorem dX12_mixes_94 : decode cX12_mixes 94 = .ok (.aload_n 0, 1) := by decide +kernel
theorem dX12_mixes_95 : decode cX12_mixes 95 = .ok (.getfield 248, 3) := by decide +kernel
theorem dX12_mixes_98 : decode cX12_mixes 98 = .ok (.if_icmp .ge 25, 3) := by decide +kernel
theorem dX12_mixes_101 : decode cX12_mixes 101 = .ok (.aload_n 0, 1) := by decide +kernel
theorem dX12_mixes_102 : decode cX12_mixes 102 = .ok (.getfield 120, 3) := by decide +kernel
theorem dX12_mixes_105 : decode cX12_mixes 105 = .ok (.iload 4, 2) := by decide +kernel
theorem dX12_mixes_107 : decode cX12_mixes 107 = .ok (.iaload, 1) := by decide +kernel
theorem dX12_mixes_108 : decode cX12_mixes 108 = .ok (.ifCond .le 9, 3) := by decide +kernel
theorem dX12_mixes_111 : decode cX12_mixes 111 = .ok (.aload_n 0, 1) := by decide +kernel
theorem dX12_mixes_112 : decode cX12_mixes 112 = .ok (.iload 4, 2) := by decide +kernel
theorem dX12_mixes_114 : decode cX12_mixes 114 = .ok (.invokevirtual 390, 3) := by decide +kernel
theorem dX12_mixes_117 : decode cX12_mixes 117 = .ok (.iinc 4 1, 3) := by decide +kernel
theorem dX12_mixes_120 : decode cX12_mixes 120 = .ok (.goto (-28), 3) := by decide +kernel
theorem dX12_mixes_123 : decode cX12_mixes 123 = .ok (.iconst 0, 1) := by decide +kernel
theorem dX12_mixes_124 : decode cX12_mixes 124 = .ok (.istore 4, 2) := by decide +kernel
theorem dX12_mixes_126 : decode cX12_mixes 126 = .ok (.iload 4, 2) := by decide +kernel
theorem dX12_mixes_128 : decode cX12_mixes 128 = .ok (.aload_n 0, 1) := by decide +kernel
theorem dX12_mixes_129 : decode cX12_mixes 129 = .ok (.getfield 248, 3) := by decide +kernel
theorem dX12_mixes_132 : decode cX12_mixes 132 = .ok (.if_icmp .ge 23, 3) := by decide +kernel
theorem dX12_mixes_135 : decode cX12_mixes 135 = .ok (.aload_n 0, 1) := by decide +kernel
theorem dX12_mixes_136 : decode cX12_mixes 136 = .ok (.getfield 120, 3) := by decide +kernel
theorem dX12_mixes_139 : decode cX12_mixes 139 = .ok (.iload 4, 2) := by decide +kernel
theorem dX12_mixes_141 : decode cX12_mixes 141 = .ok (.aload_n 0, 1) := by decide +kernel
theorem dX12_mixes_142 : decode cX12_mixes 142 = .ok (.getfield 123, 3) := by decide +kernel
theorem dX12_mixes_145 : decode cX12_mixes 145 = .ok (.iload 4, 2) := by decide +kernel
theorem dX12_mixes_147 : decode cX12_mixes 147 = .ok (.iaload, 1) := by decide +kernel
theorem dX12_mixes_148 : decode cX12_mixes 148 = .ok (.iastore, 1) := by decide +kernel
theorem dX12_mixes_149 : decode cX12_mixes 149 = .ok (.iinc 4 1, 3) := by decide +kernel
theorem dX12_mixes_152 : decode cX12_mixes 152 = .ok (.goto (-26), 3) := by decide +kernel
theorem dX12_mixes_155 : decode cX12_mixes 155 = .ok (.aload_n 0, 1) := by decide +kernel
theorem dX12_mixes_156 : decode cX12_mixes 156 = .ok (.dup, 1) := by decide +kernel
theorem dX12_mixes_157 : decode cX12_mixes 157 = .ok (.getfield 387, 3) := by decide +kernel
theorem dX12_mixes_160 : decode cX12_mixes 160 = .ok (.aload_n 0, 1) := by decide +kernel
theorem dX12_mixes_161 : decode cX12_mixes 161 = .ok (.getfield 188, 3) := by decide +kernel
theorem dX12_mixes_164 : decode cX12_mixes 164 = .ok (.aload_n 0, 1) := by decide +kernel
theorem dX12_mixes_165 : decode cX12_mixes 165 = .ok (.getfield 185, 3) := by decide +kernel
theorem dX12_mixes_168 : decode cX12_mixes 168 = .ok (.imul, 1) := by decide +kernel
theorem dX12_mixes_169 : decode cX12_mixes 169 = .ok (.aload_n 0, 1) := by decide +kernel
theorem dX12_mixes_170 : decode cX12_mixes 170 = .ok (.getfield 185, 3) := by decide +kernel
theorem dX12_mixes_173 : decode cX12_mixes 173 = .ok (.iconst 1, 1) := by decide +kernel
theorem dX12_mixes_174 : decode cX12_mixes 174 = .ok (.isub, 1) := by decide +kernel
theorem dX12_mixes_175 : decode cX12_mixes 175 = .ok (.imul, 1) := by decide +kernel
theorem dX12_mixes_176 : decode cX12_mixes 176 = .ok (.iconst 2, 1) := by decide +kernel
theorem dX12_mixes_177 : decode cX12_mixes 177 = .ok (.idiv, 1) := by decide +kernel
theorem dX12_mixes_178 : decode cX12_mixes 178 = .ok (.i2l, 1) := by decide +kernel
theorem dX12_mixes_179 : decode cX12_mixes 179 = .ok (.lmul, 1) := by decide +kernel
theorem dX12_mixes_180 : decode cX12_mixes 180 = .ok (.putfield 387, 3) := by decide +kernel
theorem dX12_mixes_183 : decode cX12_mixes 183 = .ok (.iinc 3 1, 3) := by decide +kernel
theorem dX12_mixes_186 : decode cX12_mixes 186 = .ok (.goto (-128), 3) := by decide +kernel
theorem dX12_mixes_189 : decode cX12_mixes 189 = .ok (.return_, 1) := by decide +kernel
theorem dX12_mixesOne_0 : decode cX12_mixesOne 0 = .ok (.iconst 0, 1) := by decide +kernel
theorem dX12_mixesOne_1 : decode cX12_mixesOne 1 = .ok (.istore_n 2, 1) := by decide +kernel
theorem dX12_mixesOne_2 : decode cX12_mixesOne 2 = .ok (.iload_n 2, 1) := by decide +kernel
theorem dX12_mixesOne_3 : decode cX12_mixesOne 3 = .ok (.aload_n 0, 1) := by decide +kernel
theorem dX12_mixesOne_4 : decode cX12_mixesOne 4 = .ok (.getfield 188, 3) := by decide +kernel
theorem dX12_mixesOne_7 : decode cX12_mixesOne 7 = .ok (.if_icmp .ge 86, 3) := by decide +kernel
theorem dX12_mixesOne_10 : decode cX12_mixesOne 10 = .ok (.iconst 0, 1) := by decide +kernel
theorem dX12_mixesOne_11 : decode cX12_mixesOne 11 = .ok (.istore_n 3, 1) := by decide +kernel
theorem dX12_mixesOne_12 : decode cX12_mixesOne 12 = .ok (.iload_n 3, 1) := by decide +kernel
theorem dX12_mixesOne_13 : decode cX12_mixesOne 13 = .ok (.aload_n 0, 1) := by decide +kernel
theorem dX12_mixesOne_14 : decode cX12_mixesOne 14 = .ok (.getfield 185, 3) := by decide +kernel
theorem dX12_mixesOne_17 : decode cX12_mixesOne 17 = .ok (.if_icmp .ge 70, 3) := by decide +kernel
theorem dX12_mixesOne_20 : decode cX12_mixesOne 20 = .ok (.iload_n 3, 1) := by decide +kernel
theorem dX12_mixesOne_21 : decode cX12_mixesOne 21 = .ok (.iconst 1, 1) := by decide +kernel
theorem dX12_mixesOne_22 : decode cX12_mixesOne 22 = .ok (.iadd, 1) := by decide +kernel
theorem dX12_mixesOne_23 : decode cX12_mixesOne 23 = .ok (.istore 4, 2) := by decide +kernel
theorem dX12_mixesOne_25 : decode cX12_mixesOne 25 = .ok (.iload 4, 2) := by decide +kernel
theorem dX12_mixesOne_27 : decode cX12_mixesOne 27 = .ok (.aload_n 0, 1) := by decide +kernel
theorem dX12_mixesOne_28 : decode cX12_mixesOne 28 = .ok (.getfield 185, 3) := by decide +kernel
theorem dX12_mixesOne_31 : decode cX12_mixesOne 31 = .ok (.if_icmp .ge 50, 3) := by decide +kernel
theorem dX12_mixesOne_34 : decode cX12_mixesOne 34 = .ok (.aload_n 0, 1) := by decide +kernel
theorem dX12_mixesOne_35 : decode cX12_mixesOne 35 = .ok (.iload_n 1, 1) := by decide +kernel
theorem dX12_mixesOne_36 : decode cX12_mixesOne 36 = .ok (.iload_n 2, 1) := by decide +kernel
theorem dX12_mixesOne_37 : decode cX12_mixesOne 37 = .ok (.iload_n 3, 1) := by decide +kernel
theorem dX12_mixesOne_38 : decode cX12_mixesOne 38 = .ok (.iload 4, 2) := by decide +kernel
theorem dX12_mixesOne_40 : decode cX12_mixesOne 40 = .ok (.invokevirtual 383, 3) := by decide +kernel
theorem dX12_mixesOne_43 : decode cX12_mixesOne 43 = .ok (.istore 5, 2) := by decide +kernel
theorem dX12_mixesOne_45 : decode cX12_mixesOne 45 = .ok (.aload_n 0, 1) := by decide +kernel
theorem dX12_mixesOne_46 : decode cX12_mixesOne 46 = .ok (.getfield 123, 3) := by decide +kernel
theorem dX12_mixesOne_49 : decode cX12_mixesOne 49 = .ok (.aload_n 0, 1) := by decide +kernel
theorem dX12_mixesOne_50 : decode cX12_mixesOne 50 = .ok (.getfield 47, 3) := by decide +kernel
theorem dX12_mixesOne_53 : decode cX12_mixesOne 53 = .ok (.iload 5, 2) := by decide +kernel
theorem dX12_mixesOne_55 : decode cX12_mixesOne 55 = .ok (.iaload, 1) := by decide +kernel
theorem dX12_mixesOne_56 : decode cX12_mixesOne 56 = .ok (.ifCond .ne 8, 3) := by decide +kernel
theorem dX12_mixesOne_59 : decode cX12_mixesOne 59 = .ok (.iload 5, 2) := by decide +kernel
theorem dX12_mixesOne_61 : decode cX12_mixesOne 61 = .ok (.goto 4, 3) := by decide +kernel
theorem dX12_mixesOne_64 : decode cX12_mixesOne 64 = .ok (.iload_n 1, 1) := by decide +kernel
theorem dX12_mixesOne_65 : decode cX12_mixesOne 65 = .ok (.dup2, 1) := by decide +kernel
theorem dX12_mixesOne_66 : decode cX12_mixesOne 66 = .ok (.iaload, 1) := by decide +kernel
theorem dX12_mixesOne_67 : decode cX12_mixesOne 67 = .ok (.aload_n 0, 1) := by decide +kernel
theorem dX12_mixesOne_68 : decode cX12_mixesOne 68 = .ok (.getfield 120, 3) := by decide +kernel
theorem dX12_mixesOne_71 : decode cX12_mixesOne 71 = .ok (.iload_n 1, 1) := by decide +kernel
theorem dX12_mixesOne_72 : decode cX12_mixesOne 72 = .ok (.iaload, 1) := by decide +kernel
theorem dX12_mixesOne_73 : decode cX12_mixesOne 73 = .ok (.iadd, 1) := by decide +kernel
theorem dX12_mixesOne_74 : decode cX12_mixesOne 74 = .ok (.iastore, 1) := by decide +kernel
theorem dX12_mixesOne_75 : decode cX12_mixesOne 75 = .ok (.iinc 4 1, 3) := by decide +kernel
theorem dX12_mixesOne_78 : decode cX12_mixesOne 78 = .ok (.goto (-53), 3) := by decide +kernel
theorem dX12_mixesOne_81 : decode cX12_mixesOne 81 = .ok (.iinc 3 1, 3) := by decide +kernel
theorem dX12_mixesOne_84 : decode cX12_mixesOne 84 = .ok (.goto (-72), 3) := by decide +kernel
theorem dX12_mixesOne_87 : decode cX12_mixesOne 87 = .ok (.iinc 2 1, 3) := by decide +kernel
theorem dX12_mixesOne_90 : decode cX12_mixesOne 90 = .ok (.goto (-88), 3) := by decide +kernel
theorem dX12_mixesOne_93 : decode cX12_mixesOne 93 = .ok (.return_, 1) := by decide +kernel
theorem dX12_mix_0 : decode cX12_mix 0 = .ok (.aload_n 0, 1) := by decide +kernel
theorem dX12_mix_1 : decode cX12_mix 1 = .ok (.iconst 0, 1) := by decide +kernel
theorem dX12_mix_2 : decode cX12_mix 2 = .ok (.putfield 132, 3) := by decide +kernel
theorem dX12_mix_5 : decode cX12_mix 5 = .ok (.iload_n 1, 1) := by decide +kernel
theorem dX12_mix_6 : decode cX12_mix 6 = .ok (.iconst 0, 1) := by decide +kernel
theorem dX12_mix_7 : decode cX12_mix 7 = .ok (.iconst 5, 1) := by decide +kernel
theorem dX12_mix_8 : decode cX12_mix 8 = .ok (.invokestatic 237, 3) := by decide +kernel
theorem dX12_mix_11 : decode cX12_mix 11 = .ok (.ifCond .eq 22, 3) := by decide +kernel
theorem dX12_mix_14 : decode cX12_mix 14 = .ok (.iload_n 2, 1) := by decide +kernel
theorem dX12_mix_15 : decode cX12_mix 15 = .ok (.ifCond .lt 18, 3) := by decide +kernel
theorem dX12_mix_18 : decode cX12_mix 18 = .ok (.iload_n 2, 1) := by decide +kernel
theorem dX12_mix_19 : decode cX12_mix 19 = .ok (.aload_n 0, 1) := by decide +kernel
theorem dX12_mix_20 : decode cX12_mix 20 = .ok (.getfield 248, 3) := by decide +kernel
theorem dX12_mix_23 : decode cX12_mix 23 = .ok (.if_icmp .ge 10, 3) := by decide +kernel
theorem dX12_mix_26 : decode cX12_mix 26 = .ok (.aload_n 0, 1) := by decide +kernel
theorem dX12_mix_27 : decode cX12_mix 27 = .ok (.getfield 251, 3) := by decide +kernel
theorem dX12_mix_30 : decode cX12_mix 30 = .ok (.ifCond .ne 5, 3) := by decide +kernel
theorem dX12_mix_33 : decode cX12_mix 33 = .ok (.iconst (-1), 1) := by decide +kernel
theorem dX12_mix_34 : decode cX12_mix 34 = .ok (.ireturn, 1) := by decide +kernel
theorem dX12_mix_35 : decode cX12_mix 35 = .ok (.aload_n 0, 1) := by decide +kernel
theorem dX12_mix_36 : decode cX12_mix 36 = .ok (.iload_n 1, 1) := by decide +kernel
theorem dX12_mix_37 : decode cX12_mix 37 = .ok (.invokevirtual 393, 3) := by decide +kernel
theorem dX12_mix_40 : decode cX12_mix 40 = .ok (.aload_n 0, 1) := by decide +kernel
theorem dX12_mix_41 : decode cX12_mix 41 = .ok (.getfield 120, 3) := by decide +kernel
theorem dX12_mix_44 : decode cX12_mix 44 = .ok (.iload_n 2, 1) := by decide +kernel
theorem dX12_mix_45 : decode cX12_mix 45 = .ok (.iaload, 1) := by decide +kernel
theorem dX12_mix_46 : decode cX12_mix 46 = .ok (.ireturn, 1) := by decide +kernel
theorem dX12_mixed_0 : decode cX12_mixed 0 = .ok (.aload_n 0, 1) := by decide +kernel
theorem dX12_mixed_1 : decode cX12_mixed 1 = .ok (.iconst 0, 1) := by decide +kernel
theorem dX12_mixed_2 : decode cX12_mixed 2 = .ok (.putfield 132, 3) := by decide +kernel
theorem dX12_mixed_5 : decode cX12_mixed 5 = .ok (.iload_n 1, 1) := by decide +kernel
theorem dX12_mixed_6 : decode cX12_mixed 6 = .ok (.iconst 0, 1) := by decide +kernel
theorem dX12_mixed_7 : decode cX12_mixed 7 = .ok (.iconst 5, 1) := by decide +kernel
theorem dX12_mixed_8 : decode cX12_mixed 8 = .ok (.invokestatic 237, 3) := by decide +kernel
theorem dX12_mixed_11 : decode cX12_mixed 11 = .ok (.ifCond .eq 19, 3) := by decide +kernel
theorem dX12_mixed_14 : decode cX12_mixed 14 = .ok (.iload_n 2, 1) := by decide +kernel
theorem dX12_mixed_15 : decode cX12_mixed 15 = .ok (.iconst 0, 1) := by decide +kernel
theorem dX12_mixed_16 : decode cX12_mixed 16 = .ok (.iconst 1, 1) := by decide +kernel
theorem dX12_mixed_17 : decode cX12_mixed 17 = .ok (.invokestatic 237, 3) := by decide +kernel
theorem dX12_mixed_20 : decode cX12_mixed 20 = .ok (.ifCond .eq 10, 3) := by decide +kernel
theorem dX12_mixed_23 : decode cX12_mixed 23 = .ok (.aload_n 0, 1) := by decide +kernel
theorem dX12_mixed_24 : decode cX12_mixed 24 = .ok (.getfield 251, 3) := by decide +kernel
theorem dX12_mixed_27 : decode cX12_mixed 27 = .ok (.ifCond .ne 7, 3) := by decide +kernel
theorem dX12_mixed_30 : decode cX12_mixed 30 = .ok (.ldc2_w 327, 3) := by decide +kernel
theorem dX12_mixed_33 : decode cX12_mixed 33 = .ok (.lreturn, 1) := by decide +kernel
theorem dX12_mixed_34 : decode cX12_mixed 34 = .ok (.aload_n 0, 1) := by decide +kernel
theorem dX12_mixed_35 : decode cX12_mixed 35 = .ok (.iload_n 1, 1) := by decide +kernel
theorem dX12_mixed_36 : decode cX12_mixed 36 = .ok (.invokevirtual 393, 3) := by decide +kernel
theorem dX12_mixed_39 : decode cX12_mixed 39 = .ok (.iload_n 2, 1) := by decide +kernel
theorem dX12_mixed_40 : decode cX12_mixed 40 = .ok (.iconst 1, 1) := by decide +kernel
theorem dX12_mixed_41 : decode cX12_mixed 41 = .ok (.if_icmp .ne 14, 3) := by decide +kernel
theorem dX12_mixed_44 : decode cX12_mixed 44 = .ok (.aload_n 0, 1) := by decide +kernel
theorem dX12_mixed_45 : decode cX12_mixed 45 = .ok (.getfield 387, 3) := by decide +kernel
theorem dX12_mixed_48 : decode cX12_mixed 48 = .ok (.aload_n 0, 1) := by decide +kernel
theorem dX12_mixed_49 : decode cX12_mixed 49 = .ok (.getfield 251, 3) := by decide +kernel
theorem dX12_mixed_52 : decode cX12_mixed 52 = .ok (.i2l, 1) := by decide +kernel
theorem dX12_mixed_53 : decode cX12_mixed 53 = .ok (.lmul, 1) := by decide +kernel
theorem dX12_mixed_54 : decode cX12_mixed 54 = .ok (.lreturn, 1) := by decide +kernel
theorem dX12_mixed_55 : decode cX12_mixed 55 = .ok (.lconst 0, 1) := by decide +kernel
theorem dX12_mixed_56 : decode cX12_mixed 56 = .ok (.lstore_n 3, 1) := by decide +kernel
theorem dX12_mixed_57 : decode cX12_mixed 57 = .ok (.iconst 0, 1) := by decide +kernel
theorem dX12_mixed_58 : decode cX12_mixed 58 = .ok (.istore 5, 2) := by decide +kernel
theorem dX12_mixed_60 : decode cX12_mixed 60 = .ok (.iload 5, 2) := by decide +kernel
theorem dX12_mixed_62 : decode cX12_mixed 62 = .ok (.aload_n 0, 1) := by decide +kernel
theorem dX12_mixed_63 : decode cX12_mixed 63 = .ok (.getfield 248, 3) := by decide +kernel
theorem dX12_mixed_66 : decode cX12_mixed 66 = .ok (.if_icmp .ge 61, 3) := by decide +kernel
theorem dX12_mixed_69 : decode cX12_mixed 69 = .ok (.aload_n 0, 1) := by decide +kernel
theorem dX12_mixed_70 : decode cX12_mixed 70 = .ok (.getfield 47, 3) := by decide +kernel
theorem dX12_mixed_73 : decode cX12_mixed 73 = .ok (.iload 5, 2) := by decide +kernel
theorem dX12_mixed_75 : decode cX12_mixed 75 = .ok (.iaload, 1) := by decide +kernel
theorem dX12_mixed_76 : decode cX12_mixed 76 = .ok (.ifCond .eq 6, 3) := by decide +kernel
theorem dX12_mixed_79 : decode cX12_mixed 79 = .ok (.goto 42, 3) := by decide +kernel
theorem dX12_mixed_82 : decode cX12_mixed 82 = .ok (.aload_n 0, 1) := by decide +kernel
theorem dX12_mixed_83 : decode cX12_mixed 83 = .ok (.getfield 120, 3) := by decide +kernel
theorem dX12_mixed_86 : decode cX12_mixed 86 = .ok (.iload 5, 2) := by decide +kernel
theorem dX12_mixed_88 : decode cX12_mixed 88 = .ok (.iaload, 1) := by decide +kernel
theorem dX12_mixed_89 : decode cX12_mixed 89 = .ok (.i2l, 1) := by decide +kernel
theorem dX12_mixed_90 : decode cX12_mixed 90 = .ok (.aload_n 0, 1) := by decide +kernel
theorem dX12_mixed_91 : decode cX12_mixed 91 = .ok (.getfield 251, 3) := by decide +kernel
theorem dX12_mixed_94 : decode cX12_mixed 94 = .ok (.i2l, 1) := by decide +kernel
theorem dX12_mixed_95 : decode cX12_mixed 95 = .ok (.lmul, 1) := by decide +kernel
theorem dX12_mixed_96 : decode cX12_mixed 96 = .ok (.aload_n 0, 1) := by decide +kernel
theorem dX12_mixed_97 : decode cX12_mixed 97 = .ok (.getfield 387, 3) := by decide +kernel
theorem dX12_mixed_100 : decode cX12_mixed 100 = .ok (.lsub, 1) := by decide +kernel
theorem dX12_mixed_101 : decode cX12_mixed 101 = .ok (.lstore 6, 2) := by decide +kernel
theorem dX12_mixed_103 : decode cX12_mixed 103 = .ok (.lload_n 3, 1) := by decide +kernel
theorem dX12_mixed_104 : decode cX12_mixed 104 = .ok (.lload 6, 2) := by decide +kernel
theorem dX12_mixed_106 : decode cX12_mixed 106 = .ok (.lconst 0, 1) := by decide +kernel
theorem dX12_mixed_107 : decode cX12_mixed 107 = .ok (.lcmp, 1) := by decide +kernel
theorem dX12_mixed_108 : decode cX12_mixed 108 = .ok (.ifCond .ge 9, 3) := by decide +kernel
theorem dX12_mixed_111 : decode cX12_mixed 111 = .ok (.lload 6, 2) := by decide +kernel
theorem dX12_mixed_113 : decode cX12_mixed 113 = .ok (.lneg, 1) := by decide +kernel
theorem dX12_mixed_114 : decode cX12_mixed 114 = .ok (.goto 5, 3) := by decide +kernel
theorem dX12_mixed_117 : decode cX12_mixed 117 = .ok (.lload 6, 2) := by decide +kernel
theorem dX12_mixed_119 : decode cX12_mixed 119 = .ok (.ladd, 1) := by decide +kernel
theorem dX12_mixed_120 : decode cX12_mixed 120 = .ok (.lstore_n 3, 1) := by decide +kernel
theorem dX12_mixed_121 : decode cX12_mixed 121 = .ok (.iinc 5 1, 3) := by decide +kernel
theorem dX12_mixed_124 : decode cX12_mixed 124 = .ok (.goto (-64), 3) := by decide +kernel
theorem dX12_mixed_127 : decode cX12_mixed 127 = .ok (.lload_n 3, 1) := by decide +kernel
theorem dX12_mixed_128 : decode cX12_mixed 128 = .ok (.lreturn, 1) := by decide +kernel
theorem dX12_comesNext_0 : decode cX12_comesNext 0 = .ok (.lload_n 0, 1) := by decide +kernel
theorem dX12_comesNext_1 : decode cX12_comesNext 1 = .ok (.ldc2_w 396, 3) := by decide +kernel
theorem dX12_comesNext_4 : decode cX12_comesNext 4 = .ok (.lmul, 1) := by decide +kernel
theorem dX12_comesNext_5 : decode cX12_comesNext 5 = .ok (.ldc2_w 398, 3) := by decide +kernel
theorem dX12_comesNext_8 : decode cX12_comesNext 8 = .ok (.ladd, 1) := by decide +kernel
theorem dX12_comesNext_9 : decode cX12_comesNext 9 = .ok (.ldc2_w 400, 3) := by decide +kernel
theorem dX12_comesNext_12 : decode cX12_comesNext 12 = .ok (.land, 1) := by decide +kernel
theorem dX12_comesNext_13 : decode cX12_comesNext 13 = .ok (.lreturn, 1) := by decide +kernel
theorem dX12_run_0 : decode cX12_run 0 = .ok (.aload_n 0, 1) := by decide +kernel
theorem dX12_run_1 : decode cX12_run 1 = .ok (.iconst 0, 1) := by decide +kernel
theorem dX12_run_2 : decode cX12_run 2 = .ok (.putfield 132, 3) := by decide +kernel
theorem dX12_run_5 : decode cX12_run 5 = .ok (.iload_n 1, 1) := by decide +kernel
theorem dX12_run_6 : decode cX12_run 6 = .ok (.ifCond .lt 18, 3) := by decide +kernel
theorem dX12_run_9 : decode cX12_run 9 = .ok (.aload_n 0, 1) := by decide +kernel
theorem dX12_run_10 : decode cX12_run 10 = .ok (.iload_n 2, 1) := by decide +kernel
theorem dX12_run_11 : decode cX12_run 11 = .ok (.invokevirtual 269, 3) := by decide +kernel
theorem dX12_run_14 : decode cX12_run 14 = .ok (.ifCond .eq 10, 3) := by decide +kernel
theorem dX12_run_17 : decode cX12_run 17 = .ok (.aload_n 0, 1) := by decide +kernel
theorem dX12_run_18 : decode cX12_run 18 = .ok (.getfield 251, 3) := by decide +kernel
theorem dX12_run_21 : decode cX12_run 21 = .ok (.ifCond .ne 5, 3) := by decide +kernel
theorem dX12_run_24 : decode cX12_run 24 = .ok (.iconst (-1), 1) := by decide +kernel
theorem dX12_run_25 : decode cX12_run 25 = .ok (.ireturn, 1) := by decide +kernel
theorem dX12_run_26 : decode cX12_run 26 = .ok (.iconst 0, 1) := by decide +kernel
theorem dX12_run_27 : decode cX12_run 27 = .ok (.istore_n 3, 1) := by decide +kernel
theorem dX12_run_28 : decode cX12_run 28 = .ok (.iload_n 3, 1) := by decide +kernel
theorem dX12_run_29 : decode cX12_run 29 = .ok (.iconst 4, 1) := by decide +kernel
theorem dX12_run_30 : decode cX12_run 30 = .ok (.if_icmp .ge 23, 3) := by decide +kernel
theorem dX12_run_33 : decode cX12_run 33 = .ok (.aload_n 0, 1) := by decide +kernel
theorem dX12_run_34 : decode cX12_run 34 = .ok (.getfield 71, 3) := by decide +kernel
theorem dX12_run_37 : decode cX12_run 37 = .ok (.iload_n 3, 1) := by decide +kernel
theorem dX12_run_38 : decode cX12_run 38 = .ok (.iload_n 3, 1) := by decide +kernel
theorem dX12_run_39 : decode cX12_run 39 = .ok (.iastore, 1) := by decide +kernel
theorem dX12_run_40 : decode cX12_run 40 = .ok (.aload_n 0, 1) := by decide +kernel
theorem dX12_run_41 : decode cX12_run 41 = .ok (.getfield 74, 3) := by decide +kernel
theorem dX12_run_44 : decode cX12_run 44 = .ok (.iload_n 3, 1) := by decide +kernel
theorem dX12_run_45 : decode cX12_run 45 = .ok (.iload_n 3, 1) := by decide +kernel
theorem dX12_run_46 : decode cX12_run 46 = .ok (.iastore, 1) := by decide +kernel
theorem dX12_run_47 : decode cX12_run 47 = .ok (.iinc 3 1, 3) := by decide +kernel
theorem dX12_run_50 : decode cX12_run 50 = .ok (.goto (-22), 3) := by decide +kernel
theorem dX12_run_53 : decode cX12_run 53 = .ok (.aload_n 0, 1) := by decide +kernel
theorem dX12_run_54 : decode cX12_run 54 = .ok (.invokevirtual 311, 3) := by decide +kernel
theorem dX12_run_57 : decode cX12_run 57 = .ok (.iload_n 1, 1) := by decide +kernel
theorem dX12_run_58 : decode cX12_run 58 = .ok (.i2l, 1) := by decide +kernel
theorem dX12_run_59 : decode cX12_run 59 = .ok (.lstore_n 3, 1) := by decide +kernel
theorem dX12_run_60 : decode cX12_run 60 = .ok (.iconst 0, 1) := by decide +kernel
theorem dX12_run_61 : decode cX12_run 61 = .ok (.istore 5, 2) := by decide +kernel
theorem dX12_run_63 : decode cX12_run 63 = .ok (.iconst 0, 1) := by decide +kernel
theorem dX12_run_64 : decode cX12_run 64 = .ok (.istore 6, 2) := by decide +kernel
theorem dX12_run_66 : decode cX12_run 66 = .ok (.iload 6, 2) := by decide +kernel
theorem dX12_run_68 : decode cX12_run 68 = .ok (.aload_n 0, 1) := by decide +kernel
theorem dX12_run_69 : decode cX12_run 69 = .ok (.getfield 188, 3) := by decide +kernel
theorem dX12_run_72 : decode cX12_run 72 = .ok (.if_icmp .ge 170, 3) := by decide +kernel
theorem dX12_run_75 : decode cX12_run 75 = .ok (.aload_n 0, 1) := by decide +kernel
theorem dX12_run_76 : decode cX12_run 76 = .ok (.getfield 288, 3) := by decide +kernel
theorem dX12_run_79 : decode cX12_run 79 = .ok (.iconst 1, 1) := by decide +kernel
theorem dX12_run_80 : decode cX12_run 80 = .ok (.isub, 1) := by decide +kernel
theorem dX12_run_81 : decode cX12_run 81 = .ok (.istore 7, 2) := by decide +kernel
theorem dX12_run_83 : decode cX12_run 83 = .ok (.aload_n 0, 1) := by decide +kernel
theorem dX12_run_84 : decode cX12_run 84 = .ok (.getfield 185, 3) := by decide +kernel
theorem dX12_run_87 : decode cX12_run 87 = .ok (.istore 8, 2) := by decide +kernel
theorem dX12_run_89 : decode cX12_run 89 = .ok (.iload 8, 2) := by decide +kernel
theorem dX12_run_91 : decode cX12_run 91 = .ok (.ifCond .le 105, 3) := by decide +kernel
theorem dX12_run_94 : decode cX12_run 94 = .ok (.lload_n 3, 1) := by decide +kernel
theorem dX12_run_95 : decode cX12_run 95 = .ok (.invokestatic 402, 3) := by decide +kernel
theorem dX12_run_98 : decode cX12_run 98 = .ok (.lstore_n 3, 1) := by decide +kernel
theorem dX12_run_99 : decode cX12_run 99 = .ok (.lload_n 3, 1) := by decide +kernel
theorem dX12_run_100 : decode cX12_run 100 = .ok (.ldc2_w 406, 3) := by decide +kernel
theorem dX12_run_103 : decode cX12_run 103 = .ok (.ldiv, 1) := by decide +kernel
theorem dX12_run_104 : decode cX12_run 104 = .ok (.iload 8, 2) := by decide +kernel
theorem dX12_run_106 : decode cX12_run 106 = .ok (.i2l, 1) := by decide +kernel
theorem dX12_run_107 : decode cX12_run 107 = .ok (.lrem, 1) := by decide +kernel
theorem dX12_run_108 : decode cX12_run 108 = .ok (.l2i, 1) := by decide +kernel
theorem dX12_run_109 : decode cX12_run 109 = .ok (.istore 9, 2) := by decide +kernel
theorem dX12_run_111 : decode cX12_run 111 = .ok (.iconst 0, 1) := by decide +kernel
theorem dX12_run_112 : decode cX12_run 112 = .ok (.istore 10, 2) := by decide +kernel
theorem dX12_run_114 : decode cX12_run 114 = .ok (.aload_n 0, 1) := by decide +kernel
theorem dX12_run_115 : decode cX12_run 115 = .ok (.iload 7, 2) := by decide +kernel
theorem dX12_run_117 : decode cX12_run 117 = .ok (.iload 10, 2) := by decide +kernel
theorem dX12_run_119 : decode cX12_run 119 = .ok (.invokevirtual 291, 3) := by decide +kernel
theorem dX12_run_122 : decode cX12_run 122 = .ok (.aload_n 0, 1) := by decide +kernel
theorem dX12_run_123 : decode cX12_run 123 = .ok (.getfield 185, 3) := by decide +kernel
theorem dX12_run_126 : decode cX12_run 126 = .ok (.if_icmp .lt 8, 3) := by decide +kernel
theorem dX12_run_129 : decode cX12_run 129 = .ok (.iload 9, 2) := by decide +kernel
theorem dX12_run_131 : decode cX12_run 131 = .ok (.ifCond .le 34, 3) := by decide +kernel
theorem dX12_run_134 : decode cX12_run 134 = .ok (.iload 9, 2) := by decide +kernel
theorem dX12_run_136 : decode cX12_run 136 = .ok (.aload_n 0, 1) := by decide +kernel
theorem dX12_run_137 : decode cX12_run 137 = .ok (.iload 7, 2) := by decide +kernel
theorem dX12_run_139 : decode cX12_run 139 = .ok (.iload 10, 2) := by decide +kernel
theorem dX12_run_141 : decode cX12_run 141 = .ok (.invokevirtual 291, 3) := by decide +kernel
theorem dX12_run_144 : decode cX12_run 144 = .ok (.aload_n 0, 1) := by decide +kernel
theorem dX12_run_145 : decode cX12_run 145 = .ok (.getfield 185, 3) := by decide +kernel
theorem dX12_run_148 : decode cX12_run 148 = .ok (.if_icmp .ge 7, 3) := by decide +kernel
theorem dX12_run_151 : decode cX12_run 151 = .ok (.iconst 0, 1) := by decide +kernel
theorem dX12_run_152 : decode cX12_run 152 = .ok (.goto 4, 3) := by decide +kernel
theorem dX12_run_155 : decode cX12_run 155 = .ok (.iconst 1, 1) := by decide +kernel
theorem dX12_run_156 : decode cX12_run 156 = .ok (.isub, 1) := by decide +kernel
theorem dX12_run_157 : decode cX12_run 157 = .ok (.istore 9, 2) := by decide +kernel
theorem dX12_run_159 : decode cX12_run 159 = .ok (.iinc 10 1, 3) := by decide +kernel
theorem dX12_run_162 : decode cX12_run 162 = .ok (.goto (-48), 3) := by decide +kernel
theorem dX12_run_165 : decode cX12_run 165 = .ok (.aload_n 0, 1) := by decide +kernel
theorem dX12_run_166 : decode cX12_run 166 = .ok (.iload 7, 2) := by decide +kernel
theorem dX12_run_168 : decode cX12_run 168 = .ok (.iload 10, 2) := by decide +kernel
theorem dX12_run_170 : decode cX12_run 170 = .ok (.aload_n 0, 1) := by decide +kernel
theorem dX12_run_171 : decode cX12_run 171 = .ok (.getfield 80, 3) := by decide +kernel
theorem dX12_run_174 : decode cX12_run 174 = .ok (.aload_n 0, 1) := by decide +kernel
theorem dX12_run_175 : decode cX12_run 175 = .ok (.getfield 77, 3) := by decide +kernel
theorem dX12_run_178 : decode cX12_run 178 = .ok (.iload 6, 2) := by decide +kernel
theorem dX12_run_180 : decode cX12_run 180 = .ok (.iaload, 1) := by decide +kernel
theorem dX12_run_181 : decode cX12_run 181 = .ok (.iload 5, 2) := by decide +kernel
theorem dX12_run_183 : decode cX12_run 183 = .ok (.iadd, 1) := by decide +kernel
theorem dX12_run_184 : decode cX12_run 184 = .ok (.iaload, 1) := by decide +kernel
theorem dX12_run_185 : decode cX12_run 185 = .ok (.invokevirtual 366, 3) := by decide +kernel
theorem dX12_run_188 : decode cX12_run 188 = .ok (.istore 7, 2) := by decide +kernel
theorem dX12_run_190 : decode cX12_run 190 = .ok (.iinc 8 (-1), 3) := by decide +kernel
theorem dX12_run_193 : decode cX12_run 193 = .ok (.goto (-104), 3) := by decide +kernel
theorem dX12_run_196 : decode cX12_run 196 = .ok (.iload_n 2, 1) := by decide +kernel
theorem dX12_run_197 : decode cX12_run 197 = .ok (.aload_n 0, 1) := by decide +kernel
theorem dX12_run_198 : decode cX12_run 198 = .ok (.getfield 185, 3) := by decide +kernel
theorem dX12_run_201 : decode cX12_run 201 = .ok (.idiv, 1) := by decide +kernel
theorem dX12_run_202 : decode cX12_run 202 = .ok (.iload 6, 2) := by decide +kernel
theorem dX12_run_204 : decode cX12_run 204 = .ok (.if_icmp .ne 16, 3) := by decide +kernel
theorem dX12_run_207 : decode cX12_run 207 = .ok (.aload_n 0, 1) := by decide +kernel
theorem dX12_run_208 : decode cX12_run 208 = .ok (.iload 7, 2) := by decide +kernel
theorem dX12_run_210 : decode cX12_run 210 = .ok (.iload_n 2, 1) := by decide +kernel
theorem dX12_run_211 : decode cX12_run 211 = .ok (.aload_n 0, 1) := by decide +kernel
theorem dX12_run_212 : decode cX12_run 212 = .ok (.getfield 185, 3) := by decide +kernel
theorem dX12_run_215 : decode cX12_run 215 = .ok (.irem, 1) := by decide +kernel
theorem dX12_run_216 : decode cX12_run 216 = .ok (.invokevirtual 291, 3) := by decide +kernel
theorem dX12_run_219 : decode cX12_run 219 = .ok (.ireturn, 1) := by decide +kernel
theorem dX12_run_220 : decode cX12_run 220 = .ok (.iload 5, 2) := by decide +kernel
theorem dX12_run_222 : decode cX12_run 222 = .ok (.aload_n 0, 1) := by decide +kernel
theorem dX12_run_223 : decode cX12_run 223 = .ok (.getfield 245, 3) := by decide +kernel
theorem dX12_run_226 : decode cX12_run 226 = .ok (.imul, 1) := by decide +kernel
theorem dX12_run_227 : decode cX12_run 227 = .ok (.aload_n 0, 1) := by decide +kernel
theorem dX12_run_228 : decode cX12_run 228 = .ok (.iload 7, 2) := by decide +kernel
theorem dX12_run_230 : decode cX12_run 230 = .ok (.invokevirtual 317, 3) := by decide +kernel
theorem dX12_run_233 : decode cX12_run 233 = .ok (.iadd, 1) := by decide +kernel
theorem dX12_run_234 : decode cX12_run 234 = .ok (.istore 5, 2) := by decide +kernel
theorem dX12_run_236 : decode cX12_run 236 = .ok (.iinc 6 1, 3) := by decide +kernel
theorem dX12_run_239 : decode cX12_run 239 = .ok (.goto (-173), 3) := by decide +kernel
theorem dX12_run_242 : decode cX12_run 242 = .ok (.iconst (-1), 1) := by decide +kernel
theorem dX12_run_243 : decode cX12_run 243 = .ok (.ireturn, 1) := by decide +kernel
theorem dX12_evenly_0 : decode cX12_evenly 0 = .ok (.aload_n 0, 1) := by decide +kernel
theorem dX12_evenly_1 : decode cX12_evenly 1 = .ok (.iconst 0, 1) := by decide +kernel
theorem dX12_evenly_2 : decode cX12_evenly 2 = .ok (.putfield 132, 3) := by decide +kernel
theorem dX12_evenly_5 : decode cX12_evenly 5 = .ok (.iload_n 1, 1) := by decide +kernel
theorem dX12_evenly_6 : decode cX12_evenly 6 = .ok (.ifCond .lt 19, 3) := by decide +kernel
theorem dX12_evenly_9 : decode cX12_evenly 9 = .ok (.iload_n 2, 1) := by decide +kernel
theorem dX12_evenly_10 : decode cX12_evenly 10 = .ok (.iconst 0, 1) := by decide +kernel
theorem dX12_evenly_11 : decode cX12_evenly 11 = .ok (.iconst 2, 1) := by decide +kernel
theorem dX12_evenly_12 : decode cX12_evenly 12 = .ok (.invokestatic 237, 3) := by decide +kernel
theorem dX12_evenly_15 : decode cX12_evenly 15 = .ok (.ifCond .eq 10, 3) := by decide +kernel
theorem dX12_evenly_18 : decode cX12_evenly 18 = .ok (.aload_n 0, 1) := by decide +kernel
theorem dX12_evenly_19 : decode cX12_evenly 19 = .ok (.getfield 251, 3) := by decide +kernel
theorem dX12_evenly_22 : decode cX12_evenly 22 = .ok (.ifCond .ne 5, 3) := by decide +kernel
theorem dX12_evenly_25 : decode cX12_evenly 25 = .ok (.iconst (-1), 1) := by decide +kernel
theorem dX12_evenly_26 : decode cX12_evenly 26 = .ok (.ireturn, 1) := by decide +kernel
theorem dX12_evenly_27 : decode cX12_evenly 27 = .ok (.ldc2_w 408, 3) := by decide +kernel
theorem dX12_evenly_30 : decode cX12_evenly 30 = .ok (.ldc2_w 408, 3) := by decide +kernel
theorem dX12_evenly_33 : decode cX12_evenly 33 = .ok (.aload_n 0, 1) := by decide +kernel
theorem dX12_evenly_34 : decode cX12_evenly 34 = .ok (.getfield 251, 3) := by decide +kernel
theorem dX12_evenly_37 : decode cX12_evenly 37 = .ok (.i2l, 1) := by decide +kernel
theorem dX12_evenly_38 : decode cX12_evenly 38 = .ok (.lrem, 1) := by decide +kernel
theorem dX12_evenly_39 : decode cX12_evenly 39 = .ok (.lsub, 1) := by decide +kernel
theorem dX12_evenly_40 : decode cX12_evenly 40 = .ok (.lstore_n 3, 1) := by decide +kernel
theorem dX12_evenly_41 : decode cX12_evenly 41 = .ok (.iload_n 1, 1) := by decide +kernel
theorem dX12_evenly_42 : decode cX12_evenly 42 = .ok (.i2l, 1) := by decide +kernel
theorem dX12_evenly_43 : decode cX12_evenly 43 = .ok (.invokestatic 402, 3) := by decide +kernel
theorem dX12_evenly_46 : decode cX12_evenly 46 = .ok (.lstore 5, 2) := by decide +kernel
theorem dX12_evenly_48 : decode cX12_evenly 48 = .ok (.iconst 1, 1) := by decide +kernel
theorem dX12_evenly_49 : decode cX12_evenly 49 = .ok (.istore 7, 2) := by decide +kernel
theorem dX12_evenly_51 : decode cX12_evenly 51 = .ok (.lload 5, 2) := by decide +kernel
theorem dX12_evenly_53 : decode cX12_evenly 53 = .ok (.lload_n 3, 1) := by decide +kernel
theorem dX12_evenly_54 : decode cX12_evenly 54 = .ok (.lcmp, 1) := by decide +kernel
theorem dX12_evenly_55 : decode cX12_evenly 55 = .ok (.ifCond .lt 16, 3) := by decide +kernel
theorem dX12_evenly_58 : decode cX12_evenly 58 = .ok (.lload 5, 2) := by decide +kernel
theorem dX12_evenly_60 : decode cX12_evenly 60 = .ok (.invokestatic 402, 3) := by decide +kernel
theorem dX12_evenly_63 : decode cX12_evenly 63 = .ok (.lstore 5, 2) := by decide +kernel
theorem dX12_evenly_65 : decode cX12_evenly 65 = .ok (.iinc 7 1, 3) := by decide +kernel
theorem dX12_evenly_68 : decode cX12_evenly 68 = .ok (.goto (-17), 3) := by decide +kernel
theorem dX12_evenly_71 : decode cX12_evenly 71 = .ok (.iload_n 2, 1) := by decide +kernel
theorem dX12_evenly_72 : decode cX12_evenly 72 = .ok (.ifCond .ne 15, 3) := by decide +kernel
theorem dX12_evenly_75 : decode cX12_evenly 75 = .ok (.lload 5, 2) := by decide +kernel
theorem dX12_evenly_77 : decode cX12_evenly 77 = .ok (.aload_n 0, 1) := by decide +kernel
theorem dX12_evenly_78 : decode cX12_evenly 78 = .ok (.getfield 251, 3) := by decide +kernel
theorem dX12_evenly_81 : decode cX12_evenly 81 = .ok (.i2l, 1) := by decide +kernel
theorem dX12_evenly_82 : decode cX12_evenly 82 = .ok (.lrem, 1) := by decide +kernel
theorem dX12_evenly_83 : decode cX12_evenly 83 = .ok (.l2i, 1) := by decide +kernel
theorem dX12_evenly_84 : decode cX12_evenly 84 = .ok (.goto 16, 3) := by decide +kernel
theorem dX12_evenly_87 : decode cX12_evenly 87 = .ok (.iload_n 2, 1) := by decide +kernel
theorem dX12_evenly_88 : decode cX12_evenly 88 = .ok (.iconst 1, 1) := by decide +kernel
theorem dX12_evenly_89 : decode cX12_evenly 89 = .ok (.if_icmp .ne 8, 3) := by decide +kernel
theorem dX12_evenly_92 : decode cX12_evenly 92 = .ok (.iload 7, 2) := by decide +kernel
theorem dX12_evenly_94 : decode cX12_evenly 94 = .ok (.goto 6, 3) := by decide +kernel
theorem dX12_evenly_97 : decode cX12_evenly 97 = .ok (.lload 5, 2) := by decide +kernel
theorem dX12_evenly_99 : decode cX12_evenly 99 = .ok (.l2i, 1) := by decide +kernel
theorem dX12_evenly_100 : decode cX12_evenly 100 = .ok (.ireturn, 1) := by decide +kernel
theorem dX12_fails_0 : decode cX12_fails 0 = .ok (.aload_n 0, 1) := by decide +kernel
theorem dX12_fails_1 : decode cX12_fails 1 = .ok (.iload_n 1, 1) := by decide +kernel
theorem dX12_fails_2 : decode cX12_fails 2 = .ok (.putfield 132, 3) := by decide +kernel
theorem dX12_fails_5 : decode cX12_fails 5 = .ok (.iconst 0, 1) := by decide +kernel
theorem dX12_fails_6 : decode cX12_fails 6 = .ok (.ireturn, 1) := by decide +kernel
theorem dX12_look_0 : decode cX12_look 0 = .ok (.aload_n 0, 1) := by decide +kernel
theorem dX12_look_1 : decode cX12_look 1 = .ok (.iconst 0, 1) := by decide +kernel
theorem dX12_look_2 : decode cX12_look 2 = .ok (.putfield 132, 3) := by decide +kernel
theorem dX12_look_5 : decode cX12_look 5 = .ok (.aload_n 0, 1) := by decide +kernel
theorem dX12_look_6 : decode cX12_look 6 = .ok (.iload_n 1, 1) := by decide +kernel
theorem dX12_look_7 : decode cX12_look 7 = .ok (.invokevirtual 269, 3) := by decide +kernel
theorem dX12_look_10 : decode cX12_look 10 = .ok (.ifCond .ne 9, 3) := by decide +kernel
theorem dX12_look_13 : decode cX12_look 13 = .ok (.aload_n 0, 1) := by decide +kernel
theorem dX12_look_14 : decode cX12_look 14 = .ok (.iconst 1, 1) := by decide +kernel
theorem dX12_look_15 : decode cX12_look 15 = .ok (.invokevirtual 410, 3) := by decide +kernel
theorem dX12_look_18 : decode cX12_look 18 = .ok (.ireturn, 1) := by decide +kernel
theorem dX12_look_19 : decode cX12_look 19 = .ok (.iload_n 2, 1) := by decide +kernel
theorem dX12_look_20 : decode cX12_look 20 = .ok (.iconst 0, 1) := by decide +kernel
theorem dX12_look_21 : decode cX12_look 21 = .ok (.iconst 1, 1) := by decide +kernel
theorem dX12_look_22 : decode cX12_look 22 = .ok (.invokestatic 237, 3) := by decide +kernel
theorem dX12_look_25 : decode cX12_look 25 = .ok (.ifCond .ne 9, 3) := by decide +kernel
theorem dX12_look_28 : decode cX12_look 28 = .ok (.aload_n 0, 1) := by decide +kernel
theorem dX12_look_29 : decode cX12_look 29 = .ok (.iconst 2, 1) := by decide +kernel
theorem dX12_look_30 : decode cX12_look 30 = .ok (.invokevirtual 410, 3) := by decide +kernel
theorem dX12_look_33 : decode cX12_look 33 = .ok (.ireturn, 1) := by decide +kernel
theorem dX12_look_34 : decode cX12_look 34 = .ok (.iconst 0, 1) := by decide +kernel
theorem dX12_look_35 : decode cX12_look 35 = .ok (.istore_n 3, 1) := by decide +kernel
theorem dX12_look_36 : decode cX12_look 36 = .ok (.iconst 0, 1) := by decide +kernel
theorem dX12_look_37 : decode cX12_look 37 = .ok (.istore 4, 2) := by decide +kernel
theorem dX12_look_39 : decode cX12_look 39 = .ok (.iload 4, 2) := by decide +kernel
theorem dX12_look_41 : decode cX12_look 41 = .ok (.aload_n 0, 1) := by decide +kernel
theorem dX12_look_42 : decode cX12_look 42 = .ok (.getfield 222, 3) := by decide +kernel
theorem dX12_look_45 : decode cX12_look 45 = .ok (.if_icmp .ge 26, 3) := by decide +kernel
theorem dX12_look_48 : decode cX12_look 48 = .ok (.iload_n 3, 1) := by decide +kernel
theorem dX12_look_49 : decode cX12_look 49 = .ok (.aload_n 0, 1) := by decide +kernel
theorem dX12_look_50 : decode cX12_look 50 = .ok (.getfield 26, 3) := by decide +kernel
theorem dX12_look_53 : decode cX12_look 53 = .ok (.iload 4, 2) := by decide +kernel
theorem dX12_look_55 : decode cX12_look 55 = .ok (.iaload, 1) := by decide +kernel
theorem dX12_look_56 : decode cX12_look 56 = .ok (.iload_n 1, 1) := by decide +kernel
theorem dX12_look_57 : decode cX12_look 57 = .ok (.ishr, 1) := by decide +kernel
theorem dX12_look_58 : decode cX12_look 58 = .ok (.iconst 1, 1) := by decide +kernel
theorem dX12_look_59 : decode cX12_look 59 = .ok (.iand, 1) := by decide +kernel
theorem dX12_look_60 : decode cX12_look 60 = .ok (.iload 4, 2) := by decide +kernel
theorem dX12_look_62 : decode cX12_look 62 = .ok (.ishl, 1) := by decide +kernel
theorem dX12_look_63 : decode cX12_look 63 = .ok (.ior, 1) := by decide +kernel
theorem dX12_look_64 : decode cX12_look 64 = .ok (.istore_n 3, 1) := by decide +kernel
theorem dX12_look_65 : decode cX12_look 65 = .ok (.iinc 4 1, 3) := by decide +kernel
theorem dX12_look_68 : decode cX12_look 68 = .ok (.goto (-29), 3) := by decide +kernel
theorem dX12_look_71 : decode cX12_look 71 = .ok (.iload_n 2, 1) := by decide +kernel
theorem dX12_look_72 : decode cX12_look 72 = .ok (.ifCond .ne 12, 3) := by decide +kernel
theorem dX12_look_75 : decode cX12_look 75 = .ok (.iload_n 1, 1) := by decide +kernel
theorem dX12_look_76 : decode cX12_look 76 = .ok (.aload_n 0, 1) := by decide +kernel
theorem dX12_look_77 : decode cX12_look 77 = .ok (.getfield 185, 3) := by decide +kernel
theorem dX12_look_80 : decode cX12_look 80 = .ok (.idiv, 1) := by decide +kernel
theorem dX12_look_81 : decode cX12_look 81 = .ok (.goto 4, 3) := by decide +kernel
theorem dX12_look_84 : decode cX12_look 84 = .ok (.iload_n 3, 1) := by decide +kernel
theorem dX12_look_85 : decode cX12_look 85 = .ok (.ireturn, 1) := by decide +kernel
theorem dX12_count_0 : decode cX12_count 0 = .ok (.aload_n 0, 1) := by decide +kernel
theorem dX12_count_1 : decode cX12_count 1 = .ok (.iconst 0, 1) := by decide +kernel
theorem dX12_count_2 : decode cX12_count 2 = .ok (.putfield 132, 3) := by decide +kernel
theorem dX12_count_5 : decode cX12_count 5 = .ok (.iload_n 1, 1) := by decide +kernel
theorem dX12_count_6 : decode cX12_count 6 = .ok (.tableswitch 77 0 6 #[42, 47, 52, 57, 62, 67, 72], 42) := by decide +kernel
theorem dX12_count_48 : decode cX12_count 48 = .ok (.aload_n 0, 1) := by decide +kernel
theorem dX12_count_49 : decode cX12_count 49 = .ok (.getfield 185, 3) := by decide +kernel
theorem dX12_count_52 : decode cX12_count 52 = .ok (.ireturn, 1) := by decide +kernel
theorem dX12_count_53 : decode cX12_count 53 = .ok (.aload_n 0, 1) := by decide +kernel
theorem dX12_count_54 : decode cX12_count 54 = .ok (.getfield 188, 3) := by decide +kernel
theorem dX12_count_57 : decode cX12_count 57 = .ok (.ireturn, 1) := by decide +kernel
theorem dX12_count_58 : decode cX12_count 58 = .ok (.aload_n 0, 1) := by decide +kernel
theorem dX12_count_59 : decode cX12_count 59 = .ok (.invokevirtual 241, 3) := by decide +kernel
theorem dX12_count_62 : decode cX12_count 62 = .ok (.ireturn, 1) := by decide +kernel
theorem dX12_count_63 : decode cX12_count 63 = .ok (.aload_n 0, 1) := by decide +kernel
theorem dX12_count_64 : decode cX12_count 64 = .ok (.getfield 222, 3) := by decide +kernel
theorem dX12_count_67 : decode cX12_count 67 = .ok (.ireturn, 1) := by decide +kernel
theorem dX12_count_68 : decode cX12_count 68 = .ok (.aload_n 0, 1) := by decide +kernel
theorem dX12_count_69 : decode cX12_count 69 = .ok (.getfield 225, 3) := by decide +kernel
theorem dX12_count_72 : decode cX12_count 72 = .ok (.ireturn, 1) := by decide +kernel
theorem dX12_count_73 : decode cX12_count 73 = .ok (.aload_n 0, 1) := by decide +kernel
theorem dX12_count_74 : decode cX12_count 74 = .ok (.getfield 234, 3) := by decide +kernel
theorem dX12_count_77 : decode cX12_count 77 = .ok (.ireturn, 1) := by decide +kernel
theorem dX12_count_78 : decode cX12_count 78 = .ok (.aload_n 0, 1) := by decide +kernel
theorem dX12_count_79 : decode cX12_count 79 = .ok (.getfield 248, 3) := by decide +kernel
theorem dX12_count_82 : decode cX12_count 82 = .ok (.ireturn, 1) := by decide +kernel
theorem dX12_count_83 : decode cX12_count 83 = .ok (.iconst (-1), 1) := by decide +kernel
theorem dX12_count_84 : decode cX12_count 84 = .ok (.ireturn, 1) := by decide +kernel
abbrev vwCl : List vw_C := [(RJ0, TJ0, 4), (RJ4, TJ4, 4), (RJx00060, TJx00060, 6), (RX0, TX0, 5), (RX1, TX1, 4), (RX2, TX2, 10), (RX3, TX3, 11), (RX4, TX4, 9), (RX5, TX5, 9), (RX6, TX6, 10), (RX7, TX7, 6), (RX8, TX8, 8), (RX9, TX9, 10), (RX10, TX10, 5), (RX11, TX11, 18), (RX12, TX12, 66)]
