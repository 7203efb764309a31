theorem dX12_layRows_47 : decode cX12_layRows 47 = .ok (.isub, 1) := by decide +kernel
theorem dX12_layRows_48 : decode cX12_layRows 48 = .ok (.istore 5, 2) := by decide +kernel
theorem dX12_layRows_50 : decode cX12_layRows 50 = .ok (.iload 5, 2) := by decide +kernel
theorem dX12_layRows_52 : decode cX12_layRows 52 = .ok (.ifCond .lt 51, 3) := by decide +kernel
theorem dX12_layRows_55 : decode cX12_layRows 55 = .ok (.aload_n 0, 1) := by decide +kernel
theorem dX12_layRows_56 : decode cX12_layRows 56 = .ok (.getfield 44, 3) := by decide +kernel
theorem dX12_layRows_59 : decode cX12_layRows 59 = .ok (.iconst 4, 1) := by decide +kernel
theorem dX12_layRows_60 : decode cX12_layRows 60 = .ok (.aload_n 0, 1) := by decide +kernel
theorem dX12_layRows_61 : decode cX12_layRows 61 = .ok (.getfield 245, 3) := by decide +kernel
theorem dX12_layRows_64 : decode cX12_layRows 64 = .ok (.imul, 1) := by decide +kernel
theorem dX12_layRows_65 : decode cX12_layRows 65 = .ok (.iload 5, 2) := by decide +kernel
theorem dX12_layRows_67 : decode cX12_layRows 67 = .ok (.iadd, 1) := by decide +kernel
theorem dX12_layRows_68 : decode cX12_layRows 68 = .ok (.iload 4, 2) := by decide +kernel
theorem dX12_layRows_70 : decode cX12_layRows 70 = .ok (.aload_n 0, 1) := by decide +kernel
theorem dX12_layRows_71 : decode cX12_layRows 71 = .ok (.getfield 185, 3) := by decide +kernel
theorem dX12_layRows_74 : decode cX12_layRows 74 = .ok (.irem, 1) := by decide +kernel
theorem dX12_layRows_75 : decode cX12_layRows 75 = .ok (.iastore, 1) := by decide +kernel
theorem dX12_layRows_76 : decode cX12_layRows 76 = .ok (.iload_n 3, 1) := by decide +kernel
theorem dX12_layRows_77 : decode cX12_layRows 77 = .ok (.iconst 1, 1) := by decide +kernel
theorem dX12_layRows_78 : decode cX12_layRows 78 = .ok (.iload 4, 2) := by decide +kernel
theorem dX12_layRows_80 : decode cX12_layRows 80 = .ok (.aload_n 0, 1) := by decide +kernel
theorem dX12_layRows_81 : decode cX12_layRows 81 = .ok (.getfield 185, 3) := by decide +kernel
theorem dX12_layRows_84 : decode cX12_layRows 84 = .ok (.irem, 1) := by decide +kernel
theorem dX12_layRows_85 : decode cX12_layRows 85 = .ok (.ishl, 1) := by decide +kernel
theorem dX12_layRows_86 : decode cX12_layRows 86 = .ok (.ior, 1) := by decide +kernel
theorem dX12_layRows_87 : decode cX12_layRows 87 = .ok (.istore_n 3, 1) := by decide +kernel
theorem dX12_layRows_88 : decode cX12_layRows 88 = .ok (.iload 4, 2) := by decide +kernel
theorem dX12_layRows_90 : decode cX12_layRows 90 = .ok (.aload_n 0, 1) := by decide +kernel
theorem dX12_layRows_91 : decode cX12_layRows 91 = .ok (.getfield 185, 3) := by decide +kernel
theorem dX12_layRows_94 : decode cX12_layRows 94 = .ok (.idiv, 1) := by decide +kernel
theorem dX12_layRows_95 : decode cX12_layRows 95 = .ok (.istore 4, 2) := by decide +kernel
theorem dX12_layRows_97 : decode cX12_layRows 97 = .ok (.iinc 5 (-1), 3) := by decide +kernel
theorem dX12_layRows_100 : decode cX12_layRows 100 = .ok (.goto (-50), 3) := by decide +kernel
theorem dX12_layRows_103 : decode cX12_layRows 103 = .ok (.iload_n 3, 1) := by decide +kernel
theorem dX12_layRows_104 : decode cX12_layRows 104 = .ok (.iconst 1, 1) := by decide +kernel
theorem dX12_layRows_105 : decode cX12_layRows 105 = .ok (.aload_n 0, 1) := by decide +kernel
theorem dX12_layRows_106 : decode cX12_layRows 106 = .ok (.getfield 185, 3) := by decide +kernel
theorem dX12_layRows_109 : decode cX12_layRows 109 = .ok (.ishl, 1) := by decide +kernel
theorem dX12_layRows_110 : decode cX12_layRows 110 = .ok (.iconst 1, 1) := by decide +kernel
theorem dX12_layRows_111 : decode cX12_layRows 111 = .ok (.isub, 1) := by decide +kernel
theorem dX12_layRows_112 : decode cX12_layRows 112 = .ok (.if_icmp .ne 13, 3) := by decide +kernel
theorem dX12_layRows_115 : decode cX12_layRows 115 = .ok (.aload_n 0, 1) := by decide +kernel
theorem dX12_layRows_116 : decode cX12_layRows 116 = .ok (.dup, 1) := by decide +kernel
theorem dX12_layRows_117 : decode cX12_layRows 117 = .ok (.getfield 245, 3) := by decide +kernel
theorem dX12_layRows_120 : decode cX12_layRows 120 = .ok (.iconst 1, 1) := by decide +kernel
theorem dX12_layRows_121 : decode cX12_layRows 121 = .ok (.iadd, 1) := by decide +kernel
theorem dX12_layRows_122 : decode cX12_layRows 122 = .ok (.putfield 245, 3) := by decide +kernel
theorem dX12_layRows_125 : decode cX12_layRows 125 = .ok (.iinc 2 1, 3) := by decide +kernel
theorem dX12_layRows_128 : decode cX12_layRows 128 = .ok (.goto (-96), 3) := by decide +kernel
theorem dX12_layRows_131 : decode cX12_layRows 131 = .ok (.return_, 1) := by decide +kernel
theorem dX12_rankIn_0 : decode cX12_rankIn 0 = .ok (.iload_n 1, 1) := by decide +kernel
theorem dX12_rankIn_1 : decode cX12_rankIn 1 = .ok (.istore_n 3, 1) := by decide +kernel
theorem dX12_rankIn_2 : decode cX12_rankIn 2 = .ok (.aload_n 0, 1) := by decide +kernel
theorem dX12_rankIn_3 : decode cX12_rankIn 3 = .ok (.getfield 188, 3) := by decide +kernel
theorem dX12_rankIn_6 : decode cX12_rankIn 6 = .ok (.iconst 1, 1) := by decide +kernel
theorem dX12_rankIn_7 : decode cX12_rankIn 7 = .ok (.isub, 1) := by decide +kernel
theorem dX12_rankIn_8 : decode cX12_rankIn 8 = .ok (.istore 4, 2) := by decide +kernel
theorem dX12_rankIn_10 : decode cX12_rankIn 10 = .ok (.iload 4, 2) := by decide +kernel
theorem dX12_rankIn_12 : decode cX12_rankIn 12 = .ok (.iload_n 2, 1) := by decide +kernel
theorem dX12_rankIn_13 : decode cX12_rankIn 13 = .ok (.if_icmp .le 16, 3) := by decide +kernel
theorem dX12_rankIn_16 : decode cX12_rankIn 16 = .ok (.iload_n 3, 1) := by decide +kernel
theorem dX12_rankIn_17 : decode cX12_rankIn 17 = .ok (.aload_n 0, 1) := by decide +kernel
theorem dX12_rankIn_18 : decode cX12_rankIn 18 = .ok (.getfield 245, 3) := by decide +kernel
theorem dX12_rankIn_21 : decode cX12_rankIn 21 = .ok (.idiv, 1) := by decide +kernel
theorem dX12_rankIn_22 : decode cX12_rankIn 22 = .ok (.istore_n 3, 1) := by decide +kernel
theorem dX12_rankIn_23 : decode cX12_rankIn 23 = .ok (.iinc 4 (-1), 3) := by decide +kernel
theorem dX12_rankIn_26 : decode cX12_rankIn 26 = .ok (.goto (-16), 3) := by decide +kernel
theorem dX12_rankIn_29 : decode cX12_rankIn 29 = .ok (.iload_n 3, 1) := by decide +kernel
theorem dX12_rankIn_30 : decode cX12_rankIn 30 = .ok (.aload_n 0, 1) := by decide +kernel
theorem dX12_rankIn_31 : decode cX12_rankIn 31 = .ok (.getfield 245, 3) := by decide +kernel
theorem dX12_rankIn_34 : decode cX12_rankIn 34 = .ok (.irem, 1) := by decide +kernel
theorem dX12_rankIn_35 : decode cX12_rankIn 35 = .ok (.ireturn, 1) := by decide +kernel
theorem dX12_layDraws_0 : decode cX12_layDraws 0 = .ok (.aload_n 0, 1) := by decide +kernel
theorem dX12_layDraws_1 : decode cX12_layDraws 1 = .ok (.iconst 1, 1) := by decide +kernel
theorem dX12_layDraws_2 : decode cX12_layDraws 2 = .ok (.putfield 248, 3) := by decide +kernel
theorem dX12_layDraws_5 : decode cX12_layDraws 5 = .ok (.iconst 0, 1) := by decide +kernel
theorem dX12_layDraws_6 : decode cX12_layDraws 6 = .ok (.istore_n 1, 1) := by decide +kernel
theorem dX12_layDraws_7 : decode cX12_layDraws 7 = .ok (.iload_n 1, 1) := by decide +kernel
theorem dX12_layDraws_8 : decode cX12_layDraws 8 = .ok (.aload_n 0, 1) := by decide +kernel
theorem dX12_layDraws_9 : decode cX12_layDraws 9 = .ok (.getfield 188, 3) := by decide +kernel
theorem dX12_layDraws_12 : decode cX12_layDraws 12 = .ok (.if_icmp .ge 22, 3) := by decide +kernel
theorem dX12_layDraws_15 : decode cX12_layDraws 15 = .ok (.aload_n 0, 1) := by decide +kernel
theorem dX12_layDraws_16 : decode cX12_layDraws 16 = .ok (.dup, 1) := by decide +kernel
theorem dX12_layDraws_17 : decode cX12_layDraws 17 = .ok (.getfield 248, 3) := by decide +kernel
theorem dX12_layDraws_20 : decode cX12_layDraws 20 = .ok (.aload_n 0, 1) := by decide +kernel
theorem dX12_layDraws_21 : decode cX12_layDraws 21 = .ok (.getfield 245, 3) := by decide +kernel
theorem dX12_layDraws_24 : decode cX12_layDraws 24 = .ok (.imul, 1) := by decide +kernel
theorem dX12_layDraws_25 : decode cX12_layDraws 25 = .ok (.putfield 248, 3) := by decide +kernel
theorem dX12_layDraws_28 : decode cX12_layDraws 28 = .ok (.iinc 1 1, 3) := by decide +kernel
theorem dX12_layDraws_31 : decode cX12_layDraws 31 = .ok (.goto (-24), 3) := by decide +kernel
theorem dX12_layDraws_34 : decode cX12_layDraws 34 = .ok (.aload_n 0, 1) := by decide +kernel
theorem dX12_layDraws_35 : decode cX12_layDraws 35 = .ok (.iconst 0, 1) := by decide +kernel
theorem dX12_layDraws_36 : decode cX12_layDraws 36 = .ok (.putfield 251, 3) := by decide +kernel
theorem dX12_layDraws_39 : decode cX12_layDraws 39 = .ok (.iconst 0, 1) := by decide +kernel
theorem dX12_layDraws_40 : decode cX12_layDraws 40 = .ok (.istore_n 1, 1) := by decide +kernel
theorem dX12_layDraws_41 : decode cX12_layDraws 41 = .ok (.iload_n 1, 1) := by decide +kernel
theorem dX12_layDraws_42 : decode cX12_layDraws 42 = .ok (.aload_n 0, 1) := by decide +kernel
theorem dX12_layDraws_43 : decode cX12_layDraws 43 = .ok (.getfield 248, 3) := by decide +kernel
theorem dX12_layDraws_46 : decode cX12_layDraws 46 = .ok (.if_icmp .ge 151, 3) := by decide +kernel
theorem dX12_layDraws_49 : decode cX12_layDraws 49 = .ok (.iconst 0, 1) := by decide +kernel
theorem dX12_layDraws_50 : decode cX12_layDraws 50 = .ok (.istore_n 2, 1) := by decide +kernel
theorem dX12_layDraws_51 : decode cX12_layDraws 51 = .ok (.iload_n 2, 1) := by decide +kernel
theorem dX12_layDraws_52 : decode cX12_layDraws 52 = .ok (.aload_n 0, 1) := by decide +kernel
theorem dX12_layDraws_53 : decode cX12_layDraws 53 = .ok (.getfield 188, 3) := by decide +kernel
theorem dX12_layDraws_56 : decode cX12_layDraws 56 = .ok (.if_icmp .ge 65, 3) := by decide +kernel
theorem dX12_layDraws_59 : decode cX12_layDraws 59 = .ok (.aload_n 0, 1) := by decide +kernel
theorem dX12_layDraws_60 : decode cX12_layDraws 60 = .ok (.iload_n 1, 1) := by decide +kernel
theorem dX12_layDraws_61 : decode cX12_layDraws 61 = .ok (.iload_n 2, 1) := by decide +kernel
theorem dX12_layDraws_62 : decode cX12_layDraws 62 = .ok (.invokevirtual 254, 3) := by decide +kernel
theorem dX12_layDraws_65 : decode cX12_layDraws 65 = .ok (.istore_n 3, 1) := by decide +kernel
theorem dX12_layDraws_66 : decode cX12_layDraws 66 = .ok (.iconst 0, 1) := by decide +kernel
theorem dX12_layDraws_67 : decode cX12_layDraws 67 = .ok (.istore 4, 2) := by decide +kernel
theorem dX12_layDraws_69 : decode cX12_layDraws 69 = .ok (.iload 4, 2) := by decide +kernel
theorem dX12_layDraws_71 : decode cX12_layDraws 71 = .ok (.aload_n 0, 1) := by decide +kernel
theorem dX12_layDraws_72 : decode cX12_layDraws 72 = .ok (.getfield 185, 3) := by decide +kernel
theorem dX12_layDraws_75 : decode cX12_layDraws 75 = .ok (.if_icmp .ge 40, 3) := by decide +kernel
theorem dX12_layDraws_78 : decode cX12_layDraws 78 = .ok (.aload_n 0, 1) := by decide +kernel
theorem dX12_layDraws_79 : decode cX12_layDraws 79 = .ok (.getfield 51, 3) := by decide +kernel
theorem dX12_layDraws_82 : decode cX12_layDraws 82 = .ok (.bipush 12, 2) := by decide +kernel
theorem dX12_layDraws_84 : decode cX12_layDraws 84 = .ok (.iload_n 1, 1) := by decide +kernel
theorem dX12_layDraws_85 : decode cX12_layDraws 85 = .ok (.imul, 1) := by decide +kernel
theorem dX12_layDraws_86 : decode cX12_layDraws 86 = .ok (.iload_n 2, 1) := by decide +kernel
theorem dX12_layDraws_87 : decode cX12_layDraws 87 = .ok (.aload_n 0, 1) := by decide +kernel
theorem dX12_layDraws_88 : decode cX12_layDraws 88 = .ok (.getfield 185, 3) := by decide +kernel
theorem dX12_layDraws_91 : decode cX12_layDraws 91 = .ok (.imul, 1) := by decide +kernel
theorem dX12_layDraws_92 : decode cX12_layDraws 92 = .ok (.iadd, 1) := by decide +kernel
theorem dX12_layDraws_93 : decode cX12_layDraws 93 = .ok (.iload 4, 2) := by decide +kernel
theorem dX12_layDraws_95 : decode cX12_layDraws 95 = .ok (.iadd, 1) := by decide +kernel
theorem dX12_layDraws_96 : decode cX12_layDraws 96 = .ok (.aload_n 0, 1) := by decide +kernel
theorem dX12_layDraws_97 : decode cX12_layDraws 97 = .ok (.getfield 44, 3) := by decide +kernel
theorem dX12_layDraws_100 : decode cX12_layDraws 100 = .ok (.iconst 4, 1) := by decide +kernel
theorem dX12_layDraws_101 : decode cX12_layDraws 101 = .ok (.iload_n 3, 1) := by decide +kernel
theorem dX12_layDraws_102 : decode cX12_layDraws 102 = .ok (.imul, 1) := by decide +kernel
theorem dX12_layDraws_103 : decode cX12_layDraws 103 = .ok (.iload 4, 2) := by decide +kernel
theorem dX12_layDraws_105 : decode cX12_layDraws 105 = .ok (.iadd, 1) := by decide +kernel
theorem dX12_layDraws_106 : decode cX12_layDraws 106 = .ok (.iaload, 1) := by decide +kernel
theorem dX12_layDraws_107 : decode cX12_layDraws 107 = .ok (.i2b, 1) := by decide +kernel
theorem dX12_layDraws_108 : decode cX12_layDraws 108 = .ok (.bastore, 1) := by decide +kernel
theorem dX12_layDraws_109 : decode cX12_layDraws 109 = .ok (.iinc 4 1, 3) := by decide +kernel
theorem dX12_layDraws_112 : decode cX12_layDraws 112 = .ok (.goto (-43), 3) := by decide +kernel
theorem dX12_layDraws_115 : decode cX12_layDraws 115 = .ok (.iinc 2 1, 3) := by decide +kernel
theorem dX12_layDraws_118 : decode cX12_layDraws 118 = .ok (.goto (-67), 3) := by decide +kernel
theorem dX12_layDraws_121 : decode cX12_layDraws 121 = .ok (.aload_n 0, 1) := by decide +kernel
theorem dX12_layDraws_122 : decode cX12_layDraws 122 = .ok (.getfield 47, 3) := by decide +kernel
theorem dX12_layDraws_125 : decode cX12_layDraws 125 = .ok (.iload_n 1, 1) := by decide +kernel
theorem dX12_layDraws_126 : decode cX12_layDraws 126 = .ok (.iconst 0, 1) := by decide +kernel
theorem dX12_layDraws_127 : decode cX12_layDraws 127 = .ok (.iastore, 1) := by decide +kernel
theorem dX12_layDraws_128 : decode cX12_layDraws 128 = .ok (.iconst 0, 1) := by decide +kernel
theorem dX12_layDraws_129 : decode cX12_layDraws 129 = .ok (.istore_n 2, 1) := by decide +kernel
theorem dX12_layDraws_130 : decode cX12_layDraws 130 = .ok (.iload_n 2, 1) := by decide +kernel
theorem dX12_layDraws_131 : decode cX12_layDraws 131 = .ok (.aload_n 0, 1) := by decide +kernel
theorem dX12_layDraws_132 : decode cX12_layDraws 132 = .ok (.getfield 225, 3) := by decide +kernel
theorem dX12_layDraws_135 : decode cX12_layDraws 135 = .ok (.if_icmp .ge 33, 3) := by decide +kernel
theorem dX12_layDraws_138 : decode cX12_layDraws 138 = .ok (.aload_n 0, 1) := by decide +kernel
theorem dX12_layDraws_139 : decode cX12_layDraws 139 = .ok (.iload_n 2, 1) := by decide +kernel
theorem dX12_layDraws_140 : decode cX12_layDraws 140 = .ok (.bipush 12, 2) := by decide +kernel
theorem dX12_layDraws_142 : decode cX12_layDraws 142 = .ok (.iload_n 1, 1) := by decide +kernel
theorem dX12_layDraws_143 : decode cX12_layDraws 143 = .ok (.imul, 1) := by decide +kernel
theorem dX12_layDraws_144 : decode cX12_layDraws 144 = .ok (.invokevirtual 257, 3) := by decide +kernel
theorem dX12_layDraws_147 : decode cX12_layDraws 147 = .ok (.ifCond .eq 15, 3) := by decide +kernel
theorem dX12_layDraws_150 : decode cX12_layDraws 150 = .ok (.aload_n 0, 1) := by decide +kernel
theorem dX12_layDraws_151 : decode cX12_layDraws 151 = .ok (.getfield 47, 3) := by decide +kernel
theorem dX12_layDraws_154 : decode cX12_layDraws 154 = .ok (.iload_n 1, 1) := by decide +kernel
theorem dX12_layDraws_155 : decode cX12_layDraws 155 = .ok (.dup2, 1) := by decide +kernel
theorem dX12_layDraws_156 : decode cX12_layDraws 156 = .ok (.iaload, 1) := by decide +kernel
theorem dX12_layDraws_157 : decode cX12_layDraws 157 = .ok (.iconst 1, 1) := by decide +kernel
theorem dX12_layDraws_158 : decode cX12_layDraws 158 = .ok (.iload_n 2, 1) := by decide +kernel
theorem dX12_layDraws_159 : decode cX12_layDraws 159 = .ok (.ishl, 1) := by decide +kernel
theorem dX12_layDraws_160 : decode cX12_layDraws 160 = .ok (.ior, 1) := by decide +kernel
theorem dX12_layDraws_161 : decode cX12_layDraws 161 = .ok (.iastore, 1) := by decide +kernel
theorem dX12_layDraws_162 : decode cX12_layDraws 162 = .ok (.iinc 2 1, 3) := by decide +kernel
theorem dX12_layDraws_165 : decode cX12_layDraws 165 = .ok (.goto (-35), 3) := by decide +kernel
theorem dX12_layDraws_168 : decode cX12_layDraws 168 = .ok (.aload_n 0, 1) := by decide +kernel
theorem dX12_layDraws_169 : decode cX12_layDraws 169 = .ok (.dup, 1) := by decide +kernel
theorem dX12_layDraws_170 : decode cX12_layDraws 170 = .ok (.getfield 251, 3) := by decide +kernel
theorem dX12_layDraws_173 : decode cX12_layDraws 173 = .ok (.aload_n 0, 1) := by decide +kernel
theorem dX12_layDraws_174 : decode cX12_layDraws 174 = .ok (.getfield 47, 3) := by decide +kernel
theorem dX12_layDraws_177 : decode cX12_layDraws 177 = .ok (.iload_n 1, 1) := by decide +kernel
theorem dX12_layDraws_178 : decode cX12_layDraws 178 = .ok (.iaload, 1) := by decide +kernel
theorem dX12_layDraws_179 : decode cX12_layDraws 179 = .ok (.ifCond .ne 7, 3) := by decide +kernel
theorem dX12_layDraws_182 : decode cX12_layDraws 182 = .ok (.iconst 1, 1) := by decide +kernel
theorem dX12_layDraws_183 : decode cX12_layDraws 183 = .ok (.goto 4, 3) := by decide +kernel
theorem dX12_layDraws_186 : decode cX12_layDraws 186 = .ok (.iconst 0, 1) := by decide +kernel
theorem dX12_layDraws_187 : decode cX12_layDraws 187 = .ok (.iadd, 1) := by decide +kernel
theorem dX12_layDraws_188 : decode cX12_layDraws 188 = .ok (.putfield 251, 3) := by decide +kernel
theorem dX12_layDraws_191 : decode cX12_layDraws 191 = .ok (.iinc 1 1, 3) := by decide +kernel
theorem dX12_layDraws_194 : decode cX12_layDraws 194 = .ok (.goto (-153), 3) := by decide +kernel
theorem dX12_layDraws_197 : decode cX12_layDraws 197 = .ok (.return_, 1) := by decide +kernel
theorem dX12_isBroken_0 : decode cX12_isBroken 0 = .ok (.aload_n 0, 1) := by decide +kernel
theorem dX12_isBroken_1 : decode cX12_isBroken 1 = .ok (.getfield 29, 3) := by decide +kernel
theorem dX12_isBroken_4 : decode cX12_isBroken 4 = .ok (.iconst 3, 1) := by decide +kernel
theorem dX12_isBroken_5 : decode cX12_isBroken 5 = .ok (.iload_n 1, 1) := by decide +kernel
theorem dX12_isBroken_6 : decode cX12_isBroken 6 = .ok (.imul, 1) := by decide +kernel
theorem dX12_isBroken_7 : decode cX12_isBroken 7 = .ok (.iconst 1, 1) := by decide +kernel
theorem dX12_isBroken_8 : decode cX12_isBroken 8 = .ok (.iadd, 1) := by decide +kernel
theorem dX12_isBroken_9 : decode cX12_isBroken 9 = .ok (.iaload, 1) := by decide +kernel
theorem dX12_isBroken_10 : decode cX12_isBroken 10 = .ok (.istore_n 3, 1) := by decide +kernel
theorem dX12_isBroken_11 : decode cX12_isBroken 11 = .ok (.aload_n 0, 1) := by decide +kernel
theorem dX12_isBroken_12 : decode cX12_isBroken 12 = .ok (.getfield 29, 3) := by decide +kernel
theorem dX12_isBroken_15 : decode cX12_isBroken 15 = .ok (.iconst 3, 1) := by decide +kernel
theorem dX12_isBroken_16 : decode cX12_isBroken 16 = .ok (.iload_n 1, 1) := by decide +kernel
theorem dX12_isBroken_17 : decode cX12_isBroken 17 = .ok (.imul, 1) := by decide +kernel
theorem dX12_isBroken_18 : decode cX12_isBroken 18 = .ok (.iconst 2, 1) := by decide +kernel
theorem dX12_isBroken_19 : decode cX12_isBroken 19 = .ok (.iadd, 1) := by decide +kernel
theorem dX12_isBroken_20 : decode cX12_isBroken 20 = .ok (.iaload, 1) := by decide +kernel
theorem dX12_isBroken_21 : decode cX12_isBroken 21 = .ok (.istore 4, 2) := by decide +kernel
theorem dX12_isBroken_23 : decode cX12_isBroken 23 = .ok (.aload_n 0, 1) := by decide +kernel
theorem dX12_isBroken_24 : decode cX12_isBroken 24 = .ok (.getfield 29, 3) := by decide +kernel
theorem dX12_isBroken_27 : decode cX12_isBroken 27 = .ok (.iconst 3, 1) := by decide +kernel
theorem dX12_isBroken_28 : decode cX12_isBroken 28 = .ok (.iload_n 1, 1) := by decide +kernel
theorem dX12_isBroken_29 : decode cX12_isBroken 29 = .ok (.imul, 1) := by decide +kernel
theorem dX12_isBroken_30 : decode cX12_isBroken 30 = .ok (.iaload, 1) := by decide +kernel
theorem dX12_isBroken_31 : decode cX12_isBroken 31 = .ok (.iconst 1, 1) := by decide +kernel
theorem dX12_isBroken_32 : decode cX12_isBroken 32 = .ok (.if_icmp .ne 29, 3) := by decide +kernel
theorem dX12_isBroken_35 : decode cX12_isBroken 35 = .ok (.aload_n 0, 1) := by decide +kernel
theorem dX12_isBroken_36 : decode cX12_isBroken 36 = .ok (.getfield 51, 3) := by decide +kernel
theorem dX12_isBroken_39 : decode cX12_isBroken 39 = .ok (.iload_n 2, 1) := by decide +kernel
theorem dX12_isBroken_40 : decode cX12_isBroken 40 = .ok (.iload_n 3, 1) := by decide +kernel
theorem dX12_isBroken_41 : decode cX12_isBroken 41 = .ok (.iadd, 1) := by decide +kernel
theorem dX12_isBroken_42 : decode cX12_isBroken 42 = .ok (.baload, 1) := by decide +kernel
theorem dX12_isBroken_43 : decode cX12_isBroken 43 = .ok (.aload_n 0, 1) := by decide +kernel
theorem dX12_isBroken_44 : decode cX12_isBroken 44 = .ok (.getfield 51, 3) := by decide +kernel
theorem dX12_isBroken_47 : decode cX12_isBroken 47 = .ok (.iload_n 2, 1) := by decide +kernel
theorem dX12_isBroken_48 : decode cX12_isBroken 48 = .ok (.iload 4, 2) := by decide +kernel
theorem dX12_isBroken_50 : decode cX12_isBroken 50 = .ok (.iadd, 1) := by decide +kernel
theorem dX12_isBroken_51 : decode cX12_isBroken 51 = .ok (.baload, 1) := by decide +kernel
theorem dX12_isBroken_52 : decode cX12_isBroken 52 = .ok (.if_icmp .ne 7, 3) := by decide +kernel
theorem dX12_isBroken_55 : decode cX12_isBroken 55 = .ok (.iconst 1, 1) := by decide +kernel
theorem dX12_isBroken_56 : decode cX12_isBroken 56 = .ok (.goto 4, 3) := by decide +kernel
theorem dX12_isBroken_59 : decode cX12_isBroken 59 = .ok (.iconst 0, 1) := by decide +kernel
theorem dX12_isBroken_60 : decode cX12_isBroken 60 = .ok (.ireturn, 1) := by decide +kernel
theorem dX12_isBroken_61 : decode cX12_isBroken 61 = .ok (.aload_n 0, 1) := by decide +kernel
theorem dX12_isBroken_62 : decode cX12_isBroken 62 = .ok (.getfield 29, 3) := by decide +kernel
theorem dX12_isBroken_65 : decode cX12_isBroken 65 = .ok (.iconst 3, 1) := by decide +kernel
theorem dX12_isBroken_66 : decode cX12_isBroken 66 = .ok (.iload_n 1, 1) := by decide +kernel
theorem dX12_isBroken_67 : decode cX12_isBroken 67 = .ok (.imul, 1) := by decide +kernel
theorem dX12_isBroken_68 : decode cX12_isBroken 68 = .ok (.iaload, 1) := by decide +kernel
theorem dX12_isBroken_69 : decode cX12_isBroken 69 = .ok (.iconst 2, 1) := by decide +kernel
theorem dX12_isBroken_70 : decode cX12_isBroken 70 = .ok (.if_icmp .ne 22, 3) := by decide +kernel
theorem dX12_isBroken_73 : decode cX12_isBroken 73 = .ok (.aload_n 0, 1) := by decide +kernel
theorem dX12_isBroken_74 : decode cX12_isBroken 74 = .ok (.getfield 51, 3) := by decide +kernel
theorem dX12_isBroken_77 : decode cX12_isBroken 77 = .ok (.iload_n 2, 1) := by decide +kernel
theorem dX12_isBroken_78 : decode cX12_isBroken 78 = .ok (.iload_n 3, 1) := by decide +kernel
theorem dX12_isBroken_79 : decode cX12_isBroken 79 = .ok (.iadd, 1) := by decide +kernel
theorem dX12_isBroken_80 : decode cX12_isBroken 80 = .ok (.baload, 1) := by decide +kernel
theorem dX12_isBroken_81 : decode cX12_isBroken 81 = .ok (.iload 4, 2) := by decide +kernel
theorem dX12_isBroken_83 : decode cX12_isBroken 83 = .ok (.if_icmp .ne 7, 3) := by decide +kernel
theorem dX12_isBroken_86 : decode cX12_isBroken 86 = .ok (.iconst 1, 1) := by decide +kernel
theorem dX12_isBroken_87 : decode cX12_isBroken 87 = .ok (.goto 4, 3) := by decide +kernel
theorem dX12_isBroken_90 : decode cX12_isBroken 90 = .ok (.iconst 0, 1) := by decide +kernel
theorem dX12_isBroken_91 : decode cX12_isBroken 91 = .ok (.ireturn, 1) := by decide +kernel
theorem dX12_isBroken_92 : decode cX12_isBroken 92 = .ok (.aload_n 0, 1) := by decide +kernel
theorem dX12_isBroken_93 : decode cX12_isBroken 93 = .ok (.getfield 29, 3) := by decide +kernel
theorem dX12_isBroken_96 : decode cX12_isBroken 96 = .ok (.iconst 3, 1) := by decide +kernel
theorem dX12_isBroken_97 : decode cX12_isBroken 97 = .ok (.iload_n 1, 1) := by decide +kernel
theorem dX12_isBroken_98 : decode cX12_isBroken 98 = .ok (.imul, 1) := by decide +kernel
theorem dX12_isBroken_99 : decode cX12_isBroken 99 = .ok (.iaload, 1) := by decide +kernel
theorem dX12_isBroken_100 : decode cX12_isBroken 100 = .ok (.iconst 3, 1) := by decide +kernel
theorem dX12_isBroken_101 : decode cX12_isBroken 101 = .ok (.if_icmp .ne 22, 3) := by decide +kernel
theorem dX12_isBroken_104 : decode cX12_isBroken 104 = .ok (.aload_n 0, 1) := by decide +kernel
theorem dX12_isBroken_105 : decode cX12_isBroken 105 = .ok (.getfield 51, 3) := by decide +kernel
theorem dX12_isBroken_108 : decode cX12_isBroken 108 = .ok (.iload_n 2, 1) := by decide +kernel
theorem dX12_isBroken_109 : decode cX12_isBroken 109 = .ok (.iload_n 3, 1) := by decide +kernel
theorem dX12_isBroken_110 : decode cX12_isBroken 110 = .ok (.iadd, 1) := by decide +kernel
theorem dX12_isBroken_111 : decode cX12_isBroken 111 = .ok (.baload, 1) := by decide +kernel
theorem dX12_isBroken_112 : decode cX12_isBroken 112 = .ok (.iload 4, 2) := by decide +kernel
theorem dX12_isBroken_114 : decode cX12_isBroken 114 = .ok (.if_icmp .eq 7, 3) := by decide +kernel
theorem dX12_isBroken_117 : decode cX12_isBroken 117 = .ok (.iconst 1, 1) := by decide +kernel
theorem dX12_isBroken_118 : decode cX12_isBroken 118 = .ok (.goto 4, 3) := by decide +kernel
theorem dX12_isBroken_121 : decode cX12_isBroken 121 = .ok (.iconst 0, 1) := by decide +kernel
theorem dX12_isBroken_122 : decode cX12_isBroken 122 = .ok (.ireturn, 1) := by decide +kernel
theorem dX12_isBroken_123 : decode cX12_isBroken 123 = .ok (.iconst 0, 1) := by decide +kernel
theorem dX12_isBroken_124 : decode cX12_isBroken 124 = .ok (.istore 5, 2) := by decide +kernel
theorem dX12_isBroken_126 : decode cX12_isBroken 126 = .ok (.iload 5, 2) := by decide +kernel
theorem dX12_isBroken_128 : decode cX12_isBroken 128 = .ok (.aload_n 0, 1) := by decide +kernel
theorem dX12_isBroken_129 : decode cX12_isBroken 129 = .ok (.getfield 185, 3) := by decide +kernel
theorem dX12_isBroken_132 : decode cX12_isBroken 132 = .ok (.if_icmp .ge 78, 3) := by decide +kernel
theorem dX12_isBroken_135 : decode cX12_isBroken 135 = .ok (.iconst 0, 1) := by decide +kernel
theorem dX12_isBroken_136 : decode cX12_isBroken 136 = .ok (.istore 6, 2) := by decide +kernel
theorem dX12_isBroken_138 : decode cX12_isBroken 138 = .ok (.iconst 0, 1) := by decide +kernel
theorem dX12_isBroken_139 : decode cX12_isBroken 139 = .ok (.istore 7, 2) := by decide +kernel
theorem dX12_isBroken_141 : decode cX12_isBroken 141 = .ok (.iload 7, 2) := by decide +kernel
theorem dX12_isBroken_143 : decode cX12_isBroken 143 = .ok (.aload_n 0, 1) := by decide +kernel
theorem dX12_isBroken_144 : decode cX12_isBroken 144 = .ok (.invokevirtual 241, 3) := by decide +kernel
theorem dX12_isBroken_147 : decode cX12_isBroken 147 = .ok (.if_icmp .ge 49, 3) := by decide +kernel
theorem dX12_isBroken_150 : decode cX12_isBroken 150 = .ok (.iload 6, 2) := by decide +kernel
theorem dX12_isBroken_152 : decode cX12_isBroken 152 = .ok (.aload_n 0, 1) := by decide +kernel
theorem dX12_isBroken_153 : decode cX12_isBroken 153 = .ok (.getfield 26, 3) := by decide +kernel
theorem dX12_isBroken_156 : decode cX12_isBroken 156 = .ok (.iload 4, 2) := by decide +kernel
theorem dX12_isBroken_158 : decode cX12_isBroken 158 = .ok (.iaload, 1) := by decide +kernel
theorem dX12_isBroken_159 : decode cX12_isBroken 159 = .ok (.iload 7, 2) := by decide +kernel
theorem dX12_isBroken_161 : decode cX12_isBroken 161 = .ok (.ishr, 1) := by decide +kernel
theorem dX12_isBroken_162 : decode cX12_isBroken 162 = .ok (.iconst 1, 1) := by decide +kernel
theorem dX12_isBroken_163 : decode cX12_isBroken 163 = .ok (.iand, 1) := by decide +kernel
theorem dX12_isBroken_164 : decode cX12_isBroken 164 = .ok (.iconst 1, 1) := by decide +kernel
theorem dX12_isBroken_165 : decode cX12_isBroken 165 = .ok (.if_icmp .ne 21, 3) := by decide +kernel
theorem dX12_isBroken_168 : decode cX12_isBroken 168 = .ok (.aload_n 0, 1) := by decide +kernel
theorem dX12_isBroken_169 : decode cX12_isBroken 169 = .ok (.getfield 51, 3) := by decide +kernel
theorem dX12_isBroken_172 : decode cX12_isBroken 172 = .ok (.iload_n 2, 1) := by decide +kernel
theorem dX12_isBroken_173 : decode cX12_isBroken 173 = .ok (.iload 7, 2) := by decide +kernel
theorem dX12_isBroken_175 : decode cX12_isBroken 175 = .ok (.iadd, 1) := by decide +kernel
theorem dX12_isBroken_176 : decode cX12_isBroken 176 = .ok (.baload, 1) := by decide +kernel
theorem dX12_isBroken_177 : decode cX12_isBroken 177 = .ok (.iload 5, 2) := by decide +kernel
theorem dX12_isBroken_179 : decode cX12_isBroken 179 = .ok (.if_icmp .ne 7, 3) := by decide +kernel
theorem dX12_isBroken_182 : decode cX12_isBroken 182 = .ok (.iconst 1, 1) := by decide +kernel
theorem dX12_isBroken_183 : decode cX12_isBroken 183 = .ok (.goto 4, 3) := by decide +kernel
theorem dX12_isBroken_186 : decode cX12_isBroken 186 = .ok (.iconst 0, 1) := by decide +kernel
theorem dX12_isBroken_187 : decode cX12_isBroken 187 = .ok (.iadd, 1) := by decide +kernel
theorem dX12_isBroken_188 : decode cX12_isBroken 188 = .ok (.istore 6, 2) := by decide +kernel
theorem dX12_isBroken_190 : decode cX12_isBroken 190 = .ok (.iinc 7 1, 3) := by decide +kernel
theorem dX12_isBroken_193 : decode cX12_isBroken 193 = .ok (.goto (-52), 3) := by decide +kernel
theorem dX12_isBroken_196 : decode cX12_isBroken 196 = .ok (.iload 6, 2) := by decide +kernel
theorem dX12_isBroken_198 : decode cX12_isBroken 198 = .ok (.iload_n 3, 1) := by decide +kernel
theorem dX12_isBroken_199 : decode cX12_isBroken 199 = .ok (.if_icmp .le 5, 3) := by decide +kernel
theorem dX12_isBroken_202 : decode cX12_isBroken 202 = .ok (.iconst 1, 1) := by decide +kernel
theorem dX12_isBroken_203 : decode cX12_isBroken 203 = .ok (.ireturn, 1) := by decide +kernel
theorem dX12_isBroken_204 : decode cX12_isBroken 204 = .ok (.iinc 5 1, 3) := by decide +kernel
theorem dX12_isBroken_207 : decode cX12_isBroken 207 = .ok (.goto (-81), 3) := by decide +kernel
theorem dX12_isBroken_210 : decode cX12_isBroken 210 = .ok (.iconst 0, 1) := by decide +kernel
theorem dX12_isBroken_211 : decode cX12_isBroken 211 = .ok (.ireturn, 1) := by decide +kernel
theorem dX12_lawful_0 : decode cX12_lawful 0 = .ok (.aload_n 0, 1) := by decide +kernel
theorem dX12_lawful_1 : decode cX12_lawful 1 = .ok (.iconst 0, 1) := by decide +kernel
theorem dX12_lawful_2 : decode cX12_lawful 2 = .ok (.putfield 132, 3) := by decide +kernel
theorem dX12_lawful_5 : decode cX12_lawful 5 = .ok (.aload_n 0, 1) := by decide +kernel
theorem dX12_lawful_6 : decode cX12_lawful 6 = .ok (.getfield 251, 3) := by decide +kernel
theorem dX12_lawful_9 : decode cX12_lawful 9 = .ok (.ireturn, 1) := by decide +kernel
theorem dX12_lawfulBut_0 : decode cX12_lawfulBut 0 = .ok (.iconst 0, 1) := by decide +kernel
theorem dX12_lawfulBut_1 : decode cX12_lawfulBut 1 = .ok (.istore_n 2, 1) := by decide +kernel
theorem dX12_lawfulBut_2 : decode cX12_lawfulBut 2 = .ok (.iconst 0, 1) := by decide +kernel
theorem dX12_lawfulBut_3 : decode cX12_lawfulBut 3 = .ok (.istore_n 3, 1) := by decide +kernel
theorem dX12_lawfulBut_4 : decode cX12_lawfulBut 4 = .ok (.iload_n 3, 1) := by decide +kernel
theorem dX12_lawfulBut_5 : decode cX12_lawfulBut 5 = .ok (.aload_n 0, 1) := by decide +kernel
theorem dX12_lawfulBut_6 : decode cX12_lawfulBut 6 = .ok (.getfield 248, 3) := by decide +kernel
theorem dX12_lawfulBut_9 : decode cX12_lawfulBut 9 = .ok (.if_icmp .ge 30, 3) := by decide +kernel
theorem dX12_lawfulBut_12 : decode cX12_lawfulBut 12 = .ok (.iload_n 2, 1) := by decide +kernel
theorem dX12_lawfulBut_13 : decode cX12_lawfulBut 13 = .ok (.aload_n 0, 1) := by decide +kernel
theorem dX12_lawfulBut_14 : decode cX12_lawfulBut 14 = .ok (.getfield 47, 3) := by decide +kernel
theorem dX12_lawfulBut_17 : decode cX12_lawfulBut 17 = .ok (.iload_n 3, 1) := by decide +kernel
theorem dX12_lawfulBut_18 : decode cX12_lawfulBut 18 = .ok (.iaload, 1) := by decide +kernel
theorem dX12_lawfulBut_19 : decode cX12_lawfulBut 19 = .ok (.iload_n 1, 1) := by decide +kernel
theorem dX12_lawfulBut_20 : decode cX12_lawfulBut 20 = .ok (.iconst (-1), 1) := by decide +kernel
theorem dX12_lawfulBut_21 : decode cX12_lawfulBut 21 = .ok (.ixor, 1) := by decide +kernel
theorem dX12_lawfulBut_22 : decode cX12_lawfulBut 22 = .ok (.iand, 1) := by decide +kernel
theorem dX12_lawfulBut_23 : decode cX12_lawfulBut 23 = .ok (.ifCond .ne 7, 3) := by decide +kernel
theorem dX12_lawfulBut_26 : decode cX12_lawfulBut 26 = .ok (.iconst 1, 1) := by decide +kernel
theorem dX12_lawfulBut_27 : decode cX12_lawfulBut 27 = .ok (.goto 4, 3) := by decide +kernel
theorem dX12_lawfulBut_30 : decode cX12_lawfulBut 30 = .ok (.iconst 0, 1) := by decide +kernel
theorem dX12_lawfulBut_31 : decode cX12_lawfulBut 31 = .ok (.iadd, 1) := by decide +kernel
theorem dX12_lawfulBut_32 : decode cX12_lawfulBut 32 = .ok (.istore_n 2, 1) := by decide +kernel
theorem dX12_lawfulBut_33 : decode cX12_lawfulBut 33 = .ok (.iinc 3 1, 3) := by decide +kernel
theorem dX12_lawfulBut_36 : decode cX12_lawfulBut 36 = .ok (.goto (-32), 3) := by decide +kernel
theorem dX12_lawfulBut_39 : decode cX12_lawfulBut 39 = .ok (.iload_n 2, 1) := by decide +kernel
theorem dX12_lawfulBut_40 : decode cX12_lawfulBut 40 = .ok (.ireturn, 1) := by decide +kernel
theorem dX12_without_0 : decode cX12_without 0 = .ok (.aload_n 0, 1) := by decide +kernel
theorem dX12_without_1 : decode cX12_without 1 = .ok (.iconst 0, 1) := by decide +kernel
theorem dX12_without_2 : decode cX12_without 2 = .ok (.putfield 132, 3) := by decide +kernel
theorem dX12_without_5 : decode cX12_without 5 = .ok (.iload_n 1, 1) := by decide +kernel
theorem dX12_without_6 : decode cX12_without 6 = .ok (.ifCond .lt 11, 3) := by decide +kernel
theorem dX12_without_9 : decode cX12_without 9 = .ok (.iload_n 1, 1) := by decide +kernel
theorem dX12_without_10 : decode cX12_without 10 = .ok (.aload_n 0, 1) := by decide +kernel
theorem dX12_without_11 : decode cX12_without 11 = .ok (.getfield 225, 3) := by decide +kernel
theorem dX12_without_14 : decode cX12_without 14 = .ok (.if_icmp .lt 7, 3) := by decide +kernel
theorem dX12_without_17 : decode cX12_without 17 = .ok (.iconst (-1), 1) := by decide +kernel
theorem dX12_without_18 : decode cX12_without 18 = .ok (.goto 10, 3) := by decide +kernel
theorem dX12_without_21 : decode cX12_without 21 = .ok (.aload_n 0, 1) := by decide +kernel
theorem dX12_without_22 : decode cX12_without 22 = .ok (.iconst 1, 1) := by decide +kernel
theorem dX12_without_23 : decode cX12_without 23 = .ok (.iload_n 1, 1) := by decide +kernel
theorem dX12_without_24 : decode cX12_without 24 = .ok (.ishl, 1) := by decide +kernel
theorem dX12_without_25 : decode cX12_without 25 = .ok (.invokevirtual 260, 3) := by decide +kernel
theorem dX12_without_28 : decode cX12_without 28 = .ok (.ireturn, 1) := by decide +kernel
theorem dX12_many_0 : decode cX12_many 0 = .ok (.iconst 0, 1) := by decide +kernel
theorem dX12_many_1 : decode cX12_many 1 = .ok (.istore_n 1, 1) := by decide +kernel
theorem dX12_many_2 : decode cX12_many 2 = .ok (.iconst 0, 1) := by decide +kernel
theorem dX12_many_3 : decode cX12_many 3 = .ok (.istore_n 2, 1) := by decide +kernel
theorem dX12_many_4 : decode cX12_many 4 = .ok (.iload_n 2, 1) := by decide +kernel
theorem dX12_many_5 : decode cX12_many 5 = .ok (.bipush 12, 2) := by decide +kernel
theorem dX12_many_7 : decode cX12_many 7 = .ok (.if_icmp .ge 17, 3) := by decide +kernel
theorem dX12_many_10 : decode cX12_many 10 = .ok (.iload_n 1, 1) := by decide +kernel
theorem dX12_many_11 : decode cX12_many 11 = .ok (.iload_n 0, 1) := by decide +kernel
theorem dX12_many_12 : decode cX12_many 12 = .ok (.iload_n 2, 1) := by decide +kernel
theorem dX12_many_13 : decode cX12_many 13 = .ok (.ishr, 1) := by decide +kernel
theorem dX12_many_14 : decode cX12_many 14 = .ok (.iconst 1, 1) := by decide +kernel
theorem dX12_many_15 : decode cX12_many 15 = .ok (.iand, 1) := by decide +kernel
theorem dX12_many_16 : decode cX12_many 16 = .ok (.iadd, 1) := by decide +kernel
theorem dX12_many_17 : decode cX12_many 17 = .ok (.istore_n 1, 1) := by decide +kernel
theorem dX12_many_18 : decode cX12_many 18 = .ok (.iinc 2 1, 3) := by decide +kernel
theorem dX12_many_21 : decode cX12_many 21 = .ok (.goto (-17), 3) := by decide +kernel
theorem dX12_many_24 : decode cX12_many 24 = .ok (.iload_n 1, 1) := by decide +kernel
theorem dX12_many_25 : decode cX12_many 25 = .ok (.ireturn, 1) := by decide +kernel
theorem dX12_fewest_0 : decode cX12_fewest 0 = .ok (.aload_n 0, 1) := by decide +kernel
theorem dX12_fewest_1 : decode cX12_fewest 1 = .ok (.getfield 55, 3) := by decide +kernel
theorem dX12_fewest_4 : decode cX12_fewest 4 = .ok (.iconst 0, 1) := by decide +kernel
theorem dX12_fewest_5 : decode cX12_fewest 5 = .ok (.baload, 1) := by decide +kernel
theorem dX12_fewest_6 : decode cX12_fewest 6 = .ok (.ifCond .eq 5, 3) := by decide +kernel
theorem dX12_fewest_9 : decode cX12_fewest 9 = .ok (.iconst 0, 1) := by decide +kernel
theorem dX12_fewest_10 : decode cX12_fewest 10 = .ok (.ireturn, 1) := by decide +kernel
theorem dX12_fewest_11 : decode cX12_fewest 11 = .ok (.iconst 0, 1) := by decide +kernel
theorem dX12_fewest_12 : decode cX12_fewest 12 = .ok (.istore_n 1, 1) := by decide +kernel
theorem dX12_fewest_13 : decode cX12_fewest 13 = .ok (.iconst 1, 1) := by decide +kernel
theorem dX12_fewest_14 : decode cX12_fewest 14 = .ok (.istore_n 2, 1) := by decide +kernel
theorem dX12_fewest_15 : decode cX12_fewest 15 = .ok (.iload_n 2, 1) := by decide +kernel
theorem dX12_fewest_16 : decode cX12_fewest 16 = .ok (.iconst 1, 1) := by decide +kernel
theorem dX12_fewest_17 : decode cX12_fewest 17 = .ok (.aload_n 0, 1) := by decide +kernel
theorem dX12_fewest_18 : decode cX12_fewest 18 = .ok (.getfield 225, 3) := by decide +kernel
theorem dX12_fewest_21 : decode cX12_fewest 21 = .ok (.ishl, 1) := by decide +kernel
theorem dX12_fewest_22 : decode cX12_fewest 22 = .ok (.if_icmp .ge 82, 3) := by decide +kernel
theorem dX12_fewest_25 : decode cX12_fewest 25 = .ok (.iload_n 1, 1) := by decide +kernel
theorem dX12_fewest_26 : decode cX12_fewest 26 = .ok (.ifCond .eq 17, 3) := by decide +kernel
theorem dX12_fewest_29 : decode cX12_fewest 29 = .ok (.iload_n 2, 1) := by decide +kernel
theorem dX12_fewest_30 : decode cX12_fewest 30 = .ok (.invokestatic 263, 3) := by decide +kernel
theorem dX12_fewest_33 : decode cX12_fewest 33 = .ok (.iload_n 1, 1) := by decide +kernel
theorem dX12_fewest_34 : decode cX12_fewest 34 = .ok (.invokestatic 263, 3) := by decide +kernel
theorem dX12_fewest_37 : decode cX12_fewest 37 = .ok (.if_icmp .lt 6, 3) := by decide +kernel
theorem dX12_fewest_40 : decode cX12_fewest 40 = .ok (.goto 58, 3) := by decide +kernel
theorem dX12_fewest_43 : decode cX12_fewest 43 = .ok (.iconst 1, 1) := by decide +kernel
theorem dX12_fewest_44 : decode cX12_fewest 44 = .ok (.istore_n 3, 1) := by decide +kernel
theorem dX12_fewest_45 : decode cX12_fewest 45 = .ok (.iconst 0, 1) := by decide +kernel
theorem dX12_fewest_46 : decode cX12_fewest 46 = .ok (.istore 4, 2) := by decide +kernel
theorem dX12_fewest_48 : decode cX12_fewest 48 = .ok (.iload 4, 2) := by decide +kernel
theorem dX12_fewest_50 : decode cX12_fewest 50 = .ok (.iconst 1, 1) := by decide +kernel
theorem dX12_fewest_51 : decode cX12_fewest 51 = .ok (.aload_n 0, 1) := by decide +kernel
theorem dX12_fewest_52 : decode cX12_fewest 52 = .ok (.getfield 225, 3) := by decide +kernel
theorem dX12_fewest_55 : decode cX12_fewest 55 = .ok (.ishl, 1) := by decide +kernel
theorem dX12_fewest_56 : decode cX12_fewest 56 = .ok (.if_icmp .ge 36, 3) := by decide +kernel
theorem dX12_fewest_59 : decode cX12_fewest 59 = .ok (.iload_n 3, 1) := by decide +kernel
theorem dX12_fewest_60 : decode cX12_fewest 60 = .ok (.ifCond .eq 32, 3) := by decide +kernel
theorem dX12_fewest_63 : decode cX12_fewest 63 = .ok (.aload_n 0, 1) := by decide +kernel
theorem dX12_fewest_64 : decode cX12_fewest 64 = .ok (.getfield 55, 3) := by decide +kernel
theorem dX12_fewest_67 : decode cX12_fewest 67 = .ok (.iload 4, 2) := by decide +kernel
theorem dX12_fewest_69 : decode cX12_fewest 69 = .ok (.baload, 1) := by decide +kernel
theorem dX12_fewest_70 : decode cX12_fewest 70 = .ok (.ifCond .eq 10, 3) := by decide +kernel
theorem dX12_fewest_73 : decode cX12_fewest 73 = .ok (.iload 4, 2) := by decide +kernel
theorem dX12_fewest_75 : decode cX12_fewest 75 = .ok (.iload_n 2, 1) := by decide +kernel
theorem dX12_fewest_76 : decode cX12_fewest 76 = .ok (.iand, 1) := by decide +kernel
theorem dX12_fewest_77 : decode cX12_fewest 77 = .ok (.ifCond .eq 7, 3) := by decide +kernel
theorem dX12_fewest_80 : decode cX12_fewest 80 = .ok (.iconst 1, 1) := by decide +kernel
theorem dX12_fewest_81 : decode cX12_fewest 81 = .ok (.goto 4, 3) := by decide +kernel
theorem dX12_fewest_84 : decode cX12_fewest 84 = .ok (.iconst 0, 1) := by decide +kernel
theorem dX12_fewest_85 : decode cX12_fewest 85 = .ok (.istore_n 3, 1) := by decide +kernel
theorem dX12_fewest_86 : decode cX12_fewest 86 = .ok (.iinc 4 1, 3) := by decide +kernel
theorem dX12_fewest_89 : decode cX12_fewest 89 = .ok (.goto (-41), 3) := by decide +kernel
theorem dX12_fewest_92 : decode cX12_fewest 92 = .ok (.iload_n 3, 1) := by decide +kernel
theorem dX12_fewest_93 : decode cX12_fewest 93 = .ok (.ifCond .eq 5, 3) := by decide +kernel
theorem dX12_fewest_96 : decode cX12_fewest 96 = .ok (.iload_n 2, 1) := by decide +kernel
theorem dX12_fewest_97 : decode cX12_fewest 97 = .ok (.istore_n 1, 1) := by decide +kernel
theorem dX12_fewest_98 : decode cX12_fewest 98 = .ok (.iinc 2 1, 3) := by decide +kernel
theorem dX12_fewest_101 : decode cX12_fewest 101 = .ok (.goto (-86), 3) := by decide +kernel
theorem dX12_fewest_104 : decode cX12_fewest 104 = .ok (.iload_n 1, 1) := by decide +kernel
theorem dX12_fewest_105 : decode cX12_fewest 105 = .ok (.ireturn, 1) := by decide +kernel
theorem dX12_forbids_0 : decode cX12_forbids 0 = .ok (.aload_n 0, 1) := by decide +kernel
theorem dX12_forbids_1 : decode cX12_forbids 1 = .ok (.iconst 0, 1) := by decide +kernel
theorem dX12_forbids_2 : decode cX12_forbids 2 = .ok (.putfield 132, 3) := by decide +kernel
theorem dX12_forbids_5 : decode cX12_forbids 5 = .ok (.aload_n 0, 1) := by decide +kernel
theorem dX12_forbids_6 : decode cX12_forbids 6 = .ok (.getfield 251, 3) := by decide +kernel
theorem dX12_forbids_9 : decode cX12_forbids 9 = .ok (.ifCond .le 5, 3) := by decide +kernel
theorem dX12_forbids_12 : decode cX12_forbids 12 = .ok (.iconst 0, 1) := by decide +kernel
theorem dX12_forbids_13 : decode cX12_forbids 13 = .ok (.ireturn, 1) := by decide +kernel
theorem dX12_forbids_14 : decode cX12_forbids 14 = .ok (.iconst 0, 1) := by decide +kernel
theorem dX12_forbids_15 : decode cX12_forbids 15 = .ok (.istore_n 1, 1) := by decide +kernel
theorem dX12_forbids_16 : decode cX12_forbids 16 = .ok (.iload_n 1, 1) := by decide +kernel
theorem dX12_forbids_17 : decode cX12_forbids 17 = .ok (.sipush 1024, 3) := by decide +kernel
theorem dX12_forbids_20 : decode cX12_forbids 20 = .ok (.if_icmp .ge 16, 3) := by decide +kernel
theorem dX12_forbids_23 : decode cX12_forbids 23 = .ok (.aload_n 0, 1) := by decide +kernel
theorem dX12_forbids_24 : decode cX12_forbids 24 = .ok (.getfield 55, 3) := by decide +kernel
theorem dX12_forbids_27 : decode cX12_forbids 27 = .ok (.iload_n 1, 1) := by decide +kernel
theorem dX12_forbids_28 : decode cX12_forbids 28 = .ok (.iconst 0, 1) := by decide +kernel
theorem dX12_forbids_29 : decode cX12_forbids 29 = .ok (.bastore, 1) := by decide +kernel
theorem dX12_forbids_30 : decode cX12_forbids 30 = .ok (.iinc 1 1, 3) := by decide +kernel
theorem dX12_forbids_33 : decode cX12_forbids 33 = .ok (.goto (-17), 3) := by decide +kernel
theorem dX12_forbids_36 : decode cX12_forbids 36 = .ok (.iconst 0, 1) := by decide +kernel
theorem dX12_forbids_37 : decode cX12_forbids 37 = .ok (.istore_n 1, 1) := by decide +kernel
theorem dX12_forbids_38 : decode cX12_forbids 38 = .ok (.iload_n 1, 1) := by decide +kernel
theorem dX12_forbids_39 : decode cX12_forbids 39 = .ok (.aload_n 0, 1) := by decide +kernel
theorem dX12_forbids_40 : decode cX12_forbids 40 = .ok (.getfield 248, 3) := by decide +kernel
theorem dX12_forbids_43 : decode cX12_forbids 43 = .ok (.if_icmp .ge 21, 3) := by decide +kernel
theorem dX12_forbids_46 : decode cX12_forbids 46 = .ok (.aload_n 0, 1) := by decide +kernel
theorem dX12_forbids_47 : decode cX12_forbids 47 = .ok (.getfield 55, 3) := by decide +kernel
theorem dX12_forbids_50 : decode cX12_forbids 50 = .ok (.aload_n 0, 1) := by decide +kernel
theorem dX12_forbids_51 : decode cX12_forbids 51 = .ok (.getfield 47, 3) := by decide +kernel
theorem dX12_forbids_54 : decode cX12_forbids 54 = .ok (.iload_n 1, 1) := by decide +kernel
theorem dX12_forbids_55 : decode cX12_forbids 55 = .ok (.iaload, 1) := by decide +kernel
theorem dX12_forbids_56 : decode cX12_forbids 56 = .ok (.iconst 1, 1) := by decide +kernel
theorem dX12_forbids_57 : decode cX12_forbids 57 = .ok (.bastore, 1) := by decide +kernel
theorem dX12_forbids_58 : decode cX12_forbids 58 = .ok (.iinc 1 1, 3) := by decide +kernel
theorem dX12_forbids_61 : decode cX12_forbids 61 = .ok (.goto (-23), 3) := by decide +kernel
theorem dX12_forbids_64 : decode cX12_forbids 64 = .ok (.aload_n 0, 1) := by decide +kernel
theorem dX12_forbids_65 : decode cX12_forbids 65 = .ok (.invokevirtual 266, 3) := by decide +kernel
theorem dX12_forbids_68 : decode cX12_forbids 68 = .ok (.ireturn, 1) := by decide +kernel
theorem dX12_isTeam_0 : decode cX12_isTeam 0 = .ok (.iload_n 1, 1) := by decide +kernel
theorem dX12_isTeam_1 : decode cX12_isTeam 1 = .ok (.ifCond .lt 15, 3) := by decide +kernel
theorem dX12_isTeam_4 : decode cX12_isTeam 4 = .ok (.iload_n 1, 1) := by decide +kernel
theorem dX12_isTeam_5 : decode cX12_isTeam 5 = .ok (.aload_n 0, 1) := by decide +kernel
theorem dX12_isTeam_6 : decode cX12_isTeam 6 = .ok (.invokevirtual 241, 3) := by decide +kernel
theorem dX12_isTeam_9 : decode cX12_isTeam 9 = .ok (.if_icmp .ge 7, 3) := by decide +kernel
theorem dX12_isTeam_12 : decode cX12_isTeam 12 = .ok (.iconst 1, 1) := by decide +kernel
theorem dX12_isTeam_13 : decode cX12_isTeam 13 = .ok (.goto 4, 3) := by decide +kernel
theorem dX12_isTeam_16 : decode cX12_isTeam 16 = .ok (.iconst 0, 1) := by decide +kernel
theorem dX12_isTeam_17 : decode cX12_isTeam 17 = .ok (.ireturn, 1) := by decide +kernel
theorem dX12_draw_0 : decode cX12_draw 0 = .ok (.aload_n 0, 1) := by decide +kernel
theorem dX12_draw_1 : decode cX12_draw 1 = .ok (.iconst 0, 1) := by decide +kernel
theorem dX12_draw_2 : decode cX12_draw 2 = .ok (.putfield 132, 3) := by decide +kernel
theorem dX12_draw_5 : decode cX12_draw 5 = .ok (.iload_n 1, 1) := by decide +kernel
theorem dX12_draw_6 : decode cX12_draw 6 = .ok (.ifCond .lt 19, 3) := by decide +kernel
theorem dX12_draw_9 : decode cX12_draw 9 = .ok (.iload_n 1, 1) := by decide +kernel
theorem dX12_draw_10 : decode cX12_draw 10 = .ok (.aload_n 0, 1) := by decide +kernel
theorem dX12_draw_11 : decode cX12_draw 11 = .ok (.getfield 251, 3) := by decide +kernel
theorem dX12_draw_14 : decode cX12_draw 14 = .ok (.if_icmp .ge 11, 3) := by decide +kernel
theorem dX12_draw_17 : decode cX12_draw 17 = .ok (.aload_n 0, 1) := by decide +kernel
theorem dX12_draw_18 : decode cX12_draw 18 = .ok (.iload_n 2, 1) := by decide +kernel
theorem dX12_draw_19 : decode cX12_draw 19 = .ok (.invokevirtual 269, 3) := by decide +kernel
theorem dX12_draw_22 : decode cX12_draw 22 = .ok (.ifCond .ne 5, 3) := by decide +kernel
theorem dX12_draw_25 : decode cX12_draw 25 = .ok (.iconst (-1), 1) := by decide +kernel
theorem dX12_draw_26 : decode cX12_draw 26 = .ok (.ireturn, 1) := by decide +kernel
theorem dX12_draw_27 : decode cX12_draw 27 = .ok (.iconst 0, 1) := by decide +kernel
theorem dX12_draw_28 : decode cX12_draw 28 = .ok (.istore_n 3, 1) := by decide +kernel
theorem dX12_draw_29 : decode cX12_draw 29 = .ok (.iconst 0, 1) := by decide +kernel
theorem dX12_draw_30 : decode cX12_draw 30 = .ok (.istore 4, 2) := by decide +kernel
theorem dX12_draw_32 : decode cX12_draw 32 = .ok (.iload 4, 2) := by decide +kernel
theorem dX12_draw_34 : decode cX12_draw 34 = .ok (.aload_n 0, 1) := by decide +kernel
theorem dX12_draw_35 : decode cX12_draw 35 = .ok (.getfield 248, 3) := by decide +kernel
theorem dX12_draw_38 : decode cX12_draw 38 = .ok (.if_icmp .ge 43, 3) := by decide +kernel
theorem dX12_draw_41 : decode cX12_draw 41 = .ok (.aload_n 0, 1) := by decide +kernel
theorem dX12_draw_42 : decode cX12_draw 42 = .ok (.getfield 47, 3) := by decide +kernel
theorem dX12_draw_45 : decode cX12_draw 45 = .ok (.iload 4, 2) := by decide +kernel
theorem dX12_draw_47 : decode cX12_draw 47 = .ok (.iaload, 1) := by decide +kernel
theorem dX12_draw_48 : decode cX12_draw 48 = .ok (.ifCond .eq 6, 3) := by decide +kernel
theorem dX12_draw_51 : decode cX12_draw 51 = .ok (.goto 24, 3) := by decide +kernel
theorem dX12_draw_54 : decode cX12_draw 54 = .ok (.iload_n 3, 1) := by decide +kernel
theorem dX12_draw_55 : decode cX12_draw 55 = .ok (.iload_n 1, 1) := by decide +kernel
theorem dX12_draw_56 : decode cX12_draw 56 = .ok (.if_icmp .ne 16, 3) := by decide +kernel
theorem dX12_draw_59 : decode cX12_draw 59 = .ok (.aload_n 0, 1) := by decide +kernel
theorem dX12_draw_60 : decode cX12_draw 60 = .ok (.getfield 51, 3) := by decide +kernel
theorem dX12_draw_63 : decode cX12_draw 63 = .ok (.bipush 12, 2) := by decide +kernel
theorem dX12_draw_65 : decode cX12_draw 65 = .ok (.iload 4, 2) := by decide +kernel
theorem dX12_draw_67 : decode cX12_draw 67 = .ok (.imul, 1) := by decide +kernel
theorem dX12_draw_68 : decode cX12_draw 68 = .ok (.iload_n 2, 1) := by decide +kernel
theorem dX12_draw_69 : decode cX12_draw 69 = .ok (.iadd, 1) := by decide +kernel
theorem dX12_draw_70 : decode cX12_draw 70 = .ok (.baload, 1) := by decide +kernel
theorem dX12_draw_71 : decode cX12_draw 71 = .ok (.ireturn, 1) := by decide +kernel
theorem dX12_draw_72 : decode cX12_draw 72 = .ok (.iinc 3 1, 3) := by decide +kernel
theorem dX12_draw_75 : decode cX12_draw 75 = .ok (.iinc 4 1, 3) := by decide +kernel
theorem dX12_draw_78 : decode cX12_draw 78 = .ok (.goto (-46), 3) := by decide +kernel
theorem dX12_draw_81 : decode cX12_draw 81 = .ok (.iconst (-1), 1) := by decide +kernel
theorem dX12_draw_82 : decode cX12_draw 82 = .ok (.ireturn, 1) := by decide +kernel
theorem dX12_judge_0 : decode cX12_judge 0 = .ok (.aload_n 0, 1) := by decide +kernel
theorem dX12_judge_1 : decode cX12_judge 1 = .ok (.iconst 0, 1) := by decide +kernel
theorem dX12_judge_2 : decode cX12_judge 2 = .ok (.putfield 132, 3) := by decide +kernel
theorem dX12_judge_5 : decode cX12_judge 5 = .ok (.iload_n 1, 1) := by decide +kernel
theorem dX12_judge_6 : decode cX12_judge 6 = .ok (.ifCond .lt 11, 3) := by decide +kernel
theorem dX12_judge_9 : decode cX12_judge 9 = .ok (.iload_n 1, 1) := by decide +kernel
theorem dX12_judge_10 : decode cX12_judge 10 = .ok (.aload_n 0, 1) := by decide +kernel
theorem dX12_judge_11 : decode cX12_judge 11 = .ok (.getfield 248, 3) := by decide +kernel
theorem dX12_judge_14 : decode cX12_judge 14 = .ok (.if_icmp .lt 7, 3) := by decide +kernel
theorem dX12_judge_17 : decode cX12_judge 17 = .ok (.iconst (-1), 1) := by decide +kernel
theorem dX12_judge_18 : decode cX12_judge 18 = .ok (.goto 17, 3) := by decide +kernel
theorem dX12_judge_21 : decode cX12_judge 21 = .ok (.aload_n 0, 1) := by decide +kernel
theorem dX12_judge_22 : decode cX12_judge 22 = .ok (.getfield 47, 3) := by decide +kernel
theorem dX12_judge_25 : decode cX12_judge 25 = .ok (.iload_n 1, 1) := by decide +kernel
theorem dX12_judge_26 : decode cX12_judge 26 = .ok (.iaload, 1) := by decide +kernel
theorem dX12_judge_27 : decode cX12_judge 27 = .ok (.ifCond .ne 7, 3) := by decide +kernel
theorem dX12_judge_30 : decode cX12_judge 30 = .ok (.iconst 1, 1) := by decide +kernel
theorem dX12_judge_31 : decode cX12_judge 31 = .ok (.goto 4, 3) := by decide +kernel
theorem dX12_judge_34 : decode cX12_judge 34 = .ok (.iconst 0, 1) := by decide +kernel
theorem dX12_judge_35 : decode cX12_judge 35 = .ok (.ireturn, 1) := by decide +kernel
theorem dX12_isOnce_0 : decode cX12_isOnce 0 = .ok (.iconst 0, 1) := by decide +kernel
theorem dX12_isOnce_1 : decode cX12_isOnce 1 = .ok (.istore_n 2, 1) := by decide +kernel
theorem dX12_isOnce_2 : decode cX12_isOnce 2 = .ok (.iconst 0, 1) := by decide +kernel
theorem dX12_isOnce_3 : decode cX12_isOnce 3 = .ok (.istore_n 3, 1) := by decide +kernel
theorem dX12_isOnce_4 : decode cX12_isOnce 4 = .ok (.iload_n 3, 1) := by decide +kernel
theorem dX12_isOnce_5 : decode cX12_isOnce 5 = .ok (.iload_n 1, 1) := by decide +kernel
theorem dX12_isOnce_6 : decode cX12_isOnce 6 = .ok (.if_icmp .ge 21, 3) := by decide +kernel
theorem dX12_isOnce_9 : decode cX12_isOnce 9 = .ok (.iload_n 2, 1) := by decide +kernel
theorem dX12_isOnce_10 : decode cX12_isOnce 10 = .ok (.iconst 1, 1) := by decide +kernel
theorem dX12_isOnce_11 : decode cX12_isOnce 11 = .ok (.iload_n 0, 1) := by decide +kernel
theorem dX12_isOnce_12 : decode cX12_isOnce 12 = .ok (.iconst 2, 1) := by decide +kernel
theorem dX12_isOnce_13 : decode cX12_isOnce 13 = .ok (.iload_n 3, 1) := by decide +kernel
theorem dX12_isOnce_14 : decode cX12_isOnce 14 = .ok (.imul, 1) := by decide +kernel
theorem dX12_isOnce_15 : decode cX12_isOnce 15 = .ok (.ishr, 1) := by decide +kernel
theorem dX12_isOnce_16 : decode cX12_isOnce 16 = .ok (.iconst 3, 1) := by decide +kernel
theorem dX12_isOnce_17 : decode cX12_isOnce 17 = .ok (.iand, 1) := by decide +kernel
theorem dX12_isOnce_18 : decode cX12_isOnce 18 = .ok (.ishl, 1) := by decide +kernel
theorem dX12_isOnce_19 : decode cX12_isOnce 19 = .ok (.ior, 1) := by decide +kernel
theorem dX12_isOnce_20 : decode cX12_isOnce 20 = .ok (.istore_n 2, 1) := by decide +kernel
theorem dX12_isOnce_21 : decode cX12_isOnce 21 = .ok (.iinc 3 1, 3) := by decide +kernel
theorem dX12_isOnce_24 : decode cX12_isOnce 24 = .ok (.goto (-20), 3) := by decide +kernel
theorem dX12_isOnce_27 : decode cX12_isOnce 27 = .ok (.iload_n 2, 1) := by decide +kernel
theorem dX12_isOnce_28 : decode cX12_isOnce 28 = .ok (.iconst 1, 1) := by decide +kernel
theorem dX12_isOnce_29 : decode cX12_isOnce 29 = .ok (.iload_n 1, 1) := by decide +kernel
theorem dX12_isOnce_30 : decode cX12_isOnce 30 = .ok (.ishl, 1) := by decide +kernel
theorem dX12_isOnce_31 : decode cX12_isOnce 31 = .ok (.iconst 1, 1) := by decide +kernel
theorem dX12_isOnce_32 : decode cX12_isOnce 32 = .ok (.isub, 1) := by decide +kernel
theorem dX12_isOnce_33 : decode cX12_isOnce 33 = .ok (.if_icmp .ne 7, 3) := by decide +kernel
theorem dX12_isOnce_36 : decode cX12_isOnce 36 = .ok (.iconst 1, 1) := by decide +kernel
theorem dX12_isOnce_37 : decode cX12_isOnce 37 = .ok (.goto 4, 3) := by decide +kernel
theorem dX12_isOnce_40 : decode cX12_isOnce 40 = .ok (.iconst 0, 1) := by decide +kernel
theorem dX12_isOnce_41 : decode cX12_isOnce 41 = .ok (.ireturn, 1) := by decide +kernel
theorem dX12_order_0 : decode cX12_order 0 = .ok (.aload_n 0, 1) := by decide +kernel
theorem dX12_order_1 : decode cX12_order 1 = .ok (.iconst 0, 1) := by decide +kernel
theorem dX12_order_2 : decode cX12_order 2 = .ok (.putfield 132, 3) := by decide +kernel
theorem dX12_order_5 : decode cX12_order 5 = .ok (.iload_n 1, 1) := by decide +kernel
theorem dX12_order_6 : decode cX12_order 6 = .ok (.aload_n 0, 1) := by decide +kernel
theorem dX12_order_7 : decode cX12_order 7 = .ok (.getfield 188, 3) := by decide +kernel
theorem dX12_order_10 : decode cX12_order 10 = .ok (.invokestatic 272, 3) := by decide +kernel
theorem dX12_order_13 : decode cX12_order 13 = .ok (.ifCond .ne 5, 3) := by decide +kernel
theorem dX12_order_16 : decode cX12_order 16 = .ok (.iconst 0, 1) := by decide +kernel
theorem dX12_order_17 : decode cX12_order 17 = .ok (.ireturn, 1) := by decide +kernel
theorem dX12_order_18 : decode cX12_order 18 = .ok (.iconst 0, 1) := by decide +kernel
theorem dX12_order_19 : decode cX12_order 19 = .ok (.istore_n 2, 1) := by decide +kernel
theorem dX12_order_20 : decode cX12_order 20 = .ok (.iload_n 2, 1) := by decide +kernel
theorem dX12_order_21 : decode cX12_order 21 = .ok (.aload_n 0, 1) := by decide +kernel
theorem dX12_order_22 : decode cX12_order 22 = .ok (.getfield 188, 3) := by decide +kernel
theorem dX12_order_25 : decode cX12_order 25 = .ok (.if_icmp .ge 22, 3) := by decide +kernel
theorem dX12_order_28 : decode cX12_order 28 = .ok (.aload_n 0, 1) := by decide +kernel
theorem dX12_order_29 : decode cX12_order 29 = .ok (.getfield 59, 3) := by decide +kernel
theorem dX12_order_32 : decode cX12_order 32 = .ok (.iload_n 2, 1) := by decide +kernel
theorem dX12_order_33 : decode cX12_order 33 = .ok (.iload_n 1, 1) := by decide +kernel
theorem dX12_order_34 : decode cX12_order 34 = .ok (.iconst 2, 1) := by decide +kernel
theorem dX12_order_35 : decode cX12_order 35 = .ok (.iload_n 2, 1) := by decide +kernel
theorem dX12_order_36 : decode cX12_order 36 = .ok (.imul, 1) := by decide +kernel
theorem dX12_order_37 : decode cX12_order 37 = .ok (.ishr, 1) := by decide +kernel
theorem dX12_order_38 : decode cX12_order 38 = .ok (.iconst 3, 1) := by decide +kernel
theorem dX12_order_39 : decode cX12_order 39 = .ok (.iand, 1) := by decide +kernel
theorem dX12_order_40 : decode cX12_order 40 = .ok (.iastore, 1) := by decide +kernel
theorem dX12_order_41 : decode cX12_order 41 = .ok (.iinc 2 1, 3) := by decide +kernel
theorem dX12_order_44 : decode cX12_order 44 = .ok (.goto (-24), 3) := by decide +kernel
theorem dX12_order_47 : decode cX12_order 47 = .ok (.aload_n 0, 1) := by decide +kernel
theorem dX12_order_48 : decode cX12_order 48 = .ok (.iconst 0, 1) := by decide +kernel
theorem dX12_order_49 : decode cX12_order 49 = .ok (.putfield 234, 3) := by decide +kernel
theorem dX12_order_52 : decode cX12_order 52 = .ok (.aload_n 0, 1) := by decide +kernel
theorem dX12_order_53 : decode cX12_order 53 = .ok (.iconst (-1), 1) := by decide +kernel
theorem dX12_order_54 : decode cX12_order 54 = .ok (.putfield 102, 3) := by decide +kernel
theorem dX12_order_57 : decode cX12_order 57 = .ok (.iconst 1, 1) := by decide +kernel
theorem dX12_order_58 : decode cX12_order 58 = .ok (.ireturn, 1) := by decide +kernel
theorem dX12_arrange_0 : decode cX12_arrange 0 = .ok (.aload_n 0, 1) := by decide +kernel
theorem dX12_arrange_1 : decode cX12_arrange 1 = .ok (.iconst 0, 1) := by decide +kernel
theorem dX12_arrange_2 : decode cX12_arrange 2 = .ok (.putfield 132, 3) := by decide +kernel
theorem dX12_arrange_5 : decode cX12_arrange 5 = .ok (.iload_n 1, 1) := by decide +kernel
theorem dX12_arrange_6 : decode cX12_arrange 6 = .ok (.aload_n 0, 1) := by decide +kernel
theorem dX12_arrange_7 : decode cX12_arrange 7 = .ok (.getfield 185, 3) := by decide +kernel
theorem dX12_arrange_10 : decode cX12_arrange 10 = .ok (.invokestatic 272, 3) := by decide +kernel
theorem dX12_arrange_13 : decode cX12_arrange 13 = .ok (.ifCond .ne 5, 3) := by decide +kernel
theorem dX12_arrange_16 : decode cX12_arrange 16 = .ok (.iconst 0, 1) := by decide +kernel
theorem dX12_arrange_17 : decode cX12_arrange 17 = .ok (.ireturn, 1) := by decide +kernel
theorem dX12_arrange_18 : decode cX12_arrange 18 = .ok (.iconst 0, 1) := by decide +kernel
theorem dX12_arrange_19 : decode cX12_arrange 19 = .ok (.istore_n 2, 1) := by decide +kernel
theorem dX12_arrange_20 : decode cX12_arrange 20 = .ok (.iload_n 2, 1) := by decide +kernel
theorem dX12_arrange_21 : decode cX12_arrange 21 = .ok (.aload_n 0, 1) := by decide +kernel
theorem dX12_arrange_22 : decode cX12_arrange 22 = .ok (.getfield 185, 3) := by decide +kernel
theorem dX12_arrange_25 : decode cX12_arrange 25 = .ok (.if_icmp .ge 22, 3) := by decide +kernel
theorem dX12_arrange_28 : decode cX12_arrange 28 = .ok (.aload_n 0, 1) := by decide +kernel
theorem dX12_arrange_29 : decode cX12_arrange 29 = .ok (.getfield 62, 3) := by decide +kernel
theorem dX12_arrange_32 : decode cX12_arrange 32 = .ok (.iload_n 2, 1) := by decide +kernel
theorem dX12_arrange_33 : decode cX12_arrange 33 = .ok (.iload_n 1, 1) := by decide +kernel
theorem dX12_arrange_34 : decode cX12_arrange 34 = .ok (.iconst 2, 1) := by decide +kernel
theorem dX12_arrange_35 : decode cX12_arrange 35 = .ok (.iload_n 2, 1) := by decide +kernel
theorem dX12_arrange_36 : decode cX12_arrange 36 = .ok (.imul, 1) := by decide +kernel
theorem dX12_arrange_37 : decode cX12_arrange 37 = .ok (.ishr, 1) := by decide +kernel
theorem dX12_arrange_38 : decode cX12_arrange 38 = .ok (.iconst 3, 1) := by decide +kernel
theorem dX12_arrange_39 : decode cX12_arrange 39 = .ok (.iand, 1) := by decide +kernel
theorem dX12_arrange_40 : decode cX12_arrange 40 = .ok (.iastore, 1) := by decide +kernel
theorem dX12_arrange_41 : decode cX12_arrange 41 = .ok (.iinc 2 1, 3) := by decide +kernel
theorem dX12_arrange_44 : decode cX12_arrange 44 = .ok (.goto (-24), 3) := by decide +kernel
theorem dX12_arrange_47 : decode cX12_arrange 47 = .ok (.aload_n 0, 1) := by decide +kernel
theorem dX12_arrange_48 : decode cX12_arrange 48 = .ok (.iconst 0, 1) := by decide +kernel
theorem dX12_arrange_49 : decode cX12_arrange 49 = .ok (.putfield 234, 3) := by decide +kernel
theorem dX12_arrange_52 : decode cX12_arrange 52 = .ok (.aload_n 0, 1) := by decide +kernel
theorem dX12_arrange_53 : decode cX12_arrange 53 = .ok (.iconst (-1), 1) := by decide +kernel
theorem dX12_arrange_54 : decode cX12_arrange 54 = .ok (.putfield 102, 3) := by decide +kernel
theorem dX12_arrange_57 : decode cX12_arrange 57 = .ok (.iconst 1, 1) := by decide +kernel
theorem dX12_arrange_58 : decode cX12_arrange 58 = .ok (.ireturn, 1) := by decide +kernel
theorem dX12_placedIn_0 : decode cX12_placedIn 0 = .ok (.iconst 0, 1) := by decide +kernel
theorem dX12_placedIn_1 : decode cX12_placedIn 1 = .ok (.istore_n 3, 1) := by decide +kernel
theorem dX12_placedIn_2 : decode cX12_placedIn 2 = .ok (.iload_n 3, 1) := by decide +kernel
theorem dX12_placedIn_3 : decode cX12_placedIn 3 = .ok (.iload_n 2, 1) := by decide +kernel
theorem dX12_placedIn_4 : decode cX12_placedIn 4 = .ok (.if_icmp .ge 26, 3) := by decide +kernel
theorem dX12_placedIn_7 : decode cX12_placedIn 7 = .ok (.aload_n 0, 1) := by decide +kernel
theorem dX12_placedIn_8 : decode cX12_placedIn 8 = .ok (.getfield 65, 3) := by decide +kernel
theorem dX12_placedIn_11 : decode cX12_placedIn 11 = .ok (.iload_n 3, 1) := by decide +kernel
theorem dX12_placedIn_12 : decode cX12_placedIn 12 = .ok (.iaload, 1) := by decide +kernel
theorem dX12_placedIn_13 : decode cX12_placedIn 13 = .ok (.iload_n 1, 1) := by decide +kernel
theorem dX12_placedIn_14 : decode cX12_placedIn 14 = .ok (.if_icmp .ne 10, 3) := by decide +kernel
theorem dX12_placedIn_17 : decode cX12_placedIn 17 = .ok (.aload_n 0, 1) := by decide +kernel
theorem dX12_placedIn_18 : decode cX12_placedIn 18 = .ok (.getfield 68, 3) := by decide +kernel
theorem dX12_placedIn_21 : decode cX12_placedIn 21 = .ok (.iload_n 3, 1) := by decide +kernel
theorem dX12_placedIn_22 : decode cX12_placedIn 22 = .ok (.iaload, 1) := by decide +kernel
theorem dX12_placedIn_23 : decode cX12_placedIn 23 = .ok (.ireturn, 1) := by decide +kernel
theorem dX12_placedIn_24 : decode cX12_placedIn 24 = .ok (.iinc 3 1, 3) := by decide +kernel
theorem dX12_placedIn_27 : decode cX12_placedIn 27 = .ok (.goto (-25), 3) := by decide +kernel
theorem dX12_placedIn_30 : decode cX12_placedIn 30 = .ok (.iconst (-1), 1) := by decide +kernel
theorem dX12_placedIn_31 : decode cX12_placedIn 31 = .ok (.ireturn, 1) := by decide +kernel
theorem dX12_isAsPlaced_0 : decode cX12_isAsPlaced 0 = .ok (.iconst 0, 1) := by decide +kernel
theorem dX12_isAsPlaced_1 : decode cX12_isAsPlaced 1 = .ok (.istore_n 3, 1) := by decide +kernel
theorem dX12_isAsPlaced_2 : decode cX12_isAsPlaced 2 = .ok (.iload_n 3, 1) := by decide +kernel
theorem dX12_isAsPlaced_3 : decode cX12_isAsPlaced 3 = .ok (.iload_n 2, 1) := by decide +kernel
theorem dX12_isAsPlaced_4 : decode cX12_isAsPlaced 4 = .ok (.if_icmp .ge 36, 3) := by decide +kernel
theorem dX12_isAsPlaced_7 : decode cX12_isAsPlaced 7 = .ok (.aload_n 0, 1) := by decide +kernel
theorem dX12_isAsPlaced_8 : decode cX12_isAsPlaced 8 = .ok (.getfield 51, 3) := by decide +kernel
theorem dX12_isAsPlaced_11 : decode cX12_isAsPlaced 11 = .ok (.bipush 12, 2) := by decide +kernel
theorem dX12_isAsPlaced_13 : decode cX12_isAsPlaced 13 = .ok (.iload_n 1, 1) := by decide +kernel
theorem dX12_isAsPlaced_14 : decode cX12_isAsPlaced 14 = .ok (.imul, 1) := by decide +kernel
theorem dX12_isAsPlaced_15 : decode cX12_isAsPlaced 15 = .ok (.aload_n 0, 1) := by decide +kernel
theorem dX12_isAsPlaced_16 : decode cX12_isAsPlaced 16 = .ok (.getfield 65, 3) := by decide +kernel
theorem dX12_isAsPlaced_19 : decode cX12_isAsPlaced 19 = .ok (.iload_n 3, 1) := by decide +kernel
theorem dX12_isAsPlaced_20 : decode cX12_isAsPlaced 20 = .ok (.iaload, 1) := by decide +kernel
theorem dX12_isAsPlaced_21 : decode cX12_isAsPlaced 21 = .ok (.iadd, 1) := by decide +kernel
theorem dX12_isAsPlaced_22 : decode cX12_isAsPlaced 22 = .ok (.baload, 1) := by decide +kernel
theorem dX12_isAsPlaced_23 : decode cX12_isAsPlaced 23 = .ok (.aload_n 0, 1) := by decide +kernel
theorem dX12_isAsPlaced_24 : decode cX12_isAsPlaced 24 = .ok (.getfield 68, 3) := by decide +kernel
theorem dX12_isAsPlaced_27 : decode cX12_isAsPlaced 27 = .ok (.iload_n 3, 1) := by decide +kernel
theorem dX12_isAsPlaced_28 : decode cX12_isAsPlaced 28 = .ok (.iaload, 1) := by decide +kernel
theorem dX12_isAsPlaced_29 : decode cX12_isAsPlaced 29 = .ok (.if_icmp .eq 5, 3) := by decide +kernel
theorem dX12_isAsPlaced_32 : decode cX12_isAsPlaced 32 = .ok (.iconst 0, 1) := by decide +kernel
theorem dX12_isAsPlaced_33 : decode cX12_isAsPlaced 33 = .ok (.ireturn, 1) := by decide +kernel
theorem dX12_isAsPlaced_34 : decode cX12_isAsPlaced 34 = .ok (.iinc 3 1, 3) := by decide +kernel
theorem dX12_isAsPlaced_37 : decode cX12_isAsPlaced 37 = .ok (.goto (-35), 3) := by decide +kernel
theorem dX12_isAsPlaced_40 : decode cX12_isAsPlaced 40 = .ok (.iconst 1, 1) := by decide +kernel
theorem dX12_isAsPlaced_41 : decode cX12_isAsPlaced 41 = .ok (.ireturn, 1) := by decide +kernel
theorem dX12_shut_0 : decode cX12_shut 0 = .ok (.iconst 0, 1) := by decide +kernel
theorem dX12_shut_1 : decode cX12_shut 1 = .ok (.istore 4, 2) := by decide +kernel
theorem dX12_shut_3 : decode cX12_shut 3 = .ok (.iload 4, 2) := by decide +kernel
theorem dX12_shut_5 : decode cX12_shut 5 = .ok (.iload_n 3, 1) := by decide +kernel
theorem dX12_shut_6 : decode cX12_shut 6 = .ok (.if_icmp .ge 43, 3) := by decide +kernel
theorem dX12_shut_9 : decode cX12_shut 9 = .ok (.aload_n 0, 1) := by decide +kernel
theorem dX12_shut_10 : decode cX12_shut 10 = .ok (.getfield 65, 3) := by decide +kernel
theorem dX12_shut_13 : decode cX12_shut 13 = .ok (.iload 4, 2) := by decide +kernel
theorem dX12_shut_15 : decode cX12_shut 15 = .ok (.iaload, 1) := by decide +kernel
theorem dX12_shut_16 : decode cX12_shut 16 = .ok (.aload_n 0, 1) := by decide +kernel
theorem dX12_shut_17 : decode cX12_shut 17 = .ok (.getfield 185, 3) := by decide +kernel
theorem dX12_shut_20 : decode cX12_shut 20 = .ok (.idiv, 1) := by decide +kernel
theorem dX12_shut_21 : decode cX12_shut 21 = .ok (.iload_n 1, 1) := by decide +kernel
theorem dX12_shut_22 : decode cX12_shut 22 = .ok (.aload_n 0, 1) := by decide +kernel
theorem dX12_shut_23 : decode cX12_shut 23 = .ok (.getfield 185, 3) := by decide +kernel
theorem dX12_shut_26 : decode cX12_shut 26 = .ok (.idiv, 1) := by decide +kernel
theorem dX12_shut_27 : decode cX12_shut 27 = .ok (.if_icmp .ne 16, 3) := by decide +kernel
theorem dX12_shut_30 : decode cX12_shut 30 = .ok (.aload_n 0, 1) := by decide +kernel
theorem dX12_shut_31 : decode cX12_shut 31 = .ok (.getfield 68, 3) := by decide +kernel
theorem dX12_shut_34 : decode cX12_shut 34 = .ok (.iload 4, 2) := by decide +kernel
theorem dX12_shut_36 : decode cX12_shut 36 = .ok (.iaload, 1) := by decide +kernel
theorem dX12_shut_37 : decode cX12_shut 37 = .ok (.iload_n 2, 1) := by decide +kernel
theorem dX12_shut_38 : decode cX12_shut 38 = .ok (.if_icmp .ne 5, 3) := by decide +kernel
theorem dX12_shut_41 : decode cX12_shut 41 = .ok (.iconst 1, 1) := by decide +kernel
theorem dX12_shut_42 : decode cX12_shut 42 = .ok (.ireturn, 1) := by decide +kernel
theorem dX12_shut_43 : decode cX12_shut 43 = .ok (.iinc 4 1, 3) := by decide +kernel
theorem dX12_shut_46 : decode cX12_shut 46 = .ok (.goto (-43), 3) := by decide +kernel
theorem dX12_shut_49 : decode cX12_shut 49 = .ok (.iconst 0, 1) := by decide +kernel
theorem dX12_shut_50 : decode cX12_shut 50 = .ok (.istore 4, 2) := by decide +kernel
theorem dX12_shut_52 : decode cX12_shut 52 = .ok (.iload 4, 2) := by decide +kernel
theorem dX12_shut_54 : decode cX12_shut 54 = .ok (.aload_n 0, 1) := by decide +kernel
theorem dX12_shut_55 : decode cX12_shut 55 = .ok (.getfield 248, 3) := by decide +kernel
theorem dX12_shut_58 : decode cX12_shut 58 = .ok (.if_icmp .ge 47, 3) := by decide +kernel
theorem dX12_shut_61 : decode cX12_shut 61 = .ok (.aload_n 0, 1) := by decide +kernel
theorem dX12_shut_62 : decode cX12_shut 62 = .ok (.getfield 47, 3) := by decide +kernel
theorem dX12_shut_65 : decode cX12_shut 65 = .ok (.iload 4, 2) := by decide +kernel
theorem dX12_shut_67 : decode cX12_shut 67 = .ok (.iaload, 1) := by decide +kernel
theorem dX12_shut_68 : decode cX12_shut 68 = .ok (.ifCond .ne 31, 3) := by decide +kernel
theorem dX12_shut_71 : decode cX12_shut 71 = .ok (.aload_n 0, 1) := by decide +kernel
theorem dX12_shut_72 : decode cX12_shut 72 = .ok (.getfield 51, 3) := by decide +kernel
theorem dX12_shut_75 : decode cX12_shut 75 = .ok (.bipush 12, 2) := by decide +kernel
theorem dX12_shut_77 : decode cX12_shut 77 = .ok (.iload 4, 2) := by decide +kernel
theorem dX12_shut_79 : decode cX12_shut 79 = .ok (.imul, 1) := by decide +kernel
theorem dX12_shut_80 : decode cX12_shut 80 = .ok (.iload_n 1, 1) := by decide +kernel
theorem dX12_shut_81 : decode cX12_shut 81 = .ok (.iadd, 1) := by decide +kernel
theorem dX12_shut_82 : decode cX12_shut 82 = .ok (.baload, 1) := by decide +kernel
theorem dX12_shut_83 : decode cX12_shut 83 = .ok (.iload_n 2, 1) := by decide +kernel
theorem dX12_shut_84 : decode cX12_shut 84 = .ok (.if_icmp .ne 15, 3) := by decide +kernel
theorem dX12_shut_87 : decode cX12_shut 87 = .ok (.aload_n 0, 1) := by decide +kernel
theorem dX12_shut_88 : decode cX12_shut 88 = .ok (.iload 4, 2) := by decide +kernel
theorem dX12_shut_90 : decode cX12_shut 90 = .ok (.iload_n 3, 1) := by decide +kernel
theorem dX12_shut_91 : decode cX12_shut 91 = .ok (.invokevirtual 275, 3) := by decide +kernel
theorem dX12_shut_94 : decode cX12_shut 94 = .ok (.ifCond .eq 5, 3) := by decide +kernel
theorem dX12_shut_97 : decode cX12_shut 97 = .ok (.iconst 0, 1) := by decide +kernel
theorem dX12_shut_98 : decode cX12_shut 98 = .ok (.ireturn, 1) := by decide +kernel
theorem dX12_shut_99 : decode cX12_shut 99 = .ok (.iinc 4 1, 3) := by decide +kernel
theorem dX12_shut_102 : decode cX12_shut 102 = .ok (.goto (-50), 3) := by decide +kernel
theorem dX12_shut_105 : decode cX12_shut 105 = .ok (.iconst 2, 1) := by decide +kernel
theorem dX12_shut_106 : decode cX12_shut 106 = .ok (.ireturn, 1) := by decide +kernel
theorem dX12_ball_0 : decode cX12_ball 0 = .ok (.aload_n 0, 1) := by decide +kernel
theorem dX12_ball_1 : decode cX12_ball 1 = .ok (.iconst 0, 1) := by decide +kernel
theorem dX12_ball_2 : decode cX12_ball 2 = .ok (.putfield 132, 3) := by decide +kernel
theorem dX12_ball_5 : decode cX12_ball 5 = .ok (.aload_n 0, 1) := by decide +kernel
theorem dX12_ball_6 : decode cX12_ball 6 = .ok (.iload_n 1, 1) := by decide +kernel
theorem dX12_ball_7 : decode cX12_ball 7 = .ok (.invokevirtual 269, 3) := by decide +kernel
theorem dX12_ball_10 : decode cX12_ball 10 = .ok (.ifCond .eq 46, 3) := by decide +kernel
theorem dX12_ball_13 : decode cX12_ball 13 = .ok (.aload_n 0, 1) := by decide +kernel
theorem dX12_ball_14 : decode cX12_ball 14 = .ok (.getfield 251, 3) := by decide +kernel
theorem dX12_ball_17 : decode cX12_ball 17 = .ok (.ifCond .eq 39, 3) := by decide +kernel
theorem dX12_ball_20 : decode cX12_ball 20 = .ok (.aload_n 0, 1) := by decide +kernel
theorem dX12_ball_21 : decode cX12_ball 21 = .ok (.iload_n 1, 1) := by decide +kernel
theorem dX12_ball_22 : decode cX12_ball 22 = .ok (.aload_n 0, 1) := by decide +kernel
theorem dX12_ball_23 : decode cX12_ball 23 = .ok (.getfield 234, 3) := by decide +kernel
theorem dX12_ball_26 : decode cX12_ball 26 = .ok (.invokevirtual 278, 3) := by decide +kernel
theorem dX12_ball_29 : decode cX12_ball 29 = .ok (.iconst (-1), 1) := by decide +kernel
theorem dX12_ball_30 : decode cX12_ball 30 = .ok (.if_icmp .ne 26, 3) := by decide +kernel
theorem dX12_ball_33 : decode cX12_ball 33 = .ok (.iload_n 1, 1) := by decide +kernel
theorem dX12_ball_34 : decode cX12_ball 34 = .ok (.aload_n 0, 1) := by decide +kernel
theorem dX12_ball_35 : decode cX12_ball 35 = .ok (.getfield 185, 3) := by decide +kernel
theorem dX12_ball_38 : decode cX12_ball 38 = .ok (.idiv, 1) := by decide +kernel
theorem dX12_ball_39 : decode cX12_ball 39 = .ok (.aload_n 0, 1) := by decide +kernel
theorem dX12_ball_40 : decode cX12_ball 40 = .ok (.getfield 59, 3) := by decide +kernel
theorem dX12_ball_43 : decode cX12_ball 43 = .ok (.aload_n 0, 1) := by decide +kernel
theorem dX12_ball_44 : decode cX12_ball 44 = .ok (.getfield 234, 3) := by decide +kernel
theorem dX12_ball_47 : decode cX12_ball 47 = .ok (.aload_n 0, 1) := by decide +kernel
theorem dX12_ball_48 : decode cX12_ball 48 = .ok (.getfield 185, 3) := by decide +kernel
theorem dX12_ball_51 : decode cX12_ball 51 = .ok (.idiv, 1) := by decide +kernel
theorem dX12_ball_52 : decode cX12_ball 52 = .ok (.iaload, 1) := by decide +kernel
theorem dX12_ball_53 : decode cX12_ball 53 = .ok (.if_icmp .eq 5, 3) := by decide +kernel
theorem dX12_ball_56 : decode cX12_ball 56 = .ok (.iconst (-1), 1) := by decide +kernel
theorem dX12_ball_57 : decode cX12_ball 57 = .ok (.ireturn, 1) := by decide +kernel
theorem dX12_ball_58 : decode cX12_ball 58 = .ok (.iconst 0, 1) := by decide +kernel
theorem dX12_ball_59 : decode cX12_ball 59 = .ok (.istore_n 2, 1) := by decide +kernel
theorem dX12_ball_60 : decode cX12_ball 60 = .ok (.aload_n 0, 1) := by decide +kernel
theorem dX12_ball_61 : decode cX12_ball 61 = .ok (.iload_n 1, 1) := by decide +kernel
theorem dX12_ball_62 : decode cX12_ball 62 = .ok (.aload_n 0, 1) := by decide +kernel
theorem dX12_ball_63 : decode cX12_ball 63 = .ok (.getfield 62, 3) := by decide +kernel
theorem dX12_ball_66 : decode cX12_ball 66 = .ok (.iload_n 2, 1) := by decide +kernel
theorem dX12_ball_67 : decode cX12_ball 67 = .ok (.iaload, 1) := by decide +kernel
theorem dX12_ball_68 : decode cX12_ball 68 = .ok (.aload_n 0, 1) := by decide +kernel
theorem dX12_ball_69 : decode cX12_ball 69 = .ok (.getfield 234, 3) := by decide +kernel
theorem dX12_ball_72 : decode cX12_ball 72 = .ok (.invokevirtual 281, 3) := by decide +kernel
theorem dX12_ball_75 : decode cX12_ball 75 = .ok (.ifCond .eq 9, 3) := by decide +kernel
theorem dX12_ball_78 : decode cX12_ball 78 = .ok (.iinc 2 1, 3) := by decide +kernel
theorem dX12_ball_81 : decode cX12_ball 81 = .ok (.goto (-21), 3) := by decide +kernel
theorem dX12_ball_84 : decode cX12_ball 84 = .ok (.aload_n 0, 1) := by decide +kernel
theorem dX12_ball_85 : decode cX12_ball 85 = .ok (.getfield 65, 3) := by decide +kernel
theorem dX12_ball_88 : decode cX12_ball 88 = .ok (.aload_n 0, 1) := by decide +kernel
theorem dX12_ball_89 : decode cX12_ball 89 = .ok (.getfield 234, 3) := by decide +kernel
theorem dX12_ball_92 : decode cX12_ball 92 = .ok (.iload_n 1, 1) := by decide +kernel
theorem dX12_ball_93 : decode cX12_ball 93 = .ok (.iastore, 1) := by decide +kernel
theorem dX12_ball_94 : decode cX12_ball 94 = .ok (.aload_n 0, 1) := by decide +kernel
theorem dX12_ball_95 : decode cX12_ball 95 = .ok (.getfield 68, 3) := by decide +kernel
theorem dX12_ball_98 : decode cX12_ball 98 = .ok (.aload_n 0, 1) := by decide +kernel
theorem dX12_ball_99 : decode cX12_ball 99 = .ok (.getfield 234, 3) := by decide +kernel
theorem dX12_ball_102 : decode cX12_ball 102 = .ok (.aload_n 0, 1) := by decide +kernel
theorem dX12_ball_103 : decode cX12_ball 103 = .ok (.getfield 62, 3) := by decide +kernel
theorem dX12_ball_106 : decode cX12_ball 106 = .ok (.iload_n 2, 1) := by decide +kernel
theorem dX12_ball_107 : decode cX12_ball 107 = .ok (.iaload, 1) := by decide +kernel
theorem dX12_ball_108 : decode cX12_ball 108 = .ok (.iastore, 1) := by decide +kernel
theorem dX12_ball_109 : decode cX12_ball 109 = .ok (.aload_n 0, 1) := by decide +kernel
theorem dX12_ball_110 : decode cX12_ball 110 = .ok (.dup, 1) := by decide +kernel
theorem dX12_ball_111 : decode cX12_ball 111 = .ok (.getfield 234, 3) := by decide +kernel
theorem dX12_ball_114 : decode cX12_ball 114 = .ok (.iconst 1, 1) := by decide +kernel
theorem dX12_ball_115 : decode cX12_ball 115 = .ok (.iadd, 1) := by decide +kernel
theorem dX12_ball_116 : decode cX12_ball 116 = .ok (.putfield 234, 3) := by decide +kernel
theorem dX12_ball_119 : decode cX12_ball 119 = .ok (.aload_n 0, 1) := by decide +kernel
theorem dX12_ball_120 : decode cX12_ball 120 = .ok (.iconst (-1), 1) := by decide +kernel
theorem dX12_ball_121 : decode cX12_ball 121 = .ok (.putfield 102, 3) := by decide +kernel
theorem dX12_ball_124 : decode cX12_ball 124 = .ok (.aload_n 0, 1) := by decide +kernel
theorem dX12_ball_125 : decode cX12_ball 125 = .ok (.getfield 62, 3) := by decide +kernel
theorem dX12_ball_128 : decode cX12_ball 128 = .ok (.iload_n 2, 1) := by decide +kernel
theorem dX12_ball_129 : decode cX12_ball 129 = .ok (.iaload, 1) := by decide +kernel
theorem dX12_ball_130 : decode cX12_ball 130 = .ok (.ireturn, 1) := by decide +kernel
theorem dX12_whyOf_0 : decode cX12_whyOf 0 = .ok (.aload_n 0, 1) := by decide +kernel
theorem dX12_whyOf_1 : decode cX12_whyOf 1 = .ok (.getfield 234, 3) := by decide +kernel
theorem dX12_whyOf_4 : decode cX12_whyOf 4 = .ok (.ifCond .eq 15, 3) := by decide +kernel
theorem dX12_whyOf_7 : decode cX12_whyOf 7 = .ok (.iload_n 1, 1) := by decide +kernel
theorem dX12_whyOf_8 : decode cX12_whyOf 8 = .ok (.ifCond .lt 11, 3) := by decide +kernel
theorem dX12_whyOf_11 : decode cX12_whyOf 11 = .ok (.iload_n 1, 1) := by decide +kernel
theorem dX12_whyOf_12 : decode cX12_whyOf 12 = .ok (.aload_n 0, 1) := by decide +kernel
theorem dX12_whyOf_13 : decode cX12_whyOf 13 = .ok (.getfield 185, 3) := by decide +kernel
theorem dX12_whyOf_16 : decode cX12_whyOf 16 = .ok (.if_icmp .lt 5, 3) := by decide +kernel
theorem dX12_whyOf_19 : decode cX12_whyOf 19 = .ok (.iconst (-1), 1) := by decide +kernel
theorem dX12_whyOf_20 : decode cX12_whyOf 20 = .ok (.ireturn, 1) := by decide +kernel
theorem dX12_whyOf_21 : decode cX12_whyOf 21 = .ok (.aload_n 0, 1) := by decide +kernel
theorem dX12_whyOf_22 : decode cX12_whyOf 22 = .ok (.getfield 68, 3) := by decide +kernel
theorem dX12_whyOf_25 : decode cX12_whyOf 25 = .ok (.aload_n 0, 1) := by decide +kernel
theorem dX12_whyOf_26 : decode cX12_whyOf 26 = .ok (.getfield 234, 3) := by decide +kernel
theorem dX12_whyOf_29 : decode cX12_whyOf 29 = .ok (.iconst 1, 1) := by decide +kernel
theorem dX12_whyOf_30 : decode cX12_whyOf 30 = .ok (.isub, 1) := by decide +kernel
theorem dX12_whyOf_31 : decode cX12_whyOf 31 = .ok (.iaload, 1) := by decide +kernel
theorem dX12_whyOf_32 : decode cX12_whyOf 32 = .ok (.iload_n 1, 1) := by decide +kernel
theorem dX12_whyOf_33 : decode cX12_whyOf 33 = .ok (.if_icmp .ne 5, 3) := by decide +kernel
theorem dX12_whyOf_36 : decode cX12_whyOf 36 = .ok (.iconst 0, 1) := by decide +kernel
theorem dX12_whyOf_37 : decode cX12_whyOf 37 = .ok (.ireturn, 1) := by decide +kernel
theorem dX12_whyOf_38 : decode cX12_whyOf 38 = .ok (.iconst 0, 1) := by decide +kernel
theorem dX12_whyOf_39 : decode cX12_whyOf 39 = .ok (.istore_n 2, 1) := by decide +kernel
theorem dX12_whyOf_40 : decode cX12_whyOf 40 = .ok (.aload_n 0, 1) := by decide +kernel
theorem dX12_whyOf_41 : decode cX12_whyOf 41 = .ok (.getfield 62, 3) := by decide +kernel
theorem dX12_whyOf_44 : decode cX12_whyOf 44 = .ok (.iload_n 2, 1) := by decide +kernel
theorem dX12_whyOf_45 : decode cX12_whyOf 45 = .ok (.iaload, 1) := by decide +kernel
theorem dX12_whyOf_46 : decode cX12_whyOf 46 = .ok (.iload_n 1, 1) := by decide +kernel
theorem dX12_whyOf_47 : decode cX12_whyOf 47 = .ok (.if_icmp .eq 31, 3) := by decide +kernel
theorem dX12_whyOf_50 : decode cX12_whyOf 50 = .ok (.aload_n 0, 1) := by decide +kernel
theorem dX12_whyOf_51 : decode cX12_whyOf 51 = .ok (.getfield 62, 3) := by decide +kernel
theorem dX12_whyOf_54 : decode cX12_whyOf 54 = .ok (.iload_n 2, 1) := by decide +kernel
theorem dX12_whyOf_55 : decode cX12_whyOf 55 = .ok (.iaload, 1) := by decide +kernel
theorem dX12_whyOf_56 : decode cX12_whyOf 56 = .ok (.aload_n 0, 1) := by decide +kernel
theorem dX12_whyOf_57 : decode cX12_whyOf 57 = .ok (.getfield 68, 3) := by decide +kernel
theorem dX12_whyOf_60 : decode cX12_whyOf 60 = .ok (.aload_n 0, 1) := by decide +kernel
theorem dX12_whyOf_61 : decode cX12_whyOf 61 = .ok (.getfield 234, 3) := by decide +kernel
theorem dX12_whyOf_64 : decode cX12_whyOf 64 = .ok (.iconst 1, 1) := by decide +kernel
theorem dX12_whyOf_65 : decode cX12_whyOf 65 = .ok (.isub, 1) := by decide +kernel
theorem dX12_whyOf_66 : decode cX12_whyOf 66 = .ok (.iaload, 1) := by decide +kernel
theorem dX12_whyOf_67 : decode cX12_whyOf 67 = .ok (.if_icmp .ne 5, 3) := by decide +kernel
theorem dX12_whyOf_70 : decode cX12_whyOf 70 = .ok (.iconst 3, 1) := by decide +kernel
theorem dX12_whyOf_71 : decode cX12_whyOf 71 = .ok (.ireturn, 1) := by decide +kernel
theorem dX12_whyOf_72 : decode cX12_whyOf 72 = .ok (.iinc 2 1, 3) := by decide +kernel
theorem dX12_whyOf_75 : decode cX12_whyOf 75 = .ok (.goto (-35), 3) := by decide +kernel
theorem dX12_whyOf_78 : decode cX12_whyOf 78 = .ok (.aload_n 0, 1) := by decide +kernel
theorem dX12_whyOf_79 : decode cX12_whyOf 79 = .ok (.aload_n 0, 1) := by decide +kernel
theorem dX12_whyOf_80 : decode cX12_whyOf 80 = .ok (.getfield 65, 3) := by decide +kernel
theorem dX12_whyOf_83 : decode cX12_whyOf 83 = .ok (.aload_n 0, 1) := by decide +kernel
theorem dX12_whyOf_84 : decode cX12_whyOf 84 = .ok (.getfield 234, 3) := by decide +kernel
theorem dX12_whyOf_87 : decode cX12_whyOf 87 = .ok (.iconst 1, 1) := by decide +kernel
theorem dX12_whyOf_88 : decode cX12_whyOf 88 = .ok (.isub, 1) := by decide +kernel
theorem dX12_whyOf_89 : decode cX12_whyOf 89 = .ok (.iaload, 1) := by decide +kernel
theorem dX12_whyOf_90 : decode cX12_whyOf 90 = .ok (.iload_n 1, 1) := by decide +kernel
theorem dX12_whyOf_91 : decode cX12_whyOf 91 = .ok (.aload_n 0, 1) := by decide +kernel
theorem dX12_whyOf_92 : decode cX12_whyOf 92 = .ok (.getfield 234, 3) := by decide +kernel
theorem dX12_whyOf_95 : decode cX12_whyOf 95 = .ok (.iconst 1, 1) := by decide +kernel
theorem dX12_whyOf_96 : decode cX12_whyOf 96 = .ok (.isub, 1) := by decide +kernel
theorem dX12_whyOf_97 : decode cX12_whyOf 97 = .ok (.invokevirtual 281, 3) := by decide +kernel
theorem dX12_whyOf_100 : decode cX12_whyOf 100 = .ok (.ireturn, 1) := by decide +kernel
theorem dX12_why_0 : decode cX12_why 0 = .ok (.aload_n 0, 1) := by decide +kernel
theorem dX12_why_1 : decode cX12_why 1 = .ok (.iconst 0, 1) := by decide +kernel
theorem dX12_why_2 : decode cX12_why 2 = .ok (.putfield 132, 3) := by decide +kernel
theorem dX12_why_5 : decode cX12_why 5 = .ok (.aload_n 0, 1) := by decide +kernel
theorem dX12_why_6 : decode cX12_why 6 = .ok (.iload_n 1, 1) := by decide +kernel
theorem dX12_why_7 : decode cX12_why 7 = .ok (.invokevirtual 285, 3) := by decide +kernel
theorem dX12_why_10 : decode cX12_why 10 = .ok (.ireturn, 1) := by decide +kernel
theorem dX12_blame_0 : decode cX12_blame 0 = .ok (.aload_n 0, 1) := by decide +kernel
theorem dX12_blame_1 : decode cX12_blame 1 = .ok (.iconst 0, 1) := by decide +kernel
theorem dX12_blame_2 : decode cX12_blame 2 = .ok (.putfield 132, 3) := by decide +kernel
theorem dX12_blame_5 : decode cX12_blame 5 = .ok (.aload_n 0, 1) := by decide +kernel
theorem dX12_blame_6 : decode cX12_blame 6 = .ok (.iload_n 1, 1) := by decide +kernel
theorem dX12_blame_7 : decode cX12_blame 7 = .ok (.invokevirtual 285, 3) := by decide +kernel
theorem dX12_blame_10 : decode cX12_blame 10 = .ok (.iconst 2, 1) := by decide +kernel
theorem dX12_blame_11 : decode cX12_blame 11 = .ok (.if_icmp .eq 5, 3) := by decide +kernel
theorem dX12_blame_14 : decode cX12_blame 14 = .ok (.iconst (-1), 1) := by decide +kernel
theorem dX12_blame_15 : decode cX12_blame 15 = .ok (.ireturn, 1) := by decide +kernel
theorem dX12_blame_16 : decode cX12_blame 16 = .ok (.iconst 0, 1) := by decide +kernel
theorem dX12_blame_17 : decode cX12_blame 17 = .ok (.istore_n 2, 1) := by decide +kernel
theorem dX12_blame_18 : decode cX12_blame 18 = .ok (.iload_n 2, 1) := by decide +kernel
theorem dX12_blame_19 : decode cX12_blame 19 = .ok (.sipush 1024, 3) := by decide +kernel
theorem dX12_blame_22 : decode cX12_blame 22 = .ok (.if_icmp .ge 16, 3) := by decide +kernel
theorem dX12_blame_25 : decode cX12_blame 25 = .ok (.aload_n 0, 1) := by decide +kernel
theorem dX12_blame_26 : decode cX12_blame 26 = .ok (.getfield 55, 3) := by decide +kernel
theorem dX12_blame_29 : decode cX12_blame 29 = .ok (.iload_n 2, 1) := by decide +kernel
theorem dX12_blame_30 : decode cX12_blame 30 = .ok (.iconst 0, 1) := by decide +kernel
theorem dX12_blame_31 : decode cX12_blame 31 = .ok (.bastore, 1) := by decide +kernel
theorem dX12_blame_32 : decode cX12_blame 32 = .ok (.iinc 2 1, 3) := by decide +kernel
theorem dX12_blame_35 : decode cX12_blame 35 = .ok (.goto (-17), 3) := by decide +kernel
theorem dX12_blame_38 : decode cX12_blame 38 = .ok (.iconst 0, 1) := by decide +kernel
theorem dX12_blame_39 : decode cX12_blame 39 = .ok (.istore_n 2, 1) := by decide +kernel
theorem dX12_blame_40 : decode cX12_blame 40 = .ok (.iload_n 2, 1) := by decide +kernel
theorem dX12_blame_41 : decode cX12_blame 41 = .ok (.aload_n 0, 1) := by decide +kernel
theorem dX12_blame_42 : decode cX12_blame 42 = .ok (.getfield 248, 3) := by decide +kernel
theorem dX12_blame_45 : decode cX12_blame 45 = .ok (.if_icmp .ge 60, 3) := by decide +kernel
theorem dX12_blame_48 : decode cX12_blame 48 = .ok (.aload_n 0, 1) := by decide +kernel
theorem dX12_blame_49 : decode cX12_blame 49 = .ok (.getfield 51, 3) := by decide +kernel
theorem dX12_blame_52 : decode cX12_blame 52 = .ok (.bipush 12, 2) := by decide +kernel
theorem dX12_blame_54 : decode cX12_blame 54 = .ok (.iload_n 2, 1) := by decide +kernel
theorem dX12_blame_55 : decode cX12_blame 55 = .ok (.imul, 1) := by decide +kernel
theorem dX12_blame_56 : decode cX12_blame 56 = .ok (.aload_n 0, 1) := by decide +kernel
theorem dX12_blame_57 : decode cX12_blame 57 = .ok (.getfield 65, 3) := by decide +kernel
theorem dX12_blame_60 : decode cX12_blame 60 = .ok (.aload_n 0, 1) := by decide +kernel
theorem dX12_blame_61 : decode cX12_blame 61 = .ok (.getfield 234, 3) := by decide +kernel
theorem dX12_blame_64 : decode cX12_blame 64 = .ok (.iconst 1, 1) := by decide +kernel
theorem dX12_blame_65 : decode cX12_blame 65 = .ok (.isub, 1) := by decide +kernel
theorem dX12_blame_66 : decode cX12_blame 66 = .ok (.iaload, 1) := by decide +kernel
theorem dX12_blame_67 : decode cX12_blame 67 = .ok (.iadd, 1) := by decide +kernel
theorem dX12_blame_68 : decode cX12_blame 68 = .ok (.baload, 1) := by decide +kernel
theorem dX12_blame_69 : decode cX12_blame 69 = .ok (.iload_n 1, 1) := by decide +kernel
theorem dX12_blame_70 : decode cX12_blame 70 = .ok (.if_icmp .ne 29, 3) := by decide +kernel
theorem dX12_blame_73 : decode cX12_blame 73 = .ok (.aload_n 0, 1) := by decide +kernel
theorem dX12_blame_74 : decode cX12_blame 74 = .ok (.iload_n 2, 1) := by decide +kernel
theorem dX12_blame_75 : decode cX12_blame 75 = .ok (.aload_n 0, 1) := by decide +kernel
theorem dX12_blame_76 : decode cX12_blame 76 = .ok (.getfield 234, 3) := by decide +kernel
theorem dX12_blame_79 : decode cX12_blame 79 = .ok (.iconst 1, 1) := by decide +kernel
theorem dX12_blame_80 : decode cX12_blame 80 = .ok (.isub, 1) := by decide +kernel
theorem dX12_blame_81 : decode cX12_blame 81 = .ok (.invokevirtual 275, 3) := by decide +kernel
theorem dX12_blame_84 : decode cX12_blame 84 = .ok (.ifCond .eq 15, 3) := by decide +kernel
theorem dX12_blame_87 : decode cX12_blame 87 = .ok (.aload_n 0, 1) := by decide +kernel
theorem dX12_blame_88 : decode cX12_blame 88 = .ok (.getfield 55, 3) := by decide +kernel
theorem dX12_blame_91 : decode cX12_blame 91 = .ok (.aload_n 0, 1) := by decide +kernel
theorem dX12_blame_92 : decode cX12_blame 92 = .ok (.getfield 47, 3) := by decide +kernel
theorem dX12_blame_95 : decode cX12_blame 95 = .ok (.iload_n 2, 1) := by decide +kernel
theorem dX12_blame_96 : decode cX12_blame 96 = .ok (.iaload, 1) := by decide +kernel
theorem dX12_blame_97 : decode cX12_blame 97 = .ok (.iconst 1, 1) := by decide +kernel
theorem dX12_blame_98 : decode cX12_blame 98 = .ok (.bastore, 1) := by decide +kernel
theorem dX12_blame_99 : decode cX12_blame 99 = .ok (.iinc 2 1, 3) := by decide +kernel
theorem dX12_blame_102 : decode cX12_blame 102 = .ok (.goto (-62), 3) := by decide +kernel
theorem dX12_blame_105 : decode cX12_blame 105 = .ok (.aload_n 0, 1) := by decide +kernel
theorem dX12_blame_106 : decode cX12_blame 106 = .ok (.invokevirtual 266, 3) := by decide +kernel
theorem dX12_blame_109 : decode cX12_blame 109 = .ok (.ireturn, 1) := by decide +kernel
theorem dX12_clear_0 : decode cX12_clear 0 = .ok (.aload_n 0, 1) := by decide +kernel
theorem dX12_clear_1 : decode cX12_clear 1 = .ok (.iconst 0, 1) := by decide +kernel
theorem dX12_clear_2 : decode cX12_clear 2 = .ok (.putfield 132, 3) := by decide +kernel
theorem dX12_clear_5 : decode cX12_clear 5 = .ok (.aload_n 0, 1) := by decide +kernel
theorem dX12_clear_6 : decode cX12_clear 6 = .ok (.getfield 234, 3) := by decide +kernel
theorem dX12_clear_9 : decode cX12_clear 9 = .ok (.istore_n 1, 1) := by decide +kernel
theorem dX12_clear_10 : decode cX12_clear 10 = .ok (.aload_n 0, 1) := by decide +kernel
theorem dX12_clear_11 : decode cX12_clear 11 = .ok (.iconst 0, 1) := by decide +kernel
theorem dX12_clear_12 : decode cX12_clear 12 = .ok (.putfield 234, 3) := by decide +kernel
theorem dX12_clear_15 : decode cX12_clear 15 = .ok (.aload_n 0, 1) := by decide +kernel
theorem dX12_clear_16 : decode cX12_clear 16 = .ok (.iconst (-1), 1) := by decide +kernel
theorem dX12_clear_17 : decode cX12_clear 17 = .ok (.putfield 102, 3) := by decide +kernel
theorem dX12_clear_20 : decode cX12_clear 20 = .ok (.iload_n 1, 1) := by decide +kernel
theorem dX12_clear_21 : decode cX12_clear 21 = .ok (.ireturn, 1) := by decide +kernel
theorem dX12_undo_0 : decode cX12_undo 0 = .ok (.aload_n 0, 1) := by decide +kernel
theorem dX12_undo_1 : decode cX12_undo 1 = .ok (.iconst 0, 1) := by decide +kernel
theorem dX12_undo_2 : decode cX12_undo 2 = .ok (.putfield 132, 3) := by decide +kernel
theorem dX12_undo_5 : decode cX12_undo 5 = .ok (.aload_n 0, 1) := by decide +kernel
theorem dX12_undo_6 : decode cX12_undo 6 = .ok (.getfield 234, 3) := by decide +kernel
theorem dX12_undo_9 : decode cX12_undo 9 = .ok (.ifCond .ne 5, 3) := by decide +kernel
theorem dX12_undo_12 : decode cX12_undo 12 = .ok (.iconst (-1), 1) := by decide +kernel
theorem dX12_undo_13 : decode cX12_undo 13 = .ok (.ireturn, 1) := by decide +kernel
theorem dX12_undo_14 : decode cX12_undo 14 = .ok (.aload_n 0, 1) := by decide +kernel
theorem dX12_undo_15 : decode cX12_undo 15 = .ok (.dup, 1) := by decide +kernel
theorem dX12_undo_16 : decode cX12_undo 16 = .ok (.getfield 234, 3) := by decide +kernel
theorem dX12_undo_19 : decode cX12_undo 19 = .ok (.iconst 1, 1) := by decide +kernel
theorem dX12_undo_20 : decode cX12_undo 20 = .ok (.isub, 1) := by decide +kernel
theorem dX12_undo_21 : decode cX12_undo 21 = .ok (.putfield 234, 3) := by decide +kernel
theorem dX12_undo_24 : decode cX12_undo 24 = .ok (.aload_n 0, 1) := by decide +kernel
theorem dX12_undo_25 : decode cX12_undo 25 = .ok (.iconst (-1), 1) := by decide +kernel
theorem dX12_undo_26 : decode cX12_undo 26 = .ok (.putfield 102, 3) := by decide +kernel
theorem dX12_undo_29 : decode cX12_undo 29 = .ok (.aload_n 0, 1) := by decide +kernel
theorem dX12_undo_30 : decode cX12_undo 30 = .ok (.getfield 234, 3) := by decide +kernel
theorem dX12_undo_33 : decode cX12_undo 33 = .ok (.ireturn, 1) := by decide +kernel
theorem dX12_placed_0 : decode cX12_placed 0 = .ok (.aload_n 0, 1) := by decide +kernel
theorem dX12_placed_1 : decode cX12_placed 1 = .ok (.iconst 0, 1) := by decide +kernel
theorem dX12_placed_2 : decode cX12_placed 2 = .ok (.putfield 132, 3) := by decide +kernel
theorem dX12_placed_5 : decode cX12_placed 5 = .ok (.aload_n 0, 1) := by decide +kernel
theorem dX12_placed_6 : decode cX12_placed 6 = .ok (.iload_n 1, 1) := by decide +kernel
theorem dX12_placed_7 : decode cX12_placed 7 = .ok (.invokevirtual 269, 3) := by decide +kernel
theorem dX12_placed_10 : decode cX12_placed 10 = .ok (.ifCond .eq 15, 3) := by decide +kernel
theorem dX12_placed_13 : decode cX12_placed 13 = .ok (.aload_n 0, 1) := by decide +kernel
theorem dX12_placed_14 : decode cX12_placed 14 = .ok (.iload_n 1, 1) := by decide +kernel
theorem dX12_placed_15 : decode cX12_placed 15 = .ok (.aload_n 0, 1) := by decide +kernel
theorem dX12_placed_16 : decode cX12_placed 16 = .ok (.getfield 234, 3) := by decide +kernel
theorem dX12_placed_19 : decode cX12_placed 19 = .ok (.invokevirtual 278, 3) := by decide +kernel
theorem dX12_placed_22 : decode cX12_placed 22 = .ok (.goto 4, 3) := by decide +kernel
theorem dX12_placed_25 : decode cX12_placed 25 = .ok (.iconst (-1), 1) := by decide +kernel
theorem dX12_placed_26 : decode cX12_placed 26 = .ok (.ireturn, 1) := by decide +kernel
theorem dX12_ends_0 : decode cX12_ends 0 = .ok (.aload_n 0, 1) := by decide +kernel
theorem dX12_ends_1 : decode cX12_ends 1 = .ok (.iconst 0, 1) := by decide +kernel
theorem dX12_ends_2 : decode cX12_ends 2 = .ok (.putfield 132, 3) := by decide +kernel
theorem dX12_ends_5 : decode cX12_ends 5 = .ok (.aload_n 0, 1) := by decide +kernel
theorem dX12_ends_6 : decode cX12_ends 6 = .ok (.iload_n 1, 1) := by decide +kernel
theorem dX12_ends_7 : decode cX12_ends 7 = .ok (.invokevirtual 269, 3) := by decide +kernel
theorem dX12_ends_10 : decode cX12_ends 10 = .ok (.ifCond .ne 5, 3) := by decide +kernel
theorem dX12_ends_13 : decode cX12_ends 13 = .ok (.iconst (-1), 1) := by decide +kernel
theorem dX12_ends_14 : decode cX12_ends 14 = .ok (.ireturn, 1) := by decide +kernel
theorem dX12_ends_15 : decode cX12_ends 15 = .ok (.iconst 0, 1) := by decide +kernel
theorem dX12_ends_16 : decode cX12_ends 16 = .ok (.istore_n 2, 1) := by decide +kernel
theorem dX12_ends_17 : decode cX12_ends 17 = .ok (.iload_n 2, 1) := by decide +kernel
theorem dX12_ends_18 : decode cX12_ends 18 = .ok (.aload_n 0, 1) := by decide +kernel
theorem dX12_ends_19 : decode cX12_ends 19 = .ok (.getfield 248, 3) := by decide +kernel
theorem dX12_ends_22 : decode cX12_ends 22 = .ok (.if_icmp .ge 42, 3) := by decide +kernel
theorem dX12_ends_25 : decode cX12_ends 25 = .ok (.aload_n 0, 1) := by decide +kernel
theorem dX12_ends_26 : decode cX12_ends 26 = .ok (.getfield 47, 3) := by decide +kernel
theorem dX12_ends_29 : decode cX12_ends 29 = .ok (.iload_n 2, 1) := by decide +kernel
theorem dX12_ends_30 : decode cX12_ends 30 = .ok (.iaload, 1) := by decide +kernel
theorem dX12_ends_31 : decode cX12_ends 31 = .ok (.ifCond .ne 27, 3) := by decide +kernel
theorem dX12_ends_34 : decode cX12_ends 34 = .ok (.aload_n 0, 1) := by decide +kernel
theorem dX12_ends_35 : decode cX12_ends 35 = .ok (.iload_n 2, 1) := by decide +kernel
theorem dX12_ends_36 : decode cX12_ends 36 = .ok (.aload_n 0, 1) := by decide +kernel
theorem dX12_ends_37 : decode cX12_ends 37 = .ok (.getfield 234, 3) := by decide +kernel
theorem dX12_ends_40 : decode cX12_ends 40 = .ok (.invokevirtual 275, 3) := by decide +kernel
theorem dX12_ends_43 : decode cX12_ends 43 = .ok (.ifCond .eq 15, 3) := by decide +kernel
theorem dX12_ends_46 : decode cX12_ends 46 = .ok (.aload_n 0, 1) := by decide +kernel
theorem dX12_ends_47 : decode cX12_ends 47 = .ok (.getfield 51, 3) := by decide +kernel
theorem dX12_ends_50 : decode cX12_ends 50 = .ok (.bipush 12, 2) := by decide +kernel
theorem dX12_ends_52 : decode cX12_ends 52 = .ok (.iload_n 2, 1) := by decide +kernel
theorem dX12_ends_53 : decode cX12_ends 53 = .ok (.imul, 1) := by decide +kernel
theorem dX12_ends_54 : decode cX12_ends 54 = .ok (.iload_n 1, 1) := by decide +kernel
theorem dX12_ends_55 : decode cX12_ends 55 = .ok (.iadd, 1) := by decide +kernel
theorem dX12_ends_56 : decode cX12_ends 56 = .ok (.baload, 1) := by decide +kernel
theorem dX12_ends_57 : decode cX12_ends 57 = .ok (.ireturn, 1) := by decide +kernel
theorem dX12_ends_58 : decode cX12_ends 58 = .ok (.iinc 2 1, 3) := by decide +kernel
theorem dX12_ends_61 : decode cX12_ends 61 = .ok (.goto (-44), 3) := by decide +kernel
theorem dX12_ends_64 : decode cX12_ends 64 = .ok (.iconst (-1), 1) := by decide +kernel
theorem dX12_ends_65 : decode cX12_ends 65 = .ok (.ireturn, 1) := by decide +kernel
theorem dX12_turnsAs_0 : decode cX12_turnsAs 0 = .ok (.iconst 0, 1) := by decide +kernel
theorem dX12_turnsAs_1 : decode cX12_turnsAs 1 = .ok (.istore_n 1, 1) := by decide +kernel
theorem dX12_turnsAs_2 : decode cX12_turnsAs 2 = .ok (.iload_n 1, 1) := by decide +kernel
theorem dX12_turnsAs_3 : decode cX12_turnsAs 3 = .ok (.iconst 4, 1) := by decide +kernel
theorem dX12_turnsAs_4 : decode cX12_turnsAs 4 = .ok (.if_icmp .ge 33, 3) := by decide +kernel
theorem dX12_turnsAs_7 : decode cX12_turnsAs 7 = .ok (.aload_n 0, 1) := by decide +kernel
theorem dX12_turnsAs_8 : decode cX12_turnsAs 8 = .ok (.getfield 71, 3) := by decide +kernel
theorem dX12_turnsAs_11 : decode cX12_turnsAs 11 = .ok (.iload_n 1, 1) := by decide +kernel
theorem dX12_turnsAs_12 : decode cX12_turnsAs 12 = .ok (.aload_n 0, 1) := by decide +kernel
theorem dX12_turnsAs_13 : decode cX12_turnsAs 13 = .ok (.getfield 59, 3) := by decide +kernel
theorem dX12_turnsAs_16 : decode cX12_turnsAs 16 = .ok (.iload_n 1, 1) := by decide +kernel
theorem dX12_turnsAs_17 : decode cX12_turnsAs 17 = .ok (.iaload, 1) := by decide +kernel
theorem dX12_turnsAs_18 : decode cX12_turnsAs 18 = .ok (.iastore, 1) := by decide +kernel
theorem dX12_turnsAs_19 : decode cX12_turnsAs 19 = .ok (.aload_n 0, 1) := by decide +kernel
theorem dX12_turnsAs_20 : decode cX12_turnsAs 20 = .ok (.getfield 74, 3) := by decide +kernel
theorem dX12_turnsAs_23 : decode cX12_turnsAs 23 = .ok (.iload_n 1, 1) := by decide +kernel
theorem dX12_turnsAs_24 : decode cX12_turnsAs 24 = .ok (.aload_n 0, 1) := by decide +kernel
theorem dX12_turnsAs_25 : decode cX12_turnsAs 25 = .ok (.getfield 62, 3) := by decide +kernel
theorem dX12_turnsAs_28 : decode cX12_turnsAs 28 = .ok (.iload_n 1, 1) := by decide +kernel
theorem dX12_turnsAs_29 : decode cX12_turnsAs 29 = .ok (.iaload, 1) := by decide +kernel
theorem dX12_turnsAs_30 : decode cX12_turnsAs 30 = .ok (.iastore, 1) := by decide +kernel
theorem dX12_turnsAs_31 : decode cX12_turnsAs 31 = .ok (.iinc 1 1, 3) := by decide +kernel
theorem dX12_turnsAs_34 : decode cX12_turnsAs 34 = .ok (.goto (-32), 3) := by decide +kernel
theorem dX12_turnsAs_37 : decode cX12_turnsAs 37 = .ok (.return_, 1) := by decide +kernel
theorem dX12_layMasks_0 : decode cX12_layMasks 0 = .ok (.iconst 1, 1) := by decide +kernel
theorem dX12_layMasks_1 : decode cX12_layMasks 1 = .ok (.istore_n 1, 1) := by decide +kernel
theorem dX12_layMasks_2 : decode cX12_layMasks 2 = .ok (.aload_n 0, 1) := by decide +kernel
theorem dX12_layMasks_3 : decode cX12_layMasks 3 = .ok (.getfield 77, 3) := by decide +kernel
theorem dX12_layMasks_6 : decode cX12_layMasks 6 = .ok (.iconst 0, 1) := by decide +kernel
theorem dX12_layMasks_7 : decode cX12_layMasks 7 = .ok (.iconst 0, 1) := by decide +kernel
theorem dX12_layMasks_8 : decode cX12_layMasks 8 = .ok (.iastore, 1) := by decide +kernel
theorem dX12_layMasks_9 : decode cX12_layMasks 9 = .ok (.iconst 0, 1) := by decide +kernel
theorem dX12_layMasks_10 : decode cX12_layMasks 10 = .ok (.istore_n 2, 1) := by decide +kernel
theorem dX12_layMasks_11 : decode cX12_layMasks 11 = .ok (.iload_n 2, 1) := by decide +kernel
theorem dX12_layMasks_12 : decode cX12_layMasks 12 = .ok (.aload_n 0, 1) := by decide +kernel
theorem dX12_layMasks_13 : decode cX12_layMasks 13 = .ok (.getfield 188, 3) := by decide +kernel
theorem dX12_layMasks_16 : decode cX12_layMasks 16 = .ok (.if_icmp .gt 32, 3) := by decide +kernel
theorem dX12_layMasks_19 : decode cX12_layMasks 19 = .ok (.aload_n 0, 1) := by decide +kernel
theorem dX12_layMasks_20 : decode cX12_layMasks 20 = .ok (.getfield 77, 3) := by decide +kernel
theorem dX12_layMasks_23 : decode cX12_layMasks 23 = .ok (.iload_n 2, 1) := by decide +kernel
theorem dX12_layMasks_24 : decode cX12_layMasks 24 = .ok (.iconst 1, 1) := by decide +kernel
theorem dX12_layMasks_25 : decode cX12_layMasks 25 = .ok (.iadd, 1) := by decide +kernel
theorem dX12_layMasks_26 : decode cX12_layMasks 26 = .ok (.aload_n 0, 1) := by decide +kernel
theorem dX12_layMasks_27 : decode cX12_layMasks 27 = .ok (.getfield 77, 3) := by decide +kernel
theorem dX12_layMasks_30 : decode cX12_layMasks 30 = .ok (.iload_n 2, 1) := by decide +kernel
theorem dX12_layMasks_31 : decode cX12_layMasks 31 = .ok (.iaload, 1) := by decide +kernel
theorem dX12_layMasks_32 : decode cX12_layMasks 32 = .ok (.iload_n 1, 1) := by decide +kernel
theorem dX12_layMasks_33 : decode cX12_layMasks 33 = .ok (.iadd, 1) := by decide +kernel
theorem dX12_layMasks_34 : decode cX12_layMasks 34 = .ok (.iastore, 1) := by decide +kernel
theorem dX12_layMasks_35 : decode cX12_layMasks 35 = .ok (.iload_n 1, 1) := by decide +kernel
theorem dX12_layMasks_36 : decode cX12_layMasks 36 = .ok (.aload_n 0, 1) := by decide +kernel
theorem dX12_layMasks_37 : decode cX12_layMasks 37 = .ok (.getfield 245, 3) := by decide +kernel
theorem dX12_layMasks_40 : decode cX12_layMasks 40 = .ok (.imul, 1) := by decide +kernel
theorem dX12_layMasks_41 : decode cX12_layMasks 41 = .ok (.istore_n 1, 1) := by decide +kernel
theorem dX12_layMasks_42 : decode cX12_layMasks 42 = .ok (.iinc 2 1, 3) := by decide +kernel
theorem dX12_layMasks_45 : decode cX12_layMasks 45 = .ok (.goto (-34), 3) := by decide +kernel
theorem dX12_layMasks_48 : decode cX12_layMasks 48 = .ok (.iconst 0, 1) := by decide +kernel
theorem dX12_layMasks_49 : decode cX12_layMasks 49 = .ok (.istore_n 2, 1) := by decide +kernel
theorem dX12_layMasks_50 : decode cX12_layMasks 50 = .ok (.iload_n 2, 1) := by decide +kernel
theorem dX12_layMasks_51 : decode cX12_layMasks 51 = .ok (.aload_n 0, 1) := by decide +kernel
theorem dX12_layMasks_52 : decode cX12_layMasks 52 = .ok (.getfield 77, 3) := by decide +kernel
theorem dX12_layMasks_55 : decode cX12_layMasks 55 = .ok (.aload_n 0, 1) := by decide +kernel
theorem dX12_layMasks_56 : decode cX12_layMasks 56 = .ok (.getfield 188, 3) := by decide +kernel
theorem dX12_layMasks_59 : decode cX12_layMasks 59 = .ok (.iconst 1, 1) := by decide +kernel
theorem dX12_layMasks_60 : decode cX12_layMasks 60 = .ok (.iadd, 1) := by decide +kernel
theorem dX12_layMasks_61 : decode cX12_layMasks 61 = .ok (.iaload, 1) := by decide +kernel
theorem dX12_layMasks_62 : decode cX12_layMasks 62 = .ok (.if_icmp .ge 16, 3) := by decide +kernel
theorem dX12_layMasks_65 : decode cX12_layMasks 65 = .ok (.aload_n 0, 1) := by decide +kernel
theorem dX12_layMasks_66 : decode cX12_layMasks 66 = .ok (.getfield 80, 3) := by decide +kernel
theorem dX12_layMasks_69 : decode cX12_layMasks 69 = .ok (.iload_n 2, 1) := by decide +kernel
theorem dX12_layMasks_70 : decode cX12_layMasks 70 = .ok (.iconst 0, 1) := by decide +kernel
theorem dX12_layMasks_71 : decode cX12_layMasks 71 = .ok (.iastore, 1) := by decide +kernel
theorem dX12_layMasks_72 : decode cX12_layMasks 72 = .ok (.iinc 2 1, 3) := by decide +kernel
theorem dX12_layMasks_75 : decode cX12_layMasks 75 = .ok (.goto (-25), 3) := by decide +kernel
theorem dX12_layMasks_78 : decode cX12_layMasks 78 = .ok (.iconst 0, 1) := by decide +kernel
theorem dX12_layMasks_79 : decode cX12_layMasks 79 = .ok (.istore_n 2, 1) := by decide +kernel
theorem dX12_layMasks_80 : decode cX12_layMasks 80 = .ok (.iload_n 2, 1) := by decide +kernel
theorem dX12_layMasks_81 : decode cX12_layMasks 81 = .ok (.aload_n 0, 1) := by decide +kernel
theorem dX12_layMasks_82 : decode cX12_layMasks 82 = .ok (.getfield 248, 3) := by decide +kernel
theorem dX12_layMasks_85 : decode cX12_layMasks 85 = .ok (.if_icmp .ge 93, 3) := by decide +kernel
theorem dX12_layMasks_88 : decode cX12_layMasks 88 = .ok (.aload_n 0, 1) := by decide +kernel
theorem dX12_layMasks_89 : decode cX12_layMasks 89 = .ok (.getfield 47, 3) := by decide +kernel
theorem dX12_layMasks_92 : decode cX12_layMasks 92 = .ok (.iload_n 2, 1) := by decide +kernel
theorem dX12_layMasks_93 : decode cX12_layMasks 93 = .ok (.iaload, 1) := by decide +kernel
theorem dX12_layMasks_94 : decode cX12_layMasks 94 = .ok (.ifCond .eq 6, 3) := by decide +kernel
theorem dX12_layMasks_97 : decode cX12_layMasks 97 = .ok (.goto 75, 3) := by decide +kernel
theorem dX12_layMasks_100 : decode cX12_layMasks 100 = .ok (.iconst 0, 1) := by decide +kernel
theorem dX12_layMasks_101 : decode cX12_layMasks 101 = .ok (.istore_n 3, 1) := by decide +kernel
theorem dX12_layMasks_102 : decode cX12_layMasks 102 = .ok (.iconst 0, 1) := by decide +kernel
theorem dX12_layMasks_103 : decode cX12_layMasks 103 = .ok (.istore 4, 2) := by decide +kernel
theorem dX12_layMasks_105 : decode cX12_layMasks 105 = .ok (.iload 4, 2) := by decide +kernel
theorem dX12_layMasks_107 : decode cX12_layMasks 107 = .ok (.aload_n 0, 1) := by decide +kernel
theorem dX12_layMasks_108 : decode cX12_layMasks 108 = .ok (.getfield 188, 3) := by decide +kernel
theorem dX12_layMasks_111 : decode cX12_layMasks 111 = .ok (.if_icmp .ge 54, 3) := by decide +kernel
theorem dX12_layMasks_114 : decode cX12_layMasks 114 = .ok (.aload_n 0, 1) := by decide +kernel
theorem dX12_layMasks_115 : decode cX12_layMasks 115 = .ok (.iload_n 2, 1) := by decide +kernel
theorem dX12_layMasks_116 : decode cX12_layMasks 116 = .ok (.aload_n 0, 1) := by decide +kernel
theorem dX12_layMasks_117 : decode cX12_layMasks 117 = .ok (.getfield 71, 3) := by decide +kernel
theorem dX12_layMasks_120 : decode cX12_layMasks 120 = .ok (.iload 4, 2) := by decide +kernel
theorem dX12_layMasks_122 : decode cX12_layMasks 122 = .ok (.iaload, 1) := by decide +kernel
theorem dX12_layMasks_123 : decode cX12_layMasks 123 = .ok (.invokevirtual 254, 3) := by decide +kernel
theorem dX12_layMasks_126 : decode cX12_layMasks 126 = .ok (.istore 5, 2) := by decide +kernel
theorem dX12_layMasks_128 : decode cX12_layMasks 128 = .ok (.aload_n 0, 1) := by decide +kernel
theorem dX12_layMasks_129 : decode cX12_layMasks 129 = .ok (.getfield 80, 3) := by decide +kernel
theorem dX12_layMasks_132 : decode cX12_layMasks 132 = .ok (.aload_n 0, 1) := by decide +kernel
theorem dX12_layMasks_133 : decode cX12_layMasks 133 = .ok (.getfield 77, 3) := by decide +kernel
theorem dX12_layMasks_136 : decode cX12_layMasks 136 = .ok (.iload 4, 2) := by decide +kernel
theorem dX12_layMasks_138 : decode cX12_layMasks 138 = .ok (.iaload, 1) := by decide +kernel
theorem dX12_layMasks_139 : decode cX12_layMasks 139 = .ok (.iload_n 3, 1) := by decide +kernel
theorem dX12_layMasks_140 : decode cX12_layMasks 140 = .ok (.iadd, 1) := by decide +kernel
theorem dX12_layMasks_141 : decode cX12_layMasks 141 = .ok (.dup2, 1) := by decide +kernel
theorem dX12_layMasks_142 : decode cX12_layMasks 142 = .ok (.iaload, 1) := by decide +kernel
theorem dX12_layMasks_143 : decode cX12_layMasks 143 = .ok (.iconst 1, 1) := by decide +kernel
theorem dX12_layMasks_144 : decode cX12_layMasks 144 = .ok (.iload 5, 2) := by decide +kernel
theorem dX12_layMasks_146 : decode cX12_layMasks 146 = .ok (.ishl, 1) := by decide +kernel
theorem dX12_layMasks_147 : decode cX12_layMasks 147 = .ok (.ior, 1) := by decide +kernel
theorem dX12_layMasks_148 : decode cX12_layMasks 148 = .ok (.iastore, 1) := by decide +kernel
theorem dX12_layMasks_149 : decode cX12_layMasks 149 = .ok (.iload_n 3, 1) := by decide +kernel
theorem dX12_layMasks_150 : decode cX12_layMasks 150 = .ok (.aload_n 0, 1) := by decide +kernel
theorem dX12_layMasks_151 : decode cX12_layMasks 151 = .ok (.getfield 245, 3) := by decide +kernel
theorem dX12_layMasks_154 : decode cX12_layMasks 154 = .ok (.imul, 1) := by decide +kernel
theorem dX12_layMasks_155 : decode cX12_layMasks 155 = .ok (.iload 5, 2) := by decide +kernel
theorem dX12_layMasks_157 : decode cX12_layMasks 157 = .ok (.iadd, 1) := by decide +kernel
theorem dX12_layMasks_158 : decode cX12_layMasks 158 = .ok (.istore_n 3, 1) := by decide +kernel
theorem dX12_layMasks_159 : decode cX12_layMasks 159 = .ok (.iinc 4 1, 3) := by decide +kernel
theorem dX12_layMasks_162 : decode cX12_layMasks 162 = .ok (.goto (-57), 3) := by decide +kernel
theorem dX12_layMasks_165 : decode cX12_layMasks 165 = .ok (.aload_n 0, 1) := by decide +kernel
theorem dX12_layMasks_166 : decode cX12_layMasks 166 = .ok (.getfield 87, 3) := by decide +kernel
theorem dX12_layMasks_169 : decode cX12_layMasks 169 = .ok (.iload_n 2, 1) := by decide +kernel
theorem dX12_layMasks_170 : decode cX12_layMasks 170 = .ok (.iload_n 3, 1) := by decide +kernel
theorem dX12_layMasks_171 : decode cX12_layMasks 171 = .ok (.iastore, 1) := by decide +kernel
theorem dX12_layMasks_172 : decode cX12_layMasks 172 = .ok (.iinc 2 1, 3) := by decide +kernel
theorem dX12_layMasks_175 : decode cX12_layMasks 175 = .ok (.goto (-95), 3) := by decide +kernel
theorem dX12_layMasks_178 : decode cX12_layMasks 178 = .ok (.iconst 0, 1) := by decide +kernel
theorem dX12_layMasks_179 : decode cX12_layMasks 179 = .ok (.istore_n 2, 1) := by decide +kernel
theorem dX12_layMasks_180 : decode cX12_layMasks 180 = .ok (.iload_n 2, 1) := by decide +kernel
theorem dX12_layMasks_181 : decode cX12_layMasks 181 = .ok (.bipush 16, 2) := by decide +kernel
theorem dX12_layMasks_183 : decode cX12_layMasks 183 = .ok (.if_icmp .ge 16, 3) := by decide +kernel
theorem dX12_layMasks_186 : decode cX12_layMasks 186 = .ok (.aload_n 0, 1) := by decide +kernel
theorem dX12_layMasks_187 : decode cX12_layMasks 187 = .ok (.getfield 90, 3) := by decide +kernel
theorem dX12_layMasks_190 : decode cX12_layMasks 190 = .ok (.iload_n 2, 1) := by decide +kernel
theorem dX12_layMasks_191 : decode cX12_layMasks 191 = .ok (.iconst 0, 1) := by decide +kernel
theorem dX12_layMasks_192 : decode cX12_layMasks 192 = .ok (.iastore, 1) := by decide +kernel
theorem dX12_layMasks_193 : decode cX12_layMasks 193 = .ok (.iinc 2 1, 3) := by decide +kernel
theorem dX12_layMasks_196 : decode cX12_layMasks 196 = .ok (.goto (-16), 3) := by decide +kernel
theorem dX12_layMasks_199 : decode cX12_layMasks 199 = .ok (.iconst 0, 1) := by decide +kernel
theorem dX12_layMasks_200 : decode cX12_layMasks 200 = .ok (.istore_n 2, 1) := by decide +kernel
theorem dX12_layMasks_201 : decode cX12_layMasks 201 = .ok (.iload_n 2, 1) := by decide +kernel
theorem dX12_layMasks_202 : decode cX12_layMasks 202 = .ok (.aload_n 0, 1) := by decide +kernel
theorem dX12_layMasks_203 : decode cX12_layMasks 203 = .ok (.getfield 245, 3) := by decide +kernel
theorem dX12_layMasks_206 : decode cX12_layMasks 206 = .ok (.if_icmp .ge 50, 3) := by decide +kernel
theorem dX12_layMasks_209 : decode cX12_layMasks 209 = .ok (.iconst 0, 1) := by decide +kernel
theorem dX12_layMasks_210 : decode cX12_layMasks 210 = .ok (.istore_n 3, 1) := by decide +kernel
theorem dX12_layMasks_211 : decode cX12_layMasks 211 = .ok (.iload_n 3, 1) := by decide +kernel
theorem dX12_layMasks_212 : decode cX12_layMasks 212 = .ok (.aload_n 0, 1) := by decide +kernel
theorem dX12_layMasks_213 : decode cX12_layMasks 213 = .ok (.getfield 185, 3) := by decide +kernel
theorem dX12_layMasks_216 : decode cX12_layMasks 216 = .ok (.if_icmp .ge 34, 3) := by decide +kernel
theorem dX12_layMasks_219 : decode cX12_layMasks 219 = .ok (.aload_n 0, 1) := by decide +kernel
theorem dX12_layMasks_220 : decode cX12_layMasks 220 = .ok (.getfield 90, 3) := by decide +kernel
theorem dX12_layMasks_223 : decode cX12_layMasks 223 = .ok (.iconst 4, 1) := by decide +kernel
theorem dX12_layMasks_224 : decode cX12_layMasks 224 = .ok (.iload_n 3, 1) := by decide +kernel
theorem dX12_layMasks_225 : decode cX12_layMasks 225 = .ok (.imul, 1) := by decide +kernel
theorem dX12_layMasks_226 : decode cX12_layMasks 226 = .ok (.aload_n 0, 1) := by decide +kernel
theorem dX12_layMasks_227 : decode cX12_layMasks 227 = .ok (.getfield 44, 3) := by decide +kernel
theorem dX12_layMasks_230 : decode cX12_layMasks 230 = .ok (.iconst 4, 1) := by decide +kernel
theorem dX12_layMasks_231 : decode cX12_layMasks 231 = .ok (.iload_n 2, 1) := by decide +kernel
theorem dX12_layMasks_232 : decode cX12_layMasks 232 = .ok (.imul, 1) := by decide +kernel
theorem dX12_layMasks_233 : decode cX12_layMasks 233 = .ok (.iload_n 3, 1) := by decide +kernel
theorem dX12_layMasks_234 : decode cX12_layMasks 234 = .ok (.iadd, 1) := by decide +kernel
theorem dX12_layMasks_235 : decode cX12_layMasks 235 = .ok (.iaload, 1) := by decide +kernel
theorem dX12_layMasks_236 : decode cX12_layMasks 236 = .ok (.iadd, 1) := by decide +kernel
theorem dX12_layMasks_237 : decode cX12_layMasks 237 = .ok (.dup2, 1) := by decide +kernel
theorem dX12_layMasks_238 : decode cX12_layMasks 238 = .ok (.iaload, 1) := by decide +kernel
theorem dX12_layMasks_239 : decode cX12_layMasks 239 = .ok (.iconst 1, 1) := by decide +kernel
theorem dX12_layMasks_240 : decode cX12_layMasks 240 = .ok (.iload_n 2, 1) := by decide +kernel
theorem dX12_layMasks_241 : decode cX12_layMasks 241 = .ok (.ishl, 1) := by decide +kernel
theorem dX12_layMasks_242 : decode cX12_layMasks 242 = .ok (.ior, 1) := by decide +kernel
theorem dX12_layMasks_243 : decode cX12_layMasks 243 = .ok (.iastore, 1) := by decide +kernel
theorem dX12_layMasks_244 : decode cX12_layMasks 244 = .ok (.iinc 3 1, 3) := by decide +kernel
theorem dX12_layMasks_247 : decode cX12_layMasks 247 = .ok (.goto (-36), 3) := by decide +kernel
theorem dX12_layMasks_250 : decode cX12_layMasks 250 = .ok (.iinc 2 1, 3) := by decide +kernel
theorem dX12_layMasks_253 : decode cX12_layMasks 253 = .ok (.goto (-52), 3) := by decide +kernel
theorem dX12_layMasks_256 : decode cX12_layMasks 256 = .ok (.aload_n 0, 1) := by decide +kernel
theorem dX12_layMasks_257 : decode cX12_layMasks 257 = .ok (.iconst 1, 1) := by decide +kernel
theorem dX12_layMasks_258 : decode cX12_layMasks 258 = .ok (.putfield 288, 3) := by decide +kernel
theorem dX12_layMasks_261 : decode cX12_layMasks 261 = .ok (.iconst 0, 1) := by decide +kernel
theorem dX12_layMasks_262 : decode cX12_layMasks 262 = .ok (.istore_n 2, 1) := by decide +kernel
theorem dX12_layMasks_263 : decode cX12_layMasks 263 = .ok (.iload_n 2, 1) := by decide +kernel
theorem dX12_layMasks_264 : decode cX12_layMasks 264 = .ok (.aload_n 0, 1) := by decide +kernel
theorem dX12_layMasks_265 : decode cX12_layMasks 265 = .ok (.getfield 185, 3) := by decide +kernel
theorem dX12_layMasks_268 : decode cX12_layMasks 268 = .ok (.if_icmp .ge 34, 3) := by decide +kernel
theorem dX12_layMasks_271 : decode cX12_layMasks 271 = .ok (.aload_n 0, 1) := by decide +kernel
theorem dX12_layMasks_272 : decode cX12_layMasks 272 = .ok (.getfield 93, 3) := by decide +kernel
theorem dX12_layMasks_275 : decode cX12_layMasks 275 = .ok (.iload_n 2, 1) := by decide +kernel
theorem dX12_layMasks_276 : decode cX12_layMasks 276 = .ok (.aload_n 0, 1) := by decide +kernel
theorem dX12_layMasks_277 : decode cX12_layMasks 277 = .ok (.getfield 288, 3) := by decide +kernel
theorem dX12_layMasks_280 : decode cX12_layMasks 280 = .ok (.iastore, 1) := by decide +kernel
theorem dX12_layMasks_281 : decode cX12_layMasks 281 = .ok (.aload_n 0, 1) := by decide +kernel
theorem dX12_layMasks_282 : decode cX12_layMasks 282 = .ok (.dup, 1) := by decide +kernel
theorem dX12_layMasks_283 : decode cX12_layMasks 283 = .ok (.getfield 288, 3) := by decide +kernel
theorem dX12_layMasks_286 : decode cX12_layMasks 286 = .ok (.aload_n 0, 1) := by decide +kernel
theorem dX12_layMasks_287 : decode cX12_layMasks 287 = .ok (.getfield 185, 3) := by decide +kernel
theorem dX12_layMasks_290 : decode cX12_layMasks 290 = .ok (.iconst 1, 1) := by decide +kernel
theorem dX12_layMasks_291 : decode cX12_layMasks 291 = .ok (.iadd, 1) := by decide +kernel
theorem dX12_layMasks_292 : decode cX12_layMasks 292 = .ok (.imul, 1) := by decide +kernel
theorem dX12_layMasks_293 : decode cX12_layMasks 293 = .ok (.putfield 288, 3) := by decide +kernel
theorem dX12_layMasks_296 : decode cX12_layMasks 296 = .ok (.iinc 2 1, 3) := by decide +kernel
theorem dX12_layMasks_299 : decode cX12_layMasks 299 = .ok (.goto (-36), 3) := by decide +kernel
theorem dX12_layMasks_302 : decode cX12_layMasks 302 = .ok (.return_, 1) := by decide +kernel
theorem dX12_digit_0 : decode cX12_digit 0 = .ok (.iload_n 1, 1) := by decide +kernel
theorem dX12_digit_1 : decode cX12_digit 1 = .ok (.aload_n 0, 1) := by decide +kernel
theorem dX12_digit_2 : decode cX12_digit 2 = .ok (.getfield 93, 3) := by decide +kernel
theorem dX12_digit_5 : decode cX12_digit 5 = .ok (.iload_n 2, 1) := by decide +kernel
theorem dX12_digit_6 : decode cX12_digit 6 = .ok (.iaload, 1) := by decide +kernel
theorem dX12_digit_7 : decode cX12_digit 7 = .ok (.idiv, 1) := by decide +kernel
theorem dX12_digit_8 : decode cX12_digit 8 = .ok (.aload_n 0, 1) := by decide +kernel
theorem dX12_digit_9 : decode cX12_digit 9 = .ok (.getfield 185, 3) := by decide +kernel
theorem dX12_digit_12 : decode cX12_digit 12 = .ok (.iconst 1, 1) := by decide +kernel
theorem dX12_digit_13 : decode cX12_digit 13 = .ok (.iadd, 1) := by decide +kernel
theorem dX12_digit_14 : decode cX12_digit 14 = .ok (.irem, 1) := by decide +kernel
theorem dX12_digit_15 : decode cX12_digit 15 = .ok (.ireturn, 1) := by decide +kernel
theorem dX12_agreeing_0 : decode cX12_agreeing 0 = .ok (.iload_n 2, 1) := by decide +kernel
theorem dX12_agreeing_1 : decode cX12_agreeing 1 = .ok (.istore_n 3, 1) := by decide +kernel
theorem dX12_agreeing_2 : decode cX12_agreeing 2 = .ok (.iconst 0, 1) := by decide +kernel
theorem dX12_agreeing_3 : decode cX12_agreeing 3 = .ok (.istore 4, 2) := by decide +kernel
theorem dX12_agreeing_5 : decode cX12_agreeing 5 = .ok (.iload 4, 2) := by decide +kernel
theorem dX12_agreeing_7 : decode cX12_agreeing 7 = .ok (.aload_n 0, 1) := by decide +kernel
theorem dX12_agreeing_8 : decode cX12_agreeing 8 = .ok (.getfield 185, 3) := by decide +kernel
theorem dX12_agreeing_11 : decode cX12_agreeing 11 = .ok (.if_icmp .ge 43, 3) := by decide +kernel
theorem dX12_agreeing_14 : decode cX12_agreeing 14 = .ok (.aload_n 0, 1) := by decide +kernel
theorem dX12_agreeing_15 : decode cX12_agreeing 15 = .ok (.iload_n 1, 1) := by decide +kernel
theorem dX12_agreeing_16 : decode cX12_agreeing 16 = .ok (.iload 4, 2) := by decide +kernel
theorem dX12_agreeing_18 : decode cX12_agreeing 18 = .ok (.invokevirtual 291, 3) := by decide +kernel
theorem dX12_agreeing_21 : decode cX12_agreeing 21 = .ok (.aload_n 0, 1) := by decide +kernel
theorem dX12_agreeing_22 : decode cX12_agreeing 22 = .ok (.getfield 185, 3) := by decide +kernel
theorem dX12_agreeing_25 : decode cX12_agreeing 25 = .ok (.if_icmp .ge 23, 3) := by decide +kernel
theorem dX12_agreeing_28 : decode cX12_agreeing 28 = .ok (.iload_n 3, 1) := by decide +kernel
theorem dX12_agreeing_29 : decode cX12_agreeing 29 = .ok (.aload_n 0, 1) := by decide +kernel
theorem dX12_agreeing_30 : decode cX12_agreeing 30 = .ok (.getfield 90, 3) := by decide +kernel
theorem dX12_agreeing_33 : decode cX12_agreeing 33 = .ok (.iconst 4, 1) := by decide +kernel
theorem dX12_agreeing_34 : decode cX12_agreeing 34 = .ok (.iload 4, 2) := by decide +kernel
theorem dX12_agreeing_36 : decode cX12_agreeing 36 = .ok (.imul, 1) := by decide +kernel
theorem dX12_agreeing_37 : decode cX12_agreeing 37 = .ok (.aload_n 0, 1) := by decide +kernel
theorem dX12_agreeing_38 : decode cX12_agreeing 38 = .ok (.iload_n 1, 1) := by decide +kernel
theorem dX12_agreeing_39 : decode cX12_agreeing 39 = .ok (.iload 4, 2) := by decide +kernel
theorem dX12_agreeing_41 : decode cX12_agreeing 41 = .ok (.invokevirtual 291, 3) := by decide +kernel
theorem dX12_agreeing_44 : decode cX12_agreeing 44 = .ok (.iadd, 1) := by decide +kernel
theorem dX12_agreeing_45 : decode cX12_agreeing 45 = .ok (.iaload, 1) := by decide +kernel
theorem dX12_agreeing_46 : decode cX12_agreeing 46 = .ok (.iand, 1) := by decide +kernel
theorem dX12_agreeing_47 : decode cX12_agreeing 47 = .ok (.istore_n 3, 1) := by decide +kernel
theorem dX12_agreeing_48 : decode cX12_agreeing 48 = .ok (.iinc 4 1, 3) := by decide +kernel
theorem dX12_agreeing_51 : decode cX12_agreeing 51 = .ok (.goto (-46), 3) := by decide +kernel
theorem dX12_agreeing_54 : decode cX12_agreeing 54 = .ok (.iload_n 3, 1) := by decide +kernel
theorem dX12_agreeing_55 : decode cX12_agreeing 55 = .ok (.ireturn, 1) := by decide +kernel
theorem dX12_share_0 : decode cX12_share 0 = .ok (.iload_n 0, 1) := by decide +kernel
theorem dX12_share_1 : decode cX12_share 1 = .ok (.iconst 4, 1) := by decide +kernel
theorem dX12_share_2 : decode cX12_share 2 = .ok (.if_icmp .ne 8, 3) := by decide +kernel
theorem dX12_share_5 : decode cX12_share 5 = .ok (.bipush 12, 2) := by decide +kernel
theorem dX12_share_7 : decode cX12_share 7 = .ok (.goto 14, 3) := by decide +kernel
theorem dX12_share_10 : decode cX12_share 10 = .ok (.iload_n 0, 1) := by decide +kernel
theorem dX12_share_11 : decode cX12_share 11 = .ok (.iconst 3, 1) := by decide +kernel
theorem dX12_share_12 : decode cX12_share 12 = .ok (.if_icmp .ne 8, 3) := by decide +kernel
theorem dX12_share_15 : decode cX12_share 15 = .ok (.bipush 6, 2) := by decide +kernel
theorem dX12_share_17 : decode cX12_share 17 = .ok (.goto 4, 3) := by decide +kernel
theorem dX12_share_20 : decode cX12_share 20 = .ok (.iload_n 0, 1) := by decide +kernel
theorem dX12_share_21 : decode cX12_share 21 = .ok (.ireturn, 1) := by decide +kernel
theorem dX12_comes_0 : decode cX12_comes 0 = .ok (.aload_n 0, 1) := by decide +kernel
theorem dX12_comes_1 : decode cX12_comes 1 = .ok (.iload_n 1, 1) := by decide +kernel
theorem dX12_comes_2 : decode cX12_comes 2 = .ok (.iload 4, 2) := by decide +kernel
theorem dX12_comes_4 : decode cX12_comes 4 = .ok (.invokevirtual 294, 3) := by decide +kernel
theorem dX12_comes_7 : decode cX12_comes 7 = .ok (.istore 6, 2) := by decide +kernel
theorem dX12_comes_9 : decode cX12_comes 9 = .ok (.iconst 0, 1) := by decide +kernel
theorem dX12_comes_10 : decode cX12_comes 10 = .ok (.istore 7, 2) := by decide +kernel
theorem dX12_comes_12 : decode cX12_comes 12 = .ok (.iconst 0, 1) := by decide +kernel
theorem dX12_comes_13 : decode cX12_comes 13 = .ok (.istore 8, 2) := by decide +kernel
theorem dX12_comes_15 : decode cX12_comes 15 = .ok (.iload 8, 2) := by decide +kernel
theorem dX12_comes_17 : decode cX12_comes 17 = .ok (.aload_n 0, 1) := by decide +kernel
theorem dX12_comes_18 : decode cX12_comes 18 = .ok (.getfield 185, 3) := by decide +kernel
theorem dX12_comes_21 : decode cX12_comes 21 = .ok (.if_icmp .ge 36, 3) := by decide +kernel
theorem dX12_comes_24 : decode cX12_comes 24 = .ok (.iload 7, 2) := by decide +kernel
theorem dX12_comes_26 : decode cX12_comes 26 = .ok (.iload 6, 2) := by decide +kernel
theorem dX12_comes_28 : decode cX12_comes 28 = .ok (.aload_n 0, 1) := by decide +kernel
theorem dX12_comes_29 : decode cX12_comes 29 = .ok (.getfield 90, 3) := by decide +kernel
theorem dX12_comes_32 : decode cX12_comes 32 = .ok (.iconst 4, 1) := by decide +kernel
theorem dX12_comes_33 : decode cX12_comes 33 = .ok (.iload_n 2, 1) := by decide +kernel
theorem dX12_comes_34 : decode cX12_comes 34 = .ok (.imul, 1) := by decide +kernel
theorem dX12_comes_35 : decode cX12_comes 35 = .ok (.iload 8, 2) := by decide +kernel
theorem dX12_comes_37 : decode cX12_comes 37 = .ok (.iadd, 1) := by decide +kernel
theorem dX12_comes_38 : decode cX12_comes 38 = .ok (.iaload, 1) := by decide +kernel
theorem dX12_comes_39 : decode cX12_comes 39 = .ok (.iand, 1) := by decide +kernel
theorem dX12_comes_40 : decode cX12_comes 40 = .ok (.ifCond .eq 7, 3) := by decide +kernel
theorem dX12_comes_43 : decode cX12_comes 43 = .ok (.iconst 1, 1) := by decide +kernel
theorem dX12_comes_44 : decode cX12_comes 44 = .ok (.goto 4, 3) := by decide +kernel
theorem dX12_comes_47 : decode cX12_comes 47 = .ok (.iconst 0, 1) := by decide +kernel
theorem dX12_comes_48 : decode cX12_comes 48 = .ok (.iadd, 1) := by decide +kernel
theorem dX12_comes_49 : decode cX12_comes 49 = .ok (.istore 7, 2) := by decide +kernel
theorem dX12_comes_51 : decode cX12_comes 51 = .ok (.iinc 8 1, 3) := by decide +kernel
theorem dX12_comes_54 : decode cX12_comes 54 = .ok (.goto (-39), 3) := by decide +kernel
theorem dX12_comes_57 : decode cX12_comes 57 = .ok (.iconst 0, 1) := by decide +kernel
theorem dX12_comes_58 : decode cX12_comes 58 = .ok (.istore 8, 2) := by decide +kernel
theorem dX12_comes_60 : decode cX12_comes 60 = .ok (.iload 8, 2) := by decide +kernel
theorem dX12_comes_62 : decode cX12_comes 62 = .ok (.aload_n 0, 1) := by decide +kernel
theorem dX12_comes_63 : decode cX12_comes 63 = .ok (.getfield 185, 3) := by decide +kernel
theorem dX12_comes_66 : decode cX12_comes 66 = .ok (.if_icmp .ge 97, 3) := by decide +kernel
theorem dX12_comes_69 : decode cX12_comes 69 = .ok (.aload_n 0, 1) := by decide +kernel
theorem dX12_comes_70 : decode cX12_comes 70 = .ok (.getfield 74, 3) := by decide +kernel
theorem dX12_comes_73 : decode cX12_comes 73 = .ok (.iload 8, 2) := by decide +kernel
theorem dX12_comes_75 : decode cX12_comes 75 = .ok (.iaload, 1) := by decide +kernel
theorem dX12_comes_76 : decode cX12_comes 76 = .ok (.istore 9, 2) := by decide +kernel
theorem dX12_comes_78 : decode cX12_comes 78 = .ok (.iload 6, 2) := by decide +kernel
theorem dX12_comes_80 : decode cX12_comes 80 = .ok (.aload_n 0, 1) := by decide +kernel
theorem dX12_comes_81 : decode cX12_comes 81 = .ok (.getfield 90, 3) := by decide +kernel
theorem dX12_comes_84 : decode cX12_comes 84 = .ok (.iconst 4, 1) := by decide +kernel
theorem dX12_comes_85 : decode cX12_comes 85 = .ok (.iload_n 2, 1) := by decide +kernel
theorem dX12_comes_86 : decode cX12_comes 86 = .ok (.imul, 1) := by decide +kernel
theorem dX12_comes_87 : decode cX12_comes 87 = .ok (.iload 9, 2) := by decide +kernel
theorem dX12_comes_89 : decode cX12_comes 89 = .ok (.iadd, 1) := by decide +kernel
theorem dX12_comes_90 : decode cX12_comes 90 = .ok (.iaload, 1) := by decide +kernel
theorem dX12_comes_91 : decode cX12_comes 91 = .ok (.iand, 1) := by decide +kernel
theorem dX12_comes_92 : decode cX12_comes 92 = .ok (.ifCond .ne 6, 3) := by decide +kernel
theorem dX12_comes_95 : decode cX12_comes 95 = .ok (.goto 62, 3) := by decide +kernel
theorem dX12_comes_98 : decode cX12_comes 98 = .ok (.aload_n 0, 1) := by decide +kernel
theorem dX12_comes_99 : decode cX12_comes 99 = .ok (.getfield 96, 3) := by decide +kernel
theorem dX12_comes_102 : decode cX12_comes 102 = .ok (.iload_n 1, 1) := by decide +kernel
theorem dX12_comes_103 : decode cX12_comes 103 = .ok (.aload_n 0, 1) := by decide +kernel
theorem dX12_comes_104 : decode cX12_comes 104 = .ok (.getfield 185, 3) := by decide +kernel
theorem dX12_comes_107 : decode cX12_comes 107 = .ok (.iload 9, 2) := by decide +kernel
theorem dX12_comes_109 : decode cX12_comes 109 = .ok (.isub, 1) := by decide +kernel
theorem dX12_comes_110 : decode cX12_comes 110 = .ok (.aload_n 0, 1) := by decide +kernel
theorem dX12_comes_111 : decode cX12_comes 111 = .ok (.getfield 93, 3) := by decide +kernel
theorem dX12_comes_114 : decode cX12_comes 114 = .ok (.iload_n 2, 1) := by decide +kernel
theorem dX12_comes_115 : decode cX12_comes 115 = .ok (.iaload, 1) := by decide +kernel
theorem dX12_comes_116 : decode cX12_comes 116 = .ok (.imul, 1) := by decide +kernel
theorem dX12_comes_117 : decode cX12_comes 117 = .ok (.isub, 1) := by decide +kernel
theorem dX12_comes_118 : decode cX12_comes 118 = .ok (.dup2, 1) := by decide +kernel
theorem dX12_comes_119 : decode cX12_comes 119 = .ok (.laload, 1) := by decide +kernel
theorem dX12_comes_120 : decode cX12_comes 120 = .ok (.iload 5, 2) := by decide +kernel
theorem dX12_comes_122 : decode cX12_comes 122 = .ok (.ifCond .eq 21, 3) := by decide +kernel
theorem dX12_comes_125 : decode cX12_comes 125 = .ok (.aload_n 0, 1) := by decide +kernel
theorem dX12_comes_126 : decode cX12_comes 126 = .ok (.getfield 96, 3) := by decide +kernel
theorem dX12_comes_129 : decode cX12_comes 129 = .ok (.iload_n 1, 1) := by decide +kernel
theorem dX12_comes_130 : decode cX12_comes 130 = .ok (.laload, 1) := by decide +kernel
theorem dX12_comes_131 : decode cX12_comes 131 = .ok (.iload_n 3, 1) := by decide +kernel
theorem dX12_comes_132 : decode cX12_comes 132 = .ok (.invokestatic 297, 3) := by decide +kernel
theorem dX12_comes_135 : decode cX12_comes 135 = .ok (.iload 7, 2) := by decide +kernel
theorem dX12_comes_137 : decode cX12_comes 137 = .ok (.idiv, 1) := by decide +kernel
theorem dX12_comes_138 : decode cX12_comes 138 = .ok (.i2l, 1) := by decide +kernel
theorem dX12_comes_139 : decode cX12_comes 139 = .ok (.lmul, 1) := by decide +kernel
theorem dX12_comes_140 : decode cX12_comes 140 = .ok (.goto 9, 3) := by decide +kernel
theorem dX12_comes_143 : decode cX12_comes 143 = .ok (.aload_n 0, 1) := by decide +kernel
theorem dX12_comes_144 : decode cX12_comes 144 = .ok (.getfield 96, 3) := by decide +kernel
theorem dX12_comes_147 : decode cX12_comes 147 = .ok (.iload_n 1, 1) := by decide +kernel
theorem dX12_comes_148 : decode cX12_comes 148 = .ok (.laload, 1) := by decide +kernel
theorem dX12_comes_149 : decode cX12_comes 149 = .ok (.ladd, 1) := by decide +kernel
theorem dX12_comes_150 : decode cX12_comes 150 = .ok (.lastore, 1) := by decide +kernel
theorem dX12_comes_151 : decode cX12_comes 151 = .ok (.iload 5, 2) := by decide +kernel
theorem dX12_comes_153 : decode cX12_comes 153 = .ok (.ifCond .ne 4, 3) := by decide +kernel
theorem dX12_comes_156 : decode cX12_comes 156 = .ok (.return_, 1) := by decide +kernel
theorem dX12_comes_157 : decode cX12_comes 157 = .ok (.iinc 8 1, 3) := by decide +kernel
theorem dX12_comes_160 : decode cX12_comes 160 = .ok (.goto (-100), 3) := by decide +kernel
theorem dX12_comes_163 : decode cX12_comes 163 = .ok (.return_, 1) := by decide +kernel
theorem dX12_pot_0 : decode cX12_pot 0 = .ok (.iconst 0, 1) := by decide +kernel
theorem dX12_pot_1 : decode cX12_pot 1 = .ok (.istore 5, 2) := by decide +kernel
theorem dX12_pot_3 : decode cX12_pot 3 = .ok (.iload 5, 2) := by decide +kernel
theorem dX12_pot_5 : decode cX12_pot 5 = .ok (.aload_n 0, 1) := by decide +kernel
theorem dX12_pot_6 : decode cX12_pot 6 = .ok (.getfield 288, 3) := by decide +kernel
theorem dX12_pot_9 : decode cX12_pot 9 = .ok (.if_icmp .ge 17, 3) := by decide +kernel
theorem dX12_pot_12 : decode cX12_pot 12 = .ok (.aload_n 0, 1) := by decide +kernel
theorem dX12_pot_13 : decode cX12_pot 13 = .ok (.getfield 96, 3) := by decide +kernel
theorem dX12_pot_16 : decode cX12_pot 16 = .ok (.iload 5, 2) := by decide +kernel
theorem dX12_pot_18 : decode cX12_pot 18 = .ok (.lconst 0, 1) := by decide +kernel
theorem dX12_pot_19 : decode cX12_pot 19 = .ok (.lastore, 1) := by decide +kernel
theorem dX12_pot_20 : decode cX12_pot 20 = .ok (.iinc 5 1, 3) := by decide +kernel
theorem dX12_pot_23 : decode cX12_pot 23 = .ok (.goto (-20), 3) := by decide +kernel
theorem dX12_pot_26 : decode cX12_pot 26 = .ok (.aload_n 0, 1) := by decide +kernel
theorem dX12_pot_27 : decode cX12_pot 27 = .ok (.getfield 96, 3) := by decide +kernel
theorem dX12_pot_30 : decode cX12_pot 30 = .ok (.iload_n 3, 1) := by decide +kernel
theorem dX12_pot_31 : decode cX12_pot 31 = .ok (.aload_n 0, 1) := by decide +kernel
theorem dX12_pot_32 : decode cX12_pot 32 = .ok (.getfield 83, 3) := by decide +kernel
theorem dX12_pot_35 : decode cX12_pot 35 = .ok (.aload_n 0, 1) := by decide +kernel
theorem dX12_pot_36 : decode cX12_pot 36 = .ok (.getfield 77, 3) := by decide +kernel
theorem dX12_pot_39 : decode cX12_pot 39 = .ok (.iload_n 1, 1) := by decide +kernel
theorem dX12_pot_40 : decode cX12_pot 40 = .ok (.iaload, 1) := by decide +kernel
theorem dX12_pot_41 : decode cX12_pot 41 = .ok (.iload_n 2, 1) := by decide +kernel
theorem dX12_pot_42 : decode cX12_pot 42 = .ok (.iadd, 1) := by decide +kernel
theorem dX12_pot_43 : decode cX12_pot 43 = .ok (.laload, 1) := by decide +kernel
theorem dX12_pot_44 : decode cX12_pot 44 = .ok (.lastore, 1) := by decide +kernel
theorem dX12_pot_45 : decode cX12_pot 45 = .ok (.iconst 0, 1) := by decide +kernel
theorem dX12_pot_46 : decode cX12_pot 46 = .ok (.istore 5, 2) := by decide +kernel
theorem dX12_pot_48 : decode cX12_pot 48 = .ok (.iconst 0, 1) := by decide +kernel
theorem dX12_pot_49 : decode cX12_pot 49 = .ok (.istore 6, 2) := by decide +kernel
theorem dX12_pot_51 : decode cX12_pot 51 = .ok (.iload 6, 2) := by decide +kernel
theorem dX12_pot_53 : decode cX12_pot 53 = .ok (.aload_n 0, 1) := by decide +kernel
theorem dX12_pot_54 : decode cX12_pot 54 = .ok (.getfield 185, 3) := by decide +kernel
theorem dX12_pot_57 : decode cX12_pot 57 = .ok (.if_icmp .ge 33, 3) := by decide +kernel
theorem dX12_pot_60 : decode cX12_pot 60 = .ok (.iload 5, 2) := by decide +kernel
theorem dX12_pot_62 : decode cX12_pot 62 = .ok (.aload_n 0, 1) := by decide +kernel
theorem dX12_pot_63 : decode cX12_pot 63 = .ok (.iload_n 3, 1) := by decide +kernel
theorem dX12_pot_64 : decode cX12_pot 64 = .ok (.iload 6, 2) := by decide +kernel
theorem dX12_pot_66 : decode cX12_pot 66 = .ok (.invokevirtual 291, 3) := by decide +kernel
theorem dX12_pot_69 : decode cX12_pot 69 = .ok (.aload_n 0, 1) := by decide +kernel
theorem dX12_pot_70 : decode cX12_pot 70 = .ok (.getfield 185, 3) := by decide +kernel
theorem dX12_pot_73 : decode cX12_pot 73 = .ok (.if_icmp .ne 7, 3) := by decide +kernel
theorem dX12_pot_76 : decode cX12_pot 76 = .ok (.iconst 1, 1) := by decide +kernel
theorem dX12_pot_77 : decode cX12_pot 77 = .ok (.goto 4, 3) := by decide +kernel
theorem dX12_pot_80 : decode cX12_pot 80 = .ok (.iconst 0, 1) := by decide +kernel
theorem dX12_pot_81 : decode cX12_pot 81 = .ok (.iadd, 1) := by decide +kernel
theorem dX12_pot_82 : decode cX12_pot 82 = .ok (.istore 5, 2) := by decide +kernel
theorem dX12_pot_84 : decode cX12_pot 84 = .ok (.iinc 6 1, 3) := by decide +kernel
theorem dX12_pot_87 : decode cX12_pot 87 = .ok (.goto (-36), 3) := by decide +kernel
theorem dX12_pot_90 : decode cX12_pot 90 = .ok (.iload 5, 2) := by decide +kernel
theorem dX12_pot_92 : decode cX12_pot 92 = .ok (.ifCond .le 157, 3) := by decide +kernel
theorem dX12_pot_95 : decode cX12_pot 95 = .ok (.aload_n 0, 1) := by decide +kernel
theorem dX12_pot_96 : decode cX12_pot 96 = .ok (.getfield 288, 3) := by decide +kernel
theorem dX12_pot_99 : decode cX12_pot 99 = .ok (.iconst 1, 1) := by decide +kernel
theorem dX12_pot_100 : decode cX12_pot 100 = .ok (.isub, 1) := by decide +kernel
theorem dX12_pot_101 : decode cX12_pot 101 = .ok (.istore 6, 2) := by decide +kernel
theorem dX12_pot_103 : decode cX12_pot 103 = .ok (.iload 6, 2) := by decide +kernel
theorem dX12_pot_105 : decode cX12_pot 105 = .ok (.ifCond .lt 138, 3) := by decide +kernel
theorem dX12_pot_108 : decode cX12_pot 108 = .ok (.aload_n 0, 1) := by decide +kernel
theorem dX12_pot_109 : decode cX12_pot 109 = .ok (.getfield 96, 3) := by decide +kernel
theorem dX12_pot_112 : decode cX12_pot 112 = .ok (.iload 6, 2) := by decide +kernel
theorem dX12_pot_114 : decode cX12_pot 114 = .ok (.laload, 1) := by decide +kernel
theorem dX12_pot_115 : decode cX12_pot 115 = .ok (.lconst 0, 1) := by decide +kernel
theorem dX12_pot_116 : decode cX12_pot 116 = .ok (.lcmp, 1) := by decide +kernel
theorem dX12_pot_117 : decode cX12_pot 117 = .ok (.ifCond .ne 6, 3) := by decide +kernel
theorem dX12_pot_120 : decode cX12_pot 120 = .ok (.goto 117, 3) := by decide +kernel
theorem dX12_pot_123 : decode cX12_pot 123 = .ok (.iconst 0, 1) := by decide +kernel
