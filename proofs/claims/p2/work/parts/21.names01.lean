theorem dX5_stepNumber_1 : decode cX5_stepNumber 1 = .ok (.iconst 0, 1) := by decide +kernel
theorem dX5_stepNumber_2 : decode cX5_stepNumber 2 = .ok (.putfield 73, 3) := by decide +kernel
theorem dX5_stepNumber_5 : decode cX5_stepNumber 5 = .ok (.aload_n 0, 1) := by decide +kernel
theorem dX5_stepNumber_6 : decode cX5_stepNumber 6 = .ok (.getfield 35, 3) := by decide +kernel
theorem dX5_stepNumber_9 : decode cX5_stepNumber 9 = .ok (.aload_n 0, 1) := by decide +kernel
theorem dX5_stepNumber_10 : decode cX5_stepNumber 10 = .ok (.getfield 32, 3) := by decide +kernel
theorem dX5_stepNumber_13 : decode cX5_stepNumber 13 = .ok (.if_icmp .ge 61, 3) := by decide +kernel
theorem dX5_stepNumber_16 : decode cX5_stepNumber 16 = .ok (.aload_n 0, 1) := by decide +kernel
theorem dX5_stepNumber_17 : decode cX5_stepNumber 17 = .ok (.getfield 22, 3) := by decide +kernel
theorem dX5_stepNumber_20 : decode cX5_stepNumber 20 = .ok (.aload_n 0, 1) := by decide +kernel
theorem dX5_stepNumber_21 : decode cX5_stepNumber 21 = .ok (.getfield 35, 3) := by decide +kernel
theorem dX5_stepNumber_24 : decode cX5_stepNumber 24 = .ok (.iaload, 1) := by decide +kernel
theorem dX5_stepNumber_25 : decode cX5_stepNumber 25 = .ok (.invokestatic 67, 3) := by decide +kernel
theorem dX5_stepNumber_28 : decode cX5_stepNumber 28 = .ok (.ifCond .eq 46, 3) := by decide +kernel
theorem dX5_stepNumber_31 : decode cX5_stepNumber 31 = .ok (.aload_n 0, 1) := by decide +kernel
theorem dX5_stepNumber_32 : decode cX5_stepNumber 32 = .ok (.aload_n 0, 1) := by decide +kernel
theorem dX5_stepNumber_33 : decode cX5_stepNumber 33 = .ok (.getfield 73, 3) := by decide +kernel
theorem dX5_stepNumber_36 : decode cX5_stepNumber 36 = .ok (.bipush 10, 2) := by decide +kernel
theorem dX5_stepNumber_38 : decode cX5_stepNumber 38 = .ok (.imul, 1) := by decide +kernel
theorem dX5_stepNumber_39 : decode cX5_stepNumber 39 = .ok (.aload_n 0, 1) := by decide +kernel
theorem dX5_stepNumber_40 : decode cX5_stepNumber 40 = .ok (.getfield 22, 3) := by decide +kernel
theorem dX5_stepNumber_43 : decode cX5_stepNumber 43 = .ok (.aload_n 0, 1) := by decide +kernel
theorem dX5_stepNumber_44 : decode cX5_stepNumber 44 = .ok (.getfield 35, 3) := by decide +kernel
theorem dX5_stepNumber_47 : decode cX5_stepNumber 47 = .ok (.iaload, 1) := by decide +kernel
theorem dX5_stepNumber_48 : decode cX5_stepNumber 48 = .ok (.iadd, 1) := by decide +kernel
theorem dX5_stepNumber_49 : decode cX5_stepNumber 49 = .ok (.bipush 48, 2) := by decide +kernel
theorem dX5_stepNumber_51 : decode cX5_stepNumber 51 = .ok (.isub, 1) := by decide +kernel
theorem dX5_stepNumber_52 : decode cX5_stepNumber 52 = .ok (.sipush 1000, 3) := by decide +kernel
theorem dX5_stepNumber_55 : decode cX5_stepNumber 55 = .ok (.invokestatic 26, 3) := by decide +kernel
theorem dX5_stepNumber_58 : decode cX5_stepNumber 58 = .ok (.putfield 73, 3) := by decide +kernel
theorem dX5_stepNumber_61 : decode cX5_stepNumber 61 = .ok (.aload_n 0, 1) := by decide +kernel
theorem dX5_stepNumber_62 : decode cX5_stepNumber 62 = .ok (.dup, 1) := by decide +kernel
theorem dX5_stepNumber_63 : decode cX5_stepNumber 63 = .ok (.getfield 35, 3) := by decide +kernel
theorem dX5_stepNumber_66 : decode cX5_stepNumber 66 = .ok (.iconst 1, 1) := by decide +kernel
theorem dX5_stepNumber_67 : decode cX5_stepNumber 67 = .ok (.iadd, 1) := by decide +kernel
theorem dX5_stepNumber_68 : decode cX5_stepNumber 68 = .ok (.putfield 35, 3) := by decide +kernel
theorem dX5_stepNumber_71 : decode cX5_stepNumber 71 = .ok (.goto (-66), 3) := by decide +kernel
theorem dX5_stepNumber_74 : decode cX5_stepNumber 74 = .ok (.aload_n 0, 1) := by decide +kernel
theorem dX5_stepNumber_75 : decode cX5_stepNumber 75 = .ok (.iconst 2, 1) := by decide +kernel
theorem dX5_stepNumber_76 : decode cX5_stepNumber 76 = .ok (.putfield 47, 3) := by decide +kernel
theorem dX5_stepNumber_79 : decode cX5_stepNumber 79 = .ok (.return_, 1) := by decide +kernel
theorem dX5_isBlank_0 : decode cX5_isBlank 0 = .ok (.iload_n 0, 1) := by decide +kernel
theorem dX5_isBlank_1 : decode cX5_isBlank 1 = .ok (.bipush 10, 2) := by decide +kernel
theorem dX5_isBlank_3 : decode cX5_isBlank 3 = .ok (.if_icmp .eq 9, 3) := by decide +kernel
theorem dX5_isBlank_6 : decode cX5_isBlank 6 = .ok (.iload_n 0, 1) := by decide +kernel
theorem dX5_isBlank_7 : decode cX5_isBlank 7 = .ok (.bipush 32, 2) := by decide +kernel
theorem dX5_isBlank_9 : decode cX5_isBlank 9 = .ok (.if_icmp .ne 7, 3) := by decide +kernel
theorem dX5_isBlank_12 : decode cX5_isBlank 12 = .ok (.iconst 1, 1) := by decide +kernel
theorem dX5_isBlank_13 : decode cX5_isBlank 13 = .ok (.goto 4, 3) := by decide +kernel
theorem dX5_isBlank_16 : decode cX5_isBlank 16 = .ok (.iconst 0, 1) := by decide +kernel
theorem dX5_isBlank_17 : decode cX5_isBlank 17 = .ok (.ireturn, 1) := by decide +kernel
theorem dX5_isLetter_0 : decode cX5_isLetter 0 = .ok (.iload_n 0, 1) := by decide +kernel
theorem dX5_isLetter_1 : decode cX5_isLetter 1 = .ok (.bipush 97, 2) := by decide +kernel
theorem dX5_isLetter_3 : decode cX5_isLetter 3 = .ok (.if_icmp .lt 13, 3) := by decide +kernel
theorem dX5_isLetter_6 : decode cX5_isLetter 6 = .ok (.iload_n 0, 1) := by decide +kernel
theorem dX5_isLetter_7 : decode cX5_isLetter 7 = .ok (.bipush 122, 2) := by decide +kernel
theorem dX5_isLetter_9 : decode cX5_isLetter 9 = .ok (.if_icmp .gt 7, 3) := by decide +kernel
theorem dX5_isLetter_12 : decode cX5_isLetter 12 = .ok (.iconst 1, 1) := by decide +kernel
theorem dX5_isLetter_13 : decode cX5_isLetter 13 = .ok (.goto 4, 3) := by decide +kernel
theorem dX5_isLetter_16 : decode cX5_isLetter 16 = .ok (.iconst 0, 1) := by decide +kernel
theorem dX5_isLetter_17 : decode cX5_isLetter 17 = .ok (.ireturn, 1) := by decide +kernel
theorem dX5_isDigit_0 : decode cX5_isDigit 0 = .ok (.iload_n 0, 1) := by decide +kernel
theorem dX5_isDigit_1 : decode cX5_isDigit 1 = .ok (.bipush 48, 2) := by decide +kernel
theorem dX5_isDigit_3 : decode cX5_isDigit 3 = .ok (.if_icmp .lt 13, 3) := by decide +kernel
theorem dX5_isDigit_6 : decode cX5_isDigit 6 = .ok (.iload_n 0, 1) := by decide +kernel
theorem dX5_isDigit_7 : decode cX5_isDigit 7 = .ok (.bipush 57, 2) := by decide +kernel
theorem dX5_isDigit_9 : decode cX5_isDigit 9 = .ok (.if_icmp .gt 7, 3) := by decide +kernel
theorem dX5_isDigit_12 : decode cX5_isDigit 12 = .ok (.iconst 1, 1) := by decide +kernel
theorem dX5_isDigit_13 : decode cX5_isDigit 13 = .ok (.goto 4, 3) := by decide +kernel
theorem dX5_isDigit_16 : decode cX5_isDigit 16 = .ok (.iconst 0, 1) := by decide +kernel
theorem dX5_isDigit_17 : decode cX5_isDigit 17 = .ok (.ireturn, 1) := by decide +kernel
theorem dX5_readLine_0 : decode cX5_readLine 0 = .ok (.aload_n 0, 1) := by decide +kernel
theorem dX5_readLine_1 : decode cX5_readLine 1 = .ok (.iload_n 1, 1) := by decide +kernel
theorem dX5_readLine_2 : decode cX5_readLine 2 = .ok (.invokevirtual 76, 3) := by decide +kernel
theorem dX5_readLine_5 : decode cX5_readLine 5 = .ok (.ifCond .eq 14, 3) := by decide +kernel
theorem dX5_readLine_8 : decode cX5_readLine 8 = .ok (.aload_n 0, 1) := by decide +kernel
theorem dX5_readLine_9 : decode cX5_readLine 9 = .ok (.invokevirtual 79, 3) := by decide +kernel
theorem dX5_readLine_12 : decode cX5_readLine 12 = .ok (.ifCond .eq 7, 3) := by decide +kernel
theorem dX5_readLine_15 : decode cX5_readLine 15 = .ok (.iconst 1, 1) := by decide +kernel
theorem dX5_readLine_16 : decode cX5_readLine 16 = .ok (.goto 4, 3) := by decide +kernel
theorem dX5_readLine_19 : decode cX5_readLine 19 = .ok (.iconst 0, 1) := by decide +kernel
theorem dX5_readLine_20 : decode cX5_readLine 20 = .ok (.ireturn, 1) := by decide +kernel
theorem dX5_readUpToStop_0 : decode cX5_readUpToStop 0 = .ok (.aload_n 0, 1) := by decide +kernel
theorem dX5_readUpToStop_1 : decode cX5_readUpToStop 1 = .ok (.getfield 47, 3) := by decide +kernel
theorem dX5_readUpToStop_4 : decode cX5_readUpToStop 4 = .ok (.iconst 1, 1) := by decide +kernel
theorem dX5_readUpToStop_5 : decode cX5_readUpToStop 5 = .ok (.if_icmp .ne 16, 3) := by decide +kernel
theorem dX5_readUpToStop_8 : decode cX5_readUpToStop 8 = .ok (.iload_n 1, 1) := by decide +kernel
theorem dX5_readUpToStop_9 : decode cX5_readUpToStop 9 = .ok (.ifCond .eq 18, 3) := by decide +kernel
theorem dX5_readUpToStop_12 : decode cX5_readUpToStop 12 = .ok (.aload_n 0, 1) := by decide +kernel
theorem dX5_readUpToStop_13 : decode cX5_readUpToStop 13 = .ok (.getfield 73, 3) := by decide +kernel
theorem dX5_readUpToStop_16 : decode cX5_readUpToStop 16 = .ok (.ldc 83, 2) := by decide +kernel
theorem dX5_readUpToStop_18 : decode cX5_readUpToStop 18 = .ok (.if_icmp .eq 9, 3) := by decide +kernel
theorem dX5_readUpToStop_21 : decode cX5_readUpToStop 21 = .ok (.aload_n 0, 1) := by decide +kernel
theorem dX5_readUpToStop_22 : decode cX5_readUpToStop 22 = .ok (.iconst 1, 1) := by decide +kernel
theorem dX5_readUpToStop_23 : decode cX5_readUpToStop 23 = .ok (.invokevirtual 84, 3) := by decide +kernel
theorem dX5_readUpToStop_26 : decode cX5_readUpToStop 26 = .ok (.ireturn, 1) := by decide +kernel
theorem dX5_readUpToStop_27 : decode cX5_readUpToStop 27 = .ok (.iload_n 1, 1) := by decide +kernel
theorem dX5_readUpToStop_28 : decode cX5_readUpToStop 28 = .ok (.ifCond .eq 8, 3) := by decide +kernel
theorem dX5_readUpToStop_31 : decode cX5_readUpToStop 31 = .ok (.aload_n 0, 1) := by decide +kernel
theorem dX5_readUpToStop_32 : decode cX5_readUpToStop 32 = .ok (.invokevirtual 87, 3) := by decide +kernel
theorem dX5_readUpToStop_35 : decode cX5_readUpToStop 35 = .ok (.ireturn, 1) := by decide +kernel
theorem dX5_readUpToStop_36 : decode cX5_readUpToStop 36 = .ok (.aload_n 0, 1) := by decide +kernel
theorem dX5_readUpToStop_37 : decode cX5_readUpToStop 37 = .ok (.getfield 73, 3) := by decide +kernel
theorem dX5_readUpToStop_40 : decode cX5_readUpToStop 40 = .ok (.lookupswitch 166 #[(50383488, 104), (54967924, 84), (211555456, 145), (254268947, 68), (437857280, 79), (475731520, 124), (553254912, 74)], 68) := by decide +kernel
theorem dX5_readUpToStop_108 : decode cX5_readUpToStop 108 = .ok (.aload_n 0, 1) := by decide +kernel
theorem dX5_readUpToStop_109 : decode cX5_readUpToStop 109 = .ok (.iconst 3, 1) := by decide +kernel
theorem dX5_readUpToStop_110 : decode cX5_readUpToStop 110 = .ok (.invokevirtual 84, 3) := by decide +kernel
theorem dX5_readUpToStop_113 : decode cX5_readUpToStop 113 = .ok (.ireturn, 1) := by decide +kernel
theorem dX5_readUpToStop_114 : decode cX5_readUpToStop 114 = .ok (.aload_n 0, 1) := by decide +kernel
theorem dX5_readUpToStop_115 : decode cX5_readUpToStop 115 = .ok (.invokevirtual 90, 3) := by decide +kernel
theorem dX5_readUpToStop_118 : decode cX5_readUpToStop 118 = .ok (.ireturn, 1) := by decide +kernel
theorem dX5_readUpToStop_119 : decode cX5_readUpToStop 119 = .ok (.aload_n 0, 1) := by decide +kernel
theorem dX5_readUpToStop_120 : decode cX5_readUpToStop 120 = .ok (.invokevirtual 93, 3) := by decide +kernel
theorem dX5_readUpToStop_123 : decode cX5_readUpToStop 123 = .ok (.ireturn, 1) := by decide +kernel
theorem dX5_readUpToStop_124 : decode cX5_readUpToStop 124 = .ok (.aload_n 0, 1) := by decide +kernel
theorem dX5_readUpToStop_125 : decode cX5_readUpToStop 125 = .ok (.invokevirtual 96, 3) := by decide +kernel
theorem dX5_readUpToStop_128 : decode cX5_readUpToStop 128 = .ok (.ifCond .eq 14, 3) := by decide +kernel
theorem dX5_readUpToStop_131 : decode cX5_readUpToStop 131 = .ok (.aload_n 0, 1) := by decide +kernel
theorem dX5_readUpToStop_132 : decode cX5_readUpToStop 132 = .ok (.invokevirtual 99, 3) := by decide +kernel
theorem dX5_readUpToStop_135 : decode cX5_readUpToStop 135 = .ok (.ifCond .eq 7, 3) := by decide +kernel
theorem dX5_readUpToStop_138 : decode cX5_readUpToStop 138 = .ok (.iconst 1, 1) := by decide +kernel
theorem dX5_readUpToStop_139 : decode cX5_readUpToStop 139 = .ok (.goto 4, 3) := by decide +kernel
theorem dX5_readUpToStop_142 : decode cX5_readUpToStop 142 = .ok (.iconst 0, 1) := by decide +kernel
theorem dX5_readUpToStop_143 : decode cX5_readUpToStop 143 = .ok (.ireturn, 1) := by decide +kernel
theorem dX5_readUpToStop_144 : decode cX5_readUpToStop 144 = .ok (.aload_n 0, 1) := by decide +kernel
theorem dX5_readUpToStop_145 : decode cX5_readUpToStop 145 = .ok (.invokevirtual 96, 3) := by decide +kernel
theorem dX5_readUpToStop_148 : decode cX5_readUpToStop 148 = .ok (.ifCond .eq 14, 3) := by decide +kernel
theorem dX5_readUpToStop_151 : decode cX5_readUpToStop 151 = .ok (.aload_n 0, 1) := by decide +kernel
theorem dX5_readUpToStop_152 : decode cX5_readUpToStop 152 = .ok (.invokevirtual 102, 3) := by decide +kernel
theorem dX5_readUpToStop_155 : decode cX5_readUpToStop 155 = .ok (.ifCond .eq 7, 3) := by decide +kernel
theorem dX5_readUpToStop_158 : decode cX5_readUpToStop 158 = .ok (.iconst 1, 1) := by decide +kernel
theorem dX5_readUpToStop_159 : decode cX5_readUpToStop 159 = .ok (.goto 4, 3) := by decide +kernel
theorem dX5_readUpToStop_162 : decode cX5_readUpToStop 162 = .ok (.iconst 0, 1) := by decide +kernel
theorem dX5_readUpToStop_163 : decode cX5_readUpToStop 163 = .ok (.ireturn, 1) := by decide +kernel
theorem dX5_readUpToStop_164 : decode cX5_readUpToStop 164 = .ok (.aload_n 0, 1) := by decide +kernel
theorem dX5_readUpToStop_165 : decode cX5_readUpToStop 165 = .ok (.invokevirtual 96, 3) := by decide +kernel
theorem dX5_readUpToStop_168 : decode cX5_readUpToStop 168 = .ok (.ifCond .eq 15, 3) := by decide +kernel
theorem dX5_readUpToStop_171 : decode cX5_readUpToStop 171 = .ok (.aload_n 0, 1) := by decide +kernel
theorem dX5_readUpToStop_172 : decode cX5_readUpToStop 172 = .ok (.iconst 0, 1) := by decide +kernel
theorem dX5_readUpToStop_173 : decode cX5_readUpToStop 173 = .ok (.invokevirtual 105, 3) := by decide +kernel
theorem dX5_readUpToStop_176 : decode cX5_readUpToStop 176 = .ok (.ifCond .eq 7, 3) := by decide +kernel
theorem dX5_readUpToStop_179 : decode cX5_readUpToStop 179 = .ok (.iconst 1, 1) := by decide +kernel
theorem dX5_readUpToStop_180 : decode cX5_readUpToStop 180 = .ok (.goto 4, 3) := by decide +kernel
theorem dX5_readUpToStop_183 : decode cX5_readUpToStop 183 = .ok (.iconst 0, 1) := by decide +kernel
theorem dX5_readUpToStop_184 : decode cX5_readUpToStop 184 = .ok (.ireturn, 1) := by decide +kernel
theorem dX5_readUpToStop_185 : decode cX5_readUpToStop 185 = .ok (.aload_n 0, 1) := by decide +kernel
theorem dX5_readUpToStop_186 : decode cX5_readUpToStop 186 = .ok (.invokevirtual 96, 3) := by decide +kernel
theorem dX5_readUpToStop_189 : decode cX5_readUpToStop 189 = .ok (.ifCond .eq 15, 3) := by decide +kernel
theorem dX5_readUpToStop_192 : decode cX5_readUpToStop 192 = .ok (.aload_n 0, 1) := by decide +kernel
theorem dX5_readUpToStop_193 : decode cX5_readUpToStop 193 = .ok (.iconst 1, 1) := by decide +kernel
theorem dX5_readUpToStop_194 : decode cX5_readUpToStop 194 = .ok (.invokevirtual 105, 3) := by decide +kernel
theorem dX5_readUpToStop_197 : decode cX5_readUpToStop 197 = .ok (.ifCond .eq 7, 3) := by decide +kernel
theorem dX5_readUpToStop_200 : decode cX5_readUpToStop 200 = .ok (.iconst 1, 1) := by decide +kernel
theorem dX5_readUpToStop_201 : decode cX5_readUpToStop 201 = .ok (.goto 4, 3) := by decide +kernel
theorem dX5_readUpToStop_204 : decode cX5_readUpToStop 204 = .ok (.iconst 0, 1) := by decide +kernel
theorem dX5_readUpToStop_205 : decode cX5_readUpToStop 205 = .ok (.ireturn, 1) := by decide +kernel
theorem dX5_readUpToStop_206 : decode cX5_readUpToStop 206 = .ok (.aload_n 0, 1) := by decide +kernel
theorem dX5_readUpToStop_207 : decode cX5_readUpToStop 207 = .ok (.iconst 1, 1) := by decide +kernel
theorem dX5_readUpToStop_208 : decode cX5_readUpToStop 208 = .ok (.invokevirtual 84, 3) := by decide +kernel
theorem dX5_readUpToStop_211 : decode cX5_readUpToStop 211 = .ok (.ireturn, 1) := by decide +kernel
theorem dX5_readGroups_0 : decode cX5_readGroups 0 = .ok (.aload_n 0, 1) := by decide +kernel
theorem dX5_readGroups_1 : decode cX5_readGroups 1 = .ok (.invokevirtual 44, 3) := by decide +kernel
theorem dX5_readGroups_4 : decode cX5_readGroups 4 = .ok (.aload_n 0, 1) := by decide +kernel
theorem dX5_readGroups_5 : decode cX5_readGroups 5 = .ok (.iconst 2, 1) := by decide +kernel
theorem dX5_readGroups_6 : decode cX5_readGroups 6 = .ok (.iconst 4, 1) := by decide +kernel
theorem dX5_readGroups_7 : decode cX5_readGroups 7 = .ok (.invokevirtual 108, 3) := by decide +kernel
theorem dX5_readGroups_10 : decode cX5_readGroups 10 = .ok (.ifCond .ne 5, 3) := by decide +kernel
theorem dX5_readGroups_13 : decode cX5_readGroups 13 = .ok (.iconst 0, 1) := by decide +kernel
theorem dX5_readGroups_14 : decode cX5_readGroups 14 = .ok (.ireturn, 1) := by decide +kernel
theorem dX5_readGroups_15 : decode cX5_readGroups 15 = .ok (.aload_n 0, 1) := by decide +kernel
theorem dX5_readGroups_16 : decode cX5_readGroups 16 = .ok (.getfield 12, 3) := by decide +kernel
theorem dX5_readGroups_19 : decode cX5_readGroups 19 = .ok (.aload_n 0, 1) := by decide +kernel
theorem dX5_readGroups_20 : decode cX5_readGroups 20 = .ok (.getfield 73, 3) := by decide +kernel
theorem dX5_readGroups_23 : decode cX5_readGroups 23 = .ok (.putfield 112, 3) := by decide +kernel
theorem dX5_readGroups_26 : decode cX5_readGroups 26 = .ok (.aload_n 0, 1) := by decide +kernel
theorem dX5_readGroups_27 : decode cX5_readGroups 27 = .ok (.invokevirtual 44, 3) := by decide +kernel
theorem dX5_readGroups_30 : decode cX5_readGroups 30 = .ok (.iconst 1, 1) := by decide +kernel
theorem dX5_readGroups_31 : decode cX5_readGroups 31 = .ok (.ireturn, 1) := by decide +kernel
theorem dX5_readPot_0 : decode cX5_readPot 0 = .ok (.aload_n 0, 1) := by decide +kernel
theorem dX5_readPot_1 : decode cX5_readPot 1 = .ok (.getfield 12, 3) := by decide +kernel
theorem dX5_readPot_4 : decode cX5_readPot 4 = .ok (.getfield 115, 3) := by decide +kernel
theorem dX5_readPot_7 : decode cX5_readPot 7 = .ok (.iconst 4, 1) := by decide +kernel
theorem dX5_readPot_8 : decode cX5_readPot 8 = .ok (.if_icmp .eq 23, 3) := by decide +kernel
theorem dX5_readPot_11 : decode cX5_readPot 11 = .ok (.aload_n 0, 1) := by decide +kernel
theorem dX5_readPot_12 : decode cX5_readPot 12 = .ok (.getfield 12, 3) := by decide +kernel
theorem dX5_readPot_15 : decode cX5_readPot 15 = .ok (.getfield 118, 3) := by decide +kernel
theorem dX5_readPot_18 : decode cX5_readPot 18 = .ok (.aload_n 0, 1) := by decide +kernel
theorem dX5_readPot_19 : decode cX5_readPot 19 = .ok (.getfield 12, 3) := by decide +kernel
theorem dX5_readPot_22 : decode cX5_readPot 22 = .ok (.getfield 112, 3) := by decide +kernel
theorem dX5_readPot_25 : decode cX5_readPot 25 = .ok (.iadd, 1) := by decide +kernel
theorem dX5_readPot_26 : decode cX5_readPot 26 = .ok (.bipush 12, 2) := by decide +kernel
theorem dX5_readPot_28 : decode cX5_readPot 28 = .ok (.if_icmp .le 9, 3) := by decide +kernel
theorem dX5_readPot_31 : decode cX5_readPot 31 = .ok (.aload_n 0, 1) := by decide +kernel
theorem dX5_readPot_32 : decode cX5_readPot 32 = .ok (.iconst 2, 1) := by decide +kernel
theorem dX5_readPot_33 : decode cX5_readPot 33 = .ok (.invokevirtual 84, 3) := by decide +kernel
theorem dX5_readPot_36 : decode cX5_readPot 36 = .ok (.ireturn, 1) := by decide +kernel
theorem dX5_readPot_37 : decode cX5_readPot 37 = .ok (.aload_n 0, 1) := by decide +kernel
theorem dX5_readPot_38 : decode cX5_readPot 38 = .ok (.invokevirtual 44, 3) := by decide +kernel
theorem dX5_readPot_41 : decode cX5_readPot 41 = .ok (.iconst 0, 1) := by decide +kernel
theorem dX5_readPot_42 : decode cX5_readPot 42 = .ok (.istore_n 1, 1) := by decide +kernel
theorem dX5_readPot_43 : decode cX5_readPot 43 = .ok (.iconst 0, 1) := by decide +kernel
theorem dX5_readPot_44 : decode cX5_readPot 44 = .ok (.istore_n 2, 1) := by decide +kernel
theorem dX5_readPot_45 : decode cX5_readPot 45 = .ok (.iload_n 2, 1) := by decide +kernel
theorem dX5_readPot_46 : decode cX5_readPot 46 = .ok (.aload_n 0, 1) := by decide +kernel
theorem dX5_readPot_47 : decode cX5_readPot 47 = .ok (.getfield 32, 3) := by decide +kernel
theorem dX5_readPot_50 : decode cX5_readPot 50 = .ok (.if_icmp .ge 86, 3) := by decide +kernel
theorem dX5_readPot_53 : decode cX5_readPot 53 = .ok (.iload_n 1, 1) := by decide +kernel
theorem dX5_readPot_54 : decode cX5_readPot 54 = .ok (.ifCond .eq 11, 3) := by decide +kernel
theorem dX5_readPot_57 : decode cX5_readPot 57 = .ok (.aload_n 0, 1) := by decide +kernel
theorem dX5_readPot_58 : decode cX5_readPot 58 = .ok (.getfield 47, 3) := by decide +kernel
theorem dX5_readPot_61 : decode cX5_readPot 61 = .ok (.iconst 3, 1) := by decide +kernel
theorem dX5_readPot_62 : decode cX5_readPot 62 = .ok (.if_icmp .eq 74, 3) := by decide +kernel
theorem dX5_readPot_65 : decode cX5_readPot 65 = .ok (.aload_n 0, 1) := by decide +kernel
theorem dX5_readPot_66 : decode cX5_readPot 66 = .ok (.invokevirtual 121, 3) := by decide +kernel
theorem dX5_readPot_69 : decode cX5_readPot 69 = .ok (.ifCond .ne 5, 3) := by decide +kernel
theorem dX5_readPot_72 : decode cX5_readPot 72 = .ok (.iconst 0, 1) := by decide +kernel
theorem dX5_readPot_73 : decode cX5_readPot 73 = .ok (.ireturn, 1) := by decide +kernel
theorem dX5_readPot_74 : decode cX5_readPot 74 = .ok (.iload_n 1, 1) := by decide +kernel
theorem dX5_readPot_75 : decode cX5_readPot 75 = .ok (.aload_n 0, 1) := by decide +kernel
theorem dX5_readPot_76 : decode cX5_readPot 76 = .ok (.getfield 12, 3) := by decide +kernel
theorem dX5_readPot_79 : decode cX5_readPot 79 = .ok (.getfield 112, 3) := by decide +kernel
theorem dX5_readPot_82 : decode cX5_readPot 82 = .ok (.if_icmp .ne 9, 3) := by decide +kernel
theorem dX5_readPot_85 : decode cX5_readPot 85 = .ok (.aload_n 0, 1) := by decide +kernel
theorem dX5_readPot_86 : decode cX5_readPot 86 = .ok (.iconst 2, 1) := by decide +kernel
theorem dX5_readPot_87 : decode cX5_readPot 87 = .ok (.invokevirtual 84, 3) := by decide +kernel
theorem dX5_readPot_90 : decode cX5_readPot 90 = .ok (.ireturn, 1) := by decide +kernel
theorem dX5_readPot_91 : decode cX5_readPot 91 = .ok (.aload_n 0, 1) := by decide +kernel
theorem dX5_readPot_92 : decode cX5_readPot 92 = .ok (.getfield 12, 3) := by decide +kernel
theorem dX5_readPot_95 : decode cX5_readPot 95 = .ok (.aload_n 0, 1) := by decide +kernel
theorem dX5_readPot_96 : decode cX5_readPot 96 = .ok (.getfield 73, 3) := by decide +kernel
theorem dX5_readPot_99 : decode cX5_readPot 99 = .ok (.invokevirtual 124, 3) := by decide +kernel
theorem dX5_readPot_102 : decode cX5_readPot 102 = .ok (.iconst (-1), 1) := by decide +kernel
theorem dX5_readPot_103 : decode cX5_readPot 103 = .ok (.if_icmp .eq 9, 3) := by decide +kernel
theorem dX5_readPot_106 : decode cX5_readPot 106 = .ok (.aload_n 0, 1) := by decide +kernel
theorem dX5_readPot_107 : decode cX5_readPot 107 = .ok (.iconst 3, 1) := by decide +kernel
theorem dX5_readPot_108 : decode cX5_readPot 108 = .ok (.invokevirtual 84, 3) := by decide +kernel
theorem dX5_readPot_111 : decode cX5_readPot 111 = .ok (.ireturn, 1) := by decide +kernel
theorem dX5_readPot_112 : decode cX5_readPot 112 = .ok (.aload_n 0, 1) := by decide +kernel
theorem dX5_readPot_113 : decode cX5_readPot 113 = .ok (.getfield 12, 3) := by decide +kernel
theorem dX5_readPot_116 : decode cX5_readPot 116 = .ok (.aload_n 0, 1) := by decide +kernel
theorem dX5_readPot_117 : decode cX5_readPot 117 = .ok (.getfield 73, 3) := by decide +kernel
theorem dX5_readPot_120 : decode cX5_readPot 120 = .ok (.invokevirtual 128, 3) := by decide +kernel
theorem dX5_readPot_123 : decode cX5_readPot 123 = .ok (.iinc 1 1, 3) := by decide +kernel
theorem dX5_readPot_126 : decode cX5_readPot 126 = .ok (.aload_n 0, 1) := by decide +kernel
theorem dX5_readPot_127 : decode cX5_readPot 127 = .ok (.invokevirtual 44, 3) := by decide +kernel
theorem dX5_readPot_130 : decode cX5_readPot 130 = .ok (.iinc 2 1, 3) := by decide +kernel
theorem dX5_readPot_133 : decode cX5_readPot 133 = .ok (.goto (-88), 3) := by decide +kernel
theorem dX5_readPot_136 : decode cX5_readPot 136 = .ok (.iload_n 1, 1) := by decide +kernel
theorem dX5_readPot_137 : decode cX5_readPot 137 = .ok (.aload_n 0, 1) := by decide +kernel
theorem dX5_readPot_138 : decode cX5_readPot 138 = .ok (.getfield 12, 3) := by decide +kernel
theorem dX5_readPot_141 : decode cX5_readPot 141 = .ok (.getfield 112, 3) := by decide +kernel
theorem dX5_readPot_144 : decode cX5_readPot 144 = .ok (.if_icmp .ge 9, 3) := by decide +kernel
theorem dX5_readPot_147 : decode cX5_readPot 147 = .ok (.aload_n 0, 1) := by decide +kernel
theorem dX5_readPot_148 : decode cX5_readPot 148 = .ok (.iconst 5, 1) := by decide +kernel
theorem dX5_readPot_149 : decode cX5_readPot 149 = .ok (.invokevirtual 84, 3) := by decide +kernel
theorem dX5_readPot_152 : decode cX5_readPot 152 = .ok (.ireturn, 1) := by decide +kernel
theorem dX5_readPot_153 : decode cX5_readPot 153 = .ok (.aload_n 0, 1) := by decide +kernel
theorem dX5_readPot_154 : decode cX5_readPot 154 = .ok (.getfield 12, 3) := by decide +kernel
theorem dX5_readPot_157 : decode cX5_readPot 157 = .ok (.dup, 1) := by decide +kernel
theorem dX5_readPot_158 : decode cX5_readPot 158 = .ok (.getfield 115, 3) := by decide +kernel
theorem dX5_readPot_161 : decode cX5_readPot 161 = .ok (.iconst 1, 1) := by decide +kernel
theorem dX5_readPot_162 : decode cX5_readPot 162 = .ok (.iadd, 1) := by decide +kernel
theorem dX5_readPot_163 : decode cX5_readPot 163 = .ok (.putfield 115, 3) := by decide +kernel
theorem dX5_readPot_166 : decode cX5_readPot 166 = .ok (.iconst 1, 1) := by decide +kernel
theorem dX5_readPot_167 : decode cX5_readPot 167 = .ok (.ireturn, 1) := by decide +kernel
theorem dX5_readMark_0 : decode cX5_readMark 0 = .ok (.aload_n 0, 1) := by decide +kernel
theorem dX5_readMark_1 : decode cX5_readMark 1 = .ok (.getfield 12, 3) := by decide +kernel
theorem dX5_readMark_4 : decode cX5_readMark 4 = .ok (.getfield 132, 3) := by decide +kernel
theorem dX5_readMark_7 : decode cX5_readMark 7 = .ok (.bipush 6, 2) := by decide +kernel
theorem dX5_readMark_9 : decode cX5_readMark 9 = .ok (.if_icmp .ne 9, 3) := by decide +kernel
theorem dX5_readMark_12 : decode cX5_readMark 12 = .ok (.aload_n 0, 1) := by decide +kernel
theorem dX5_readMark_13 : decode cX5_readMark 13 = .ok (.iconst 2, 1) := by decide +kernel
theorem dX5_readMark_14 : decode cX5_readMark 14 = .ok (.invokevirtual 84, 3) := by decide +kernel
theorem dX5_readMark_17 : decode cX5_readMark 17 = .ok (.ireturn, 1) := by decide +kernel
theorem dX5_readMark_18 : decode cX5_readMark 18 = .ok (.aload_n 0, 1) := by decide +kernel
theorem dX5_readMark_19 : decode cX5_readMark 19 = .ok (.invokevirtual 44, 3) := by decide +kernel
theorem dX5_readMark_22 : decode cX5_readMark 22 = .ok (.aload_n 0, 1) := by decide +kernel
theorem dX5_readMark_23 : decode cX5_readMark 23 = .ok (.invokevirtual 121, 3) := by decide +kernel
theorem dX5_readMark_26 : decode cX5_readMark 26 = .ok (.ifCond .ne 5, 3) := by decide +kernel
theorem dX5_readMark_29 : decode cX5_readMark 29 = .ok (.iconst 0, 1) := by decide +kernel
theorem dX5_readMark_30 : decode cX5_readMark 30 = .ok (.ireturn, 1) := by decide +kernel
theorem dX5_readMark_31 : decode cX5_readMark 31 = .ok (.aload_n 0, 1) := by decide +kernel
theorem dX5_readMark_32 : decode cX5_readMark 32 = .ok (.getfield 12, 3) := by decide +kernel
theorem dX5_readMark_35 : decode cX5_readMark 35 = .ok (.aload_n 0, 1) := by decide +kernel
theorem dX5_readMark_36 : decode cX5_readMark 36 = .ok (.getfield 73, 3) := by decide +kernel
theorem dX5_readMark_39 : decode cX5_readMark 39 = .ok (.invokevirtual 135, 3) := by decide +kernel
theorem dX5_readMark_42 : decode cX5_readMark 42 = .ok (.iconst (-1), 1) := by decide +kernel
theorem dX5_readMark_43 : decode cX5_readMark 43 = .ok (.if_icmp .eq 9, 3) := by decide +kernel
theorem dX5_readMark_46 : decode cX5_readMark 46 = .ok (.aload_n 0, 1) := by decide +kernel
theorem dX5_readMark_47 : decode cX5_readMark 47 = .ok (.iconst 3, 1) := by decide +kernel
theorem dX5_readMark_48 : decode cX5_readMark 48 = .ok (.invokevirtual 84, 3) := by decide +kernel
theorem dX5_readMark_51 : decode cX5_readMark 51 = .ok (.ireturn, 1) := by decide +kernel
theorem dX5_readMark_52 : decode cX5_readMark 52 = .ok (.iconst 1, 1) := by decide +kernel
theorem dX5_readMark_53 : decode cX5_readMark 53 = .ok (.aload_n 0, 1) := by decide +kernel
theorem dX5_readMark_54 : decode cX5_readMark 54 = .ok (.getfield 12, 3) := by decide +kernel
theorem dX5_readMark_57 : decode cX5_readMark 57 = .ok (.getfield 132, 3) := by decide +kernel
theorem dX5_readMark_60 : decode cX5_readMark 60 = .ok (.ishl, 1) := by decide +kernel
theorem dX5_readMark_61 : decode cX5_readMark 61 = .ok (.istore_n 1, 1) := by decide +kernel
theorem dX5_readMark_62 : decode cX5_readMark 62 = .ok (.aload_n 0, 1) := by decide +kernel
theorem dX5_readMark_63 : decode cX5_readMark 63 = .ok (.getfield 12, 3) := by decide +kernel
theorem dX5_readMark_66 : decode cX5_readMark 66 = .ok (.aload_n 0, 1) := by decide +kernel
theorem dX5_readMark_67 : decode cX5_readMark 67 = .ok (.getfield 73, 3) := by decide +kernel
theorem dX5_readMark_70 : decode cX5_readMark 70 = .ok (.invokevirtual 138, 3) := by decide +kernel
theorem dX5_readMark_73 : decode cX5_readMark 73 = .ok (.aload_n 0, 1) := by decide +kernel
theorem dX5_readMark_74 : decode cX5_readMark 74 = .ok (.invokevirtual 44, 3) := by decide +kernel
theorem dX5_readMark_77 : decode cX5_readMark 77 = .ok (.iconst 0, 1) := by decide +kernel
theorem dX5_readMark_78 : decode cX5_readMark 78 = .ok (.istore_n 2, 1) := by decide +kernel
theorem dX5_readMark_79 : decode cX5_readMark 79 = .ok (.iconst 0, 1) := by decide +kernel
theorem dX5_readMark_80 : decode cX5_readMark 80 = .ok (.istore_n 3, 1) := by decide +kernel
theorem dX5_readMark_81 : decode cX5_readMark 81 = .ok (.iload_n 3, 1) := by decide +kernel
theorem dX5_readMark_82 : decode cX5_readMark 82 = .ok (.aload_n 0, 1) := by decide +kernel
theorem dX5_readMark_83 : decode cX5_readMark 83 = .ok (.getfield 32, 3) := by decide +kernel
theorem dX5_readMark_86 : decode cX5_readMark 86 = .ok (.if_icmp .ge 77, 3) := by decide +kernel
theorem dX5_readMark_89 : decode cX5_readMark 89 = .ok (.iload_n 2, 1) := by decide +kernel
theorem dX5_readMark_90 : decode cX5_readMark 90 = .ok (.ifCond .eq 11, 3) := by decide +kernel
theorem dX5_readMark_93 : decode cX5_readMark 93 = .ok (.aload_n 0, 1) := by decide +kernel
theorem dX5_readMark_94 : decode cX5_readMark 94 = .ok (.getfield 47, 3) := by decide +kernel
theorem dX5_readMark_97 : decode cX5_readMark 97 = .ok (.iconst 3, 1) := by decide +kernel
theorem dX5_readMark_98 : decode cX5_readMark 98 = .ok (.if_icmp .eq 65, 3) := by decide +kernel
theorem dX5_readMark_101 : decode cX5_readMark 101 = .ok (.aload_n 0, 1) := by decide +kernel
theorem dX5_readMark_102 : decode cX5_readMark 102 = .ok (.invokevirtual 141, 3) := by decide +kernel
theorem dX5_readMark_105 : decode cX5_readMark 105 = .ok (.istore 4, 2) := by decide +kernel
theorem dX5_readMark_107 : decode cX5_readMark 107 = .ok (.iload 4, 2) := by decide +kernel
theorem dX5_readMark_109 : decode cX5_readMark 109 = .ok (.iconst (-1), 1) := by decide +kernel
theorem dX5_readMark_110 : decode cX5_readMark 110 = .ok (.if_icmp .ne 5, 3) := by decide +kernel
theorem dX5_readMark_113 : decode cX5_readMark 113 = .ok (.iconst 0, 1) := by decide +kernel
theorem dX5_readMark_114 : decode cX5_readMark 114 = .ok (.ireturn, 1) := by decide +kernel
theorem dX5_readMark_115 : decode cX5_readMark 115 = .ok (.aload_n 0, 1) := by decide +kernel
theorem dX5_readMark_116 : decode cX5_readMark 116 = .ok (.getfield 12, 3) := by decide +kernel
theorem dX5_readMark_119 : decode cX5_readMark 119 = .ok (.getfield 145, 3) := by decide +kernel
theorem dX5_readMark_122 : decode cX5_readMark 122 = .ok (.iload 4, 2) := by decide +kernel
theorem dX5_readMark_124 : decode cX5_readMark 124 = .ok (.iaload, 1) := by decide +kernel
theorem dX5_readMark_125 : decode cX5_readMark 125 = .ok (.iload_n 1, 1) := by decide +kernel
theorem dX5_readMark_126 : decode cX5_readMark 126 = .ok (.iand, 1) := by decide +kernel
theorem dX5_readMark_127 : decode cX5_readMark 127 = .ok (.ifCond .eq 9, 3) := by decide +kernel
theorem dX5_readMark_130 : decode cX5_readMark 130 = .ok (.aload_n 0, 1) := by decide +kernel
theorem dX5_readMark_131 : decode cX5_readMark 131 = .ok (.iconst 3, 1) := by decide +kernel
theorem dX5_readMark_132 : decode cX5_readMark 132 = .ok (.invokevirtual 84, 3) := by decide +kernel
theorem dX5_readMark_135 : decode cX5_readMark 135 = .ok (.ireturn, 1) := by decide +kernel
theorem dX5_readMark_136 : decode cX5_readMark 136 = .ok (.aload_n 0, 1) := by decide +kernel
theorem dX5_readMark_137 : decode cX5_readMark 137 = .ok (.getfield 12, 3) := by decide +kernel
theorem dX5_readMark_140 : decode cX5_readMark 140 = .ok (.getfield 145, 3) := by decide +kernel
theorem dX5_readMark_143 : decode cX5_readMark 143 = .ok (.iload 4, 2) := by decide +kernel
theorem dX5_readMark_145 : decode cX5_readMark 145 = .ok (.dup2, 1) := by decide +kernel
theorem dX5_readMark_146 : decode cX5_readMark 146 = .ok (.iaload, 1) := by decide +kernel
theorem dX5_readMark_147 : decode cX5_readMark 147 = .ok (.iload_n 1, 1) := by decide +kernel
theorem dX5_readMark_148 : decode cX5_readMark 148 = .ok (.ior, 1) := by decide +kernel
theorem dX5_readMark_149 : decode cX5_readMark 149 = .ok (.iastore, 1) := by decide +kernel
theorem dX5_readMark_150 : decode cX5_readMark 150 = .ok (.iinc 2 1, 3) := by decide +kernel
theorem dX5_readMark_153 : decode cX5_readMark 153 = .ok (.aload_n 0, 1) := by decide +kernel
theorem dX5_readMark_154 : decode cX5_readMark 154 = .ok (.invokevirtual 44, 3) := by decide +kernel
theorem dX5_readMark_157 : decode cX5_readMark 157 = .ok (.iinc 3 1, 3) := by decide +kernel
theorem dX5_readMark_160 : decode cX5_readMark 160 = .ok (.goto (-79), 3) := by decide +kernel
theorem dX5_readMark_163 : decode cX5_readMark 163 = .ok (.iconst 1, 1) := by decide +kernel
theorem dX5_readMark_164 : decode cX5_readMark 164 = .ok (.ireturn, 1) := by decide +kernel
theorem dX5_isRoomForBar_0 : decode cX5_isRoomForBar 0 = .ok (.aload_n 0, 1) := by decide +kernel
theorem dX5_isRoomForBar_1 : decode cX5_isRoomForBar 1 = .ok (.getfield 12, 3) := by decide +kernel
theorem dX5_isRoomForBar_4 : decode cX5_isRoomForBar 4 = .ok (.getfield 148, 3) := by decide +kernel
theorem dX5_isRoomForBar_7 : decode cX5_isRoomForBar 7 = .ok (.bipush 10, 2) := by decide +kernel
theorem dX5_isRoomForBar_9 : decode cX5_isRoomForBar 9 = .ok (.if_icmp .lt 11, 3) := by decide +kernel
theorem dX5_isRoomForBar_12 : decode cX5_isRoomForBar 12 = .ok (.aload_n 0, 1) := by decide +kernel
theorem dX5_isRoomForBar_13 : decode cX5_isRoomForBar 13 = .ok (.iconst 2, 1) := by decide +kernel
theorem dX5_isRoomForBar_14 : decode cX5_isRoomForBar 14 = .ok (.invokevirtual 84, 3) := by decide +kernel
theorem dX5_isRoomForBar_17 : decode cX5_isRoomForBar 17 = .ok (.ifCond .eq 7, 3) := by decide +kernel
theorem dX5_isRoomForBar_20 : decode cX5_isRoomForBar 20 = .ok (.iconst 1, 1) := by decide +kernel
theorem dX5_isRoomForBar_21 : decode cX5_isRoomForBar 21 = .ok (.goto 4, 3) := by decide +kernel
theorem dX5_isRoomForBar_24 : decode cX5_isRoomForBar 24 = .ok (.iconst 0, 1) := by decide +kernel
theorem dX5_isRoomForBar_25 : decode cX5_isRoomForBar 25 = .ok (.ireturn, 1) := by decide +kernel
theorem dX5_readAtMost_0 : decode cX5_readAtMost 0 = .ok (.aload_n 0, 1) := by decide +kernel
theorem dX5_readAtMost_1 : decode cX5_readAtMost 1 = .ok (.invokevirtual 44, 3) := by decide +kernel
theorem dX5_readAtMost_4 : decode cX5_readAtMost 4 = .ok (.aload_n 0, 1) := by decide +kernel
theorem dX5_readAtMost_5 : decode cX5_readAtMost 5 = .ok (.iconst 1, 1) := by decide +kernel
theorem dX5_readAtMost_6 : decode cX5_readAtMost 6 = .ok (.iconst 3, 1) := by decide +kernel
theorem dX5_readAtMost_7 : decode cX5_readAtMost 7 = .ok (.invokevirtual 108, 3) := by decide +kernel
theorem dX5_readAtMost_10 : decode cX5_readAtMost 10 = .ok (.ifCond .ne 5, 3) := by decide +kernel
theorem dX5_readAtMost_13 : decode cX5_readAtMost 13 = .ok (.iconst 0, 1) := by decide +kernel
theorem dX5_readAtMost_14 : decode cX5_readAtMost 14 = .ok (.ireturn, 1) := by decide +kernel
theorem dX5_readAtMost_15 : decode cX5_readAtMost 15 = .ok (.aload_n 0, 1) := by decide +kernel
theorem dX5_readAtMost_16 : decode cX5_readAtMost 16 = .ok (.getfield 73, 3) := by decide +kernel
theorem dX5_readAtMost_19 : decode cX5_readAtMost 19 = .ok (.istore_n 1, 1) := by decide +kernel
theorem dX5_readAtMost_20 : decode cX5_readAtMost 20 = .ok (.aload_n 0, 1) := by decide +kernel
theorem dX5_readAtMost_21 : decode cX5_readAtMost 21 = .ok (.invokevirtual 44, 3) := by decide +kernel
theorem dX5_readAtMost_24 : decode cX5_readAtMost 24 = .ok (.aload_n 0, 1) := by decide +kernel
theorem dX5_readAtMost_25 : decode cX5_readAtMost 25 = .ok (.invokevirtual 121, 3) := by decide +kernel
theorem dX5_readAtMost_28 : decode cX5_readAtMost 28 = .ok (.ifCond .ne 5, 3) := by decide +kernel
theorem dX5_readAtMost_31 : decode cX5_readAtMost 31 = .ok (.iconst 0, 1) := by decide +kernel
theorem dX5_readAtMost_32 : decode cX5_readAtMost 32 = .ok (.ireturn, 1) := by decide +kernel
theorem dX5_readAtMost_33 : decode cX5_readAtMost 33 = .ok (.aload_n 0, 1) := by decide +kernel
theorem dX5_readAtMost_34 : decode cX5_readAtMost 34 = .ok (.getfield 12, 3) := by decide +kernel
theorem dX5_readAtMost_37 : decode cX5_readAtMost 37 = .ok (.aload_n 0, 1) := by decide +kernel
theorem dX5_readAtMost_38 : decode cX5_readAtMost 38 = .ok (.getfield 73, 3) := by decide +kernel
theorem dX5_readAtMost_41 : decode cX5_readAtMost 41 = .ok (.invokevirtual 135, 3) := by decide +kernel
theorem dX5_readAtMost_44 : decode cX5_readAtMost 44 = .ok (.istore_n 2, 1) := by decide +kernel
theorem dX5_readAtMost_45 : decode cX5_readAtMost 45 = .ok (.iload_n 2, 1) := by decide +kernel
theorem dX5_readAtMost_46 : decode cX5_readAtMost 46 = .ok (.iconst (-1), 1) := by decide +kernel
theorem dX5_readAtMost_47 : decode cX5_readAtMost 47 = .ok (.if_icmp .ne 9, 3) := by decide +kernel
theorem dX5_readAtMost_50 : decode cX5_readAtMost 50 = .ok (.aload_n 0, 1) := by decide +kernel
theorem dX5_readAtMost_51 : decode cX5_readAtMost 51 = .ok (.iconst 4, 1) := by decide +kernel
theorem dX5_readAtMost_52 : decode cX5_readAtMost 52 = .ok (.invokevirtual 84, 3) := by decide +kernel
theorem dX5_readAtMost_55 : decode cX5_readAtMost 55 = .ok (.ireturn, 1) := by decide +kernel
theorem dX5_readAtMost_56 : decode cX5_readAtMost 56 = .ok (.aload_n 0, 1) := by decide +kernel
theorem dX5_readAtMost_57 : decode cX5_readAtMost 57 = .ok (.getfield 12, 3) := by decide +kernel
theorem dX5_readAtMost_60 : decode cX5_readAtMost 60 = .ok (.iload_n 1, 1) := by decide +kernel
theorem dX5_readAtMost_61 : decode cX5_readAtMost 61 = .ok (.aload_n 0, 1) := by decide +kernel
theorem dX5_readAtMost_62 : decode cX5_readAtMost 62 = .ok (.getfield 12, 3) := by decide +kernel
theorem dX5_readAtMost_65 : decode cX5_readAtMost 65 = .ok (.iload_n 2, 1) := by decide +kernel
theorem dX5_readAtMost_66 : decode cX5_readAtMost 66 = .ok (.invokevirtual 151, 3) := by decide +kernel
theorem dX5_readAtMost_69 : decode cX5_readAtMost 69 = .ok (.invokevirtual 154, 3) := by decide +kernel
theorem dX5_readAtMost_72 : decode cX5_readAtMost 72 = .ok (.aload_n 0, 1) := by decide +kernel
theorem dX5_readAtMost_73 : decode cX5_readAtMost 73 = .ok (.invokevirtual 44, 3) := by decide +kernel
theorem dX5_readAtMost_76 : decode cX5_readAtMost 76 = .ok (.iconst 1, 1) := by decide +kernel
theorem dX5_readAtMost_77 : decode cX5_readAtMost 77 = .ok (.ireturn, 1) := by decide +kernel
theorem dX5_readApart_0 : decode cX5_readApart 0 = .ok (.aload_n 0, 1) := by decide +kernel
theorem dX5_readApart_1 : decode cX5_readApart 1 = .ok (.invokevirtual 44, 3) := by decide +kernel
theorem dX5_readApart_4 : decode cX5_readApart 4 = .ok (.aload_n 0, 1) := by decide +kernel
theorem dX5_readApart_5 : decode cX5_readApart 5 = .ok (.invokevirtual 141, 3) := by decide +kernel
theorem dX5_readApart_8 : decode cX5_readApart 8 = .ok (.istore_n 1, 1) := by decide +kernel
theorem dX5_readApart_9 : decode cX5_readApart 9 = .ok (.iload_n 1, 1) := by decide +kernel
theorem dX5_readApart_10 : decode cX5_readApart 10 = .ok (.iconst (-1), 1) := by decide +kernel
theorem dX5_readApart_11 : decode cX5_readApart 11 = .ok (.if_icmp .ne 5, 3) := by decide +kernel
theorem dX5_readApart_14 : decode cX5_readApart 14 = .ok (.iconst 0, 1) := by decide +kernel
theorem dX5_readApart_15 : decode cX5_readApart 15 = .ok (.ireturn, 1) := by decide +kernel
theorem dX5_readApart_16 : decode cX5_readApart 16 = .ok (.aload_n 0, 1) := by decide +kernel
theorem dX5_readApart_17 : decode cX5_readApart 17 = .ok (.invokevirtual 44, 3) := by decide +kernel
theorem dX5_readApart_20 : decode cX5_readApart 20 = .ok (.aload_n 0, 1) := by decide +kernel
theorem dX5_readApart_21 : decode cX5_readApart 21 = .ok (.invokevirtual 141, 3) := by decide +kernel
theorem dX5_readApart_24 : decode cX5_readApart 24 = .ok (.istore_n 2, 1) := by decide +kernel
theorem dX5_readApart_25 : decode cX5_readApart 25 = .ok (.iload_n 2, 1) := by decide +kernel
theorem dX5_readApart_26 : decode cX5_readApart 26 = .ok (.iconst (-1), 1) := by decide +kernel
theorem dX5_readApart_27 : decode cX5_readApart 27 = .ok (.if_icmp .ne 5, 3) := by decide +kernel
theorem dX5_readApart_30 : decode cX5_readApart 30 = .ok (.iconst 0, 1) := by decide +kernel
theorem dX5_readApart_31 : decode cX5_readApart 31 = .ok (.ireturn, 1) := by decide +kernel
theorem dX5_readApart_32 : decode cX5_readApart 32 = .ok (.iload_n 2, 1) := by decide +kernel
theorem dX5_readApart_33 : decode cX5_readApart 33 = .ok (.iload_n 1, 1) := by decide +kernel
theorem dX5_readApart_34 : decode cX5_readApart 34 = .ok (.if_icmp .ne 9, 3) := by decide +kernel
theorem dX5_readApart_37 : decode cX5_readApart 37 = .ok (.aload_n 0, 1) := by decide +kernel
theorem dX5_readApart_38 : decode cX5_readApart 38 = .ok (.iconst 3, 1) := by decide +kernel
theorem dX5_readApart_39 : decode cX5_readApart 39 = .ok (.invokevirtual 84, 3) := by decide +kernel
theorem dX5_readApart_42 : decode cX5_readApart 42 = .ok (.ireturn, 1) := by decide +kernel
theorem dX5_readApart_43 : decode cX5_readApart 43 = .ok (.aload_n 0, 1) := by decide +kernel
theorem dX5_readApart_44 : decode cX5_readApart 44 = .ok (.getfield 12, 3) := by decide +kernel
theorem dX5_readApart_47 : decode cX5_readApart 47 = .ok (.iconst 1, 1) := by decide +kernel
theorem dX5_readApart_48 : decode cX5_readApart 48 = .ok (.iconst 1, 1) := by decide +kernel
theorem dX5_readApart_49 : decode cX5_readApart 49 = .ok (.iload_n 1, 1) := by decide +kernel
theorem dX5_readApart_50 : decode cX5_readApart 50 = .ok (.ishl, 1) := by decide +kernel
theorem dX5_readApart_51 : decode cX5_readApart 51 = .ok (.iconst 1, 1) := by decide +kernel
theorem dX5_readApart_52 : decode cX5_readApart 52 = .ok (.iload_n 2, 1) := by decide +kernel
theorem dX5_readApart_53 : decode cX5_readApart 53 = .ok (.ishl, 1) := by decide +kernel
theorem dX5_readApart_54 : decode cX5_readApart 54 = .ok (.ior, 1) := by decide +kernel
theorem dX5_readApart_55 : decode cX5_readApart 55 = .ok (.invokevirtual 154, 3) := by decide +kernel
theorem dX5_readApart_58 : decode cX5_readApart 58 = .ok (.aload_n 0, 1) := by decide +kernel
theorem dX5_readApart_59 : decode cX5_readApart 59 = .ok (.invokevirtual 44, 3) := by decide +kernel
theorem dX5_readApart_62 : decode cX5_readApart 62 = .ok (.iconst 1, 1) := by decide +kernel
theorem dX5_readApart_63 : decode cX5_readApart 63 = .ok (.ireturn, 1) := by decide +kernel
theorem dX5_readHeld_0 : decode cX5_readHeld 0 = .ok (.aload_n 0, 1) := by decide +kernel
theorem dX5_readHeld_1 : decode cX5_readHeld 1 = .ok (.invokevirtual 44, 3) := by decide +kernel
theorem dX5_readHeld_4 : decode cX5_readHeld 4 = .ok (.aload_n 0, 1) := by decide +kernel
theorem dX5_readHeld_5 : decode cX5_readHeld 5 = .ok (.invokevirtual 141, 3) := by decide +kernel
theorem dX5_readHeld_8 : decode cX5_readHeld 8 = .ok (.istore_n 2, 1) := by decide +kernel
theorem dX5_readHeld_9 : decode cX5_readHeld 9 = .ok (.iload_n 2, 1) := by decide +kernel
theorem dX5_readHeld_10 : decode cX5_readHeld 10 = .ok (.iconst (-1), 1) := by decide +kernel
theorem dX5_readHeld_11 : decode cX5_readHeld 11 = .ok (.if_icmp .ne 5, 3) := by decide +kernel
theorem dX5_readHeld_14 : decode cX5_readHeld 14 = .ok (.iconst 0, 1) := by decide +kernel
theorem dX5_readHeld_15 : decode cX5_readHeld 15 = .ok (.ireturn, 1) := by decide +kernel
theorem dX5_readHeld_16 : decode cX5_readHeld 16 = .ok (.aload_n 0, 1) := by decide +kernel
theorem dX5_readHeld_17 : decode cX5_readHeld 17 = .ok (.invokevirtual 44, 3) := by decide +kernel
theorem dX5_readHeld_20 : decode cX5_readHeld 20 = .ok (.aload_n 0, 1) := by decide +kernel
theorem dX5_readHeld_21 : decode cX5_readHeld 21 = .ok (.iconst 0, 1) := by decide +kernel
theorem dX5_readHeld_22 : decode cX5_readHeld 22 = .ok (.aload_n 0, 1) := by decide +kernel
theorem dX5_readHeld_23 : decode cX5_readHeld 23 = .ok (.getfield 12, 3) := by decide +kernel
theorem dX5_readHeld_26 : decode cX5_readHeld 26 = .ok (.getfield 112, 3) := by decide +kernel
theorem dX5_readHeld_29 : decode cX5_readHeld 29 = .ok (.iconst 1, 1) := by decide +kernel
theorem dX5_readHeld_30 : decode cX5_readHeld 30 = .ok (.isub, 1) := by decide +kernel
theorem dX5_readHeld_31 : decode cX5_readHeld 31 = .ok (.invokevirtual 108, 3) := by decide +kernel
theorem dX5_readHeld_34 : decode cX5_readHeld 34 = .ok (.ifCond .ne 5, 3) := by decide +kernel
theorem dX5_readHeld_37 : decode cX5_readHeld 37 = .ok (.iconst 0, 1) := by decide +kernel
theorem dX5_readHeld_38 : decode cX5_readHeld 38 = .ok (.ireturn, 1) := by decide +kernel
theorem dX5_readHeld_39 : decode cX5_readHeld 39 = .ok (.iload_n 1, 1) := by decide +kernel
theorem dX5_readHeld_40 : decode cX5_readHeld 40 = .ok (.ifCond .eq 18, 3) := by decide +kernel
theorem dX5_readHeld_43 : decode cX5_readHeld 43 = .ok (.aload_n 0, 1) := by decide +kernel
theorem dX5_readHeld_44 : decode cX5_readHeld 44 = .ok (.getfield 12, 3) := by decide +kernel
theorem dX5_readHeld_47 : decode cX5_readHeld 47 = .ok (.iload_n 2, 1) := by decide +kernel
theorem dX5_readHeld_48 : decode cX5_readHeld 48 = .ok (.aload_n 0, 1) := by decide +kernel
theorem dX5_readHeld_49 : decode cX5_readHeld 49 = .ok (.getfield 73, 3) := by decide +kernel
theorem dX5_readHeld_52 : decode cX5_readHeld 52 = .ok (.invokevirtual 158, 3) := by decide +kernel
theorem dX5_readHeld_55 : decode cX5_readHeld 55 = .ok (.goto 15, 3) := by decide +kernel
theorem dX5_readHeld_58 : decode cX5_readHeld 58 = .ok (.aload_n 0, 1) := by decide +kernel
theorem dX5_readHeld_59 : decode cX5_readHeld 59 = .ok (.getfield 12, 3) := by decide +kernel
theorem dX5_readHeld_62 : decode cX5_readHeld 62 = .ok (.iload_n 2, 1) := by decide +kernel
theorem dX5_readHeld_63 : decode cX5_readHeld 63 = .ok (.aload_n 0, 1) := by decide +kernel
theorem dX5_readHeld_64 : decode cX5_readHeld 64 = .ok (.getfield 73, 3) := by decide +kernel
theorem dX5_readHeld_67 : decode cX5_readHeld 67 = .ok (.invokevirtual 161, 3) := by decide +kernel
theorem dX5_readHeld_70 : decode cX5_readHeld 70 = .ok (.aload_n 0, 1) := by decide +kernel
theorem dX5_readHeld_71 : decode cX5_readHeld 71 = .ok (.invokevirtual 44, 3) := by decide +kernel
theorem dX5_readHeld_74 : decode cX5_readHeld 74 = .ok (.iconst 1, 1) := by decide +kernel
theorem dX5_readHeld_75 : decode cX5_readHeld 75 = .ok (.ireturn, 1) := by decide +kernel
theorem dX5_readStop_0 : decode cX5_readStop 0 = .ok (.aload_n 0, 1) := by decide +kernel
theorem dX5_readStop_1 : decode cX5_readStop 1 = .ok (.getfield 47, 3) := by decide +kernel
theorem dX5_readStop_4 : decode cX5_readStop 4 = .ok (.iconst 3, 1) := by decide +kernel
theorem dX5_readStop_5 : decode cX5_readStop 5 = .ok (.if_icmp .eq 9, 3) := by decide +kernel
theorem dX5_readStop_8 : decode cX5_readStop 8 = .ok (.aload_n 0, 1) := by decide +kernel
theorem dX5_readStop_9 : decode cX5_readStop 9 = .ok (.iconst 1, 1) := by decide +kernel
theorem dX5_readStop_10 : decode cX5_readStop 10 = .ok (.invokevirtual 84, 3) := by decide +kernel
theorem dX5_readStop_13 : decode cX5_readStop 13 = .ok (.ireturn, 1) := by decide +kernel
theorem dX5_readStop_14 : decode cX5_readStop 14 = .ok (.aload_n 0, 1) := by decide +kernel
theorem dX5_readStop_15 : decode cX5_readStop 15 = .ok (.invokevirtual 44, 3) := by decide +kernel
theorem dX5_readStop_18 : decode cX5_readStop 18 = .ok (.iconst 1, 1) := by decide +kernel
theorem dX5_readStop_19 : decode cX5_readStop 19 = .ok (.ireturn, 1) := by decide +kernel
theorem dX5_isNumber_0 : decode cX5_isNumber 0 = .ok (.aload_n 0, 1) := by decide +kernel
theorem dX5_isNumber_1 : decode cX5_isNumber 1 = .ok (.getfield 47, 3) := by decide +kernel
theorem dX5_isNumber_4 : decode cX5_isNumber 4 = .ok (.iconst 2, 1) := by decide +kernel
theorem dX5_isNumber_5 : decode cX5_isNumber 5 = .ok (.if_icmp .eq 9, 3) := by decide +kernel
theorem dX5_isNumber_8 : decode cX5_isNumber 8 = .ok (.aload_n 0, 1) := by decide +kernel
theorem dX5_isNumber_9 : decode cX5_isNumber 9 = .ok (.iconst 1, 1) := by decide +kernel
theorem dX5_isNumber_10 : decode cX5_isNumber 10 = .ok (.invokevirtual 84, 3) := by decide +kernel
theorem dX5_isNumber_13 : decode cX5_isNumber 13 = .ok (.ireturn, 1) := by decide +kernel
theorem dX5_isNumber_14 : decode cX5_isNumber 14 = .ok (.aload_n 0, 1) := by decide +kernel
theorem dX5_isNumber_15 : decode cX5_isNumber 15 = .ok (.getfield 73, 3) := by decide +kernel
theorem dX5_isNumber_18 : decode cX5_isNumber 18 = .ok (.iload_n 1, 1) := by decide +kernel
theorem dX5_isNumber_19 : decode cX5_isNumber 19 = .ok (.if_icmp .lt 11, 3) := by decide +kernel
theorem dX5_isNumber_22 : decode cX5_isNumber 22 = .ok (.aload_n 0, 1) := by decide +kernel
theorem dX5_isNumber_23 : decode cX5_isNumber 23 = .ok (.getfield 73, 3) := by decide +kernel
theorem dX5_isNumber_26 : decode cX5_isNumber 26 = .ok (.iload_n 2, 1) := by decide +kernel
theorem dX5_isNumber_27 : decode cX5_isNumber 27 = .ok (.if_icmp .le 11, 3) := by decide +kernel
theorem dX5_isNumber_30 : decode cX5_isNumber 30 = .ok (.aload_n 0, 1) := by decide +kernel
theorem dX5_isNumber_31 : decode cX5_isNumber 31 = .ok (.iconst 2, 1) := by decide +kernel
theorem dX5_isNumber_32 : decode cX5_isNumber 32 = .ok (.invokevirtual 84, 3) := by decide +kernel
theorem dX5_isNumber_35 : decode cX5_isNumber 35 = .ok (.ifCond .eq 7, 3) := by decide +kernel
theorem dX5_isNumber_38 : decode cX5_isNumber 38 = .ok (.iconst 1, 1) := by decide +kernel
theorem dX5_isNumber_39 : decode cX5_isNumber 39 = .ok (.goto 4, 3) := by decide +kernel
theorem dX5_isNumber_42 : decode cX5_isNumber 42 = .ok (.iconst 0, 1) := by decide +kernel
theorem dX5_isNumber_43 : decode cX5_isNumber 43 = .ok (.ireturn, 1) := by decide +kernel
theorem dX5_isName_0 : decode cX5_isName 0 = .ok (.aload_n 0, 1) := by decide +kernel
theorem dX5_isName_1 : decode cX5_isName 1 = .ok (.getfield 47, 3) := by decide +kernel
theorem dX5_isName_4 : decode cX5_isName 4 = .ok (.iconst 1, 1) := by decide +kernel
theorem dX5_isName_5 : decode cX5_isName 5 = .ok (.if_icmp .ne 13, 3) := by decide +kernel
theorem dX5_isName_8 : decode cX5_isName 8 = .ok (.aload_n 0, 1) := by decide +kernel
theorem dX5_isName_9 : decode cX5_isName 9 = .ok (.getfield 73, 3) := by decide +kernel
theorem dX5_isName_12 : decode cX5_isName 12 = .ok (.invokestatic 164, 3) := by decide +kernel
theorem dX5_isName_15 : decode cX5_isName 15 = .ok (.ifCond .eq 11, 3) := by decide +kernel
theorem dX5_isName_18 : decode cX5_isName 18 = .ok (.aload_n 0, 1) := by decide +kernel
theorem dX5_isName_19 : decode cX5_isName 19 = .ok (.iconst 1, 1) := by decide +kernel
theorem dX5_isName_20 : decode cX5_isName 20 = .ok (.invokevirtual 84, 3) := by decide +kernel
theorem dX5_isName_23 : decode cX5_isName 23 = .ok (.ifCond .eq 7, 3) := by decide +kernel
theorem dX5_isName_26 : decode cX5_isName 26 = .ok (.iconst 1, 1) := by decide +kernel
theorem dX5_isName_27 : decode cX5_isName 27 = .ok (.goto 4, 3) := by decide +kernel
theorem dX5_isName_30 : decode cX5_isName 30 = .ok (.iconst 0, 1) := by decide +kernel
theorem dX5_isName_31 : decode cX5_isName 31 = .ok (.ireturn, 1) := by decide +kernel
theorem dX5_isOfLanguage_0 : decode cX5_isOfLanguage 0 = .ok (.iload_n 0, 1) := by decide +kernel
theorem dX5_isOfLanguage_1 : decode cX5_isOfLanguage 1 = .ok (.lookupswitch 69 #[(50383488, 67), (54967924, 67), (211555456, 67), (254268947, 67), (437857280, 67), (475731520, 67), (553254912, 67)], 67) := by decide +kernel
theorem dX5_isOfLanguage_68 : decode cX5_isOfLanguage 68 = .ok (.iconst 1, 1) := by decide +kernel
theorem dX5_isOfLanguage_69 : decode cX5_isOfLanguage 69 = .ok (.ireturn, 1) := by decide +kernel
theorem dX5_isOfLanguage_70 : decode cX5_isOfLanguage 70 = .ok (.iconst 0, 1) := by decide +kernel
theorem dX5_isOfLanguage_71 : decode cX5_isOfLanguage 71 = .ok (.ireturn, 1) := by decide +kernel
theorem dX5_readTeam_0 : decode cX5_readTeam 0 = .ok (.aload_n 0, 1) := by decide +kernel
theorem dX5_readTeam_1 : decode cX5_readTeam 1 = .ok (.invokevirtual 121, 3) := by decide +kernel
theorem dX5_readTeam_4 : decode cX5_readTeam 4 = .ok (.ifCond .ne 5, 3) := by decide +kernel
theorem dX5_readTeam_7 : decode cX5_readTeam 7 = .ok (.iconst (-1), 1) := by decide +kernel
theorem dX5_readTeam_8 : decode cX5_readTeam 8 = .ok (.ireturn, 1) := by decide +kernel
theorem dX5_readTeam_9 : decode cX5_readTeam 9 = .ok (.aload_n 0, 1) := by decide +kernel
theorem dX5_readTeam_10 : decode cX5_readTeam 10 = .ok (.getfield 12, 3) := by decide +kernel
theorem dX5_readTeam_13 : decode cX5_readTeam 13 = .ok (.aload_n 0, 1) := by decide +kernel
theorem dX5_readTeam_14 : decode cX5_readTeam 14 = .ok (.getfield 73, 3) := by decide +kernel
theorem dX5_readTeam_17 : decode cX5_readTeam 17 = .ok (.invokevirtual 124, 3) := by decide +kernel
theorem dX5_readTeam_20 : decode cX5_readTeam 20 = .ok (.istore_n 1, 1) := by decide +kernel
theorem dX5_readTeam_21 : decode cX5_readTeam 21 = .ok (.iload_n 1, 1) := by decide +kernel
theorem dX5_readTeam_22 : decode cX5_readTeam 22 = .ok (.iconst (-1), 1) := by decide +kernel
theorem dX5_readTeam_23 : decode cX5_readTeam 23 = .ok (.if_icmp .ne 9, 3) := by decide +kernel
theorem dX5_readTeam_26 : decode cX5_readTeam 26 = .ok (.aload_n 0, 1) := by decide +kernel
theorem dX5_readTeam_27 : decode cX5_readTeam 27 = .ok (.iconst 4, 1) := by decide +kernel
theorem dX5_readTeam_28 : decode cX5_readTeam 28 = .ok (.invokevirtual 84, 3) := by decide +kernel
theorem dX5_readTeam_31 : decode cX5_readTeam 31 = .ok (.pop, 1) := by decide +kernel
theorem dX5_readTeam_32 : decode cX5_readTeam 32 = .ok (.iload_n 1, 1) := by decide +kernel
theorem dX5_readTeam_33 : decode cX5_readTeam 33 = .ok (.ireturn, 1) := by decide +kernel
theorem dX8_putInTurn_0 : decode cX8_putInTurn 0 = .ok (.getstatic 35, 3) := by decide +kernel
theorem dX8_putInTurn_3 : decode cX8_putInTurn 3 = .ok (.iconst 0, 1) := by decide +kernel
theorem dX8_putInTurn_4 : decode cX8_putInTurn 4 = .ok (.aload_n 0, 1) := by decide +kernel
theorem dX8_putInTurn_5 : decode cX8_putInTurn 5 = .ok (.getfield 9, 3) := by decide +kernel
theorem dX8_putInTurn_8 : decode cX8_putInTurn 8 = .ok (.iconst 0, 1) := by decide +kernel
theorem dX8_putInTurn_9 : decode cX8_putInTurn 9 = .ok (.iconst 4, 1) := by decide +kernel
theorem dX8_putInTurn_10 : decode cX8_putInTurn 10 = .ok (.invokestatic 38, 3) := by decide +kernel
theorem dX8_putInTurn_13 : decode cX8_putInTurn 13 = .ok (.getstatic 35, 3) := by decide +kernel
theorem dX8_putInTurn_16 : decode cX8_putInTurn 16 = .ok (.iconst 0, 1) := by decide +kernel
theorem dX8_putInTurn_17 : decode cX8_putInTurn 17 = .ok (.aload_n 0, 1) := by decide +kernel
theorem dX8_putInTurn_18 : decode cX8_putInTurn 18 = .ok (.getfield 15, 3) := by decide +kernel
theorem dX8_putInTurn_21 : decode cX8_putInTurn 21 = .ok (.iconst 0, 1) := by decide +kernel
theorem dX8_putInTurn_22 : decode cX8_putInTurn 22 = .ok (.iconst 4, 1) := by decide +kernel
theorem dX8_putInTurn_23 : decode cX8_putInTurn 23 = .ok (.invokestatic 38, 3) := by decide +kernel
theorem dX8_putInTurn_26 : decode cX8_putInTurn 26 = .ok (.aload_n 0, 1) := by decide +kernel
theorem dX8_putInTurn_27 : decode cX8_putInTurn 27 = .ok (.invokevirtual 44, 3) := by decide +kernel
theorem dX8_putInTurn_30 : decode cX8_putInTurn 30 = .ok (.return_, 1) := by decide +kernel
theorem dX8_empty_0 : decode cX8_empty 0 = .ok (.aload_n 0, 1) := by decide +kernel
theorem dX8_empty_1 : decode cX8_empty 1 = .ok (.iconst 0, 1) := by decide +kernel
theorem dX8_empty_2 : decode cX8_empty 2 = .ok (.putfield 47, 3) := by decide +kernel
theorem dX8_empty_5 : decode cX8_empty 5 = .ok (.aload_n 0, 1) := by decide +kernel
theorem dX8_empty_6 : decode cX8_empty 6 = .ok (.getfield 18, 3) := by decide +kernel
theorem dX8_empty_9 : decode cX8_empty 9 = .ok (.iconst (-1), 1) := by decide +kernel
theorem dX8_empty_10 : decode cX8_empty 10 = .ok (.invokestatic 51, 3) := by decide +kernel
theorem dX8_empty_13 : decode cX8_empty 13 = .ok (.return_, 1) := by decide +kernel
theorem dX8_fullPots_0 : decode cX8_fullPots 0 = .ok (.aload_n 0, 1) := by decide +kernel
theorem dX8_fullPots_1 : decode cX8_fullPots 1 = .ok (.getfield 27, 3) := by decide +kernel
theorem dX8_fullPots_4 : decode cX8_fullPots 4 = .ok (.aload_n 0, 1) := by decide +kernel
theorem dX8_fullPots_5 : decode cX8_fullPots 5 = .ok (.getfield 47, 3) := by decide +kernel
theorem dX8_fullPots_8 : decode cX8_fullPots 8 = .ok (.invokevirtual 57, 3) := by decide +kernel
theorem dX8_fullPots_11 : decode cX8_fullPots 11 = .ok (.ireturn, 1) := by decide +kernel
theorem dX8_potInTurn_0 : decode cX8_potInTurn 0 = .ok (.aload_n 0, 1) := by decide +kernel
theorem dX8_potInTurn_1 : decode cX8_potInTurn 1 = .ok (.getfield 47, 3) := by decide +kernel
theorem dX8_potInTurn_4 : decode cX8_potInTurn 4 = .ok (.aload_n 0, 1) := by decide +kernel
theorem dX8_potInTurn_5 : decode cX8_potInTurn 5 = .ok (.getfield 27, 3) := by decide +kernel
theorem dX8_potInTurn_8 : decode cX8_potInTurn 8 = .ok (.getfield 66, 3) := by decide +kernel
theorem dX8_potInTurn_11 : decode cX8_potInTurn 11 = .ok (.if_icmp .ge 15, 3) := by decide +kernel
theorem dX8_potInTurn_14 : decode cX8_potInTurn 14 = .ok (.aload_n 0, 1) := by decide +kernel
theorem dX8_potInTurn_15 : decode cX8_potInTurn 15 = .ok (.getfield 9, 3) := by decide +kernel
theorem dX8_potInTurn_18 : decode cX8_potInTurn 18 = .ok (.aload_n 0, 1) := by decide +kernel
theorem dX8_potInTurn_19 : decode cX8_potInTurn 19 = .ok (.invokevirtual 69, 3) := by decide +kernel
theorem dX8_potInTurn_22 : decode cX8_potInTurn 22 = .ok (.iaload, 1) := by decide +kernel
theorem dX8_potInTurn_23 : decode cX8_potInTurn 23 = .ok (.goto 4, 3) := by decide +kernel
theorem dX8_potInTurn_26 : decode cX8_potInTurn 26 = .ok (.iconst (-1), 1) := by decide +kernel
theorem dX8_potInTurn_27 : decode cX8_potInTurn 27 = .ok (.ireturn, 1) := by decide +kernel
theorem dX8_ranksLeft_0 : decode cX8_ranksLeft 0 = .ok (.aload_n 0, 1) := by decide +kernel
theorem dX8_ranksLeft_1 : decode cX8_ranksLeft 1 = .ok (.iload_n 1, 1) := by decide +kernel
theorem dX8_ranksLeft_2 : decode cX8_ranksLeft 2 = .ok (.iconst (-1), 1) := by decide +kernel
theorem dX8_ranksLeft_3 : decode cX8_ranksLeft 3 = .ok (.iconst (-1), 1) := by decide +kernel
theorem dX8_ranksLeft_4 : decode cX8_ranksLeft 4 = .ok (.invokevirtual 73, 3) := by decide +kernel
theorem dX8_ranksLeft_7 : decode cX8_ranksLeft 7 = .ok (.ireturn, 1) := by decide +kernel
theorem dX8_ranksIf_0 : decode cX8_ranksIf 0 = .ok (.aload_n 0, 1) := by decide +kernel
theorem dX8_ranksIf_1 : decode cX8_ranksIf 1 = .ok (.getfield 31, 3) := by decide +kernel
theorem dX8_ranksIf_4 : decode cX8_ranksIf 4 = .ok (.getfield 80, 3) := by decide +kernel
theorem dX8_ranksIf_7 : decode cX8_ranksIf 7 = .ok (.istore 4, 2) := by decide +kernel
theorem dX8_ranksIf_9 : decode cX8_ranksIf 9 = .ok (.iconst 0, 1) := by decide +kernel
theorem dX8_ranksIf_10 : decode cX8_ranksIf 10 = .ok (.istore 5, 2) := by decide +kernel
theorem dX8_ranksIf_12 : decode cX8_ranksIf 12 = .ok (.iload 5, 2) := by decide +kernel
theorem dX8_ranksIf_14 : decode cX8_ranksIf 14 = .ok (.aload_n 0, 1) := by decide +kernel
theorem dX8_ranksIf_15 : decode cX8_ranksIf 15 = .ok (.getfield 27, 3) := by decide +kernel
theorem dX8_ranksIf_18 : decode cX8_ranksIf 18 = .ok (.getfield 77, 3) := by decide +kernel
theorem dX8_ranksIf_21 : decode cX8_ranksIf 21 = .ok (.if_icmp .ge 68, 3) := by decide +kernel
theorem dX8_ranksIf_24 : decode cX8_ranksIf 24 = .ok (.iload_n 1, 1) := by decide +kernel
theorem dX8_ranksIf_25 : decode cX8_ranksIf 25 = .ok (.aload_n 0, 1) := by decide +kernel
theorem dX8_ranksIf_26 : decode cX8_ranksIf 26 = .ok (.getfield 27, 3) := by decide +kernel
theorem dX8_ranksIf_29 : decode cX8_ranksIf 29 = .ok (.getfield 77, 3) := by decide +kernel
theorem dX8_ranksIf_32 : decode cX8_ranksIf 32 = .ok (.imul, 1) := by decide +kernel
theorem dX8_ranksIf_33 : decode cX8_ranksIf 33 = .ok (.iload 5, 2) := by decide +kernel
theorem dX8_ranksIf_35 : decode cX8_ranksIf 35 = .ok (.iadd, 1) := by decide +kernel
theorem dX8_ranksIf_36 : decode cX8_ranksIf 36 = .ok (.istore 6, 2) := by decide +kernel
theorem dX8_ranksIf_38 : decode cX8_ranksIf 38 = .ok (.iload 6, 2) := by decide +kernel
theorem dX8_ranksIf_40 : decode cX8_ranksIf 40 = .ok (.iload_n 2, 1) := by decide +kernel
theorem dX8_ranksIf_41 : decode cX8_ranksIf 41 = .ok (.if_icmp .ne 7, 3) := by decide +kernel
theorem dX8_ranksIf_44 : decode cX8_ranksIf 44 = .ok (.iload_n 3, 1) := by decide +kernel
theorem dX8_ranksIf_45 : decode cX8_ranksIf 45 = .ok (.goto 10, 3) := by decide +kernel
theorem dX8_ranksIf_48 : decode cX8_ranksIf 48 = .ok (.aload_n 0, 1) := by decide +kernel
theorem dX8_ranksIf_49 : decode cX8_ranksIf 49 = .ok (.getfield 18, 3) := by decide +kernel
theorem dX8_ranksIf_52 : decode cX8_ranksIf 52 = .ok (.iload 6, 2) := by decide +kernel
theorem dX8_ranksIf_54 : decode cX8_ranksIf 54 = .ok (.iaload, 1) := by decide +kernel
theorem dX8_ranksIf_55 : decode cX8_ranksIf 55 = .ok (.istore 7, 2) := by decide +kernel
theorem dX8_ranksIf_57 : decode cX8_ranksIf 57 = .ok (.iload 7, 2) := by decide +kernel
theorem dX8_ranksIf_59 : decode cX8_ranksIf 59 = .ok (.iconst (-1), 1) := by decide +kernel
theorem dX8_ranksIf_60 : decode cX8_ranksIf 60 = .ok (.if_icmp .eq 23, 3) := by decide +kernel
theorem dX8_ranksIf_63 : decode cX8_ranksIf 63 = .ok (.iload 4, 2) := by decide +kernel
theorem dX8_ranksIf_65 : decode cX8_ranksIf 65 = .ok (.aload_n 0, 1) := by decide +kernel
theorem dX8_ranksIf_66 : decode cX8_ranksIf 66 = .ok (.getfield 31, 3) := by decide +kernel
theorem dX8_ranksIf_69 : decode cX8_ranksIf 69 = .ok (.getfield 85, 3) := by decide +kernel
theorem dX8_ranksIf_72 : decode cX8_ranksIf 72 = .ok (.iload 5, 2) := by decide +kernel
theorem dX8_ranksIf_74 : decode cX8_ranksIf 74 = .ok (.iconst 4, 1) := by decide +kernel
theorem dX8_ranksIf_75 : decode cX8_ranksIf 75 = .ok (.imul, 1) := by decide +kernel
theorem dX8_ranksIf_76 : decode cX8_ranksIf 76 = .ok (.iload 7, 2) := by decide +kernel
theorem dX8_ranksIf_78 : decode cX8_ranksIf 78 = .ok (.iadd, 1) := by decide +kernel
theorem dX8_ranksIf_79 : decode cX8_ranksIf 79 = .ok (.iaload, 1) := by decide +kernel
theorem dX8_ranksIf_80 : decode cX8_ranksIf 80 = .ok (.iand, 1) := by decide +kernel
theorem dX8_ranksIf_81 : decode cX8_ranksIf 81 = .ok (.istore 4, 2) := by decide +kernel
theorem dX8_ranksIf_83 : decode cX8_ranksIf 83 = .ok (.iinc 5 1, 3) := by decide +kernel
theorem dX8_ranksIf_86 : decode cX8_ranksIf 86 = .ok (.goto (-74), 3) := by decide +kernel
theorem dX8_ranksIf_89 : decode cX8_ranksIf 89 = .ok (.iload 4, 2) := by decide +kernel
theorem dX8_ranksIf_91 : decode cX8_ranksIf 91 = .ok (.ireturn, 1) := by decide +kernel
theorem dX9_forget_0 : decode cX9_forget 0 = .ok (.aload_n 0, 1) := by decide +kernel
theorem dX9_forget_1 : decode cX9_forget 1 = .ok (.iconst (-1), 1) := by decide +kernel
theorem dX9_forget_2 : decode cX9_forget 2 = .ok (.putfield 18, 3) := by decide +kernel
theorem dX9_forget_5 : decode cX9_forget 5 = .ok (.aload_n 0, 1) := by decide +kernel
theorem dX9_forget_6 : decode cX9_forget 6 = .ok (.iconst 0, 1) := by decide +kernel
theorem dX9_forget_7 : decode cX9_forget 7 = .ok (.putfield 33, 3) := by decide +kernel
theorem dX9_forget_10 : decode cX9_forget 10 = .ok (.return_, 1) := by decide +kernel
theorem dX10_build_0 : decode cX10_build 0 = .ok (.aload_n 1, 1) := by decide +kernel
theorem dX10_build_1 : decode cX10_build 1 = .ok (.iconst 0, 1) := by decide +kernel
theorem dX10_build_2 : decode cX10_build 2 = .ok (.aload_n 0, 1) := by decide +kernel
theorem dX10_build_3 : decode cX10_build 3 = .ok (.getfield 18, 3) := by decide +kernel
theorem dX10_build_6 : decode cX10_build 6 = .ok (.iconst 0, 1) := by decide +kernel
theorem dX10_build_7 : decode cX10_build 7 = .ok (.iconst 4, 1) := by decide +kernel
theorem dX10_build_8 : decode cX10_build 8 = .ok (.invokestatic 25, 3) := by decide +kernel
theorem dX10_build_11 : decode cX10_build 11 = .ok (.aload_n 0, 1) := by decide +kernel
theorem dX10_build_12 : decode cX10_build 12 = .ok (.getfield 21, 3) := by decide +kernel
theorem dX10_build_15 : decode cX10_build 15 = .ok (.getfield 31, 3) := by decide +kernel
theorem dX10_build_18 : decode cX10_build 18 = .ok (.getfield 37, 3) := by decide +kernel
theorem dX10_build_21 : decode cX10_build 21 = .ok (.istore_n 2, 1) := by decide +kernel
theorem dX10_build_22 : decode cX10_build 22 = .ok (.iconst 1, 1) := by decide +kernel
theorem dX10_build_23 : decode cX10_build 23 = .ok (.istore_n 3, 1) := by decide +kernel
theorem dX10_build_24 : decode cX10_build 24 = .ok (.aload_n 0, 1) := by decide +kernel
theorem dX10_build_25 : decode cX10_build 25 = .ok (.getfield 15, 3) := by decide +kernel
theorem dX10_build_28 : decode cX10_build 28 = .ok (.iconst 0, 1) := by decide +kernel
theorem dX10_build_29 : decode cX10_build 29 = .ok (.iconst 0, 1) := by decide +kernel
theorem dX10_build_30 : decode cX10_build 30 = .ok (.iastore, 1) := by decide +kernel
theorem dX10_build_31 : decode cX10_build 31 = .ok (.iconst 0, 1) := by decide +kernel
theorem dX10_build_32 : decode cX10_build 32 = .ok (.istore 4, 2) := by decide +kernel
theorem dX10_build_34 : decode cX10_build 34 = .ok (.iload 4, 2) := by decide +kernel
theorem dX10_build_36 : decode cX10_build 36 = .ok (.iload_n 2, 1) := by decide +kernel
theorem dX10_build_37 : decode cX10_build 37 = .ok (.if_icmp .ge 40, 3) := by decide +kernel
theorem dX10_build_40 : decode cX10_build 40 = .ok (.aload_n 0, 1) := by decide +kernel
theorem dX10_build_41 : decode cX10_build 41 = .ok (.getfield 15, 3) := by decide +kernel
theorem dX10_build_44 : decode cX10_build 44 = .ok (.iload 4, 2) := by decide +kernel
theorem dX10_build_46 : decode cX10_build 46 = .ok (.iconst 1, 1) := by decide +kernel
theorem dX10_build_47 : decode cX10_build 47 = .ok (.iadd, 1) := by decide +kernel
theorem dX10_build_48 : decode cX10_build 48 = .ok (.aload_n 0, 1) := by decide +kernel
theorem dX10_build_49 : decode cX10_build 49 = .ok (.getfield 15, 3) := by decide +kernel
theorem dX10_build_52 : decode cX10_build 52 = .ok (.iload 4, 2) := by decide +kernel
theorem dX10_build_54 : decode cX10_build 54 = .ok (.iaload, 1) := by decide +kernel
theorem dX10_build_55 : decode cX10_build 55 = .ok (.iload_n 3, 1) := by decide +kernel
theorem dX10_build_56 : decode cX10_build 56 = .ok (.iadd, 1) := by decide +kernel
theorem dX10_build_57 : decode cX10_build 57 = .ok (.iastore, 1) := by decide +kernel
theorem dX10_build_58 : decode cX10_build 58 = .ok (.iload_n 3, 1) := by decide +kernel
theorem dX10_build_59 : decode cX10_build 59 = .ok (.aload_n 0, 1) := by decide +kernel
theorem dX10_build_60 : decode cX10_build 60 = .ok (.getfield 21, 3) := by decide +kernel
theorem dX10_build_63 : decode cX10_build 63 = .ok (.getfield 43, 3) := by decide +kernel
theorem dX10_build_66 : decode cX10_build 66 = .ok (.getfield 47, 3) := by decide +kernel
theorem dX10_build_69 : decode cX10_build 69 = .ok (.imul, 1) := by decide +kernel
theorem dX10_build_70 : decode cX10_build 70 = .ok (.istore_n 3, 1) := by decide +kernel
theorem dX10_build_71 : decode cX10_build 71 = .ok (.iinc 4 1, 3) := by decide +kernel
theorem dX10_build_74 : decode cX10_build 74 = .ok (.goto (-40), 3) := by decide +kernel
theorem dX10_build_77 : decode cX10_build 77 = .ok (.iload_n 2, 1) := by decide +kernel
theorem dX10_build_78 : decode cX10_build 78 = .ok (.ifCond .le 7, 3) := by decide +kernel
theorem dX10_build_81 : decode cX10_build 81 = .ok (.aload_n 0, 1) := by decide +kernel
theorem dX10_build_82 : decode cX10_build 82 = .ok (.invokevirtual 52, 3) := by decide +kernel
theorem dX10_build_85 : decode cX10_build 85 = .ok (.iload_n 2, 1) := by decide +kernel
theorem dX10_build_86 : decode cX10_build 86 = .ok (.iconst 2, 1) := by decide +kernel
theorem dX10_build_87 : decode cX10_build 87 = .ok (.isub, 1) := by decide +kernel
theorem dX10_build_88 : decode cX10_build 88 = .ok (.istore 4, 2) := by decide +kernel
theorem dX10_build_90 : decode cX10_build 90 = .ok (.iload 4, 2) := by decide +kernel
theorem dX10_build_92 : decode cX10_build 92 = .ok (.ifCond .lt 15, 3) := by decide +kernel
theorem dX10_build_95 : decode cX10_build 95 = .ok (.aload_n 0, 1) := by decide +kernel
theorem dX10_build_96 : decode cX10_build 96 = .ok (.iload 4, 2) := by decide +kernel
theorem dX10_build_98 : decode cX10_build 98 = .ok (.invokevirtual 55, 3) := by decide +kernel
theorem dX10_build_101 : decode cX10_build 101 = .ok (.iinc 4 (-1), 3) := by decide +kernel
theorem dX10_build_104 : decode cX10_build 104 = .ok (.goto (-14), 3) := by decide +kernel
theorem dX10_build_107 : decode cX10_build 107 = .ok (.aload_n 0, 1) := by decide +kernel
theorem dX10_build_108 : decode cX10_build 108 = .ok (.iconst 1, 1) := by decide +kernel
theorem dX10_build_109 : decode cX10_build 109 = .ok (.putfield 59, 3) := by decide +kernel
theorem dX10_build_112 : decode cX10_build 112 = .ok (.return_, 1) := by decide +kernel
theorem dX10_fillLast_0 : decode cX10_fillLast 0 = .ok (.aload_n 0, 1) := by decide +kernel
theorem dX10_fillLast_1 : decode cX10_fillLast 1 = .ok (.getfield 21, 3) := by decide +kernel
theorem dX10_fillLast_4 : decode cX10_fillLast 4 = .ok (.getfield 31, 3) := by decide +kernel
theorem dX10_fillLast_7 : decode cX10_fillLast 7 = .ok (.getfield 37, 3) := by decide +kernel
theorem dX10_fillLast_10 : decode cX10_fillLast 10 = .ok (.iconst 1, 1) := by decide +kernel
theorem dX10_fillLast_11 : decode cX10_fillLast 11 = .ok (.isub, 1) := by decide +kernel
theorem dX10_fillLast_12 : decode cX10_fillLast 12 = .ok (.istore_n 1, 1) := by decide +kernel
theorem dX10_fillLast_13 : decode cX10_fillLast 13 = .ok (.aload_n 0, 1) := by decide +kernel
theorem dX10_fillLast_14 : decode cX10_fillLast 14 = .ok (.getfield 21, 3) := by decide +kernel
theorem dX10_fillLast_17 : decode cX10_fillLast 17 = .ok (.getfield 43, 3) := by decide +kernel
theorem dX10_fillLast_20 : decode cX10_fillLast 20 = .ok (.getfield 47, 3) := by decide +kernel
theorem dX10_fillLast_23 : decode cX10_fillLast 23 = .ok (.istore_n 2, 1) := by decide +kernel
theorem dX10_fillLast_24 : decode cX10_fillLast 24 = .ok (.aload_n 0, 1) := by decide +kernel
theorem dX10_fillLast_25 : decode cX10_fillLast 25 = .ok (.getfield 21, 3) := by decide +kernel
theorem dX10_fillLast_28 : decode cX10_fillLast 28 = .ok (.getfield 63, 3) := by decide +kernel
theorem dX10_fillLast_31 : decode cX10_fillLast 31 = .ok (.aload_n 0, 1) := by decide +kernel
theorem dX10_fillLast_32 : decode cX10_fillLast 32 = .ok (.getfield 18, 3) := by decide +kernel
theorem dX10_fillLast_35 : decode cX10_fillLast 35 = .ok (.iload_n 1, 1) := by decide +kernel
theorem dX10_fillLast_36 : decode cX10_fillLast 36 = .ok (.iaload, 1) := by decide +kernel
theorem dX10_fillLast_37 : decode cX10_fillLast 37 = .ok (.iaload, 1) := by decide +kernel
theorem dX10_fillLast_38 : decode cX10_fillLast 38 = .ok (.istore_n 3, 1) := by decide +kernel
theorem dX10_fillLast_39 : decode cX10_fillLast 39 = .ok (.aload_n 0, 1) := by decide +kernel
theorem dX10_fillLast_40 : decode cX10_fillLast 40 = .ok (.getfield 15, 3) := by decide +kernel
theorem dX10_fillLast_43 : decode cX10_fillLast 43 = .ok (.iload_n 1, 1) := by decide +kernel
theorem dX10_fillLast_44 : decode cX10_fillLast 44 = .ok (.iaload, 1) := by decide +kernel
theorem dX10_fillLast_45 : decode cX10_fillLast 45 = .ok (.istore 4, 2) := by decide +kernel
theorem dX10_fillLast_47 : decode cX10_fillLast 47 = .ok (.iload 4, 2) := by decide +kernel
theorem dX10_fillLast_49 : decode cX10_fillLast 49 = .ok (.aload_n 0, 1) := by decide +kernel
theorem dX10_fillLast_50 : decode cX10_fillLast 50 = .ok (.getfield 15, 3) := by decide +kernel
theorem dX10_fillLast_53 : decode cX10_fillLast 53 = .ok (.iload_n 1, 1) := by decide +kernel
theorem dX10_fillLast_54 : decode cX10_fillLast 54 = .ok (.iconst 1, 1) := by decide +kernel
theorem dX10_fillLast_55 : decode cX10_fillLast 55 = .ok (.iadd, 1) := by decide +kernel
theorem dX10_fillLast_56 : decode cX10_fillLast 56 = .ok (.iaload, 1) := by decide +kernel
theorem dX10_fillLast_57 : decode cX10_fillLast 57 = .ok (.if_icmp .ge 95, 3) := by decide +kernel
theorem dX10_fillLast_60 : decode cX10_fillLast 60 = .ok (.aload_n 0, 1) := by decide +kernel
theorem dX10_fillLast_61 : decode cX10_fillLast 61 = .ok (.iload 4, 2) := by decide +kernel
theorem dX10_fillLast_63 : decode cX10_fillLast 63 = .ok (.aload_n 0, 1) := by decide +kernel
theorem dX10_fillLast_64 : decode cX10_fillLast 64 = .ok (.getfield 15, 3) := by decide +kernel
theorem dX10_fillLast_67 : decode cX10_fillLast 67 = .ok (.iload_n 1, 1) := by decide +kernel
theorem dX10_fillLast_68 : decode cX10_fillLast 68 = .ok (.iaload, 1) := by decide +kernel
theorem dX10_fillLast_69 : decode cX10_fillLast 69 = .ok (.isub, 1) := by decide +kernel
theorem dX10_fillLast_70 : decode cX10_fillLast 70 = .ok (.iload_n 1, 1) := by decide +kernel
theorem dX10_fillLast_71 : decode cX10_fillLast 71 = .ok (.invokevirtual 66, 3) := by decide +kernel
theorem dX10_fillLast_74 : decode cX10_fillLast 74 = .ok (.istore 5, 2) := by decide +kernel
theorem dX10_fillLast_76 : decode cX10_fillLast 76 = .ok (.iconst 0, 1) := by decide +kernel
theorem dX10_fillLast_77 : decode cX10_fillLast 77 = .ok (.istore 6, 2) := by decide +kernel
theorem dX10_fillLast_79 : decode cX10_fillLast 79 = .ok (.iconst 0, 1) := by decide +kernel
theorem dX10_fillLast_80 : decode cX10_fillLast 80 = .ok (.istore 7, 2) := by decide +kernel
theorem dX10_fillLast_82 : decode cX10_fillLast 82 = .ok (.iload 7, 2) := by decide +kernel
theorem dX10_fillLast_84 : decode cX10_fillLast 84 = .ok (.iload_n 2, 1) := by decide +kernel
theorem dX10_fillLast_85 : decode cX10_fillLast 85 = .ok (.if_icmp .ge 52, 3) := by decide +kernel
theorem dX10_fillLast_88 : decode cX10_fillLast 88 = .ok (.aload_n 0, 1) := by decide +kernel
theorem dX10_fillLast_89 : decode cX10_fillLast 89 = .ok (.getfield 21, 3) := by decide +kernel
theorem dX10_fillLast_92 : decode cX10_fillLast 92 = .ok (.getfield 70, 3) := by decide +kernel
theorem dX10_fillLast_95 : decode cX10_fillLast 95 = .ok (.iload 5, 2) := by decide +kernel
theorem dX10_fillLast_97 : decode cX10_fillLast 97 = .ok (.iaload, 1) := by decide +kernel
theorem dX10_fillLast_98 : decode cX10_fillLast 98 = .ok (.ifCond .ne 12, 3) := by decide +kernel
theorem dX10_fillLast_101 : decode cX10_fillLast 101 = .ok (.iload 6, 2) := by decide +kernel
theorem dX10_fillLast_103 : decode cX10_fillLast 103 = .ok (.iconst 1, 1) := by decide +kernel
theorem dX10_fillLast_104 : decode cX10_fillLast 104 = .ok (.iload 7, 2) := by decide +kernel
theorem dX10_fillLast_106 : decode cX10_fillLast 106 = .ok (.ishl, 1) := by decide +kernel
theorem dX10_fillLast_107 : decode cX10_fillLast 107 = .ok (.ior, 1) := by decide +kernel
theorem dX10_fillLast_108 : decode cX10_fillLast 108 = .ok (.istore 6, 2) := by decide +kernel
theorem dX10_fillLast_110 : decode cX10_fillLast 110 = .ok (.iload 5, 2) := by decide +kernel
theorem dX10_fillLast_112 : decode cX10_fillLast 112 = .ok (.iload_n 3, 1) := by decide +kernel
theorem dX10_fillLast_113 : decode cX10_fillLast 113 = .ok (.iadd, 1) := by decide +kernel
theorem dX10_fillLast_114 : decode cX10_fillLast 114 = .ok (.istore 5, 2) := by decide +kernel
theorem dX10_fillLast_116 : decode cX10_fillLast 116 = .ok (.iload 5, 2) := by decide +kernel
theorem dX10_fillLast_118 : decode cX10_fillLast 118 = .ok (.aload_n 0, 1) := by decide +kernel
theorem dX10_fillLast_119 : decode cX10_fillLast 119 = .ok (.getfield 21, 3) := by decide +kernel
theorem dX10_fillLast_122 : decode cX10_fillLast 122 = .ok (.getfield 73, 3) := by decide +kernel
theorem dX10_fillLast_125 : decode cX10_fillLast 125 = .ok (.if_icmp .lt 6, 3) := by decide +kernel
theorem dX10_fillLast_128 : decode cX10_fillLast 128 = .ok (.goto 9, 3) := by decide +kernel
theorem dX10_fillLast_131 : decode cX10_fillLast 131 = .ok (.iinc 7 1, 3) := by decide +kernel
theorem dX10_fillLast_134 : decode cX10_fillLast 134 = .ok (.goto (-52), 3) := by decide +kernel
theorem dX10_fillLast_137 : decode cX10_fillLast 137 = .ok (.aload_n 0, 1) := by decide +kernel
theorem dX10_fillLast_138 : decode cX10_fillLast 138 = .ok (.getfield 11, 3) := by decide +kernel
theorem dX10_fillLast_141 : decode cX10_fillLast 141 = .ok (.iload 4, 2) := by decide +kernel
theorem dX10_fillLast_143 : decode cX10_fillLast 143 = .ok (.iload 6, 2) := by decide +kernel
theorem dX10_fillLast_145 : decode cX10_fillLast 145 = .ok (.iastore, 1) := by decide +kernel
theorem dX10_fillLast_146 : decode cX10_fillLast 146 = .ok (.iinc 4 1, 3) := by decide +kernel
theorem dX10_fillLast_149 : decode cX10_fillLast 149 = .ok (.goto (-102), 3) := by decide +kernel
theorem dX10_fillLast_152 : decode cX10_fillLast 152 = .ok (.return_, 1) := by decide +kernel
theorem dX10_codeOf_0 : decode cX10_codeOf 0 = .ok (.aload_n 0, 1) := by decide +kernel
theorem dX10_codeOf_1 : decode cX10_codeOf 1 = .ok (.getfield 21, 3) := by decide +kernel
theorem dX10_codeOf_4 : decode cX10_codeOf 4 = .ok (.getfield 43, 3) := by decide +kernel
theorem dX10_codeOf_7 : decode cX10_codeOf 7 = .ok (.getfield 47, 3) := by decide +kernel
theorem dX10_codeOf_10 : decode cX10_codeOf 10 = .ok (.istore_n 3, 1) := by decide +kernel
theorem dX10_codeOf_11 : decode cX10_codeOf 11 = .ok (.iconst 0, 1) := by decide +kernel
theorem dX10_codeOf_12 : decode cX10_codeOf 12 = .ok (.istore 4, 2) := by decide +kernel
theorem dX10_codeOf_14 : decode cX10_codeOf 14 = .ok (.iload_n 1, 1) := by decide +kernel
theorem dX10_codeOf_15 : decode cX10_codeOf 15 = .ok (.istore 5, 2) := by decide +kernel
theorem dX10_codeOf_17 : decode cX10_codeOf 17 = .ok (.iload_n 2, 1) := by decide +kernel
theorem dX10_codeOf_18 : decode cX10_codeOf 18 = .ok (.iconst 1, 1) := by decide +kernel
theorem dX10_codeOf_19 : decode cX10_codeOf 19 = .ok (.isub, 1) := by decide +kernel
theorem dX10_codeOf_20 : decode cX10_codeOf 20 = .ok (.istore 6, 2) := by decide +kernel
theorem dX10_codeOf_22 : decode cX10_codeOf 22 = .ok (.iload 6, 2) := by decide +kernel
theorem dX10_codeOf_24 : decode cX10_codeOf 24 = .ok (.ifCond .lt 44, 3) := by decide +kernel
theorem dX10_codeOf_27 : decode cX10_codeOf 27 = .ok (.iload_n 3, 1) := by decide +kernel
theorem dX10_codeOf_28 : decode cX10_codeOf 28 = .ok (.ifCond .le 40, 3) := by decide +kernel
theorem dX10_codeOf_31 : decode cX10_codeOf 31 = .ok (.iload 4, 2) := by decide +kernel
theorem dX10_codeOf_33 : decode cX10_codeOf 33 = .ok (.iload 5, 2) := by decide +kernel
theorem dX10_codeOf_35 : decode cX10_codeOf 35 = .ok (.iload_n 3, 1) := by decide +kernel
theorem dX10_codeOf_36 : decode cX10_codeOf 36 = .ok (.irem, 1) := by decide +kernel
theorem dX10_codeOf_37 : decode cX10_codeOf 37 = .ok (.aload_n 0, 1) := by decide +kernel
theorem dX10_codeOf_38 : decode cX10_codeOf 38 = .ok (.getfield 21, 3) := by decide +kernel
theorem dX10_codeOf_41 : decode cX10_codeOf 41 = .ok (.getfield 63, 3) := by decide +kernel
theorem dX10_codeOf_44 : decode cX10_codeOf 44 = .ok (.aload_n 0, 1) := by decide +kernel
theorem dX10_codeOf_45 : decode cX10_codeOf 45 = .ok (.getfield 18, 3) := by decide +kernel
theorem dX10_codeOf_48 : decode cX10_codeOf 48 = .ok (.iload 6, 2) := by decide +kernel
theorem dX10_codeOf_50 : decode cX10_codeOf 50 = .ok (.iaload, 1) := by decide +kernel
theorem dX10_codeOf_51 : decode cX10_codeOf 51 = .ok (.iaload, 1) := by decide +kernel
theorem dX10_codeOf_52 : decode cX10_codeOf 52 = .ok (.imul, 1) := by decide +kernel
theorem dX10_codeOf_53 : decode cX10_codeOf 53 = .ok (.iadd, 1) := by decide +kernel
theorem dX10_codeOf_54 : decode cX10_codeOf 54 = .ok (.istore 4, 2) := by decide +kernel
theorem dX10_codeOf_56 : decode cX10_codeOf 56 = .ok (.iload 5, 2) := by decide +kernel
theorem dX10_codeOf_58 : decode cX10_codeOf 58 = .ok (.iload_n 3, 1) := by decide +kernel
theorem dX10_codeOf_59 : decode cX10_codeOf 59 = .ok (.idiv, 1) := by decide +kernel
theorem dX10_codeOf_60 : decode cX10_codeOf 60 = .ok (.istore 5, 2) := by decide +kernel
theorem dX10_codeOf_62 : decode cX10_codeOf 62 = .ok (.iinc 6 (-1), 3) := by decide +kernel
theorem dX10_codeOf_65 : decode cX10_codeOf 65 = .ok (.goto (-43), 3) := by decide +kernel
theorem dX10_codeOf_68 : decode cX10_codeOf 68 = .ok (.iload 4, 2) := by decide +kernel
theorem dX10_codeOf_70 : decode cX10_codeOf 70 = .ok (.ireturn, 1) := by decide +kernel
theorem dX10_fillFromNext_0 : decode cX10_fillFromNext 0 = .ok (.aload_n 0, 1) := by decide +kernel
theorem dX10_fillFromNext_1 : decode cX10_fillFromNext 1 = .ok (.getfield 21, 3) := by decide +kernel
theorem dX10_fillFromNext_4 : decode cX10_fillFromNext 4 = .ok (.getfield 43, 3) := by decide +kernel
theorem dX10_fillFromNext_7 : decode cX10_fillFromNext 7 = .ok (.getfield 47, 3) := by decide +kernel
theorem dX10_fillFromNext_10 : decode cX10_fillFromNext 10 = .ok (.istore_n 2, 1) := by decide +kernel
theorem dX10_fillFromNext_11 : decode cX10_fillFromNext 11 = .ok (.aload_n 0, 1) := by decide +kernel
theorem dX10_fillFromNext_12 : decode cX10_fillFromNext 12 = .ok (.getfield 15, 3) := by decide +kernel
theorem dX10_fillFromNext_15 : decode cX10_fillFromNext 15 = .ok (.iload_n 1, 1) := by decide +kernel
theorem dX10_fillFromNext_16 : decode cX10_fillFromNext 16 = .ok (.iconst 1, 1) := by decide +kernel
theorem dX10_fillFromNext_17 : decode cX10_fillFromNext 17 = .ok (.iadd, 1) := by decide +kernel
theorem dX10_fillFromNext_18 : decode cX10_fillFromNext 18 = .ok (.iaload, 1) := by decide +kernel
theorem dX10_fillFromNext_19 : decode cX10_fillFromNext 19 = .ok (.istore_n 3, 1) := by decide +kernel
theorem dX10_fillFromNext_20 : decode cX10_fillFromNext 20 = .ok (.aload_n 0, 1) := by decide +kernel
theorem dX10_fillFromNext_21 : decode cX10_fillFromNext 21 = .ok (.getfield 15, 3) := by decide +kernel
theorem dX10_fillFromNext_24 : decode cX10_fillFromNext 24 = .ok (.iload_n 1, 1) := by decide +kernel
theorem dX10_fillFromNext_25 : decode cX10_fillFromNext 25 = .ok (.iaload, 1) := by decide +kernel
theorem dX10_fillFromNext_26 : decode cX10_fillFromNext 26 = .ok (.istore 4, 2) := by decide +kernel
theorem dX10_fillFromNext_28 : decode cX10_fillFromNext 28 = .ok (.iload 4, 2) := by decide +kernel
theorem dX10_fillFromNext_30 : decode cX10_fillFromNext 30 = .ok (.aload_n 0, 1) := by decide +kernel
theorem dX10_fillFromNext_31 : decode cX10_fillFromNext 31 = .ok (.getfield 15, 3) := by decide +kernel
theorem dX10_fillFromNext_34 : decode cX10_fillFromNext 34 = .ok (.iload_n 1, 1) := by decide +kernel
theorem dX10_fillFromNext_35 : decode cX10_fillFromNext 35 = .ok (.iconst 1, 1) := by decide +kernel
theorem dX10_fillFromNext_36 : decode cX10_fillFromNext 36 = .ok (.iadd, 1) := by decide +kernel
theorem dX10_fillFromNext_37 : decode cX10_fillFromNext 37 = .ok (.iaload, 1) := by decide +kernel
theorem dX10_fillFromNext_38 : decode cX10_fillFromNext 38 = .ok (.if_icmp .ge 57, 3) := by decide +kernel
theorem dX10_fillFromNext_41 : decode cX10_fillFromNext 41 = .ok (.iconst 0, 1) := by decide +kernel
theorem dX10_fillFromNext_42 : decode cX10_fillFromNext 42 = .ok (.istore 5, 2) := by decide +kernel
theorem dX10_fillFromNext_44 : decode cX10_fillFromNext 44 = .ok (.iconst 0, 1) := by decide +kernel
theorem dX10_fillFromNext_45 : decode cX10_fillFromNext 45 = .ok (.istore 6, 2) := by decide +kernel
theorem dX10_fillFromNext_47 : decode cX10_fillFromNext 47 = .ok (.iload 6, 2) := by decide +kernel
theorem dX10_fillFromNext_49 : decode cX10_fillFromNext 49 = .ok (.iload_n 2, 1) := by decide +kernel
theorem dX10_fillFromNext_50 : decode cX10_fillFromNext 50 = .ok (.if_icmp .ge 30, 3) := by decide +kernel
theorem dX10_fillFromNext_53 : decode cX10_fillFromNext 53 = .ok (.aload_n 0, 1) := by decide +kernel
theorem dX10_fillFromNext_54 : decode cX10_fillFromNext 54 = .ok (.getfield 11, 3) := by decide +kernel
theorem dX10_fillFromNext_57 : decode cX10_fillFromNext 57 = .ok (.iload_n 3, 1) := by decide +kernel
theorem dX10_fillFromNext_58 : decode cX10_fillFromNext 58 = .ok (.iaload, 1) := by decide +kernel
theorem dX10_fillFromNext_59 : decode cX10_fillFromNext 59 = .ok (.ifCond .eq 12, 3) := by decide +kernel
theorem dX10_fillFromNext_62 : decode cX10_fillFromNext 62 = .ok (.iload 5, 2) := by decide +kernel
theorem dX10_fillFromNext_64 : decode cX10_fillFromNext 64 = .ok (.iconst 1, 1) := by decide +kernel
theorem dX10_fillFromNext_65 : decode cX10_fillFromNext 65 = .ok (.iload 6, 2) := by decide +kernel
theorem dX10_fillFromNext_67 : decode cX10_fillFromNext 67 = .ok (.ishl, 1) := by decide +kernel
theorem dX10_fillFromNext_68 : decode cX10_fillFromNext 68 = .ok (.ior, 1) := by decide +kernel
theorem dX10_fillFromNext_69 : decode cX10_fillFromNext 69 = .ok (.istore 5, 2) := by decide +kernel
theorem dX10_fillFromNext_71 : decode cX10_fillFromNext 71 = .ok (.iinc 3 1, 3) := by decide +kernel
theorem dX10_fillFromNext_74 : decode cX10_fillFromNext 74 = .ok (.iinc 6 1, 3) := by decide +kernel
theorem dX10_fillFromNext_77 : decode cX10_fillFromNext 77 = .ok (.goto (-30), 3) := by decide +kernel
theorem dX10_fillFromNext_80 : decode cX10_fillFromNext 80 = .ok (.aload_n 0, 1) := by decide +kernel
theorem dX10_fillFromNext_81 : decode cX10_fillFromNext 81 = .ok (.getfield 11, 3) := by decide +kernel
theorem dX10_fillFromNext_84 : decode cX10_fillFromNext 84 = .ok (.iload 4, 2) := by decide +kernel
theorem dX10_fillFromNext_86 : decode cX10_fillFromNext 86 = .ok (.iload 5, 2) := by decide +kernel
theorem dX10_fillFromNext_88 : decode cX10_fillFromNext 88 = .ok (.iastore, 1) := by decide +kernel
theorem dX10_fillFromNext_89 : decode cX10_fillFromNext 89 = .ok (.iinc 4 1, 3) := by decide +kernel
theorem dX10_fillFromNext_92 : decode cX10_fillFromNext 92 = .ok (.goto (-64), 3) := by decide +kernel
theorem dX10_fillFromNext_95 : decode cX10_fillFromNext 95 = .ok (.return_, 1) := by decide +kernel
theorem dX11_feed_0 : decode cX11_feed 0 = .ok (.aload_n 0, 1) := by decide +kernel
theorem dX11_feed_1 : decode cX11_feed 1 = .ok (.getfield 114, 3) := by decide +kernel
theorem dX11_feed_4 : decode cX11_feed 4 = .ok (.bipush 20, 2) := by decide +kernel
theorem dX11_feed_6 : decode cX11_feed 6 = .ok (.iadd, 1) := by decide +kernel
theorem dX11_feed_7 : decode cX11_feed 7 = .ok (.sipush 400, 3) := by decide +kernel
theorem dX11_feed_10 : decode cX11_feed 10 = .ok (.if_icmp .le 5, 3) := by decide +kernel
theorem dX11_feed_13 : decode cX11_feed 13 = .ok (.iconst (-1), 1) := by decide +kernel
theorem dX11_feed_14 : decode cX11_feed 14 = .ok (.ireturn, 1) := by decide +kernel
theorem dX11_feed_15 : decode cX11_feed 15 = .ok (.aload_n 0, 1) := by decide +kernel
theorem dX11_feed_16 : decode cX11_feed 16 = .ok (.iload_n 1, 1) := by decide +kernel
theorem dX11_feed_17 : decode cX11_feed 17 = .ok (.invokevirtual 117, 3) := by decide +kernel
theorem dX11_feed_20 : decode cX11_feed 20 = .ok (.aload_n 0, 1) := by decide +kernel
theorem dX11_feed_21 : decode cX11_feed 21 = .ok (.iload_n 2, 1) := by decide +kernel
theorem dX11_feed_22 : decode cX11_feed 22 = .ok (.invokevirtual 117, 3) := by decide +kernel
theorem dX11_feed_25 : decode cX11_feed 25 = .ok (.aload_n 0, 1) := by decide +kernel
theorem dX11_feed_26 : decode cX11_feed 26 = .ok (.iload_n 3, 1) := by decide +kernel
theorem dX11_feed_27 : decode cX11_feed 27 = .ok (.invokevirtual 117, 3) := by decide +kernel
theorem dX11_feed_30 : decode cX11_feed 30 = .ok (.aload_n 0, 1) := by decide +kernel
theorem dX11_feed_31 : decode cX11_feed 31 = .ok (.iload 4, 2) := by decide +kernel
theorem dX11_feed_33 : decode cX11_feed 33 = .ok (.invokevirtual 117, 3) := by decide +kernel
theorem dX11_feed_36 : decode cX11_feed 36 = .ok (.aload_n 0, 1) := by decide +kernel
theorem dX11_feed_37 : decode cX11_feed 37 = .ok (.iload 5, 2) := by decide +kernel
theorem dX11_feed_39 : decode cX11_feed 39 = .ok (.invokevirtual 117, 3) := by decide +kernel
theorem dX11_feed_42 : decode cX11_feed 42 = .ok (.aload_n 0, 1) := by decide +kernel
theorem dX11_feed_43 : decode cX11_feed 43 = .ok (.getfield 114, 3) := by decide +kernel
theorem dX11_feed_46 : decode cX11_feed 46 = .ok (.ireturn, 1) := by decide +kernel
theorem dX11_tapeFour_0 : decode cX11_tapeFour 0 = .ok (.bipush 24, 2) := by decide +kernel
theorem dX11_tapeFour_2 : decode cX11_tapeFour 2 = .ok (.istore_n 2, 1) := by decide +kernel
theorem dX11_tapeFour_3 : decode cX11_tapeFour 3 = .ok (.iload_n 2, 1) := by decide +kernel
theorem dX11_tapeFour_4 : decode cX11_tapeFour 4 = .ok (.ifCond .lt 45, 3) := by decide +kernel
theorem dX11_tapeFour_7 : decode cX11_tapeFour 7 = .ok (.aload_n 0, 1) := by decide +kernel
theorem dX11_tapeFour_8 : decode cX11_tapeFour 8 = .ok (.getfield 114, 3) := by decide +kernel
theorem dX11_tapeFour_11 : decode cX11_tapeFour 11 = .ok (.sipush 400, 3) := by decide +kernel
theorem dX11_tapeFour_14 : decode cX11_tapeFour 14 = .ok (.if_icmp .ge 35, 3) := by decide +kernel
theorem dX11_tapeFour_17 : decode cX11_tapeFour 17 = .ok (.aload_n 0, 1) := by decide +kernel
theorem dX11_tapeFour_18 : decode cX11_tapeFour 18 = .ok (.getfield 9, 3) := by decide +kernel
theorem dX11_tapeFour_21 : decode cX11_tapeFour 21 = .ok (.aload_n 0, 1) := by decide +kernel
theorem dX11_tapeFour_22 : decode cX11_tapeFour 22 = .ok (.getfield 114, 3) := by decide +kernel
theorem dX11_tapeFour_25 : decode cX11_tapeFour 25 = .ok (.iload_n 1, 1) := by decide +kernel
theorem dX11_tapeFour_26 : decode cX11_tapeFour 26 = .ok (.iload_n 2, 1) := by decide +kernel
theorem dX11_tapeFour_27 : decode cX11_tapeFour 27 = .ok (.iushr, 1) := by decide +kernel
theorem dX11_tapeFour_28 : decode cX11_tapeFour 28 = .ok (.sipush 255, 3) := by decide +kernel
theorem dX11_tapeFour_31 : decode cX11_tapeFour 31 = .ok (.iand, 1) := by decide +kernel
theorem dX11_tapeFour_32 : decode cX11_tapeFour 32 = .ok (.iastore, 1) := by decide +kernel
theorem dX11_tapeFour_33 : decode cX11_tapeFour 33 = .ok (.aload_n 0, 1) := by decide +kernel
theorem dX11_tapeFour_34 : decode cX11_tapeFour 34 = .ok (.dup, 1) := by decide +kernel
theorem dX11_tapeFour_35 : decode cX11_tapeFour 35 = .ok (.getfield 114, 3) := by decide +kernel
theorem dX11_tapeFour_38 : decode cX11_tapeFour 38 = .ok (.iconst 1, 1) := by decide +kernel
theorem dX11_tapeFour_39 : decode cX11_tapeFour 39 = .ok (.iadd, 1) := by decide +kernel
theorem dX11_tapeFour_40 : decode cX11_tapeFour 40 = .ok (.putfield 114, 3) := by decide +kernel
theorem dX11_tapeFour_43 : decode cX11_tapeFour 43 = .ok (.iinc 2 (-8), 3) := by decide +kernel
theorem dX11_tapeFour_46 : decode cX11_tapeFour 46 = .ok (.goto (-43), 3) := by decide +kernel
theorem dX11_tapeFour_49 : decode cX11_tapeFour 49 = .ok (.return_, 1) := by decide +kernel
theorem dX11_text_0 : decode cX11_text 0 = .ok (.iload_n 1, 1) := by decide +kernel
theorem dX11_text_1 : decode cX11_text 1 = .ok (.ifCond .lt 11, 3) := by decide +kernel
theorem dX11_text_4 : decode cX11_text 4 = .ok (.iload_n 1, 1) := by decide +kernel
theorem dX11_text_5 : decode cX11_text 5 = .ok (.aload_n 0, 1) := by decide +kernel
theorem dX11_text_6 : decode cX11_text 6 = .ok (.getfield 114, 3) := by decide +kernel
theorem dX11_text_9 : decode cX11_text 9 = .ok (.if_icmp .le 6, 3) := by decide +kernel
theorem dX11_text_12 : decode cX11_text 12 = .ok (.bipush (-2), 2) := by decide +kernel
theorem dX11_text_14 : decode cX11_text 14 = .ok (.ireturn, 1) := by decide +kernel
theorem dX11_text_15 : decode cX11_text 15 = .ok (.aload_n 0, 1) := by decide +kernel
theorem dX11_text_16 : decode cX11_text 16 = .ok (.getfield 25, 3) := by decide +kernel
theorem dX11_text_19 : decode cX11_text 19 = .ok (.iload_n 1, 1) := by decide +kernel
theorem dX11_text_20 : decode cX11_text 20 = .ok (.invokevirtual 121, 3) := by decide +kernel
theorem dX11_text_23 : decode cX11_text 23 = .ok (.istore_n 2, 1) := by decide +kernel
theorem dX11_text_24 : decode cX11_text 24 = .ok (.aload_n 0, 1) := by decide +kernel
theorem dX11_text_25 : decode cX11_text 25 = .ok (.iconst 0, 1) := by decide +kernel
theorem dX11_text_26 : decode cX11_text 26 = .ok (.putfield 114, 3) := by decide +kernel
theorem dX11_text_29 : decode cX11_text 29 = .ok (.aload_n 0, 1) := by decide +kernel
theorem dX11_text_30 : decode cX11_text 30 = .ok (.getfield 25, 3) := by decide +kernel
theorem dX11_text_33 : decode cX11_text 33 = .ok (.getfield 125, 3) := by decide +kernel
theorem dX11_text_36 : decode cX11_text 36 = .ok (.ifCond .eq 5, 3) := by decide +kernel
theorem dX11_text_39 : decode cX11_text 39 = .ok (.iconst (-1), 1) := by decide +kernel
theorem dX11_text_40 : decode cX11_text 40 = .ok (.ireturn, 1) := by decide +kernel
theorem dX11_text_41 : decode cX11_text 41 = .ok (.aload_n 0, 1) := by decide +kernel
theorem dX11_text_42 : decode cX11_text 42 = .ok (.getfield 16, 3) := by decide +kernel
theorem dX11_text_45 : decode cX11_text 45 = .ok (.aload_n 0, 1) := by decide +kernel
theorem dX11_text_46 : decode cX11_text 46 = .ok (.getfield 25, 3) := by decide +kernel
theorem dX11_text_49 : decode cX11_text 49 = .ok (.getfield 128, 3) := by decide +kernel
theorem dX11_text_52 : decode cX11_text 52 = .ok (.invokevirtual 129, 3) := by decide +kernel
theorem dX11_text_55 : decode cX11_text 55 = .ok (.aload_n 0, 1) := by decide +kernel
theorem dX11_text_56 : decode cX11_text 56 = .ok (.invokevirtual 111, 3) := by decide +kernel
theorem dX11_text_59 : decode cX11_text 59 = .ok (.iload_n 2, 1) := by decide +kernel
theorem dX11_text_60 : decode cX11_text 60 = .ok (.ireturn, 1) := by decide +kernel
theorem dX11_beginAnew_0 : decode cX11_beginAnew 0 = .ok (.aload_n 0, 1) := by decide +kernel
theorem dX11_beginAnew_1 : decode cX11_beginAnew 1 = .ok (.getfield 32, 3) := by decide +kernel
theorem dX11_beginAnew_4 : decode cX11_beginAnew 4 = .ok (.aload_n 0, 1) := by decide +kernel
theorem dX11_beginAnew_5 : decode cX11_beginAnew 5 = .ok (.getfield 16, 3) := by decide +kernel
theorem dX11_beginAnew_8 : decode cX11_beginAnew 8 = .ok (.getfield 133, 3) := by decide +kernel
theorem dX11_beginAnew_11 : decode cX11_beginAnew 11 = .ok (.invokevirtual 136, 3) := by decide +kernel
theorem dX11_beginAnew_14 : decode cX11_beginAnew 14 = .ok (.aload_n 0, 1) := by decide +kernel
theorem dX11_beginAnew_15 : decode cX11_beginAnew 15 = .ok (.getfield 41, 3) := by decide +kernel
theorem dX11_beginAnew_18 : decode cX11_beginAnew 18 = .ok (.invokevirtual 139, 3) := by decide +kernel
theorem dX11_beginAnew_21 : decode cX11_beginAnew 21 = .ok (.aload_n 0, 1) := by decide +kernel
theorem dX11_beginAnew_22 : decode cX11_beginAnew 22 = .ok (.getfield 48, 3) := by decide +kernel
theorem dX11_beginAnew_25 : decode cX11_beginAnew 25 = .ok (.invokevirtual 142, 3) := by decide +kernel
theorem dX11_beginAnew_28 : decode cX11_beginAnew 28 = .ok (.aload_n 0, 1) := by decide +kernel
theorem dX11_beginAnew_29 : decode cX11_beginAnew 29 = .ok (.getfield 57, 3) := by decide +kernel
theorem dX11_beginAnew_32 : decode cX11_beginAnew 32 = .ok (.iconst 0, 1) := by decide +kernel
theorem dX11_beginAnew_33 : decode cX11_beginAnew 33 = .ok (.putfield 145, 3) := by decide +kernel
theorem dX11_beginAnew_36 : decode cX11_beginAnew 36 = .ok (.aload_n 0, 1) := by decide +kernel
theorem dX11_beginAnew_37 : decode cX11_beginAnew 37 = .ok (.getfield 61, 3) := by decide +kernel
theorem dX11_beginAnew_40 : decode cX11_beginAnew 40 = .ok (.iconst 0, 1) := by decide +kernel
theorem dX11_beginAnew_41 : decode cX11_beginAnew 41 = .ok (.putfield 145, 3) := by decide +kernel
theorem dX11_beginAnew_44 : decode cX11_beginAnew 44 = .ok (.aload_n 0, 1) := by decide +kernel
theorem dX11_beginAnew_45 : decode cX11_beginAnew 45 = .ok (.getfield 78, 3) := by decide +kernel
theorem dX11_beginAnew_48 : decode cX11_beginAnew 48 = .ok (.iconst 1, 1) := by decide +kernel
theorem dX11_beginAnew_49 : decode cX11_beginAnew 49 = .ok (.aaload, 1) := by decide +kernel
theorem dX11_beginAnew_50 : decode cX11_beginAnew 50 = .ok (.iconst 0, 1) := by decide +kernel
theorem dX11_beginAnew_51 : decode cX11_beginAnew 51 = .ok (.putfield 149, 3) := by decide +kernel
theorem dX11_beginAnew_54 : decode cX11_beginAnew 54 = .ok (.aload_n 0, 1) := by decide +kernel
theorem dX11_beginAnew_55 : decode cX11_beginAnew 55 = .ok (.getfield 93, 3) := by decide +kernel
theorem dX11_beginAnew_58 : decode cX11_beginAnew 58 = .ok (.iconst 0, 1) := by decide +kernel
theorem dX11_beginAnew_59 : decode cX11_beginAnew 59 = .ok (.putfield 150, 3) := by decide +kernel
theorem dX11_beginAnew_62 : decode cX11_beginAnew 62 = .ok (.aload_n 0, 1) := by decide +kernel
theorem dX11_beginAnew_63 : decode cX11_beginAnew 63 = .ok (.getfield 100, 3) := by decide +kernel
theorem dX11_beginAnew_66 : decode cX11_beginAnew 66 = .ok (.invokevirtual 151, 3) := by decide +kernel
theorem dX11_beginAnew_69 : decode cX11_beginAnew 69 = .ok (.aload_n 0, 1) := by decide +kernel
theorem dX11_beginAnew_70 : decode cX11_beginAnew 70 = .ok (.bipush (-3), 2) := by decide +kernel
theorem dX11_beginAnew_72 : decode cX11_beginAnew 72 = .ok (.putfield 104, 3) := by decide +kernel
theorem dX11_beginAnew_75 : decode cX11_beginAnew 75 = .ok (.aload_n 0, 1) := by decide +kernel
theorem dX11_beginAnew_76 : decode cX11_beginAnew 76 = .ok (.bipush (-3), 2) := by decide +kernel
theorem dX11_beginAnew_78 : decode cX11_beginAnew 78 = .ok (.putfield 108, 3) := by decide +kernel
theorem dX11_beginAnew_81 : decode cX11_beginAnew 81 = .ok (.aload_n 0, 1) := by decide +kernel
theorem dX11_beginAnew_82 : decode cX11_beginAnew 82 = .ok (.invokevirtual 154, 3) := by decide +kernel
theorem dX11_beginAnew_85 : decode cX11_beginAnew 85 = .ok (.return_, 1) := by decide +kernel
theorem dX11_startChanged_0 : decode cX11_startChanged 0 = .ok (.aload_n 0, 1) := by decide +kernel
theorem dX11_startChanged_1 : decode cX11_startChanged 1 = .ok (.getfield 78, 3) := by decide +kernel
theorem dX11_startChanged_4 : decode cX11_startChanged 4 = .ok (.iconst 0, 1) := by decide +kernel
theorem dX11_startChanged_5 : decode cX11_startChanged 5 = .ok (.aaload, 1) := by decide +kernel
theorem dX11_startChanged_6 : decode cX11_startChanged 6 = .ok (.iconst 0, 1) := by decide +kernel
theorem dX11_startChanged_7 : decode cX11_startChanged 7 = .ok (.putfield 149, 3) := by decide +kernel
theorem dX11_startChanged_10 : decode cX11_startChanged 10 = .ok (.aload_n 0, 1) := by decide +kernel
theorem dX11_startChanged_11 : decode cX11_startChanged 11 = .ok (.getfield 78, 3) := by decide +kernel
theorem dX11_startChanged_14 : decode cX11_startChanged 14 = .ok (.iconst 2, 1) := by decide +kernel
theorem dX11_startChanged_15 : decode cX11_startChanged 15 = .ok (.aaload, 1) := by decide +kernel
theorem dX11_startChanged_16 : decode cX11_startChanged 16 = .ok (.iconst 0, 1) := by decide +kernel
theorem dX11_startChanged_17 : decode cX11_startChanged 17 = .ok (.putfield 149, 3) := by decide +kernel
theorem dX11_startChanged_20 : decode cX11_startChanged 20 = .ok (.aload_n 0, 1) := by decide +kernel
theorem dX11_startChanged_21 : decode cX11_startChanged 21 = .ok (.invokevirtual 157, 3) := by decide +kernel
theorem dX11_startChanged_24 : decode cX11_startChanged 24 = .ok (.return_, 1) := by decide +kernel
theorem dX11_stageChanged_0 : decode cX11_stageChanged 0 = .ok (.iconst 0, 1) := by decide +kernel
theorem dX11_stageChanged_1 : decode cX11_stageChanged 1 = .ok (.istore_n 1, 1) := by decide +kernel
theorem dX11_stageChanged_2 : decode cX11_stageChanged 2 = .ok (.iload_n 1, 1) := by decide +kernel
theorem dX11_stageChanged_3 : decode cX11_stageChanged 3 = .ok (.iconst 3, 1) := by decide +kernel
theorem dX11_stageChanged_4 : decode cX11_stageChanged 4 = .ok (.if_icmp .ge 19, 3) := by decide +kernel
theorem dX11_stageChanged_7 : decode cX11_stageChanged 7 = .ok (.aload_n 0, 1) := by decide +kernel
theorem dX11_stageChanged_8 : decode cX11_stageChanged 8 = .ok (.getfield 82, 3) := by decide +kernel
theorem dX11_stageChanged_11 : decode cX11_stageChanged 11 = .ok (.iload_n 1, 1) := by decide +kernel
theorem dX11_stageChanged_12 : decode cX11_stageChanged 12 = .ok (.aaload, 1) := by decide +kernel
theorem dX11_stageChanged_13 : decode cX11_stageChanged 13 = .ok (.iconst 0, 1) := by decide +kernel
theorem dX11_stageChanged_14 : decode cX11_stageChanged 14 = .ok (.putfield 149, 3) := by decide +kernel
theorem dX11_stageChanged_17 : decode cX11_stageChanged 17 = .ok (.iinc 1 1, 3) := by decide +kernel
theorem dX11_stageChanged_20 : decode cX11_stageChanged 20 = .ok (.goto (-18), 3) := by decide +kernel
theorem dX11_stageChanged_23 : decode cX11_stageChanged 23 = .ok (.return_, 1) := by decide +kernel
theorem dX11_fault_0 : decode cX11_fault 0 = .ok (.iload_n 1, 1) := by decide +kernel
theorem dX11_fault_1 : decode cX11_fault 1 = .ok (.ifCond .ne 11, 3) := by decide +kernel
theorem dX11_fault_4 : decode cX11_fault 4 = .ok (.aload_n 0, 1) := by decide +kernel
theorem dX11_fault_5 : decode cX11_fault 5 = .ok (.getfield 25, 3) := by decide +kernel
theorem dX11_fault_8 : decode cX11_fault 8 = .ok (.getfield 125, 3) := by decide +kernel
theorem dX11_fault_11 : decode cX11_fault 11 = .ok (.ireturn, 1) := by decide +kernel
theorem dX11_fault_12 : decode cX11_fault 12 = .ok (.iload_n 1, 1) := by decide +kernel
theorem dX11_fault_13 : decode cX11_fault 13 = .ok (.iconst 1, 1) := by decide +kernel
theorem dX11_fault_14 : decode cX11_fault 14 = .ok (.if_icmp .ne 13, 3) := by decide +kernel
theorem dX11_fault_17 : decode cX11_fault 17 = .ok (.aload_n 0, 1) := by decide +kernel
theorem dX11_fault_18 : decode cX11_fault 18 = .ok (.getfield 25, 3) := by decide +kernel
theorem dX11_fault_21 : decode cX11_fault 21 = .ok (.getfield 160, 3) := by decide +kernel
theorem dX11_fault_24 : decode cX11_fault 24 = .ok (.goto 4, 3) := by decide +kernel
theorem dX11_fault_27 : decode cX11_fault 27 = .ok (.iconst (-1), 1) := by decide +kernel
theorem dX11_fault_28 : decode cX11_fault 28 = .ok (.ireturn, 1) := by decide +kernel
theorem dX11_named_0 : decode cX11_named 0 = .ok (.iload_n 1, 1) := by decide +kernel
theorem dX11_named_1 : decode cX11_named 1 = .ok (.ifCond .ne 12, 3) := by decide +kernel
theorem dX11_named_4 : decode cX11_named 4 = .ok (.aload_n 0, 1) := by decide +kernel
theorem dX11_named_5 : decode cX11_named 5 = .ok (.getfield 16, 3) := by decide +kernel
theorem dX11_named_8 : decode cX11_named 8 = .ok (.iload_n 2, 1) := by decide +kernel
theorem dX11_named_9 : decode cX11_named 9 = .ok (.invokevirtual 163, 3) := by decide +kernel
theorem dX11_named_12 : decode cX11_named 12 = .ok (.ireturn, 1) := by decide +kernel
theorem dX11_named_13 : decode cX11_named 13 = .ok (.iload_n 1, 1) := by decide +kernel
theorem dX11_named_14 : decode cX11_named 14 = .ok (.iconst 1, 1) := by decide +kernel
theorem dX11_named_15 : decode cX11_named 15 = .ok (.if_icmp .ne 14, 3) := by decide +kernel
theorem dX11_named_18 : decode cX11_named 18 = .ok (.aload_n 0, 1) := by decide +kernel
theorem dX11_named_19 : decode cX11_named 19 = .ok (.getfield 16, 3) := by decide +kernel
theorem dX11_named_22 : decode cX11_named 22 = .ok (.iload_n 2, 1) := by decide +kernel
theorem dX11_named_23 : decode cX11_named 23 = .ok (.invokevirtual 166, 3) := by decide +kernel
theorem dX11_named_26 : decode cX11_named 26 = .ok (.goto 4, 3) := by decide +kernel
theorem dX11_named_29 : decode cX11_named 29 = .ok (.iconst (-1), 1) := by decide +kernel
theorem dX11_named_30 : decode cX11_named 30 = .ok (.ireturn, 1) := by decide +kernel
theorem dX11_lawful_0 : decode cX11_lawful 0 = .ok (.aload_n 0, 1) := by decide +kernel
theorem dX11_lawful_1 : decode cX11_lawful 1 = .ok (.getfield 41, 3) := by decide +kernel
theorem dX11_lawful_4 : decode cX11_lawful 4 = .ok (.getfield 169, 3) := by decide +kernel
theorem dX11_lawful_7 : decode cX11_lawful 7 = .ok (.ireturn, 1) := by decide +kernel
theorem dX11_without_0 : decode cX11_without 0 = .ok (.aload_n 0, 1) := by decide +kernel
theorem dX11_without_1 : decode cX11_without 1 = .ok (.iload_n 1, 1) := by decide +kernel
theorem dX11_without_2 : decode cX11_without 2 = .ok (.invokevirtual 172, 3) := by decide +kernel
theorem dX11_without_5 : decode cX11_without 5 = .ok (.ifCond .eq 17, 3) := by decide +kernel
theorem dX11_without_8 : decode cX11_without 8 = .ok (.aload_n 0, 1) := by decide +kernel
theorem dX11_without_9 : decode cX11_without 9 = .ok (.getfield 41, 3) := by decide +kernel
theorem dX11_without_12 : decode cX11_without 12 = .ok (.getfield 176, 3) := by decide +kernel
theorem dX11_without_15 : decode cX11_without 15 = .ok (.iconst 1, 1) := by decide +kernel
theorem dX11_without_16 : decode cX11_without 16 = .ok (.iload_n 1, 1) := by decide +kernel
theorem dX11_without_17 : decode cX11_without 17 = .ok (.ishl, 1) := by decide +kernel
theorem dX11_without_18 : decode cX11_without 18 = .ok (.iaload, 1) := by decide +kernel
theorem dX11_without_19 : decode cX11_without 19 = .ok (.goto 4, 3) := by decide +kernel
theorem dX11_without_22 : decode cX11_without 22 = .ok (.iconst (-1), 1) := by decide +kernel
theorem dX11_without_23 : decode cX11_without 23 = .ok (.ireturn, 1) := by decide +kernel
theorem dX11_forbids_0 : decode cX11_forbids 0 = .ok (.aload_n 0, 1) := by decide +kernel
theorem dX11_forbids_1 : decode cX11_forbids 1 = .ok (.getfield 41, 3) := by decide +kernel
theorem dX11_forbids_4 : decode cX11_forbids 4 = .ok (.getfield 169, 3) := by decide +kernel
theorem dX11_forbids_7 : decode cX11_forbids 7 = .ok (.ifCond .le 7, 3) := by decide +kernel
theorem dX11_forbids_10 : decode cX11_forbids 10 = .ok (.iconst 0, 1) := by decide +kernel
theorem dX11_forbids_11 : decode cX11_forbids 11 = .ok (.goto 20, 3) := by decide +kernel
theorem dX11_forbids_14 : decode cX11_forbids 14 = .ok (.aload_n 0, 1) := by decide +kernel
theorem dX11_forbids_15 : decode cX11_forbids 15 = .ok (.getfield 41, 3) := by decide +kernel
theorem dX11_forbids_18 : decode cX11_forbids 18 = .ok (.getfield 176, 3) := by decide +kernel
theorem dX11_forbids_21 : decode cX11_forbids 21 = .ok (.aload_n 0, 1) := by decide +kernel
theorem dX11_forbids_22 : decode cX11_forbids 22 = .ok (.getfield 16, 3) := by decide +kernel
theorem dX11_forbids_25 : decode cX11_forbids 25 = .ok (.getfield 179, 3) := by decide +kernel
theorem dX11_forbids_28 : decode cX11_forbids 28 = .ok (.invokestatic 182, 3) := by decide +kernel
theorem dX11_forbids_31 : decode cX11_forbids 31 = .ok (.ireturn, 1) := by decide +kernel
theorem dX11_draw_0 : decode cX11_draw 0 = .ok (.iload_n 1, 1) := by decide +kernel
theorem dX11_draw_1 : decode cX11_draw 1 = .ok (.ifCond .lt 22, 3) := by decide +kernel
theorem dX11_draw_4 : decode cX11_draw 4 = .ok (.iload_n 1, 1) := by decide +kernel
theorem dX11_draw_5 : decode cX11_draw 5 = .ok (.aload_n 0, 1) := by decide +kernel
theorem dX11_draw_6 : decode cX11_draw 6 = .ok (.getfield 41, 3) := by decide +kernel
theorem dX11_draw_9 : decode cX11_draw 9 = .ok (.getfield 169, 3) := by decide +kernel
theorem dX11_draw_12 : decode cX11_draw 12 = .ok (.if_icmp .ge 11, 3) := by decide +kernel
theorem dX11_draw_15 : decode cX11_draw 15 = .ok (.aload_n 0, 1) := by decide +kernel
theorem dX11_draw_16 : decode cX11_draw 16 = .ok (.iload_n 2, 1) := by decide +kernel
theorem dX11_draw_17 : decode cX11_draw 17 = .ok (.invokevirtual 186, 3) := by decide +kernel
theorem dX11_draw_20 : decode cX11_draw 20 = .ok (.ifCond .ne 5, 3) := by decide +kernel
theorem dX11_draw_23 : decode cX11_draw 23 = .ok (.iconst (-1), 1) := by decide +kernel
theorem dX11_draw_24 : decode cX11_draw 24 = .ok (.ireturn, 1) := by decide +kernel
theorem dX11_draw_25 : decode cX11_draw 25 = .ok (.aload_n 0, 1) := by decide +kernel
theorem dX11_draw_26 : decode cX11_draw 26 = .ok (.getfield 41, 3) := by decide +kernel
theorem dX11_draw_29 : decode cX11_draw 29 = .ok (.aload_n 0, 1) := by decide +kernel
theorem dX11_draw_30 : decode cX11_draw 30 = .ok (.getfield 41, 3) := by decide +kernel
theorem dX11_draw_33 : decode cX11_draw 33 = .ok (.getfield 189, 3) := by decide +kernel
theorem dX11_draw_36 : decode cX11_draw 36 = .ok (.iload_n 1, 1) := by decide +kernel
theorem dX11_draw_37 : decode cX11_draw 37 = .ok (.iaload, 1) := by decide +kernel
theorem dX11_draw_38 : decode cX11_draw 38 = .ok (.iload_n 2, 1) := by decide +kernel
theorem dX11_draw_39 : decode cX11_draw 39 = .ok (.invokevirtual 192, 3) := by decide +kernel
theorem dX11_draw_42 : decode cX11_draw 42 = .ok (.ireturn, 1) := by decide +kernel
theorem dX11_judge_0 : decode cX11_judge 0 = .ok (.aload_n 0, 1) := by decide +kernel
theorem dX11_judge_1 : decode cX11_judge 1 = .ok (.iload_n 1, 1) := by decide +kernel
theorem dX11_judge_2 : decode cX11_judge 2 = .ok (.invokevirtual 196, 3) := by decide +kernel
theorem dX11_judge_5 : decode cX11_judge 5 = .ok (.ifCond .ne 5, 3) := by decide +kernel
theorem dX11_judge_8 : decode cX11_judge 8 = .ok (.iconst (-1), 1) := by decide +kernel
theorem dX11_judge_9 : decode cX11_judge 9 = .ok (.ireturn, 1) := by decide +kernel
theorem dX11_judge_10 : decode cX11_judge 10 = .ok (.aload_n 0, 1) := by decide +kernel
theorem dX11_judge_11 : decode cX11_judge 11 = .ok (.getfield 41, 3) := by decide +kernel
theorem dX11_judge_14 : decode cX11_judge 14 = .ok (.getfield 199, 3) := by decide +kernel
theorem dX11_judge_17 : decode cX11_judge 17 = .ok (.iload_n 1, 1) := by decide +kernel
theorem dX11_judge_18 : decode cX11_judge 18 = .ok (.iaload, 1) := by decide +kernel
theorem dX11_judge_19 : decode cX11_judge 19 = .ok (.ifCond .ne 7, 3) := by decide +kernel
theorem dX11_judge_22 : decode cX11_judge 22 = .ok (.iconst 1, 1) := by decide +kernel
theorem dX11_judge_23 : decode cX11_judge 23 = .ok (.goto 4, 3) := by decide +kernel
theorem dX11_judge_26 : decode cX11_judge 26 = .ok (.iconst 0, 1) := by decide +kernel
theorem dX11_judge_27 : decode cX11_judge 27 = .ok (.ireturn, 1) := by decide +kernel
theorem dX11_isTeam_0 : decode cX11_isTeam 0 = .ok (.iload_n 1, 1) := by decide +kernel
theorem dX11_isTeam_1 : decode cX11_isTeam 1 = .ok (.ifCond .lt 18, 3) := by decide +kernel
theorem dX11_isTeam_4 : decode cX11_isTeam 4 = .ok (.iload_n 1, 1) := by decide +kernel
theorem dX11_isTeam_5 : decode cX11_isTeam 5 = .ok (.aload_n 0, 1) := by decide +kernel
theorem dX11_isTeam_6 : decode cX11_isTeam 6 = .ok (.getfield 16, 3) := by decide +kernel
theorem dX11_isTeam_9 : decode cX11_isTeam 9 = .ok (.getfield 202, 3) := by decide +kernel
theorem dX11_isTeam_12 : decode cX11_isTeam 12 = .ok (.if_icmp .ge 7, 3) := by decide +kernel
theorem dX11_isTeam_15 : decode cX11_isTeam 15 = .ok (.iconst 1, 1) := by decide +kernel
theorem dX11_isTeam_16 : decode cX11_isTeam 16 = .ok (.goto 4, 3) := by decide +kernel
theorem dX11_isTeam_19 : decode cX11_isTeam 19 = .ok (.iconst 0, 1) := by decide +kernel
theorem dX11_isTeam_20 : decode cX11_isTeam 20 = .ok (.ireturn, 1) := by decide +kernel
theorem dX11_isBar_0 : decode cX11_isBar 0 = .ok (.iload_n 1, 1) := by decide +kernel
theorem dX11_isBar_1 : decode cX11_isBar 1 = .ok (.ifCond .lt 18, 3) := by decide +kernel
theorem dX11_isBar_4 : decode cX11_isBar 4 = .ok (.iload_n 1, 1) := by decide +kernel
theorem dX11_isBar_5 : decode cX11_isBar 5 = .ok (.aload_n 0, 1) := by decide +kernel
theorem dX11_isBar_6 : decode cX11_isBar 6 = .ok (.getfield 16, 3) := by decide +kernel
theorem dX11_isBar_9 : decode cX11_isBar 9 = .ok (.getfield 179, 3) := by decide +kernel
theorem dX11_isBar_12 : decode cX11_isBar 12 = .ok (.if_icmp .ge 7, 3) := by decide +kernel
theorem dX11_isBar_15 : decode cX11_isBar 15 = .ok (.iconst 1, 1) := by decide +kernel
theorem dX11_isBar_16 : decode cX11_isBar 16 = .ok (.goto 4, 3) := by decide +kernel
theorem dX11_isBar_19 : decode cX11_isBar 19 = .ok (.iconst 0, 1) := by decide +kernel
theorem dX11_isBar_20 : decode cX11_isBar 20 = .ok (.ireturn, 1) := by decide +kernel
theorem dX11_isCode_0 : decode cX11_isCode 0 = .ok (.iload_n 1, 1) := by decide +kernel
theorem dX11_isCode_1 : decode cX11_isCode 1 = .ok (.ifCond .lt 18, 3) := by decide +kernel
theorem dX11_isCode_4 : decode cX11_isCode 4 = .ok (.iload_n 1, 1) := by decide +kernel
theorem dX11_isCode_5 : decode cX11_isCode 5 = .ok (.aload_n 0, 1) := by decide +kernel
theorem dX11_isCode_6 : decode cX11_isCode 6 = .ok (.getfield 41, 3) := by decide +kernel
theorem dX11_isCode_9 : decode cX11_isCode 9 = .ok (.getfield 205, 3) := by decide +kernel
theorem dX11_isCode_12 : decode cX11_isCode 12 = .ok (.if_icmp .ge 7, 3) := by decide +kernel
theorem dX11_isCode_15 : decode cX11_isCode 15 = .ok (.iconst 1, 1) := by decide +kernel
theorem dX11_isCode_16 : decode cX11_isCode 16 = .ok (.goto 4, 3) := by decide +kernel
theorem dX11_isCode_19 : decode cX11_isCode 19 = .ok (.iconst 0, 1) := by decide +kernel
theorem dX11_isCode_20 : decode cX11_isCode 20 = .ok (.ireturn, 1) := by decide +kernel
theorem dX11_order_0 : decode cX11_order 0 = .ok (.iload_n 1, 1) := by decide +kernel
theorem dX11_order_1 : decode cX11_order 1 = .ok (.aload_n 0, 1) := by decide +kernel
theorem dX11_order_2 : decode cX11_order 2 = .ok (.getfield 16, 3) := by decide +kernel
theorem dX11_order_5 : decode cX11_order 5 = .ok (.getfield 208, 3) := by decide +kernel
theorem dX11_order_8 : decode cX11_order 8 = .ok (.aload_n 0, 1) := by decide +kernel
theorem dX11_order_9 : decode cX11_order 9 = .ok (.getfield 48, 3) := by decide +kernel
theorem dX11_order_12 : decode cX11_order 12 = .ok (.getfield 211, 3) := by decide +kernel
theorem dX11_order_15 : decode cX11_order 15 = .ok (.invokestatic 214, 3) := by decide +kernel
theorem dX11_order_18 : decode cX11_order 18 = .ok (.ifCond .ne 5, 3) := by decide +kernel
theorem dX11_order_21 : decode cX11_order 21 = .ok (.iconst 0, 1) := by decide +kernel
theorem dX11_order_22 : decode cX11_order 22 = .ok (.ireturn, 1) := by decide +kernel
theorem dX11_order_23 : decode cX11_order 23 = .ok (.aload_n 0, 1) := by decide +kernel
theorem dX11_order_24 : decode cX11_order 24 = .ok (.getfield 48, 3) := by decide +kernel
theorem dX11_order_27 : decode cX11_order 27 = .ok (.invokevirtual 218, 3) := by decide +kernel
theorem dX11_order_30 : decode cX11_order 30 = .ok (.aload_n 0, 1) := by decide +kernel
theorem dX11_order_31 : decode cX11_order 31 = .ok (.getfield 57, 3) := by decide +kernel
theorem dX11_order_34 : decode cX11_order 34 = .ok (.iconst 0, 1) := by decide +kernel
theorem dX11_order_35 : decode cX11_order 35 = .ok (.putfield 145, 3) := by decide +kernel
theorem dX11_order_38 : decode cX11_order 38 = .ok (.aload_n 0, 1) := by decide +kernel
theorem dX11_order_39 : decode cX11_order 39 = .ok (.bipush (-3), 2) := by decide +kernel
theorem dX11_order_41 : decode cX11_order 41 = .ok (.putfield 108, 3) := by decide +kernel
theorem dX11_order_44 : decode cX11_order 44 = .ok (.aload_n 0, 1) := by decide +kernel
theorem dX11_order_45 : decode cX11_order 45 = .ok (.invokevirtual 154, 3) := by decide +kernel
theorem dX11_order_48 : decode cX11_order 48 = .ok (.iconst 1, 1) := by decide +kernel
theorem dX11_order_49 : decode cX11_order 49 = .ok (.ireturn, 1) := by decide +kernel
theorem dX11_arrange_0 : decode cX11_arrange 0 = .ok (.iload_n 1, 1) := by decide +kernel
theorem dX11_arrange_1 : decode cX11_arrange 1 = .ok (.aload_n 0, 1) := by decide +kernel
theorem dX11_arrange_2 : decode cX11_arrange 2 = .ok (.getfield 16, 3) := by decide +kernel
theorem dX11_arrange_5 : decode cX11_arrange 5 = .ok (.getfield 133, 3) := by decide +kernel
theorem dX11_arrange_8 : decode cX11_arrange 8 = .ok (.aload_n 0, 1) := by decide +kernel
theorem dX11_arrange_9 : decode cX11_arrange 9 = .ok (.getfield 48, 3) := by decide +kernel
theorem dX11_arrange_12 : decode cX11_arrange 12 = .ok (.getfield 221, 3) := by decide +kernel
theorem dX11_arrange_15 : decode cX11_arrange 15 = .ok (.invokestatic 214, 3) := by decide +kernel
theorem dX11_arrange_18 : decode cX11_arrange 18 = .ok (.ifCond .ne 5, 3) := by decide +kernel
theorem dX11_arrange_21 : decode cX11_arrange 21 = .ok (.iconst 0, 1) := by decide +kernel
theorem dX11_arrange_22 : decode cX11_arrange 22 = .ok (.ireturn, 1) := by decide +kernel
theorem dX11_arrange_23 : decode cX11_arrange 23 = .ok (.aload_n 0, 1) := by decide +kernel
theorem dX11_arrange_24 : decode cX11_arrange 24 = .ok (.getfield 48, 3) := by decide +kernel
theorem dX11_arrange_27 : decode cX11_arrange 27 = .ok (.invokevirtual 218, 3) := by decide +kernel
theorem dX11_arrange_30 : decode cX11_arrange 30 = .ok (.aload_n 0, 1) := by decide +kernel
theorem dX11_arrange_31 : decode cX11_arrange 31 = .ok (.bipush (-3), 2) := by decide +kernel
theorem dX11_arrange_33 : decode cX11_arrange 33 = .ok (.putfield 104, 3) := by decide +kernel
theorem dX11_arrange_36 : decode cX11_arrange 36 = .ok (.aload_n 0, 1) := by decide +kernel
theorem dX11_arrange_37 : decode cX11_arrange 37 = .ok (.invokevirtual 154, 3) := by decide +kernel
theorem dX11_arrange_40 : decode cX11_arrange 40 = .ok (.iconst 1, 1) := by decide +kernel
theorem dX11_arrange_41 : decode cX11_arrange 41 = .ok (.ireturn, 1) := by decide +kernel
theorem dX11_readTurns_0 : decode cX11_readTurns 0 = .ok (.iconst 0, 1) := by decide +kernel
theorem dX11_readTurns_1 : decode cX11_readTurns 1 = .ok (.istore_n 3, 1) := by decide +kernel
theorem dX11_readTurns_2 : decode cX11_readTurns 2 = .ok (.iconst 0, 1) := by decide +kernel
theorem dX11_readTurns_3 : decode cX11_readTurns 3 = .ok (.istore 4, 2) := by decide +kernel
theorem dX11_readTurns_5 : decode cX11_readTurns 5 = .ok (.iload 4, 2) := by decide +kernel
theorem dX11_readTurns_7 : decode cX11_readTurns 7 = .ok (.iload_n 1, 1) := by decide +kernel
theorem dX11_readTurns_8 : decode cX11_readTurns 8 = .ok (.if_icmp .ge 22, 3) := by decide +kernel
theorem dX11_readTurns_11 : decode cX11_readTurns 11 = .ok (.iload_n 3, 1) := by decide +kernel
theorem dX11_readTurns_12 : decode cX11_readTurns 12 = .ok (.iconst 1, 1) := by decide +kernel
theorem dX11_readTurns_13 : decode cX11_readTurns 13 = .ok (.iload_n 0, 1) := by decide +kernel
theorem dX11_readTurns_14 : decode cX11_readTurns 14 = .ok (.iconst 2, 1) := by decide +kernel
theorem dX11_readTurns_15 : decode cX11_readTurns 15 = .ok (.iload 4, 2) := by decide +kernel
theorem dX11_readTurns_17 : decode cX11_readTurns 17 = .ok (.imul, 1) := by decide +kernel
theorem dX11_readTurns_18 : decode cX11_readTurns 18 = .ok (.iushr, 1) := by decide +kernel
theorem dX11_readTurns_19 : decode cX11_readTurns 19 = .ok (.iconst 3, 1) := by decide +kernel
theorem dX11_readTurns_20 : decode cX11_readTurns 20 = .ok (.iand, 1) := by decide +kernel
theorem dX11_readTurns_21 : decode cX11_readTurns 21 = .ok (.ishl, 1) := by decide +kernel
theorem dX11_readTurns_22 : decode cX11_readTurns 22 = .ok (.ior, 1) := by decide +kernel
theorem dX11_readTurns_23 : decode cX11_readTurns 23 = .ok (.istore_n 3, 1) := by decide +kernel
theorem dX11_readTurns_24 : decode cX11_readTurns 24 = .ok (.iinc 4 1, 3) := by decide +kernel
theorem dX11_readTurns_27 : decode cX11_readTurns 27 = .ok (.goto (-22), 3) := by decide +kernel
theorem dX11_readTurns_30 : decode cX11_readTurns 30 = .ok (.iload_n 3, 1) := by decide +kernel
theorem dX11_readTurns_31 : decode cX11_readTurns 31 = .ok (.iconst 1, 1) := by decide +kernel
theorem dX11_readTurns_32 : decode cX11_readTurns 32 = .ok (.iload_n 1, 1) := by decide +kernel
theorem dX11_readTurns_33 : decode cX11_readTurns 33 = .ok (.ishl, 1) := by decide +kernel
theorem dX11_readTurns_34 : decode cX11_readTurns 34 = .ok (.iconst 1, 1) := by decide +kernel
theorem dX11_readTurns_35 : decode cX11_readTurns 35 = .ok (.isub, 1) := by decide +kernel
theorem dX11_readTurns_36 : decode cX11_readTurns 36 = .ok (.if_icmp .eq 5, 3) := by decide +kernel
theorem dX11_readTurns_39 : decode cX11_readTurns 39 = .ok (.iconst 0, 1) := by decide +kernel
theorem dX11_readTurns_40 : decode cX11_readTurns 40 = .ok (.ireturn, 1) := by decide +kernel
theorem dX11_readTurns_41 : decode cX11_readTurns 41 = .ok (.iconst 0, 1) := by decide +kernel
theorem dX11_readTurns_42 : decode cX11_readTurns 42 = .ok (.istore 4, 2) := by decide +kernel
theorem dX11_readTurns_44 : decode cX11_readTurns 44 = .ok (.iload 4, 2) := by decide +kernel
theorem dX11_readTurns_46 : decode cX11_readTurns 46 = .ok (.iload_n 1, 1) := by decide +kernel
theorem dX11_readTurns_47 : decode cX11_readTurns 47 = .ok (.if_icmp .ge 28, 3) := by decide +kernel
theorem dX11_readTurns_50 : decode cX11_readTurns 50 = .ok (.iload 4, 2) := by decide +kernel
theorem dX11_readTurns_52 : decode cX11_readTurns 52 = .ok (.aload_n 2, 1) := by decide +kernel
theorem dX11_readTurns_53 : decode cX11_readTurns 53 = .ok (.arraylength, 1) := by decide +kernel
theorem dX11_readTurns_54 : decode cX11_readTurns 54 = .ok (.if_icmp .ge 21, 3) := by decide +kernel
theorem dX11_readTurns_57 : decode cX11_readTurns 57 = .ok (.aload_n 2, 1) := by decide +kernel
theorem dX11_readTurns_58 : decode cX11_readTurns 58 = .ok (.iload 4, 2) := by decide +kernel
theorem dX11_readTurns_60 : decode cX11_readTurns 60 = .ok (.iload_n 0, 1) := by decide +kernel
theorem dX11_readTurns_61 : decode cX11_readTurns 61 = .ok (.iconst 2, 1) := by decide +kernel
theorem dX11_readTurns_62 : decode cX11_readTurns 62 = .ok (.iload 4, 2) := by decide +kernel
theorem dX11_readTurns_64 : decode cX11_readTurns 64 = .ok (.imul, 1) := by decide +kernel
theorem dX11_readTurns_65 : decode cX11_readTurns 65 = .ok (.iushr, 1) := by decide +kernel
theorem dX11_readTurns_66 : decode cX11_readTurns 66 = .ok (.iconst 3, 1) := by decide +kernel
theorem dX11_readTurns_67 : decode cX11_readTurns 67 = .ok (.iand, 1) := by decide +kernel
theorem dX11_readTurns_68 : decode cX11_readTurns 68 = .ok (.iastore, 1) := by decide +kernel
theorem dX11_readTurns_69 : decode cX11_readTurns 69 = .ok (.iinc 4 1, 3) := by decide +kernel
theorem dX11_readTurns_72 : decode cX11_readTurns 72 = .ok (.goto (-28), 3) := by decide +kernel
theorem dX11_readTurns_75 : decode cX11_readTurns 75 = .ok (.iconst 1, 1) := by decide +kernel
theorem dX11_readTurns_76 : decode cX11_readTurns 76 = .ok (.ireturn, 1) := by decide +kernel
theorem dX11_treeOfNow_0 : decode cX11_treeOfNow 0 = .ok (.aload_n 0, 1) := by decide +kernel
theorem dX11_treeOfNow_1 : decode cX11_treeOfNow 1 = .ok (.getfield 57, 3) := by decide +kernel
theorem dX11_treeOfNow_4 : decode cX11_treeOfNow 4 = .ok (.getfield 145, 3) := by decide +kernel
theorem dX11_treeOfNow_7 : decode cX11_treeOfNow 7 = .ok (.ifCond .ne 17, 3) := by decide +kernel
theorem dX11_treeOfNow_10 : decode cX11_treeOfNow 10 = .ok (.aload_n 0, 1) := by decide +kernel
theorem dX11_treeOfNow_11 : decode cX11_treeOfNow 11 = .ok (.getfield 57, 3) := by decide +kernel
theorem dX11_treeOfNow_14 : decode cX11_treeOfNow 14 = .ok (.aload_n 0, 1) := by decide +kernel
theorem dX11_treeOfNow_15 : decode cX11_treeOfNow 15 = .ok (.getfield 48, 3) := by decide +kernel
theorem dX11_treeOfNow_18 : decode cX11_treeOfNow 18 = .ok (.getfield 211, 3) := by decide +kernel
theorem dX11_treeOfNow_21 : decode cX11_treeOfNow 21 = .ok (.invokevirtual 224, 3) := by decide +kernel
theorem dX11_treeOfNow_24 : decode cX11_treeOfNow 24 = .ok (.aload_n 0, 1) := by decide +kernel
theorem dX11_treeOfNow_25 : decode cX11_treeOfNow 25 = .ok (.getfield 57, 3) := by decide +kernel
theorem dX11_treeOfNow_28 : decode cX11_treeOfNow 28 = .ok (.areturn, 1) := by decide +kernel
theorem dJ6_bitCount_0f7a4_0 : decode cJ6_bitCount_0f7a4 0 = .ok (.iload_n 0, 1) := by decide +kernel
theorem dJ6_bitCount_0f7a4_1 : decode cJ6_bitCount_0f7a4 1 = .ok (.iload_n 0, 1) := by decide +kernel
theorem dJ6_bitCount_0f7a4_2 : decode cJ6_bitCount_0f7a4 2 = .ok (.iconst 1, 1) := by decide +kernel
theorem dJ6_bitCount_0f7a4_3 : decode cJ6_bitCount_0f7a4 3 = .ok (.iushr, 1) := by decide +kernel
theorem dJ6_bitCount_0f7a4_4 : decode cJ6_bitCount_0f7a4 4 = .ok (.ldc_w 265, 3) := by decide +kernel
theorem dJ6_bitCount_0f7a4_7 : decode cJ6_bitCount_0f7a4 7 = .ok (.iand, 1) := by decide +kernel
theorem dJ6_bitCount_0f7a4_8 : decode cJ6_bitCount_0f7a4 8 = .ok (.isub, 1) := by decide +kernel
theorem dJ6_bitCount_0f7a4_9 : decode cJ6_bitCount_0f7a4 9 = .ok (.istore_n 0, 1) := by decide +kernel
theorem dJ6_bitCount_0f7a4_10 : decode cJ6_bitCount_0f7a4 10 = .ok (.iload_n 0, 1) := by decide +kernel
theorem dJ6_bitCount_0f7a4_11 : decode cJ6_bitCount_0f7a4 11 = .ok (.ldc_w 266, 3) := by decide +kernel
theorem dJ6_bitCount_0f7a4_14 : decode cJ6_bitCount_0f7a4 14 = .ok (.iand, 1) := by decide +kernel
theorem dJ6_bitCount_0f7a4_15 : decode cJ6_bitCount_0f7a4 15 = .ok (.iload_n 0, 1) := by decide +kernel
theorem dJ6_bitCount_0f7a4_16 : decode cJ6_bitCount_0f7a4 16 = .ok (.iconst 2, 1) := by decide +kernel
theorem dJ6_bitCount_0f7a4_17 : decode cJ6_bitCount_0f7a4 17 = .ok (.iushr, 1) := by decide +kernel
theorem dJ6_bitCount_0f7a4_18 : decode cJ6_bitCount_0f7a4 18 = .ok (.ldc_w 266, 3) := by decide +kernel
theorem dJ6_bitCount_0f7a4_21 : decode cJ6_bitCount_0f7a4 21 = .ok (.iand, 1) := by decide +kernel
theorem dJ6_bitCount_0f7a4_22 : decode cJ6_bitCount_0f7a4 22 = .ok (.iadd, 1) := by decide +kernel
theorem dJ6_bitCount_0f7a4_23 : decode cJ6_bitCount_0f7a4 23 = .ok (.istore_n 0, 1) := by decide +kernel
theorem dJ6_bitCount_0f7a4_24 : decode cJ6_bitCount_0f7a4 24 = .ok (.iload_n 0, 1) := by decide +kernel
theorem dJ6_bitCount_0f7a4_25 : decode cJ6_bitCount_0f7a4 25 = .ok (.iload_n 0, 1) := by decide +kernel
theorem dJ6_bitCount_0f7a4_26 : decode cJ6_bitCount_0f7a4 26 = .ok (.iconst 4, 1) := by decide +kernel
theorem dJ6_bitCount_0f7a4_27 : decode cJ6_bitCount_0f7a4 27 = .ok (.iushr, 1) := by decide +kernel
theorem dJ6_bitCount_0f7a4_28 : decode cJ6_bitCount_0f7a4 28 = .ok (.iadd, 1) := by decide +kernel
theorem dJ6_bitCount_0f7a4_29 : decode cJ6_bitCount_0f7a4 29 = .ok (.ldc_w 267, 3) := by decide +kernel
theorem dJ6_bitCount_0f7a4_32 : decode cJ6_bitCount_0f7a4 32 = .ok (.iand, 1) := by decide +kernel
theorem dJ6_bitCount_0f7a4_33 : decode cJ6_bitCount_0f7a4 33 = .ok (.istore_n 0, 1) := by decide +kernel
theorem dJ6_bitCount_0f7a4_34 : decode cJ6_bitCount_0f7a4 34 = .ok (.iload_n 0, 1) := by decide +kernel
theorem dJ6_bitCount_0f7a4_35 : decode cJ6_bitCount_0f7a4 35 = .ok (.iload_n 0, 1) := by decide +kernel
theorem dJ6_bitCount_0f7a4_36 : decode cJ6_bitCount_0f7a4 36 = .ok (.bipush 8, 2) := by decide +kernel
theorem dJ6_bitCount_0f7a4_38 : decode cJ6_bitCount_0f7a4 38 = .ok (.iushr, 1) := by decide +kernel
theorem dJ6_bitCount_0f7a4_39 : decode cJ6_bitCount_0f7a4 39 = .ok (.iadd, 1) := by decide +kernel
theorem dJ6_bitCount_0f7a4_40 : decode cJ6_bitCount_0f7a4 40 = .ok (.istore_n 0, 1) := by decide +kernel
theorem dJ6_bitCount_0f7a4_41 : decode cJ6_bitCount_0f7a4 41 = .ok (.iload_n 0, 1) := by decide +kernel
theorem dJ6_bitCount_0f7a4_42 : decode cJ6_bitCount_0f7a4 42 = .ok (.iload_n 0, 1) := by decide +kernel
theorem dJ6_bitCount_0f7a4_43 : decode cJ6_bitCount_0f7a4 43 = .ok (.bipush 16, 2) := by decide +kernel
theorem dJ6_bitCount_0f7a4_45 : decode cJ6_bitCount_0f7a4 45 = .ok (.iushr, 1) := by decide +kernel
theorem dJ6_bitCount_0f7a4_46 : decode cJ6_bitCount_0f7a4 46 = .ok (.iadd, 1) := by decide +kernel
theorem dJ6_bitCount_0f7a4_47 : decode cJ6_bitCount_0f7a4 47 = .ok (.istore_n 0, 1) := by decide +kernel
theorem dJ6_bitCount_0f7a4_48 : decode cJ6_bitCount_0f7a4 48 = .ok (.iload_n 0, 1) := by decide +kernel
theorem dJ6_bitCount_0f7a4_49 : decode cJ6_bitCount_0f7a4 49 = .ok (.bipush 63, 2) := by decide +kernel
theorem dJ6_bitCount_0f7a4_51 : decode cJ6_bitCount_0f7a4 51 = .ok (.iand, 1) := by decide +kernel
theorem dJ6_bitCount_0f7a4_52 : decode cJ6_bitCount_0f7a4 52 = .ok (.ireturn, 1) := by decide +kernel
theorem dJ7_rangeCheck_23922_0 : decode cJ7_rangeCheck_23922 0 = .ok (.iload_n 1, 1) := by decide +kernel
theorem dJ7_rangeCheck_23922_1 : decode cJ7_rangeCheck_23922 1 = .ok (.iload_n 2, 1) := by decide +kernel
theorem dJ7_rangeCheck_23922_2 : decode cJ7_rangeCheck_23922 2 = .ok (.if_icmp .le 44, 3) := by decide +kernel
theorem dJ7_rangeCheck_23922_46 : decode cJ7_rangeCheck_23922 46 = .ok (.iload_n 1, 1) := by decide +kernel
theorem dJ7_rangeCheck_23922_47 : decode cJ7_rangeCheck_23922 47 = .ok (.ifCond .ge 12, 3) := by decide +kernel
theorem dJ7_rangeCheck_23922_59 : decode cJ7_rangeCheck_23922 59 = .ok (.iload_n 2, 1) := by decide +kernel
theorem dJ7_rangeCheck_23922_60 : decode cJ7_rangeCheck_23922 60 = .ok (.iload_n 0, 1) := by decide +kernel
theorem dJ7_rangeCheck_23922_61 : decode cJ7_rangeCheck_23922 61 = .ok (.if_icmp .le 12, 3) := by decide +kernel
theorem dJ7_rangeCheck_23922_73 : decode cJ7_rangeCheck_23922 73 = .ok (.return_, 1) := by decide +kernel
theorem dJ7_fill_53178_0 : decode cJ7_fill_53178 0 = .ok (.iconst 0, 1) := by decide +kernel
theorem dJ7_fill_53178_1 : decode cJ7_fill_53178 1 = .ok (.istore_n 2, 1) := by decide +kernel
theorem dJ7_fill_53178_2 : decode cJ7_fill_53178 2 = .ok (.aload_n 0, 1) := by decide +kernel
theorem dJ7_fill_53178_3 : decode cJ7_fill_53178 3 = .ok (.arraylength, 1) := by decide +kernel
theorem dJ7_fill_53178_4 : decode cJ7_fill_53178 4 = .ok (.istore_n 3, 1) := by decide +kernel
theorem dJ7_fill_53178_5 : decode cJ7_fill_53178 5 = .ok (.iload_n 2, 1) := by decide +kernel
theorem dJ7_fill_53178_6 : decode cJ7_fill_53178 6 = .ok (.iload_n 3, 1) := by decide +kernel
theorem dJ7_fill_53178_7 : decode cJ7_fill_53178 7 = .ok (.if_icmp .ge 13, 3) := by decide +kernel
theorem dJ7_fill_53178_10 : decode cJ7_fill_53178 10 = .ok (.aload_n 0, 1) := by decide +kernel
theorem dJ7_fill_53178_11 : decode cJ7_fill_53178 11 = .ok (.iload_n 2, 1) := by decide +kernel
theorem dJ7_fill_53178_12 : decode cJ7_fill_53178 12 = .ok (.iload_n 1, 1) := by decide +kernel
theorem dJ7_fill_53178_13 : decode cJ7_fill_53178 13 = .ok (.iastore, 1) := by decide +kernel
theorem dJ7_fill_53178_14 : decode cJ7_fill_53178 14 = .ok (.iinc 2 1, 3) := by decide +kernel
theorem dJ7_fill_53178_17 : decode cJ7_fill_53178 17 = .ok (.goto (-12), 3) := by decide +kernel
theorem dJ7_fill_53178_20 : decode cJ7_fill_53178 20 = .ok (.return_, 1) := by decide +kernel
theorem dJ7_fill_fda19_0 : decode cJ7_fill_fda19 0 = .ok (.aload_n 0, 1) := by decide +kernel
theorem dJ7_fill_fda19_1 : decode cJ7_fill_fda19 1 = .ok (.arraylength, 1) := by decide +kernel
theorem dJ7_fill_fda19_2 : decode cJ7_fill_fda19 2 = .ok (.iload_n 1, 1) := by decide +kernel
theorem dJ7_fill_fda19_3 : decode cJ7_fill_fda19 3 = .ok (.iload_n 2, 1) := by decide +kernel
theorem dJ7_fill_fda19_4 : decode cJ7_fill_fda19 4 = .ok (.invokestatic 13, 3) := by decide +kernel
theorem dJ7_fill_fda19_7 : decode cJ7_fill_fda19 7 = .ok (.iload_n 1, 1) := by decide +kernel
theorem dJ7_fill_fda19_8 : decode cJ7_fill_fda19 8 = .ok (.istore 4, 2) := by decide +kernel
theorem dJ7_fill_fda19_10 : decode cJ7_fill_fda19 10 = .ok (.iload 4, 2) := by decide +kernel
theorem dJ7_fill_fda19_12 : decode cJ7_fill_fda19 12 = .ok (.iload_n 2, 1) := by decide +kernel
theorem dJ7_fill_fda19_13 : decode cJ7_fill_fda19 13 = .ok (.if_icmp .ge 14, 3) := by decide +kernel
theorem dJ7_fill_fda19_16 : decode cJ7_fill_fda19 16 = .ok (.aload_n 0, 1) := by decide +kernel
theorem dJ7_fill_fda19_17 : decode cJ7_fill_fda19 17 = .ok (.iload 4, 2) := by decide +kernel
theorem dJ7_fill_fda19_19 : decode cJ7_fill_fda19 19 = .ok (.iload_n 3, 1) := by decide +kernel
theorem dJ7_fill_fda19_20 : decode cJ7_fill_fda19 20 = .ok (.iastore, 1) := by decide +kernel
theorem dJ7_fill_fda19_21 : decode cJ7_fill_fda19 21 = .ok (.iinc 4 1, 3) := by decide +kernel
theorem dJ7_fill_fda19_24 : decode cJ7_fill_fda19 24 = .ok (.goto (-14), 3) := by decide +kernel
theorem dJ7_fill_fda19_27 : decode cJ7_fill_fda19 27 = .ok (.return_, 1) := by decide +kernel
