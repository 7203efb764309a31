theorem dX11_likeAnEarlierOne_2 : decode cX11_likeAnEarlierOne 2 = .ok (.iconst 0, 1) := by decide +kernel
theorem dX11_likeAnEarlierOne_3 : decode cX11_likeAnEarlierOne 3 = .ok (.istore_n 3, 1) := by decide +kernel
theorem dX11_likeAnEarlierOne_4 : decode cX11_likeAnEarlierOne 4 = .ok (.iload_n 3, 1) := by decide +kernel
theorem dX11_likeAnEarlierOne_5 : decode cX11_likeAnEarlierOne 5 = .ok (.aload_n 0, 1) := by decide +kernel
theorem dX11_likeAnEarlierOne_6 : decode cX11_likeAnEarlierOne 6 = .ok (.getfield 16, 3) := by decide +kernel
theorem dX11_likeAnEarlierOne_9 : decode cX11_likeAnEarlierOne 9 = .ok (.getfield 133, 3) := by decide +kernel
theorem dX11_likeAnEarlierOne_12 : decode cX11_likeAnEarlierOne 12 = .ok (.if_icmp .ge 35, 3) := by decide +kernel
theorem dX11_likeAnEarlierOne_15 : decode cX11_likeAnEarlierOne 15 = .ok (.aload_n 0, 1) := by decide +kernel
theorem dX11_likeAnEarlierOne_16 : decode cX11_likeAnEarlierOne 16 = .ok (.getfield 16, 3) := by decide +kernel
theorem dX11_likeAnEarlierOne_19 : decode cX11_likeAnEarlierOne 19 = .ok (.aload_n 1, 1) := by decide +kernel
theorem dX11_likeAnEarlierOne_20 : decode cX11_likeAnEarlierOne 20 = .ok (.iload_n 3, 1) := by decide +kernel
theorem dX11_likeAnEarlierOne_21 : decode cX11_likeAnEarlierOne 21 = .ok (.iaload, 1) := by decide +kernel
theorem dX11_likeAnEarlierOne_22 : decode cX11_likeAnEarlierOne 22 = .ok (.invokevirtual 390, 3) := by decide +kernel
theorem dX11_likeAnEarlierOne_25 : decode cX11_likeAnEarlierOne 25 = .ok (.ifCond .ne 16, 3) := by decide +kernel
theorem dX11_likeAnEarlierOne_28 : decode cX11_likeAnEarlierOne 28 = .ok (.aload_n 1, 1) := by decide +kernel
theorem dX11_likeAnEarlierOne_29 : decode cX11_likeAnEarlierOne 29 = .ok (.iload_n 3, 1) := by decide +kernel
theorem dX11_likeAnEarlierOne_30 : decode cX11_likeAnEarlierOne 30 = .ok (.iaload, 1) := by decide +kernel
theorem dX11_likeAnEarlierOne_31 : decode cX11_likeAnEarlierOne 31 = .ok (.iload_n 2, 1) := by decide +kernel
theorem dX11_likeAnEarlierOne_32 : decode cX11_likeAnEarlierOne 32 = .ok (.if_icmp .ge 5, 3) := by decide +kernel
theorem dX11_likeAnEarlierOne_35 : decode cX11_likeAnEarlierOne 35 = .ok (.iconst 1, 1) := by decide +kernel
theorem dX11_likeAnEarlierOne_36 : decode cX11_likeAnEarlierOne 36 = .ok (.ireturn, 1) := by decide +kernel
theorem dX11_likeAnEarlierOne_37 : decode cX11_likeAnEarlierOne 37 = .ok (.aload_n 1, 1) := by decide +kernel
theorem dX11_likeAnEarlierOne_38 : decode cX11_likeAnEarlierOne 38 = .ok (.iload_n 3, 1) := by decide +kernel
theorem dX11_likeAnEarlierOne_39 : decode cX11_likeAnEarlierOne 39 = .ok (.iaload, 1) := by decide +kernel
theorem dX11_likeAnEarlierOne_40 : decode cX11_likeAnEarlierOne 40 = .ok (.istore_n 2, 1) := by decide +kernel
theorem dX11_likeAnEarlierOne_41 : decode cX11_likeAnEarlierOne 41 = .ok (.iinc 3 1, 3) := by decide +kernel
theorem dX11_likeAnEarlierOne_44 : decode cX11_likeAnEarlierOne 44 = .ok (.goto (-40), 3) := by decide +kernel
theorem dX11_likeAnEarlierOne_47 : decode cX11_likeAnEarlierOne 47 = .ok (.iconst 0, 1) := by decide +kernel
theorem dX11_likeAnEarlierOne_48 : decode cX11_likeAnEarlierOne 48 = .ok (.ireturn, 1) := by decide +kernel
theorem dX11_apartByOrder_0 : decode cX11_apartByOrder 0 = .ok (.aload_n 0, 1) := by decide +kernel
theorem dX11_apartByOrder_1 : decode cX11_apartByOrder 1 = .ok (.getfield 64, 3) := by decide +kernel
theorem dX11_apartByOrder_4 : decode cX11_apartByOrder 4 = .ok (.aload_n 1, 1) := by decide +kernel
theorem dX11_apartByOrder_5 : decode cX11_apartByOrder 5 = .ok (.invokevirtual 224, 3) := by decide +kernel
theorem dX11_apartByOrder_8 : decode cX11_apartByOrder 8 = .ok (.aload_n 0, 1) := by decide +kernel
theorem dX11_apartByOrder_9 : decode cX11_apartByOrder 9 = .ok (.getfield 72, 3) := by decide +kernel
theorem dX11_apartByOrder_12 : decode cX11_apartByOrder 12 = .ok (.iconst 0, 1) := by decide +kernel
theorem dX11_apartByOrder_13 : decode cX11_apartByOrder 13 = .ok (.aload_n 0, 1) := by decide +kernel
theorem dX11_apartByOrder_14 : decode cX11_apartByOrder 14 = .ok (.getfield 48, 3) := by decide +kernel
theorem dX11_apartByOrder_17 : decode cX11_apartByOrder 17 = .ok (.getfield 221, 3) := by decide +kernel
theorem dX11_apartByOrder_20 : decode cX11_apartByOrder 20 = .ok (.invokevirtual 335, 3) := by decide +kernel
theorem dX11_apartByOrder_23 : decode cX11_apartByOrder 23 = .ok (.aload_n 0, 1) := by decide +kernel
theorem dX11_apartByOrder_24 : decode cX11_apartByOrder 24 = .ok (.getfield 72, 3) := by decide +kernel
theorem dX11_apartByOrder_27 : decode cX11_apartByOrder 27 = .ok (.aload_n 0, 1) := by decide +kernel
theorem dX11_apartByOrder_28 : decode cX11_apartByOrder 28 = .ok (.getfield 86, 3) := by decide +kernel
theorem dX11_apartByOrder_31 : decode cX11_apartByOrder 31 = .ok (.aload_n 0, 1) := by decide +kernel
theorem dX11_apartByOrder_32 : decode cX11_apartByOrder 32 = .ok (.getfield 64, 3) := by decide +kernel
theorem dX11_apartByOrder_35 : decode cX11_apartByOrder 35 = .ok (.invokevirtual 331, 3) := by decide +kernel
theorem dX11_apartByOrder_38 : decode cX11_apartByOrder 38 = .ok (.aload_n 0, 1) := by decide +kernel
theorem dX11_apartByOrder_39 : decode cX11_apartByOrder 39 = .ok (.aload_n 0, 1) := by decide +kernel
theorem dX11_apartByOrder_40 : decode cX11_apartByOrder 40 = .ok (.getfield 86, 3) := by decide +kernel
theorem dX11_apartByOrder_43 : decode cX11_apartByOrder 43 = .ok (.aload_n 2, 1) := by decide +kernel
theorem dX11_apartByOrder_44 : decode cX11_apartByOrder 44 = .ok (.invokevirtual 347, 3) := by decide +kernel
theorem dX11_apartByOrder_47 : decode cX11_apartByOrder 47 = .ok (.lreturn, 1) := by decide +kernel
theorem dX11_apartByArrangement_0 : decode cX11_apartByArrangement 0 = .ok (.aload_n 0, 1) := by decide +kernel
theorem dX11_apartByArrangement_1 : decode cX11_apartByArrangement 1 = .ok (.getfield 72, 3) := by decide +kernel
theorem dX11_apartByArrangement_4 : decode cX11_apartByArrangement 4 = .ok (.iconst 0, 1) := by decide +kernel
theorem dX11_apartByArrangement_5 : decode cX11_apartByArrangement 5 = .ok (.aload_n 1, 1) := by decide +kernel
theorem dX11_apartByArrangement_6 : decode cX11_apartByArrangement 6 = .ok (.invokevirtual 335, 3) := by decide +kernel
theorem dX11_apartByArrangement_9 : decode cX11_apartByArrangement 9 = .ok (.aload_n 0, 1) := by decide +kernel
theorem dX11_apartByArrangement_10 : decode cX11_apartByArrangement 10 = .ok (.getfield 72, 3) := by decide +kernel
theorem dX11_apartByArrangement_13 : decode cX11_apartByArrangement 13 = .ok (.aload_n 0, 1) := by decide +kernel
theorem dX11_apartByArrangement_14 : decode cX11_apartByArrangement 14 = .ok (.getfield 86, 3) := by decide +kernel
theorem dX11_apartByArrangement_17 : decode cX11_apartByArrangement 17 = .ok (.aload_n 0, 1) := by decide +kernel
theorem dX11_apartByArrangement_18 : decode cX11_apartByArrangement 18 = .ok (.invokevirtual 237, 3) := by decide +kernel
theorem dX11_apartByArrangement_21 : decode cX11_apartByArrangement 21 = .ok (.invokevirtual 331, 3) := by decide +kernel
theorem dX11_apartByArrangement_24 : decode cX11_apartByArrangement 24 = .ok (.aload_n 0, 1) := by decide +kernel
theorem dX11_apartByArrangement_25 : decode cX11_apartByArrangement 25 = .ok (.aload_n 0, 1) := by decide +kernel
theorem dX11_apartByArrangement_26 : decode cX11_apartByArrangement 26 = .ok (.getfield 86, 3) := by decide +kernel
theorem dX11_apartByArrangement_29 : decode cX11_apartByArrangement 29 = .ok (.aload_n 2, 1) := by decide +kernel
theorem dX11_apartByArrangement_30 : decode cX11_apartByArrangement 30 = .ok (.invokevirtual 347, 3) := by decide +kernel
theorem dX11_apartByArrangement_33 : decode cX11_apartByArrangement 33 = .ok (.lreturn, 1) := by decide +kernel
theorem dX11_sizeOfFarthest_0 : decode cX11_sizeOfFarthest 0 = .ok (.aload_n 0, 1) := by decide +kernel
theorem dX11_sizeOfFarthest_1 : decode cX11_sizeOfFarthest 1 = .ok (.aload_n 1, 1) := by decide +kernel
theorem dX11_sizeOfFarthest_2 : decode cX11_sizeOfFarthest 2 = .ok (.aload_n 2, 1) := by decide +kernel
theorem dX11_sizeOfFarthest_3 : decode cX11_sizeOfFarthest 3 = .ok (.invokevirtual 343, 3) := by decide +kernel
theorem dX11_sizeOfFarthest_6 : decode cX11_sizeOfFarthest 6 = .ok (.istore_n 3, 1) := by decide +kernel
theorem dX11_sizeOfFarthest_7 : decode cX11_sizeOfFarthest 7 = .ok (.iload_n 3, 1) := by decide +kernel
theorem dX11_sizeOfFarthest_8 : decode cX11_sizeOfFarthest 8 = .ok (.iconst (-1), 1) := by decide +kernel
theorem dX11_sizeOfFarthest_9 : decode cX11_sizeOfFarthest 9 = .ok (.if_icmp .ne 7, 3) := by decide +kernel
theorem dX11_sizeOfFarthest_12 : decode cX11_sizeOfFarthest 12 = .ok (.lconst 0, 1) := by decide +kernel
theorem dX11_sizeOfFarthest_13 : decode cX11_sizeOfFarthest 13 = .ok (.goto 19, 3) := by decide +kernel
theorem dX11_sizeOfFarthest_16 : decode cX11_sizeOfFarthest 16 = .ok (.aload_n 1, 1) := by decide +kernel
theorem dX11_sizeOfFarthest_17 : decode cX11_sizeOfFarthest 17 = .ok (.aload_n 2, 1) := by decide +kernel
theorem dX11_sizeOfFarthest_18 : decode cX11_sizeOfFarthest 18 = .ok (.iload_n 3, 1) := by decide +kernel
theorem dX11_sizeOfFarthest_19 : decode cX11_sizeOfFarthest 19 = .ok (.bipush 12, 2) := by decide +kernel
theorem dX11_sizeOfFarthest_21 : decode cX11_sizeOfFarthest 21 = .ok (.idiv, 1) := by decide +kernel
theorem dX11_sizeOfFarthest_22 : decode cX11_sizeOfFarthest 22 = .ok (.iload_n 3, 1) := by decide +kernel
theorem dX11_sizeOfFarthest_23 : decode cX11_sizeOfFarthest 23 = .ok (.bipush 12, 2) := by decide +kernel
theorem dX11_sizeOfFarthest_25 : decode cX11_sizeOfFarthest 25 = .ok (.irem, 1) := by decide +kernel
theorem dX11_sizeOfFarthest_26 : decode cX11_sizeOfFarthest 26 = .ok (.invokestatic 354, 3) := by decide +kernel
theorem dX11_sizeOfFarthest_29 : decode cX11_sizeOfFarthest 29 = .ok (.invokestatic 361, 3) := by decide +kernel
theorem dX11_sizeOfFarthest_32 : decode cX11_sizeOfFarthest 32 = .ok (.lreturn, 1) := by decide +kernel
theorem dX11_bitsOf_0 : decode cX11_bitsOf 0 = .ok (.iconst 0, 1) := by decide +kernel
theorem dX11_bitsOf_1 : decode cX11_bitsOf 1 = .ok (.istore_n 2, 1) := by decide +kernel
theorem dX11_bitsOf_2 : decode cX11_bitsOf 2 = .ok (.iconst 0, 1) := by decide +kernel
theorem dX11_bitsOf_3 : decode cX11_bitsOf 3 = .ok (.istore_n 3, 1) := by decide +kernel
theorem dX11_bitsOf_4 : decode cX11_bitsOf 4 = .ok (.iload_n 3, 1) := by decide +kernel
theorem dX11_bitsOf_5 : decode cX11_bitsOf 5 = .ok (.iload_n 1, 1) := by decide +kernel
theorem dX11_bitsOf_6 : decode cX11_bitsOf 6 = .ok (.if_icmp .ge 25, 3) := by decide +kernel
theorem dX11_bitsOf_9 : decode cX11_bitsOf 9 = .ok (.iload_n 3, 1) := by decide +kernel
theorem dX11_bitsOf_10 : decode cX11_bitsOf 10 = .ok (.aload_n 0, 1) := by decide +kernel
theorem dX11_bitsOf_11 : decode cX11_bitsOf 11 = .ok (.arraylength, 1) := by decide +kernel
theorem dX11_bitsOf_12 : decode cX11_bitsOf 12 = .ok (.if_icmp .ge 19, 3) := by decide +kernel
theorem dX11_bitsOf_15 : decode cX11_bitsOf 15 = .ok (.iload_n 2, 1) := by decide +kernel
theorem dX11_bitsOf_16 : decode cX11_bitsOf 16 = .ok (.aload_n 0, 1) := by decide +kernel
theorem dX11_bitsOf_17 : decode cX11_bitsOf 17 = .ok (.iload_n 3, 1) := by decide +kernel
theorem dX11_bitsOf_18 : decode cX11_bitsOf 18 = .ok (.iaload, 1) := by decide +kernel
theorem dX11_bitsOf_19 : decode cX11_bitsOf 19 = .ok (.iconst 2, 1) := by decide +kernel
theorem dX11_bitsOf_20 : decode cX11_bitsOf 20 = .ok (.iload_n 3, 1) := by decide +kernel
theorem dX11_bitsOf_21 : decode cX11_bitsOf 21 = .ok (.imul, 1) := by decide +kernel
theorem dX11_bitsOf_22 : decode cX11_bitsOf 22 = .ok (.ishl, 1) := by decide +kernel
theorem dX11_bitsOf_23 : decode cX11_bitsOf 23 = .ok (.ior, 1) := by decide +kernel
theorem dX11_bitsOf_24 : decode cX11_bitsOf 24 = .ok (.istore_n 2, 1) := by decide +kernel
theorem dX11_bitsOf_25 : decode cX11_bitsOf 25 = .ok (.iinc 3 1, 3) := by decide +kernel
theorem dX11_bitsOf_28 : decode cX11_bitsOf 28 = .ok (.goto (-24), 3) := by decide +kernel
theorem dX11_bitsOf_31 : decode cX11_bitsOf 31 = .ok (.iload_n 2, 1) := by decide +kernel
theorem dX11_bitsOf_32 : decode cX11_bitsOf 32 = .ok (.ireturn, 1) := by decide +kernel
theorem dX11_leads_0 : decode cX11_leads 0 = .ok (.aload_n 0, 1) := by decide +kernel
theorem dX11_leads_1 : decode cX11_leads 1 = .ok (.iload_n 1, 1) := by decide +kernel
theorem dX11_leads_2 : decode cX11_leads 2 = .ok (.invokevirtual 196, 3) := by decide +kernel
theorem dX11_leads_5 : decode cX11_leads 5 = .ok (.ifCond .eq 13, 3) := by decide +kernel
theorem dX11_leads_8 : decode cX11_leads 8 = .ok (.aload_n 0, 1) := by decide +kernel
theorem dX11_leads_9 : decode cX11_leads 9 = .ok (.getfield 41, 3) := by decide +kernel
theorem dX11_leads_12 : decode cX11_leads 12 = .ok (.getfield 169, 3) := by decide +kernel
theorem dX11_leads_15 : decode cX11_leads 15 = .ok (.ifCond .ne 5, 3) := by decide +kernel
theorem dX11_leads_18 : decode cX11_leads 18 = .ok (.iconst (-1), 1) := by decide +kernel
theorem dX11_leads_19 : decode cX11_leads 19 = .ok (.ireturn, 1) := by decide +kernel
theorem dX11_leads_20 : decode cX11_leads 20 = .ok (.aload_n 0, 1) := by decide +kernel
theorem dX11_leads_21 : decode cX11_leads 21 = .ok (.invokevirtual 237, 3) := by decide +kernel
theorem dX11_leads_24 : decode cX11_leads 24 = .ok (.astore_n 2, 1) := by decide +kernel
theorem dX11_leads_25 : decode cX11_leads 25 = .ok (.iconst 0, 1) := by decide +kernel
theorem dX11_leads_26 : decode cX11_leads 26 = .ok (.istore_n 3, 1) := by decide +kernel
theorem dX11_leads_27 : decode cX11_leads 27 = .ok (.iconst 0, 1) := by decide +kernel
theorem dX11_leads_28 : decode cX11_leads 28 = .ok (.istore 4, 2) := by decide +kernel
theorem dX11_leads_30 : decode cX11_leads 30 = .ok (.iconst 0, 1) := by decide +kernel
theorem dX11_leads_31 : decode cX11_leads 31 = .ok (.istore 5, 2) := by decide +kernel
theorem dX11_leads_33 : decode cX11_leads 33 = .ok (.iload 5, 2) := by decide +kernel
theorem dX11_leads_35 : decode cX11_leads 35 = .ok (.aload_n 0, 1) := by decide +kernel
theorem dX11_leads_36 : decode cX11_leads 36 = .ok (.getfield 16, 3) := by decide +kernel
theorem dX11_leads_39 : decode cX11_leads 39 = .ok (.getfield 208, 3) := by decide +kernel
theorem dX11_leads_42 : decode cX11_leads 42 = .ok (.if_icmp .ge 127, 3) := by decide +kernel
theorem dX11_leads_45 : decode cX11_leads 45 = .ok (.aload_n 0, 1) := by decide +kernel
theorem dX11_leads_46 : decode cX11_leads 46 = .ok (.getfield 41, 3) := by decide +kernel
theorem dX11_leads_49 : decode cX11_leads 49 = .ok (.iload_n 1, 1) := by decide +kernel
theorem dX11_leads_50 : decode cX11_leads 50 = .ok (.iload 5, 2) := by decide +kernel
theorem dX11_leads_52 : decode cX11_leads 52 = .ok (.invokevirtual 393, 3) := by decide +kernel
theorem dX11_leads_55 : decode cX11_leads 55 = .ok (.istore 6, 2) := by decide +kernel
theorem dX11_leads_57 : decode cX11_leads 57 = .ok (.aload_n 2, 1) := by decide +kernel
theorem dX11_leads_58 : decode cX11_leads 58 = .ok (.iload 5, 2) := by decide +kernel
theorem dX11_leads_60 : decode cX11_leads 60 = .ok (.iload 4, 2) := by decide +kernel
theorem dX11_leads_62 : decode cX11_leads 62 = .ok (.invokevirtual 247, 3) := by decide +kernel
theorem dX11_leads_65 : decode cX11_leads 65 = .ok (.istore 7, 2) := by decide +kernel
theorem dX11_leads_67 : decode cX11_leads 67 = .ok (.iconst 0, 1) := by decide +kernel
theorem dX11_leads_68 : decode cX11_leads 68 = .ok (.istore 8, 2) := by decide +kernel
theorem dX11_leads_70 : decode cX11_leads 70 = .ok (.iload 8, 2) := by decide +kernel
theorem dX11_leads_72 : decode cX11_leads 72 = .ok (.aload_n 0, 1) := by decide +kernel
theorem dX11_leads_73 : decode cX11_leads 73 = .ok (.getfield 16, 3) := by decide +kernel
theorem dX11_leads_76 : decode cX11_leads 76 = .ok (.getfield 133, 3) := by decide +kernel
theorem dX11_leads_79 : decode cX11_leads 79 = .ok (.if_icmp .ge 38, 3) := by decide +kernel
theorem dX11_leads_82 : decode cX11_leads 82 = .ok (.aload_n 0, 1) := by decide +kernel
theorem dX11_leads_83 : decode cX11_leads 83 = .ok (.getfield 32, 3) := by decide +kernel
theorem dX11_leads_86 : decode cX11_leads 86 = .ok (.iload 7, 2) := by decide +kernel
theorem dX11_leads_88 : decode cX11_leads 88 = .ok (.aload_n 0, 1) := by decide +kernel
theorem dX11_leads_89 : decode cX11_leads 89 = .ok (.getfield 32, 3) := by decide +kernel
theorem dX11_leads_92 : decode cX11_leads 92 = .ok (.iload 6, 2) := by decide +kernel
theorem dX11_leads_94 : decode cX11_leads 94 = .ok (.iload 8, 2) := by decide +kernel
theorem dX11_leads_96 : decode cX11_leads 96 = .ok (.invokevirtual 396, 3) := by decide +kernel
theorem dX11_leads_99 : decode cX11_leads 99 = .ok (.aload_n 0, 1) := by decide +kernel
theorem dX11_leads_100 : decode cX11_leads 100 = .ok (.getfield 48, 3) := by decide +kernel
theorem dX11_leads_103 : decode cX11_leads 103 = .ok (.getfield 221, 3) := by decide +kernel
theorem dX11_leads_106 : decode cX11_leads 106 = .ok (.invokevirtual 256, 3) := by decide +kernel
theorem dX11_leads_109 : decode cX11_leads 109 = .ok (.istore 7, 2) := by decide +kernel
theorem dX11_leads_111 : decode cX11_leads 111 = .ok (.iinc 8 1, 3) := by decide +kernel
theorem dX11_leads_114 : decode cX11_leads 114 = .ok (.goto (-44), 3) := by decide +kernel
theorem dX11_leads_117 : decode cX11_leads 117 = .ok (.iload 7, 2) := by decide +kernel
theorem dX11_leads_119 : decode cX11_leads 119 = .ok (.invokestatic 398, 3) := by decide +kernel
theorem dX11_leads_122 : decode cX11_leads 122 = .ok (.istore 8, 2) := by decide +kernel
theorem dX11_leads_124 : decode cX11_leads 124 = .ok (.iload_n 3, 1) := by decide +kernel
theorem dX11_leads_125 : decode cX11_leads 125 = .ok (.iload 8, 2) := by decide +kernel
theorem dX11_leads_127 : decode cX11_leads 127 = .ok (.aload_n 0, 1) := by decide +kernel
theorem dX11_leads_128 : decode cX11_leads 128 = .ok (.getfield 41, 3) := by decide +kernel
theorem dX11_leads_131 : decode cX11_leads 131 = .ok (.getfield 401, 3) := by decide +kernel
theorem dX11_leads_134 : decode cX11_leads 134 = .ok (.aload_n 0, 1) := by decide +kernel
theorem dX11_leads_135 : decode cX11_leads 135 = .ok (.getfield 48, 3) := by decide +kernel
theorem dX11_leads_138 : decode cX11_leads 138 = .ok (.getfield 211, 3) := by decide +kernel
theorem dX11_leads_141 : decode cX11_leads 141 = .ok (.iload 5, 2) := by decide +kernel
theorem dX11_leads_143 : decode cX11_leads 143 = .ok (.iaload, 1) := by decide +kernel
theorem dX11_leads_144 : decode cX11_leads 144 = .ok (.iaload, 1) := by decide +kernel
theorem dX11_leads_145 : decode cX11_leads 145 = .ok (.imul, 1) := by decide +kernel
theorem dX11_leads_146 : decode cX11_leads 146 = .ok (.iadd, 1) := by decide +kernel
theorem dX11_leads_147 : decode cX11_leads 147 = .ok (.istore_n 3, 1) := by decide +kernel
theorem dX11_leads_148 : decode cX11_leads 148 = .ok (.iload 4, 2) := by decide +kernel
theorem dX11_leads_150 : decode cX11_leads 150 = .ok (.aload_n 0, 1) := by decide +kernel
theorem dX11_leads_151 : decode cX11_leads 151 = .ok (.getfield 32, 3) := by decide +kernel
theorem dX11_leads_154 : decode cX11_leads 154 = .ok (.getfield 404, 3) := by decide +kernel
theorem dX11_leads_157 : decode cX11_leads 157 = .ok (.imul, 1) := by decide +kernel
theorem dX11_leads_158 : decode cX11_leads 158 = .ok (.iload 8, 2) := by decide +kernel
theorem dX11_leads_160 : decode cX11_leads 160 = .ok (.iadd, 1) := by decide +kernel
theorem dX11_leads_161 : decode cX11_leads 161 = .ok (.istore 4, 2) := by decide +kernel
theorem dX11_leads_163 : decode cX11_leads 163 = .ok (.iinc 5 1, 3) := by decide +kernel
theorem dX11_leads_166 : decode cX11_leads 166 = .ok (.goto (-133), 3) := by decide +kernel
theorem dX11_leads_169 : decode cX11_leads 169 = .ok (.iload_n 3, 1) := by decide +kernel
theorem dX11_leads_170 : decode cX11_leads 170 = .ok (.ireturn, 1) := by decide +kernel
theorem dX11_moves_0 : decode cX11_moves 0 = .ok (.aload_n 0, 1) := by decide +kernel
theorem dX11_moves_1 : decode cX11_moves 1 = .ok (.iload_n 1, 1) := by decide +kernel
theorem dX11_moves_2 : decode cX11_moves 2 = .ok (.invokevirtual 172, 3) := by decide +kernel
theorem dX11_moves_5 : decode cX11_moves 5 = .ok (.ifCond .eq 24, 3) := by decide +kernel
theorem dX11_moves_8 : decode cX11_moves 8 = .ok (.aload_n 0, 1) := by decide +kernel
theorem dX11_moves_9 : decode cX11_moves 9 = .ok (.iload_n 2, 1) := by decide +kernel
theorem dX11_moves_10 : decode cX11_moves 10 = .ok (.invokevirtual 186, 3) := by decide +kernel
theorem dX11_moves_13 : decode cX11_moves 13 = .ok (.ifCond .eq 16, 3) := by decide +kernel
theorem dX11_moves_16 : decode cX11_moves 16 = .ok (.aload_n 0, 1) := by decide +kernel
theorem dX11_moves_17 : decode cX11_moves 17 = .ok (.iload_n 3, 1) := by decide +kernel
theorem dX11_moves_18 : decode cX11_moves 18 = .ok (.invokevirtual 186, 3) := by decide +kernel
theorem dX11_moves_21 : decode cX11_moves 21 = .ok (.ifCond .eq 8, 3) := by decide +kernel
theorem dX11_moves_24 : decode cX11_moves 24 = .ok (.iload_n 2, 1) := by decide +kernel
theorem dX11_moves_25 : decode cX11_moves 25 = .ok (.iload_n 3, 1) := by decide +kernel
theorem dX11_moves_26 : decode cX11_moves 26 = .ok (.if_icmp .ne 7, 3) := by decide +kernel
theorem dX11_moves_29 : decode cX11_moves 29 = .ok (.ldc2_w 341, 3) := by decide +kernel
theorem dX11_moves_32 : decode cX11_moves 32 = .ok (.lreturn, 1) := by decide +kernel
theorem dX11_moves_33 : decode cX11_moves 33 = .ok (.aload_n 0, 1) := by decide +kernel
theorem dX11_moves_34 : decode cX11_moves 34 = .ok (.getfield 93, 3) := by decide +kernel
theorem dX11_moves_37 : decode cX11_moves 37 = .ok (.iconst (-1), 1) := by decide +kernel
theorem dX11_moves_38 : decode cX11_moves 38 = .ok (.iconst (-1), 1) := by decide +kernel
theorem dX11_moves_39 : decode cX11_moves 39 = .ok (.iload_n 2, 1) := by decide +kernel
theorem dX11_moves_40 : decode cX11_moves 40 = .ok (.iload_n 3, 1) := by decide +kernel
theorem dX11_moves_41 : decode cX11_moves 41 = .ok (.invokevirtual 407, 3) := by decide +kernel
theorem dX11_moves_44 : decode cX11_moves 44 = .ok (.lstore 4, 2) := by decide +kernel
theorem dX11_moves_46 : decode cX11_moves 46 = .ok (.aload_n 0, 1) := by decide +kernel
theorem dX11_moves_47 : decode cX11_moves 47 = .ok (.getfield 93, 3) := by decide +kernel
theorem dX11_moves_50 : decode cX11_moves 50 = .ok (.iload_n 1, 1) := by decide +kernel
theorem dX11_moves_51 : decode cX11_moves 51 = .ok (.iconst (-1), 1) := by decide +kernel
theorem dX11_moves_52 : decode cX11_moves 52 = .ok (.iload_n 2, 1) := by decide +kernel
theorem dX11_moves_53 : decode cX11_moves 53 = .ok (.iload_n 3, 1) := by decide +kernel
theorem dX11_moves_54 : decode cX11_moves 54 = .ok (.invokevirtual 407, 3) := by decide +kernel
theorem dX11_moves_57 : decode cX11_moves 57 = .ok (.lstore 6, 2) := by decide +kernel
theorem dX11_moves_59 : decode cX11_moves 59 = .ok (.lload 4, 2) := by decide +kernel
theorem dX11_moves_61 : decode cX11_moves 61 = .ok (.aload_n 0, 1) := by decide +kernel
theorem dX11_moves_62 : decode cX11_moves 62 = .ok (.getfield 41, 3) := by decide +kernel
theorem dX11_moves_65 : decode cX11_moves 65 = .ok (.getfield 176, 3) := by decide +kernel
theorem dX11_moves_68 : decode cX11_moves 68 = .ok (.iconst 1, 1) := by decide +kernel
theorem dX11_moves_69 : decode cX11_moves 69 = .ok (.iload_n 1, 1) := by decide +kernel
theorem dX11_moves_70 : decode cX11_moves 70 = .ok (.ishl, 1) := by decide +kernel
theorem dX11_moves_71 : decode cX11_moves 71 = .ok (.iaload, 1) := by decide +kernel
theorem dX11_moves_72 : decode cX11_moves 72 = .ok (.i2l, 1) := by decide +kernel
theorem dX11_moves_73 : decode cX11_moves 73 = .ok (.lmul, 1) := by decide +kernel
theorem dX11_moves_74 : decode cX11_moves 74 = .ok (.lload 6, 2) := by decide +kernel
theorem dX11_moves_76 : decode cX11_moves 76 = .ok (.aload_n 0, 1) := by decide +kernel
theorem dX11_moves_77 : decode cX11_moves 77 = .ok (.getfield 41, 3) := by decide +kernel
theorem dX11_moves_80 : decode cX11_moves 80 = .ok (.getfield 169, 3) := by decide +kernel
theorem dX11_moves_83 : decode cX11_moves 83 = .ok (.i2l, 1) := by decide +kernel
theorem dX11_moves_84 : decode cX11_moves 84 = .ok (.lmul, 1) := by decide +kernel
theorem dX11_moves_85 : decode cX11_moves 85 = .ok (.lsub, 1) := by decide +kernel
theorem dX11_moves_86 : decode cX11_moves 86 = .ok (.lreturn, 1) := by decide +kernel
theorem dX11_leave_0 : decode cX11_leave 0 = .ok (.iload_n 1, 1) := by decide +kernel
theorem dX11_leave_1 : decode cX11_leave 1 = .ok (.ifCond .lt 9, 3) := by decide +kernel
theorem dX11_leave_4 : decode cX11_leave 4 = .ok (.iload_n 1, 1) := by decide +kernel
theorem dX11_leave_5 : decode cX11_leave 5 = .ok (.bipush 100, 2) := by decide +kernel
theorem dX11_leave_7 : decode cX11_leave 7 = .ok (.if_icmp .le 5, 3) := by decide +kernel
theorem dX11_leave_10 : decode cX11_leave 10 = .ok (.iconst (-1), 1) := by decide +kernel
theorem dX11_leave_11 : decode cX11_leave 11 = .ok (.ireturn, 1) := by decide +kernel
theorem dX11_leave_12 : decode cX11_leave 12 = .ok (.aload_n 0, 1) := by decide +kernel
theorem dX11_leave_13 : decode cX11_leave 13 = .ok (.getfield 93, 3) := by decide +kernel
theorem dX11_leave_16 : decode cX11_leave 16 = .ok (.iconst (-1), 1) := by decide +kernel
theorem dX11_leave_17 : decode cX11_leave 17 = .ok (.iconst (-1), 1) := by decide +kernel
theorem dX11_leave_18 : decode cX11_leave 18 = .ok (.iload_n 1, 1) := by decide +kernel
theorem dX11_leave_19 : decode cX11_leave 19 = .ok (.invokevirtual 411, 3) := by decide +kernel
theorem dX11_leave_22 : decode cX11_leave 22 = .ok (.ifCond .eq 5, 3) := by decide +kernel
theorem dX11_leave_25 : decode cX11_leave 25 = .ok (.iconst 0, 1) := by decide +kernel
theorem dX11_leave_26 : decode cX11_leave 26 = .ok (.ireturn, 1) := by decide +kernel
theorem dX11_leave_27 : decode cX11_leave 27 = .ok (.iconst 0, 1) := by decide +kernel
theorem dX11_leave_28 : decode cX11_leave 28 = .ok (.istore_n 2, 1) := by decide +kernel
theorem dX11_leave_29 : decode cX11_leave 29 = .ok (.iload_n 2, 1) := by decide +kernel
theorem dX11_leave_30 : decode cX11_leave 30 = .ok (.aload_n 0, 1) := by decide +kernel
theorem dX11_leave_31 : decode cX11_leave 31 = .ok (.getfield 16, 3) := by decide +kernel
theorem dX11_leave_34 : decode cX11_leave 34 = .ok (.getfield 179, 3) := by decide +kernel
theorem dX11_leave_37 : decode cX11_leave 37 = .ok (.if_icmp .ge 26, 3) := by decide +kernel
theorem dX11_leave_40 : decode cX11_leave 40 = .ok (.aload_n 0, 1) := by decide +kernel
theorem dX11_leave_41 : decode cX11_leave 41 = .ok (.getfield 93, 3) := by decide +kernel
theorem dX11_leave_44 : decode cX11_leave 44 = .ok (.iload_n 2, 1) := by decide +kernel
theorem dX11_leave_45 : decode cX11_leave 45 = .ok (.iconst (-1), 1) := by decide +kernel
theorem dX11_leave_46 : decode cX11_leave 46 = .ok (.iload_n 1, 1) := by decide +kernel
theorem dX11_leave_47 : decode cX11_leave 47 = .ok (.invokevirtual 411, 3) := by decide +kernel
theorem dX11_leave_50 : decode cX11_leave 50 = .ok (.ifCond .eq 7, 3) := by decide +kernel
theorem dX11_leave_53 : decode cX11_leave 53 = .ok (.iconst 1, 1) := by decide +kernel
theorem dX11_leave_54 : decode cX11_leave 54 = .ok (.iload_n 2, 1) := by decide +kernel
theorem dX11_leave_55 : decode cX11_leave 55 = .ok (.ishl, 1) := by decide +kernel
theorem dX11_leave_56 : decode cX11_leave 56 = .ok (.ireturn, 1) := by decide +kernel
theorem dX11_leave_57 : decode cX11_leave 57 = .ok (.iinc 2 1, 3) := by decide +kernel
theorem dX11_leave_60 : decode cX11_leave 60 = .ok (.goto (-31), 3) := by decide +kernel
theorem dX11_leave_63 : decode cX11_leave 63 = .ok (.iconst 1, 1) := by decide +kernel
theorem dX11_leave_64 : decode cX11_leave 64 = .ok (.istore_n 2, 1) := by decide +kernel
theorem dX11_leave_65 : decode cX11_leave 65 = .ok (.iload_n 2, 1) := by decide +kernel
theorem dX11_leave_66 : decode cX11_leave 66 = .ok (.aload_n 0, 1) := by decide +kernel
theorem dX11_leave_67 : decode cX11_leave 67 = .ok (.getfield 16, 3) := by decide +kernel
theorem dX11_leave_70 : decode cX11_leave 70 = .ok (.getfield 179, 3) := by decide +kernel
theorem dX11_leave_73 : decode cX11_leave 73 = .ok (.if_icmp .ge 43, 3) := by decide +kernel
theorem dX11_leave_76 : decode cX11_leave 76 = .ok (.iconst 0, 1) := by decide +kernel
theorem dX11_leave_77 : decode cX11_leave 77 = .ok (.istore_n 3, 1) := by decide +kernel
theorem dX11_leave_78 : decode cX11_leave 78 = .ok (.iload_n 3, 1) := by decide +kernel
theorem dX11_leave_79 : decode cX11_leave 79 = .ok (.iload_n 2, 1) := by decide +kernel
theorem dX11_leave_80 : decode cX11_leave 80 = .ok (.if_icmp .ge 30, 3) := by decide +kernel
theorem dX11_leave_83 : decode cX11_leave 83 = .ok (.aload_n 0, 1) := by decide +kernel
theorem dX11_leave_84 : decode cX11_leave 84 = .ok (.getfield 93, 3) := by decide +kernel
theorem dX11_leave_87 : decode cX11_leave 87 = .ok (.iload_n 3, 1) := by decide +kernel
theorem dX11_leave_88 : decode cX11_leave 88 = .ok (.iload_n 2, 1) := by decide +kernel
theorem dX11_leave_89 : decode cX11_leave 89 = .ok (.iload_n 1, 1) := by decide +kernel
theorem dX11_leave_90 : decode cX11_leave 90 = .ok (.invokevirtual 411, 3) := by decide +kernel
theorem dX11_leave_93 : decode cX11_leave 93 = .ok (.ifCond .eq 11, 3) := by decide +kernel
theorem dX11_leave_96 : decode cX11_leave 96 = .ok (.iconst 1, 1) := by decide +kernel
theorem dX11_leave_97 : decode cX11_leave 97 = .ok (.iload_n 2, 1) := by decide +kernel
theorem dX11_leave_98 : decode cX11_leave 98 = .ok (.ishl, 1) := by decide +kernel
theorem dX11_leave_99 : decode cX11_leave 99 = .ok (.iconst 1, 1) := by decide +kernel
theorem dX11_leave_100 : decode cX11_leave 100 = .ok (.iload_n 3, 1) := by decide +kernel
theorem dX11_leave_101 : decode cX11_leave 101 = .ok (.ishl, 1) := by decide +kernel
theorem dX11_leave_102 : decode cX11_leave 102 = .ok (.ior, 1) := by decide +kernel
theorem dX11_leave_103 : decode cX11_leave 103 = .ok (.ireturn, 1) := by decide +kernel
theorem dX11_leave_104 : decode cX11_leave 104 = .ok (.iinc 3 1, 3) := by decide +kernel
theorem dX11_leave_107 : decode cX11_leave 107 = .ok (.goto (-29), 3) := by decide +kernel
theorem dX11_leave_110 : decode cX11_leave 110 = .ok (.iinc 2 1, 3) := by decide +kernel
theorem dX11_leave_113 : decode cX11_leave 113 = .ok (.goto (-48), 3) := by decide +kernel
theorem dX11_leave_116 : decode cX11_leave 116 = .ok (.iconst (-1), 1) := by decide +kernel
theorem dX11_leave_117 : decode cX11_leave 117 = .ok (.ireturn, 1) := by decide +kernel
theorem dX11_parts_0 : decode cX11_parts 0 = .ok (.iload_n 1, 1) := by decide +kernel
theorem dX11_parts_1 : decode cX11_parts 1 = .ok (.tableswitch 51 0 2 #[27, 35, 43], 27) := by decide +kernel
theorem dX11_parts_28 : decode cX11_parts 28 = .ok (.aload_n 0, 1) := by decide +kernel
theorem dX11_parts_29 : decode cX11_parts 29 = .ok (.getfield 100, 3) := by decide +kernel
theorem dX11_parts_32 : decode cX11_parts 32 = .ok (.invokevirtual 415, 3) := by decide +kernel
theorem dX11_parts_35 : decode cX11_parts 35 = .ok (.ireturn, 1) := by decide +kernel
theorem dX11_parts_36 : decode cX11_parts 36 = .ok (.aload_n 0, 1) := by decide +kernel
theorem dX11_parts_37 : decode cX11_parts 37 = .ok (.getfield 100, 3) := by decide +kernel
theorem dX11_parts_40 : decode cX11_parts 40 = .ok (.invokevirtual 418, 3) := by decide +kernel
theorem dX11_parts_43 : decode cX11_parts 43 = .ok (.ireturn, 1) := by decide +kernel
theorem dX11_parts_44 : decode cX11_parts 44 = .ok (.aload_n 0, 1) := by decide +kernel
theorem dX11_parts_45 : decode cX11_parts 45 = .ok (.getfield 100, 3) := by decide +kernel
theorem dX11_parts_48 : decode cX11_parts 48 = .ok (.invokevirtual 421, 3) := by decide +kernel
theorem dX11_parts_51 : decode cX11_parts 51 = .ok (.ireturn, 1) := by decide +kernel
theorem dX11_parts_52 : decode cX11_parts 52 = .ok (.iconst (-1), 1) := by decide +kernel
theorem dX11_parts_53 : decode cX11_parts 53 = .ok (.ireturn, 1) := by decide +kernel
theorem dX11_mix_0 : decode cX11_mix 0 = .ok (.iload_n 1, 1) := by decide +kernel
theorem dX11_mix_1 : decode cX11_mix 1 = .ok (.ifCond .lt 26, 3) := by decide +kernel
theorem dX11_mix_4 : decode cX11_mix 4 = .ok (.iload_n 1, 1) := by decide +kernel
theorem dX11_mix_5 : decode cX11_mix 5 = .ok (.iconst 5, 1) := by decide +kernel
theorem dX11_mix_6 : decode cX11_mix 6 = .ok (.if_icmp .gt 21, 3) := by decide +kernel
theorem dX11_mix_9 : decode cX11_mix 9 = .ok (.aload_n 0, 1) := by decide +kernel
theorem dX11_mix_10 : decode cX11_mix 10 = .ok (.iload_n 2, 1) := by decide +kernel
theorem dX11_mix_11 : decode cX11_mix 11 = .ok (.invokevirtual 196, 3) := by decide +kernel
theorem dX11_mix_14 : decode cX11_mix 14 = .ok (.ifCond .eq 13, 3) := by decide +kernel
theorem dX11_mix_17 : decode cX11_mix 17 = .ok (.aload_n 0, 1) := by decide +kernel
theorem dX11_mix_18 : decode cX11_mix 18 = .ok (.getfield 41, 3) := by decide +kernel
theorem dX11_mix_21 : decode cX11_mix 21 = .ok (.getfield 169, 3) := by decide +kernel
theorem dX11_mix_24 : decode cX11_mix 24 = .ok (.ifCond .ne 5, 3) := by decide +kernel
theorem dX11_mix_27 : decode cX11_mix 27 = .ok (.iconst (-1), 1) := by decide +kernel
theorem dX11_mix_28 : decode cX11_mix 28 = .ok (.ireturn, 1) := by decide +kernel
theorem dX11_mix_29 : decode cX11_mix 29 = .ok (.aload_n 0, 1) := by decide +kernel
theorem dX11_mix_30 : decode cX11_mix 30 = .ok (.getfield 100, 3) := by decide +kernel
theorem dX11_mix_33 : decode cX11_mix 33 = .ok (.iload_n 1, 1) := by decide +kernel
theorem dX11_mix_34 : decode cX11_mix 34 = .ok (.iload_n 2, 1) := by decide +kernel
theorem dX11_mix_35 : decode cX11_mix 35 = .ok (.invokevirtual 424, 3) := by decide +kernel
theorem dX11_mix_38 : decode cX11_mix 38 = .ok (.ireturn, 1) := by decide +kernel
theorem dX11_mixed_0 : decode cX11_mixed 0 = .ok (.iload_n 1, 1) := by decide +kernel
theorem dX11_mixed_1 : decode cX11_mixed 1 = .ok (.ifCond .lt 18, 3) := by decide +kernel
theorem dX11_mixed_4 : decode cX11_mixed 4 = .ok (.iload_n 1, 1) := by decide +kernel
theorem dX11_mixed_5 : decode cX11_mixed 5 = .ok (.iconst 5, 1) := by decide +kernel
theorem dX11_mixed_6 : decode cX11_mixed 6 = .ok (.if_icmp .gt 13, 3) := by decide +kernel
theorem dX11_mixed_9 : decode cX11_mixed 9 = .ok (.aload_n 0, 1) := by decide +kernel
theorem dX11_mixed_10 : decode cX11_mixed 10 = .ok (.getfield 41, 3) := by decide +kernel
theorem dX11_mixed_13 : decode cX11_mixed 13 = .ok (.getfield 169, 3) := by decide +kernel
theorem dX11_mixed_16 : decode cX11_mixed 16 = .ok (.ifCond .ne 7, 3) := by decide +kernel
theorem dX11_mixed_19 : decode cX11_mixed 19 = .ok (.ldc2_w 298, 3) := by decide +kernel
theorem dX11_mixed_22 : decode cX11_mixed 22 = .ok (.lreturn, 1) := by decide +kernel
theorem dX11_mixed_23 : decode cX11_mixed 23 = .ok (.iload_n 2, 1) := by decide +kernel
theorem dX11_mixed_24 : decode cX11_mixed 24 = .ok (.ifCond .ne 12, 3) := by decide +kernel
theorem dX11_mixed_27 : decode cX11_mixed 27 = .ok (.aload_n 0, 1) := by decide +kernel
theorem dX11_mixed_28 : decode cX11_mixed 28 = .ok (.getfield 100, 3) := by decide +kernel
theorem dX11_mixed_31 : decode cX11_mixed 31 = .ok (.iload_n 1, 1) := by decide +kernel
theorem dX11_mixed_32 : decode cX11_mixed 32 = .ok (.invokevirtual 427, 3) := by decide +kernel
theorem dX11_mixed_35 : decode cX11_mixed 35 = .ok (.lreturn, 1) := by decide +kernel
theorem dX11_mixed_36 : decode cX11_mixed 36 = .ok (.iload_n 2, 1) := by decide +kernel
theorem dX11_mixed_37 : decode cX11_mixed 37 = .ok (.iconst 1, 1) := by decide +kernel
theorem dX11_mixed_38 : decode cX11_mixed 38 = .ok (.if_icmp .ne 23, 3) := by decide +kernel
theorem dX11_mixed_41 : decode cX11_mixed 41 = .ok (.aload_n 0, 1) := by decide +kernel
theorem dX11_mixed_42 : decode cX11_mixed 42 = .ok (.getfield 100, 3) := by decide +kernel
theorem dX11_mixed_45 : decode cX11_mixed 45 = .ok (.iload_n 1, 1) := by decide +kernel
theorem dX11_mixed_46 : decode cX11_mixed 46 = .ok (.invokevirtual 431, 3) := by decide +kernel
theorem dX11_mixed_49 : decode cX11_mixed 49 = .ok (.aload_n 0, 1) := by decide +kernel
theorem dX11_mixed_50 : decode cX11_mixed 50 = .ok (.getfield 41, 3) := by decide +kernel
theorem dX11_mixed_53 : decode cX11_mixed 53 = .ok (.getfield 169, 3) := by decide +kernel
theorem dX11_mixed_56 : decode cX11_mixed 56 = .ok (.i2l, 1) := by decide +kernel
theorem dX11_mixed_57 : decode cX11_mixed 57 = .ok (.lmul, 1) := by decide +kernel
theorem dX11_mixed_58 : decode cX11_mixed 58 = .ok (.goto 6, 3) := by decide +kernel
theorem dX11_mixed_61 : decode cX11_mixed 61 = .ok (.ldc2_w 298, 3) := by decide +kernel
theorem dX11_mixed_64 : decode cX11_mixed 64 = .ok (.lreturn, 1) := by decide +kernel
theorem dX11_run_0 : decode cX11_run 0 = .ok (.iload_n 1, 1) := by decide +kernel
theorem dX11_run_1 : decode cX11_run 1 = .ok (.ifCond .lt 21, 3) := by decide +kernel
theorem dX11_run_4 : decode cX11_run 4 = .ok (.aload_n 0, 1) := by decide +kernel
theorem dX11_run_5 : decode cX11_run 5 = .ok (.iload_n 2, 1) := by decide +kernel
theorem dX11_run_6 : decode cX11_run 6 = .ok (.invokevirtual 186, 3) := by decide +kernel
theorem dX11_run_9 : decode cX11_run 9 = .ok (.ifCond .eq 13, 3) := by decide +kernel
theorem dX11_run_12 : decode cX11_run 12 = .ok (.aload_n 0, 1) := by decide +kernel
theorem dX11_run_13 : decode cX11_run 13 = .ok (.getfield 41, 3) := by decide +kernel
theorem dX11_run_16 : decode cX11_run 16 = .ok (.getfield 169, 3) := by decide +kernel
theorem dX11_run_19 : decode cX11_run 19 = .ok (.ifCond .ne 5, 3) := by decide +kernel
theorem dX11_run_22 : decode cX11_run 22 = .ok (.iconst (-1), 1) := by decide +kernel
theorem dX11_run_23 : decode cX11_run 23 = .ok (.ireturn, 1) := by decide +kernel
theorem dX11_run_24 : decode cX11_run 24 = .ok (.aload_n 0, 1) := by decide +kernel
theorem dX11_run_25 : decode cX11_run 25 = .ok (.getfield 61, 3) := by decide +kernel
theorem dX11_run_28 : decode cX11_run 28 = .ok (.getfield 145, 3) := by decide +kernel
theorem dX11_run_31 : decode cX11_run 31 = .ok (.ifCond .ne 13, 3) := by decide +kernel
theorem dX11_run_34 : decode cX11_run 34 = .ok (.aload_n 0, 1) := by decide +kernel
theorem dX11_run_35 : decode cX11_run 35 = .ok (.getfield 61, 3) := by decide +kernel
theorem dX11_run_38 : decode cX11_run 38 = .ok (.getstatic 434, 3) := by decide +kernel
theorem dX11_run_41 : decode cX11_run 41 = .ok (.invokevirtual 224, 3) := by decide +kernel
theorem dX11_run_44 : decode cX11_run 44 = .ok (.aload_n 0, 1) := by decide +kernel
theorem dX11_run_45 : decode cX11_run 45 = .ok (.getfield 16, 3) := by decide +kernel
theorem dX11_run_48 : decode cX11_run 48 = .ok (.iload_n 2, 1) := by decide +kernel
theorem dX11_run_49 : decode cX11_run 49 = .ok (.invokevirtual 230, 3) := by decide +kernel
theorem dX11_run_52 : decode cX11_run 52 = .ok (.istore_n 3, 1) := by decide +kernel
theorem dX11_run_53 : decode cX11_run 53 = .ok (.iload_n 1, 1) := by decide +kernel
theorem dX11_run_54 : decode cX11_run 54 = .ok (.istore 4, 2) := by decide +kernel
theorem dX11_run_56 : decode cX11_run 56 = .ok (.iconst 0, 1) := by decide +kernel
theorem dX11_run_57 : decode cX11_run 57 = .ok (.istore 5, 2) := by decide +kernel
theorem dX11_run_59 : decode cX11_run 59 = .ok (.iconst 0, 1) := by decide +kernel
theorem dX11_run_60 : decode cX11_run 60 = .ok (.istore 6, 2) := by decide +kernel
theorem dX11_run_62 : decode cX11_run 62 = .ok (.iconst 0, 1) := by decide +kernel
theorem dX11_run_63 : decode cX11_run 63 = .ok (.istore 7, 2) := by decide +kernel
theorem dX11_run_65 : decode cX11_run 65 = .ok (.iload 7, 2) := by decide +kernel
theorem dX11_run_67 : decode cX11_run 67 = .ok (.iload_n 3, 1) := by decide +kernel
theorem dX11_run_68 : decode cX11_run 68 = .ok (.if_icmp .gt 122, 3) := by decide +kernel
theorem dX11_run_71 : decode cX11_run 71 = .ok (.aload_n 0, 1) := by decide +kernel
theorem dX11_run_72 : decode cX11_run 72 = .ok (.getfield 61, 3) := by decide +kernel
theorem dX11_run_75 : decode cX11_run 75 = .ok (.iload 7, 2) := by decide +kernel
theorem dX11_run_77 : decode cX11_run 77 = .ok (.iload 5, 2) := by decide +kernel
theorem dX11_run_79 : decode cX11_run 79 = .ok (.invokevirtual 247, 3) := by decide +kernel
theorem dX11_run_82 : decode cX11_run 82 = .ok (.istore 6, 2) := by decide +kernel
theorem dX11_run_84 : decode cX11_run 84 = .ok (.iconst 1, 1) := by decide +kernel
theorem dX11_run_85 : decode cX11_run 85 = .ok (.aload_n 0, 1) := by decide +kernel
theorem dX11_run_86 : decode cX11_run 86 = .ok (.getfield 16, 3) := by decide +kernel
theorem dX11_run_89 : decode cX11_run 89 = .ok (.getfield 133, 3) := by decide +kernel
theorem dX11_run_92 : decode cX11_run 92 = .ok (.ishl, 1) := by decide +kernel
theorem dX11_run_93 : decode cX11_run 93 = .ok (.iconst 1, 1) := by decide +kernel
theorem dX11_run_94 : decode cX11_run 94 = .ok (.isub, 1) := by decide +kernel
theorem dX11_run_95 : decode cX11_run 95 = .ok (.istore 8, 2) := by decide +kernel
theorem dX11_run_97 : decode cX11_run 97 = .ok (.aload_n 0, 1) := by decide +kernel
theorem dX11_run_98 : decode cX11_run 98 = .ok (.getfield 16, 3) := by decide +kernel
theorem dX11_run_101 : decode cX11_run 101 = .ok (.getfield 133, 3) := by decide +kernel
theorem dX11_run_104 : decode cX11_run 104 = .ok (.istore 9, 2) := by decide +kernel
theorem dX11_run_106 : decode cX11_run 106 = .ok (.iload 9, 2) := by decide +kernel
theorem dX11_run_108 : decode cX11_run 108 = .ok (.ifCond .le 58, 3) := by decide +kernel
theorem dX11_run_111 : decode cX11_run 111 = .ok (.iload 4, 2) := by decide +kernel
theorem dX11_run_113 : decode cX11_run 113 = .ok (.invokestatic 437, 3) := by decide +kernel
theorem dX11_run_116 : decode cX11_run 116 = .ok (.istore 4, 2) := by decide +kernel
theorem dX11_run_118 : decode cX11_run 118 = .ok (.iload 8, 2) := by decide +kernel
theorem dX11_run_120 : decode cX11_run 120 = .ok (.iload 4, 2) := by decide +kernel
theorem dX11_run_122 : decode cX11_run 122 = .ok (.bipush 16, 2) := by decide +kernel
theorem dX11_run_124 : decode cX11_run 124 = .ok (.iushr, 1) := by decide +kernel
theorem dX11_run_125 : decode cX11_run 125 = .ok (.iload 9, 2) := by decide +kernel
theorem dX11_run_127 : decode cX11_run 127 = .ok (.irem, 1) := by decide +kernel
theorem dX11_run_128 : decode cX11_run 128 = .ok (.invokestatic 440, 3) := by decide +kernel
theorem dX11_run_131 : decode cX11_run 131 = .ok (.istore 10, 2) := by decide +kernel
theorem dX11_run_133 : decode cX11_run 133 = .ok (.iload 8, 2) := by decide +kernel
theorem dX11_run_135 : decode cX11_run 135 = .ok (.iconst 1, 1) := by decide +kernel
theorem dX11_run_136 : decode cX11_run 136 = .ok (.iload 10, 2) := by decide +kernel
theorem dX11_run_138 : decode cX11_run 138 = .ok (.ishl, 1) := by decide +kernel
theorem dX11_run_139 : decode cX11_run 139 = .ok (.iconst (-1), 1) := by decide +kernel
theorem dX11_run_140 : decode cX11_run 140 = .ok (.ixor, 1) := by decide +kernel
theorem dX11_run_141 : decode cX11_run 141 = .ok (.iand, 1) := by decide +kernel
theorem dX11_run_142 : decode cX11_run 142 = .ok (.istore 8, 2) := by decide +kernel
theorem dX11_run_144 : decode cX11_run 144 = .ok (.aload_n 0, 1) := by decide +kernel
theorem dX11_run_145 : decode cX11_run 145 = .ok (.getfield 32, 3) := by decide +kernel
theorem dX11_run_148 : decode cX11_run 148 = .ok (.iload 6, 2) := by decide +kernel
theorem dX11_run_150 : decode cX11_run 150 = .ok (.iload 10, 2) := by decide +kernel
theorem dX11_run_152 : decode cX11_run 152 = .ok (.getstatic 434, 3) := by decide +kernel
theorem dX11_run_155 : decode cX11_run 155 = .ok (.invokevirtual 256, 3) := by decide +kernel
theorem dX11_run_158 : decode cX11_run 158 = .ok (.istore 6, 2) := by decide +kernel
theorem dX11_run_160 : decode cX11_run 160 = .ok (.iinc 9 (-1), 3) := by decide +kernel
theorem dX11_run_163 : decode cX11_run 163 = .ok (.goto (-57), 3) := by decide +kernel
theorem dX11_run_166 : decode cX11_run 166 = .ok (.iload 5, 2) := by decide +kernel
theorem dX11_run_168 : decode cX11_run 168 = .ok (.aload_n 0, 1) := by decide +kernel
theorem dX11_run_169 : decode cX11_run 169 = .ok (.getfield 32, 3) := by decide +kernel
theorem dX11_run_172 : decode cX11_run 172 = .ok (.getfield 404, 3) := by decide +kernel
theorem dX11_run_175 : decode cX11_run 175 = .ok (.imul, 1) := by decide +kernel
theorem dX11_run_176 : decode cX11_run 176 = .ok (.iload 6, 2) := by decide +kernel
theorem dX11_run_178 : decode cX11_run 178 = .ok (.invokestatic 398, 3) := by decide +kernel
theorem dX11_run_181 : decode cX11_run 181 = .ok (.iadd, 1) := by decide +kernel
theorem dX11_run_182 : decode cX11_run 182 = .ok (.istore 5, 2) := by decide +kernel
theorem dX11_run_184 : decode cX11_run 184 = .ok (.iinc 7 1, 3) := by decide +kernel
theorem dX11_run_187 : decode cX11_run 187 = .ok (.goto (-122), 3) := by decide +kernel
theorem dX11_run_190 : decode cX11_run 190 = .ok (.aload_n 0, 1) := by decide +kernel
theorem dX11_run_191 : decode cX11_run 191 = .ok (.getfield 32, 3) := by decide +kernel
theorem dX11_run_194 : decode cX11_run 194 = .ok (.iload 6, 2) := by decide +kernel
theorem dX11_run_196 : decode cX11_run 196 = .ok (.aload_n 0, 1) := by decide +kernel
theorem dX11_run_197 : decode cX11_run 197 = .ok (.getfield 16, 3) := by decide +kernel
theorem dX11_run_200 : decode cX11_run 200 = .ok (.iload_n 2, 1) := by decide +kernel
theorem dX11_run_201 : decode cX11_run 201 = .ok (.invokevirtual 253, 3) := by decide +kernel
theorem dX11_run_204 : decode cX11_run 204 = .ok (.invokevirtual 260, 3) := by decide +kernel
theorem dX11_run_207 : decode cX11_run 207 = .ok (.ireturn, 1) := by decide +kernel
theorem dX11_numberAfter_0 : decode cX11_numberAfter 0 = .ok (.iload_n 0, 1) := by decide +kernel
theorem dX11_numberAfter_1 : decode cX11_numberAfter 1 = .ok (.ldc_w 443, 3) := by decide +kernel
theorem dX11_numberAfter_4 : decode cX11_numberAfter 4 = .ok (.imul, 1) := by decide +kernel
theorem dX11_numberAfter_5 : decode cX11_numberAfter 5 = .ok (.sipush 12345, 3) := by decide +kernel
theorem dX11_numberAfter_8 : decode cX11_numberAfter 8 = .ok (.iadd, 1) := by decide +kernel
theorem dX11_numberAfter_9 : decode cX11_numberAfter 9 = .ok (.ldc_w 446, 3) := by decide +kernel
theorem dX11_numberAfter_12 : decode cX11_numberAfter 12 = .ok (.iand, 1) := by decide +kernel
theorem dX11_numberAfter_13 : decode cX11_numberAfter 13 = .ok (.ireturn, 1) := by decide +kernel
theorem dX11_nthOf_0 : decode cX11_nthOf 0 = .ok (.iconst 0, 1) := by decide +kernel
theorem dX11_nthOf_1 : decode cX11_nthOf 1 = .ok (.istore_n 2, 1) := by decide +kernel
theorem dX11_nthOf_2 : decode cX11_nthOf 2 = .ok (.iconst 0, 1) := by decide +kernel
theorem dX11_nthOf_3 : decode cX11_nthOf 3 = .ok (.istore_n 3, 1) := by decide +kernel
theorem dX11_nthOf_4 : decode cX11_nthOf 4 = .ok (.iload_n 3, 1) := by decide +kernel
theorem dX11_nthOf_5 : decode cX11_nthOf 5 = .ok (.iconst 4, 1) := by decide +kernel
theorem dX11_nthOf_6 : decode cX11_nthOf 6 = .ok (.if_icmp .ge 27, 3) := by decide +kernel
theorem dX11_nthOf_9 : decode cX11_nthOf 9 = .ok (.iload_n 0, 1) := by decide +kernel
theorem dX11_nthOf_10 : decode cX11_nthOf 10 = .ok (.iload_n 3, 1) := by decide +kernel
theorem dX11_nthOf_11 : decode cX11_nthOf 11 = .ok (.iushr, 1) := by decide +kernel
theorem dX11_nthOf_12 : decode cX11_nthOf 12 = .ok (.iconst 1, 1) := by decide +kernel
theorem dX11_nthOf_13 : decode cX11_nthOf 13 = .ok (.iand, 1) := by decide +kernel
theorem dX11_nthOf_14 : decode cX11_nthOf 14 = .ok (.ifCond .eq 13, 3) := by decide +kernel
theorem dX11_nthOf_17 : decode cX11_nthOf 17 = .ok (.iload_n 2, 1) := by decide +kernel
theorem dX11_nthOf_18 : decode cX11_nthOf 18 = .ok (.iload_n 1, 1) := by decide +kernel
theorem dX11_nthOf_19 : decode cX11_nthOf 19 = .ok (.if_icmp .ne 5, 3) := by decide +kernel
theorem dX11_nthOf_22 : decode cX11_nthOf 22 = .ok (.iload_n 3, 1) := by decide +kernel
theorem dX11_nthOf_23 : decode cX11_nthOf 23 = .ok (.ireturn, 1) := by decide +kernel
theorem dX11_nthOf_24 : decode cX11_nthOf 24 = .ok (.iinc 2 1, 3) := by decide +kernel
theorem dX11_nthOf_27 : decode cX11_nthOf 27 = .ok (.iinc 3 1, 3) := by decide +kernel
theorem dX11_nthOf_30 : decode cX11_nthOf 30 = .ok (.goto (-26), 3) := by decide +kernel
theorem dX11_nthOf_33 : decode cX11_nthOf 33 = .ok (.iconst 0, 1) := by decide +kernel
theorem dX11_nthOf_34 : decode cX11_nthOf 34 = .ok (.ireturn, 1) := by decide +kernel
theorem dX11_evenly_0 : decode cX11_evenly 0 = .ok (.aload_n 0, 1) := by decide +kernel
theorem dX11_evenly_1 : decode cX11_evenly 1 = .ok (.getfield 41, 3) := by decide +kernel
theorem dX11_evenly_4 : decode cX11_evenly 4 = .ok (.getfield 169, 3) := by decide +kernel
theorem dX11_evenly_7 : decode cX11_evenly 7 = .ok (.istore_n 3, 1) := by decide +kernel
theorem dX11_evenly_8 : decode cX11_evenly 8 = .ok (.iload_n 1, 1) := by decide +kernel
theorem dX11_evenly_9 : decode cX11_evenly 9 = .ok (.ifCond .lt 16, 3) := by decide +kernel
theorem dX11_evenly_12 : decode cX11_evenly 12 = .ok (.iload_n 2, 1) := by decide +kernel
theorem dX11_evenly_13 : decode cX11_evenly 13 = .ok (.ifCond .lt 12, 3) := by decide +kernel
theorem dX11_evenly_16 : decode cX11_evenly 16 = .ok (.iload_n 2, 1) := by decide +kernel
theorem dX11_evenly_17 : decode cX11_evenly 17 = .ok (.iconst 2, 1) := by decide +kernel
theorem dX11_evenly_18 : decode cX11_evenly 18 = .ok (.if_icmp .gt 7, 3) := by decide +kernel
theorem dX11_evenly_21 : decode cX11_evenly 21 = .ok (.iload_n 3, 1) := by decide +kernel
theorem dX11_evenly_22 : decode cX11_evenly 22 = .ok (.ifCond .gt 5, 3) := by decide +kernel
theorem dX11_evenly_25 : decode cX11_evenly 25 = .ok (.iconst (-1), 1) := by decide +kernel
theorem dX11_evenly_26 : decode cX11_evenly 26 = .ok (.ireturn, 1) := by decide +kernel
theorem dX11_evenly_27 : decode cX11_evenly 27 = .ok (.ldc2_w 447, 3) := by decide +kernel
theorem dX11_evenly_30 : decode cX11_evenly 30 = .ok (.lstore 4, 2) := by decide +kernel
theorem dX11_evenly_32 : decode cX11_evenly 32 = .ok (.lload 4, 2) := by decide +kernel
theorem dX11_evenly_34 : decode cX11_evenly 34 = .ok (.lload 4, 2) := by decide +kernel
theorem dX11_evenly_36 : decode cX11_evenly 36 = .ok (.iload_n 3, 1) := by decide +kernel
theorem dX11_evenly_37 : decode cX11_evenly 37 = .ok (.i2l, 1) := by decide +kernel
theorem dX11_evenly_38 : decode cX11_evenly 38 = .ok (.lrem, 1) := by decide +kernel
theorem dX11_evenly_39 : decode cX11_evenly 39 = .ok (.lsub, 1) := by decide +kernel
theorem dX11_evenly_40 : decode cX11_evenly 40 = .ok (.lstore 6, 2) := by decide +kernel
theorem dX11_evenly_42 : decode cX11_evenly 42 = .ok (.iload_n 1, 1) := by decide +kernel
theorem dX11_evenly_43 : decode cX11_evenly 43 = .ok (.invokestatic 437, 3) := by decide +kernel
theorem dX11_evenly_46 : decode cX11_evenly 46 = .ok (.istore 8, 2) := by decide +kernel
theorem dX11_evenly_48 : decode cX11_evenly 48 = .ok (.iconst 1, 1) := by decide +kernel
theorem dX11_evenly_49 : decode cX11_evenly 49 = .ok (.istore 9, 2) := by decide +kernel
theorem dX11_evenly_51 : decode cX11_evenly 51 = .ok (.iconst 0, 1) := by decide +kernel
theorem dX11_evenly_52 : decode cX11_evenly 52 = .ok (.istore 10, 2) := by decide +kernel
theorem dX11_evenly_54 : decode cX11_evenly 54 = .ok (.iload 10, 2) := by decide +kernel
theorem dX11_evenly_56 : decode cX11_evenly 56 = .ok (.ldc_w 449, 3) := by decide +kernel
theorem dX11_evenly_59 : decode cX11_evenly 59 = .ok (.if_icmp .ge 28, 3) := by decide +kernel
theorem dX11_evenly_62 : decode cX11_evenly 62 = .ok (.iload 8, 2) := by decide +kernel
theorem dX11_evenly_64 : decode cX11_evenly 64 = .ok (.i2l, 1) := by decide +kernel
theorem dX11_evenly_65 : decode cX11_evenly 65 = .ok (.lload 6, 2) := by decide +kernel
theorem dX11_evenly_67 : decode cX11_evenly 67 = .ok (.lcmp, 1) := by decide +kernel
theorem dX11_evenly_68 : decode cX11_evenly 68 = .ok (.ifCond .lt 19, 3) := by decide +kernel
theorem dX11_evenly_71 : decode cX11_evenly 71 = .ok (.iload 8, 2) := by decide +kernel
theorem dX11_evenly_73 : decode cX11_evenly 73 = .ok (.invokestatic 437, 3) := by decide +kernel
theorem dX11_evenly_76 : decode cX11_evenly 76 = .ok (.istore 8, 2) := by decide +kernel
theorem dX11_evenly_78 : decode cX11_evenly 78 = .ok (.iinc 9 1, 3) := by decide +kernel
theorem dX11_evenly_81 : decode cX11_evenly 81 = .ok (.iinc 10 1, 3) := by decide +kernel
theorem dX11_evenly_84 : decode cX11_evenly 84 = .ok (.goto (-30), 3) := by decide +kernel
theorem dX11_evenly_87 : decode cX11_evenly 87 = .ok (.iload_n 2, 1) := by decide +kernel
theorem dX11_evenly_88 : decode cX11_evenly 88 = .ok (.ifCond .ne 8, 3) := by decide +kernel
theorem dX11_evenly_91 : decode cX11_evenly 91 = .ok (.iload 8, 2) := by decide +kernel
theorem dX11_evenly_93 : decode cX11_evenly 93 = .ok (.iload_n 3, 1) := by decide +kernel
theorem dX11_evenly_94 : decode cX11_evenly 94 = .ok (.irem, 1) := by decide +kernel
theorem dX11_evenly_95 : decode cX11_evenly 95 = .ok (.ireturn, 1) := by decide +kernel
theorem dX11_evenly_96 : decode cX11_evenly 96 = .ok (.iload_n 2, 1) := by decide +kernel
theorem dX11_evenly_97 : decode cX11_evenly 97 = .ok (.iconst 1, 1) := by decide +kernel
theorem dX11_evenly_98 : decode cX11_evenly 98 = .ok (.if_icmp .ne 8, 3) := by decide +kernel
theorem dX11_evenly_101 : decode cX11_evenly 101 = .ok (.iload 9, 2) := by decide +kernel
theorem dX11_evenly_103 : decode cX11_evenly 103 = .ok (.goto 5, 3) := by decide +kernel
theorem dX11_evenly_106 : decode cX11_evenly 106 = .ok (.iload 8, 2) := by decide +kernel
theorem dX11_evenly_108 : decode cX11_evenly 108 = .ok (.ireturn, 1) := by decide +kernel
theorem dX11_count_0 : decode cX11_count 0 = .ok (.iload_n 1, 1) := by decide +kernel
theorem dX11_count_1 : decode cX11_count 1 = .ok (.tableswitch 99 0 6 #[43, 51, 59, 67, 75, 83, 91], 43) := by decide +kernel
theorem dX11_count_44 : decode cX11_count 44 = .ok (.aload_n 0, 1) := by decide +kernel
theorem dX11_count_45 : decode cX11_count 45 = .ok (.getfield 16, 3) := by decide +kernel
theorem dX11_count_48 : decode cX11_count 48 = .ok (.getfield 133, 3) := by decide +kernel
theorem dX11_count_51 : decode cX11_count 51 = .ok (.ireturn, 1) := by decide +kernel
theorem dX11_count_52 : decode cX11_count 52 = .ok (.aload_n 0, 1) := by decide +kernel
theorem dX11_count_53 : decode cX11_count 53 = .ok (.getfield 16, 3) := by decide +kernel
theorem dX11_count_56 : decode cX11_count 56 = .ok (.getfield 208, 3) := by decide +kernel
theorem dX11_count_59 : decode cX11_count 59 = .ok (.ireturn, 1) := by decide +kernel
theorem dX11_count_60 : decode cX11_count 60 = .ok (.aload_n 0, 1) := by decide +kernel
theorem dX11_count_61 : decode cX11_count 61 = .ok (.getfield 16, 3) := by decide +kernel
theorem dX11_count_64 : decode cX11_count 64 = .ok (.getfield 202, 3) := by decide +kernel
theorem dX11_count_67 : decode cX11_count 67 = .ok (.ireturn, 1) := by decide +kernel
theorem dX11_count_68 : decode cX11_count 68 = .ok (.aload_n 0, 1) := by decide +kernel
theorem dX11_count_69 : decode cX11_count 69 = .ok (.getfield 16, 3) := by decide +kernel
theorem dX11_count_72 : decode cX11_count 72 = .ok (.getfield 465, 3) := by decide +kernel
theorem dX11_count_75 : decode cX11_count 75 = .ok (.ireturn, 1) := by decide +kernel
theorem dX11_count_76 : decode cX11_count 76 = .ok (.aload_n 0, 1) := by decide +kernel
theorem dX11_count_77 : decode cX11_count 77 = .ok (.getfield 16, 3) := by decide +kernel
theorem dX11_count_80 : decode cX11_count 80 = .ok (.getfield 179, 3) := by decide +kernel
theorem dX11_count_83 : decode cX11_count 83 = .ok (.ireturn, 1) := by decide +kernel
theorem dX11_count_84 : decode cX11_count 84 = .ok (.aload_n 0, 1) := by decide +kernel
theorem dX11_count_85 : decode cX11_count 85 = .ok (.getfield 48, 3) := by decide +kernel
theorem dX11_count_88 : decode cX11_count 88 = .ok (.getfield 273, 3) := by decide +kernel
theorem dX11_count_91 : decode cX11_count 91 = .ok (.ireturn, 1) := by decide +kernel
theorem dX11_count_92 : decode cX11_count 92 = .ok (.aload_n 0, 1) := by decide +kernel
theorem dX11_count_93 : decode cX11_count 93 = .ok (.getfield 41, 3) := by decide +kernel
theorem dX11_count_96 : decode cX11_count 96 = .ok (.getfield 205, 3) := by decide +kernel
theorem dX11_count_99 : decode cX11_count 99 = .ok (.ireturn, 1) := by decide +kernel
theorem dX11_count_100 : decode cX11_count 100 = .ok (.iconst (-1), 1) := by decide +kernel
theorem dX11_count_101 : decode cX11_count 101 = .ok (.ireturn, 1) := by decide +kernel
theorem dJ6_bitCount_0f7a4_0 : decode cJ6_bitCount_0f7a4 0 = .ok (.iload_n 0, 1) := by decide +kernel
theorem dJ6_bitCount_0f7a4_1 : decode cJ6_bitCount_0f7a4 1 = .ok (.iload_n 0, 1) := by decide +kernel
theorem dJ6_bitCount_0f7a4_2 : decode cJ6_bitCount_0f7a4 2 = .ok (.iconst 1, 1) := by decide +kernel
theorem dJ6_bitCount_0f7a4_3 : decode cJ6_bitCount_0f7a4 3 = .ok (.iushr, 1) := by decide +kernel
theorem dJ6_bitCount_0f7a4_4 : decode cJ6_bitCount_0f7a4 4 = .ok (.ldc_w 265, 3) := by decide +kernel
theorem dJ6_bitCount_0f7a4_7 : decode cJ6_bitCount_0f7a4 7 = .ok (.iand, 1) := by decide +kernel
theorem dJ6_bitCount_0f7a4_8 : decode cJ6_bitCount_0f7a4 8 = .ok (.isub, 1) := by decide +kernel
theorem dJ6_bitCount_0f7a4_9 : decode cJ6_bitCount_0f7a4 9 = .ok (.istore_n 0, 1) := by decide +kernel
theorem dJ6_bitCount_0f7a4_10 : decode cJ6_bitCount_0f7a4 10 = .ok (.iload_n 0, 1) := by decide +kernel
theorem dJ6_bitCount_0f7a4_11 : decode cJ6_bitCount_0f7a4 11 = .ok (.ldc_w 266, 3) := by decide +kernel
theorem dJ6_bitCount_0f7a4_14 : decode cJ6_bitCount_0f7a4 14 = .ok (.iand, 1) := by decide +kernel
theorem dJ6_bitCount_0f7a4_15 : decode cJ6_bitCount_0f7a4 15 = .ok (.iload_n 0, 1) := by decide +kernel
theorem dJ6_bitCount_0f7a4_16 : decode cJ6_bitCount_0f7a4 16 = .ok (.iconst 2, 1) := by decide +kernel
theorem dJ6_bitCount_0f7a4_17 : decode cJ6_bitCount_0f7a4 17 = .ok (.iushr, 1) := by decide +kernel
theorem dJ6_bitCount_0f7a4_18 : decode cJ6_bitCount_0f7a4 18 = .ok (.ldc_w 266, 3) := by decide +kernel
theorem dJ6_bitCount_0f7a4_21 : decode cJ6_bitCount_0f7a4 21 = .ok (.iand, 1) := by decide +kernel
theorem dJ6_bitCount_0f7a4_22 : decode cJ6_bitCount_0f7a4 22 = .ok (.iadd, 1) := by decide +kernel
theorem dJ6_bitCount_0f7a4_23 : decode cJ6_bitCount_0f7a4 23 = .ok (.istore_n 0, 1) := by decide +kernel
theorem dJ6_bitCount_0f7a4_24 : decode cJ6_bitCount_0f7a4 24 = .ok (.iload_n 0, 1) := by decide +kernel
theorem dJ6_bitCount_0f7a4_25 : decode cJ6_bitCount_0f7a4 25 = .ok (.iload_n 0, 1) := by decide +kernel
theorem dJ6_bitCount_0f7a4_26 : decode cJ6_bitCount_0f7a4 26 = .ok (.iconst 4, 1) := by decide +kernel
theorem dJ6_bitCount_0f7a4_27 : decode cJ6_bitCount_0f7a4 27 = .ok (.iushr, 1) := by decide +kernel
theorem dJ6_bitCount_0f7a4_28 : decode cJ6_bitCount_0f7a4 28 = .ok (.iadd, 1) := by decide +kernel
theorem dJ6_bitCount_0f7a4_29 : decode cJ6_bitCount_0f7a4 29 = .ok (.ldc_w 267, 3) := by decide +kernel
theorem dJ6_bitCount_0f7a4_32 : decode cJ6_bitCount_0f7a4 32 = .ok (.iand, 1) := by decide +kernel
theorem dJ6_bitCount_0f7a4_33 : decode cJ6_bitCount_0f7a4 33 = .ok (.istore_n 0, 1) := by decide +kernel
theorem dJ6_bitCount_0f7a4_34 : decode cJ6_bitCount_0f7a4 34 = .ok (.iload_n 0, 1) := by decide +kernel
theorem dJ6_bitCount_0f7a4_35 : decode cJ6_bitCount_0f7a4 35 = .ok (.iload_n 0, 1) := by decide +kernel
theorem dJ6_bitCount_0f7a4_36 : decode cJ6_bitCount_0f7a4 36 = .ok (.bipush 8, 2) := by decide +kernel
theorem dJ6_bitCount_0f7a4_38 : decode cJ6_bitCount_0f7a4 38 = .ok (.iushr, 1) := by decide +kernel
theorem dJ6_bitCount_0f7a4_39 : decode cJ6_bitCount_0f7a4 39 = .ok (.iadd, 1) := by decide +kernel
theorem dJ6_bitCount_0f7a4_40 : decode cJ6_bitCount_0f7a4 40 = .ok (.istore_n 0, 1) := by decide +kernel
theorem dJ6_bitCount_0f7a4_41 : decode cJ6_bitCount_0f7a4 41 = .ok (.iload_n 0, 1) := by decide +kernel
theorem dJ6_bitCount_0f7a4_42 : decode cJ6_bitCount_0f7a4 42 = .ok (.iload_n 0, 1) := by decide +kernel
theorem dJ6_bitCount_0f7a4_43 : decode cJ6_bitCount_0f7a4 43 = .ok (.bipush 16, 2) := by decide +kernel
theorem dJ6_bitCount_0f7a4_45 : decode cJ6_bitCount_0f7a4 45 = .ok (.iushr, 1) := by decide +kernel
theorem dJ6_bitCount_0f7a4_46 : decode cJ6_bitCount_0f7a4 46 = .ok (.iadd, 1) := by decide +kernel
theorem dJ6_bitCount_0f7a4_47 : decode cJ6_bitCount_0f7a4 47 = .ok (.istore_n 0, 1) := by decide +kernel
theorem dJ6_bitCount_0f7a4_48 : decode cJ6_bitCount_0f7a4 48 = .ok (.iload_n 0, 1) := by decide +kernel
theorem dJ6_bitCount_0f7a4_49 : decode cJ6_bitCount_0f7a4 49 = .ok (.bipush 63, 2) := by decide +kernel
theorem dJ6_bitCount_0f7a4_51 : decode cJ6_bitCount_0f7a4 51 = .ok (.iand, 1) := by decide +kernel
theorem dJ6_bitCount_0f7a4_52 : decode cJ6_bitCount_0f7a4 52 = .ok (.ireturn, 1) := by decide +kernel
theorem dJ7_rangeCheck_23922_0 : decode cJ7_rangeCheck_23922 0 = .ok (.iload_n 1, 1) := by decide +kernel
theorem dJ7_rangeCheck_23922_1 : decode cJ7_rangeCheck_23922 1 = .ok (.iload_n 2, 1) := by decide +kernel
theorem dJ7_rangeCheck_23922_2 : decode cJ7_rangeCheck_23922 2 = .ok (.if_icmp .le 44, 3) := by decide +kernel
theorem dJ7_rangeCheck_23922_46 : decode cJ7_rangeCheck_23922 46 = .ok (.iload_n 1, 1) := by decide +kernel
theorem dJ7_rangeCheck_23922_47 : decode cJ7_rangeCheck_23922 47 = .ok (.ifCond .ge 12, 3) := by decide +kernel
theorem dJ7_rangeCheck_23922_59 : decode cJ7_rangeCheck_23922 59 = .ok (.iload_n 2, 1) := by decide +kernel
theorem dJ7_rangeCheck_23922_60 : decode cJ7_rangeCheck_23922 60 = .ok (.iload_n 0, 1) := by decide +kernel
theorem dJ7_rangeCheck_23922_61 : decode cJ7_rangeCheck_23922 61 = .ok (.if_icmp .le 12, 3) := by decide +kernel
theorem dJ7_rangeCheck_23922_73 : decode cJ7_rangeCheck_23922 73 = .ok (.return_, 1) := by decide +kernel
theorem dJ7_fill_d0a16_0 : decode cJ7_fill_d0a16 0 = .ok (.iconst 0, 1) := by decide +kernel
theorem dJ7_fill_d0a16_1 : decode cJ7_fill_d0a16 1 = .ok (.istore_n 3, 1) := by decide +kernel
theorem dJ7_fill_d0a16_2 : decode cJ7_fill_d0a16 2 = .ok (.aload_n 0, 1) := by decide +kernel
theorem dJ7_fill_d0a16_3 : decode cJ7_fill_d0a16 3 = .ok (.arraylength, 1) := by decide +kernel
theorem dJ7_fill_d0a16_4 : decode cJ7_fill_d0a16 4 = .ok (.istore 4, 2) := by decide +kernel
theorem dJ7_fill_d0a16_6 : decode cJ7_fill_d0a16 6 = .ok (.iload_n 3, 1) := by decide +kernel
theorem dJ7_fill_d0a16_7 : decode cJ7_fill_d0a16 7 = .ok (.iload 4, 2) := by decide +kernel
theorem dJ7_fill_d0a16_9 : decode cJ7_fill_d0a16 9 = .ok (.if_icmp .ge 13, 3) := by decide +kernel
theorem dJ7_fill_d0a16_12 : decode cJ7_fill_d0a16 12 = .ok (.aload_n 0, 1) := by decide +kernel
theorem dJ7_fill_d0a16_13 : decode cJ7_fill_d0a16 13 = .ok (.iload_n 3, 1) := by decide +kernel
theorem dJ7_fill_d0a16_14 : decode cJ7_fill_d0a16 14 = .ok (.lload_n 1, 1) := by decide +kernel
theorem dJ7_fill_d0a16_15 : decode cJ7_fill_d0a16 15 = .ok (.lastore, 1) := by decide +kernel
theorem dJ7_fill_d0a16_16 : decode cJ7_fill_d0a16 16 = .ok (.iinc 3 1, 3) := by decide +kernel
theorem dJ7_fill_d0a16_19 : decode cJ7_fill_d0a16 19 = .ok (.goto (-13), 3) := by decide +kernel
theorem dJ7_fill_d0a16_22 : decode cJ7_fill_d0a16 22 = .ok (.return_, 1) := by decide +kernel
theorem dJ7_fill_bad5a_0 : decode cJ7_fill_bad5a 0 = .ok (.aload_n 0, 1) := by decide +kernel
theorem dJ7_fill_bad5a_1 : decode cJ7_fill_bad5a 1 = .ok (.arraylength, 1) := by decide +kernel
theorem dJ7_fill_bad5a_2 : decode cJ7_fill_bad5a 2 = .ok (.iload_n 1, 1) := by decide +kernel
theorem dJ7_fill_bad5a_3 : decode cJ7_fill_bad5a 3 = .ok (.iload_n 2, 1) := by decide +kernel
theorem dJ7_fill_bad5a_4 : decode cJ7_fill_bad5a 4 = .ok (.invokestatic 13, 3) := by decide +kernel
theorem dJ7_fill_bad5a_7 : decode cJ7_fill_bad5a 7 = .ok (.iload_n 1, 1) := by decide +kernel
theorem dJ7_fill_bad5a_8 : decode cJ7_fill_bad5a 8 = .ok (.istore 5, 2) := by decide +kernel
theorem dJ7_fill_bad5a_10 : decode cJ7_fill_bad5a 10 = .ok (.iload 5, 2) := by decide +kernel
theorem dJ7_fill_bad5a_12 : decode cJ7_fill_bad5a 12 = .ok (.iload_n 2, 1) := by decide +kernel
theorem dJ7_fill_bad5a_13 : decode cJ7_fill_bad5a 13 = .ok (.if_icmp .ge 14, 3) := by decide +kernel
theorem dJ7_fill_bad5a_16 : decode cJ7_fill_bad5a 16 = .ok (.aload_n 0, 1) := by decide +kernel
theorem dJ7_fill_bad5a_17 : decode cJ7_fill_bad5a 17 = .ok (.iload 5, 2) := by decide +kernel
theorem dJ7_fill_bad5a_19 : decode cJ7_fill_bad5a 19 = .ok (.lload_n 3, 1) := by decide +kernel
theorem dJ7_fill_bad5a_20 : decode cJ7_fill_bad5a 20 = .ok (.lastore, 1) := by decide +kernel
theorem dJ7_fill_bad5a_21 : decode cJ7_fill_bad5a 21 = .ok (.iinc 5 1, 3) := by decide +kernel
theorem dJ7_fill_bad5a_24 : decode cJ7_fill_bad5a 24 = .ok (.goto (-14), 3) := by decide +kernel
theorem dJ7_fill_bad5a_27 : decode cJ7_fill_bad5a 27 = .ok (.return_, 1) := by decide +kernel
theorem dJ7_fill_53178_0 : decode cJ7_fill_53178 0 = .ok (.iconst 0, 1) := by decide +kernel
theorem dJ7_fill_53178_1 : decode cJ7_fill_53178 1 = .ok (.istore_n 2, 1) := by decide +kernel
theorem dJ7_fill_53178_2 : decode cJ7_fill_53178 2 = .ok (.aload_n 0, 1) := by decide +kernel
theorem dJ7_fill_53178_3 : decode cJ7_fill_53178 3 = .ok (.arraylength, 1) := by decide +kernel
theorem dJ7_fill_53178_4 : decode cJ7_fill_53178 4 = .ok (.istore_n 3, 1) := by decide +kernel
theorem dJ7_fill_53178_5 : decode cJ7_fill_53178 5 = .ok (.iload_n 2, 1) := by decide +kernel
theorem dJ7_fill_53178_6 : decode cJ7_fill_53178 6 = .ok (.iload_n 3, 1) := by decide +kernel
theorem dJ7_fill_53178_7 : decode cJ7_fill_53178 7 = .ok (.if_icmp .ge 13, 3) := by decide +kernel
theorem dJ7_fill_53178_10 : decode cJ7_fill_53178 10 = .ok (.aload_n 0, 1) := by decide +kernel
theorem dJ7_fill_53178_11 : decode cJ7_fill_53178 11 = .ok (.iload_n 2, 1) := by decide +kernel
theorem dJ7_fill_53178_12 : decode cJ7_fill_53178 12 = .ok (.iload_n 1, 1) := by decide +kernel
theorem dJ7_fill_53178_13 : decode cJ7_fill_53178 13 = .ok (.iastore, 1) := by decide +kernel
theorem dJ7_fill_53178_14 : decode cJ7_fill_53178 14 = .ok (.iinc 2 1, 3) := by decide +kernel
theorem dJ7_fill_53178_17 : decode cJ7_fill_53178 17 = .ok (.goto (-12), 3) := by decide +kernel
theorem dJ7_fill_53178_20 : decode cJ7_fill_53178 20 = .ok (.return_, 1) := by decide +kernel
theorem dJ7_fill_fda19_0 : decode cJ7_fill_fda19 0 = .ok (.aload_n 0, 1) := by decide +kernel
theorem dJ7_fill_fda19_1 : decode cJ7_fill_fda19 1 = .ok (.arraylength, 1) := by decide +kernel
theorem dJ7_fill_fda19_2 : decode cJ7_fill_fda19 2 = .ok (.iload_n 1, 1) := by decide +kernel
theorem dJ7_fill_fda19_3 : decode cJ7_fill_fda19 3 = .ok (.iload_n 2, 1) := by decide +kernel
theorem dJ7_fill_fda19_4 : decode cJ7_fill_fda19 4 = .ok (.invokestatic 13, 3) := by decide +kernel
theorem dJ7_fill_fda19_7 : decode cJ7_fill_fda19 7 = .ok (.iload_n 1, 1) := by decide +kernel
theorem dJ7_fill_fda19_8 : decode cJ7_fill_fda19 8 = .ok (.istore 4, 2) := by decide +kernel
theorem dJ7_fill_fda19_10 : decode cJ7_fill_fda19 10 = .ok (.iload 4, 2) := by decide +kernel
theorem dJ7_fill_fda19_12 : decode cJ7_fill_fda19 12 = .ok (.iload_n 2, 1) := by decide +kernel
theorem dJ7_fill_fda19_13 : decode cJ7_fill_fda19 13 = .ok (.if_icmp .ge 14, 3) := by decide +kernel
theorem dJ7_fill_fda19_16 : decode cJ7_fill_fda19 16 = .ok (.aload_n 0, 1) := by decide +kernel
theorem dJ7_fill_fda19_17 : decode cJ7_fill_fda19 17 = .ok (.iload 4, 2) := by decide +kernel
theorem dJ7_fill_fda19_19 : decode cJ7_fill_fda19 19 = .ok (.iload_n 3, 1) := by decide +kernel
theorem dJ7_fill_fda19_20 : decode cJ7_fill_fda19 20 = .ok (.iastore, 1) := by decide +kernel
theorem dJ7_fill_fda19_21 : decode cJ7_fill_fda19 21 = .ok (.iinc 4 1, 3) := by decide +kernel
theorem dJ7_fill_fda19_24 : decode cJ7_fill_fda19 24 = .ok (.goto (-14), 3) := by decide +kernel
theorem dJ7_fill_fda19_27 : decode cJ7_fill_fda19 27 = .ok (.return_, 1) := by decide +kernel
