theorem dX4_set_24 : decode cX4_set 24 = .ok (.aload_n 0, 1) := by decide +kernel
theorem dX4_set_25 : decode cX4_set 25 = .ok (.iconst 0, 1) := by decide +kernel
theorem dX4_set_26 : decode cX4_set 26 = .ok (.putfield 31, 3) := by decide +kernel
theorem dX4_set_29 : decode cX4_set 29 = .ok (.aload_n 0, 1) := by decide +kernel
theorem dX4_set_30 : decode cX4_set 30 = .ok (.getfield 18, 3) := by decide +kernel
theorem dX4_set_33 : decode cX4_set 33 = .ok (.iconst 0, 1) := by decide +kernel
theorem dX4_set_34 : decode cX4_set 34 = .ok (.invokestatic 34, 3) := by decide +kernel
theorem dX4_set_37 : decode cX4_set 37 = .ok (.iconst 0, 1) := by decide +kernel
theorem dX4_set_38 : decode cX4_set 38 = .ok (.istore_n 2, 1) := by decide +kernel
theorem dX4_set_39 : decode cX4_set 39 = .ok (.iload_n 2, 1) := by decide +kernel
theorem dX4_set_40 : decode cX4_set 40 = .ok (.iconst 1, 1) := by decide +kernel
theorem dX4_set_41 : decode cX4_set 41 = .ok (.iconst 2, 1) := by decide +kernel
theorem dX4_set_42 : decode cX4_set 42 = .ok (.iload_n 1, 1) := by decide +kernel
theorem dX4_set_43 : decode cX4_set 43 = .ok (.imul, 1) := by decide +kernel
theorem dX4_set_44 : decode cX4_set 44 = .ok (.ishl, 1) := by decide +kernel
theorem dX4_set_45 : decode cX4_set 45 = .ok (.if_icmp .ge 34, 3) := by decide +kernel
theorem dX4_set_48 : decode cX4_set 48 = .ok (.aload_n 0, 1) := by decide +kernel
theorem dX4_set_49 : decode cX4_set 49 = .ok (.getfield 31, 3) := by decide +kernel
theorem dX4_set_52 : decode cX4_set 52 = .ok (.bipush 24, 2) := by decide +kernel
theorem dX4_set_54 : decode cX4_set 54 = .ok (.if_icmp .ge 19, 3) := by decide +kernel
theorem dX4_set_57 : decode cX4_set 57 = .ok (.iload_n 2, 1) := by decide +kernel
theorem dX4_set_58 : decode cX4_set 58 = .ok (.iload_n 1, 1) := by decide +kernel
theorem dX4_set_59 : decode cX4_set 59 = .ok (.aload_n 0, 1) := by decide +kernel
theorem dX4_set_60 : decode cX4_set 60 = .ok (.getfield 24, 3) := by decide +kernel
theorem dX4_set_63 : decode cX4_set 63 = .ok (.invokestatic 40, 3) := by decide +kernel
theorem dX4_set_66 : decode cX4_set 66 = .ok (.ifCond .eq 7, 3) := by decide +kernel
theorem dX4_set_69 : decode cX4_set 69 = .ok (.aload_n 0, 1) := by decide +kernel
theorem dX4_set_70 : decode cX4_set 70 = .ok (.invokevirtual 44, 3) := by decide +kernel
theorem dX4_set_73 : decode cX4_set 73 = .ok (.iinc 2 1, 3) := by decide +kernel
theorem dX4_set_76 : decode cX4_set 76 = .ok (.goto (-37), 3) := by decide +kernel
theorem dX4_set_79 : decode cX4_set 79 = .ok (.aload_n 0, 1) := by decide +kernel
theorem dX4_set_80 : decode cX4_set 80 = .ok (.iconst 1, 1) := by decide +kernel
theorem dX4_set_81 : decode cX4_set 81 = .ok (.aload_n 0, 1) := by decide +kernel
theorem dX4_set_82 : decode cX4_set 82 = .ok (.getfield 31, 3) := by decide +kernel
theorem dX4_set_85 : decode cX4_set 85 = .ok (.ishl, 1) := by decide +kernel
theorem dX4_set_86 : decode cX4_set 86 = .ok (.iconst 1, 1) := by decide +kernel
theorem dX4_set_87 : decode cX4_set 87 = .ok (.isub, 1) := by decide +kernel
theorem dX4_set_88 : decode cX4_set 88 = .ok (.putfield 47, 3) := by decide +kernel
theorem dX4_set_91 : decode cX4_set 91 = .ok (.iconst 0, 1) := by decide +kernel
theorem dX4_set_92 : decode cX4_set 92 = .ok (.istore_n 2, 1) := by decide +kernel
theorem dX4_set_93 : decode cX4_set 93 = .ok (.iload_n 2, 1) := by decide +kernel
theorem dX4_set_94 : decode cX4_set 94 = .ok (.aload_n 0, 1) := by decide +kernel
theorem dX4_set_95 : decode cX4_set 95 = .ok (.getfield 31, 3) := by decide +kernel
theorem dX4_set_98 : decode cX4_set 98 = .ok (.if_icmp .ge 14, 3) := by decide +kernel
theorem dX4_set_101 : decode cX4_set 101 = .ok (.aload_n 0, 1) := by decide +kernel
theorem dX4_set_102 : decode cX4_set 102 = .ok (.iload_n 2, 1) := by decide +kernel
theorem dX4_set_103 : decode cX4_set 103 = .ok (.invokevirtual 50, 3) := by decide +kernel
theorem dX4_set_106 : decode cX4_set 106 = .ok (.iinc 2 1, 3) := by decide +kernel
theorem dX4_set_109 : decode cX4_set 109 = .ok (.goto (-16), 3) := by decide +kernel
theorem dX4_set_112 : decode cX4_set 112 = .ok (.return_, 1) := by decide +kernel
theorem dX4_readRow_0 : decode cX4_readRow 0 = .ok (.iconst 0, 1) := by decide +kernel
theorem dX4_readRow_1 : decode cX4_readRow 1 = .ok (.istore_n 3, 1) := by decide +kernel
theorem dX4_readRow_2 : decode cX4_readRow 2 = .ok (.iconst 0, 1) := by decide +kernel
theorem dX4_readRow_3 : decode cX4_readRow 3 = .ok (.istore 4, 2) := by decide +kernel
theorem dX4_readRow_5 : decode cX4_readRow 5 = .ok (.iload 4, 2) := by decide +kernel
theorem dX4_readRow_7 : decode cX4_readRow 7 = .ok (.iload_n 1, 1) := by decide +kernel
theorem dX4_readRow_8 : decode cX4_readRow 8 = .ok (.if_icmp .ge 41, 3) := by decide +kernel
theorem dX4_readRow_11 : decode cX4_readRow 11 = .ok (.iload 4, 2) := by decide +kernel
theorem dX4_readRow_13 : decode cX4_readRow 13 = .ok (.aload_n 2, 1) := by decide +kernel
theorem dX4_readRow_14 : decode cX4_readRow 14 = .ok (.arraylength, 1) := by decide +kernel
theorem dX4_readRow_15 : decode cX4_readRow 15 = .ok (.if_icmp .ge 34, 3) := by decide +kernel
theorem dX4_readRow_18 : decode cX4_readRow 18 = .ok (.aload_n 2, 1) := by decide +kernel
theorem dX4_readRow_19 : decode cX4_readRow 19 = .ok (.iload 4, 2) := by decide +kernel
theorem dX4_readRow_21 : decode cX4_readRow 21 = .ok (.iload_n 0, 1) := by decide +kernel
theorem dX4_readRow_22 : decode cX4_readRow 22 = .ok (.iconst 2, 1) := by decide +kernel
theorem dX4_readRow_23 : decode cX4_readRow 23 = .ok (.iload_n 1, 1) := by decide +kernel
theorem dX4_readRow_24 : decode cX4_readRow 24 = .ok (.iconst 1, 1) := by decide +kernel
theorem dX4_readRow_25 : decode cX4_readRow 25 = .ok (.isub, 1) := by decide +kernel
theorem dX4_readRow_26 : decode cX4_readRow 26 = .ok (.iload 4, 2) := by decide +kernel
theorem dX4_readRow_28 : decode cX4_readRow 28 = .ok (.isub, 1) := by decide +kernel
theorem dX4_readRow_29 : decode cX4_readRow 29 = .ok (.imul, 1) := by decide +kernel
theorem dX4_readRow_30 : decode cX4_readRow 30 = .ok (.iushr, 1) := by decide +kernel
theorem dX4_readRow_31 : decode cX4_readRow 31 = .ok (.iconst 3, 1) := by decide +kernel
theorem dX4_readRow_32 : decode cX4_readRow 32 = .ok (.iand, 1) := by decide +kernel
theorem dX4_readRow_33 : decode cX4_readRow 33 = .ok (.iastore, 1) := by decide +kernel
theorem dX4_readRow_34 : decode cX4_readRow 34 = .ok (.iload_n 3, 1) := by decide +kernel
theorem dX4_readRow_35 : decode cX4_readRow 35 = .ok (.iconst 1, 1) := by decide +kernel
theorem dX4_readRow_36 : decode cX4_readRow 36 = .ok (.aload_n 2, 1) := by decide +kernel
theorem dX4_readRow_37 : decode cX4_readRow 37 = .ok (.iload 4, 2) := by decide +kernel
theorem dX4_readRow_39 : decode cX4_readRow 39 = .ok (.iaload, 1) := by decide +kernel
theorem dX4_readRow_40 : decode cX4_readRow 40 = .ok (.ishl, 1) := by decide +kernel
theorem dX4_readRow_41 : decode cX4_readRow 41 = .ok (.ior, 1) := by decide +kernel
theorem dX4_readRow_42 : decode cX4_readRow 42 = .ok (.istore_n 3, 1) := by decide +kernel
theorem dX4_readRow_43 : decode cX4_readRow 43 = .ok (.iinc 4 1, 3) := by decide +kernel
theorem dX4_readRow_46 : decode cX4_readRow 46 = .ok (.goto (-41), 3) := by decide +kernel
theorem dX4_readRow_49 : decode cX4_readRow 49 = .ok (.iload_n 3, 1) := by decide +kernel
theorem dX4_readRow_50 : decode cX4_readRow 50 = .ok (.iconst 1, 1) := by decide +kernel
theorem dX4_readRow_51 : decode cX4_readRow 51 = .ok (.iload_n 1, 1) := by decide +kernel
theorem dX4_readRow_52 : decode cX4_readRow 52 = .ok (.ishl, 1) := by decide +kernel
theorem dX4_readRow_53 : decode cX4_readRow 53 = .ok (.iconst 1, 1) := by decide +kernel
theorem dX4_readRow_54 : decode cX4_readRow 54 = .ok (.isub, 1) := by decide +kernel
theorem dX4_readRow_55 : decode cX4_readRow 55 = .ok (.if_icmp .ne 7, 3) := by decide +kernel
theorem dX4_readRow_58 : decode cX4_readRow 58 = .ok (.iconst 1, 1) := by decide +kernel
theorem dX4_readRow_59 : decode cX4_readRow 59 = .ok (.goto 4, 3) := by decide +kernel
theorem dX4_readRow_62 : decode cX4_readRow 62 = .ok (.iconst 0, 1) := by decide +kernel
theorem dX4_readRow_63 : decode cX4_readRow 63 = .ok (.ireturn, 1) := by decide +kernel
theorem dX4_addRow_0 : decode cX4_addRow 0 = .ok (.iconst 0, 1) := by decide +kernel
theorem dX4_addRow_1 : decode cX4_addRow 1 = .ok (.istore_n 1, 1) := by decide +kernel
theorem dX4_addRow_2 : decode cX4_addRow 2 = .ok (.iload_n 1, 1) := by decide +kernel
theorem dX4_addRow_3 : decode cX4_addRow 3 = .ok (.aload_n 0, 1) := by decide +kernel
theorem dX4_addRow_4 : decode cX4_addRow 4 = .ok (.getfield 27, 3) := by decide +kernel
theorem dX4_addRow_7 : decode cX4_addRow 7 = .ok (.if_icmp .ge 63, 3) := by decide +kernel
theorem dX4_addRow_10 : decode cX4_addRow 10 = .ok (.aload_n 0, 1) := by decide +kernel
theorem dX4_addRow_11 : decode cX4_addRow 11 = .ok (.getfield 24, 3) := by decide +kernel
theorem dX4_addRow_14 : decode cX4_addRow 14 = .ok (.iload_n 1, 1) := by decide +kernel
theorem dX4_addRow_15 : decode cX4_addRow 15 = .ok (.iaload, 1) := by decide +kernel
theorem dX4_addRow_16 : decode cX4_addRow 16 = .ok (.istore_n 2, 1) := by decide +kernel
theorem dX4_addRow_17 : decode cX4_addRow 17 = .ok (.aload_n 0, 1) := by decide +kernel
theorem dX4_addRow_18 : decode cX4_addRow 18 = .ok (.getfield 9, 3) := by decide +kernel
theorem dX4_addRow_21 : decode cX4_addRow 21 = .ok (.aload_n 0, 1) := by decide +kernel
theorem dX4_addRow_22 : decode cX4_addRow 22 = .ok (.getfield 31, 3) := by decide +kernel
theorem dX4_addRow_25 : decode cX4_addRow 25 = .ok (.iconst 4, 1) := by decide +kernel
theorem dX4_addRow_26 : decode cX4_addRow 26 = .ok (.imul, 1) := by decide +kernel
theorem dX4_addRow_27 : decode cX4_addRow 27 = .ok (.iload_n 1, 1) := by decide +kernel
theorem dX4_addRow_28 : decode cX4_addRow 28 = .ok (.iadd, 1) := by decide +kernel
theorem dX4_addRow_29 : decode cX4_addRow 29 = .ok (.iload_n 2, 1) := by decide +kernel
theorem dX4_addRow_30 : decode cX4_addRow 30 = .ok (.iastore, 1) := by decide +kernel
theorem dX4_addRow_31 : decode cX4_addRow 31 = .ok (.aload_n 0, 1) := by decide +kernel
theorem dX4_addRow_32 : decode cX4_addRow 32 = .ok (.getfield 15, 3) := by decide +kernel
theorem dX4_addRow_35 : decode cX4_addRow 35 = .ok (.aload_n 0, 1) := by decide +kernel
theorem dX4_addRow_36 : decode cX4_addRow 36 = .ok (.getfield 31, 3) := by decide +kernel
theorem dX4_addRow_39 : decode cX4_addRow 39 = .ok (.iconst 4, 1) := by decide +kernel
theorem dX4_addRow_40 : decode cX4_addRow 40 = .ok (.imul, 1) := by decide +kernel
theorem dX4_addRow_41 : decode cX4_addRow 41 = .ok (.iload_n 2, 1) := by decide +kernel
theorem dX4_addRow_42 : decode cX4_addRow 42 = .ok (.iadd, 1) := by decide +kernel
theorem dX4_addRow_43 : decode cX4_addRow 43 = .ok (.iload_n 1, 1) := by decide +kernel
theorem dX4_addRow_44 : decode cX4_addRow 44 = .ok (.iastore, 1) := by decide +kernel
theorem dX4_addRow_45 : decode cX4_addRow 45 = .ok (.aload_n 0, 1) := by decide +kernel
theorem dX4_addRow_46 : decode cX4_addRow 46 = .ok (.getfield 18, 3) := by decide +kernel
theorem dX4_addRow_49 : decode cX4_addRow 49 = .ok (.iload_n 1, 1) := by decide +kernel
theorem dX4_addRow_50 : decode cX4_addRow 50 = .ok (.iconst 4, 1) := by decide +kernel
theorem dX4_addRow_51 : decode cX4_addRow 51 = .ok (.imul, 1) := by decide +kernel
theorem dX4_addRow_52 : decode cX4_addRow 52 = .ok (.iload_n 2, 1) := by decide +kernel
theorem dX4_addRow_53 : decode cX4_addRow 53 = .ok (.iadd, 1) := by decide +kernel
theorem dX4_addRow_54 : decode cX4_addRow 54 = .ok (.dup2, 1) := by decide +kernel
theorem dX4_addRow_55 : decode cX4_addRow 55 = .ok (.iaload, 1) := by decide +kernel
theorem dX4_addRow_56 : decode cX4_addRow 56 = .ok (.iconst 1, 1) := by decide +kernel
theorem dX4_addRow_57 : decode cX4_addRow 57 = .ok (.aload_n 0, 1) := by decide +kernel
theorem dX4_addRow_58 : decode cX4_addRow 58 = .ok (.getfield 31, 3) := by decide +kernel
theorem dX4_addRow_61 : decode cX4_addRow 61 = .ok (.ishl, 1) := by decide +kernel
theorem dX4_addRow_62 : decode cX4_addRow 62 = .ok (.ior, 1) := by decide +kernel
theorem dX4_addRow_63 : decode cX4_addRow 63 = .ok (.iastore, 1) := by decide +kernel
theorem dX4_addRow_64 : decode cX4_addRow 64 = .ok (.iinc 1 1, 3) := by decide +kernel
theorem dX4_addRow_67 : decode cX4_addRow 67 = .ok (.goto (-65), 3) := by decide +kernel
theorem dX4_addRow_70 : decode cX4_addRow 70 = .ok (.aload_n 0, 1) := by decide +kernel
theorem dX4_addRow_71 : decode cX4_addRow 71 = .ok (.dup, 1) := by decide +kernel
theorem dX4_addRow_72 : decode cX4_addRow 72 = .ok (.getfield 31, 3) := by decide +kernel
theorem dX4_addRow_75 : decode cX4_addRow 75 = .ok (.iconst 1, 1) := by decide +kernel
theorem dX4_addRow_76 : decode cX4_addRow 76 = .ok (.iadd, 1) := by decide +kernel
theorem dX4_addRow_77 : decode cX4_addRow 77 = .ok (.putfield 31, 3) := by decide +kernel
theorem dX4_addRow_80 : decode cX4_addRow 80 = .ok (.return_, 1) := by decide +kernel
theorem dX4_setSwaps_0 : decode cX4_setSwaps 0 = .ok (.iconst 0, 1) := by decide +kernel
theorem dX4_setSwaps_1 : decode cX4_setSwaps 1 = .ok (.istore_n 2, 1) := by decide +kernel
theorem dX4_setSwaps_2 : decode cX4_setSwaps 2 = .ok (.iconst 0, 1) := by decide +kernel
theorem dX4_setSwaps_3 : decode cX4_setSwaps 3 = .ok (.istore_n 3, 1) := by decide +kernel
theorem dX4_setSwaps_4 : decode cX4_setSwaps 4 = .ok (.iload_n 3, 1) := by decide +kernel
theorem dX4_setSwaps_5 : decode cX4_setSwaps 5 = .ok (.aload_n 0, 1) := by decide +kernel
theorem dX4_setSwaps_6 : decode cX4_setSwaps 6 = .ok (.getfield 27, 3) := by decide +kernel
theorem dX4_setSwaps_9 : decode cX4_setSwaps 9 = .ok (.if_icmp .ge 51, 3) := by decide +kernel
theorem dX4_setSwaps_12 : decode cX4_setSwaps 12 = .ok (.iload_n 3, 1) := by decide +kernel
theorem dX4_setSwaps_13 : decode cX4_setSwaps 13 = .ok (.iconst 1, 1) := by decide +kernel
theorem dX4_setSwaps_14 : decode cX4_setSwaps 14 = .ok (.iadd, 1) := by decide +kernel
theorem dX4_setSwaps_15 : decode cX4_setSwaps 15 = .ok (.istore 4, 2) := by decide +kernel
theorem dX4_setSwaps_17 : decode cX4_setSwaps 17 = .ok (.iload 4, 2) := by decide +kernel
theorem dX4_setSwaps_19 : decode cX4_setSwaps 19 = .ok (.aload_n 0, 1) := by decide +kernel
theorem dX4_setSwaps_20 : decode cX4_setSwaps 20 = .ok (.getfield 27, 3) := by decide +kernel
theorem dX4_setSwaps_23 : decode cX4_setSwaps 23 = .ok (.if_icmp .ge 31, 3) := by decide +kernel
theorem dX4_setSwaps_26 : decode cX4_setSwaps 26 = .ok (.aload_n 0, 1) := by decide +kernel
theorem dX4_setSwaps_27 : decode cX4_setSwaps 27 = .ok (.getfield 21, 3) := by decide +kernel
theorem dX4_setSwaps_30 : decode cX4_setSwaps 30 = .ok (.iload_n 1, 1) := by decide +kernel
theorem dX4_setSwaps_31 : decode cX4_setSwaps 31 = .ok (.bipush 6, 2) := by decide +kernel
theorem dX4_setSwaps_33 : decode cX4_setSwaps 33 = .ok (.imul, 1) := by decide +kernel
theorem dX4_setSwaps_34 : decode cX4_setSwaps 34 = .ok (.iload_n 2, 1) := by decide +kernel
theorem dX4_setSwaps_35 : decode cX4_setSwaps 35 = .ok (.iadd, 1) := by decide +kernel
theorem dX4_setSwaps_36 : decode cX4_setSwaps 36 = .ok (.aload_n 0, 1) := by decide +kernel
theorem dX4_setSwaps_37 : decode cX4_setSwaps 37 = .ok (.iload_n 1, 1) := by decide +kernel
theorem dX4_setSwaps_38 : decode cX4_setSwaps 38 = .ok (.iload_n 3, 1) := by decide +kernel
theorem dX4_setSwaps_39 : decode cX4_setSwaps 39 = .ok (.iload 4, 2) := by decide +kernel
theorem dX4_setSwaps_41 : decode cX4_setSwaps 41 = .ok (.invokevirtual 54, 3) := by decide +kernel
theorem dX4_setSwaps_44 : decode cX4_setSwaps 44 = .ok (.iastore, 1) := by decide +kernel
theorem dX4_setSwaps_45 : decode cX4_setSwaps 45 = .ok (.iinc 2 1, 3) := by decide +kernel
theorem dX4_setSwaps_48 : decode cX4_setSwaps 48 = .ok (.iinc 4 1, 3) := by decide +kernel
theorem dX4_setSwaps_51 : decode cX4_setSwaps 51 = .ok (.goto (-34), 3) := by decide +kernel
theorem dX4_setSwaps_54 : decode cX4_setSwaps 54 = .ok (.iinc 3 1, 3) := by decide +kernel
theorem dX4_setSwaps_57 : decode cX4_setSwaps 57 = .ok (.goto (-53), 3) := by decide +kernel
theorem dX4_setSwaps_60 : decode cX4_setSwaps 60 = .ok (.aload_n 0, 1) := by decide +kernel
theorem dX4_setSwaps_61 : decode cX4_setSwaps 61 = .ok (.iload_n 2, 1) := by decide +kernel
theorem dX4_setSwaps_62 : decode cX4_setSwaps 62 = .ok (.putfield 58, 3) := by decide +kernel
theorem dX4_setSwaps_65 : decode cX4_setSwaps 65 = .ok (.return_, 1) := by decide +kernel
theorem dX4_rankWithSwapped_0 : decode cX4_rankWithSwapped 0 = .ok (.aload_n 0, 1) := by decide +kernel
theorem dX4_rankWithSwapped_1 : decode cX4_rankWithSwapped 1 = .ok (.getfield 47, 3) := by decide +kernel
theorem dX4_rankWithSwapped_4 : decode cX4_rankWithSwapped 4 = .ok (.istore 4, 2) := by decide +kernel
theorem dX4_rankWithSwapped_6 : decode cX4_rankWithSwapped 6 = .ok (.iconst 0, 1) := by decide +kernel
theorem dX4_rankWithSwapped_7 : decode cX4_rankWithSwapped 7 = .ok (.istore 5, 2) := by decide +kernel
theorem dX4_rankWithSwapped_9 : decode cX4_rankWithSwapped 9 = .ok (.iload 5, 2) := by decide +kernel
theorem dX4_rankWithSwapped_11 : decode cX4_rankWithSwapped 11 = .ok (.aload_n 0, 1) := by decide +kernel
theorem dX4_rankWithSwapped_12 : decode cX4_rankWithSwapped 12 = .ok (.getfield 27, 3) := by decide +kernel
theorem dX4_rankWithSwapped_15 : decode cX4_rankWithSwapped 15 = .ok (.if_icmp .ge 59, 3) := by decide +kernel
theorem dX4_rankWithSwapped_18 : decode cX4_rankWithSwapped 18 = .ok (.aload_n 0, 1) := by decide +kernel
theorem dX4_rankWithSwapped_19 : decode cX4_rankWithSwapped 19 = .ok (.iload_n 1, 1) := by decide +kernel
theorem dX4_rankWithSwapped_20 : decode cX4_rankWithSwapped 20 = .ok (.iload 5, 2) := by decide +kernel
theorem dX4_rankWithSwapped_22 : decode cX4_rankWithSwapped 22 = .ok (.invokevirtual 61, 3) := by decide +kernel
theorem dX4_rankWithSwapped_25 : decode cX4_rankWithSwapped 25 = .ok (.istore 6, 2) := by decide +kernel
theorem dX4_rankWithSwapped_27 : decode cX4_rankWithSwapped 27 = .ok (.iload 6, 2) := by decide +kernel
theorem dX4_rankWithSwapped_29 : decode cX4_rankWithSwapped 29 = .ok (.iload_n 2, 1) := by decide +kernel
theorem dX4_rankWithSwapped_30 : decode cX4_rankWithSwapped 30 = .ok (.if_icmp .ne 7, 3) := by decide +kernel
theorem dX4_rankWithSwapped_33 : decode cX4_rankWithSwapped 33 = .ok (.iload_n 3, 1) := by decide +kernel
theorem dX4_rankWithSwapped_34 : decode cX4_rankWithSwapped 34 = .ok (.goto 15, 3) := by decide +kernel
theorem dX4_rankWithSwapped_37 : decode cX4_rankWithSwapped 37 = .ok (.iload 6, 2) := by decide +kernel
theorem dX4_rankWithSwapped_39 : decode cX4_rankWithSwapped 39 = .ok (.iload_n 3, 1) := by decide +kernel
theorem dX4_rankWithSwapped_40 : decode cX4_rankWithSwapped 40 = .ok (.if_icmp .ne 7, 3) := by decide +kernel
theorem dX4_rankWithSwapped_43 : decode cX4_rankWithSwapped 43 = .ok (.iload_n 2, 1) := by decide +kernel
theorem dX4_rankWithSwapped_44 : decode cX4_rankWithSwapped 44 = .ok (.goto 5, 3) := by decide +kernel
theorem dX4_rankWithSwapped_49 : decode cX4_rankWithSwapped 49 = .ok (.istore 7, 2) := by decide +kernel
theorem dX4_rankWithSwapped_51 : decode cX4_rankWithSwapped 51 = .ok (.iload 4, 2) := by decide +kernel
theorem dX4_rankWithSwapped_53 : decode cX4_rankWithSwapped 53 = .ok (.aload_n 0, 1) := by decide +kernel
theorem dX4_rankWithSwapped_54 : decode cX4_rankWithSwapped 54 = .ok (.getfield 18, 3) := by decide +kernel
theorem dX4_rankWithSwapped_57 : decode cX4_rankWithSwapped 57 = .ok (.iload 5, 2) := by decide +kernel
theorem dX4_rankWithSwapped_59 : decode cX4_rankWithSwapped 59 = .ok (.iconst 4, 1) := by decide +kernel
theorem dX4_rankWithSwapped_60 : decode cX4_rankWithSwapped 60 = .ok (.imul, 1) := by decide +kernel
theorem dX4_rankWithSwapped_61 : decode cX4_rankWithSwapped 61 = .ok (.iload 7, 2) := by decide +kernel
theorem dX4_rankWithSwapped_63 : decode cX4_rankWithSwapped 63 = .ok (.iadd, 1) := by decide +kernel
theorem dX4_rankWithSwapped_64 : decode cX4_rankWithSwapped 64 = .ok (.iaload, 1) := by decide +kernel
theorem dX4_rankWithSwapped_65 : decode cX4_rankWithSwapped 65 = .ok (.iand, 1) := by decide +kernel
theorem dX4_rankWithSwapped_66 : decode cX4_rankWithSwapped 66 = .ok (.istore 4, 2) := by decide +kernel
theorem dX4_rankWithSwapped_68 : decode cX4_rankWithSwapped 68 = .ok (.iinc 5 1, 3) := by decide +kernel
theorem dX4_rankWithSwapped_71 : decode cX4_rankWithSwapped 71 = .ok (.goto (-62), 3) := by decide +kernel
theorem dX4_rankWithSwapped_74 : decode cX4_rankWithSwapped 74 = .ok (.iload 4, 2) := by decide +kernel
theorem dX4_rankWithSwapped_76 : decode cX4_rankWithSwapped 76 = .ok (.invokestatic 65, 3) := by decide +kernel
theorem dX4_rankWithSwapped_79 : decode cX4_rankWithSwapped 79 = .ok (.ireturn, 1) := by decide +kernel
theorem dX4_groupAt_0 : decode cX4_groupAt 0 = .ok (.aload_n 0, 1) := by decide +kernel
theorem dX4_groupAt_1 : decode cX4_groupAt 1 = .ok (.getfield 9, 3) := by decide +kernel
theorem dX4_groupAt_4 : decode cX4_groupAt 4 = .ok (.iload_n 1, 1) := by decide +kernel
theorem dX4_groupAt_5 : decode cX4_groupAt 5 = .ok (.iconst 4, 1) := by decide +kernel
theorem dX4_groupAt_6 : decode cX4_groupAt 6 = .ok (.imul, 1) := by decide +kernel
theorem dX4_groupAt_7 : decode cX4_groupAt 7 = .ok (.iload_n 2, 1) := by decide +kernel
theorem dX4_groupAt_8 : decode cX4_groupAt 8 = .ok (.iadd, 1) := by decide +kernel
theorem dX4_groupAt_9 : decode cX4_groupAt 9 = .ok (.iaload, 1) := by decide +kernel
theorem dX4_groupAt_10 : decode cX4_groupAt 10 = .ok (.ireturn, 1) := by decide +kernel
theorem dX4_only_0 : decode cX4_only 0 = .ok (.iload_n 0, 1) := by decide +kernel
theorem dX4_only_1 : decode cX4_only 1 = .ok (.ifCond .ne 7, 3) := by decide +kernel
theorem dX4_only_8 : decode cX4_only 8 = .ok (.iload_n 0, 1) := by decide +kernel
theorem dX4_only_9 : decode cX4_only 9 = .ok (.iload_n 0, 1) := by decide +kernel
theorem dX4_only_10 : decode cX4_only 10 = .ok (.ineg, 1) := by decide +kernel
theorem dX4_only_11 : decode cX4_only 11 = .ok (.iand, 1) := by decide +kernel
theorem dX4_only_12 : decode cX4_only 12 = .ok (.iconst 1, 1) := by decide +kernel
theorem dX4_only_13 : decode cX4_only 13 = .ok (.isub, 1) := by decide +kernel
theorem dX4_only_14 : decode cX4_only 14 = .ok (.invokestatic 69, 3) := by decide +kernel
theorem dX4_only_17 : decode cX4_only 17 = .ok (.ireturn, 1) := by decide +kernel
theorem dX5_init_0 : decode cX5_init 0 = .ok (.aload_n 0, 1) := by decide +kernel
theorem dX5_init_1 : decode cX5_init 1 = .ok (.invokespecial 3, 3) := by decide +kernel
theorem dX5_init_4 : decode cX5_init 4 = .ok (.aload_n 0, 1) := by decide +kernel
theorem dX5_init_5 : decode cX5_init 5 = .ok (.new 9, 3) := by decide +kernel
theorem dX5_init_8 : decode cX5_init 8 = .ok (.dup, 1) := by decide +kernel
theorem dX5_init_9 : decode cX5_init 9 = .ok (.invokespecial 11, 3) := by decide +kernel
theorem dX5_init_12 : decode cX5_init 12 = .ok (.putfield 12, 3) := by decide +kernel
theorem dX5_init_15 : decode cX5_init 15 = .ok (.aload_n 0, 1) := by decide +kernel
theorem dX5_init_16 : decode cX5_init 16 = .ok (.iconst (-1), 1) := by decide +kernel
theorem dX5_init_17 : decode cX5_init 17 = .ok (.putfield 18, 3) := by decide +kernel
theorem dX5_init_20 : decode cX5_init 20 = .ok (.aload_n 0, 1) := by decide +kernel
theorem dX5_init_21 : decode cX5_init 21 = .ok (.aload_n 1, 1) := by decide +kernel
theorem dX5_init_22 : decode cX5_init 22 = .ok (.putfield 22, 3) := by decide +kernel
theorem dX5_init_25 : decode cX5_init 25 = .ok (.return_, 1) := by decide +kernel
theorem dX5_readLines_0 : decode cX5_readLines 0 = .ok (.aload_n 0, 1) := by decide +kernel
theorem dX5_readLines_1 : decode cX5_readLines 1 = .ok (.iload_n 1, 1) := by decide +kernel
theorem dX5_readLines_2 : decode cX5_readLines 2 = .ok (.aload_n 0, 1) := by decide +kernel
theorem dX5_readLines_3 : decode cX5_readLines 3 = .ok (.getfield 22, 3) := by decide +kernel
theorem dX5_readLines_6 : decode cX5_readLines 6 = .ok (.arraylength, 1) := by decide +kernel
theorem dX5_readLines_7 : decode cX5_readLines 7 = .ok (.invokestatic 26, 3) := by decide +kernel
theorem dX5_readLines_10 : decode cX5_readLines 10 = .ok (.putfield 32, 3) := by decide +kernel
theorem dX5_readLines_13 : decode cX5_readLines 13 = .ok (.aload_n 0, 1) := by decide +kernel
theorem dX5_readLines_14 : decode cX5_readLines 14 = .ok (.iconst 0, 1) := by decide +kernel
theorem dX5_readLines_15 : decode cX5_readLines 15 = .ok (.putfield 35, 3) := by decide +kernel
theorem dX5_readLines_18 : decode cX5_readLines 18 = .ok (.aload_n 0, 1) := by decide +kernel
theorem dX5_readLines_19 : decode cX5_readLines 19 = .ok (.iconst 0, 1) := by decide +kernel
theorem dX5_readLines_20 : decode cX5_readLines 20 = .ok (.putfield 38, 3) := by decide +kernel
theorem dX5_readLines_23 : decode cX5_readLines 23 = .ok (.aload_n 0, 1) := by decide +kernel
theorem dX5_readLines_24 : decode cX5_readLines 24 = .ok (.iconst (-1), 1) := by decide +kernel
theorem dX5_readLines_25 : decode cX5_readLines 25 = .ok (.putfield 18, 3) := by decide +kernel
theorem dX5_readLines_28 : decode cX5_readLines 28 = .ok (.aload_n 0, 1) := by decide +kernel
theorem dX5_readLines_29 : decode cX5_readLines 29 = .ok (.getfield 12, 3) := by decide +kernel
theorem dX5_readLines_32 : decode cX5_readLines 32 = .ok (.invokevirtual 41, 3) := by decide +kernel
theorem dX5_readLines_35 : decode cX5_readLines 35 = .ok (.aload_n 0, 1) := by decide +kernel
theorem dX5_readLines_36 : decode cX5_readLines 36 = .ok (.invokevirtual 44, 3) := by decide +kernel
theorem dX5_readLines_39 : decode cX5_readLines 39 = .ok (.iconst 0, 1) := by decide +kernel
theorem dX5_readLines_40 : decode cX5_readLines 40 = .ok (.istore_n 2, 1) := by decide +kernel
theorem dX5_readLines_41 : decode cX5_readLines 41 = .ok (.iconst 0, 1) := by decide +kernel
theorem dX5_readLines_42 : decode cX5_readLines 42 = .ok (.istore_n 3, 1) := by decide +kernel
theorem dX5_readLines_43 : decode cX5_readLines 43 = .ok (.iload_n 3, 1) := by decide +kernel
theorem dX5_readLines_44 : decode cX5_readLines 44 = .ok (.aload_n 0, 1) := by decide +kernel
theorem dX5_readLines_45 : decode cX5_readLines 45 = .ok (.getfield 32, 3) := by decide +kernel
theorem dX5_readLines_48 : decode cX5_readLines 48 = .ok (.if_icmp .gt 42, 3) := by decide +kernel
theorem dX5_readLines_51 : decode cX5_readLines 51 = .ok (.aload_n 0, 1) := by decide +kernel
theorem dX5_readLines_52 : decode cX5_readLines 52 = .ok (.getfield 47, 3) := by decide +kernel
theorem dX5_readLines_55 : decode cX5_readLines 55 = .ok (.ifCond .eq 35, 3) := by decide +kernel
theorem dX5_readLines_90 : decode cX5_readLines 90 = .ok (.iload_n 2, 1) := by decide +kernel
theorem dX5_readLines_91 : decode cX5_readLines 91 = .ok (.ireturn, 1) := by decide +kernel
theorem dX5_step_0 : decode cX5_step 0 = .ok (.aload_n 0, 1) := by decide +kernel
theorem dX5_step_1 : decode cX5_step 1 = .ok (.getfield 35, 3) := by decide +kernel
theorem dX5_step_4 : decode cX5_step 4 = .ok (.aload_n 0, 1) := by decide +kernel
theorem dX5_step_5 : decode cX5_step 5 = .ok (.getfield 32, 3) := by decide +kernel
theorem dX5_step_8 : decode cX5_step 8 = .ok (.if_icmp .ge 31, 3) := by decide +kernel
theorem dX5_step_39 : decode cX5_step 39 = .ok (.aload_n 0, 1) := by decide +kernel
theorem dX5_step_40 : decode cX5_step 40 = .ok (.aload_n 0, 1) := by decide +kernel
theorem dX5_step_41 : decode cX5_step 41 = .ok (.getfield 35, 3) := by decide +kernel
theorem dX5_step_44 : decode cX5_step 44 = .ok (.putfield 54, 3) := by decide +kernel
theorem dX5_step_47 : decode cX5_step 47 = .ok (.aload_n 0, 1) := by decide +kernel
theorem dX5_step_48 : decode cX5_step 48 = .ok (.getfield 35, 3) := by decide +kernel
theorem dX5_step_51 : decode cX5_step 51 = .ok (.aload_n 0, 1) := by decide +kernel
theorem dX5_step_52 : decode cX5_step 52 = .ok (.getfield 32, 3) := by decide +kernel
theorem dX5_step_55 : decode cX5_step 55 = .ok (.if_icmp .lt 11, 3) := by decide +kernel
theorem dX5_step_58 : decode cX5_step 58 = .ok (.aload_n 0, 1) := by decide +kernel
theorem dX5_step_59 : decode cX5_step 59 = .ok (.iconst 0, 1) := by decide +kernel
theorem dX5_step_60 : decode cX5_step 60 = .ok (.putfield 47, 3) := by decide +kernel
theorem dX5_step_63 : decode cX5_step 63 = .ok (.goto 80, 3) := by decide +kernel
theorem dX5_step_143 : decode cX5_step 143 = .ok (.return_, 1) := by decide +kernel
theorem dX6_init_0 : decode cX6_init 0 = .ok (.aload_n 0, 1) := by decide +kernel
theorem dX6_init_1 : decode cX6_init 1 = .ok (.invokespecial 3, 3) := by decide +kernel
theorem dX6_init_4 : decode cX6_init 4 = .ok (.aload_n 0, 1) := by decide +kernel
theorem dX6_init_5 : decode cX6_init 5 = .ok (.iconst 4, 1) := by decide +kernel
theorem dX6_init_6 : decode cX6_init 6 = .ok (.newarray .int, 2) := by decide +kernel
theorem dX6_init_8 : decode cX6_init 8 = .ok (.putfield 9, 3) := by decide +kernel
theorem dX6_init_11 : decode cX6_init 11 = .ok (.aload_n 0, 1) := by decide +kernel
theorem dX6_init_12 : decode cX6_init 12 = .ok (.bipush 96, 2) := by decide +kernel
theorem dX6_init_14 : decode cX6_init 14 = .ok (.newarray .long, 2) := by decide +kernel
theorem dX6_init_16 : decode cX6_init 16 = .ok (.putfield 15, 3) := by decide +kernel
theorem dX6_init_19 : decode cX6_init 19 = .ok (.aload_n 0, 1) := by decide +kernel
theorem dX6_init_20 : decode cX6_init 20 = .ok (.aload_n 1, 1) := by decide +kernel
theorem dX6_init_21 : decode cX6_init 21 = .ok (.getfield 19, 3) := by decide +kernel
theorem dX6_init_24 : decode cX6_init 24 = .ok (.putfield 25, 3) := by decide +kernel
theorem dX6_init_27 : decode cX6_init 27 = .ok (.aload_n 0, 1) := by decide +kernel
theorem dX6_init_28 : decode cX6_init 28 = .ok (.aload_n 1, 1) := by decide +kernel
theorem dX6_init_29 : decode cX6_init 29 = .ok (.getfield 26, 3) := by decide +kernel
theorem dX6_init_32 : decode cX6_init 32 = .ok (.putfield 30, 3) := by decide +kernel
theorem dX6_init_35 : decode cX6_init 35 = .ok (.aload_n 0, 1) := by decide +kernel
theorem dX6_init_36 : decode cX6_init 36 = .ok (.aload_n 2, 1) := by decide +kernel
theorem dX6_init_37 : decode cX6_init 37 = .ok (.putfield 31, 3) := by decide +kernel
theorem dX6_init_40 : decode cX6_init 40 = .ok (.aload_n 0, 1) := by decide +kernel
theorem dX6_init_41 : decode cX6_init 41 = .ok (.new 35, 3) := by decide +kernel
theorem dX6_init_44 : decode cX6_init 44 = .ok (.dup, 1) := by decide +kernel
theorem dX6_init_45 : decode cX6_init 45 = .ok (.aload_n 1, 1) := by decide +kernel
theorem dX6_init_46 : decode cX6_init 46 = .ok (.getfield 26, 3) := by decide +kernel
theorem dX6_init_49 : decode cX6_init 49 = .ok (.invokespecial 37, 3) := by decide +kernel
theorem dX6_init_52 : decode cX6_init 52 = .ok (.putfield 40, 3) := by decide +kernel
theorem dX6_init_55 : decode cX6_init 55 = .ok (.return_, 1) := by decide +kernel
theorem dX6_beginAtStart_0 : decode cX6_beginAtStart 0 = .ok (.aload_n 0, 1) := by decide +kernel
theorem dX6_beginAtStart_1 : decode cX6_beginAtStart 1 = .ok (.iconst 0, 1) := by decide +kernel
theorem dX6_beginAtStart_2 : decode cX6_beginAtStart 2 = .ok (.putfield 44, 3) := by decide +kernel
theorem dX6_beginAtStart_5 : decode cX6_beginAtStart 5 = .ok (.aload_n 0, 1) := by decide +kernel
theorem dX6_beginAtStart_6 : decode cX6_beginAtStart 6 = .ok (.iconst 0, 1) := by decide +kernel
theorem dX6_beginAtStart_7 : decode cX6_beginAtStart 7 = .ok (.putfield 48, 3) := by decide +kernel
theorem dX6_beginAtStart_10 : decode cX6_beginAtStart 10 = .ok (.aload_n 0, 1) := by decide +kernel
theorem dX6_beginAtStart_11 : decode cX6_beginAtStart 11 = .ok (.aload_n 0, 1) := by decide +kernel
theorem dX6_beginAtStart_12 : decode cX6_beginAtStart 12 = .ok (.getfield 30, 3) := by decide +kernel
theorem dX6_beginAtStart_15 : decode cX6_beginAtStart 15 = .ok (.getfield 51, 3) := by decide +kernel
theorem dX6_beginAtStart_18 : decode cX6_beginAtStart 18 = .ok (.putfield 56, 3) := by decide +kernel
theorem dX6_beginAtStart_21 : decode cX6_beginAtStart 21 = .ok (.aload_n 0, 1) := by decide +kernel
theorem dX6_beginAtStart_22 : decode cX6_beginAtStart 22 = .ok (.iconst 1, 1) := by decide +kernel
theorem dX6_beginAtStart_23 : decode cX6_beginAtStart 23 = .ok (.aload_n 0, 1) := by decide +kernel
theorem dX6_beginAtStart_24 : decode cX6_beginAtStart 24 = .ok (.getfield 25, 3) := by decide +kernel
theorem dX6_beginAtStart_27 : decode cX6_beginAtStart 27 = .ok (.getfield 59, 3) := by decide +kernel
theorem dX6_beginAtStart_30 : decode cX6_beginAtStart 30 = .ok (.ishl, 1) := by decide +kernel
theorem dX6_beginAtStart_31 : decode cX6_beginAtStart 31 = .ok (.iconst 1, 1) := by decide +kernel
theorem dX6_beginAtStart_32 : decode cX6_beginAtStart 32 = .ok (.isub, 1) := by decide +kernel
theorem dX6_beginAtStart_33 : decode cX6_beginAtStart 33 = .ok (.putfield 64, 3) := by decide +kernel
theorem dX6_beginAtStart_36 : decode cX6_beginAtStart 36 = .ok (.aload_n 0, 1) := by decide +kernel
theorem dX6_beginAtStart_37 : decode cX6_beginAtStart 37 = .ok (.getfield 40, 3) := by decide +kernel
theorem dX6_beginAtStart_40 : decode cX6_beginAtStart 40 = .ok (.iload_n 1, 1) := by decide +kernel
theorem dX6_beginAtStart_41 : decode cX6_beginAtStart 41 = .ok (.aload_n 2, 1) := by decide +kernel
theorem dX6_beginAtStart_42 : decode cX6_beginAtStart 42 = .ok (.invokevirtual 67, 3) := by decide +kernel
theorem dX6_beginAtStart_45 : decode cX6_beginAtStart 45 = .ok (.return_, 1) := by decide +kernel
theorem dX6_reckon_0 : decode cX6_reckon 0 = .ok (.aload_n 1, 1) := by decide +kernel
theorem dX6_reckon_1 : decode cX6_reckon 1 = .ok (.invokevirtual 99, 3) := by decide +kernel
theorem dX6_reckon_4 : decode cX6_reckon 4 = .ok (.aload_n 0, 1) := by decide +kernel
theorem dX6_reckon_5 : decode cX6_reckon 5 = .ok (.getfield 44, 3) := by decide +kernel
theorem dX6_reckon_8 : decode cX6_reckon 8 = .ok (.aload_n 0, 1) := by decide +kernel
theorem dX6_reckon_9 : decode cX6_reckon 9 = .ok (.getfield 25, 3) := by decide +kernel
theorem dX6_reckon_12 : decode cX6_reckon 12 = .ok (.getfield 104, 3) := by decide +kernel
theorem dX6_reckon_15 : decode cX6_reckon 15 = .ok (.if_icmp .ge 21, 3) := by decide +kernel
theorem dX6_reckon_36 : decode cX6_reckon 36 = .ok (.aload_n 0, 1) := by decide +kernel
theorem dX6_reckon_37 : decode cX6_reckon 37 = .ok (.aload_n 1, 1) := by decide +kernel
theorem dX6_reckon_38 : decode cX6_reckon 38 = .ok (.aload_n 2, 1) := by decide +kernel
theorem dX6_reckon_39 : decode cX6_reckon 39 = .ok (.aload_n 0, 1) := by decide +kernel
theorem dX6_reckon_40 : decode cX6_reckon 40 = .ok (.getfield 25, 3) := by decide +kernel
theorem dX6_reckon_43 : decode cX6_reckon 43 = .ok (.getfield 104, 3) := by decide +kernel
theorem dX6_reckon_46 : decode cX6_reckon 46 = .ok (.lconst 1, 1) := by decide +kernel
theorem dX6_reckon_47 : decode cX6_reckon 47 = .ok (.invokevirtual 111, 3) := by decide +kernel
theorem dX6_reckon_50 : decode cX6_reckon 50 = .ok (.aload_n 1, 1) := by decide +kernel
theorem dX6_reckon_51 : decode cX6_reckon 51 = .ok (.iconst 1, 1) := by decide +kernel
theorem dX6_reckon_52 : decode cX6_reckon 52 = .ok (.putfield 115, 3) := by decide +kernel
theorem dX6_reckon_55 : decode cX6_reckon 55 = .ok (.return_, 1) := by decide +kernel
theorem dX6_addAhead_0 : decode cX6_addAhead 0 = .ok (.aload_n 1, 1) := by decide +kernel
theorem dX6_addAhead_1 : decode cX6_addAhead 1 = .ok (.dup, 1) := by decide +kernel
theorem dX6_addAhead_2 : decode cX6_addAhead 2 = .ok (.getfield 155, 3) := by decide +kernel
theorem dX6_addAhead_5 : decode cX6_addAhead 5 = .ok (.lload 4, 2) := by decide +kernel
theorem dX6_addAhead_7 : decode cX6_addAhead 7 = .ok (.ladd, 1) := by decide +kernel
theorem dX6_addAhead_8 : decode cX6_addAhead 8 = .ok (.putfield 155, 3) := by decide +kernel
theorem dX6_addAhead_11 : decode cX6_addAhead 11 = .ok (.iconst 0, 1) := by decide +kernel
theorem dX6_addAhead_12 : decode cX6_addAhead 12 = .ok (.istore 6, 2) := by decide +kernel
theorem dX6_addAhead_14 : decode cX6_addAhead 14 = .ok (.iload 6, 2) := by decide +kernel
theorem dX6_addAhead_16 : decode cX6_addAhead 16 = .ok (.iload_n 3, 1) := by decide +kernel
theorem dX6_addAhead_17 : decode cX6_addAhead 17 = .ok (.if_icmp .ge 163, 3) := by decide +kernel
theorem dX6_addAhead_180 : decode cX6_addAhead 180 = .ok (.return_, 1) := by decide +kernel
theorem dX7_init_0 : decode cX7_init 0 = .ok (.aload_n 0, 1) := by decide +kernel
theorem dX7_init_1 : decode cX7_init 1 = .ok (.invokespecial 3, 3) := by decide +kernel
theorem dX7_init_4 : decode cX7_init 4 = .ok (.aload_n 0, 1) := by decide +kernel
theorem dX7_init_5 : decode cX7_init 5 = .ok (.iconst 4, 1) := by decide +kernel
theorem dX7_init_6 : decode cX7_init 6 = .ok (.newarray .int, 2) := by decide +kernel
theorem dX7_init_8 : decode cX7_init 8 = .ok (.putfield 9, 3) := by decide +kernel
theorem dX7_init_11 : decode cX7_init 11 = .ok (.aload_n 0, 1) := by decide +kernel
theorem dX7_init_12 : decode cX7_init 12 = .ok (.bipush 24, 2) := by decide +kernel
theorem dX7_init_14 : decode cX7_init 14 = .ok (.newarray .long, 2) := by decide +kernel
theorem dX7_init_16 : decode cX7_init 16 = .ok (.putfield 15, 3) := by decide +kernel
theorem dX7_init_19 : decode cX7_init 19 = .ok (.aload_n 0, 1) := by decide +kernel
theorem dX7_init_20 : decode cX7_init 20 = .ok (.bipush 64, 2) := by decide +kernel
theorem dX7_init_22 : decode cX7_init 22 = .ok (.newarray .int, 2) := by decide +kernel
theorem dX7_init_24 : decode cX7_init 24 = .ok (.putfield 19, 3) := by decide +kernel
theorem dX7_init_27 : decode cX7_init 27 = .ok (.aload_n 0, 1) := by decide +kernel
theorem dX7_init_28 : decode cX7_init 28 = .ok (.sipush 1040, 3) := by decide +kernel
theorem dX7_init_31 : decode cX7_init 31 = .ok (.newarray .long, 2) := by decide +kernel
theorem dX7_init_33 : decode cX7_init 33 = .ok (.putfield 22, 3) := by decide +kernel
theorem dX7_init_36 : decode cX7_init 36 = .ok (.aload_n 0, 1) := by decide +kernel
theorem dX7_init_37 : decode cX7_init 37 = .ok (.aload_n 1, 1) := by decide +kernel
theorem dX7_init_38 : decode cX7_init 38 = .ok (.putfield 25, 3) := by decide +kernel
theorem dX7_init_41 : decode cX7_init 41 = .ok (.return_, 1) := by decide +kernel
theorem dX7_begin_0 : decode cX7_begin 0 = .ok (.aload_n 0, 1) := by decide +kernel
theorem dX7_begin_1 : decode cX7_begin 1 = .ok (.iload_n 1, 1) := by decide +kernel
theorem dX7_begin_2 : decode cX7_begin 2 = .ok (.putfield 29, 3) := by decide +kernel
theorem dX7_begin_5 : decode cX7_begin 5 = .ok (.aload_n 2, 1) := by decide +kernel
theorem dX7_begin_6 : decode cX7_begin 6 = .ok (.iconst 0, 1) := by decide +kernel
theorem dX7_begin_7 : decode cX7_begin 7 = .ok (.aload_n 0, 1) := by decide +kernel
theorem dX7_begin_8 : decode cX7_begin 8 = .ok (.getfield 9, 3) := by decide +kernel
theorem dX7_begin_11 : decode cX7_begin 11 = .ok (.iconst 0, 1) := by decide +kernel
theorem dX7_begin_12 : decode cX7_begin 12 = .ok (.iconst 4, 1) := by decide +kernel
theorem dX7_begin_13 : decode cX7_begin 13 = .ok (.invokestatic 33, 3) := by decide +kernel
theorem dX7_begin_16 : decode cX7_begin 16 = .ok (.aload_n 0, 1) := by decide +kernel
theorem dX7_begin_17 : decode cX7_begin 17 = .ok (.getfield 19, 3) := by decide +kernel
theorem dX7_begin_20 : decode cX7_begin 20 = .ok (.iconst 0, 1) := by decide +kernel
theorem dX7_begin_21 : decode cX7_begin 21 = .ok (.invokestatic 39, 3) := by decide +kernel
theorem dX7_begin_24 : decode cX7_begin 24 = .ok (.return_, 1) := by decide +kernel
theorem dX8_init_0 : decode cX8_init 0 = .ok (.aload_n 0, 1) := by decide +kernel
theorem dX8_init_1 : decode cX8_init 1 = .ok (.invokespecial 3, 3) := by decide +kernel
theorem dX8_init_4 : decode cX8_init 4 = .ok (.aload_n 0, 1) := by decide +kernel
theorem dX8_init_5 : decode cX8_init 5 = .ok (.iconst 4, 1) := by decide +kernel
theorem dX8_init_6 : decode cX8_init 6 = .ok (.newarray .int, 2) := by decide +kernel
theorem dX8_init_8 : decode cX8_init 8 = .ok (.putfield 9, 3) := by decide +kernel
theorem dX8_init_11 : decode cX8_init 11 = .ok (.aload_n 0, 1) := by decide +kernel
theorem dX8_init_12 : decode cX8_init 12 = .ok (.iconst 4, 1) := by decide +kernel
theorem dX8_init_13 : decode cX8_init 13 = .ok (.newarray .int, 2) := by decide +kernel
theorem dX8_init_15 : decode cX8_init 15 = .ok (.putfield 15, 3) := by decide +kernel
theorem dX8_init_18 : decode cX8_init 18 = .ok (.aload_n 0, 1) := by decide +kernel
theorem dX8_init_19 : decode cX8_init 19 = .ok (.bipush 12, 2) := by decide +kernel
theorem dX8_init_21 : decode cX8_init 21 = .ok (.newarray .int, 2) := by decide +kernel
theorem dX8_init_23 : decode cX8_init 23 = .ok (.putfield 18, 3) := by decide +kernel
theorem dX8_init_26 : decode cX8_init 26 = .ok (.aload_n 0, 1) := by decide +kernel
theorem dX8_init_27 : decode cX8_init 27 = .ok (.bipush 12, 2) := by decide +kernel
theorem dX8_init_29 : decode cX8_init 29 = .ok (.newarray .int, 2) := by decide +kernel
theorem dX8_init_31 : decode cX8_init 31 = .ok (.putfield 21, 3) := by decide +kernel
theorem dX8_init_34 : decode cX8_init 34 = .ok (.aload_n 0, 1) := by decide +kernel
theorem dX8_init_35 : decode cX8_init 35 = .ok (.iconst 4, 1) := by decide +kernel
theorem dX8_init_36 : decode cX8_init 36 = .ok (.newarray .int, 2) := by decide +kernel
theorem dX8_init_38 : decode cX8_init 38 = .ok (.putfield 24, 3) := by decide +kernel
theorem dX8_init_41 : decode cX8_init 41 = .ok (.aload_n 0, 1) := by decide +kernel
theorem dX8_init_42 : decode cX8_init 42 = .ok (.aload_n 1, 1) := by decide +kernel
theorem dX8_init_43 : decode cX8_init 43 = .ok (.putfield 27, 3) := by decide +kernel
theorem dX8_init_46 : decode cX8_init 46 = .ok (.aload_n 0, 1) := by decide +kernel
theorem dX8_init_47 : decode cX8_init 47 = .ok (.aload_n 2, 1) := by decide +kernel
theorem dX8_init_48 : decode cX8_init 48 = .ok (.putfield 31, 3) := by decide +kernel
theorem dX8_init_51 : decode cX8_init 51 = .ok (.return_, 1) := by decide +kernel
theorem dX8_putInTurn_0 : decode cX8_putInTurn 0 = .ok (.getstatic 35, 3) := by decide +kernel
theorem dX8_putInTurn_3 : decode cX8_putInTurn 3 = .ok (.iconst 0, 1) := by decide +kernel
theorem dX8_putInTurn_4 : decode cX8_putInTurn 4 = .ok (.aload_n 0, 1) := by decide +kernel
theorem dX8_putInTurn_5 : decode cX8_putInTurn 5 = .ok (.getfield 9, 3) := by decide +kernel
theorem dX8_putInTurn_8 : decode cX8_putInTurn 8 = .ok (.iconst 0, 1) := by decide +kernel
theorem dX8_putInTurn_9 : decode cX8_putInTurn 9 = .ok (.iconst 4, 1) := by decide +kernel
theorem dX8_putInTurn_10 : decode cX8_putInTurn 10 = .ok (.invokestatic 38, 3) := by decide +kernel
theorem dX8_putInTurn_13 : decode cX8_putInTurn 13 = .ok (.getstatic 35, 3) := by decide +kernel
theorem dX8_putInTurn_16 : decode cX8_putInTurn 16 = .ok (.iconst 0, 1) := by decide +kernel
theorem dX8_putInTurn_17 : decode cX8_putInTurn 17 = .ok (.aload_n 0, 1) := by decide +kernel
theorem dX8_putInTurn_18 : decode cX8_putInTurn 18 = .ok (.getfield 15, 3) := by decide +kernel
theorem dX8_putInTurn_21 : decode cX8_putInTurn 21 = .ok (.iconst 0, 1) := by decide +kernel
theorem dX8_putInTurn_22 : decode cX8_putInTurn 22 = .ok (.iconst 4, 1) := by decide +kernel
theorem dX8_putInTurn_23 : decode cX8_putInTurn 23 = .ok (.invokestatic 38, 3) := by decide +kernel
theorem dX8_putInTurn_26 : decode cX8_putInTurn 26 = .ok (.aload_n 0, 1) := by decide +kernel
theorem dX8_putInTurn_27 : decode cX8_putInTurn 27 = .ok (.invokevirtual 44, 3) := by decide +kernel
theorem dX8_putInTurn_30 : decode cX8_putInTurn 30 = .ok (.return_, 1) := by decide +kernel
theorem dX8_empty_0 : decode cX8_empty 0 = .ok (.aload_n 0, 1) := by decide +kernel
theorem dX8_empty_1 : decode cX8_empty 1 = .ok (.iconst 0, 1) := by decide +kernel
theorem dX8_empty_2 : decode cX8_empty 2 = .ok (.putfield 47, 3) := by decide +kernel
theorem dX8_empty_5 : decode cX8_empty 5 = .ok (.aload_n 0, 1) := by decide +kernel
theorem dX8_empty_6 : decode cX8_empty 6 = .ok (.getfield 18, 3) := by decide +kernel
theorem dX8_empty_9 : decode cX8_empty 9 = .ok (.iconst (-1), 1) := by decide +kernel
theorem dX8_empty_10 : decode cX8_empty 10 = .ok (.invokestatic 51, 3) := by decide +kernel
theorem dX8_empty_13 : decode cX8_empty 13 = .ok (.return_, 1) := by decide +kernel
theorem dX8_fullPots_0 : decode cX8_fullPots 0 = .ok (.aload_n 0, 1) := by decide +kernel
theorem dX8_fullPots_1 : decode cX8_fullPots 1 = .ok (.getfield 27, 3) := by decide +kernel
theorem dX8_fullPots_4 : decode cX8_fullPots 4 = .ok (.aload_n 0, 1) := by decide +kernel
theorem dX8_fullPots_5 : decode cX8_fullPots 5 = .ok (.getfield 47, 3) := by decide +kernel
theorem dX8_fullPots_8 : decode cX8_fullPots 8 = .ok (.invokevirtual 57, 3) := by decide +kernel
theorem dX8_fullPots_11 : decode cX8_fullPots 11 = .ok (.ireturn, 1) := by decide +kernel
theorem dX8_reason_0 : decode cX8_reason 0 = .ok (.aload_n 0, 1) := by decide +kernel
theorem dX8_reason_1 : decode cX8_reason 1 = .ok (.getfield 47, 3) := by decide +kernel
theorem dX8_reason_4 : decode cX8_reason 4 = .ok (.ifCond .ne 5, 3) := by decide +kernel
theorem dX8_reason_7 : decode cX8_reason 7 = .ok (.iconst (-1), 1) := by decide +kernel
theorem dX8_reason_8 : decode cX8_reason 8 = .ok (.ireturn, 1) := by decide +kernel
theorem dX8_rowsLeft_0 : decode cX8_rowsLeft 0 = .ok (.lconst 1, 1) := by decide +kernel
theorem dX8_rowsLeft_1 : decode cX8_rowsLeft 1 = .ok (.lstore_n 2, 1) := by decide +kernel
theorem dX8_rowsLeft_2 : decode cX8_rowsLeft 2 = .ok (.aload_n 0, 1) := by decide +kernel
theorem dX8_rowsLeft_3 : decode cX8_rowsLeft 3 = .ok (.invokevirtual 69, 3) := by decide +kernel
theorem dX8_rowsLeft_6 : decode cX8_rowsLeft 6 = .ok (.istore 4, 2) := by decide +kernel
theorem dX8_rowsLeft_8 : decode cX8_rowsLeft 8 = .ok (.iload 4, 2) := by decide +kernel
theorem dX8_rowsLeft_10 : decode cX8_rowsLeft 10 = .ok (.istore 5, 2) := by decide +kernel
theorem dX8_rowsLeft_12 : decode cX8_rowsLeft 12 = .ok (.iload 5, 2) := by decide +kernel
theorem dX8_rowsLeft_14 : decode cX8_rowsLeft 14 = .ok (.aload_n 0, 1) := by decide +kernel
theorem dX8_rowsLeft_15 : decode cX8_rowsLeft 15 = .ok (.getfield 27, 3) := by decide +kernel
theorem dX8_rowsLeft_18 : decode cX8_rowsLeft 18 = .ok (.getfield 88, 3) := by decide +kernel
theorem dX8_rowsLeft_21 : decode cX8_rowsLeft 21 = .ok (.if_icmp .ge 48, 3) := by decide +kernel
theorem dX8_rowsLeft_69 : decode cX8_rowsLeft 69 = .ok (.lload_n 2, 1) := by decide +kernel
theorem dX8_rowsLeft_70 : decode cX8_rowsLeft 70 = .ok (.lreturn, 1) := by decide +kernel
theorem dX9_init_0 : decode cX9_init 0 = .ok (.aload_n 0, 1) := by decide +kernel
theorem dX9_init_1 : decode cX9_init 1 = .ok (.invokespecial 3, 3) := by decide +kernel
theorem dX9_init_4 : decode cX9_init 4 = .ok (.aload_n 0, 1) := by decide +kernel
theorem dX9_init_5 : decode cX9_init 5 = .ok (.iconst 1, 1) := by decide +kernel
theorem dX9_init_6 : decode cX9_init 6 = .ok (.newarray .int, 2) := by decide +kernel
theorem dX9_init_8 : decode cX9_init 8 = .ok (.putfield 9, 3) := by decide +kernel
theorem dX9_init_11 : decode cX9_init 11 = .ok (.aload_n 0, 1) := by decide +kernel
theorem dX9_init_12 : decode cX9_init 12 = .ok (.iconst 1, 1) := by decide +kernel
theorem dX9_init_13 : decode cX9_init 13 = .ok (.newarray .int, 2) := by decide +kernel
theorem dX9_init_15 : decode cX9_init 15 = .ok (.putfield 15, 3) := by decide +kernel
theorem dX9_init_18 : decode cX9_init 18 = .ok (.aload_n 0, 1) := by decide +kernel
theorem dX9_init_19 : decode cX9_init 19 = .ok (.iconst (-1), 1) := by decide +kernel
theorem dX9_init_20 : decode cX9_init 20 = .ok (.putfield 18, 3) := by decide +kernel
theorem dX9_init_23 : decode cX9_init 23 = .ok (.aload_n 0, 1) := by decide +kernel
theorem dX9_init_24 : decode cX9_init 24 = .ok (.aload_n 1, 1) := by decide +kernel
theorem dX9_init_25 : decode cX9_init 25 = .ok (.putfield 22, 3) := by decide +kernel
theorem dX9_init_28 : decode cX9_init 28 = .ok (.aload_n 0, 1) := by decide +kernel
theorem dX9_init_29 : decode cX9_init 29 = .ok (.aload_n 1, 1) := by decide +kernel
theorem dX9_init_30 : decode cX9_init 30 = .ok (.getfield 26, 3) := by decide +kernel
theorem dX9_init_33 : decode cX9_init 33 = .ok (.putfield 32, 3) := by decide +kernel
theorem dX9_init_36 : decode cX9_init 36 = .ok (.return_, 1) := by decide +kernel
theorem dX9_forget_0 : decode cX9_forget 0 = .ok (.aload_n 0, 1) := by decide +kernel
theorem dX9_forget_1 : decode cX9_forget 1 = .ok (.iconst (-1), 1) := by decide +kernel
theorem dX9_forget_2 : decode cX9_forget 2 = .ok (.putfield 18, 3) := by decide +kernel
theorem dX9_forget_5 : decode cX9_forget 5 = .ok (.aload_n 0, 1) := by decide +kernel
theorem dX9_forget_6 : decode cX9_forget 6 = .ok (.iconst 0, 1) := by decide +kernel
theorem dX9_forget_7 : decode cX9_forget 7 = .ok (.putfield 33, 3) := by decide +kernel
theorem dX9_forget_10 : decode cX9_forget 10 = .ok (.return_, 1) := by decide +kernel
theorem dX9_howManyParts_0 : decode cX9_howManyParts 0 = .ok (.aload_n 0, 1) := by decide +kernel
theorem dX9_howManyParts_1 : decode cX9_howManyParts 1 = .ok (.invokevirtual 37, 3) := by decide +kernel
theorem dX9_howManyParts_4 : decode cX9_howManyParts 4 = .ok (.aload_n 0, 1) := by decide +kernel
theorem dX9_howManyParts_5 : decode cX9_howManyParts 5 = .ok (.getfield 40, 3) := by decide +kernel
theorem dX9_howManyParts_8 : decode cX9_howManyParts 8 = .ok (.ireturn, 1) := by decide +kernel
theorem dX9_sizeOfFirstPart_0 : decode cX9_sizeOfFirstPart 0 = .ok (.aload_n 0, 1) := by decide +kernel
theorem dX9_sizeOfFirstPart_1 : decode cX9_sizeOfFirstPart 1 = .ok (.invokevirtual 37, 3) := by decide +kernel
theorem dX9_sizeOfFirstPart_4 : decode cX9_sizeOfFirstPart 4 = .ok (.aload_n 0, 1) := by decide +kernel
theorem dX9_sizeOfFirstPart_5 : decode cX9_sizeOfFirstPart 5 = .ok (.getfield 43, 3) := by decide +kernel
theorem dX9_sizeOfFirstPart_8 : decode cX9_sizeOfFirstPart 8 = .ok (.ireturn, 1) := by decide +kernel
theorem dX9_sizeOfGreatestPart_0 : decode cX9_sizeOfGreatestPart 0 = .ok (.aload_n 0, 1) := by decide +kernel
theorem dX9_sizeOfGreatestPart_1 : decode cX9_sizeOfGreatestPart 1 = .ok (.invokevirtual 37, 3) := by decide +kernel
theorem dX9_sizeOfGreatestPart_4 : decode cX9_sizeOfGreatestPart 4 = .ok (.aload_n 0, 1) := by decide +kernel
theorem dX9_sizeOfGreatestPart_5 : decode cX9_sizeOfGreatestPart 5 = .ok (.getfield 46, 3) := by decide +kernel
theorem dX9_sizeOfGreatestPart_8 : decode cX9_sizeOfGreatestPart 8 = .ok (.ireturn, 1) := by decide +kernel
theorem dX9_clearRows_0 : decode cX9_clearRows 0 = .ok (.aload_n 0, 1) := by decide +kernel
theorem dX9_clearRows_1 : decode cX9_clearRows 1 = .ok (.getfield 9, 3) := by decide +kernel
theorem dX9_clearRows_4 : decode cX9_clearRows 4 = .ok (.arraylength, 1) := by decide +kernel
theorem dX9_clearRows_5 : decode cX9_clearRows 5 = .ok (.aload_n 0, 1) := by decide +kernel
theorem dX9_clearRows_6 : decode cX9_clearRows 6 = .ok (.getfield 22, 3) := by decide +kernel
theorem dX9_clearRows_9 : decode cX9_clearRows 9 = .ok (.getfield 49, 3) := by decide +kernel
theorem dX9_clearRows_12 : decode cX9_clearRows 12 = .ok (.if_icmp .ge 29, 3) := by decide +kernel
theorem dX9_clearRows_41 : decode cX9_clearRows 41 = .ok (.aload_n 0, 1) := by decide +kernel
theorem dX9_clearRows_42 : decode cX9_clearRows 42 = .ok (.getfield 9, 3) := by decide +kernel
theorem dX9_clearRows_45 : decode cX9_clearRows 45 = .ok (.iconst 0, 1) := by decide +kernel
theorem dX9_clearRows_46 : decode cX9_clearRows 46 = .ok (.aload_n 0, 1) := by decide +kernel
theorem dX9_clearRows_47 : decode cX9_clearRows 47 = .ok (.getfield 22, 3) := by decide +kernel
theorem dX9_clearRows_50 : decode cX9_clearRows 50 = .ok (.getfield 49, 3) := by decide +kernel
theorem dX9_clearRows_53 : decode cX9_clearRows 53 = .ok (.iconst 0, 1) := by decide +kernel
theorem dX9_clearRows_54 : decode cX9_clearRows 54 = .ok (.invokestatic 52, 3) := by decide +kernel
theorem dX9_clearRows_57 : decode cX9_clearRows 57 = .ok (.aload_n 0, 1) := by decide +kernel
theorem dX9_clearRows_58 : decode cX9_clearRows 58 = .ok (.iconst (-1), 1) := by decide +kernel
theorem dX9_clearRows_59 : decode cX9_clearRows 59 = .ok (.putfield 18, 3) := by decide +kernel
theorem dX9_clearRows_62 : decode cX9_clearRows 62 = .ok (.return_, 1) := by decide +kernel
theorem dX9_findParts_0 : decode cX9_findParts 0 = .ok (.aload_n 0, 1) := by decide +kernel
theorem dX9_findParts_1 : decode cX9_findParts 1 = .ok (.getfield 33, 3) := by decide +kernel
theorem dX9_findParts_4 : decode cX9_findParts 4 = .ok (.ifCond .eq 4, 3) := by decide +kernel
theorem dX9_findParts_8 : decode cX9_findParts 8 = .ok (.aload_n 0, 1) := by decide +kernel
theorem dX9_findParts_9 : decode cX9_findParts 9 = .ok (.invokevirtual 58, 3) := by decide +kernel
theorem dX9_findParts_12 : decode cX9_findParts 12 = .ok (.aload_n 0, 1) := by decide +kernel
theorem dX9_findParts_13 : decode cX9_findParts 13 = .ok (.iconst 0, 1) := by decide +kernel
theorem dX9_findParts_14 : decode cX9_findParts 14 = .ok (.putfield 40, 3) := by decide +kernel
theorem dX9_findParts_17 : decode cX9_findParts 17 = .ok (.aload_n 0, 1) := by decide +kernel
theorem dX9_findParts_18 : decode cX9_findParts 18 = .ok (.iconst 0, 1) := by decide +kernel
theorem dX9_findParts_19 : decode cX9_findParts 19 = .ok (.putfield 43, 3) := by decide +kernel
theorem dX9_findParts_22 : decode cX9_findParts 22 = .ok (.aload_n 0, 1) := by decide +kernel
theorem dX9_findParts_23 : decode cX9_findParts 23 = .ok (.iconst 0, 1) := by decide +kernel
theorem dX9_findParts_24 : decode cX9_findParts 24 = .ok (.putfield 46, 3) := by decide +kernel
theorem dX9_findParts_27 : decode cX9_findParts 27 = .ok (.aload_n 0, 1) := by decide +kernel
theorem dX9_findParts_28 : decode cX9_findParts 28 = .ok (.iconst 0, 1) := by decide +kernel
theorem dX9_findParts_29 : decode cX9_findParts 29 = .ok (.putfield 61, 3) := by decide +kernel
theorem dX9_findParts_32 : decode cX9_findParts 32 = .ok (.iconst 0, 1) := by decide +kernel
theorem dX9_findParts_33 : decode cX9_findParts 33 = .ok (.istore_n 1, 1) := by decide +kernel
theorem dX9_findParts_34 : decode cX9_findParts 34 = .ok (.iload_n 1, 1) := by decide +kernel
theorem dX9_findParts_35 : decode cX9_findParts 35 = .ok (.aload_n 0, 1) := by decide +kernel
theorem dX9_findParts_36 : decode cX9_findParts 36 = .ok (.getfield 22, 3) := by decide +kernel
theorem dX9_findParts_39 : decode cX9_findParts 39 = .ok (.getfield 64, 3) := by decide +kernel
theorem dX9_findParts_42 : decode cX9_findParts 42 = .ok (.if_icmp .ge 81, 3) := by decide +kernel
theorem dX9_findParts_45 : decode cX9_findParts 45 = .ok (.aload_n 0, 1) := by decide +kernel
theorem dX9_findParts_46 : decode cX9_findParts 46 = .ok (.getfield 9, 3) := by decide +kernel
theorem dX9_findParts_49 : decode cX9_findParts 49 = .ok (.aload_n 0, 1) := by decide +kernel
theorem dX9_findParts_50 : decode cX9_findParts 50 = .ok (.getfield 22, 3) := by decide +kernel
theorem dX9_findParts_53 : decode cX9_findParts 53 = .ok (.getfield 67, 3) := by decide +kernel
theorem dX9_findParts_56 : decode cX9_findParts 56 = .ok (.iload_n 1, 1) := by decide +kernel
theorem dX9_findParts_57 : decode cX9_findParts 57 = .ok (.iaload, 1) := by decide +kernel
theorem dX9_findParts_58 : decode cX9_findParts 58 = .ok (.iaload, 1) := by decide +kernel
theorem dX9_findParts_59 : decode cX9_findParts 59 = .ok (.ifCond .ne 58, 3) := by decide +kernel
theorem dX9_findParts_62 : decode cX9_findParts 62 = .ok (.aload_n 0, 1) := by decide +kernel
theorem dX9_findParts_63 : decode cX9_findParts 63 = .ok (.aload_n 0, 1) := by decide +kernel
theorem dX9_findParts_64 : decode cX9_findParts 64 = .ok (.getfield 22, 3) := by decide +kernel
theorem dX9_findParts_67 : decode cX9_findParts 67 = .ok (.getfield 67, 3) := by decide +kernel
theorem dX9_findParts_70 : decode cX9_findParts 70 = .ok (.iload_n 1, 1) := by decide +kernel
theorem dX9_findParts_71 : decode cX9_findParts 71 = .ok (.iaload, 1) := by decide +kernel
theorem dX9_findParts_72 : decode cX9_findParts 72 = .ok (.invokevirtual 70, 3) := by decide +kernel
theorem dX9_findParts_75 : decode cX9_findParts 75 = .ok (.istore_n 2, 1) := by decide +kernel
theorem dX9_findParts_76 : decode cX9_findParts 76 = .ok (.aload_n 0, 1) := by decide +kernel
theorem dX9_findParts_77 : decode cX9_findParts 77 = .ok (.aload_n 0, 1) := by decide +kernel
theorem dX9_findParts_78 : decode cX9_findParts 78 = .ok (.getfield 40, 3) := by decide +kernel
theorem dX9_findParts_81 : decode cX9_findParts 81 = .ok (.ifCond .ne 7, 3) := by decide +kernel
theorem dX9_findParts_84 : decode cX9_findParts 84 = .ok (.iload_n 2, 1) := by decide +kernel
theorem dX9_findParts_85 : decode cX9_findParts 85 = .ok (.goto 7, 3) := by decide +kernel
theorem dX9_findParts_92 : decode cX9_findParts 92 = .ok (.putfield 43, 3) := by decide +kernel
theorem dX9_findParts_95 : decode cX9_findParts 95 = .ok (.aload_n 0, 1) := by decide +kernel
theorem dX9_findParts_96 : decode cX9_findParts 96 = .ok (.aload_n 0, 1) := by decide +kernel
theorem dX9_findParts_97 : decode cX9_findParts 97 = .ok (.getfield 46, 3) := by decide +kernel
theorem dX9_findParts_100 : decode cX9_findParts 100 = .ok (.iload_n 2, 1) := by decide +kernel
theorem dX9_findParts_101 : decode cX9_findParts 101 = .ok (.invokestatic 74, 3) := by decide +kernel
theorem dX9_findParts_104 : decode cX9_findParts 104 = .ok (.putfield 46, 3) := by decide +kernel
theorem dX9_findParts_107 : decode cX9_findParts 107 = .ok (.aload_n 0, 1) := by decide +kernel
theorem dX9_findParts_108 : decode cX9_findParts 108 = .ok (.dup, 1) := by decide +kernel
theorem dX9_findParts_109 : decode cX9_findParts 109 = .ok (.getfield 40, 3) := by decide +kernel
theorem dX9_findParts_112 : decode cX9_findParts 112 = .ok (.iconst 1, 1) := by decide +kernel
theorem dX9_findParts_113 : decode cX9_findParts 113 = .ok (.iadd, 1) := by decide +kernel
theorem dX9_findParts_114 : decode cX9_findParts 114 = .ok (.putfield 40, 3) := by decide +kernel
theorem dX9_findParts_117 : decode cX9_findParts 117 = .ok (.iinc 1 1, 3) := by decide +kernel
theorem dX9_findParts_120 : decode cX9_findParts 120 = .ok (.goto (-86), 3) := by decide +kernel
theorem dX9_findParts_123 : decode cX9_findParts 123 = .ok (.aload_n 0, 1) := by decide +kernel
theorem dX9_findParts_124 : decode cX9_findParts 124 = .ok (.iconst 1, 1) := by decide +kernel
theorem dX9_findParts_125 : decode cX9_findParts 125 = .ok (.putfield 33, 3) := by decide +kernel
theorem dX9_findParts_128 : decode cX9_findParts 128 = .ok (.return_, 1) := by decide +kernel
theorem dX9_sizeOfPart_0 : decode cX9_sizeOfPart 0 = .ok (.aload_n 0, 1) := by decide +kernel
theorem dX9_sizeOfPart_1 : decode cX9_sizeOfPart 1 = .ok (.getfield 61, 3) := by decide +kernel
theorem dX9_sizeOfPart_4 : decode cX9_sizeOfPart 4 = .ok (.istore_n 2, 1) := by decide +kernel
theorem dX9_sizeOfPart_5 : decode cX9_sizeOfPart 5 = .ok (.aload_n 0, 1) := by decide +kernel
theorem dX9_sizeOfPart_6 : decode cX9_sizeOfPart 6 = .ok (.iload_n 1, 1) := by decide +kernel
theorem dX9_sizeOfPart_7 : decode cX9_sizeOfPart 7 = .ok (.invokevirtual 80, 3) := by decide +kernel
theorem dX9_sizeOfPart_10 : decode cX9_sizeOfPart 10 = .ok (.iload_n 2, 1) := by decide +kernel
theorem dX9_sizeOfPart_11 : decode cX9_sizeOfPart 11 = .ok (.istore_n 3, 1) := by decide +kernel
theorem dX9_sizeOfPart_12 : decode cX9_sizeOfPart 12 = .ok (.iload_n 3, 1) := by decide +kernel
theorem dX9_sizeOfPart_13 : decode cX9_sizeOfPart 13 = .ok (.aload_n 0, 1) := by decide +kernel
theorem dX9_sizeOfPart_14 : decode cX9_sizeOfPart 14 = .ok (.getfield 61, 3) := by decide +kernel
theorem dX9_sizeOfPart_17 : decode cX9_sizeOfPart 17 = .ok (.if_icmp .ge 30, 3) := by decide +kernel
theorem dX9_sizeOfPart_20 : decode cX9_sizeOfPart 20 = .ok (.iload_n 3, 1) := by decide +kernel
theorem dX9_sizeOfPart_21 : decode cX9_sizeOfPart 21 = .ok (.aload_n 0, 1) := by decide +kernel
theorem dX9_sizeOfPart_22 : decode cX9_sizeOfPart 22 = .ok (.getfield 22, 3) := by decide +kernel
theorem dX9_sizeOfPart_25 : decode cX9_sizeOfPart 25 = .ok (.getfield 49, 3) := by decide +kernel
theorem dX9_sizeOfPart_28 : decode cX9_sizeOfPart 28 = .ok (.if_icmp .ge 19, 3) := by decide +kernel
theorem dX9_sizeOfPart_31 : decode cX9_sizeOfPart 31 = .ok (.aload_n 0, 1) := by decide +kernel
theorem dX9_sizeOfPart_32 : decode cX9_sizeOfPart 32 = .ok (.aload_n 0, 1) := by decide +kernel
theorem dX9_sizeOfPart_33 : decode cX9_sizeOfPart 33 = .ok (.getfield 15, 3) := by decide +kernel
theorem dX9_sizeOfPart_36 : decode cX9_sizeOfPart 36 = .ok (.iload_n 3, 1) := by decide +kernel
theorem dX9_sizeOfPart_37 : decode cX9_sizeOfPart 37 = .ok (.iaload, 1) := by decide +kernel
theorem dX9_sizeOfPart_38 : decode cX9_sizeOfPart 38 = .ok (.invokevirtual 84, 3) := by decide +kernel
theorem dX9_sizeOfPart_41 : decode cX9_sizeOfPart 41 = .ok (.iinc 3 1, 3) := by decide +kernel
theorem dX9_sizeOfPart_44 : decode cX9_sizeOfPart 44 = .ok (.goto (-32), 3) := by decide +kernel
theorem dX9_sizeOfPart_47 : decode cX9_sizeOfPart 47 = .ok (.aload_n 0, 1) := by decide +kernel
theorem dX9_sizeOfPart_48 : decode cX9_sizeOfPart 48 = .ok (.getfield 61, 3) := by decide +kernel
theorem dX9_sizeOfPart_51 : decode cX9_sizeOfPart 51 = .ok (.iload_n 2, 1) := by decide +kernel
theorem dX9_sizeOfPart_52 : decode cX9_sizeOfPart 52 = .ok (.isub, 1) := by decide +kernel
theorem dX9_sizeOfPart_53 : decode cX9_sizeOfPart 53 = .ok (.ireturn, 1) := by decide +kernel
theorem dX9_meet_0 : decode cX9_meet 0 = .ok (.aload_n 0, 1) := by decide +kernel
theorem dX9_meet_1 : decode cX9_meet 1 = .ok (.getfield 9, 3) := by decide +kernel
theorem dX9_meet_4 : decode cX9_meet 4 = .ok (.iload_n 1, 1) := by decide +kernel
theorem dX9_meet_5 : decode cX9_meet 5 = .ok (.iaload, 1) := by decide +kernel
theorem dX9_meet_6 : decode cX9_meet 6 = .ok (.ifCond .ne 42, 3) := by decide +kernel
theorem dX9_meet_9 : decode cX9_meet 9 = .ok (.aload_n 0, 1) := by decide +kernel
theorem dX9_meet_10 : decode cX9_meet 10 = .ok (.getfield 61, 3) := by decide +kernel
theorem dX9_meet_13 : decode cX9_meet 13 = .ok (.aload_n 0, 1) := by decide +kernel
theorem dX9_meet_14 : decode cX9_meet 14 = .ok (.getfield 15, 3) := by decide +kernel
theorem dX9_meet_17 : decode cX9_meet 17 = .ok (.arraylength, 1) := by decide +kernel
theorem dX9_meet_18 : decode cX9_meet 18 = .ok (.if_icmp .ge 30, 3) := by decide +kernel
theorem dX9_meet_21 : decode cX9_meet 21 = .ok (.aload_n 0, 1) := by decide +kernel
theorem dX9_meet_22 : decode cX9_meet 22 = .ok (.getfield 9, 3) := by decide +kernel
theorem dX9_meet_25 : decode cX9_meet 25 = .ok (.iload_n 1, 1) := by decide +kernel
theorem dX9_meet_26 : decode cX9_meet 26 = .ok (.iconst 1, 1) := by decide +kernel
theorem dX9_meet_27 : decode cX9_meet 27 = .ok (.iastore, 1) := by decide +kernel
theorem dX9_meet_28 : decode cX9_meet 28 = .ok (.aload_n 0, 1) := by decide +kernel
theorem dX9_meet_29 : decode cX9_meet 29 = .ok (.getfield 15, 3) := by decide +kernel
theorem dX9_meet_32 : decode cX9_meet 32 = .ok (.aload_n 0, 1) := by decide +kernel
theorem dX9_meet_33 : decode cX9_meet 33 = .ok (.getfield 61, 3) := by decide +kernel
theorem dX9_meet_36 : decode cX9_meet 36 = .ok (.iload_n 1, 1) := by decide +kernel
theorem dX9_meet_37 : decode cX9_meet 37 = .ok (.iastore, 1) := by decide +kernel
theorem dX9_meet_38 : decode cX9_meet 38 = .ok (.aload_n 0, 1) := by decide +kernel
theorem dX9_meet_39 : decode cX9_meet 39 = .ok (.dup, 1) := by decide +kernel
theorem dX9_meet_40 : decode cX9_meet 40 = .ok (.getfield 61, 3) := by decide +kernel
theorem dX9_meet_43 : decode cX9_meet 43 = .ok (.iconst 1, 1) := by decide +kernel
theorem dX9_meet_44 : decode cX9_meet 44 = .ok (.iadd, 1) := by decide +kernel
theorem dX9_meet_45 : decode cX9_meet 45 = .ok (.putfield 61, 3) := by decide +kernel
theorem dX9_meet_48 : decode cX9_meet 48 = .ok (.return_, 1) := by decide +kernel
theorem dX9_meetSwapped_0 : decode cX9_meetSwapped 0 = .ok (.iconst 0, 1) := by decide +kernel
theorem dX9_meetSwapped_1 : decode cX9_meetSwapped 1 = .ok (.istore_n 2, 1) := by decide +kernel
theorem dX9_meetSwapped_2 : decode cX9_meetSwapped 2 = .ok (.iload_n 2, 1) := by decide +kernel
theorem dX9_meetSwapped_3 : decode cX9_meetSwapped 3 = .ok (.aload_n 0, 1) := by decide +kernel
theorem dX9_meetSwapped_4 : decode cX9_meetSwapped 4 = .ok (.getfield 22, 3) := by decide +kernel
theorem dX9_meetSwapped_7 : decode cX9_meetSwapped 7 = .ok (.getfield 87, 3) := by decide +kernel
theorem dX9_meetSwapped_10 : decode cX9_meetSwapped 10 = .ok (.getfield 91, 3) := by decide +kernel
theorem dX9_meetSwapped_13 : decode cX9_meetSwapped 13 = .ok (.if_icmp .ge 101, 3) := by decide +kernel
theorem dX9_meetSwapped_114 : decode cX9_meetSwapped 114 = .ok (.return_, 1) := by decide +kernel
theorem dX9_rowsTo_0 : decode cX9_rowsTo 0 = .ok (.aload_n 0, 1) := by decide +kernel
theorem dX9_rowsTo_1 : decode cX9_rowsTo 1 = .ok (.iload_n 1, 1) := by decide +kernel
theorem dX9_rowsTo_2 : decode cX9_rowsTo 2 = .ok (.invokevirtual 113, 3) := by decide +kernel
theorem dX9_rowsTo_5 : decode cX9_rowsTo 5 = .ok (.aload_n 0, 1) := by decide +kernel
theorem dX9_rowsTo_6 : decode cX9_rowsTo 6 = .ok (.getfield 9, 3) := by decide +kernel
theorem dX9_rowsTo_9 : decode cX9_rowsTo 9 = .ok (.iload_n 2, 1) := by decide +kernel
theorem dX9_rowsTo_10 : decode cX9_rowsTo 10 = .ok (.iaload, 1) := by decide +kernel
theorem dX9_rowsTo_11 : decode cX9_rowsTo 11 = .ok (.ireturn, 1) := by decide +kernel
theorem dX9_allRows_0 : decode cX9_allRows 0 = .ok (.aload_n 0, 1) := by decide +kernel
theorem dX9_allRows_1 : decode cX9_allRows 1 = .ok (.getfield 22, 3) := by decide +kernel
theorem dX9_allRows_4 : decode cX9_allRows 4 = .ok (.getfield 87, 3) := by decide +kernel
theorem dX9_allRows_7 : decode cX9_allRows 7 = .ok (.getfield 91, 3) := by decide +kernel
theorem dX9_allRows_10 : decode cX9_allRows 10 = .ok (.aload_n 0, 1) := by decide +kernel
theorem dX9_allRows_11 : decode cX9_allRows 11 = .ok (.getfield 32, 3) := by decide +kernel
theorem dX9_allRows_14 : decode cX9_allRows 14 = .ok (.getfield 102, 3) := by decide +kernel
theorem dX9_allRows_17 : decode cX9_allRows 17 = .ok (.imul, 1) := by decide +kernel
theorem dX9_allRows_18 : decode cX9_allRows 18 = .ok (.i2l, 1) := by decide +kernel
theorem dX9_allRows_19 : decode cX9_allRows 19 = .ok (.lstore_n 2, 1) := by decide +kernel
theorem dX9_allRows_20 : decode cX9_allRows 20 = .ok (.lconst 1, 1) := by decide +kernel
theorem dX9_allRows_21 : decode cX9_allRows 21 = .ok (.lstore 4, 2) := by decide +kernel
theorem dX9_allRows_23 : decode cX9_allRows 23 = .ok (.iconst 0, 1) := by decide +kernel
theorem dX9_allRows_24 : decode cX9_allRows 24 = .ok (.istore 6, 2) := by decide +kernel
theorem dX9_allRows_26 : decode cX9_allRows 26 = .ok (.iload 6, 2) := by decide +kernel
theorem dX9_allRows_28 : decode cX9_allRows 28 = .ok (.iload_n 1, 1) := by decide +kernel
theorem dX9_allRows_29 : decode cX9_allRows 29 = .ok (.if_icmp .ge 15, 3) := by decide +kernel
theorem dX9_allRows_32 : decode cX9_allRows 32 = .ok (.lload 4, 2) := by decide +kernel
theorem dX9_allRows_34 : decode cX9_allRows 34 = .ok (.lload_n 2, 1) := by decide +kernel
theorem dX9_allRows_35 : decode cX9_allRows 35 = .ok (.lmul, 1) := by decide +kernel
theorem dX9_allRows_36 : decode cX9_allRows 36 = .ok (.lstore 4, 2) := by decide +kernel
theorem dX9_allRows_38 : decode cX9_allRows 38 = .ok (.iinc 6 1, 3) := by decide +kernel
theorem dX9_allRows_41 : decode cX9_allRows 41 = .ok (.goto (-15), 3) := by decide +kernel
theorem dX9_allRows_44 : decode cX9_allRows 44 = .ok (.lload 4, 2) := by decide +kernel
theorem dX9_allRows_46 : decode cX9_allRows 46 = .ok (.lreturn, 1) := by decide +kernel
theorem dX9_uneven_0 : decode cX9_uneven 0 = .ok (.aload_n 0, 1) := by decide +kernel
theorem dX9_uneven_1 : decode cX9_uneven 1 = .ok (.iload_n 1, 1) := by decide +kernel
theorem dX9_uneven_2 : decode cX9_uneven 2 = .ok (.invokevirtual 113, 3) := by decide +kernel
theorem dX9_uneven_5 : decode cX9_uneven 5 = .ok (.aload_n 0, 1) := by decide +kernel
theorem dX9_uneven_6 : decode cX9_uneven 6 = .ok (.getfield 22, 3) := by decide +kernel
theorem dX9_uneven_9 : decode cX9_uneven 9 = .ok (.getfield 64, 3) := by decide +kernel
theorem dX9_uneven_12 : decode cX9_uneven 12 = .ok (.i2l, 1) := by decide +kernel
theorem dX9_uneven_13 : decode cX9_uneven 13 = .ok (.lstore_n 2, 1) := by decide +kernel
theorem dX9_uneven_14 : decode cX9_uneven 14 = .ok (.aload_n 0, 1) := by decide +kernel
theorem dX9_uneven_15 : decode cX9_uneven 15 = .ok (.iload_n 1, 1) := by decide +kernel
theorem dX9_uneven_16 : decode cX9_uneven 16 = .ok (.invokevirtual 116, 3) := by decide +kernel
theorem dX9_uneven_19 : decode cX9_uneven 19 = .ok (.lstore 4, 2) := by decide +kernel
theorem dX9_uneven_21 : decode cX9_uneven 21 = .ok (.lconst 0, 1) := by decide +kernel
theorem dX9_uneven_22 : decode cX9_uneven 22 = .ok (.lstore 6, 2) := by decide +kernel
theorem dX9_uneven_24 : decode cX9_uneven 24 = .ok (.iconst 0, 1) := by decide +kernel
theorem dX9_uneven_25 : decode cX9_uneven 25 = .ok (.istore 8, 2) := by decide +kernel
theorem dX9_uneven_27 : decode cX9_uneven 27 = .ok (.iload 8, 2) := by decide +kernel
theorem dX9_uneven_29 : decode cX9_uneven 29 = .ok (.aload_n 0, 1) := by decide +kernel
theorem dX9_uneven_30 : decode cX9_uneven 30 = .ok (.getfield 22, 3) := by decide +kernel
theorem dX9_uneven_33 : decode cX9_uneven 33 = .ok (.getfield 64, 3) := by decide +kernel
theorem dX9_uneven_36 : decode cX9_uneven 36 = .ok (.if_icmp .ge 38, 3) := by decide +kernel
theorem dX9_uneven_39 : decode cX9_uneven 39 = .ok (.lload 6, 2) := by decide +kernel
theorem dX9_uneven_41 : decode cX9_uneven 41 = .ok (.aload_n 0, 1) := by decide +kernel
theorem dX9_uneven_42 : decode cX9_uneven 42 = .ok (.getfield 9, 3) := by decide +kernel
theorem dX9_uneven_45 : decode cX9_uneven 45 = .ok (.aload_n 0, 1) := by decide +kernel
theorem dX9_uneven_46 : decode cX9_uneven 46 = .ok (.getfield 22, 3) := by decide +kernel
theorem dX9_uneven_49 : decode cX9_uneven 49 = .ok (.getfield 67, 3) := by decide +kernel
theorem dX9_uneven_52 : decode cX9_uneven 52 = .ok (.iload 8, 2) := by decide +kernel
theorem dX9_uneven_54 : decode cX9_uneven 54 = .ok (.iaload, 1) := by decide +kernel
theorem dX9_uneven_55 : decode cX9_uneven 55 = .ok (.iaload, 1) := by decide +kernel
theorem dX9_uneven_56 : decode cX9_uneven 56 = .ok (.i2l, 1) := by decide +kernel
theorem dX9_uneven_57 : decode cX9_uneven 57 = .ok (.lload_n 2, 1) := by decide +kernel
theorem dX9_uneven_58 : decode cX9_uneven 58 = .ok (.lmul, 1) := by decide +kernel
theorem dX9_uneven_59 : decode cX9_uneven 59 = .ok (.lload 4, 2) := by decide +kernel
theorem dX9_uneven_61 : decode cX9_uneven 61 = .ok (.lsub, 1) := by decide +kernel
theorem dX9_uneven_62 : decode cX9_uneven 62 = .ok (.invokestatic 120, 3) := by decide +kernel
theorem dX9_uneven_65 : decode cX9_uneven 65 = .ok (.ladd, 1) := by decide +kernel
theorem dX9_uneven_66 : decode cX9_uneven 66 = .ok (.lstore 6, 2) := by decide +kernel
theorem dX9_uneven_68 : decode cX9_uneven 68 = .ok (.iinc 8 1, 3) := by decide +kernel
theorem dX9_uneven_71 : decode cX9_uneven 71 = .ok (.goto (-44), 3) := by decide +kernel
theorem dX9_uneven_74 : decode cX9_uneven 74 = .ok (.lload 6, 2) := by decide +kernel
theorem dX9_uneven_76 : decode cX9_uneven 76 = .ok (.lreturn, 1) := by decide +kernel
theorem dX9_swapTimes_0 : decode cX9_swapTimes 0 = .ok (.aload_n 0, 1) := by decide +kernel
theorem dX9_swapTimes_1 : decode cX9_swapTimes 1 = .ok (.getfield 18, 3) := by decide +kernel
theorem dX9_swapTimes_4 : decode cX9_swapTimes 4 = .ok (.iconst (-1), 1) := by decide +kernel
theorem dX9_swapTimes_5 : decode cX9_swapTimes 5 = .ok (.if_icmp .eq 11, 3) := by decide +kernel
theorem dX9_swapTimes_16 : decode cX9_swapTimes 16 = .ok (.aload_n 0, 1) := by decide +kernel
theorem dX9_swapTimes_17 : decode cX9_swapTimes 17 = .ok (.invokevirtual 58, 3) := by decide +kernel
theorem dX9_swapTimes_20 : decode cX9_swapTimes 20 = .ok (.aload_n 0, 1) := by decide +kernel
theorem dX9_swapTimes_21 : decode cX9_swapTimes 21 = .ok (.getfield 9, 3) := by decide +kernel
theorem dX9_swapTimes_24 : decode cX9_swapTimes 24 = .ok (.aload_n 0, 1) := by decide +kernel
theorem dX9_swapTimes_25 : decode cX9_swapTimes 25 = .ok (.getfield 22, 3) := by decide +kernel
theorem dX9_swapTimes_28 : decode cX9_swapTimes 28 = .ok (.getfield 67, 3) := by decide +kernel
theorem dX9_swapTimes_31 : decode cX9_swapTimes 31 = .ok (.iconst 0, 1) := by decide +kernel
theorem dX9_swapTimes_32 : decode cX9_swapTimes 32 = .ok (.iaload, 1) := by decide +kernel
theorem dX9_swapTimes_33 : decode cX9_swapTimes 33 = .ok (.iconst 1, 1) := by decide +kernel
theorem dX9_swapTimes_34 : decode cX9_swapTimes 34 = .ok (.iastore, 1) := by decide +kernel
theorem dX9_swapTimes_35 : decode cX9_swapTimes 35 = .ok (.aload_n 0, 1) := by decide +kernel
theorem dX9_swapTimes_36 : decode cX9_swapTimes 36 = .ok (.iconst 0, 1) := by decide +kernel
theorem dX9_swapTimes_37 : decode cX9_swapTimes 37 = .ok (.putfield 18, 3) := by decide +kernel
theorem dX9_swapTimes_40 : decode cX9_swapTimes 40 = .ok (.aload_n 0, 1) := by decide +kernel
theorem dX9_swapTimes_41 : decode cX9_swapTimes 41 = .ok (.getfield 18, 3) := by decide +kernel
theorem dX9_swapTimes_44 : decode cX9_swapTimes 44 = .ok (.istore_n 2, 1) := by decide +kernel
theorem dX9_swapTimes_45 : decode cX9_swapTimes 45 = .ok (.iload_n 2, 1) := by decide +kernel
theorem dX9_swapTimes_46 : decode cX9_swapTimes 46 = .ok (.iload_n 1, 1) := by decide +kernel
theorem dX9_swapTimes_47 : decode cX9_swapTimes 47 = .ok (.if_icmp .ge 13, 3) := by decide +kernel
theorem dX9_swapTimes_50 : decode cX9_swapTimes 50 = .ok (.aload_n 0, 1) := by decide +kernel
theorem dX9_swapTimes_51 : decode cX9_swapTimes 51 = .ok (.invokevirtual 124, 3) := by decide +kernel
theorem dX9_swapTimes_54 : decode cX9_swapTimes 54 = .ok (.iinc 2 1, 3) := by decide +kernel
theorem dX9_swapTimes_57 : decode cX9_swapTimes 57 = .ok (.goto (-12), 3) := by decide +kernel
theorem dX9_swapTimes_60 : decode cX9_swapTimes 60 = .ok (.aload_n 0, 1) := by decide +kernel
theorem dX9_swapTimes_61 : decode cX9_swapTimes 61 = .ok (.iload_n 1, 1) := by decide +kernel
theorem dX9_swapTimes_62 : decode cX9_swapTimes 62 = .ok (.putfield 18, 3) := by decide +kernel
theorem dX9_swapTimes_65 : decode cX9_swapTimes 65 = .ok (.return_, 1) := by decide +kernel
theorem dX9_swapOnce_0 : decode cX9_swapOnce 0 = .ok (.aload_n 0, 1) := by decide +kernel
theorem dX9_swapOnce_1 : decode cX9_swapOnce 1 = .ok (.getfield 15, 3) := by decide +kernel
theorem dX9_swapOnce_4 : decode cX9_swapOnce 4 = .ok (.iconst 0, 1) := by decide +kernel
theorem dX9_swapOnce_5 : decode cX9_swapOnce 5 = .ok (.aload_n 0, 1) := by decide +kernel
theorem dX9_swapOnce_6 : decode cX9_swapOnce 6 = .ok (.getfield 22, 3) := by decide +kernel
theorem dX9_swapOnce_9 : decode cX9_swapOnce 9 = .ok (.getfield 49, 3) := by decide +kernel
theorem dX9_swapOnce_12 : decode cX9_swapOnce 12 = .ok (.iconst 0, 1) := by decide +kernel
theorem dX9_swapOnce_13 : decode cX9_swapOnce 13 = .ok (.invokestatic 52, 3) := by decide +kernel
theorem dX9_swapOnce_16 : decode cX9_swapOnce 16 = .ok (.iconst 0, 1) := by decide +kernel
theorem dX9_swapOnce_17 : decode cX9_swapOnce 17 = .ok (.istore_n 1, 1) := by decide +kernel
theorem dX9_swapOnce_18 : decode cX9_swapOnce 18 = .ok (.iload_n 1, 1) := by decide +kernel
theorem dX9_swapOnce_19 : decode cX9_swapOnce 19 = .ok (.aload_n 0, 1) := by decide +kernel
theorem dX9_swapOnce_20 : decode cX9_swapOnce 20 = .ok (.getfield 22, 3) := by decide +kernel
theorem dX9_swapOnce_23 : decode cX9_swapOnce 23 = .ok (.getfield 64, 3) := by decide +kernel
theorem dX9_swapOnce_26 : decode cX9_swapOnce 26 = .ok (.if_icmp .ge 39, 3) := by decide +kernel
theorem dX9_swapOnce_29 : decode cX9_swapOnce 29 = .ok (.aload_n 0, 1) := by decide +kernel
theorem dX9_swapOnce_30 : decode cX9_swapOnce 30 = .ok (.getfield 22, 3) := by decide +kernel
theorem dX9_swapOnce_33 : decode cX9_swapOnce 33 = .ok (.getfield 67, 3) := by decide +kernel
theorem dX9_swapOnce_36 : decode cX9_swapOnce 36 = .ok (.iload_n 1, 1) := by decide +kernel
theorem dX9_swapOnce_37 : decode cX9_swapOnce 37 = .ok (.iaload, 1) := by decide +kernel
theorem dX9_swapOnce_38 : decode cX9_swapOnce 38 = .ok (.istore_n 2, 1) := by decide +kernel
theorem dX9_swapOnce_39 : decode cX9_swapOnce 39 = .ok (.aload_n 0, 1) := by decide +kernel
theorem dX9_swapOnce_40 : decode cX9_swapOnce 40 = .ok (.getfield 9, 3) := by decide +kernel
theorem dX9_swapOnce_43 : decode cX9_swapOnce 43 = .ok (.iload_n 2, 1) := by decide +kernel
theorem dX9_swapOnce_44 : decode cX9_swapOnce 44 = .ok (.iaload, 1) := by decide +kernel
theorem dX9_swapOnce_45 : decode cX9_swapOnce 45 = .ok (.ifCond .eq 14, 3) := by decide +kernel
theorem dX9_swapOnce_48 : decode cX9_swapOnce 48 = .ok (.aload_n 0, 1) := by decide +kernel
theorem dX9_swapOnce_49 : decode cX9_swapOnce 49 = .ok (.iload_n 2, 1) := by decide +kernel
theorem dX9_swapOnce_50 : decode cX9_swapOnce 50 = .ok (.aload_n 0, 1) := by decide +kernel
theorem dX9_swapOnce_51 : decode cX9_swapOnce 51 = .ok (.getfield 9, 3) := by decide +kernel
theorem dX9_swapOnce_54 : decode cX9_swapOnce 54 = .ok (.iload_n 2, 1) := by decide +kernel
theorem dX9_swapOnce_55 : decode cX9_swapOnce 55 = .ok (.iaload, 1) := by decide +kernel
theorem dX9_swapOnce_56 : decode cX9_swapOnce 56 = .ok (.invokevirtual 127, 3) := by decide +kernel
theorem dX9_swapOnce_59 : decode cX9_swapOnce 59 = .ok (.iinc 1 1, 3) := by decide +kernel
theorem dX9_swapOnce_62 : decode cX9_swapOnce 62 = .ok (.goto (-44), 3) := by decide +kernel
theorem dX9_swapOnce_65 : decode cX9_swapOnce 65 = .ok (.aload_n 0, 1) := by decide +kernel
theorem dX9_swapOnce_66 : decode cX9_swapOnce 66 = .ok (.getfield 9, 3) := by decide +kernel
theorem dX9_swapOnce_69 : decode cX9_swapOnce 69 = .ok (.astore_n 1, 1) := by decide +kernel
theorem dX9_swapOnce_70 : decode cX9_swapOnce 70 = .ok (.aload_n 0, 1) := by decide +kernel
theorem dX9_swapOnce_71 : decode cX9_swapOnce 71 = .ok (.aload_n 0, 1) := by decide +kernel
theorem dX9_swapOnce_72 : decode cX9_swapOnce 72 = .ok (.getfield 15, 3) := by decide +kernel
theorem dX9_swapOnce_75 : decode cX9_swapOnce 75 = .ok (.putfield 9, 3) := by decide +kernel
theorem dX9_swapOnce_78 : decode cX9_swapOnce 78 = .ok (.aload_n 0, 1) := by decide +kernel
theorem dX9_swapOnce_79 : decode cX9_swapOnce 79 = .ok (.aload_n 1, 1) := by decide +kernel
theorem dX9_swapOnce_80 : decode cX9_swapOnce 80 = .ok (.putfield 15, 3) := by decide +kernel
theorem dX9_swapOnce_83 : decode cX9_swapOnce 83 = .ok (.return_, 1) := by decide +kernel
theorem dX9_pass_0 : decode cX9_pass 0 = .ok (.iconst 0, 1) := by decide +kernel
theorem dX9_pass_1 : decode cX9_pass 1 = .ok (.istore_n 3, 1) := by decide +kernel
theorem dX9_pass_2 : decode cX9_pass 2 = .ok (.iload_n 3, 1) := by decide +kernel
theorem dX9_pass_3 : decode cX9_pass 3 = .ok (.aload_n 0, 1) := by decide +kernel
theorem dX9_pass_4 : decode cX9_pass 4 = .ok (.getfield 22, 3) := by decide +kernel
theorem dX9_pass_7 : decode cX9_pass 7 = .ok (.getfield 87, 3) := by decide +kernel
theorem dX9_pass_10 : decode cX9_pass 10 = .ok (.getfield 91, 3) := by decide +kernel
theorem dX9_pass_13 : decode cX9_pass 13 = .ok (.if_icmp .ge 113, 3) := by decide +kernel
theorem dX9_pass_126 : decode cX9_pass 126 = .ok (.return_, 1) := by decide +kernel
theorem dX10_init_0 : decode cX10_init 0 = .ok (.aload_n 0, 1) := by decide +kernel
theorem dX10_init_1 : decode cX10_init 1 = .ok (.invokespecial 3, 3) := by decide +kernel
theorem dX10_init_4 : decode cX10_init 4 = .ok (.aload_n 0, 1) := by decide +kernel
theorem dX10_init_5 : decode cX10_init 5 = .ok (.sipush 601, 3) := by decide +kernel
theorem dX10_init_8 : decode cX10_init 8 = .ok (.newarray .int, 2) := by decide +kernel
theorem dX10_init_10 : decode cX10_init 10 = .ok (.putfield 11, 3) := by decide +kernel
theorem dX10_init_13 : decode cX10_init 13 = .ok (.aload_n 0, 1) := by decide +kernel
theorem dX10_init_14 : decode cX10_init 14 = .ok (.iconst 5, 1) := by decide +kernel
theorem dX10_init_15 : decode cX10_init 15 = .ok (.newarray .int, 2) := by decide +kernel
theorem dX10_init_17 : decode cX10_init 17 = .ok (.putfield 15, 3) := by decide +kernel
theorem dX10_init_20 : decode cX10_init 20 = .ok (.aload_n 0, 1) := by decide +kernel
theorem dX10_init_21 : decode cX10_init 21 = .ok (.iconst 4, 1) := by decide +kernel
theorem dX10_init_22 : decode cX10_init 22 = .ok (.newarray .int, 2) := by decide +kernel
theorem dX10_init_24 : decode cX10_init 24 = .ok (.putfield 18, 3) := by decide +kernel
theorem dX10_init_27 : decode cX10_init 27 = .ok (.aload_n 0, 1) := by decide +kernel
theorem dX10_init_28 : decode cX10_init 28 = .ok (.aload_n 1, 1) := by decide +kernel
theorem dX10_init_29 : decode cX10_init 29 = .ok (.putfield 21, 3) := by decide +kernel
theorem dX10_init_32 : decode cX10_init 32 = .ok (.return_, 1) := by decide +kernel
theorem dX10_build_0 : decode cX10_build 0 = .ok (.aload_n 1, 1) := by decide +kernel
theorem dX10_build_1 : decode cX10_build 1 = .ok (.iconst 0, 1) := by decide +kernel
theorem dX10_build_2 : decode cX10_build 2 = .ok (.aload_n 0, 1) := by decide +kernel
theorem dX10_build_3 : decode cX10_build 3 = .ok (.getfield 18, 3) := by decide +kernel
theorem dX10_build_6 : decode cX10_build 6 = .ok (.iconst 0, 1) := by decide +kernel
theorem dX10_build_7 : decode cX10_build 7 = .ok (.iconst 4, 1) := by decide +kernel
theorem dX10_build_8 : decode cX10_build 8 = .ok (.invokestatic 25, 3) := by decide +kernel
theorem dX10_build_11 : decode cX10_build 11 = .ok (.aload_n 0, 1) := by decide +kernel
theorem dX10_build_12 : decode cX10_build 12 = .ok (.getfield 21, 3) := by decide +kernel
theorem dX10_build_15 : decode cX10_build 15 = .ok (.getfield 31, 3) := by decide +kernel
theorem dX10_build_18 : decode cX10_build 18 = .ok (.getfield 37, 3) := by decide +kernel
theorem dX10_build_21 : decode cX10_build 21 = .ok (.istore_n 2, 1) := by decide +kernel
theorem dX10_build_22 : decode cX10_build 22 = .ok (.iconst 1, 1) := by decide +kernel
theorem dX10_build_23 : decode cX10_build 23 = .ok (.istore_n 3, 1) := by decide +kernel
theorem dX10_build_24 : decode cX10_build 24 = .ok (.aload_n 0, 1) := by decide +kernel
theorem dX10_build_25 : decode cX10_build 25 = .ok (.getfield 15, 3) := by decide +kernel
theorem dX10_build_28 : decode cX10_build 28 = .ok (.iconst 0, 1) := by decide +kernel
theorem dX10_build_29 : decode cX10_build 29 = .ok (.iconst 0, 1) := by decide +kernel
theorem dX10_build_30 : decode cX10_build 30 = .ok (.iastore, 1) := by decide +kernel
theorem dX10_build_31 : decode cX10_build 31 = .ok (.iconst 0, 1) := by decide +kernel
theorem dX10_build_32 : decode cX10_build 32 = .ok (.istore 4, 2) := by decide +kernel
theorem dX10_build_34 : decode cX10_build 34 = .ok (.iload 4, 2) := by decide +kernel
theorem dX10_build_36 : decode cX10_build 36 = .ok (.iload_n 2, 1) := by decide +kernel
theorem dX10_build_37 : decode cX10_build 37 = .ok (.if_icmp .ge 40, 3) := by decide +kernel
theorem dX10_build_77 : decode cX10_build 77 = .ok (.iload_n 2, 1) := by decide +kernel
theorem dX10_build_78 : decode cX10_build 78 = .ok (.ifCond .le 7, 3) := by decide +kernel
theorem dX10_build_85 : decode cX10_build 85 = .ok (.iload_n 2, 1) := by decide +kernel
theorem dX10_build_86 : decode cX10_build 86 = .ok (.iconst 2, 1) := by decide +kernel
theorem dX10_build_87 : decode cX10_build 87 = .ok (.isub, 1) := by decide +kernel
theorem dX10_build_88 : decode cX10_build 88 = .ok (.istore 4, 2) := by decide +kernel
theorem dX10_build_90 : decode cX10_build 90 = .ok (.iload 4, 2) := by decide +kernel
theorem dX10_build_92 : decode cX10_build 92 = .ok (.ifCond .lt 15, 3) := by decide +kernel
theorem dX10_build_107 : decode cX10_build 107 = .ok (.aload_n 0, 1) := by decide +kernel
theorem dX10_build_108 : decode cX10_build 108 = .ok (.iconst 1, 1) := by decide +kernel
theorem dX10_build_109 : decode cX10_build 109 = .ok (.putfield 59, 3) := by decide +kernel
theorem dX10_build_112 : decode cX10_build 112 = .ok (.return_, 1) := by decide +kernel
theorem dX11_init_0 : decode cX11_init 0 = .ok (.aload_n 0, 1) := by decide +kernel
theorem dX11_init_1 : decode cX11_init 1 = .ok (.invokespecial 1, 3) := by decide +kernel
theorem dX11_init_4 : decode cX11_init 4 = .ok (.aload_n 0, 1) := by decide +kernel
theorem dX11_init_5 : decode cX11_init 5 = .ok (.sipush 400, 3) := by decide +kernel
theorem dX11_init_8 : decode cX11_init 8 = .ok (.newarray .int, 2) := by decide +kernel
theorem dX11_init_10 : decode cX11_init 10 = .ok (.putfield 9, 3) := by decide +kernel
theorem dX11_init_13 : decode cX11_init 13 = .ok (.aload_n 0, 1) := by decide +kernel
theorem dX11_init_14 : decode cX11_init 14 = .ok (.new 13, 3) := by decide +kernel
theorem dX11_init_17 : decode cX11_init 17 = .ok (.dup, 1) := by decide +kernel
theorem dX11_init_18 : decode cX11_init 18 = .ok (.invokespecial 15, 3) := by decide +kernel
theorem dX11_init_21 : decode cX11_init 21 = .ok (.putfield 16, 3) := by decide +kernel
theorem dX11_init_24 : decode cX11_init 24 = .ok (.aload_n 0, 1) := by decide +kernel
theorem dX11_init_25 : decode cX11_init 25 = .ok (.new 20, 3) := by decide +kernel
theorem dX11_init_28 : decode cX11_init 28 = .ok (.dup, 1) := by decide +kernel
theorem dX11_init_29 : decode cX11_init 29 = .ok (.aload_n 0, 1) := by decide +kernel
theorem dX11_init_30 : decode cX11_init 30 = .ok (.getfield 9, 3) := by decide +kernel
theorem dX11_init_33 : decode cX11_init 33 = .ok (.invokespecial 22, 3) := by decide +kernel
theorem dX11_init_36 : decode cX11_init 36 = .ok (.putfield 25, 3) := by decide +kernel
theorem dX11_init_39 : decode cX11_init 39 = .ok (.aload_n 0, 1) := by decide +kernel
theorem dX11_init_40 : decode cX11_init 40 = .ok (.new 29, 3) := by decide +kernel
theorem dX11_init_43 : decode cX11_init 43 = .ok (.dup, 1) := by decide +kernel
theorem dX11_init_44 : decode cX11_init 44 = .ok (.invokespecial 31, 3) := by decide +kernel
theorem dX11_init_47 : decode cX11_init 47 = .ok (.putfield 32, 3) := by decide +kernel
theorem dX11_init_50 : decode cX11_init 50 = .ok (.aload_n 0, 1) := by decide +kernel
theorem dX11_init_51 : decode cX11_init 51 = .ok (.new 36, 3) := by decide +kernel
theorem dX11_init_54 : decode cX11_init 54 = .ok (.dup, 1) := by decide +kernel
theorem dX11_init_55 : decode cX11_init 55 = .ok (.aload_n 0, 1) := by decide +kernel
theorem dX11_init_56 : decode cX11_init 56 = .ok (.getfield 16, 3) := by decide +kernel
theorem dX11_init_59 : decode cX11_init 59 = .ok (.aload_n 0, 1) := by decide +kernel
theorem dX11_init_60 : decode cX11_init 60 = .ok (.getfield 32, 3) := by decide +kernel
theorem dX11_init_63 : decode cX11_init 63 = .ok (.invokespecial 38, 3) := by decide +kernel
theorem dX11_init_66 : decode cX11_init 66 = .ok (.putfield 41, 3) := by decide +kernel
theorem dX11_init_69 : decode cX11_init 69 = .ok (.aload_n 0, 1) := by decide +kernel
theorem dX11_init_70 : decode cX11_init 70 = .ok (.new 45, 3) := by decide +kernel
theorem dX11_init_73 : decode cX11_init 73 = .ok (.dup, 1) := by decide +kernel
theorem dX11_init_74 : decode cX11_init 74 = .ok (.aload_n 0, 1) := by decide +kernel
theorem dX11_init_75 : decode cX11_init 75 = .ok (.getfield 16, 3) := by decide +kernel
theorem dX11_init_78 : decode cX11_init 78 = .ok (.aload_n 0, 1) := by decide +kernel
theorem dX11_init_79 : decode cX11_init 79 = .ok (.getfield 32, 3) := by decide +kernel
theorem dX11_init_82 : decode cX11_init 82 = .ok (.invokespecial 47, 3) := by decide +kernel
theorem dX11_init_85 : decode cX11_init 85 = .ok (.putfield 48, 3) := by decide +kernel
theorem dX11_init_88 : decode cX11_init 88 = .ok (.aload_n 0, 1) := by decide +kernel
theorem dX11_init_89 : decode cX11_init 89 = .ok (.new 52, 3) := by decide +kernel
theorem dX11_init_92 : decode cX11_init 92 = .ok (.dup, 1) := by decide +kernel
theorem dX11_init_93 : decode cX11_init 93 = .ok (.aload_n 0, 1) := by decide +kernel
theorem dX11_init_94 : decode cX11_init 94 = .ok (.getfield 41, 3) := by decide +kernel
theorem dX11_init_97 : decode cX11_init 97 = .ok (.invokespecial 54, 3) := by decide +kernel
theorem dX11_init_100 : decode cX11_init 100 = .ok (.putfield 57, 3) := by decide +kernel
theorem dX11_init_103 : decode cX11_init 103 = .ok (.aload_n 0, 1) := by decide +kernel
theorem dX11_init_104 : decode cX11_init 104 = .ok (.new 52, 3) := by decide +kernel
theorem dX11_init_107 : decode cX11_init 107 = .ok (.dup, 1) := by decide +kernel
theorem dX11_init_108 : decode cX11_init 108 = .ok (.aload_n 0, 1) := by decide +kernel
theorem dX11_init_109 : decode cX11_init 109 = .ok (.getfield 41, 3) := by decide +kernel
theorem dX11_init_112 : decode cX11_init 112 = .ok (.invokespecial 54, 3) := by decide +kernel
theorem dX11_init_115 : decode cX11_init 115 = .ok (.putfield 61, 3) := by decide +kernel
theorem dX11_init_118 : decode cX11_init 118 = .ok (.aload_n 0, 1) := by decide +kernel
theorem dX11_init_119 : decode cX11_init 119 = .ok (.new 52, 3) := by decide +kernel
theorem dX11_init_122 : decode cX11_init 122 = .ok (.dup, 1) := by decide +kernel
theorem dX11_init_123 : decode cX11_init 123 = .ok (.aload_n 0, 1) := by decide +kernel
theorem dX11_init_124 : decode cX11_init 124 = .ok (.getfield 41, 3) := by decide +kernel
theorem dX11_init_127 : decode cX11_init 127 = .ok (.invokespecial 54, 3) := by decide +kernel
theorem dX11_init_130 : decode cX11_init 130 = .ok (.putfield 64, 3) := by decide +kernel
theorem dX11_init_133 : decode cX11_init 133 = .ok (.aload_n 0, 1) := by decide +kernel
theorem dX11_init_134 : decode cX11_init 134 = .ok (.new 67, 3) := by decide +kernel
theorem dX11_init_137 : decode cX11_init 137 = .ok (.dup, 1) := by decide +kernel
theorem dX11_init_138 : decode cX11_init 138 = .ok (.aload_n 0, 1) := by decide +kernel
theorem dX11_init_139 : decode cX11_init 139 = .ok (.getfield 41, 3) := by decide +kernel
theorem dX11_init_142 : decode cX11_init 142 = .ok (.aload_n 0, 1) := by decide +kernel
theorem dX11_init_143 : decode cX11_init 143 = .ok (.getfield 48, 3) := by decide +kernel
theorem dX11_init_146 : decode cX11_init 146 = .ok (.invokespecial 69, 3) := by decide +kernel
theorem dX11_init_149 : decode cX11_init 149 = .ok (.putfield 72, 3) := by decide +kernel
theorem dX11_init_152 : decode cX11_init 152 = .ok (.aload_n 0, 1) := by decide +kernel
theorem dX11_init_153 : decode cX11_init 153 = .ok (.iconst 3, 1) := by decide +kernel
theorem dX11_init_154 : decode cX11_init 154 = .ok (.anewarray 76, 3) := by decide +kernel
theorem dX11_init_157 : decode cX11_init 157 = .ok (.putfield 78, 3) := by decide +kernel
theorem dX11_init_160 : decode cX11_init 160 = .ok (.aload_n 0, 1) := by decide +kernel
theorem dX11_init_161 : decode cX11_init 161 = .ok (.iconst 3, 1) := by decide +kernel
theorem dX11_init_162 : decode cX11_init 162 = .ok (.anewarray 76, 3) := by decide +kernel
theorem dX11_init_165 : decode cX11_init 165 = .ok (.putfield 82, 3) := by decide +kernel
theorem dX11_init_168 : decode cX11_init 168 = .ok (.aload_n 0, 1) := by decide +kernel
theorem dX11_init_169 : decode cX11_init 169 = .ok (.new 76, 3) := by decide +kernel
theorem dX11_init_172 : decode cX11_init 172 = .ok (.dup, 1) := by decide +kernel
theorem dX11_init_173 : decode cX11_init 173 = .ok (.invokespecial 85, 3) := by decide +kernel
theorem dX11_init_176 : decode cX11_init 176 = .ok (.putfield 86, 3) := by decide +kernel
theorem dX11_init_179 : decode cX11_init 179 = .ok (.aload_n 0, 1) := by decide +kernel
theorem dX11_init_180 : decode cX11_init 180 = .ok (.new 90, 3) := by decide +kernel
theorem dX11_init_183 : decode cX11_init 183 = .ok (.dup, 1) := by decide +kernel
theorem dX11_init_184 : decode cX11_init 184 = .ok (.aload_n 0, 1) := by decide +kernel
theorem dX11_init_185 : decode cX11_init 185 = .ok (.getfield 41, 3) := by decide +kernel
theorem dX11_init_188 : decode cX11_init 188 = .ok (.invokespecial 92, 3) := by decide +kernel
theorem dX11_init_191 : decode cX11_init 191 = .ok (.putfield 93, 3) := by decide +kernel
theorem dX11_init_194 : decode cX11_init 194 = .ok (.aload_n 0, 1) := by decide +kernel
theorem dX11_init_195 : decode cX11_init 195 = .ok (.new 97, 3) := by decide +kernel
theorem dX11_init_198 : decode cX11_init 198 = .ok (.dup, 1) := by decide +kernel
theorem dX11_init_199 : decode cX11_init 199 = .ok (.aload_n 0, 1) := by decide +kernel
theorem dX11_init_200 : decode cX11_init 200 = .ok (.getfield 41, 3) := by decide +kernel
theorem dX11_init_203 : decode cX11_init 203 = .ok (.invokespecial 99, 3) := by decide +kernel
theorem dX11_init_206 : decode cX11_init 206 = .ok (.putfield 100, 3) := by decide +kernel
theorem dX11_init_209 : decode cX11_init 209 = .ok (.aload_n 0, 1) := by decide +kernel
theorem dX11_init_210 : decode cX11_init 210 = .ok (.bipush (-3), 2) := by decide +kernel
theorem dX11_init_212 : decode cX11_init 212 = .ok (.putfield 104, 3) := by decide +kernel
theorem dX11_init_215 : decode cX11_init 215 = .ok (.aload_n 0, 1) := by decide +kernel
theorem dX11_init_216 : decode cX11_init 216 = .ok (.bipush (-3), 2) := by decide +kernel
theorem dX11_init_218 : decode cX11_init 218 = .ok (.putfield 108, 3) := by decide +kernel
theorem dX11_init_221 : decode cX11_init 221 = .ok (.iconst 0, 1) := by decide +kernel
theorem dX11_init_222 : decode cX11_init 222 = .ok (.istore_n 1, 1) := by decide +kernel
theorem dX11_init_223 : decode cX11_init 223 = .ok (.iload_n 1, 1) := by decide +kernel
theorem dX11_init_224 : decode cX11_init 224 = .ok (.iconst 3, 1) := by decide +kernel
theorem dX11_init_225 : decode cX11_init 225 = .ok (.if_icmp .ge 35, 3) := by decide +kernel
theorem dX11_init_228 : decode cX11_init 228 = .ok (.aload_n 0, 1) := by decide +kernel
theorem dX11_init_229 : decode cX11_init 229 = .ok (.getfield 78, 3) := by decide +kernel
theorem dX11_init_232 : decode cX11_init 232 = .ok (.iload_n 1, 1) := by decide +kernel
theorem dX11_init_233 : decode cX11_init 233 = .ok (.new 76, 3) := by decide +kernel
theorem dX11_init_236 : decode cX11_init 236 = .ok (.dup, 1) := by decide +kernel
theorem dX11_init_237 : decode cX11_init 237 = .ok (.invokespecial 85, 3) := by decide +kernel
theorem dX11_init_240 : decode cX11_init 240 = .ok (.aastore, 1) := by decide +kernel
theorem dX11_init_241 : decode cX11_init 241 = .ok (.aload_n 0, 1) := by decide +kernel
theorem dX11_init_242 : decode cX11_init 242 = .ok (.getfield 82, 3) := by decide +kernel
theorem dX11_init_245 : decode cX11_init 245 = .ok (.iload_n 1, 1) := by decide +kernel
theorem dX11_init_246 : decode cX11_init 246 = .ok (.new 76, 3) := by decide +kernel
theorem dX11_init_249 : decode cX11_init 249 = .ok (.dup, 1) := by decide +kernel
theorem dX11_init_250 : decode cX11_init 250 = .ok (.invokespecial 85, 3) := by decide +kernel
theorem dX11_init_253 : decode cX11_init 253 = .ok (.aastore, 1) := by decide +kernel
theorem dX11_init_254 : decode cX11_init 254 = .ok (.iinc 1 1, 3) := by decide +kernel
theorem dX11_init_257 : decode cX11_init 257 = .ok (.goto (-34), 3) := by decide +kernel
theorem dX11_init_260 : decode cX11_init 260 = .ok (.aload_n 0, 1) := by decide +kernel
theorem dX11_init_261 : decode cX11_init 261 = .ok (.invokevirtual 111, 3) := by decide +kernel
theorem dX11_init_264 : decode cX11_init 264 = .ok (.return_, 1) := by decide +kernel
theorem dX11_feed_0 : decode cX11_feed 0 = .ok (.aload_n 0, 1) := by decide +kernel
theorem dX11_feed_1 : decode cX11_feed 1 = .ok (.getfield 114, 3) := by decide +kernel
theorem dX11_feed_4 : decode cX11_feed 4 = .ok (.bipush 20, 2) := by decide +kernel
theorem dX11_feed_6 : decode cX11_feed 6 = .ok (.iadd, 1) := by decide +kernel
theorem dX11_feed_7 : decode cX11_feed 7 = .ok (.sipush 400, 3) := by decide +kernel
theorem dX11_feed_10 : decode cX11_feed 10 = .ok (.if_icmp .le 5, 3) := by decide +kernel
theorem dX11_feed_15 : decode cX11_feed 15 = .ok (.aload_n 0, 1) := by decide +kernel
theorem dX11_feed_16 : decode cX11_feed 16 = .ok (.iload_n 1, 1) := by decide +kernel
theorem dX11_feed_17 : decode cX11_feed 17 = .ok (.invokevirtual 117, 3) := by decide +kernel
theorem dX11_feed_20 : decode cX11_feed 20 = .ok (.aload_n 0, 1) := by decide +kernel
theorem dX11_feed_21 : decode cX11_feed 21 = .ok (.iload_n 2, 1) := by decide +kernel
theorem dX11_feed_22 : decode cX11_feed 22 = .ok (.invokevirtual 117, 3) := by decide +kernel
theorem dX11_feed_25 : decode cX11_feed 25 = .ok (.aload_n 0, 1) := by decide +kernel
theorem dX11_feed_26 : decode cX11_feed 26 = .ok (.iload_n 3, 1) := by decide +kernel
theorem dX11_feed_27 : decode cX11_feed 27 = .ok (.invokevirtual 117, 3) := by decide +kernel
theorem dX11_feed_30 : decode cX11_feed 30 = .ok (.aload_n 0, 1) := by decide +kernel
theorem dX11_feed_31 : decode cX11_feed 31 = .ok (.iload 4, 2) := by decide +kernel
theorem dX11_feed_33 : decode cX11_feed 33 = .ok (.invokevirtual 117, 3) := by decide +kernel
theorem dX11_feed_36 : decode cX11_feed 36 = .ok (.aload_n 0, 1) := by decide +kernel
theorem dX11_feed_37 : decode cX11_feed 37 = .ok (.iload 5, 2) := by decide +kernel
theorem dX11_feed_39 : decode cX11_feed 39 = .ok (.invokevirtual 117, 3) := by decide +kernel
theorem dX11_feed_42 : decode cX11_feed 42 = .ok (.aload_n 0, 1) := by decide +kernel
theorem dX11_feed_43 : decode cX11_feed 43 = .ok (.getfield 114, 3) := by decide +kernel
theorem dX11_feed_46 : decode cX11_feed 46 = .ok (.ireturn, 1) := by decide +kernel
theorem dX11_tapeFour_0 : decode cX11_tapeFour 0 = .ok (.bipush 24, 2) := by decide +kernel
theorem dX11_tapeFour_2 : decode cX11_tapeFour 2 = .ok (.istore_n 2, 1) := by decide +kernel
theorem dX11_tapeFour_3 : decode cX11_tapeFour 3 = .ok (.iload_n 2, 1) := by decide +kernel
theorem dX11_tapeFour_4 : decode cX11_tapeFour 4 = .ok (.ifCond .lt 45, 3) := by decide +kernel
theorem dX11_tapeFour_7 : decode cX11_tapeFour 7 = .ok (.aload_n 0, 1) := by decide +kernel
theorem dX11_tapeFour_8 : decode cX11_tapeFour 8 = .ok (.getfield 114, 3) := by decide +kernel
theorem dX11_tapeFour_11 : decode cX11_tapeFour 11 = .ok (.sipush 400, 3) := by decide +kernel
theorem dX11_tapeFour_14 : decode cX11_tapeFour 14 = .ok (.if_icmp .ge 35, 3) := by decide +kernel
theorem dX11_tapeFour_17 : decode cX11_tapeFour 17 = .ok (.aload_n 0, 1) := by decide +kernel
theorem dX11_tapeFour_18 : decode cX11_tapeFour 18 = .ok (.getfield 9, 3) := by decide +kernel
theorem dX11_tapeFour_21 : decode cX11_tapeFour 21 = .ok (.aload_n 0, 1) := by decide +kernel
theorem dX11_tapeFour_22 : decode cX11_tapeFour 22 = .ok (.getfield 114, 3) := by decide +kernel
theorem dX11_tapeFour_25 : decode cX11_tapeFour 25 = .ok (.iload_n 1, 1) := by decide +kernel
theorem dX11_tapeFour_26 : decode cX11_tapeFour 26 = .ok (.iload_n 2, 1) := by decide +kernel
theorem dX11_tapeFour_27 : decode cX11_tapeFour 27 = .ok (.iushr, 1) := by decide +kernel
theorem dX11_tapeFour_28 : decode cX11_tapeFour 28 = .ok (.sipush 255, 3) := by decide +kernel
theorem dX11_tapeFour_31 : decode cX11_tapeFour 31 = .ok (.iand, 1) := by decide +kernel
theorem dX11_tapeFour_32 : decode cX11_tapeFour 32 = .ok (.iastore, 1) := by decide +kernel
theorem dX11_tapeFour_33 : decode cX11_tapeFour 33 = .ok (.aload_n 0, 1) := by decide +kernel
theorem dX11_tapeFour_34 : decode cX11_tapeFour 34 = .ok (.dup, 1) := by decide +kernel
theorem dX11_tapeFour_35 : decode cX11_tapeFour 35 = .ok (.getfield 114, 3) := by decide +kernel
theorem dX11_tapeFour_38 : decode cX11_tapeFour 38 = .ok (.iconst 1, 1) := by decide +kernel
theorem dX11_tapeFour_39 : decode cX11_tapeFour 39 = .ok (.iadd, 1) := by decide +kernel
theorem dX11_tapeFour_40 : decode cX11_tapeFour 40 = .ok (.putfield 114, 3) := by decide +kernel
theorem dX11_tapeFour_43 : decode cX11_tapeFour 43 = .ok (.iinc 2 (-8), 3) := by decide +kernel
theorem dX11_tapeFour_46 : decode cX11_tapeFour 46 = .ok (.goto (-43), 3) := by decide +kernel
theorem dX11_tapeFour_49 : decode cX11_tapeFour 49 = .ok (.return_, 1) := by decide +kernel
theorem dX11_text_0 : decode cX11_text 0 = .ok (.iload_n 1, 1) := by decide +kernel
theorem dX11_text_1 : decode cX11_text 1 = .ok (.ifCond .lt 11, 3) := by decide +kernel
theorem dX11_text_4 : decode cX11_text 4 = .ok (.iload_n 1, 1) := by decide +kernel
theorem dX11_text_5 : decode cX11_text 5 = .ok (.aload_n 0, 1) := by decide +kernel
theorem dX11_text_6 : decode cX11_text 6 = .ok (.getfield 114, 3) := by decide +kernel
theorem dX11_text_9 : decode cX11_text 9 = .ok (.if_icmp .le 6, 3) := by decide +kernel
theorem dX11_text_12 : decode cX11_text 12 = .ok (.bipush (-2), 2) := by decide +kernel
theorem dX11_text_14 : decode cX11_text 14 = .ok (.ireturn, 1) := by decide +kernel
theorem dX11_text_15 : decode cX11_text 15 = .ok (.aload_n 0, 1) := by decide +kernel
theorem dX11_text_16 : decode cX11_text 16 = .ok (.getfield 25, 3) := by decide +kernel
theorem dX11_text_19 : decode cX11_text 19 = .ok (.iload_n 1, 1) := by decide +kernel
theorem dX11_text_20 : decode cX11_text 20 = .ok (.invokevirtual 121, 3) := by decide +kernel
theorem dX11_text_23 : decode cX11_text 23 = .ok (.istore_n 2, 1) := by decide +kernel
theorem dX11_text_24 : decode cX11_text 24 = .ok (.aload_n 0, 1) := by decide +kernel
theorem dX11_text_25 : decode cX11_text 25 = .ok (.iconst 0, 1) := by decide +kernel
theorem dX11_text_26 : decode cX11_text 26 = .ok (.putfield 114, 3) := by decide +kernel
theorem dX11_text_29 : decode cX11_text 29 = .ok (.aload_n 0, 1) := by decide +kernel
theorem dX11_text_30 : decode cX11_text 30 = .ok (.getfield 25, 3) := by decide +kernel
theorem dX11_text_33 : decode cX11_text 33 = .ok (.getfield 125, 3) := by decide +kernel
theorem dX11_text_36 : decode cX11_text 36 = .ok (.ifCond .eq 5, 3) := by decide +kernel
theorem dX11_text_41 : decode cX11_text 41 = .ok (.aload_n 0, 1) := by decide +kernel
theorem dX11_text_42 : decode cX11_text 42 = .ok (.getfield 16, 3) := by decide +kernel
theorem dX11_text_45 : decode cX11_text 45 = .ok (.aload_n 0, 1) := by decide +kernel
theorem dX11_text_46 : decode cX11_text 46 = .ok (.getfield 25, 3) := by decide +kernel
theorem dX11_text_49 : decode cX11_text 49 = .ok (.getfield 128, 3) := by decide +kernel
theorem dX11_text_52 : decode cX11_text 52 = .ok (.invokevirtual 129, 3) := by decide +kernel
theorem dX11_text_55 : decode cX11_text 55 = .ok (.aload_n 0, 1) := by decide +kernel
theorem dX11_text_56 : decode cX11_text 56 = .ok (.invokevirtual 111, 3) := by decide +kernel
theorem dX11_text_59 : decode cX11_text 59 = .ok (.iload_n 2, 1) := by decide +kernel
theorem dX11_text_60 : decode cX11_text 60 = .ok (.ireturn, 1) := by decide +kernel
theorem dX11_beginAnew_0 : decode cX11_beginAnew 0 = .ok (.aload_n 0, 1) := by decide +kernel
theorem dX11_beginAnew_1 : decode cX11_beginAnew 1 = .ok (.getfield 32, 3) := by decide +kernel
theorem dX11_beginAnew_4 : decode cX11_beginAnew 4 = .ok (.aload_n 0, 1) := by decide +kernel
theorem dX11_beginAnew_5 : decode cX11_beginAnew 5 = .ok (.getfield 16, 3) := by decide +kernel
theorem dX11_beginAnew_8 : decode cX11_beginAnew 8 = .ok (.getfield 133, 3) := by decide +kernel
theorem dX11_beginAnew_11 : decode cX11_beginAnew 11 = .ok (.invokevirtual 136, 3) := by decide +kernel
theorem dX11_beginAnew_14 : decode cX11_beginAnew 14 = .ok (.aload_n 0, 1) := by decide +kernel
theorem dX11_beginAnew_15 : decode cX11_beginAnew 15 = .ok (.getfield 41, 3) := by decide +kernel
theorem dX11_beginAnew_18 : decode cX11_beginAnew 18 = .ok (.invokevirtual 139, 3) := by decide +kernel
theorem dX11_beginAnew_21 : decode cX11_beginAnew 21 = .ok (.aload_n 0, 1) := by decide +kernel
theorem dX11_beginAnew_22 : decode cX11_beginAnew 22 = .ok (.getfield 48, 3) := by decide +kernel
theorem dX11_beginAnew_25 : decode cX11_beginAnew 25 = .ok (.invokevirtual 142, 3) := by decide +kernel
theorem dX11_beginAnew_28 : decode cX11_beginAnew 28 = .ok (.aload_n 0, 1) := by decide +kernel
theorem dX11_beginAnew_29 : decode cX11_beginAnew 29 = .ok (.getfield 57, 3) := by decide +kernel
theorem dX11_beginAnew_32 : decode cX11_beginAnew 32 = .ok (.iconst 0, 1) := by decide +kernel
theorem dX11_beginAnew_33 : decode cX11_beginAnew 33 = .ok (.putfield 145, 3) := by decide +kernel
theorem dX11_beginAnew_36 : decode cX11_beginAnew 36 = .ok (.aload_n 0, 1) := by decide +kernel
theorem dX11_beginAnew_37 : decode cX11_beginAnew 37 = .ok (.getfield 61, 3) := by decide +kernel
theorem dX11_beginAnew_40 : decode cX11_beginAnew 40 = .ok (.iconst 0, 1) := by decide +kernel
theorem dX11_beginAnew_41 : decode cX11_beginAnew 41 = .ok (.putfield 145, 3) := by decide +kernel
theorem dX11_beginAnew_44 : decode cX11_beginAnew 44 = .ok (.aload_n 0, 1) := by decide +kernel
theorem dX11_beginAnew_45 : decode cX11_beginAnew 45 = .ok (.getfield 78, 3) := by decide +kernel
theorem dX11_beginAnew_48 : decode cX11_beginAnew 48 = .ok (.iconst 1, 1) := by decide +kernel
theorem dX11_beginAnew_49 : decode cX11_beginAnew 49 = .ok (.aaload, 1) := by decide +kernel
theorem dX11_beginAnew_50 : decode cX11_beginAnew 50 = .ok (.iconst 0, 1) := by decide +kernel
theorem dX11_beginAnew_51 : decode cX11_beginAnew 51 = .ok (.putfield 149, 3) := by decide +kernel
theorem dX11_beginAnew_54 : decode cX11_beginAnew 54 = .ok (.aload_n 0, 1) := by decide +kernel
theorem dX11_beginAnew_55 : decode cX11_beginAnew 55 = .ok (.getfield 93, 3) := by decide +kernel
theorem dX11_beginAnew_58 : decode cX11_beginAnew 58 = .ok (.iconst 0, 1) := by decide +kernel
theorem dX11_beginAnew_59 : decode cX11_beginAnew 59 = .ok (.putfield 150, 3) := by decide +kernel
theorem dX11_beginAnew_62 : decode cX11_beginAnew 62 = .ok (.aload_n 0, 1) := by decide +kernel
theorem dX11_beginAnew_63 : decode cX11_beginAnew 63 = .ok (.getfield 100, 3) := by decide +kernel
theorem dX11_beginAnew_66 : decode cX11_beginAnew 66 = .ok (.invokevirtual 151, 3) := by decide +kernel
theorem dX11_beginAnew_69 : decode cX11_beginAnew 69 = .ok (.aload_n 0, 1) := by decide +kernel
theorem dX11_beginAnew_70 : decode cX11_beginAnew 70 = .ok (.bipush (-3), 2) := by decide +kernel
theorem dX11_beginAnew_72 : decode cX11_beginAnew 72 = .ok (.putfield 104, 3) := by decide +kernel
theorem dX11_beginAnew_75 : decode cX11_beginAnew 75 = .ok (.aload_n 0, 1) := by decide +kernel
theorem dX11_beginAnew_76 : decode cX11_beginAnew 76 = .ok (.bipush (-3), 2) := by decide +kernel
theorem dX11_beginAnew_78 : decode cX11_beginAnew 78 = .ok (.putfield 108, 3) := by decide +kernel
theorem dX11_beginAnew_81 : decode cX11_beginAnew 81 = .ok (.aload_n 0, 1) := by decide +kernel
theorem dX11_beginAnew_82 : decode cX11_beginAnew 82 = .ok (.invokevirtual 154, 3) := by decide +kernel
theorem dX11_beginAnew_85 : decode cX11_beginAnew 85 = .ok (.return_, 1) := by decide +kernel
theorem dX11_startChanged_0 : decode cX11_startChanged 0 = .ok (.aload_n 0, 1) := by decide +kernel
theorem dX11_startChanged_1 : decode cX11_startChanged 1 = .ok (.getfield 78, 3) := by decide +kernel
theorem dX11_startChanged_4 : decode cX11_startChanged 4 = .ok (.iconst 0, 1) := by decide +kernel
theorem dX11_startChanged_5 : decode cX11_startChanged 5 = .ok (.aaload, 1) := by decide +kernel
theorem dX11_startChanged_6 : decode cX11_startChanged 6 = .ok (.iconst 0, 1) := by decide +kernel
theorem dX11_startChanged_7 : decode cX11_startChanged 7 = .ok (.putfield 149, 3) := by decide +kernel
theorem dX11_startChanged_10 : decode cX11_startChanged 10 = .ok (.aload_n 0, 1) := by decide +kernel
theorem dX11_startChanged_11 : decode cX11_startChanged 11 = .ok (.getfield 78, 3) := by decide +kernel
theorem dX11_startChanged_14 : decode cX11_startChanged 14 = .ok (.iconst 2, 1) := by decide +kernel
theorem dX11_startChanged_15 : decode cX11_startChanged 15 = .ok (.aaload, 1) := by decide +kernel
theorem dX11_startChanged_16 : decode cX11_startChanged 16 = .ok (.iconst 0, 1) := by decide +kernel
theorem dX11_startChanged_17 : decode cX11_startChanged 17 = .ok (.putfield 149, 3) := by decide +kernel
theorem dX11_startChanged_20 : decode cX11_startChanged 20 = .ok (.aload_n 0, 1) := by decide +kernel
theorem dX11_startChanged_21 : decode cX11_startChanged 21 = .ok (.invokevirtual 157, 3) := by decide +kernel
theorem dX11_startChanged_24 : decode cX11_startChanged 24 = .ok (.return_, 1) := by decide +kernel
theorem dX11_stageChanged_0 : decode cX11_stageChanged 0 = .ok (.iconst 0, 1) := by decide +kernel
theorem dX11_stageChanged_1 : decode cX11_stageChanged 1 = .ok (.istore_n 1, 1) := by decide +kernel
theorem dX11_stageChanged_2 : decode cX11_stageChanged 2 = .ok (.iload_n 1, 1) := by decide +kernel
theorem dX11_stageChanged_3 : decode cX11_stageChanged 3 = .ok (.iconst 3, 1) := by decide +kernel
theorem dX11_stageChanged_4 : decode cX11_stageChanged 4 = .ok (.if_icmp .ge 19, 3) := by decide +kernel
theorem dX11_stageChanged_7 : decode cX11_stageChanged 7 = .ok (.aload_n 0, 1) := by decide +kernel
theorem dX11_stageChanged_8 : decode cX11_stageChanged 8 = .ok (.getfield 82, 3) := by decide +kernel
theorem dX11_stageChanged_11 : decode cX11_stageChanged 11 = .ok (.iload_n 1, 1) := by decide +kernel
theorem dX11_stageChanged_12 : decode cX11_stageChanged 12 = .ok (.aaload, 1) := by decide +kernel
theorem dX11_stageChanged_13 : decode cX11_stageChanged 13 = .ok (.iconst 0, 1) := by decide +kernel
theorem dX11_stageChanged_14 : decode cX11_stageChanged 14 = .ok (.putfield 149, 3) := by decide +kernel
theorem dX11_stageChanged_17 : decode cX11_stageChanged 17 = .ok (.iinc 1 1, 3) := by decide +kernel
theorem dX11_stageChanged_20 : decode cX11_stageChanged 20 = .ok (.goto (-18), 3) := by decide +kernel
theorem dX11_stageChanged_23 : decode cX11_stageChanged 23 = .ok (.return_, 1) := by decide +kernel
theorem dX11_fault_0 : decode cX11_fault 0 = .ok (.iload_n 1, 1) := by decide +kernel
theorem dX11_fault_1 : decode cX11_fault 1 = .ok (.ifCond .ne 11, 3) := by decide +kernel
theorem dX11_fault_4 : decode cX11_fault 4 = .ok (.aload_n 0, 1) := by decide +kernel
theorem dX11_fault_5 : decode cX11_fault 5 = .ok (.getfield 25, 3) := by decide +kernel
theorem dX11_fault_8 : decode cX11_fault 8 = .ok (.getfield 125, 3) := by decide +kernel
theorem dX11_fault_11 : decode cX11_fault 11 = .ok (.ireturn, 1) := by decide +kernel
theorem dX11_fault_12 : decode cX11_fault 12 = .ok (.iload_n 1, 1) := by decide +kernel
theorem dX11_fault_13 : decode cX11_fault 13 = .ok (.iconst 1, 1) := by decide +kernel
theorem dX11_fault_14 : decode cX11_fault 14 = .ok (.if_icmp .ne 13, 3) := by decide +kernel
theorem dX11_fault_17 : decode cX11_fault 17 = .ok (.aload_n 0, 1) := by decide +kernel
theorem dX11_fault_18 : decode cX11_fault 18 = .ok (.getfield 25, 3) := by decide +kernel
theorem dX11_fault_21 : decode cX11_fault 21 = .ok (.getfield 160, 3) := by decide +kernel
theorem dX11_fault_24 : decode cX11_fault 24 = .ok (.goto 4, 3) := by decide +kernel
theorem dX11_fault_27 : decode cX11_fault 27 = .ok (.iconst (-1), 1) := by decide +kernel
theorem dX11_fault_28 : decode cX11_fault 28 = .ok (.ireturn, 1) := by decide +kernel
theorem dX11_named_0 : decode cX11_named 0 = .ok (.iload_n 1, 1) := by decide +kernel
theorem dX11_named_1 : decode cX11_named 1 = .ok (.ifCond .ne 12, 3) := by decide +kernel
theorem dX11_named_4 : decode cX11_named 4 = .ok (.aload_n 0, 1) := by decide +kernel
theorem dX11_named_5 : decode cX11_named 5 = .ok (.getfield 16, 3) := by decide +kernel
theorem dX11_named_8 : decode cX11_named 8 = .ok (.iload_n 2, 1) := by decide +kernel
theorem dX11_named_9 : decode cX11_named 9 = .ok (.invokevirtual 163, 3) := by decide +kernel
theorem dX11_named_12 : decode cX11_named 12 = .ok (.ireturn, 1) := by decide +kernel
theorem dX11_named_13 : decode cX11_named 13 = .ok (.iload_n 1, 1) := by decide +kernel
theorem dX11_named_14 : decode cX11_named 14 = .ok (.iconst 1, 1) := by decide +kernel
theorem dX11_named_15 : decode cX11_named 15 = .ok (.if_icmp .ne 14, 3) := by decide +kernel
theorem dX11_named_18 : decode cX11_named 18 = .ok (.aload_n 0, 1) := by decide +kernel
theorem dX11_named_19 : decode cX11_named 19 = .ok (.getfield 16, 3) := by decide +kernel
theorem dX11_named_22 : decode cX11_named 22 = .ok (.iload_n 2, 1) := by decide +kernel
theorem dX11_named_23 : decode cX11_named 23 = .ok (.invokevirtual 166, 3) := by decide +kernel
theorem dX11_named_26 : decode cX11_named 26 = .ok (.goto 4, 3) := by decide +kernel
theorem dX11_named_29 : decode cX11_named 29 = .ok (.iconst (-1), 1) := by decide +kernel
theorem dX11_named_30 : decode cX11_named 30 = .ok (.ireturn, 1) := by decide +kernel
theorem dX11_lawful_0 : decode cX11_lawful 0 = .ok (.aload_n 0, 1) := by decide +kernel
theorem dX11_lawful_1 : decode cX11_lawful 1 = .ok (.getfield 41, 3) := by decide +kernel
theorem dX11_lawful_4 : decode cX11_lawful 4 = .ok (.getfield 169, 3) := by decide +kernel
theorem dX11_lawful_7 : decode cX11_lawful 7 = .ok (.ireturn, 1) := by decide +kernel
theorem dX11_without_0 : decode cX11_without 0 = .ok (.aload_n 0, 1) := by decide +kernel
theorem dX11_without_1 : decode cX11_without 1 = .ok (.iload_n 1, 1) := by decide +kernel
theorem dX11_without_2 : decode cX11_without 2 = .ok (.invokevirtual 172, 3) := by decide +kernel
theorem dX11_without_5 : decode cX11_without 5 = .ok (.ifCond .eq 17, 3) := by decide +kernel
theorem dX11_without_22 : decode cX11_without 22 = .ok (.iconst (-1), 1) := by decide +kernel
theorem dX11_without_23 : decode cX11_without 23 = .ok (.ireturn, 1) := by decide +kernel
theorem dX11_forbids_0 : decode cX11_forbids 0 = .ok (.aload_n 0, 1) := by decide +kernel
theorem dX11_forbids_1 : decode cX11_forbids 1 = .ok (.getfield 41, 3) := by decide +kernel
theorem dX11_forbids_4 : decode cX11_forbids 4 = .ok (.getfield 169, 3) := by decide +kernel
theorem dX11_forbids_7 : decode cX11_forbids 7 = .ok (.ifCond .le 7, 3) := by decide +kernel
theorem dX11_forbids_10 : decode cX11_forbids 10 = .ok (.iconst 0, 1) := by decide +kernel
theorem dX11_forbids_11 : decode cX11_forbids 11 = .ok (.goto 20, 3) := by decide +kernel
theorem dX11_forbids_31 : decode cX11_forbids 31 = .ok (.ireturn, 1) := by decide +kernel
theorem dX11_draw_0 : decode cX11_draw 0 = .ok (.iload_n 1, 1) := by decide +kernel
theorem dX11_draw_1 : decode cX11_draw 1 = .ok (.ifCond .lt 22, 3) := by decide +kernel
theorem dX11_draw_4 : decode cX11_draw 4 = .ok (.iload_n 1, 1) := by decide +kernel
theorem dX11_draw_5 : decode cX11_draw 5 = .ok (.aload_n 0, 1) := by decide +kernel
theorem dX11_draw_6 : decode cX11_draw 6 = .ok (.getfield 41, 3) := by decide +kernel
theorem dX11_draw_9 : decode cX11_draw 9 = .ok (.getfield 169, 3) := by decide +kernel
theorem dX11_draw_12 : decode cX11_draw 12 = .ok (.if_icmp .ge 11, 3) := by decide +kernel
theorem dX11_draw_15 : decode cX11_draw 15 = .ok (.aload_n 0, 1) := by decide +kernel
theorem dX11_draw_16 : decode cX11_draw 16 = .ok (.iload_n 2, 1) := by decide +kernel
theorem dX11_draw_17 : decode cX11_draw 17 = .ok (.invokevirtual 186, 3) := by decide +kernel
theorem dX11_draw_20 : decode cX11_draw 20 = .ok (.ifCond .ne 5, 3) := by decide +kernel
theorem dX11_draw_23 : decode cX11_draw 23 = .ok (.iconst (-1), 1) := by decide +kernel
theorem dX11_draw_24 : decode cX11_draw 24 = .ok (.ireturn, 1) := by decide +kernel
theorem dX11_judge_0 : decode cX11_judge 0 = .ok (.aload_n 0, 1) := by decide +kernel
theorem dX11_judge_1 : decode cX11_judge 1 = .ok (.iload_n 1, 1) := by decide +kernel
theorem dX11_judge_2 : decode cX11_judge 2 = .ok (.invokevirtual 196, 3) := by decide +kernel
theorem dX11_judge_5 : decode cX11_judge 5 = .ok (.ifCond .ne 5, 3) := by decide +kernel
theorem dX11_judge_8 : decode cX11_judge 8 = .ok (.iconst (-1), 1) := by decide +kernel
theorem dX11_judge_9 : decode cX11_judge 9 = .ok (.ireturn, 1) := by decide +kernel
theorem dX11_judge_10 : decode cX11_judge 10 = .ok (.aload_n 0, 1) := by decide +kernel
theorem dX11_judge_11 : decode cX11_judge 11 = .ok (.getfield 41, 3) := by decide +kernel
theorem dX11_judge_14 : decode cX11_judge 14 = .ok (.getfield 199, 3) := by decide +kernel
theorem dX11_judge_17 : decode cX11_judge 17 = .ok (.iload_n 1, 1) := by decide +kernel
theorem dX11_judge_18 : decode cX11_judge 18 = .ok (.iaload, 1) := by decide +kernel
theorem dX11_judge_19 : decode cX11_judge 19 = .ok (.ifCond .ne 7, 3) := by decide +kernel
theorem dX11_judge_22 : decode cX11_judge 22 = .ok (.iconst 1, 1) := by decide +kernel
theorem dX11_judge_23 : decode cX11_judge 23 = .ok (.goto 4, 3) := by decide +kernel
theorem dX11_judge_27 : decode cX11_judge 27 = .ok (.ireturn, 1) := by decide +kernel
theorem dX11_isTeam_0 : decode cX11_isTeam 0 = .ok (.iload_n 1, 1) := by decide +kernel
theorem dX11_isTeam_1 : decode cX11_isTeam 1 = .ok (.ifCond .lt 18, 3) := by decide +kernel
theorem dX11_isTeam_4 : decode cX11_isTeam 4 = .ok (.iload_n 1, 1) := by decide +kernel
theorem dX11_isTeam_5 : decode cX11_isTeam 5 = .ok (.aload_n 0, 1) := by decide +kernel
theorem dX11_isTeam_6 : decode cX11_isTeam 6 = .ok (.getfield 16, 3) := by decide +kernel
theorem dX11_isTeam_9 : decode cX11_isTeam 9 = .ok (.getfield 202, 3) := by decide +kernel
theorem dX11_isTeam_12 : decode cX11_isTeam 12 = .ok (.if_icmp .ge 7, 3) := by decide +kernel
theorem dX11_isTeam_19 : decode cX11_isTeam 19 = .ok (.iconst 0, 1) := by decide +kernel
theorem dX11_isTeam_20 : decode cX11_isTeam 20 = .ok (.ireturn, 1) := by decide +kernel
theorem dX11_isGroup_0 : decode cX11_isGroup 0 = .ok (.iload_n 1, 1) := by decide +kernel
theorem dX11_isGroup_1 : decode cX11_isGroup 1 = .ok (.ifCond .lt 18, 3) := by decide +kernel
theorem dX11_isGroup_4 : decode cX11_isGroup 4 = .ok (.iload_n 1, 1) := by decide +kernel
theorem dX11_isGroup_5 : decode cX11_isGroup 5 = .ok (.aload_n 0, 1) := by decide +kernel
theorem dX11_isGroup_6 : decode cX11_isGroup 6 = .ok (.getfield 16, 3) := by decide +kernel
theorem dX11_isGroup_9 : decode cX11_isGroup 9 = .ok (.getfield 133, 3) := by decide +kernel
theorem dX11_isGroup_12 : decode cX11_isGroup 12 = .ok (.if_icmp .ge 7, 3) := by decide +kernel
theorem dX11_isGroup_15 : decode cX11_isGroup 15 = .ok (.iconst 1, 1) := by decide +kernel
theorem dX11_isGroup_16 : decode cX11_isGroup 16 = .ok (.goto 4, 3) := by decide +kernel
theorem dX11_isGroup_19 : decode cX11_isGroup 19 = .ok (.iconst 0, 1) := by decide +kernel
theorem dX11_isGroup_20 : decode cX11_isGroup 20 = .ok (.ireturn, 1) := by decide +kernel
theorem dX11_isBar_0 : decode cX11_isBar 0 = .ok (.iload_n 1, 1) := by decide +kernel
theorem dX11_isBar_1 : decode cX11_isBar 1 = .ok (.ifCond .lt 18, 3) := by decide +kernel
theorem dX11_isBar_4 : decode cX11_isBar 4 = .ok (.iload_n 1, 1) := by decide +kernel
theorem dX11_isBar_5 : decode cX11_isBar 5 = .ok (.aload_n 0, 1) := by decide +kernel
theorem dX11_isBar_6 : decode cX11_isBar 6 = .ok (.getfield 16, 3) := by decide +kernel
theorem dX11_isBar_9 : decode cX11_isBar 9 = .ok (.getfield 179, 3) := by decide +kernel
theorem dX11_isBar_12 : decode cX11_isBar 12 = .ok (.if_icmp .ge 7, 3) := by decide +kernel
theorem dX11_isBar_19 : decode cX11_isBar 19 = .ok (.iconst 0, 1) := by decide +kernel
theorem dX11_isBar_20 : decode cX11_isBar 20 = .ok (.ireturn, 1) := by decide +kernel
theorem dX11_isCode_0 : decode cX11_isCode 0 = .ok (.iload_n 1, 1) := by decide +kernel
theorem dX11_isCode_1 : decode cX11_isCode 1 = .ok (.ifCond .lt 18, 3) := by decide +kernel
theorem dX11_isCode_4 : decode cX11_isCode 4 = .ok (.iload_n 1, 1) := by decide +kernel
theorem dX11_isCode_5 : decode cX11_isCode 5 = .ok (.aload_n 0, 1) := by decide +kernel
theorem dX11_isCode_6 : decode cX11_isCode 6 = .ok (.getfield 41, 3) := by decide +kernel
theorem dX11_isCode_9 : decode cX11_isCode 9 = .ok (.getfield 205, 3) := by decide +kernel
theorem dX11_isCode_12 : decode cX11_isCode 12 = .ok (.if_icmp .ge 7, 3) := by decide +kernel
theorem dX11_isCode_15 : decode cX11_isCode 15 = .ok (.iconst 1, 1) := by decide +kernel
theorem dX11_isCode_16 : decode cX11_isCode 16 = .ok (.goto 4, 3) := by decide +kernel
theorem dX11_isCode_19 : decode cX11_isCode 19 = .ok (.iconst 0, 1) := by decide +kernel
theorem dX11_isCode_20 : decode cX11_isCode 20 = .ok (.ireturn, 1) := by decide +kernel
theorem dX11_isWay_0 : decode cX11_isWay 0 = .ok (.iload_n 0, 1) := by decide +kernel
theorem dX11_isWay_1 : decode cX11_isWay 1 = .ok (.ifCond .lt 12, 3) := by decide +kernel
theorem dX11_isWay_4 : decode cX11_isWay 4 = .ok (.iload_n 0, 1) := by decide +kernel
theorem dX11_isWay_5 : decode cX11_isWay 5 = .ok (.iconst 3, 1) := by decide +kernel
theorem dX11_isWay_6 : decode cX11_isWay 6 = .ok (.if_icmp .ge 7, 3) := by decide +kernel
theorem dX11_isWay_9 : decode cX11_isWay 9 = .ok (.iconst 1, 1) := by decide +kernel
theorem dX11_isWay_10 : decode cX11_isWay 10 = .ok (.goto 4, 3) := by decide +kernel
theorem dX11_isWay_13 : decode cX11_isWay 13 = .ok (.iconst 0, 1) := by decide +kernel
theorem dX11_isWay_14 : decode cX11_isWay 14 = .ok (.ireturn, 1) := by decide +kernel
theorem dX11_order_0 : decode cX11_order 0 = .ok (.iload_n 1, 1) := by decide +kernel
theorem dX11_order_1 : decode cX11_order 1 = .ok (.aload_n 0, 1) := by decide +kernel
theorem dX11_order_2 : decode cX11_order 2 = .ok (.getfield 16, 3) := by decide +kernel
theorem dX11_order_5 : decode cX11_order 5 = .ok (.getfield 208, 3) := by decide +kernel
theorem dX11_order_8 : decode cX11_order 8 = .ok (.aload_n 0, 1) := by decide +kernel
theorem dX11_order_9 : decode cX11_order 9 = .ok (.getfield 48, 3) := by decide +kernel
theorem dX11_order_12 : decode cX11_order 12 = .ok (.getfield 211, 3) := by decide +kernel
theorem dX11_order_15 : decode cX11_order 15 = .ok (.invokestatic 214, 3) := by decide +kernel
theorem dX11_order_18 : decode cX11_order 18 = .ok (.ifCond .ne 5, 3) := by decide +kernel
theorem dX11_order_23 : decode cX11_order 23 = .ok (.aload_n 0, 1) := by decide +kernel
theorem dX11_order_24 : decode cX11_order 24 = .ok (.getfield 48, 3) := by decide +kernel
theorem dX11_order_27 : decode cX11_order 27 = .ok (.invokevirtual 218, 3) := by decide +kernel
theorem dX11_order_30 : decode cX11_order 30 = .ok (.aload_n 0, 1) := by decide +kernel
theorem dX11_order_31 : decode cX11_order 31 = .ok (.getfield 57, 3) := by decide +kernel
theorem dX11_order_34 : decode cX11_order 34 = .ok (.iconst 0, 1) := by decide +kernel
theorem dX11_order_35 : decode cX11_order 35 = .ok (.putfield 145, 3) := by decide +kernel
theorem dX11_order_38 : decode cX11_order 38 = .ok (.aload_n 0, 1) := by decide +kernel
theorem dX11_order_39 : decode cX11_order 39 = .ok (.bipush (-3), 2) := by decide +kernel
theorem dX11_order_41 : decode cX11_order 41 = .ok (.putfield 108, 3) := by decide +kernel
theorem dX11_order_44 : decode cX11_order 44 = .ok (.aload_n 0, 1) := by decide +kernel
theorem dX11_order_45 : decode cX11_order 45 = .ok (.invokevirtual 154, 3) := by decide +kernel
theorem dX11_order_48 : decode cX11_order 48 = .ok (.iconst 1, 1) := by decide +kernel
theorem dX11_order_49 : decode cX11_order 49 = .ok (.ireturn, 1) := by decide +kernel
theorem dX11_readTurns_0 : decode cX11_readTurns 0 = .ok (.iconst 0, 1) := by decide +kernel
theorem dX11_readTurns_1 : decode cX11_readTurns 1 = .ok (.istore_n 3, 1) := by decide +kernel
theorem dX11_readTurns_2 : decode cX11_readTurns 2 = .ok (.iconst 0, 1) := by decide +kernel
theorem dX11_readTurns_3 : decode cX11_readTurns 3 = .ok (.istore 4, 2) := by decide +kernel
theorem dX11_readTurns_5 : decode cX11_readTurns 5 = .ok (.iload 4, 2) := by decide +kernel
theorem dX11_readTurns_7 : decode cX11_readTurns 7 = .ok (.iload_n 1, 1) := by decide +kernel
theorem dX11_readTurns_8 : decode cX11_readTurns 8 = .ok (.if_icmp .ge 22, 3) := by decide +kernel
theorem dX11_readTurns_30 : decode cX11_readTurns 30 = .ok (.iload_n 3, 1) := by decide +kernel
theorem dX11_readTurns_31 : decode cX11_readTurns 31 = .ok (.iconst 1, 1) := by decide +kernel
theorem dX11_readTurns_32 : decode cX11_readTurns 32 = .ok (.iload_n 1, 1) := by decide +kernel
theorem dX11_readTurns_33 : decode cX11_readTurns 33 = .ok (.ishl, 1) := by decide +kernel
theorem dX11_readTurns_34 : decode cX11_readTurns 34 = .ok (.iconst 1, 1) := by decide +kernel
theorem dX11_readTurns_35 : decode cX11_readTurns 35 = .ok (.isub, 1) := by decide +kernel
theorem dX11_readTurns_36 : decode cX11_readTurns 36 = .ok (.if_icmp .eq 5, 3) := by decide +kernel
theorem dX11_readTurns_41 : decode cX11_readTurns 41 = .ok (.iconst 0, 1) := by decide +kernel
theorem dX11_readTurns_42 : decode cX11_readTurns 42 = .ok (.istore 4, 2) := by decide +kernel
theorem dX11_readTurns_44 : decode cX11_readTurns 44 = .ok (.iload 4, 2) := by decide +kernel
theorem dX11_readTurns_46 : decode cX11_readTurns 46 = .ok (.iload_n 1, 1) := by decide +kernel
theorem dX11_readTurns_47 : decode cX11_readTurns 47 = .ok (.if_icmp .ge 28, 3) := by decide +kernel
theorem dX11_readTurns_75 : decode cX11_readTurns 75 = .ok (.iconst 1, 1) := by decide +kernel
theorem dX11_readTurns_76 : decode cX11_readTurns 76 = .ok (.ireturn, 1) := by decide +kernel
theorem dX11_treeOfNow_0 : decode cX11_treeOfNow 0 = .ok (.aload_n 0, 1) := by decide +kernel
theorem dX11_treeOfNow_1 : decode cX11_treeOfNow 1 = .ok (.getfield 57, 3) := by decide +kernel
theorem dX11_treeOfNow_4 : decode cX11_treeOfNow 4 = .ok (.getfield 145, 3) := by decide +kernel
theorem dX11_treeOfNow_7 : decode cX11_treeOfNow 7 = .ok (.ifCond .ne 17, 3) := by decide +kernel
theorem dX11_treeOfNow_10 : decode cX11_treeOfNow 10 = .ok (.aload_n 0, 1) := by decide +kernel
theorem dX11_treeOfNow_11 : decode cX11_treeOfNow 11 = .ok (.getfield 57, 3) := by decide +kernel
theorem dX11_treeOfNow_14 : decode cX11_treeOfNow 14 = .ok (.aload_n 0, 1) := by decide +kernel
theorem dX11_treeOfNow_15 : decode cX11_treeOfNow 15 = .ok (.getfield 48, 3) := by decide +kernel
theorem dX11_treeOfNow_18 : decode cX11_treeOfNow 18 = .ok (.getfield 211, 3) := by decide +kernel
theorem dX11_treeOfNow_21 : decode cX11_treeOfNow 21 = .ok (.invokevirtual 224, 3) := by decide +kernel
theorem dX11_treeOfNow_24 : decode cX11_treeOfNow 24 = .ok (.aload_n 0, 1) := by decide +kernel
theorem dX11_treeOfNow_25 : decode cX11_treeOfNow 25 = .ok (.getfield 57, 3) := by decide +kernel
theorem dX11_treeOfNow_28 : decode cX11_treeOfNow 28 = .ok (.areturn, 1) := by decide +kernel
theorem dX11_ball_0 : decode cX11_ball 0 = .ok (.aload_n 0, 1) := by decide +kernel
theorem dX11_ball_1 : decode cX11_ball 1 = .ok (.iload_n 1, 1) := by decide +kernel
theorem dX11_ball_2 : decode cX11_ball 2 = .ok (.invokevirtual 186, 3) := by decide +kernel
theorem dX11_ball_5 : decode cX11_ball 5 = .ok (.ifCond .eq 26, 3) := by decide +kernel
theorem dX11_ball_31 : decode cX11_ball 31 = .ok (.iconst (-1), 1) := by decide +kernel
theorem dX11_ball_32 : decode cX11_ball 32 = .ok (.ireturn, 1) := by decide +kernel
theorem dX11_why_0 : decode cX11_why 0 = .ok (.aload_n 0, 1) := by decide +kernel
theorem dX11_why_1 : decode cX11_why 1 = .ok (.iload_n 1, 1) := by decide +kernel
theorem dX11_why_2 : decode cX11_why 2 = .ok (.invokevirtual 267, 3) := by decide +kernel
theorem dX11_why_5 : decode cX11_why 5 = .ok (.ifCond .eq 14, 3) := by decide +kernel
theorem dX11_why_8 : decode cX11_why 8 = .ok (.aload_n 0, 1) := by decide +kernel
theorem dX11_why_9 : decode cX11_why 9 = .ok (.getfield 48, 3) := by decide +kernel
theorem dX11_why_12 : decode cX11_why 12 = .ok (.iload_n 1, 1) := by decide +kernel
theorem dX11_why_13 : decode cX11_why 13 = .ok (.invokevirtual 270, 3) := by decide +kernel
theorem dX11_why_16 : decode cX11_why 16 = .ok (.goto 4, 3) := by decide +kernel
theorem dX11_why_19 : decode cX11_why 19 = .ok (.iconst (-1), 1) := by decide +kernel
theorem dX11_why_20 : decode cX11_why 20 = .ok (.ireturn, 1) := by decide +kernel
theorem dX11_clear_0 : decode cX11_clear 0 = .ok (.aload_n 0, 1) := by decide +kernel
theorem dX11_clear_1 : decode cX11_clear 1 = .ok (.getfield 48, 3) := by decide +kernel
theorem dX11_clear_4 : decode cX11_clear 4 = .ok (.getfield 273, 3) := by decide +kernel
theorem dX11_clear_7 : decode cX11_clear 7 = .ok (.istore_n 1, 1) := by decide +kernel
theorem dX11_clear_8 : decode cX11_clear 8 = .ok (.aload_n 0, 1) := by decide +kernel
theorem dX11_clear_9 : decode cX11_clear 9 = .ok (.getfield 48, 3) := by decide +kernel
theorem dX11_clear_12 : decode cX11_clear 12 = .ok (.invokevirtual 218, 3) := by decide +kernel
theorem dX11_clear_15 : decode cX11_clear 15 = .ok (.aload_n 0, 1) := by decide +kernel
theorem dX11_clear_16 : decode cX11_clear 16 = .ok (.invokevirtual 157, 3) := by decide +kernel
theorem dX11_clear_19 : decode cX11_clear 19 = .ok (.iload_n 1, 1) := by decide +kernel
theorem dX11_clear_20 : decode cX11_clear 20 = .ok (.ireturn, 1) := by decide +kernel
theorem dX11_placed_0 : decode cX11_placed 0 = .ok (.aload_n 0, 1) := by decide +kernel
theorem dX11_placed_1 : decode cX11_placed 1 = .ok (.iload_n 1, 1) := by decide +kernel
theorem dX11_placed_2 : decode cX11_placed 2 = .ok (.invokevirtual 186, 3) := by decide +kernel
theorem dX11_placed_5 : decode cX11_placed 5 = .ok (.ifCond .eq 15, 3) := by decide +kernel
theorem dX11_placed_20 : decode cX11_placed 20 = .ok (.iconst (-1), 1) := by decide +kernel
theorem dX11_placed_21 : decode cX11_placed 21 = .ok (.ireturn, 1) := by decide +kernel
theorem dX11_undo_0 : decode cX11_undo 0 = .ok (.aload_n 0, 1) := by decide +kernel
theorem dX11_undo_1 : decode cX11_undo 1 = .ok (.getfield 48, 3) := by decide +kernel
theorem dX11_undo_4 : decode cX11_undo 4 = .ok (.getfield 273, 3) := by decide +kernel
theorem dX11_undo_7 : decode cX11_undo 7 = .ok (.ifCond .ne 5, 3) := by decide +kernel
theorem dX11_undo_10 : decode cX11_undo 10 = .ok (.iconst (-1), 1) := by decide +kernel
theorem dX11_undo_11 : decode cX11_undo 11 = .ok (.ireturn, 1) := by decide +kernel
theorem dX11_ends_0 : decode cX11_ends 0 = .ok (.aload_n 0, 1) := by decide +kernel
theorem dX11_ends_1 : decode cX11_ends 1 = .ok (.iload_n 1, 1) := by decide +kernel
theorem dX11_ends_2 : decode cX11_ends 2 = .ok (.invokevirtual 186, 3) := by decide +kernel
theorem dX11_ends_5 : decode cX11_ends 5 = .ok (.ifCond .ne 5, 3) := by decide +kernel
theorem dX11_ends_8 : decode cX11_ends 8 = .ok (.iconst (-1), 1) := by decide +kernel
theorem dX11_ends_9 : decode cX11_ends 9 = .ok (.ireturn, 1) := by decide +kernel
theorem dX11_blame_0 : decode cX11_blame 0 = .ok (.aload_n 0, 1) := by decide +kernel
theorem dX11_blame_1 : decode cX11_blame 1 = .ok (.iload_n 1, 1) := by decide +kernel
theorem dX11_blame_2 : decode cX11_blame 2 = .ok (.invokevirtual 267, 3) := by decide +kernel
theorem dX11_blame_5 : decode cX11_blame 5 = .ok (.ifCond .eq 15, 3) := by decide +kernel
theorem dX11_blame_8 : decode cX11_blame 8 = .ok (.aload_n 0, 1) := by decide +kernel
theorem dX11_blame_9 : decode cX11_blame 9 = .ok (.getfield 48, 3) := by decide +kernel
theorem dX11_blame_12 : decode cX11_blame 12 = .ok (.iload_n 1, 1) := by decide +kernel
theorem dX11_blame_13 : decode cX11_blame 13 = .ok (.invokevirtual 270, 3) := by decide +kernel
theorem dX11_blame_16 : decode cX11_blame 16 = .ok (.iconst 2, 1) := by decide +kernel
theorem dX11_blame_17 : decode cX11_blame 17 = .ok (.if_icmp .eq 5, 3) := by decide +kernel
theorem dX11_blame_20 : decode cX11_blame 20 = .ok (.iconst (-1), 1) := by decide +kernel
theorem dX11_blame_21 : decode cX11_blame 21 = .ok (.ireturn, 1) := by decide +kernel
theorem dX11_pair_0 : decode cX11_pair 0 = .ok (.aload_n 0, 1) := by decide +kernel
theorem dX11_pair_1 : decode cX11_pair 1 = .ok (.iload_n 1, 1) := by decide +kernel
theorem dX11_pair_2 : decode cX11_pair 2 = .ok (.invokevirtual 186, 3) := by decide +kernel
theorem dX11_pair_5 : decode cX11_pair 5 = .ok (.ifCond .eq 23, 3) := by decide +kernel
theorem dX11_pair_28 : decode cX11_pair 28 = .ok (.ldc2_w 298, 3) := by decide +kernel
theorem dX11_pair_31 : decode cX11_pair 31 = .ok (.lreturn, 1) := by decide +kernel
theorem dX11_place_0 : decode cX11_place 0 = .ok (.aload_n 0, 1) := by decide +kernel
theorem dX11_place_1 : decode cX11_place 1 = .ok (.iload_n 1, 1) := by decide +kernel
theorem dX11_place_2 : decode cX11_place 2 = .ok (.invokevirtual 186, 3) := by decide +kernel
theorem dX11_place_5 : decode cX11_place 5 = .ok (.ifCond .eq 18, 3) := by decide +kernel
theorem dX11_place_23 : decode cX11_place 23 = .ok (.ldc2_w 298, 3) := by decide +kernel
theorem dX11_place_26 : decode cX11_place 26 = .ok (.lreturn, 1) := by decide +kernel
theorem dX11_all_0 : decode cX11_all 0 = .ok (.iload_n 1, 1) := by decide +kernel
theorem dX11_all_1 : decode cX11_all 1 = .ok (.invokestatic 295, 3) := by decide +kernel
theorem dX11_all_4 : decode cX11_all 4 = .ok (.ifCond .ne 7, 3) := by decide +kernel
theorem dX11_all_7 : decode cX11_all 7 = .ok (.ldc2_w 298, 3) := by decide +kernel
theorem dX11_all_10 : decode cX11_all 10 = .ok (.lreturn, 1) := by decide +kernel
theorem dX11_all_11 : decode cX11_all 11 = .ok (.aload_n 0, 1) := by decide +kernel
theorem dX11_all_12 : decode cX11_all 12 = .ok (.getfield 41, 3) := by decide +kernel
theorem dX11_all_15 : decode cX11_all 15 = .ok (.getfield 169, 3) := by decide +kernel
theorem dX11_all_18 : decode cX11_all 18 = .ok (.ifCond .ne 5, 3) := by decide +kernel
theorem dX11_all_23 : decode cX11_all 23 = .ok (.iload_n 1, 1) := by decide +kernel
theorem dX11_all_24 : decode cX11_all 24 = .ok (.iconst 1, 1) := by decide +kernel
theorem dX11_all_25 : decode cX11_all 25 = .ok (.if_icmp .ne 12, 3) := by decide +kernel
theorem dX11_all_28 : decode cX11_all 28 = .ok (.aload_n 0, 1) := by decide +kernel
theorem dX11_all_29 : decode cX11_all 29 = .ok (.iconst 1, 1) := by decide +kernel
theorem dX11_all_30 : decode cX11_all 30 = .ok (.invokevirtual 300, 3) := by decide +kernel
theorem dX11_all_33 : decode cX11_all 33 = .ok (.getfield 311, 3) := by decide +kernel
theorem dX11_all_36 : decode cX11_all 36 = .ok (.lreturn, 1) := by decide +kernel
theorem dX11_all_37 : decode cX11_all 37 = .ok (.aload_n 0, 1) := by decide +kernel
theorem dX11_all_38 : decode cX11_all 38 = .ok (.getfield 48, 3) := by decide +kernel
theorem dX11_all_41 : decode cX11_all 41 = .ok (.iload_n 1, 1) := by decide +kernel
theorem dX11_all_42 : decode cX11_all 42 = .ok (.ifCond .ne 9, 3) := by decide +kernel
theorem dX11_all_45 : decode cX11_all 45 = .ok (.getstatic 315, 3) := by decide +kernel
theorem dX11_all_48 : decode cX11_all 48 = .ok (.goto 6, 3) := by decide +kernel
theorem dX11_all_51 : decode cX11_all 51 = .ok (.getstatic 318, 3) := by decide +kernel
theorem dX11_all_54 : decode cX11_all 54 = .ok (.invokevirtual 321, 3) := by decide +kernel
theorem dX11_all_57 : decode cX11_all 57 = .ok (.lreturn, 1) := by decide +kernel
theorem dX11_chancesNow_0 : decode cX11_chancesNow 0 = .ok (.aload_n 0, 1) := by decide +kernel
theorem dX11_chancesNow_1 : decode cX11_chancesNow 1 = .ok (.getfield 48, 3) := by decide +kernel
theorem dX11_chancesNow_4 : decode cX11_chancesNow 4 = .ok (.getfield 273, 3) := by decide +kernel
theorem dX11_chancesNow_7 : decode cX11_chancesNow 7 = .ok (.ifCond .ne 9, 3) := by decide +kernel
theorem dX11_chancesNow_10 : decode cX11_chancesNow 10 = .ok (.aload_n 0, 1) := by decide +kernel
theorem dX11_chancesNow_11 : decode cX11_chancesNow 11 = .ok (.iload_n 1, 1) := by decide +kernel
theorem dX11_chancesNow_12 : decode cX11_chancesNow 12 = .ok (.invokevirtual 325, 3) := by decide +kernel
theorem dX11_chancesNow_15 : decode cX11_chancesNow 15 = .ok (.areturn, 1) := by decide +kernel
theorem dX11_chancesAtStart_0 : decode cX11_chancesAtStart 0 = .ok (.aload_n 0, 1) := by decide +kernel
theorem dX11_chancesAtStart_1 : decode cX11_chancesAtStart 1 = .ok (.getfield 78, 3) := by decide +kernel
