theorem dX5_isNumber_1 : decode cX5_isNumber 1 = .ok (.getfield 47, 3) := by decide +kernel
theorem dX5_isNumber_4 : decode cX5_isNumber 4 = .ok (.iconst 2, 1) := by decide +kernel
theorem dX5_isNumber_5 : decode cX5_isNumber 5 = .ok (.if_icmp .eq 9, 3) := by decide +kernel
theorem dX5_isNumber_8 : decode cX5_isNumber 8 = .ok (.aload_n 0, 1) := by decide +kernel
theorem dX5_isNumber_9 : decode cX5_isNumber 9 = .ok (.iconst 1, 1) := by decide +kernel
theorem dX5_isNumber_10 : decode cX5_isNumber 10 = .ok (.invokevirtual 84, 3) := by decide +kernel
theorem dX5_isNumber_13 : decode cX5_isNumber 13 = .ok (.ireturn, 1) := by decide +kernel
theorem dX5_isNumber_14 : decode cX5_isNumber 14 = .ok (.aload_n 0, 1) := by decide +kernel
theorem dX5_isNumber_15 : decode cX5_isNumber 15 = .ok (.getfield 73, 3) := by decide +kernel
theorem dX5_isNumber_18 : decode cX5_isNumber 18 = .ok (.iload_n 1, 1) := by decide +kernel
theorem dX5_isNumber_19 : decode cX5_isNumber 19 = .ok (.if_icmp .lt 11, 3) := by decide +kernel
theorem dX5_isNumber_22 : decode cX5_isNumber 22 = .ok (.aload_n 0, 1) := by decide +kernel
theorem dX5_isNumber_23 : decode cX5_isNumber 23 = .ok (.getfield 73, 3) := by decide +kernel
theorem dX5_isNumber_26 : decode cX5_isNumber 26 = .ok (.iload_n 2, 1) := by decide +kernel
theorem dX5_isNumber_27 : decode cX5_isNumber 27 = .ok (.if_icmp .le 11, 3) := by decide +kernel
theorem dX5_isNumber_30 : decode cX5_isNumber 30 = .ok (.aload_n 0, 1) := by decide +kernel
theorem dX5_isNumber_31 : decode cX5_isNumber 31 = .ok (.iconst 2, 1) := by decide +kernel
theorem dX5_isNumber_32 : decode cX5_isNumber 32 = .ok (.invokevirtual 84, 3) := by decide +kernel
theorem dX5_isNumber_35 : decode cX5_isNumber 35 = .ok (.ifCond .eq 7, 3) := by decide +kernel
theorem dX5_isNumber_38 : decode cX5_isNumber 38 = .ok (.iconst 1, 1) := by decide +kernel
theorem dX5_isNumber_39 : decode cX5_isNumber 39 = .ok (.goto 4, 3) := by decide +kernel
theorem dX5_isNumber_42 : decode cX5_isNumber 42 = .ok (.iconst 0, 1) := by decide +kernel
theorem dX5_isNumber_43 : decode cX5_isNumber 43 = .ok (.ireturn, 1) := by decide +kernel
theorem dX5_isName_0 : decode cX5_isName 0 = .ok (.aload_n 0, 1) := by decide +kernel
theorem dX5_isName_1 : decode cX5_isName 1 = .ok (.getfield 47, 3) := by decide +kernel
theorem dX5_isName_4 : decode cX5_isName 4 = .ok (.iconst 1, 1) := by decide +kernel
theorem dX5_isName_5 : decode cX5_isName 5 = .ok (.if_icmp .ne 13, 3) := by decide +kernel
theorem dX5_isName_8 : decode cX5_isName 8 = .ok (.aload_n 0, 1) := by decide +kernel
theorem dX5_isName_9 : decode cX5_isName 9 = .ok (.getfield 73, 3) := by decide +kernel
theorem dX5_isName_12 : decode cX5_isName 12 = .ok (.invokestatic 164, 3) := by decide +kernel
theorem dX5_isName_15 : decode cX5_isName 15 = .ok (.ifCond .eq 11, 3) := by decide +kernel
theorem dX5_isName_18 : decode cX5_isName 18 = .ok (.aload_n 0, 1) := by decide +kernel
theorem dX5_isName_19 : decode cX5_isName 19 = .ok (.iconst 1, 1) := by decide +kernel
theorem dX5_isName_20 : decode cX5_isName 20 = .ok (.invokevirtual 84, 3) := by decide +kernel
theorem dX5_isName_23 : decode cX5_isName 23 = .ok (.ifCond .eq 7, 3) := by decide +kernel
theorem dX5_isName_26 : decode cX5_isName 26 = .ok (.iconst 1, 1) := by decide +kernel
theorem dX5_isName_27 : decode cX5_isName 27 = .ok (.goto 4, 3) := by decide +kernel
theorem dX5_isName_30 : decode cX5_isName 30 = .ok (.iconst 0, 1) := by decide +kernel
theorem dX5_isName_31 : decode cX5_isName 31 = .ok (.ireturn, 1) := by decide +kernel
theorem dX5_isOfLanguage_0 : decode cX5_isOfLanguage 0 = .ok (.iload_n 0, 1) := by decide +kernel
theorem dX5_isOfLanguage_1 : decode cX5_isOfLanguage 1 = .ok (.lookupswitch 69 #[(50383488, 67), (54967924, 67), (211555456, 67), (254268947, 67), (437857280, 67), (475731520, 67), (553254912, 67)], 67) := by decide +kernel
theorem dX5_isOfLanguage_68 : decode cX5_isOfLanguage 68 = .ok (.iconst 1, 1) := by decide +kernel
theorem dX5_isOfLanguage_69 : decode cX5_isOfLanguage 69 = .ok (.ireturn, 1) := by decide +kernel
theorem dX5_isOfLanguage_70 : decode cX5_isOfLanguage 70 = .ok (.iconst 0, 1) := by decide +kernel
theorem dX5_isOfLanguage_71 : decode cX5_isOfLanguage 71 = .ok (.ireturn, 1) := by decide +kernel
theorem dX5_readTeam_0 : decode cX5_readTeam 0 = .ok (.aload_n 0, 1) := by decide +kernel
theorem dX5_readTeam_1 : decode cX5_readTeam 1 = .ok (.invokevirtual 121, 3) := by decide +kernel
theorem dX5_readTeam_4 : decode cX5_readTeam 4 = .ok (.ifCond .ne 5, 3) := by decide +kernel
theorem dX5_readTeam_7 : decode cX5_readTeam 7 = .ok (.iconst (-1), 1) := by decide +kernel
theorem dX5_readTeam_8 : decode cX5_readTeam 8 = .ok (.ireturn, 1) := by decide +kernel
theorem dX5_readTeam_9 : decode cX5_readTeam 9 = .ok (.aload_n 0, 1) := by decide +kernel
theorem dX5_readTeam_10 : decode cX5_readTeam 10 = .ok (.getfield 12, 3) := by decide +kernel
theorem dX5_readTeam_13 : decode cX5_readTeam 13 = .ok (.aload_n 0, 1) := by decide +kernel
theorem dX5_readTeam_14 : decode cX5_readTeam 14 = .ok (.getfield 73, 3) := by decide +kernel
theorem dX5_readTeam_17 : decode cX5_readTeam 17 = .ok (.invokevirtual 124, 3) := by decide +kernel
theorem dX5_readTeam_20 : decode cX5_readTeam 20 = .ok (.istore_n 1, 1) := by decide +kernel
theorem dX5_readTeam_21 : decode cX5_readTeam 21 = .ok (.iload_n 1, 1) := by decide +kernel
theorem dX5_readTeam_22 : decode cX5_readTeam 22 = .ok (.iconst (-1), 1) := by decide +kernel
theorem dX5_readTeam_23 : decode cX5_readTeam 23 = .ok (.if_icmp .ne 9, 3) := by decide +kernel
theorem dX5_readTeam_26 : decode cX5_readTeam 26 = .ok (.aload_n 0, 1) := by decide +kernel
theorem dX5_readTeam_27 : decode cX5_readTeam 27 = .ok (.iconst 4, 1) := by decide +kernel
theorem dX5_readTeam_28 : decode cX5_readTeam 28 = .ok (.invokevirtual 84, 3) := by decide +kernel
theorem dX5_readTeam_31 : decode cX5_readTeam 31 = .ok (.pop, 1) := by decide +kernel
theorem dX5_readTeam_32 : decode cX5_readTeam 32 = .ok (.iload_n 1, 1) := by decide +kernel
theorem dX5_readTeam_33 : decode cX5_readTeam 33 = .ok (.ireturn, 1) := by decide +kernel
theorem dX6_beginAtStart_0 : decode cX6_beginAtStart 0 = .ok (.aload_n 0, 1) := by decide +kernel
theorem dX6_beginAtStart_1 : decode cX6_beginAtStart 1 = .ok (.iconst 0, 1) := by decide +kernel
theorem dX6_beginAtStart_2 : decode cX6_beginAtStart 2 = .ok (.putfield 44, 3) := by decide +kernel
theorem dX6_beginAtStart_5 : decode cX6_beginAtStart 5 = .ok (.aload_n 0, 1) := by decide +kernel
theorem dX6_beginAtStart_6 : decode cX6_beginAtStart 6 = .ok (.iconst 0, 1) := by decide +kernel
theorem dX6_beginAtStart_7 : decode cX6_beginAtStart 7 = .ok (.putfield 48, 3) := by decide +kernel
theorem dX6_beginAtStart_10 : decode cX6_beginAtStart 10 = .ok (.aload_n 0, 1) := by decide +kernel
theorem dX6_beginAtStart_11 : decode cX6_beginAtStart 11 = .ok (.aload_n 0, 1) := by decide +kernel
theorem dX6_beginAtStart_12 : decode cX6_beginAtStart 12 = .ok (.getfield 30, 3) := by decide +kernel
theorem dX6_beginAtStart_15 : decode cX6_beginAtStart 15 = .ok (.getfield 51, 3) := by decide +kernel
theorem dX6_beginAtStart_18 : decode cX6_beginAtStart 18 = .ok (.putfield 56, 3) := by decide +kernel
theorem dX6_beginAtStart_21 : decode cX6_beginAtStart 21 = .ok (.aload_n 0, 1) := by decide +kernel
theorem dX6_beginAtStart_22 : decode cX6_beginAtStart 22 = .ok (.iconst 1, 1) := by decide +kernel
theorem dX6_beginAtStart_23 : decode cX6_beginAtStart 23 = .ok (.aload_n 0, 1) := by decide +kernel
theorem dX6_beginAtStart_24 : decode cX6_beginAtStart 24 = .ok (.getfield 25, 3) := by decide +kernel
theorem dX6_beginAtStart_27 : decode cX6_beginAtStart 27 = .ok (.getfield 59, 3) := by decide +kernel
theorem dX6_beginAtStart_30 : decode cX6_beginAtStart 30 = .ok (.ishl, 1) := by decide +kernel
theorem dX6_beginAtStart_31 : decode cX6_beginAtStart 31 = .ok (.iconst 1, 1) := by decide +kernel
theorem dX6_beginAtStart_32 : decode cX6_beginAtStart 32 = .ok (.isub, 1) := by decide +kernel
theorem dX6_beginAtStart_33 : decode cX6_beginAtStart 33 = .ok (.putfield 64, 3) := by decide +kernel
theorem dX6_beginAtStart_36 : decode cX6_beginAtStart 36 = .ok (.aload_n 0, 1) := by decide +kernel
theorem dX6_beginAtStart_37 : decode cX6_beginAtStart 37 = .ok (.getfield 40, 3) := by decide +kernel
theorem dX6_beginAtStart_40 : decode cX6_beginAtStart 40 = .ok (.iload_n 1, 1) := by decide +kernel
theorem dX6_beginAtStart_41 : decode cX6_beginAtStart 41 = .ok (.aload_n 2, 1) := by decide +kernel
theorem dX6_beginAtStart_42 : decode cX6_beginAtStart 42 = .ok (.invokevirtual 67, 3) := by decide +kernel
theorem dX6_beginAtStart_45 : decode cX6_beginAtStart 45 = .ok (.return_, 1) := by decide +kernel
theorem dX6_beginAtStage_0 : decode cX6_beginAtStage 0 = .ok (.aload_n 0, 1) := by decide +kernel
theorem dX6_beginAtStage_1 : decode cX6_beginAtStage 1 = .ok (.iload_n 1, 1) := by decide +kernel
theorem dX6_beginAtStage_2 : decode cX6_beginAtStage 2 = .ok (.aload_n 0, 1) := by decide +kernel
theorem dX6_beginAtStage_3 : decode cX6_beginAtStage 3 = .ok (.getfield 31, 3) := by decide +kernel
theorem dX6_beginAtStage_6 : decode cX6_beginAtStage 6 = .ok (.getfield 71, 3) := by decide +kernel
theorem dX6_beginAtStage_9 : decode cX6_beginAtStage 9 = .ok (.invokevirtual 76, 3) := by decide +kernel
theorem dX6_beginAtStage_12 : decode cX6_beginAtStage 12 = .ok (.aload_n 0, 1) := by decide +kernel
theorem dX6_beginAtStage_13 : decode cX6_beginAtStage 13 = .ok (.aload_n 0, 1) := by decide +kernel
theorem dX6_beginAtStage_14 : decode cX6_beginAtStage 14 = .ok (.getfield 31, 3) := by decide +kernel
theorem dX6_beginAtStage_17 : decode cX6_beginAtStage 17 = .ok (.invokevirtual 79, 3) := by decide +kernel
theorem dX6_beginAtStage_20 : decode cX6_beginAtStage 20 = .ok (.putfield 44, 3) := by decide +kernel
theorem dX6_beginAtStage_23 : decode cX6_beginAtStage 23 = .ok (.aload_n 0, 1) := by decide +kernel
theorem dX6_beginAtStage_24 : decode cX6_beginAtStage 24 = .ok (.aload_n 0, 1) := by decide +kernel
theorem dX6_beginAtStage_25 : decode cX6_beginAtStage 25 = .ok (.getfield 31, 3) := by decide +kernel
theorem dX6_beginAtStage_28 : decode cX6_beginAtStage 28 = .ok (.invokevirtual 83, 3) := by decide +kernel
theorem dX6_beginAtStage_31 : decode cX6_beginAtStage 31 = .ok (.putfield 48, 3) := by decide +kernel
theorem dX6_beginAtStage_34 : decode cX6_beginAtStage 34 = .ok (.iconst 0, 1) := by decide +kernel
theorem dX6_beginAtStage_35 : decode cX6_beginAtStage 35 = .ok (.istore_n 2, 1) := by decide +kernel
theorem dX6_beginAtStage_36 : decode cX6_beginAtStage 36 = .ok (.iload_n 2, 1) := by decide +kernel
theorem dX6_beginAtStage_37 : decode cX6_beginAtStage 37 = .ok (.aload_n 0, 1) := by decide +kernel
theorem dX6_beginAtStage_38 : decode cX6_beginAtStage 38 = .ok (.getfield 44, 3) := by decide +kernel
theorem dX6_beginAtStage_41 : decode cX6_beginAtStage 41 = .ok (.if_icmp .ge 23, 3) := by decide +kernel
theorem dX6_beginAtStage_44 : decode cX6_beginAtStage 44 = .ok (.aload_n 0, 1) := by decide +kernel
theorem dX6_beginAtStage_45 : decode cX6_beginAtStage 45 = .ok (.getfield 9, 3) := by decide +kernel
theorem dX6_beginAtStage_48 : decode cX6_beginAtStage 48 = .ok (.iload_n 2, 1) := by decide +kernel
theorem dX6_beginAtStage_49 : decode cX6_beginAtStage 49 = .ok (.aload_n 0, 1) := by decide +kernel
theorem dX6_beginAtStage_50 : decode cX6_beginAtStage 50 = .ok (.getfield 31, 3) := by decide +kernel
theorem dX6_beginAtStage_53 : decode cX6_beginAtStage 53 = .ok (.iload_n 2, 1) := by decide +kernel
theorem dX6_beginAtStage_54 : decode cX6_beginAtStage 54 = .ok (.invokevirtual 86, 3) := by decide +kernel
theorem dX6_beginAtStage_57 : decode cX6_beginAtStage 57 = .ok (.iastore, 1) := by decide +kernel
theorem dX6_beginAtStage_58 : decode cX6_beginAtStage 58 = .ok (.iinc 2 1, 3) := by decide +kernel
theorem dX6_beginAtStage_61 : decode cX6_beginAtStage 61 = .ok (.goto (-25), 3) := by decide +kernel
theorem dX6_beginAtStage_64 : decode cX6_beginAtStage 64 = .ok (.aload_n 0, 1) := by decide +kernel
theorem dX6_beginAtStage_65 : decode cX6_beginAtStage 65 = .ok (.getfield 31, 3) := by decide +kernel
theorem dX6_beginAtStage_68 : decode cX6_beginAtStage 68 = .ok (.invokevirtual 90, 3) := by decide +kernel
theorem dX6_beginAtStage_71 : decode cX6_beginAtStage 71 = .ok (.istore_n 2, 1) := by decide +kernel
theorem dX6_beginAtStage_72 : decode cX6_beginAtStage 72 = .ok (.iload_n 2, 1) := by decide +kernel
theorem dX6_beginAtStage_73 : decode cX6_beginAtStage 73 = .ok (.iconst (-1), 1) := by decide +kernel
theorem dX6_beginAtStage_74 : decode cX6_beginAtStage 74 = .ok (.if_icmp .eq 27, 3) := by decide +kernel
theorem dX6_beginAtStage_77 : decode cX6_beginAtStage 77 = .ok (.aload_n 0, 1) := by decide +kernel
theorem dX6_beginAtStage_78 : decode cX6_beginAtStage 78 = .ok (.aload_n 0, 1) := by decide +kernel
theorem dX6_beginAtStage_79 : decode cX6_beginAtStage 79 = .ok (.getfield 31, 3) := by decide +kernel
theorem dX6_beginAtStage_82 : decode cX6_beginAtStage 82 = .ok (.iload_n 2, 1) := by decide +kernel
theorem dX6_beginAtStage_83 : decode cX6_beginAtStage 83 = .ok (.invokevirtual 93, 3) := by decide +kernel
theorem dX6_beginAtStage_86 : decode cX6_beginAtStage 86 = .ok (.putfield 56, 3) := by decide +kernel
theorem dX6_beginAtStage_89 : decode cX6_beginAtStage 89 = .ok (.aload_n 0, 1) := by decide +kernel
theorem dX6_beginAtStage_90 : decode cX6_beginAtStage 90 = .ok (.aload_n 0, 1) := by decide +kernel
theorem dX6_beginAtStage_91 : decode cX6_beginAtStage 91 = .ok (.getfield 31, 3) := by decide +kernel
theorem dX6_beginAtStage_94 : decode cX6_beginAtStage 94 = .ok (.iload_n 2, 1) := by decide +kernel
theorem dX6_beginAtStage_95 : decode cX6_beginAtStage 95 = .ok (.invokevirtual 96, 3) := by decide +kernel
theorem dX6_beginAtStage_98 : decode cX6_beginAtStage 98 = .ok (.putfield 64, 3) := by decide +kernel
theorem dX6_beginAtStage_101 : decode cX6_beginAtStage 101 = .ok (.return_, 1) := by decide +kernel
theorem dX6_reckon_0 : decode cX6_reckon 0 = .ok (.aload_n 1, 1) := by decide +kernel
theorem dX6_reckon_1 : decode cX6_reckon 1 = .ok (.invokevirtual 99, 3) := by decide +kernel
theorem dX6_reckon_4 : decode cX6_reckon 4 = .ok (.aload_n 0, 1) := by decide +kernel
theorem dX6_reckon_5 : decode cX6_reckon 5 = .ok (.getfield 44, 3) := by decide +kernel
theorem dX6_reckon_8 : decode cX6_reckon 8 = .ok (.aload_n 0, 1) := by decide +kernel
theorem dX6_reckon_9 : decode cX6_reckon 9 = .ok (.getfield 25, 3) := by decide +kernel
theorem dX6_reckon_12 : decode cX6_reckon 12 = .ok (.getfield 104, 3) := by decide +kernel
theorem dX6_reckon_15 : decode cX6_reckon 15 = .ok (.if_icmp .ge 21, 3) := by decide +kernel
theorem dX6_reckon_18 : decode cX6_reckon 18 = .ok (.aload_n 0, 1) := by decide +kernel
theorem dX6_reckon_19 : decode cX6_reckon 19 = .ok (.aload_n 1, 1) := by decide +kernel
theorem dX6_reckon_20 : decode cX6_reckon 20 = .ok (.aload_n 2, 1) := by decide +kernel
theorem dX6_reckon_21 : decode cX6_reckon 21 = .ok (.aload_n 0, 1) := by decide +kernel
theorem dX6_reckon_22 : decode cX6_reckon 22 = .ok (.getfield 44, 3) := by decide +kernel
theorem dX6_reckon_25 : decode cX6_reckon 25 = .ok (.aload_n 0, 1) := by decide +kernel
theorem dX6_reckon_26 : decode cX6_reckon 26 = .ok (.getfield 48, 3) := by decide +kernel
theorem dX6_reckon_29 : decode cX6_reckon 29 = .ok (.lconst 1, 1) := by decide +kernel
theorem dX6_reckon_30 : decode cX6_reckon 30 = .ok (.invokevirtual 107, 3) := by decide +kernel
theorem dX6_reckon_33 : decode cX6_reckon 33 = .ok (.goto 17, 3) := by decide +kernel
theorem dX6_reckon_36 : decode cX6_reckon 36 = .ok (.aload_n 0, 1) := by decide +kernel
theorem dX6_reckon_37 : decode cX6_reckon 37 = .ok (.aload_n 1, 1) := by decide +kernel
theorem dX6_reckon_38 : decode cX6_reckon 38 = .ok (.aload_n 2, 1) := by decide +kernel
theorem dX6_reckon_39 : decode cX6_reckon 39 = .ok (.aload_n 0, 1) := by decide +kernel
theorem dX6_reckon_40 : decode cX6_reckon 40 = .ok (.getfield 25, 3) := by decide +kernel
theorem dX6_reckon_43 : decode cX6_reckon 43 = .ok (.getfield 104, 3) := by decide +kernel
theorem dX6_reckon_46 : decode cX6_reckon 46 = .ok (.lconst 1, 1) := by decide +kernel
theorem dX6_reckon_47 : decode cX6_reckon 47 = .ok (.invokevirtual 111, 3) := by decide +kernel
theorem dX6_reckon_50 : decode cX6_reckon 50 = .ok (.aload_n 1, 1) := by decide +kernel
theorem dX6_reckon_51 : decode cX6_reckon 51 = .ok (.iconst 1, 1) := by decide +kernel
theorem dX6_reckon_52 : decode cX6_reckon 52 = .ok (.putfield 115, 3) := by decide +kernel
theorem dX6_reckon_55 : decode cX6_reckon 55 = .ok (.return_, 1) := by decide +kernel
theorem dX6_walk_0 : decode cX6_walk 0 = .ok (.iload_n 3, 1) := by decide +kernel
theorem dX6_walk_1 : decode cX6_walk 1 = .ok (.aload_n 0, 1) := by decide +kernel
theorem dX6_walk_2 : decode cX6_walk 2 = .ok (.getfield 25, 3) := by decide +kernel
theorem dX6_walk_5 : decode cX6_walk 5 = .ok (.getfield 104, 3) := by decide +kernel
theorem dX6_walk_8 : decode cX6_walk 8 = .ok (.if_icmp .lt 4, 3) := by decide +kernel
theorem dX6_walk_11 : decode cX6_walk 11 = .ok (.return_, 1) := by decide +kernel
theorem dX6_walk_12 : decode cX6_walk 12 = .ok (.aload_n 2, 1) := by decide +kernel
theorem dX6_walk_13 : decode cX6_walk 13 = .ok (.iload_n 3, 1) := by decide +kernel
theorem dX6_walk_14 : decode cX6_walk 14 = .ok (.iload 4, 2) := by decide +kernel
theorem dX6_walk_16 : decode cX6_walk 16 = .ok (.invokevirtual 119, 3) := by decide +kernel
theorem dX6_walk_19 : decode cX6_walk 19 = .ok (.istore 7, 2) := by decide +kernel
theorem dX6_walk_21 : decode cX6_walk 21 = .ok (.iconst 1, 1) := by decide +kernel
theorem dX6_walk_22 : decode cX6_walk 22 = .ok (.aload_n 0, 1) := by decide +kernel
theorem dX6_walk_23 : decode cX6_walk 23 = .ok (.getfield 25, 3) := by decide +kernel
theorem dX6_walk_26 : decode cX6_walk 26 = .ok (.getfield 59, 3) := by decide +kernel
theorem dX6_walk_29 : decode cX6_walk 29 = .ok (.ishl, 1) := by decide +kernel
theorem dX6_walk_30 : decode cX6_walk 30 = .ok (.iconst 1, 1) := by decide +kernel
theorem dX6_walk_31 : decode cX6_walk 31 = .ok (.isub, 1) := by decide +kernel
theorem dX6_walk_32 : decode cX6_walk 32 = .ok (.istore 8, 2) := by decide +kernel
theorem dX6_walk_34 : decode cX6_walk 34 = .ok (.iload_n 3, 1) := by decide +kernel
theorem dX6_walk_35 : decode cX6_walk 35 = .ok (.aload_n 0, 1) := by decide +kernel
theorem dX6_walk_36 : decode cX6_walk 36 = .ok (.getfield 44, 3) := by decide +kernel
theorem dX6_walk_39 : decode cX6_walk 39 = .ok (.if_icmp .ne 18, 3) := by decide +kernel
theorem dX6_walk_42 : decode cX6_walk 42 = .ok (.iload 7, 2) := by decide +kernel
theorem dX6_walk_44 : decode cX6_walk 44 = .ok (.aload_n 0, 1) := by decide +kernel
theorem dX6_walk_45 : decode cX6_walk 45 = .ok (.getfield 56, 3) := by decide +kernel
theorem dX6_walk_48 : decode cX6_walk 48 = .ok (.iand, 1) := by decide +kernel
theorem dX6_walk_49 : decode cX6_walk 49 = .ok (.istore 7, 2) := by decide +kernel
theorem dX6_walk_51 : decode cX6_walk 51 = .ok (.aload_n 0, 1) := by decide +kernel
theorem dX6_walk_52 : decode cX6_walk 52 = .ok (.getfield 64, 3) := by decide +kernel
theorem dX6_walk_55 : decode cX6_walk 55 = .ok (.istore 8, 2) := by decide +kernel
theorem dX6_walk_57 : decode cX6_walk 57 = .ok (.iload_n 3, 1) := by decide +kernel
theorem dX6_walk_58 : decode cX6_walk 58 = .ok (.aload_n 0, 1) := by decide +kernel
theorem dX6_walk_59 : decode cX6_walk 59 = .ok (.getfield 25, 3) := by decide +kernel
theorem dX6_walk_62 : decode cX6_walk 62 = .ok (.getfield 104, 3) := by decide +kernel
theorem dX6_walk_65 : decode cX6_walk 65 = .ok (.iconst 1, 1) := by decide +kernel
theorem dX6_walk_66 : decode cX6_walk 66 = .ok (.isub, 1) := by decide +kernel
theorem dX6_walk_67 : decode cX6_walk 67 = .ok (.if_icmp .ne 66, 3) := by decide +kernel
theorem dX6_walk_70 : decode cX6_walk 70 = .ok (.aload_n 0, 1) := by decide +kernel
theorem dX6_walk_71 : decode cX6_walk 71 = .ok (.getfield 40, 3) := by decide +kernel
theorem dX6_walk_74 : decode cX6_walk 74 = .ok (.iload 7, 2) := by decide +kernel
theorem dX6_walk_76 : decode cX6_walk 76 = .ok (.iload 8, 2) := by decide +kernel
theorem dX6_walk_78 : decode cX6_walk 78 = .ok (.invokevirtual 125, 3) := by decide +kernel
theorem dX6_walk_81 : decode cX6_walk 81 = .ok (.istore 9, 2) := by decide +kernel
theorem dX6_walk_83 : decode cX6_walk 83 = .ok (.aload_n 0, 1) := by decide +kernel
theorem dX6_walk_84 : decode cX6_walk 84 = .ok (.getfield 40, 3) := by decide +kernel
theorem dX6_walk_87 : decode cX6_walk 87 = .ok (.iload 9, 2) := by decide +kernel
theorem dX6_walk_89 : decode cX6_walk 89 = .ok (.iload 7, 2) := by decide +kernel
theorem dX6_walk_91 : decode cX6_walk 91 = .ok (.invokevirtual 128, 3) := by decide +kernel
theorem dX6_walk_94 : decode cX6_walk 94 = .ok (.ifCond .ne 25, 3) := by decide +kernel
theorem dX6_walk_97 : decode cX6_walk 97 = .ok (.aload_n 0, 1) := by decide +kernel
theorem dX6_walk_98 : decode cX6_walk 98 = .ok (.getfield 40, 3) := by decide +kernel
theorem dX6_walk_101 : decode cX6_walk 101 = .ok (.iload 7, 2) := by decide +kernel
theorem dX6_walk_103 : decode cX6_walk 103 = .ok (.iload 8, 2) := by decide +kernel
theorem dX6_walk_105 : decode cX6_walk 105 = .ok (.invokevirtual 132, 3) := by decide +kernel
theorem dX6_walk_108 : decode cX6_walk 108 = .ok (.aload_n 0, 1) := by decide +kernel
theorem dX6_walk_109 : decode cX6_walk 109 = .ok (.getfield 40, 3) := by decide +kernel
theorem dX6_walk_112 : decode cX6_walk 112 = .ok (.iload 9, 2) := by decide +kernel
theorem dX6_walk_114 : decode cX6_walk 114 = .ok (.iload 7, 2) := by decide +kernel
theorem dX6_walk_116 : decode cX6_walk 116 = .ok (.invokevirtual 136, 3) := by decide +kernel
theorem dX6_walk_119 : decode cX6_walk 119 = .ok (.aload_n 0, 1) := by decide +kernel
theorem dX6_walk_120 : decode cX6_walk 120 = .ok (.aload_n 1, 1) := by decide +kernel
theorem dX6_walk_121 : decode cX6_walk 121 = .ok (.aload_n 2, 1) := by decide +kernel
theorem dX6_walk_122 : decode cX6_walk 122 = .ok (.lload 5, 2) := by decide +kernel
theorem dX6_walk_124 : decode cX6_walk 124 = .ok (.iload 9, 2) := by decide +kernel
theorem dX6_walk_126 : decode cX6_walk 126 = .ok (.bipush 16, 2) := by decide +kernel
theorem dX6_walk_128 : decode cX6_walk 128 = .ok (.imul, 1) := by decide +kernel
theorem dX6_walk_129 : decode cX6_walk 129 = .ok (.invokevirtual 139, 3) := by decide +kernel
theorem dX6_walk_132 : decode cX6_walk 132 = .ok (.return_, 1) := by decide +kernel
theorem dX6_walk_133 : decode cX6_walk 133 = .ok (.iload_n 3, 1) := by decide +kernel
theorem dX6_walk_134 : decode cX6_walk 134 = .ok (.bipush 24, 2) := by decide +kernel
theorem dX6_walk_136 : decode cX6_walk 136 = .ok (.imul, 1) := by decide +kernel
theorem dX6_walk_137 : decode cX6_walk 137 = .ok (.istore 9, 2) := by decide +kernel
theorem dX6_walk_139 : decode cX6_walk 139 = .ok (.aload_n 0, 1) := by decide +kernel
theorem dX6_walk_140 : decode cX6_walk 140 = .ok (.getfield 40, 3) := by decide +kernel
theorem dX6_walk_143 : decode cX6_walk 143 = .ok (.iload 7, 2) := by decide +kernel
theorem dX6_walk_145 : decode cX6_walk 145 = .ok (.iload 8, 2) := by decide +kernel
theorem dX6_walk_147 : decode cX6_walk 147 = .ok (.invokevirtual 132, 3) := by decide +kernel
theorem dX6_walk_150 : decode cX6_walk 150 = .ok (.aload_n 0, 1) := by decide +kernel
theorem dX6_walk_151 : decode cX6_walk 151 = .ok (.getfield 40, 3) := by decide +kernel
theorem dX6_walk_154 : decode cX6_walk 154 = .ok (.getfield 143, 3) := by decide +kernel
theorem dX6_walk_157 : decode cX6_walk 157 = .ok (.iconst 0, 1) := by decide +kernel
theorem dX6_walk_158 : decode cX6_walk 158 = .ok (.aload_n 0, 1) := by decide +kernel
theorem dX6_walk_159 : decode cX6_walk 159 = .ok (.getfield 15, 3) := by decide +kernel
theorem dX6_walk_162 : decode cX6_walk 162 = .ok (.iload 9, 2) := by decide +kernel
theorem dX6_walk_164 : decode cX6_walk 164 = .ok (.bipush 24, 2) := by decide +kernel
theorem dX6_walk_166 : decode cX6_walk 166 = .ok (.invokestatic 146, 3) := by decide +kernel
theorem dX6_walk_169 : decode cX6_walk 169 = .ok (.iconst 0, 1) := by decide +kernel
theorem dX6_walk_170 : decode cX6_walk 170 = .ok (.istore 10, 2) := by decide +kernel
theorem dX6_walk_172 : decode cX6_walk 172 = .ok (.iload 10, 2) := by decide +kernel
theorem dX6_walk_174 : decode cX6_walk 174 = .ok (.aload_n 0, 1) := by decide +kernel
theorem dX6_walk_175 : decode cX6_walk 175 = .ok (.getfield 30, 3) := by decide +kernel
theorem dX6_walk_178 : decode cX6_walk 178 = .ok (.getfield 152, 3) := by decide +kernel
theorem dX6_walk_181 : decode cX6_walk 181 = .ok (.if_icmp .ge 67, 3) := by decide +kernel
theorem dX6_walk_184 : decode cX6_walk 184 = .ok (.aload_n 0, 1) := by decide +kernel
theorem dX6_walk_185 : decode cX6_walk 185 = .ok (.getfield 15, 3) := by decide +kernel
theorem dX6_walk_188 : decode cX6_walk 188 = .ok (.iload 9, 2) := by decide +kernel
theorem dX6_walk_190 : decode cX6_walk 190 = .ok (.iload 10, 2) := by decide +kernel
theorem dX6_walk_192 : decode cX6_walk 192 = .ok (.iadd, 1) := by decide +kernel
theorem dX6_walk_193 : decode cX6_walk 193 = .ok (.laload, 1) := by decide +kernel
theorem dX6_walk_194 : decode cX6_walk 194 = .ok (.lconst 0, 1) := by decide +kernel
theorem dX6_walk_195 : decode cX6_walk 195 = .ok (.lcmp, 1) := by decide +kernel
theorem dX6_walk_196 : decode cX6_walk 196 = .ok (.ifCond .eq 46, 3) := by decide +kernel
theorem dX6_walk_199 : decode cX6_walk 199 = .ok (.aload_n 0, 1) := by decide +kernel
theorem dX6_walk_200 : decode cX6_walk 200 = .ok (.getfield 9, 3) := by decide +kernel
theorem dX6_walk_203 : decode cX6_walk 203 = .ok (.iload_n 3, 1) := by decide +kernel
theorem dX6_walk_204 : decode cX6_walk 204 = .ok (.iload 10, 2) := by decide +kernel
theorem dX6_walk_206 : decode cX6_walk 206 = .ok (.iastore, 1) := by decide +kernel
theorem dX6_walk_207 : decode cX6_walk 207 = .ok (.aload_n 0, 1) := by decide +kernel
theorem dX6_walk_208 : decode cX6_walk 208 = .ok (.aload_n 1, 1) := by decide +kernel
theorem dX6_walk_209 : decode cX6_walk 209 = .ok (.aload_n 2, 1) := by decide +kernel
theorem dX6_walk_210 : decode cX6_walk 210 = .ok (.iload_n 3, 1) := by decide +kernel
theorem dX6_walk_211 : decode cX6_walk 211 = .ok (.iconst 1, 1) := by decide +kernel
theorem dX6_walk_212 : decode cX6_walk 212 = .ok (.iadd, 1) := by decide +kernel
theorem dX6_walk_213 : decode cX6_walk 213 = .ok (.iload 4, 2) := by decide +kernel
theorem dX6_walk_215 : decode cX6_walk 215 = .ok (.aload_n 0, 1) := by decide +kernel
theorem dX6_walk_216 : decode cX6_walk 216 = .ok (.getfield 30, 3) := by decide +kernel
theorem dX6_walk_219 : decode cX6_walk 219 = .ok (.getfield 152, 3) := by decide +kernel
theorem dX6_walk_222 : decode cX6_walk 222 = .ok (.imul, 1) := by decide +kernel
theorem dX6_walk_223 : decode cX6_walk 223 = .ok (.iload 10, 2) := by decide +kernel
theorem dX6_walk_225 : decode cX6_walk 225 = .ok (.iadd, 1) := by decide +kernel
theorem dX6_walk_226 : decode cX6_walk 226 = .ok (.lload 5, 2) := by decide +kernel
theorem dX6_walk_228 : decode cX6_walk 228 = .ok (.aload_n 0, 1) := by decide +kernel
theorem dX6_walk_229 : decode cX6_walk 229 = .ok (.getfield 15, 3) := by decide +kernel
theorem dX6_walk_232 : decode cX6_walk 232 = .ok (.iload 9, 2) := by decide +kernel
theorem dX6_walk_234 : decode cX6_walk 234 = .ok (.iload 10, 2) := by decide +kernel
theorem dX6_walk_236 : decode cX6_walk 236 = .ok (.iadd, 1) := by decide +kernel
theorem dX6_walk_237 : decode cX6_walk 237 = .ok (.laload, 1) := by decide +kernel
theorem dX6_walk_238 : decode cX6_walk 238 = .ok (.lmul, 1) := by decide +kernel
theorem dX6_walk_239 : decode cX6_walk 239 = .ok (.invokevirtual 107, 3) := by decide +kernel
theorem dX6_walk_242 : decode cX6_walk 242 = .ok (.iinc 10 1, 3) := by decide +kernel
theorem dX6_walk_245 : decode cX6_walk 245 = .ok (.goto (-73), 3) := by decide +kernel
theorem dX6_walk_248 : decode cX6_walk 248 = .ok (.return_, 1) := by decide +kernel
theorem dX6_addAhead_0 : decode cX6_addAhead 0 = .ok (.aload_n 1, 1) := by decide +kernel
theorem dX6_addAhead_1 : decode cX6_addAhead 1 = .ok (.dup, 1) := by decide +kernel
theorem dX6_addAhead_2 : decode cX6_addAhead 2 = .ok (.getfield 155, 3) := by decide +kernel
theorem dX6_addAhead_5 : decode cX6_addAhead 5 = .ok (.lload 4, 2) := by decide +kernel
theorem dX6_addAhead_7 : decode cX6_addAhead 7 = .ok (.ladd, 1) := by decide +kernel
theorem dX6_addAhead_8 : decode cX6_addAhead 8 = .ok (.putfield 155, 3) := by decide +kernel
theorem dX6_addAhead_11 : decode cX6_addAhead 11 = .ok (.iconst 0, 1) := by decide +kernel
theorem dX6_addAhead_12 : decode cX6_addAhead 12 = .ok (.istore 6, 2) := by decide +kernel
theorem dX6_addAhead_14 : decode cX6_addAhead 14 = .ok (.iload 6, 2) := by decide +kernel
theorem dX6_addAhead_16 : decode cX6_addAhead 16 = .ok (.iload_n 3, 1) := by decide +kernel
theorem dX6_addAhead_17 : decode cX6_addAhead 17 = .ok (.if_icmp .ge 163, 3) := by decide +kernel
theorem dX6_addAhead_20 : decode cX6_addAhead 20 = .ok (.aload_n 2, 1) := by decide +kernel
theorem dX6_addAhead_21 : decode cX6_addAhead 21 = .ok (.getfield 158, 3) := by decide +kernel
theorem dX6_addAhead_24 : decode cX6_addAhead 24 = .ok (.iload 6, 2) := by decide +kernel
theorem dX6_addAhead_26 : decode cX6_addAhead 26 = .ok (.iaload, 1) := by decide +kernel
theorem dX6_addAhead_27 : decode cX6_addAhead 27 = .ok (.aload_n 0, 1) := by decide +kernel
theorem dX6_addAhead_28 : decode cX6_addAhead 28 = .ok (.getfield 25, 3) := by decide +kernel
theorem dX6_addAhead_31 : decode cX6_addAhead 31 = .ok (.getfield 59, 3) := by decide +kernel
theorem dX6_addAhead_34 : decode cX6_addAhead 34 = .ok (.imul, 1) := by decide +kernel
theorem dX6_addAhead_35 : decode cX6_addAhead 35 = .ok (.istore 7, 2) := by decide +kernel
theorem dX6_addAhead_37 : decode cX6_addAhead 37 = .ok (.iconst 0, 1) := by decide +kernel
theorem dX6_addAhead_38 : decode cX6_addAhead 38 = .ok (.istore 8, 2) := by decide +kernel
theorem dX6_addAhead_40 : decode cX6_addAhead 40 = .ok (.iload 8, 2) := by decide +kernel
theorem dX6_addAhead_42 : decode cX6_addAhead 42 = .ok (.aload_n 0, 1) := by decide +kernel
theorem dX6_addAhead_43 : decode cX6_addAhead 43 = .ok (.getfield 25, 3) := by decide +kernel
theorem dX6_addAhead_46 : decode cX6_addAhead 46 = .ok (.getfield 59, 3) := by decide +kernel
theorem dX6_addAhead_49 : decode cX6_addAhead 49 = .ok (.if_icmp .ge 125, 3) := by decide +kernel
theorem dX6_addAhead_52 : decode cX6_addAhead 52 = .ok (.iload 7, 2) := by decide +kernel
theorem dX6_addAhead_54 : decode cX6_addAhead 54 = .ok (.aload_n 0, 1) := by decide +kernel
theorem dX6_addAhead_55 : decode cX6_addAhead 55 = .ok (.getfield 30, 3) := by decide +kernel
theorem dX6_addAhead_58 : decode cX6_addAhead 58 = .ok (.getfield 161, 3) := by decide +kernel
theorem dX6_addAhead_61 : decode cX6_addAhead 61 = .ok (.aload_n 0, 1) := by decide +kernel
theorem dX6_addAhead_62 : decode cX6_addAhead 62 = .ok (.getfield 9, 3) := by decide +kernel
theorem dX6_addAhead_65 : decode cX6_addAhead 65 = .ok (.iload 6, 2) := by decide +kernel
theorem dX6_addAhead_67 : decode cX6_addAhead 67 = .ok (.iaload, 1) := by decide +kernel
theorem dX6_addAhead_68 : decode cX6_addAhead 68 = .ok (.iconst 4, 1) := by decide +kernel
theorem dX6_addAhead_69 : decode cX6_addAhead 69 = .ok (.imul, 1) := by decide +kernel
theorem dX6_addAhead_70 : decode cX6_addAhead 70 = .ok (.iload 8, 2) := by decide +kernel
theorem dX6_addAhead_72 : decode cX6_addAhead 72 = .ok (.iadd, 1) := by decide +kernel
theorem dX6_addAhead_73 : decode cX6_addAhead 73 = .ok (.iaload, 1) := by decide +kernel
theorem dX6_addAhead_74 : decode cX6_addAhead 74 = .ok (.iadd, 1) := by decide +kernel
theorem dX6_addAhead_75 : decode cX6_addAhead 75 = .ok (.istore 9, 2) := by decide +kernel
theorem dX6_addAhead_77 : decode cX6_addAhead 77 = .ok (.aload_n 1, 1) := by decide +kernel
theorem dX6_addAhead_78 : decode cX6_addAhead 78 = .ok (.getfield 164, 3) := by decide +kernel
theorem dX6_addAhead_81 : decode cX6_addAhead 81 = .ok (.iload 9, 2) := by decide +kernel
theorem dX6_addAhead_83 : decode cX6_addAhead 83 = .ok (.iconst 4, 1) := by decide +kernel
theorem dX6_addAhead_84 : decode cX6_addAhead 84 = .ok (.imul, 1) := by decide +kernel
theorem dX6_addAhead_85 : decode cX6_addAhead 85 = .ok (.iload 8, 2) := by decide +kernel
theorem dX6_addAhead_87 : decode cX6_addAhead 87 = .ok (.iadd, 1) := by decide +kernel
theorem dX6_addAhead_88 : decode cX6_addAhead 88 = .ok (.dup2, 1) := by decide +kernel
theorem dX6_addAhead_89 : decode cX6_addAhead 89 = .ok (.laload, 1) := by decide +kernel
theorem dX6_addAhead_90 : decode cX6_addAhead 90 = .ok (.lload 4, 2) := by decide +kernel
theorem dX6_addAhead_92 : decode cX6_addAhead 92 = .ok (.ladd, 1) := by decide +kernel
theorem dX6_addAhead_93 : decode cX6_addAhead 93 = .ok (.lastore, 1) := by decide +kernel
theorem dX6_addAhead_94 : decode cX6_addAhead 94 = .ok (.iload 6, 2) := by decide +kernel
theorem dX6_addAhead_96 : decode cX6_addAhead 96 = .ok (.iconst 1, 1) := by decide +kernel
theorem dX6_addAhead_97 : decode cX6_addAhead 97 = .ok (.iadd, 1) := by decide +kernel
theorem dX6_addAhead_98 : decode cX6_addAhead 98 = .ok (.istore 10, 2) := by decide +kernel
theorem dX6_addAhead_100 : decode cX6_addAhead 100 = .ok (.iload 10, 2) := by decide +kernel
theorem dX6_addAhead_102 : decode cX6_addAhead 102 = .ok (.iload_n 3, 1) := by decide +kernel
theorem dX6_addAhead_103 : decode cX6_addAhead 103 = .ok (.if_icmp .ge 65, 3) := by decide +kernel
theorem dX6_addAhead_106 : decode cX6_addAhead 106 = .ok (.aload_n 0, 1) := by decide +kernel
theorem dX6_addAhead_107 : decode cX6_addAhead 107 = .ok (.getfield 30, 3) := by decide +kernel
theorem dX6_addAhead_110 : decode cX6_addAhead 110 = .ok (.getfield 161, 3) := by decide +kernel
theorem dX6_addAhead_113 : decode cX6_addAhead 113 = .ok (.aload_n 0, 1) := by decide +kernel
theorem dX6_addAhead_114 : decode cX6_addAhead 114 = .ok (.getfield 9, 3) := by decide +kernel
theorem dX6_addAhead_117 : decode cX6_addAhead 117 = .ok (.iload 10, 2) := by decide +kernel
theorem dX6_addAhead_119 : decode cX6_addAhead 119 = .ok (.iaload, 1) := by decide +kernel
theorem dX6_addAhead_120 : decode cX6_addAhead 120 = .ok (.iconst 4, 1) := by decide +kernel
theorem dX6_addAhead_121 : decode cX6_addAhead 121 = .ok (.imul, 1) := by decide +kernel
theorem dX6_addAhead_122 : decode cX6_addAhead 122 = .ok (.iload 8, 2) := by decide +kernel
theorem dX6_addAhead_124 : decode cX6_addAhead 124 = .ok (.iadd, 1) := by decide +kernel
theorem dX6_addAhead_125 : decode cX6_addAhead 125 = .ok (.iaload, 1) := by decide +kernel
theorem dX6_addAhead_126 : decode cX6_addAhead 126 = .ok (.istore 11, 2) := by decide +kernel
theorem dX6_addAhead_128 : decode cX6_addAhead 128 = .ok (.aload_n 1, 1) := by decide +kernel
theorem dX6_addAhead_129 : decode cX6_addAhead 129 = .ok (.getfield 167, 3) := by decide +kernel
theorem dX6_addAhead_132 : decode cX6_addAhead 132 = .ok (.iload 9, 2) := by decide +kernel
theorem dX6_addAhead_134 : decode cX6_addAhead 134 = .ok (.bipush 12, 2) := by decide +kernel
theorem dX6_addAhead_136 : decode cX6_addAhead 136 = .ok (.imul, 1) := by decide +kernel
theorem dX6_addAhead_137 : decode cX6_addAhead 137 = .ok (.aload_n 2, 1) := by decide +kernel
theorem dX6_addAhead_138 : decode cX6_addAhead 138 = .ok (.getfield 158, 3) := by decide +kernel
theorem dX6_addAhead_141 : decode cX6_addAhead 141 = .ok (.iload 10, 2) := by decide +kernel
theorem dX6_addAhead_143 : decode cX6_addAhead 143 = .ok (.iaload, 1) := by decide +kernel
theorem dX6_addAhead_144 : decode cX6_addAhead 144 = .ok (.aload_n 0, 1) := by decide +kernel
theorem dX6_addAhead_145 : decode cX6_addAhead 145 = .ok (.getfield 25, 3) := by decide +kernel
theorem dX6_addAhead_148 : decode cX6_addAhead 148 = .ok (.getfield 59, 3) := by decide +kernel
theorem dX6_addAhead_151 : decode cX6_addAhead 151 = .ok (.imul, 1) := by decide +kernel
theorem dX6_addAhead_152 : decode cX6_addAhead 152 = .ok (.iadd, 1) := by decide +kernel
theorem dX6_addAhead_153 : decode cX6_addAhead 153 = .ok (.iload 11, 2) := by decide +kernel
theorem dX6_addAhead_155 : decode cX6_addAhead 155 = .ok (.iadd, 1) := by decide +kernel
theorem dX6_addAhead_156 : decode cX6_addAhead 156 = .ok (.dup2, 1) := by decide +kernel
theorem dX6_addAhead_157 : decode cX6_addAhead 157 = .ok (.laload, 1) := by decide +kernel
theorem dX6_addAhead_158 : decode cX6_addAhead 158 = .ok (.lload 4, 2) := by decide +kernel
theorem dX6_addAhead_160 : decode cX6_addAhead 160 = .ok (.ladd, 1) := by decide +kernel
theorem dX6_addAhead_161 : decode cX6_addAhead 161 = .ok (.lastore, 1) := by decide +kernel
theorem dX6_addAhead_162 : decode cX6_addAhead 162 = .ok (.iinc 10 1, 3) := by decide +kernel
theorem dX6_addAhead_165 : decode cX6_addAhead 165 = .ok (.goto (-65), 3) := by decide +kernel
theorem dX6_addAhead_168 : decode cX6_addAhead 168 = .ok (.iinc 8 1, 3) := by decide +kernel
theorem dX6_addAhead_171 : decode cX6_addAhead 171 = .ok (.goto (-131), 3) := by decide +kernel
theorem dX6_addAhead_174 : decode cX6_addAhead 174 = .ok (.iinc 6 1, 3) := by decide +kernel
theorem dX6_addAhead_177 : decode cX6_addAhead 177 = .ok (.goto (-163), 3) := by decide +kernel
theorem dX6_addAhead_180 : decode cX6_addAhead 180 = .ok (.return_, 1) := by decide +kernel
theorem dX6_addLast_0 : decode cX6_addLast 0 = .ok (.aload_n 0, 1) := by decide +kernel
theorem dX6_addLast_1 : decode cX6_addLast 1 = .ok (.getfield 25, 3) := by decide +kernel
theorem dX6_addLast_4 : decode cX6_addLast 4 = .ok (.getfield 104, 3) := by decide +kernel
theorem dX6_addLast_7 : decode cX6_addLast 7 = .ok (.iconst 1, 1) := by decide +kernel
theorem dX6_addLast_8 : decode cX6_addLast 8 = .ok (.isub, 1) := by decide +kernel
theorem dX6_addLast_9 : decode cX6_addLast 9 = .ok (.istore 6, 2) := by decide +kernel
theorem dX6_addLast_11 : decode cX6_addLast 11 = .ok (.aload_n 2, 1) := by decide +kernel
theorem dX6_addLast_12 : decode cX6_addLast 12 = .ok (.getfield 158, 3) := by decide +kernel
theorem dX6_addLast_15 : decode cX6_addLast 15 = .ok (.iload 6, 2) := by decide +kernel
theorem dX6_addLast_17 : decode cX6_addLast 17 = .ok (.iaload, 1) := by decide +kernel
theorem dX6_addLast_18 : decode cX6_addLast 18 = .ok (.aload_n 0, 1) := by decide +kernel
theorem dX6_addLast_19 : decode cX6_addLast 19 = .ok (.getfield 25, 3) := by decide +kernel
theorem dX6_addLast_22 : decode cX6_addLast 22 = .ok (.getfield 59, 3) := by decide +kernel
theorem dX6_addLast_25 : decode cX6_addLast 25 = .ok (.imul, 1) := by decide +kernel
theorem dX6_addLast_26 : decode cX6_addLast 26 = .ok (.istore 7, 2) := by decide +kernel
theorem dX6_addLast_28 : decode cX6_addLast 28 = .ok (.lconst 0, 1) := by decide +kernel
theorem dX6_addLast_29 : decode cX6_addLast 29 = .ok (.lstore 8, 2) := by decide +kernel
theorem dX6_addLast_31 : decode cX6_addLast 31 = .ok (.iconst 0, 1) := by decide +kernel
theorem dX6_addLast_32 : decode cX6_addLast 32 = .ok (.istore 10, 2) := by decide +kernel
theorem dX6_addLast_34 : decode cX6_addLast 34 = .ok (.iload 10, 2) := by decide +kernel
theorem dX6_addLast_36 : decode cX6_addLast 36 = .ok (.aload_n 0, 1) := by decide +kernel
theorem dX6_addLast_37 : decode cX6_addLast 37 = .ok (.getfield 25, 3) := by decide +kernel
theorem dX6_addLast_40 : decode cX6_addLast 40 = .ok (.getfield 59, 3) := by decide +kernel
theorem dX6_addLast_43 : decode cX6_addLast 43 = .ok (.if_icmp .ge 176, 3) := by decide +kernel
theorem dX6_addLast_46 : decode cX6_addLast 46 = .ok (.lload 8, 2) := by decide +kernel
theorem dX6_addLast_48 : decode cX6_addLast 48 = .ok (.aload_n 0, 1) := by decide +kernel
theorem dX6_addLast_49 : decode cX6_addLast 49 = .ok (.getfield 40, 3) := by decide +kernel
theorem dX6_addLast_52 : decode cX6_addLast 52 = .ok (.getfield 170, 3) := by decide +kernel
theorem dX6_addLast_55 : decode cX6_addLast 55 = .ok (.iload 5, 2) := by decide +kernel
theorem dX6_addLast_57 : decode cX6_addLast 57 = .ok (.iload 10, 2) := by decide +kernel
theorem dX6_addLast_59 : decode cX6_addLast 59 = .ok (.iadd, 1) := by decide +kernel
theorem dX6_addLast_60 : decode cX6_addLast 60 = .ok (.laload, 1) := by decide +kernel
theorem dX6_addLast_61 : decode cX6_addLast 61 = .ok (.ladd, 1) := by decide +kernel
theorem dX6_addLast_62 : decode cX6_addLast 62 = .ok (.lstore 8, 2) := by decide +kernel
theorem dX6_addLast_64 : decode cX6_addLast 64 = .ok (.iconst 0, 1) := by decide +kernel
theorem dX6_addLast_65 : decode cX6_addLast 65 = .ok (.istore 11, 2) := by decide +kernel
theorem dX6_addLast_67 : decode cX6_addLast 67 = .ok (.iload 11, 2) := by decide +kernel
theorem dX6_addLast_69 : decode cX6_addLast 69 = .ok (.aload_n 0, 1) := by decide +kernel
theorem dX6_addLast_70 : decode cX6_addLast 70 = .ok (.getfield 25, 3) := by decide +kernel
theorem dX6_addLast_73 : decode cX6_addLast 73 = .ok (.getfield 59, 3) := by decide +kernel
theorem dX6_addLast_76 : decode cX6_addLast 76 = .ok (.if_icmp .ge 137, 3) := by decide +kernel
theorem dX6_addLast_79 : decode cX6_addLast 79 = .ok (.lload_n 3, 1) := by decide +kernel
theorem dX6_addLast_80 : decode cX6_addLast 80 = .ok (.aload_n 0, 1) := by decide +kernel
theorem dX6_addLast_81 : decode cX6_addLast 81 = .ok (.getfield 40, 3) := by decide +kernel
theorem dX6_addLast_84 : decode cX6_addLast 84 = .ok (.getfield 170, 3) := by decide +kernel
theorem dX6_addLast_87 : decode cX6_addLast 87 = .ok (.iload 5, 2) := by decide +kernel
theorem dX6_addLast_89 : decode cX6_addLast 89 = .ok (.iload 11, 2) := by decide +kernel
theorem dX6_addLast_91 : decode cX6_addLast 91 = .ok (.iconst 4, 1) := by decide +kernel
theorem dX6_addLast_92 : decode cX6_addLast 92 = .ok (.imul, 1) := by decide +kernel
theorem dX6_addLast_93 : decode cX6_addLast 93 = .ok (.iadd, 1) := by decide +kernel
theorem dX6_addLast_94 : decode cX6_addLast 94 = .ok (.iload 10, 2) := by decide +kernel
theorem dX6_addLast_96 : decode cX6_addLast 96 = .ok (.iadd, 1) := by decide +kernel
theorem dX6_addLast_97 : decode cX6_addLast 97 = .ok (.laload, 1) := by decide +kernel
theorem dX6_addLast_98 : decode cX6_addLast 98 = .ok (.lmul, 1) := by decide +kernel
theorem dX6_addLast_99 : decode cX6_addLast 99 = .ok (.lstore 12, 2) := by decide +kernel
theorem dX6_addLast_101 : decode cX6_addLast 101 = .ok (.lload 12, 2) := by decide +kernel
theorem dX6_addLast_103 : decode cX6_addLast 103 = .ok (.lconst 0, 1) := by decide +kernel
theorem dX6_addLast_104 : decode cX6_addLast 104 = .ok (.lcmp, 1) := by decide +kernel
theorem dX6_addLast_105 : decode cX6_addLast 105 = .ok (.ifCond .eq 102, 3) := by decide +kernel
theorem dX6_addLast_108 : decode cX6_addLast 108 = .ok (.aload_n 1, 1) := by decide +kernel
theorem dX6_addLast_109 : decode cX6_addLast 109 = .ok (.getfield 164, 3) := by decide +kernel
theorem dX6_addLast_112 : decode cX6_addLast 112 = .ok (.iload 7, 2) := by decide +kernel
theorem dX6_addLast_114 : decode cX6_addLast 114 = .ok (.iload 11, 2) := by decide +kernel
theorem dX6_addLast_116 : decode cX6_addLast 116 = .ok (.iadd, 1) := by decide +kernel
theorem dX6_addLast_117 : decode cX6_addLast 117 = .ok (.iconst 4, 1) := by decide +kernel
theorem dX6_addLast_118 : decode cX6_addLast 118 = .ok (.imul, 1) := by decide +kernel
theorem dX6_addLast_119 : decode cX6_addLast 119 = .ok (.iload 10, 2) := by decide +kernel
theorem dX6_addLast_121 : decode cX6_addLast 121 = .ok (.iadd, 1) := by decide +kernel
theorem dX6_addLast_122 : decode cX6_addLast 122 = .ok (.dup2, 1) := by decide +kernel
theorem dX6_addLast_123 : decode cX6_addLast 123 = .ok (.laload, 1) := by decide +kernel
theorem dX6_addLast_124 : decode cX6_addLast 124 = .ok (.lload 12, 2) := by decide +kernel
theorem dX6_addLast_126 : decode cX6_addLast 126 = .ok (.ladd, 1) := by decide +kernel
theorem dX6_addLast_127 : decode cX6_addLast 127 = .ok (.lastore, 1) := by decide +kernel
theorem dX6_addLast_128 : decode cX6_addLast 128 = .ok (.iconst 0, 1) := by decide +kernel
theorem dX6_addLast_129 : decode cX6_addLast 129 = .ok (.istore 14, 2) := by decide +kernel
theorem dX6_addLast_131 : decode cX6_addLast 131 = .ok (.iload 14, 2) := by decide +kernel
theorem dX6_addLast_133 : decode cX6_addLast 133 = .ok (.iload 6, 2) := by decide +kernel
theorem dX6_addLast_135 : decode cX6_addLast 135 = .ok (.if_icmp .ge 72, 3) := by decide +kernel
theorem dX6_addLast_138 : decode cX6_addLast 138 = .ok (.aload_n 0, 1) := by decide +kernel
theorem dX6_addLast_139 : decode cX6_addLast 139 = .ok (.getfield 30, 3) := by decide +kernel
theorem dX6_addLast_142 : decode cX6_addLast 142 = .ok (.getfield 161, 3) := by decide +kernel
theorem dX6_addLast_145 : decode cX6_addLast 145 = .ok (.aload_n 0, 1) := by decide +kernel
theorem dX6_addLast_146 : decode cX6_addLast 146 = .ok (.getfield 9, 3) := by decide +kernel
theorem dX6_addLast_149 : decode cX6_addLast 149 = .ok (.iload 14, 2) := by decide +kernel
theorem dX6_addLast_151 : decode cX6_addLast 151 = .ok (.iaload, 1) := by decide +kernel
theorem dX6_addLast_152 : decode cX6_addLast 152 = .ok (.iconst 4, 1) := by decide +kernel
theorem dX6_addLast_153 : decode cX6_addLast 153 = .ok (.imul, 1) := by decide +kernel
theorem dX6_addLast_154 : decode cX6_addLast 154 = .ok (.iload 10, 2) := by decide +kernel
theorem dX6_addLast_156 : decode cX6_addLast 156 = .ok (.iadd, 1) := by decide +kernel
theorem dX6_addLast_157 : decode cX6_addLast 157 = .ok (.iaload, 1) := by decide +kernel
theorem dX6_addLast_158 : decode cX6_addLast 158 = .ok (.istore 15, 2) := by decide +kernel
theorem dX6_addLast_160 : decode cX6_addLast 160 = .ok (.aload_n 2, 1) := by decide +kernel
theorem dX6_addLast_161 : decode cX6_addLast 161 = .ok (.getfield 158, 3) := by decide +kernel
theorem dX6_addLast_164 : decode cX6_addLast 164 = .ok (.iload 14, 2) := by decide +kernel
theorem dX6_addLast_166 : decode cX6_addLast 166 = .ok (.iaload, 1) := by decide +kernel
theorem dX6_addLast_167 : decode cX6_addLast 167 = .ok (.aload_n 0, 1) := by decide +kernel
theorem dX6_addLast_168 : decode cX6_addLast 168 = .ok (.getfield 25, 3) := by decide +kernel
theorem dX6_addLast_171 : decode cX6_addLast 171 = .ok (.getfield 59, 3) := by decide +kernel
theorem dX6_addLast_174 : decode cX6_addLast 174 = .ok (.imul, 1) := by decide +kernel
theorem dX6_addLast_175 : decode cX6_addLast 175 = .ok (.iload 15, 2) := by decide +kernel
theorem dX6_addLast_177 : decode cX6_addLast 177 = .ok (.iadd, 1) := by decide +kernel
theorem dX6_addLast_178 : decode cX6_addLast 178 = .ok (.istore 16, 2) := by decide +kernel
theorem dX6_addLast_180 : decode cX6_addLast 180 = .ok (.aload_n 1, 1) := by decide +kernel
theorem dX6_addLast_181 : decode cX6_addLast 181 = .ok (.getfield 167, 3) := by decide +kernel
theorem dX6_addLast_184 : decode cX6_addLast 184 = .ok (.iload 16, 2) := by decide +kernel
theorem dX6_addLast_186 : decode cX6_addLast 186 = .ok (.bipush 12, 2) := by decide +kernel
theorem dX6_addLast_188 : decode cX6_addLast 188 = .ok (.imul, 1) := by decide +kernel
theorem dX6_addLast_189 : decode cX6_addLast 189 = .ok (.iload 7, 2) := by decide +kernel
theorem dX6_addLast_191 : decode cX6_addLast 191 = .ok (.iadd, 1) := by decide +kernel
theorem dX6_addLast_192 : decode cX6_addLast 192 = .ok (.iload 11, 2) := by decide +kernel
theorem dX6_addLast_194 : decode cX6_addLast 194 = .ok (.iadd, 1) := by decide +kernel
theorem dX6_addLast_195 : decode cX6_addLast 195 = .ok (.dup2, 1) := by decide +kernel
theorem dX6_addLast_196 : decode cX6_addLast 196 = .ok (.laload, 1) := by decide +kernel
theorem dX6_addLast_197 : decode cX6_addLast 197 = .ok (.lload 12, 2) := by decide +kernel
theorem dX6_addLast_199 : decode cX6_addLast 199 = .ok (.ladd, 1) := by decide +kernel
theorem dX6_addLast_200 : decode cX6_addLast 200 = .ok (.lastore, 1) := by decide +kernel
theorem dX6_addLast_201 : decode cX6_addLast 201 = .ok (.iinc 14 1, 3) := by decide +kernel
theorem dX6_addLast_204 : decode cX6_addLast 204 = .ok (.goto (-73), 3) := by decide +kernel
theorem dX6_addLast_207 : decode cX6_addLast 207 = .ok (.iinc 11 1, 3) := by decide +kernel
theorem dX6_addLast_210 : decode cX6_addLast 210 = .ok (.goto (-143), 3) := by decide +kernel
theorem dX6_addLast_213 : decode cX6_addLast 213 = .ok (.iinc 10 1, 3) := by decide +kernel
theorem dX6_addLast_216 : decode cX6_addLast 216 = .ok (.goto (-182), 3) := by decide +kernel
theorem dX6_addLast_219 : decode cX6_addLast 219 = .ok (.aload_n 0, 1) := by decide +kernel
theorem dX6_addLast_220 : decode cX6_addLast 220 = .ok (.aload_n 1, 1) := by decide +kernel
theorem dX6_addLast_221 : decode cX6_addLast 221 = .ok (.aload_n 2, 1) := by decide +kernel
theorem dX6_addLast_222 : decode cX6_addLast 222 = .ok (.iload 6, 2) := by decide +kernel
theorem dX6_addLast_224 : decode cX6_addLast 224 = .ok (.lload_n 3, 1) := by decide +kernel
theorem dX6_addLast_225 : decode cX6_addLast 225 = .ok (.lload 8, 2) := by decide +kernel
theorem dX6_addLast_227 : decode cX6_addLast 227 = .ok (.lmul, 1) := by decide +kernel
theorem dX6_addLast_228 : decode cX6_addLast 228 = .ok (.invokevirtual 111, 3) := by decide +kernel
theorem dX6_addLast_231 : decode cX6_addLast 231 = .ok (.return_, 1) := by decide +kernel
theorem dX7_begin_0 : decode cX7_begin 0 = .ok (.aload_n 0, 1) := by decide +kernel
theorem dX7_begin_1 : decode cX7_begin 1 = .ok (.iload_n 1, 1) := by decide +kernel
theorem dX7_begin_2 : decode cX7_begin 2 = .ok (.putfield 29, 3) := by decide +kernel
theorem dX7_begin_5 : decode cX7_begin 5 = .ok (.aload_n 2, 1) := by decide +kernel
theorem dX7_begin_6 : decode cX7_begin 6 = .ok (.iconst 0, 1) := by decide +kernel
theorem dX7_begin_7 : decode cX7_begin 7 = .ok (.aload_n 0, 1) := by decide +kernel
theorem dX7_begin_8 : decode cX7_begin 8 = .ok (.getfield 9, 3) := by decide +kernel
theorem dX7_begin_11 : decode cX7_begin 11 = .ok (.iconst 0, 1) := by decide +kernel
theorem dX7_begin_12 : decode cX7_begin 12 = .ok (.iconst 4, 1) := by decide +kernel
theorem dX7_begin_13 : decode cX7_begin 13 = .ok (.invokestatic 33, 3) := by decide +kernel
theorem dX7_begin_16 : decode cX7_begin 16 = .ok (.aload_n 0, 1) := by decide +kernel
theorem dX7_begin_17 : decode cX7_begin 17 = .ok (.getfield 19, 3) := by decide +kernel
theorem dX7_begin_20 : decode cX7_begin 20 = .ok (.iconst 0, 1) := by decide +kernel
theorem dX7_begin_21 : decode cX7_begin 21 = .ok (.invokestatic 39, 3) := by decide +kernel
theorem dX7_begin_24 : decode cX7_begin 24 = .ok (.return_, 1) := by decide +kernel
theorem dX7_slotOf_0 : decode cX7_slotOf 0 = .ok (.iload_n 2, 1) := by decide +kernel
theorem dX7_slotOf_1 : decode cX7_slotOf 1 = .ok (.iconst 1, 1) := by decide +kernel
theorem dX7_slotOf_2 : decode cX7_slotOf 2 = .ok (.aload_n 0, 1) := by decide +kernel
theorem dX7_slotOf_3 : decode cX7_slotOf 3 = .ok (.getfield 25, 3) := by decide +kernel
theorem dX7_slotOf_6 : decode cX7_slotOf 6 = .ok (.getfield 45, 3) := by decide +kernel
theorem dX7_slotOf_9 : decode cX7_slotOf 9 = .ok (.ishl, 1) := by decide +kernel
theorem dX7_slotOf_10 : decode cX7_slotOf 10 = .ok (.iconst 1, 1) := by decide +kernel
theorem dX7_slotOf_11 : decode cX7_slotOf 11 = .ok (.isub, 1) := by decide +kernel
theorem dX7_slotOf_12 : decode cX7_slotOf 12 = .ok (.if_icmp .ne 13, 3) := by decide +kernel
theorem dX7_slotOf_15 : decode cX7_slotOf 15 = .ok (.iload_n 1, 1) := by decide +kernel
theorem dX7_slotOf_16 : decode cX7_slotOf 16 = .ok (.ldc 50, 2) := by decide +kernel
theorem dX7_slotOf_18 : decode cX7_slotOf 18 = .ok (.imul, 1) := by decide +kernel
theorem dX7_slotOf_19 : decode cX7_slotOf 19 = .ok (.bipush 26, 2) := by decide +kernel
theorem dX7_slotOf_21 : decode cX7_slotOf 21 = .ok (.iushr, 1) := by decide +kernel
theorem dX7_slotOf_22 : decode cX7_slotOf 22 = .ok (.goto 5, 3) := by decide +kernel
theorem dX7_slotOf_25 : decode cX7_slotOf 25 = .ok (.bipush 64, 2) := by decide +kernel
theorem dX7_slotOf_27 : decode cX7_slotOf 27 = .ok (.ireturn, 1) := by decide +kernel
theorem dX7_isKept_0 : decode cX7_isKept 0 = .ok (.iload_n 1, 1) := by decide +kernel
theorem dX7_isKept_1 : decode cX7_isKept 1 = .ok (.bipush 64, 2) := by decide +kernel
theorem dX7_isKept_3 : decode cX7_isKept 3 = .ok (.if_icmp .ge 17, 3) := by decide +kernel
theorem dX7_isKept_6 : decode cX7_isKept 6 = .ok (.aload_n 0, 1) := by decide +kernel
theorem dX7_isKept_7 : decode cX7_isKept 7 = .ok (.getfield 19, 3) := by decide +kernel
theorem dX7_isKept_10 : decode cX7_isKept 10 = .ok (.iload_n 1, 1) := by decide +kernel
theorem dX7_isKept_11 : decode cX7_isKept 11 = .ok (.iaload, 1) := by decide +kernel
theorem dX7_isKept_12 : decode cX7_isKept 12 = .ok (.iload_n 2, 1) := by decide +kernel
theorem dX7_isKept_13 : decode cX7_isKept 13 = .ok (.if_icmp .ne 7, 3) := by decide +kernel
theorem dX7_isKept_16 : decode cX7_isKept 16 = .ok (.iconst 1, 1) := by decide +kernel
theorem dX7_isKept_17 : decode cX7_isKept 17 = .ok (.goto 4, 3) := by decide +kernel
theorem dX7_isKept_20 : decode cX7_isKept 20 = .ok (.iconst 0, 1) := by decide +kernel
theorem dX7_isKept_21 : decode cX7_isKept 21 = .ok (.ireturn, 1) := by decide +kernel
theorem dX7_keepRows_0 : decode cX7_keepRows 0 = .ok (.iload_n 1, 1) := by decide +kernel
theorem dX7_keepRows_1 : decode cX7_keepRows 1 = .ok (.bipush 64, 2) := by decide +kernel
theorem dX7_keepRows_3 : decode cX7_keepRows 3 = .ok (.if_icmp .ge 10, 3) := by decide +kernel
theorem dX7_keepRows_6 : decode cX7_keepRows 6 = .ok (.aload_n 0, 1) := by decide +kernel
theorem dX7_keepRows_7 : decode cX7_keepRows 7 = .ok (.getfield 19, 3) := by decide +kernel
theorem dX7_keepRows_10 : decode cX7_keepRows 10 = .ok (.iload_n 1, 1) := by decide +kernel
theorem dX7_keepRows_11 : decode cX7_keepRows 11 = .ok (.iload_n 2, 1) := by decide +kernel
theorem dX7_keepRows_12 : decode cX7_keepRows 12 = .ok (.iastore, 1) := by decide +kernel
theorem dX7_keepRows_13 : decode cX7_keepRows 13 = .ok (.iload_n 1, 1) := by decide +kernel
theorem dX7_keepRows_14 : decode cX7_keepRows 14 = .ok (.bipush 16, 2) := by decide +kernel
theorem dX7_keepRows_16 : decode cX7_keepRows 16 = .ok (.imul, 1) := by decide +kernel
theorem dX7_keepRows_17 : decode cX7_keepRows 17 = .ok (.istore_n 3, 1) := by decide +kernel
theorem dX7_keepRows_18 : decode cX7_keepRows 18 = .ok (.aload_n 0, 1) := by decide +kernel
theorem dX7_keepRows_19 : decode cX7_keepRows 19 = .ok (.getfield 22, 3) := by decide +kernel
theorem dX7_keepRows_22 : decode cX7_keepRows 22 = .ok (.iload_n 3, 1) := by decide +kernel
theorem dX7_keepRows_23 : decode cX7_keepRows 23 = .ok (.iload_n 3, 1) := by decide +kernel
theorem dX7_keepRows_24 : decode cX7_keepRows 24 = .ok (.bipush 16, 2) := by decide +kernel
theorem dX7_keepRows_26 : decode cX7_keepRows 26 = .ok (.iadd, 1) := by decide +kernel
theorem dX7_keepRows_27 : decode cX7_keepRows 27 = .ok (.lconst 0, 1) := by decide +kernel
theorem dX7_keepRows_28 : decode cX7_keepRows 28 = .ok (.invokestatic 51, 3) := by decide +kernel
theorem dX7_keepRows_31 : decode cX7_keepRows 31 = .ok (.iconst 0, 1) := by decide +kernel
theorem dX7_keepRows_32 : decode cX7_keepRows 32 = .ok (.istore 4, 2) := by decide +kernel
theorem dX7_keepRows_34 : decode cX7_keepRows 34 = .ok (.iload 4, 2) := by decide +kernel
theorem dX7_keepRows_36 : decode cX7_keepRows 36 = .ok (.aload_n 0, 1) := by decide +kernel
theorem dX7_keepRows_37 : decode cX7_keepRows 37 = .ok (.getfield 25, 3) := by decide +kernel
theorem dX7_keepRows_40 : decode cX7_keepRows 40 = .ok (.getfield 54, 3) := by decide +kernel
theorem dX7_keepRows_43 : decode cX7_keepRows 43 = .ok (.if_icmp .ge 75, 3) := by decide +kernel
theorem dX7_keepRows_46 : decode cX7_keepRows 46 = .ok (.aload_n 0, 1) := by decide +kernel
theorem dX7_keepRows_47 : decode cX7_keepRows 47 = .ok (.getfield 15, 3) := by decide +kernel
theorem dX7_keepRows_50 : decode cX7_keepRows 50 = .ok (.iload 4, 2) := by decide +kernel
theorem dX7_keepRows_52 : decode cX7_keepRows 52 = .ok (.laload, 1) := by decide +kernel
theorem dX7_keepRows_53 : decode cX7_keepRows 53 = .ok (.lconst 0, 1) := by decide +kernel
theorem dX7_keepRows_54 : decode cX7_keepRows 54 = .ok (.lcmp, 1) := by decide +kernel
theorem dX7_keepRows_55 : decode cX7_keepRows 55 = .ok (.ifCond .eq 57, 3) := by decide +kernel
theorem dX7_keepRows_58 : decode cX7_keepRows 58 = .ok (.iconst 0, 1) := by decide +kernel
theorem dX7_keepRows_59 : decode cX7_keepRows 59 = .ok (.istore 5, 2) := by decide +kernel
theorem dX7_keepRows_61 : decode cX7_keepRows 61 = .ok (.iload 5, 2) := by decide +kernel
theorem dX7_keepRows_63 : decode cX7_keepRows 63 = .ok (.aload_n 0, 1) := by decide +kernel
theorem dX7_keepRows_64 : decode cX7_keepRows 64 = .ok (.getfield 25, 3) := by decide +kernel
theorem dX7_keepRows_67 : decode cX7_keepRows 67 = .ok (.getfield 45, 3) := by decide +kernel
theorem dX7_keepRows_70 : decode cX7_keepRows 70 = .ok (.if_icmp .ge 42, 3) := by decide +kernel
theorem dX7_keepRows_73 : decode cX7_keepRows 73 = .ok (.aload_n 0, 1) := by decide +kernel
theorem dX7_keepRows_74 : decode cX7_keepRows 74 = .ok (.getfield 22, 3) := by decide +kernel
theorem dX7_keepRows_77 : decode cX7_keepRows 77 = .ok (.iload_n 3, 1) := by decide +kernel
theorem dX7_keepRows_78 : decode cX7_keepRows 78 = .ok (.iload 5, 2) := by decide +kernel
theorem dX7_keepRows_80 : decode cX7_keepRows 80 = .ok (.iconst 4, 1) := by decide +kernel
theorem dX7_keepRows_81 : decode cX7_keepRows 81 = .ok (.imul, 1) := by decide +kernel
theorem dX7_keepRows_82 : decode cX7_keepRows 82 = .ok (.iadd, 1) := by decide +kernel
theorem dX7_keepRows_83 : decode cX7_keepRows 83 = .ok (.aload_n 0, 1) := by decide +kernel
theorem dX7_keepRows_84 : decode cX7_keepRows 84 = .ok (.getfield 25, 3) := by decide +kernel
theorem dX7_keepRows_87 : decode cX7_keepRows 87 = .ok (.iload 4, 2) := by decide +kernel
theorem dX7_keepRows_89 : decode cX7_keepRows 89 = .ok (.iload 5, 2) := by decide +kernel
theorem dX7_keepRows_91 : decode cX7_keepRows 91 = .ok (.invokevirtual 57, 3) := by decide +kernel
theorem dX7_keepRows_94 : decode cX7_keepRows 94 = .ok (.iadd, 1) := by decide +kernel
theorem dX7_keepRows_95 : decode cX7_keepRows 95 = .ok (.dup2, 1) := by decide +kernel
theorem dX7_keepRows_96 : decode cX7_keepRows 96 = .ok (.laload, 1) := by decide +kernel
theorem dX7_keepRows_97 : decode cX7_keepRows 97 = .ok (.aload_n 0, 1) := by decide +kernel
theorem dX7_keepRows_98 : decode cX7_keepRows 98 = .ok (.getfield 15, 3) := by decide +kernel
theorem dX7_keepRows_101 : decode cX7_keepRows 101 = .ok (.iload 4, 2) := by decide +kernel
theorem dX7_keepRows_103 : decode cX7_keepRows 103 = .ok (.laload, 1) := by decide +kernel
theorem dX7_keepRows_104 : decode cX7_keepRows 104 = .ok (.ladd, 1) := by decide +kernel
theorem dX7_keepRows_105 : decode cX7_keepRows 105 = .ok (.lastore, 1) := by decide +kernel
theorem dX7_keepRows_106 : decode cX7_keepRows 106 = .ok (.iinc 5 1, 3) := by decide +kernel
theorem dX7_keepRows_109 : decode cX7_keepRows 109 = .ok (.goto (-48), 3) := by decide +kernel
theorem dX7_keepRows_112 : decode cX7_keepRows 112 = .ok (.iinc 4 1, 3) := by decide +kernel
theorem dX7_keepRows_115 : decode cX7_keepRows 115 = .ok (.goto (-81), 3) := by decide +kernel
theorem dX7_keepRows_118 : decode cX7_keepRows 118 = .ok (.return_, 1) := by decide +kernel
theorem dX7_fillRows_0 : decode cX7_fillRows 0 = .ok (.aload_n 0, 1) := by decide +kernel
theorem dX7_fillRows_1 : decode cX7_fillRows 1 = .ok (.getfield 15, 3) := by decide +kernel
theorem dX7_fillRows_4 : decode cX7_fillRows 4 = .ok (.lconst 0, 1) := by decide +kernel
theorem dX7_fillRows_5 : decode cX7_fillRows 5 = .ok (.invokestatic 60, 3) := by decide +kernel
theorem dX7_fillRows_8 : decode cX7_fillRows 8 = .ok (.iload_n 2, 1) := by decide +kernel
theorem dX7_fillRows_9 : decode cX7_fillRows 9 = .ok (.invokestatic 63, 3) := by decide +kernel
theorem dX7_fillRows_12 : decode cX7_fillRows 12 = .ok (.istore_n 3, 1) := by decide +kernel
theorem dX7_fillRows_13 : decode cX7_fillRows 13 = .ok (.aload_n 0, 1) := by decide +kernel
theorem dX7_fillRows_14 : decode cX7_fillRows 14 = .ok (.getfield 29, 3) := by decide +kernel
theorem dX7_fillRows_17 : decode cX7_fillRows 17 = .ok (.iconst 1, 1) := by decide +kernel
theorem dX7_fillRows_18 : decode cX7_fillRows 18 = .ok (.if_icmp .ne 41, 3) := by decide +kernel
theorem dX7_fillRows_21 : decode cX7_fillRows 21 = .ok (.iconst 0, 1) := by decide +kernel
theorem dX7_fillRows_22 : decode cX7_fillRows 22 = .ok (.istore 4, 2) := by decide +kernel
theorem dX7_fillRows_24 : decode cX7_fillRows 24 = .ok (.iload 4, 2) := by decide +kernel
theorem dX7_fillRows_26 : decode cX7_fillRows 26 = .ok (.aload_n 0, 1) := by decide +kernel
theorem dX7_fillRows_27 : decode cX7_fillRows 27 = .ok (.getfield 25, 3) := by decide +kernel
theorem dX7_fillRows_30 : decode cX7_fillRows 30 = .ok (.getfield 54, 3) := by decide +kernel
theorem dX7_fillRows_33 : decode cX7_fillRows 33 = .ok (.if_icmp .ge 23, 3) := by decide +kernel
theorem dX7_fillRows_36 : decode cX7_fillRows 36 = .ok (.aload_n 0, 1) := by decide +kernel
theorem dX7_fillRows_37 : decode cX7_fillRows 37 = .ok (.getfield 15, 3) := by decide +kernel
theorem dX7_fillRows_40 : decode cX7_fillRows 40 = .ok (.iload 4, 2) := by decide +kernel
theorem dX7_fillRows_42 : decode cX7_fillRows 42 = .ok (.iload_n 1, 1) := by decide +kernel
theorem dX7_fillRows_43 : decode cX7_fillRows 43 = .ok (.iload 4, 2) := by decide +kernel
theorem dX7_fillRows_45 : decode cX7_fillRows 45 = .ok (.iushr, 1) := by decide +kernel
theorem dX7_fillRows_46 : decode cX7_fillRows 46 = .ok (.iconst 1, 1) := by decide +kernel
theorem dX7_fillRows_47 : decode cX7_fillRows 47 = .ok (.iand, 1) := by decide +kernel
theorem dX7_fillRows_48 : decode cX7_fillRows 48 = .ok (.i2l, 1) := by decide +kernel
theorem dX7_fillRows_49 : decode cX7_fillRows 49 = .ok (.lastore, 1) := by decide +kernel
theorem dX7_fillRows_50 : decode cX7_fillRows 50 = .ok (.iinc 4 1, 3) := by decide +kernel
theorem dX7_fillRows_53 : decode cX7_fillRows 53 = .ok (.goto (-29), 3) := by decide +kernel
theorem dX7_fillRows_56 : decode cX7_fillRows 56 = .ok (.goto 28, 3) := by decide +kernel
theorem dX7_fillRows_59 : decode cX7_fillRows 59 = .ok (.aload_n 0, 1) := by decide +kernel
theorem dX7_fillRows_60 : decode cX7_fillRows 60 = .ok (.getfield 29, 3) := by decide +kernel
theorem dX7_fillRows_63 : decode cX7_fillRows 63 = .ok (.ifCond .ne 13, 3) := by decide +kernel
theorem dX7_fillRows_66 : decode cX7_fillRows 66 = .ok (.aload_n 0, 1) := by decide +kernel
theorem dX7_fillRows_67 : decode cX7_fillRows 67 = .ok (.iload_n 1, 1) := by decide +kernel
theorem dX7_fillRows_68 : decode cX7_fillRows 68 = .ok (.iload_n 2, 1) := by decide +kernel
theorem dX7_fillRows_69 : decode cX7_fillRows 69 = .ok (.iload_n 3, 1) := by decide +kernel
theorem dX7_fillRows_70 : decode cX7_fillRows 70 = .ok (.invokevirtual 69, 3) := by decide +kernel
theorem dX7_fillRows_73 : decode cX7_fillRows 73 = .ok (.goto 11, 3) := by decide +kernel
theorem dX7_fillRows_76 : decode cX7_fillRows 76 = .ok (.aload_n 0, 1) := by decide +kernel
theorem dX7_fillRows_77 : decode cX7_fillRows 77 = .ok (.iload_n 1, 1) := by decide +kernel
theorem dX7_fillRows_78 : decode cX7_fillRows 78 = .ok (.iload_n 2, 1) := by decide +kernel
theorem dX7_fillRows_79 : decode cX7_fillRows 79 = .ok (.iload_n 3, 1) := by decide +kernel
theorem dX7_fillRows_80 : decode cX7_fillRows 80 = .ok (.lconst 1, 1) := by decide +kernel
theorem dX7_fillRows_81 : decode cX7_fillRows 81 = .ok (.invokevirtual 73, 3) := by decide +kernel
theorem dX7_fillRows_84 : decode cX7_fillRows 84 = .ok (.return_, 1) := by decide +kernel
theorem dX7_skip_0 : decode cX7_skip 0 = .ok (.iload_n 1, 1) := by decide +kernel
theorem dX7_skip_1 : decode cX7_skip 1 = .ok (.iload_n 1, 1) := by decide +kernel
theorem dX7_skip_2 : decode cX7_skip 2 = .ok (.iconst 1, 1) := by decide +kernel
theorem dX7_skip_3 : decode cX7_skip 3 = .ok (.isub, 1) := by decide +kernel
theorem dX7_skip_4 : decode cX7_skip 4 = .ok (.iand, 1) := by decide +kernel
theorem dX7_skip_5 : decode cX7_skip 5 = .ok (.ifCond .eq 7, 3) := by decide +kernel
theorem dX7_skip_8 : decode cX7_skip 8 = .ok (.iload_n 3, 1) := by decide +kernel
theorem dX7_skip_9 : decode cX7_skip 9 = .ok (.ifCond .gt 22, 3) := by decide +kernel
theorem dX7_skip_12 : decode cX7_skip 12 = .ok (.aload_n 0, 1) := by decide +kernel
theorem dX7_skip_13 : decode cX7_skip 13 = .ok (.getfield 15, 3) := by decide +kernel
theorem dX7_skip_16 : decode cX7_skip 16 = .ok (.iload_n 1, 1) := by decide +kernel
theorem dX7_skip_17 : decode cX7_skip 17 = .ok (.invokestatic 77, 3) := by decide +kernel
theorem dX7_skip_20 : decode cX7_skip 20 = .ok (.dup2, 1) := by decide +kernel
theorem dX7_skip_21 : decode cX7_skip 21 = .ok (.laload, 1) := by decide +kernel
theorem dX7_skip_22 : decode cX7_skip 22 = .ok (.getstatic 80, 3) := by decide +kernel
theorem dX7_skip_25 : decode cX7_skip 25 = .ok (.iload_n 3, 1) := by decide +kernel
theorem dX7_skip_26 : decode cX7_skip 26 = .ok (.iaload, 1) := by decide +kernel
theorem dX7_skip_27 : decode cX7_skip 27 = .ok (.i2l, 1) := by decide +kernel
theorem dX7_skip_28 : decode cX7_skip 28 = .ok (.ladd, 1) := by decide +kernel
theorem dX7_skip_29 : decode cX7_skip 29 = .ok (.lastore, 1) := by decide +kernel
theorem dX7_skip_30 : decode cX7_skip 30 = .ok (.return_, 1) := by decide +kernel
theorem dX7_skip_31 : decode cX7_skip 31 = .ok (.iconst 0, 1) := by decide +kernel
theorem dX7_skip_32 : decode cX7_skip 32 = .ok (.istore 4, 2) := by decide +kernel
theorem dX7_skip_34 : decode cX7_skip 34 = .ok (.iload 4, 2) := by decide +kernel
theorem dX7_skip_36 : decode cX7_skip 36 = .ok (.aload_n 0, 1) := by decide +kernel
theorem dX7_skip_37 : decode cX7_skip 37 = .ok (.getfield 25, 3) := by decide +kernel
theorem dX7_skip_40 : decode cX7_skip 40 = .ok (.getfield 45, 3) := by decide +kernel
theorem dX7_skip_43 : decode cX7_skip 43 = .ok (.if_icmp .ge 47, 3) := by decide +kernel
theorem dX7_skip_46 : decode cX7_skip 46 = .ok (.iload_n 2, 1) := by decide +kernel
theorem dX7_skip_47 : decode cX7_skip 47 = .ok (.iload 4, 2) := by decide +kernel
theorem dX7_skip_49 : decode cX7_skip 49 = .ok (.iushr, 1) := by decide +kernel
theorem dX7_skip_50 : decode cX7_skip 50 = .ok (.iconst 1, 1) := by decide +kernel
theorem dX7_skip_51 : decode cX7_skip 51 = .ok (.iand, 1) := by decide +kernel
theorem dX7_skip_52 : decode cX7_skip 52 = .ok (.ifCond .eq 32, 3) := by decide +kernel
theorem dX7_skip_55 : decode cX7_skip 55 = .ok (.aload_n 0, 1) := by decide +kernel
theorem dX7_skip_56 : decode cX7_skip 56 = .ok (.aload_n 0, 1) := by decide +kernel
theorem dX7_skip_57 : decode cX7_skip 57 = .ok (.getfield 25, 3) := by decide +kernel
theorem dX7_skip_60 : decode cX7_skip 60 = .ok (.iload_n 1, 1) := by decide +kernel
theorem dX7_skip_61 : decode cX7_skip 61 = .ok (.iload 4, 2) := by decide +kernel
theorem dX7_skip_63 : decode cX7_skip 63 = .ok (.aload_n 0, 1) := by decide +kernel
theorem dX7_skip_64 : decode cX7_skip 64 = .ok (.getfield 9, 3) := by decide +kernel
theorem dX7_skip_67 : decode cX7_skip 67 = .ok (.invokevirtual 83, 3) := by decide +kernel
theorem dX7_skip_70 : decode cX7_skip 70 = .ok (.iload_n 2, 1) := by decide +kernel
theorem dX7_skip_71 : decode cX7_skip 71 = .ok (.iconst 1, 1) := by decide +kernel
theorem dX7_skip_72 : decode cX7_skip 72 = .ok (.iload 4, 2) := by decide +kernel
theorem dX7_skip_74 : decode cX7_skip 74 = .ok (.ishl, 1) := by decide +kernel
theorem dX7_skip_75 : decode cX7_skip 75 = .ok (.iconst (-1), 1) := by decide +kernel
theorem dX7_skip_76 : decode cX7_skip 76 = .ok (.ixor, 1) := by decide +kernel
theorem dX7_skip_77 : decode cX7_skip 77 = .ok (.iand, 1) := by decide +kernel
theorem dX7_skip_78 : decode cX7_skip 78 = .ok (.iload_n 3, 1) := by decide +kernel
theorem dX7_skip_79 : decode cX7_skip 79 = .ok (.iconst 1, 1) := by decide +kernel
theorem dX7_skip_80 : decode cX7_skip 80 = .ok (.isub, 1) := by decide +kernel
theorem dX7_skip_81 : decode cX7_skip 81 = .ok (.invokevirtual 69, 3) := by decide +kernel
theorem dX7_skip_84 : decode cX7_skip 84 = .ok (.iinc 4 1, 3) := by decide +kernel
theorem dX7_skip_87 : decode cX7_skip 87 = .ok (.goto (-53), 3) := by decide +kernel
theorem dX7_skip_90 : decode cX7_skip 90 = .ok (.return_, 1) := by decide +kernel
theorem dX7_field_0 : decode cX7_field 0 = .ok (.iload_n 1, 1) := by decide +kernel
theorem dX7_field_1 : decode cX7_field 1 = .ok (.iload_n 1, 1) := by decide +kernel
theorem dX7_field_2 : decode cX7_field 2 = .ok (.iconst 1, 1) := by decide +kernel
theorem dX7_field_3 : decode cX7_field 3 = .ok (.isub, 1) := by decide +kernel
theorem dX7_field_4 : decode cX7_field 4 = .ok (.iand, 1) := by decide +kernel
theorem dX7_field_5 : decode cX7_field 5 = .ok (.ifCond .eq 7, 3) := by decide +kernel
theorem dX7_field_8 : decode cX7_field 8 = .ok (.iload_n 3, 1) := by decide +kernel
theorem dX7_field_9 : decode cX7_field 9 = .ok (.ifCond .gt 25, 3) := by decide +kernel
theorem dX7_field_12 : decode cX7_field 12 = .ok (.aload_n 0, 1) := by decide +kernel
theorem dX7_field_13 : decode cX7_field 13 = .ok (.getfield 15, 3) := by decide +kernel
theorem dX7_field_16 : decode cX7_field 16 = .ok (.iload_n 1, 1) := by decide +kernel
theorem dX7_field_17 : decode cX7_field 17 = .ok (.invokestatic 77, 3) := by decide +kernel
theorem dX7_field_20 : decode cX7_field 20 = .ok (.dup2, 1) := by decide +kernel
theorem dX7_field_21 : decode cX7_field 21 = .ok (.laload, 1) := by decide +kernel
theorem dX7_field_22 : decode cX7_field 22 = .ok (.lload 4, 2) := by decide +kernel
theorem dX7_field_24 : decode cX7_field 24 = .ok (.getstatic 87, 3) := by decide +kernel
theorem dX7_field_27 : decode cX7_field 27 = .ok (.iload_n 3, 1) := by decide +kernel
theorem dX7_field_28 : decode cX7_field 28 = .ok (.iaload, 1) := by decide +kernel
theorem dX7_field_29 : decode cX7_field 29 = .ok (.i2l, 1) := by decide +kernel
theorem dX7_field_30 : decode cX7_field 30 = .ok (.lmul, 1) := by decide +kernel
theorem dX7_field_31 : decode cX7_field 31 = .ok (.ladd, 1) := by decide +kernel
theorem dX7_field_32 : decode cX7_field 32 = .ok (.lastore, 1) := by decide +kernel
theorem dX7_field_33 : decode cX7_field 33 = .ok (.return_, 1) := by decide +kernel
theorem dX7_field_34 : decode cX7_field 34 = .ok (.iconst 0, 1) := by decide +kernel
theorem dX7_field_35 : decode cX7_field 35 = .ok (.istore 6, 2) := by decide +kernel
theorem dX7_field_37 : decode cX7_field 37 = .ok (.iload 6, 2) := by decide +kernel
theorem dX7_field_39 : decode cX7_field 39 = .ok (.aload_n 0, 1) := by decide +kernel
theorem dX7_field_40 : decode cX7_field 40 = .ok (.getfield 25, 3) := by decide +kernel
theorem dX7_field_43 : decode cX7_field 43 = .ok (.getfield 45, 3) := by decide +kernel
theorem dX7_field_46 : decode cX7_field 46 = .ok (.if_icmp .ge 53, 3) := by decide +kernel
theorem dX7_field_49 : decode cX7_field 49 = .ok (.iload_n 2, 1) := by decide +kernel
theorem dX7_field_50 : decode cX7_field 50 = .ok (.iload 6, 2) := by decide +kernel
theorem dX7_field_52 : decode cX7_field 52 = .ok (.iushr, 1) := by decide +kernel
theorem dX7_field_53 : decode cX7_field 53 = .ok (.iconst 1, 1) := by decide +kernel
theorem dX7_field_54 : decode cX7_field 54 = .ok (.iand, 1) := by decide +kernel
theorem dX7_field_55 : decode cX7_field 55 = .ok (.ifCond .eq 38, 3) := by decide +kernel
theorem dX7_field_58 : decode cX7_field 58 = .ok (.aload_n 0, 1) := by decide +kernel
theorem dX7_field_59 : decode cX7_field 59 = .ok (.iload_n 1, 1) := by decide +kernel
theorem dX7_field_60 : decode cX7_field 60 = .ok (.iload 6, 2) := by decide +kernel
theorem dX7_field_62 : decode cX7_field 62 = .ok (.invokevirtual 90, 3) := by decide +kernel
theorem dX7_field_65 : decode cX7_field 65 = .ok (.istore 7, 2) := by decide +kernel
theorem dX7_field_67 : decode cX7_field 67 = .ok (.iload 7, 2) := by decide +kernel
theorem dX7_field_69 : decode cX7_field 69 = .ok (.ifCond .le 24, 3) := by decide +kernel
theorem dX7_field_72 : decode cX7_field 72 = .ok (.aload_n 0, 1) := by decide +kernel
theorem dX7_field_73 : decode cX7_field 73 = .ok (.iload_n 1, 1) := by decide +kernel
theorem dX7_field_74 : decode cX7_field 74 = .ok (.iload_n 2, 1) := by decide +kernel
theorem dX7_field_75 : decode cX7_field 75 = .ok (.iload_n 3, 1) := by decide +kernel
theorem dX7_field_76 : decode cX7_field 76 = .ok (.lload 4, 2) := by decide +kernel
theorem dX7_field_78 : decode cX7_field 78 = .ok (.getstatic 93, 3) := by decide +kernel
theorem dX7_field_81 : decode cX7_field 81 = .ok (.iload_n 3, 1) := by decide +kernel
theorem dX7_field_82 : decode cX7_field 82 = .ok (.iaload, 1) := by decide +kernel
theorem dX7_field_83 : decode cX7_field 83 = .ok (.iload 7, 2) := by decide +kernel
theorem dX7_field_85 : decode cX7_field 85 = .ok (.idiv, 1) := by decide +kernel
theorem dX7_field_86 : decode cX7_field 86 = .ok (.i2l, 1) := by decide +kernel
theorem dX7_field_87 : decode cX7_field 87 = .ok (.lmul, 1) := by decide +kernel
theorem dX7_field_88 : decode cX7_field 88 = .ok (.iload 6, 2) := by decide +kernel
theorem dX7_field_90 : decode cX7_field 90 = .ok (.invokevirtual 96, 3) := by decide +kernel
theorem dX7_field_93 : decode cX7_field 93 = .ok (.iinc 6 1, 3) := by decide +kernel
theorem dX7_field_96 : decode cX7_field 96 = .ok (.goto (-59), 3) := by decide +kernel
theorem dX7_field_99 : decode cX7_field 99 = .ok (.return_, 1) := by decide +kernel
theorem dX7_fieldBall_0 : decode cX7_fieldBall 0 = .ok (.iconst 0, 1) := by decide +kernel
theorem dX7_fieldBall_1 : decode cX7_fieldBall 1 = .ok (.istore 7, 2) := by decide +kernel
theorem dX7_fieldBall_3 : decode cX7_fieldBall 3 = .ok (.iload 7, 2) := by decide +kernel
theorem dX7_fieldBall_5 : decode cX7_fieldBall 5 = .ok (.aload_n 0, 1) := by decide +kernel
theorem dX7_fieldBall_6 : decode cX7_fieldBall 6 = .ok (.getfield 25, 3) := by decide +kernel
theorem dX7_fieldBall_9 : decode cX7_fieldBall 9 = .ok (.getfield 45, 3) := by decide +kernel
theorem dX7_fieldBall_12 : decode cX7_fieldBall 12 = .ok (.if_icmp .ge 52, 3) := by decide +kernel
theorem dX7_fieldBall_15 : decode cX7_fieldBall 15 = .ok (.iload_n 1, 1) := by decide +kernel
theorem dX7_fieldBall_16 : decode cX7_fieldBall 16 = .ok (.aload_n 0, 1) := by decide +kernel
theorem dX7_fieldBall_17 : decode cX7_fieldBall 17 = .ok (.getfield 25, 3) := by decide +kernel
theorem dX7_fieldBall_20 : decode cX7_fieldBall 20 = .ok (.getfield 100, 3) := by decide +kernel
theorem dX7_fieldBall_23 : decode cX7_fieldBall 23 = .ok (.iload 6, 2) := by decide +kernel
theorem dX7_fieldBall_25 : decode cX7_fieldBall 25 = .ok (.iconst 4, 1) := by decide +kernel
theorem dX7_fieldBall_26 : decode cX7_fieldBall 26 = .ok (.imul, 1) := by decide +kernel
theorem dX7_fieldBall_27 : decode cX7_fieldBall 27 = .ok (.iload 7, 2) := by decide +kernel
theorem dX7_fieldBall_29 : decode cX7_fieldBall 29 = .ok (.iadd, 1) := by decide +kernel
theorem dX7_fieldBall_30 : decode cX7_fieldBall 30 = .ok (.iaload, 1) := by decide +kernel
theorem dX7_fieldBall_31 : decode cX7_fieldBall 31 = .ok (.iand, 1) := by decide +kernel
theorem dX7_fieldBall_32 : decode cX7_fieldBall 32 = .ok (.istore 8, 2) := by decide +kernel
theorem dX7_fieldBall_34 : decode cX7_fieldBall 34 = .ok (.iload 8, 2) := by decide +kernel
theorem dX7_fieldBall_36 : decode cX7_fieldBall 36 = .ok (.ifCond .eq 22, 3) := by decide +kernel
theorem dX7_fieldBall_39 : decode cX7_fieldBall 39 = .ok (.aload_n 0, 1) := by decide +kernel
theorem dX7_fieldBall_40 : decode cX7_fieldBall 40 = .ok (.iload 8, 2) := by decide +kernel
theorem dX7_fieldBall_42 : decode cX7_fieldBall 42 = .ok (.iload_n 2, 1) := by decide +kernel
theorem dX7_fieldBall_43 : decode cX7_fieldBall 43 = .ok (.iconst 1, 1) := by decide +kernel
theorem dX7_fieldBall_44 : decode cX7_fieldBall 44 = .ok (.iload 6, 2) := by decide +kernel
theorem dX7_fieldBall_46 : decode cX7_fieldBall 46 = .ok (.ishl, 1) := by decide +kernel
theorem dX7_fieldBall_47 : decode cX7_fieldBall 47 = .ok (.iconst (-1), 1) := by decide +kernel
theorem dX7_fieldBall_48 : decode cX7_fieldBall 48 = .ok (.ixor, 1) := by decide +kernel
theorem dX7_fieldBall_49 : decode cX7_fieldBall 49 = .ok (.iand, 1) := by decide +kernel
theorem dX7_fieldBall_50 : decode cX7_fieldBall 50 = .ok (.iload_n 3, 1) := by decide +kernel
theorem dX7_fieldBall_51 : decode cX7_fieldBall 51 = .ok (.iconst 1, 1) := by decide +kernel
theorem dX7_fieldBall_52 : decode cX7_fieldBall 52 = .ok (.isub, 1) := by decide +kernel
theorem dX7_fieldBall_53 : decode cX7_fieldBall 53 = .ok (.lload 4, 2) := by decide +kernel
theorem dX7_fieldBall_55 : decode cX7_fieldBall 55 = .ok (.invokevirtual 73, 3) := by decide +kernel
theorem dX7_fieldBall_58 : decode cX7_fieldBall 58 = .ok (.iinc 7 1, 3) := by decide +kernel
theorem dX7_fieldBall_61 : decode cX7_fieldBall 61 = .ok (.goto (-58), 3) := by decide +kernel
theorem dX7_fieldBall_64 : decode cX7_fieldBall 64 = .ok (.return_, 1) := by decide +kernel
theorem dX7_groupsOpen_0 : decode cX7_groupsOpen 0 = .ok (.iconst 0, 1) := by decide +kernel
theorem dX7_groupsOpen_1 : decode cX7_groupsOpen 1 = .ok (.istore_n 3, 1) := by decide +kernel
theorem dX7_groupsOpen_2 : decode cX7_groupsOpen 2 = .ok (.iconst 0, 1) := by decide +kernel
theorem dX7_groupsOpen_3 : decode cX7_groupsOpen 3 = .ok (.istore 4, 2) := by decide +kernel
theorem dX7_groupsOpen_5 : decode cX7_groupsOpen 5 = .ok (.iload 4, 2) := by decide +kernel
theorem dX7_groupsOpen_7 : decode cX7_groupsOpen 7 = .ok (.aload_n 0, 1) := by decide +kernel
theorem dX7_groupsOpen_8 : decode cX7_groupsOpen 8 = .ok (.getfield 25, 3) := by decide +kernel
theorem dX7_groupsOpen_11 : decode cX7_groupsOpen 11 = .ok (.getfield 45, 3) := by decide +kernel
theorem dX7_groupsOpen_14 : decode cX7_groupsOpen 14 = .ok (.if_icmp .ge 31, 3) := by decide +kernel
theorem dX7_groupsOpen_17 : decode cX7_groupsOpen 17 = .ok (.iload_n 1, 1) := by decide +kernel
theorem dX7_groupsOpen_18 : decode cX7_groupsOpen 18 = .ok (.aload_n 0, 1) := by decide +kernel
theorem dX7_groupsOpen_19 : decode cX7_groupsOpen 19 = .ok (.getfield 25, 3) := by decide +kernel
theorem dX7_groupsOpen_22 : decode cX7_groupsOpen 22 = .ok (.getfield 100, 3) := by decide +kernel
theorem dX7_groupsOpen_25 : decode cX7_groupsOpen 25 = .ok (.iload_n 2, 1) := by decide +kernel
theorem dX7_groupsOpen_26 : decode cX7_groupsOpen 26 = .ok (.iconst 4, 1) := by decide +kernel
theorem dX7_groupsOpen_27 : decode cX7_groupsOpen 27 = .ok (.imul, 1) := by decide +kernel
theorem dX7_groupsOpen_28 : decode cX7_groupsOpen 28 = .ok (.iload 4, 2) := by decide +kernel
theorem dX7_groupsOpen_30 : decode cX7_groupsOpen 30 = .ok (.iadd, 1) := by decide +kernel
theorem dX7_groupsOpen_31 : decode cX7_groupsOpen 31 = .ok (.iaload, 1) := by decide +kernel
theorem dX7_groupsOpen_32 : decode cX7_groupsOpen 32 = .ok (.iand, 1) := by decide +kernel
theorem dX7_groupsOpen_33 : decode cX7_groupsOpen 33 = .ok (.ifCond .eq 6, 3) := by decide +kernel
theorem dX7_groupsOpen_36 : decode cX7_groupsOpen 36 = .ok (.iinc 3 1, 3) := by decide +kernel
theorem dX7_groupsOpen_39 : decode cX7_groupsOpen 39 = .ok (.iinc 4 1, 3) := by decide +kernel
theorem dX7_groupsOpen_42 : decode cX7_groupsOpen 42 = .ok (.goto (-37), 3) := by decide +kernel
theorem dX7_groupsOpen_45 : decode cX7_groupsOpen 45 = .ok (.iload_n 3, 1) := by decide +kernel
theorem dX7_groupsOpen_46 : decode cX7_groupsOpen 46 = .ok (.ireturn, 1) := by decide +kernel
theorem dX8_putInTurn_0 : decode cX8_putInTurn 0 = .ok (.getstatic 35, 3) := by decide +kernel
theorem dX8_putInTurn_3 : decode cX8_putInTurn 3 = .ok (.iconst 0, 1) := by decide +kernel
theorem dX8_putInTurn_4 : decode cX8_putInTurn 4 = .ok (.aload_n 0, 1) := by decide +kernel
theorem dX8_putInTurn_5 : decode cX8_putInTurn 5 = .ok (.getfield 9, 3) := by decide +kernel
theorem dX8_putInTurn_8 : decode cX8_putInTurn 8 = .ok (.iconst 0, 1) := by decide +kernel
theorem dX8_putInTurn_9 : decode cX8_putInTurn 9 = .ok (.iconst 4, 1) := by decide +kernel
theorem dX8_putInTurn_10 : decode cX8_putInTurn 10 = .ok (.invokestatic 38, 3) := by decide +kernel
theorem dX8_putInTurn_13 : decode cX8_putInTurn 13 = .ok (.getstatic 35, 3) := by decide +kernel
theorem dX8_putInTurn_16 : decode cX8_putInTurn 16 = .ok (.iconst 0, 1) := by decide +kernel
theorem dX8_putInTurn_17 : decode cX8_putInTurn 17 = .ok (.aload_n 0, 1) := by decide +kernel
theorem dX8_putInTurn_18 : decode cX8_putInTurn 18 = .ok (.getfield 15, 3) := by decide +kernel
theorem dX8_putInTurn_21 : decode cX8_putInTurn 21 = .ok (.iconst 0, 1) := by decide +kernel
theorem dX8_putInTurn_22 : decode cX8_putInTurn 22 = .ok (.iconst 4, 1) := by decide +kernel
theorem dX8_putInTurn_23 : decode cX8_putInTurn 23 = .ok (.invokestatic 38, 3) := by decide +kernel
theorem dX8_putInTurn_26 : decode cX8_putInTurn 26 = .ok (.aload_n 0, 1) := by decide +kernel
theorem dX8_putInTurn_27 : decode cX8_putInTurn 27 = .ok (.invokevirtual 44, 3) := by decide +kernel
theorem dX8_putInTurn_30 : decode cX8_putInTurn 30 = .ok (.return_, 1) := by decide +kernel
theorem dX8_empty_0 : decode cX8_empty 0 = .ok (.aload_n 0, 1) := by decide +kernel
theorem dX8_empty_1 : decode cX8_empty 1 = .ok (.iconst 0, 1) := by decide +kernel
theorem dX8_empty_2 : decode cX8_empty 2 = .ok (.putfield 47, 3) := by decide +kernel
theorem dX8_empty_5 : decode cX8_empty 5 = .ok (.aload_n 0, 1) := by decide +kernel
theorem dX8_empty_6 : decode cX8_empty 6 = .ok (.getfield 18, 3) := by decide +kernel
theorem dX8_empty_9 : decode cX8_empty 9 = .ok (.iconst (-1), 1) := by decide +kernel
theorem dX8_empty_10 : decode cX8_empty 10 = .ok (.invokestatic 51, 3) := by decide +kernel
theorem dX8_empty_13 : decode cX8_empty 13 = .ok (.return_, 1) := by decide +kernel
theorem dX8_put_0 : decode cX8_put 0 = .ok (.aload_n 0, 1) := by decide +kernel
theorem dX8_put_1 : decode cX8_put 1 = .ok (.getfield 47, 3) := by decide +kernel
theorem dX8_put_4 : decode cX8_put 4 = .ok (.bipush 12, 2) := by decide +kernel
theorem dX8_put_6 : decode cX8_put 6 = .ok (.if_icmp .ge 30, 3) := by decide +kernel
theorem dX8_put_9 : decode cX8_put 9 = .ok (.aload_n 0, 1) := by decide +kernel
theorem dX8_put_10 : decode cX8_put 10 = .ok (.getfield 18, 3) := by decide +kernel
theorem dX8_put_13 : decode cX8_put 13 = .ok (.iload_n 1, 1) := by decide +kernel
theorem dX8_put_14 : decode cX8_put 14 = .ok (.iload_n 2, 1) := by decide +kernel
theorem dX8_put_15 : decode cX8_put 15 = .ok (.iastore, 1) := by decide +kernel
theorem dX8_put_16 : decode cX8_put 16 = .ok (.aload_n 0, 1) := by decide +kernel
theorem dX8_put_17 : decode cX8_put 17 = .ok (.getfield 21, 3) := by decide +kernel
theorem dX8_put_20 : decode cX8_put 20 = .ok (.aload_n 0, 1) := by decide +kernel
theorem dX8_put_21 : decode cX8_put 21 = .ok (.getfield 47, 3) := by decide +kernel
theorem dX8_put_24 : decode cX8_put 24 = .ok (.iload_n 1, 1) := by decide +kernel
theorem dX8_put_25 : decode cX8_put 25 = .ok (.iastore, 1) := by decide +kernel
theorem dX8_put_26 : decode cX8_put 26 = .ok (.aload_n 0, 1) := by decide +kernel
theorem dX8_put_27 : decode cX8_put 27 = .ok (.dup, 1) := by decide +kernel
theorem dX8_put_28 : decode cX8_put 28 = .ok (.getfield 47, 3) := by decide +kernel
theorem dX8_put_31 : decode cX8_put 31 = .ok (.iconst 1, 1) := by decide +kernel
theorem dX8_put_32 : decode cX8_put 32 = .ok (.iadd, 1) := by decide +kernel
theorem dX8_put_33 : decode cX8_put 33 = .ok (.putfield 47, 3) := by decide +kernel
theorem dX8_put_36 : decode cX8_put 36 = .ok (.return_, 1) := by decide +kernel
theorem dX8_takeBack_0 : decode cX8_takeBack 0 = .ok (.aload_n 0, 1) := by decide +kernel
theorem dX8_takeBack_1 : decode cX8_takeBack 1 = .ok (.getfield 47, 3) := by decide +kernel
theorem dX8_takeBack_4 : decode cX8_takeBack 4 = .ok (.ifCond .le 28, 3) := by decide +kernel
theorem dX8_takeBack_7 : decode cX8_takeBack 7 = .ok (.aload_n 0, 1) := by decide +kernel
theorem dX8_takeBack_8 : decode cX8_takeBack 8 = .ok (.dup, 1) := by decide +kernel
theorem dX8_takeBack_9 : decode cX8_takeBack 9 = .ok (.getfield 47, 3) := by decide +kernel
theorem dX8_takeBack_12 : decode cX8_takeBack 12 = .ok (.iconst 1, 1) := by decide +kernel
theorem dX8_takeBack_13 : decode cX8_takeBack 13 = .ok (.isub, 1) := by decide +kernel
theorem dX8_takeBack_14 : decode cX8_takeBack 14 = .ok (.putfield 47, 3) := by decide +kernel
theorem dX8_takeBack_17 : decode cX8_takeBack 17 = .ok (.aload_n 0, 1) := by decide +kernel
theorem dX8_takeBack_18 : decode cX8_takeBack 18 = .ok (.getfield 18, 3) := by decide +kernel
theorem dX8_takeBack_21 : decode cX8_takeBack 21 = .ok (.aload_n 0, 1) := by decide +kernel
theorem dX8_takeBack_22 : decode cX8_takeBack 22 = .ok (.getfield 21, 3) := by decide +kernel
theorem dX8_takeBack_25 : decode cX8_takeBack 25 = .ok (.aload_n 0, 1) := by decide +kernel
theorem dX8_takeBack_26 : decode cX8_takeBack 26 = .ok (.getfield 47, 3) := by decide +kernel
theorem dX8_takeBack_29 : decode cX8_takeBack 29 = .ok (.iaload, 1) := by decide +kernel
theorem dX8_takeBack_30 : decode cX8_takeBack 30 = .ok (.iconst (-1), 1) := by decide +kernel
theorem dX8_takeBack_31 : decode cX8_takeBack 31 = .ok (.iastore, 1) := by decide +kernel
theorem dX8_takeBack_32 : decode cX8_takeBack 32 = .ok (.return_, 1) := by decide +kernel
theorem dX8_latest_0 : decode cX8_latest 0 = .ok (.aload_n 0, 1) := by decide +kernel
theorem dX8_latest_1 : decode cX8_latest 1 = .ok (.getfield 47, 3) := by decide +kernel
theorem dX8_latest_4 : decode cX8_latest 4 = .ok (.ifCond .le 17, 3) := by decide +kernel
theorem dX8_latest_7 : decode cX8_latest 7 = .ok (.aload_n 0, 1) := by decide +kernel
theorem dX8_latest_8 : decode cX8_latest 8 = .ok (.getfield 21, 3) := by decide +kernel
theorem dX8_latest_11 : decode cX8_latest 11 = .ok (.aload_n 0, 1) := by decide +kernel
theorem dX8_latest_12 : decode cX8_latest 12 = .ok (.getfield 47, 3) := by decide +kernel
theorem dX8_latest_15 : decode cX8_latest 15 = .ok (.iconst 1, 1) := by decide +kernel
theorem dX8_latest_16 : decode cX8_latest 16 = .ok (.isub, 1) := by decide +kernel
theorem dX8_latest_17 : decode cX8_latest 17 = .ok (.iaload, 1) := by decide +kernel
theorem dX8_latest_18 : decode cX8_latest 18 = .ok (.goto 4, 3) := by decide +kernel
theorem dX8_latest_21 : decode cX8_latest 21 = .ok (.iconst (-1), 1) := by decide +kernel
theorem dX8_latest_22 : decode cX8_latest 22 = .ok (.ireturn, 1) := by decide +kernel
theorem dX8_fullPots_0 : decode cX8_fullPots 0 = .ok (.aload_n 0, 1) := by decide +kernel
theorem dX8_fullPots_1 : decode cX8_fullPots 1 = .ok (.getfield 27, 3) := by decide +kernel
theorem dX8_fullPots_4 : decode cX8_fullPots 4 = .ok (.aload_n 0, 1) := by decide +kernel
theorem dX8_fullPots_5 : decode cX8_fullPots 5 = .ok (.getfield 47, 3) := by decide +kernel
theorem dX8_fullPots_8 : decode cX8_fullPots 8 = .ok (.invokevirtual 57, 3) := by decide +kernel
theorem dX8_fullPots_11 : decode cX8_fullPots 11 = .ok (.ireturn, 1) := by decide +kernel
theorem dX8_begun_0 : decode cX8_begun 0 = .ok (.aload_n 0, 1) := by decide +kernel
theorem dX8_begun_1 : decode cX8_begun 1 = .ok (.getfield 27, 3) := by decide +kernel
theorem dX8_begun_4 : decode cX8_begun 4 = .ok (.aload_n 0, 1) := by decide +kernel
theorem dX8_begun_5 : decode cX8_begun 5 = .ok (.getfield 47, 3) := by decide +kernel
theorem dX8_begun_8 : decode cX8_begun 8 = .ok (.invokevirtual 63, 3) := by decide +kernel
theorem dX8_begun_11 : decode cX8_begun 11 = .ok (.ireturn, 1) := by decide +kernel
theorem dX8_potInTurn_0 : decode cX8_potInTurn 0 = .ok (.aload_n 0, 1) := by decide +kernel
theorem dX8_potInTurn_1 : decode cX8_potInTurn 1 = .ok (.getfield 47, 3) := by decide +kernel
theorem dX8_potInTurn_4 : decode cX8_potInTurn 4 = .ok (.aload_n 0, 1) := by decide +kernel
theorem dX8_potInTurn_5 : decode cX8_potInTurn 5 = .ok (.getfield 27, 3) := by decide +kernel
theorem dX8_potInTurn_8 : decode cX8_potInTurn 8 = .ok (.getfield 66, 3) := by decide +kernel
theorem dX8_potInTurn_11 : decode cX8_potInTurn 11 = .ok (.if_icmp .ge 15, 3) := by decide +kernel
theorem dX8_potInTurn_14 : decode cX8_potInTurn 14 = .ok (.aload_n 0, 1) := by decide +kernel
theorem dX8_potInTurn_15 : decode cX8_potInTurn 15 = .ok (.getfield 9, 3) := by decide +kernel
theorem dX8_potInTurn_18 : decode cX8_potInTurn 18 = .ok (.aload_n 0, 1) := by decide +kernel
theorem dX8_potInTurn_19 : decode cX8_potInTurn 19 = .ok (.invokevirtual 69, 3) := by decide +kernel
theorem dX8_potInTurn_22 : decode cX8_potInTurn 22 = .ok (.iaload, 1) := by decide +kernel
theorem dX8_potInTurn_23 : decode cX8_potInTurn 23 = .ok (.goto 4, 3) := by decide +kernel
theorem dX8_potInTurn_26 : decode cX8_potInTurn 26 = .ok (.iconst (-1), 1) := by decide +kernel
theorem dX8_potInTurn_27 : decode cX8_potInTurn 27 = .ok (.ireturn, 1) := by decide +kernel
theorem dX8_ranksLeft_0 : decode cX8_ranksLeft 0 = .ok (.aload_n 0, 1) := by decide +kernel
theorem dX8_ranksLeft_1 : decode cX8_ranksLeft 1 = .ok (.iload_n 1, 1) := by decide +kernel
theorem dX8_ranksLeft_2 : decode cX8_ranksLeft 2 = .ok (.iconst (-1), 1) := by decide +kernel
theorem dX8_ranksLeft_3 : decode cX8_ranksLeft 3 = .ok (.iconst (-1), 1) := by decide +kernel
theorem dX8_ranksLeft_4 : decode cX8_ranksLeft 4 = .ok (.invokevirtual 73, 3) := by decide +kernel
theorem dX8_ranksLeft_7 : decode cX8_ranksLeft 7 = .ok (.ireturn, 1) := by decide +kernel
theorem dX8_placesLeft_0 : decode cX8_placesLeft 0 = .ok (.iconst 0, 1) := by decide +kernel
theorem dX8_placesLeft_1 : decode cX8_placesLeft 1 = .ok (.istore_n 2, 1) := by decide +kernel
theorem dX8_placesLeft_2 : decode cX8_placesLeft 2 = .ok (.iconst 0, 1) := by decide +kernel
theorem dX8_placesLeft_3 : decode cX8_placesLeft 3 = .ok (.istore_n 3, 1) := by decide +kernel
theorem dX8_placesLeft_4 : decode cX8_placesLeft 4 = .ok (.iload_n 3, 1) := by decide +kernel
theorem dX8_placesLeft_5 : decode cX8_placesLeft 5 = .ok (.aload_n 0, 1) := by decide +kernel
theorem dX8_placesLeft_6 : decode cX8_placesLeft 6 = .ok (.getfield 27, 3) := by decide +kernel
theorem dX8_placesLeft_9 : decode cX8_placesLeft 9 = .ok (.getfield 77, 3) := by decide +kernel
theorem dX8_placesLeft_12 : decode cX8_placesLeft 12 = .ok (.if_icmp .ge 35, 3) := by decide +kernel
theorem dX8_placesLeft_15 : decode cX8_placesLeft 15 = .ok (.aload_n 0, 1) := by decide +kernel
theorem dX8_placesLeft_16 : decode cX8_placesLeft 16 = .ok (.getfield 18, 3) := by decide +kernel
theorem dX8_placesLeft_19 : decode cX8_placesLeft 19 = .ok (.iload_n 1, 1) := by decide +kernel
theorem dX8_placesLeft_20 : decode cX8_placesLeft 20 = .ok (.aload_n 0, 1) := by decide +kernel
theorem dX8_placesLeft_21 : decode cX8_placesLeft 21 = .ok (.getfield 27, 3) := by decide +kernel
theorem dX8_placesLeft_24 : decode cX8_placesLeft 24 = .ok (.getfield 77, 3) := by decide +kernel
theorem dX8_placesLeft_27 : decode cX8_placesLeft 27 = .ok (.imul, 1) := by decide +kernel
theorem dX8_placesLeft_28 : decode cX8_placesLeft 28 = .ok (.iload_n 3, 1) := by decide +kernel
theorem dX8_placesLeft_29 : decode cX8_placesLeft 29 = .ok (.iadd, 1) := by decide +kernel
theorem dX8_placesLeft_30 : decode cX8_placesLeft 30 = .ok (.iaload, 1) := by decide +kernel
theorem dX8_placesLeft_31 : decode cX8_placesLeft 31 = .ok (.iconst (-1), 1) := by decide +kernel
theorem dX8_placesLeft_32 : decode cX8_placesLeft 32 = .ok (.if_icmp .ne 9, 3) := by decide +kernel
theorem dX8_placesLeft_35 : decode cX8_placesLeft 35 = .ok (.iload_n 2, 1) := by decide +kernel
theorem dX8_placesLeft_36 : decode cX8_placesLeft 36 = .ok (.iconst 1, 1) := by decide +kernel
theorem dX8_placesLeft_37 : decode cX8_placesLeft 37 = .ok (.iload_n 3, 1) := by decide +kernel
theorem dX8_placesLeft_38 : decode cX8_placesLeft 38 = .ok (.ishl, 1) := by decide +kernel
theorem dX8_placesLeft_39 : decode cX8_placesLeft 39 = .ok (.ior, 1) := by decide +kernel
theorem dX8_placesLeft_40 : decode cX8_placesLeft 40 = .ok (.istore_n 2, 1) := by decide +kernel
theorem dX8_placesLeft_41 : decode cX8_placesLeft 41 = .ok (.iinc 3 1, 3) := by decide +kernel
theorem dX8_placesLeft_44 : decode cX8_placesLeft 44 = .ok (.goto (-40), 3) := by decide +kernel
theorem dX8_placesLeft_47 : decode cX8_placesLeft 47 = .ok (.iload_n 2, 1) := by decide +kernel
theorem dX8_placesLeft_48 : decode cX8_placesLeft 48 = .ok (.ireturn, 1) := by decide +kernel
theorem dX8_ranksIf_0 : decode cX8_ranksIf 0 = .ok (.aload_n 0, 1) := by decide +kernel
theorem dX8_ranksIf_1 : decode cX8_ranksIf 1 = .ok (.getfield 31, 3) := by decide +kernel
theorem dX8_ranksIf_4 : decode cX8_ranksIf 4 = .ok (.getfield 80, 3) := by decide +kernel
theorem dX8_ranksIf_7 : decode cX8_ranksIf 7 = .ok (.istore 4, 2) := by decide +kernel
theorem dX8_ranksIf_9 : decode cX8_ranksIf 9 = .ok (.iconst 0, 1) := by decide +kernel
theorem dX8_ranksIf_10 : decode cX8_ranksIf 10 = .ok (.istore 5, 2) := by decide +kernel
theorem dX8_ranksIf_12 : decode cX8_ranksIf 12 = .ok (.iload 5, 2) := by decide +kernel
theorem dX8_ranksIf_14 : decode cX8_ranksIf 14 = .ok (.aload_n 0, 1) := by decide +kernel
theorem dX8_ranksIf_15 : decode cX8_ranksIf 15 = .ok (.getfield 27, 3) := by decide +kernel
theorem dX8_ranksIf_18 : decode cX8_ranksIf 18 = .ok (.getfield 77, 3) := by decide +kernel
theorem dX8_ranksIf_21 : decode cX8_ranksIf 21 = .ok (.if_icmp .ge 68, 3) := by decide +kernel
theorem dX8_ranksIf_24 : decode cX8_ranksIf 24 = .ok (.iload_n 1, 1) := by decide +kernel
theorem dX8_ranksIf_25 : decode cX8_ranksIf 25 = .ok (.aload_n 0, 1) := by decide +kernel
theorem dX8_ranksIf_26 : decode cX8_ranksIf 26 = .ok (.getfield 27, 3) := by decide +kernel
theorem dX8_ranksIf_29 : decode cX8_ranksIf 29 = .ok (.getfield 77, 3) := by decide +kernel
theorem dX8_ranksIf_32 : decode cX8_ranksIf 32 = .ok (.imul, 1) := by decide +kernel
theorem dX8_ranksIf_33 : decode cX8_ranksIf 33 = .ok (.iload 5, 2) := by decide +kernel
theorem dX8_ranksIf_35 : decode cX8_ranksIf 35 = .ok (.iadd, 1) := by decide +kernel
theorem dX8_ranksIf_36 : decode cX8_ranksIf 36 = .ok (.istore 6, 2) := by decide +kernel
theorem dX8_ranksIf_38 : decode cX8_ranksIf 38 = .ok (.iload 6, 2) := by decide +kernel
theorem dX8_ranksIf_40 : decode cX8_ranksIf 40 = .ok (.iload_n 2, 1) := by decide +kernel
theorem dX8_ranksIf_41 : decode cX8_ranksIf 41 = .ok (.if_icmp .ne 7, 3) := by decide +kernel
theorem dX8_ranksIf_44 : decode cX8_ranksIf 44 = .ok (.iload_n 3, 1) := by decide +kernel
theorem dX8_ranksIf_45 : decode cX8_ranksIf 45 = .ok (.goto 10, 3) := by decide +kernel
theorem dX8_ranksIf_48 : decode cX8_ranksIf 48 = .ok (.aload_n 0, 1) := by decide +kernel
theorem dX8_ranksIf_49 : decode cX8_ranksIf 49 = .ok (.getfield 18, 3) := by decide +kernel
theorem dX8_ranksIf_52 : decode cX8_ranksIf 52 = .ok (.iload 6, 2) := by decide +kernel
theorem dX8_ranksIf_54 : decode cX8_ranksIf 54 = .ok (.iaload, 1) := by decide +kernel
theorem dX8_ranksIf_55 : decode cX8_ranksIf 55 = .ok (.istore 7, 2) := by decide +kernel
theorem dX8_ranksIf_57 : decode cX8_ranksIf 57 = .ok (.iload 7, 2) := by decide +kernel
theorem dX8_ranksIf_59 : decode cX8_ranksIf 59 = .ok (.iconst (-1), 1) := by decide +kernel
theorem dX8_ranksIf_60 : decode cX8_ranksIf 60 = .ok (.if_icmp .eq 23, 3) := by decide +kernel
theorem dX8_ranksIf_63 : decode cX8_ranksIf 63 = .ok (.iload 4, 2) := by decide +kernel
theorem dX8_ranksIf_65 : decode cX8_ranksIf 65 = .ok (.aload_n 0, 1) := by decide +kernel
theorem dX8_ranksIf_66 : decode cX8_ranksIf 66 = .ok (.getfield 31, 3) := by decide +kernel
theorem dX8_ranksIf_69 : decode cX8_ranksIf 69 = .ok (.getfield 85, 3) := by decide +kernel
theorem dX8_ranksIf_72 : decode cX8_ranksIf 72 = .ok (.iload 5, 2) := by decide +kernel
theorem dX8_ranksIf_74 : decode cX8_ranksIf 74 = .ok (.iconst 4, 1) := by decide +kernel
theorem dX8_ranksIf_75 : decode cX8_ranksIf 75 = .ok (.imul, 1) := by decide +kernel
theorem dX8_ranksIf_76 : decode cX8_ranksIf 76 = .ok (.iload 7, 2) := by decide +kernel
theorem dX8_ranksIf_78 : decode cX8_ranksIf 78 = .ok (.iadd, 1) := by decide +kernel
theorem dX8_ranksIf_79 : decode cX8_ranksIf 79 = .ok (.iaload, 1) := by decide +kernel
theorem dX8_ranksIf_80 : decode cX8_ranksIf 80 = .ok (.iand, 1) := by decide +kernel
theorem dX8_ranksIf_81 : decode cX8_ranksIf 81 = .ok (.istore 4, 2) := by decide +kernel
theorem dX8_ranksIf_83 : decode cX8_ranksIf 83 = .ok (.iinc 5 1, 3) := by decide +kernel
theorem dX8_ranksIf_86 : decode cX8_ranksIf 86 = .ok (.goto (-74), 3) := by decide +kernel
theorem dX8_ranksIf_89 : decode cX8_ranksIf 89 = .ok (.iload 4, 2) := by decide +kernel
theorem dX8_ranksIf_91 : decode cX8_ranksIf 91 = .ok (.ireturn, 1) := by decide +kernel
theorem dX8_allow_0 : decode cX8_allow 0 = .ok (.iconst 0, 1) := by decide +kernel
theorem dX8_allow_1 : decode cX8_allow 1 = .ok (.istore_n 3, 1) := by decide +kernel
theorem dX8_allow_2 : decode cX8_allow 2 = .ok (.iload_n 3, 1) := by decide +kernel
theorem dX8_allow_3 : decode cX8_allow 3 = .ok (.aload_n 0, 1) := by decide +kernel
theorem dX8_allow_4 : decode cX8_allow 4 = .ok (.getfield 27, 3) := by decide +kernel
theorem dX8_allow_7 : decode cX8_allow 7 = .ok (.getfield 88, 3) := by decide +kernel
theorem dX8_allow_10 : decode cX8_allow 10 = .ok (.if_icmp .ge 22, 3) := by decide +kernel
theorem dX8_allow_13 : decode cX8_allow 13 = .ok (.aload_n 0, 1) := by decide +kernel
theorem dX8_allow_14 : decode cX8_allow 14 = .ok (.getfield 24, 3) := by decide +kernel
theorem dX8_allow_17 : decode cX8_allow 17 = .ok (.iload_n 3, 1) := by decide +kernel
theorem dX8_allow_18 : decode cX8_allow 18 = .ok (.aload_n 0, 1) := by decide +kernel
theorem dX8_allow_19 : decode cX8_allow 19 = .ok (.iload_n 3, 1) := by decide +kernel
theorem dX8_allow_20 : decode cX8_allow 20 = .ok (.iload_n 1, 1) := by decide +kernel
theorem dX8_allow_21 : decode cX8_allow 21 = .ok (.iload_n 2, 1) := by decide +kernel
theorem dX8_allow_22 : decode cX8_allow 22 = .ok (.invokevirtual 73, 3) := by decide +kernel
theorem dX8_allow_25 : decode cX8_allow 25 = .ok (.iastore, 1) := by decide +kernel
theorem dX8_allow_26 : decode cX8_allow 26 = .ok (.iinc 3 1, 3) := by decide +kernel
theorem dX8_allow_29 : decode cX8_allow 29 = .ok (.goto (-27), 3) := by decide +kernel
theorem dX8_allow_32 : decode cX8_allow 32 = .ok (.return_, 1) := by decide +kernel
theorem dX8_rankAtLevel_0 : decode cX8_rankAtLevel 0 = .ok (.aload_n 0, 1) := by decide +kernel
theorem dX8_rankAtLevel_1 : decode cX8_rankAtLevel 1 = .ok (.aload_n 0, 1) := by decide +kernel
theorem dX8_rankAtLevel_2 : decode cX8_rankAtLevel 2 = .ok (.getfield 9, 3) := by decide +kernel
theorem dX8_rankAtLevel_5 : decode cX8_rankAtLevel 5 = .ok (.iload_n 1, 1) := by decide +kernel
theorem dX8_rankAtLevel_6 : decode cX8_rankAtLevel 6 = .ok (.iaload, 1) := by decide +kernel
theorem dX8_rankAtLevel_7 : decode cX8_rankAtLevel 7 = .ok (.invokevirtual 91, 3) := by decide +kernel
theorem dX8_rankAtLevel_10 : decode cX8_rankAtLevel 10 = .ok (.invokestatic 94, 3) := by decide +kernel
theorem dX8_rankAtLevel_13 : decode cX8_rankAtLevel 13 = .ok (.ireturn, 1) := by decide +kernel
theorem dX8_prefix_0 : decode cX8_prefix 0 = .ok (.iconst 0, 1) := by decide +kernel
theorem dX8_prefix_1 : decode cX8_prefix 1 = .ok (.istore_n 1, 1) := by decide +kernel
theorem dX8_prefix_2 : decode cX8_prefix 2 = .ok (.aload_n 0, 1) := by decide +kernel
theorem dX8_prefix_3 : decode cX8_prefix 3 = .ok (.invokevirtual 69, 3) := by decide +kernel
theorem dX8_prefix_6 : decode cX8_prefix 6 = .ok (.istore_n 2, 1) := by decide +kernel
theorem dX8_prefix_7 : decode cX8_prefix 7 = .ok (.iconst 0, 1) := by decide +kernel
theorem dX8_prefix_8 : decode cX8_prefix 8 = .ok (.istore_n 3, 1) := by decide +kernel
theorem dX8_prefix_9 : decode cX8_prefix 9 = .ok (.iload_n 3, 1) := by decide +kernel
theorem dX8_prefix_10 : decode cX8_prefix 10 = .ok (.iload_n 2, 1) := by decide +kernel
theorem dX8_prefix_11 : decode cX8_prefix 11 = .ok (.if_icmp .ge 25, 3) := by decide +kernel
theorem dX8_prefix_14 : decode cX8_prefix 14 = .ok (.iload_n 1, 1) := by decide +kernel
theorem dX8_prefix_15 : decode cX8_prefix 15 = .ok (.aload_n 0, 1) := by decide +kernel
theorem dX8_prefix_16 : decode cX8_prefix 16 = .ok (.getfield 31, 3) := by decide +kernel
theorem dX8_prefix_19 : decode cX8_prefix 19 = .ok (.getfield 97, 3) := by decide +kernel
theorem dX8_prefix_22 : decode cX8_prefix 22 = .ok (.imul, 1) := by decide +kernel
theorem dX8_prefix_23 : decode cX8_prefix 23 = .ok (.aload_n 0, 1) := by decide +kernel
theorem dX8_prefix_24 : decode cX8_prefix 24 = .ok (.iload_n 3, 1) := by decide +kernel
theorem dX8_prefix_25 : decode cX8_prefix 25 = .ok (.invokevirtual 100, 3) := by decide +kernel
theorem dX8_prefix_28 : decode cX8_prefix 28 = .ok (.iadd, 1) := by decide +kernel
theorem dX8_prefix_29 : decode cX8_prefix 29 = .ok (.istore_n 1, 1) := by decide +kernel
theorem dX8_prefix_30 : decode cX8_prefix 30 = .ok (.iinc 3 1, 3) := by decide +kernel
theorem dX8_prefix_33 : decode cX8_prefix 33 = .ok (.goto (-24), 3) := by decide +kernel
theorem dX8_prefix_36 : decode cX8_prefix 36 = .ok (.iload_n 1, 1) := by decide +kernel
theorem dX8_prefix_37 : decode cX8_prefix 37 = .ok (.ireturn, 1) := by decide +kernel
theorem dX8_reason_0 : decode cX8_reason 0 = .ok (.aload_n 0, 1) := by decide +kernel
theorem dX8_reason_1 : decode cX8_reason 1 = .ok (.getfield 47, 3) := by decide +kernel
theorem dX8_reason_4 : decode cX8_reason 4 = .ok (.ifCond .ne 5, 3) := by decide +kernel
theorem dX8_reason_7 : decode cX8_reason 7 = .ok (.iconst (-1), 1) := by decide +kernel
theorem dX8_reason_8 : decode cX8_reason 8 = .ok (.ireturn, 1) := by decide +kernel
theorem dX8_reason_9 : decode cX8_reason 9 = .ok (.aload_n 0, 1) := by decide +kernel
theorem dX8_reason_10 : decode cX8_reason 10 = .ok (.invokevirtual 103, 3) := by decide +kernel
theorem dX8_reason_13 : decode cX8_reason 13 = .ok (.istore_n 2, 1) := by decide +kernel
theorem dX8_reason_14 : decode cX8_reason 14 = .ok (.aload_n 0, 1) := by decide +kernel
theorem dX8_reason_15 : decode cX8_reason 15 = .ok (.getfield 18, 3) := by decide +kernel
theorem dX8_reason_18 : decode cX8_reason 18 = .ok (.iload_n 2, 1) := by decide +kernel
theorem dX8_reason_19 : decode cX8_reason 19 = .ok (.iaload, 1) := by decide +kernel
theorem dX8_reason_20 : decode cX8_reason 20 = .ok (.istore_n 3, 1) := by decide +kernel
theorem dX8_reason_21 : decode cX8_reason 21 = .ok (.iload_n 3, 1) := by decide +kernel
theorem dX8_reason_22 : decode cX8_reason 22 = .ok (.iload_n 1, 1) := by decide +kernel
theorem dX8_reason_23 : decode cX8_reason 23 = .ok (.if_icmp .ne 5, 3) := by decide +kernel
theorem dX8_reason_26 : decode cX8_reason 26 = .ok (.iconst 0, 1) := by decide +kernel
theorem dX8_reason_27 : decode cX8_reason 27 = .ok (.ireturn, 1) := by decide +kernel
theorem dX8_reason_28 : decode cX8_reason 28 = .ok (.iconst 0, 1) := by decide +kernel
theorem dX8_reason_29 : decode cX8_reason 29 = .ok (.istore 4, 2) := by decide +kernel
theorem dX8_reason_31 : decode cX8_reason 31 = .ok (.iload 4, 2) := by decide +kernel
theorem dX8_reason_33 : decode cX8_reason 33 = .ok (.aload_n 0, 1) := by decide +kernel
theorem dX8_reason_34 : decode cX8_reason 34 = .ok (.getfield 27, 3) := by decide +kernel
theorem dX8_reason_37 : decode cX8_reason 37 = .ok (.getfield 77, 3) := by decide +kernel
theorem dX8_reason_40 : decode cX8_reason 40 = .ok (.if_icmp .ge 36, 3) := by decide +kernel
theorem dX8_reason_43 : decode cX8_reason 43 = .ok (.aload_n 0, 1) := by decide +kernel
theorem dX8_reason_44 : decode cX8_reason 44 = .ok (.getfield 15, 3) := by decide +kernel
theorem dX8_reason_47 : decode cX8_reason 47 = .ok (.iload 4, 2) := by decide +kernel
theorem dX8_reason_49 : decode cX8_reason 49 = .ok (.iaload, 1) := by decide +kernel
theorem dX8_reason_50 : decode cX8_reason 50 = .ok (.iload_n 3, 1) := by decide +kernel
theorem dX8_reason_51 : decode cX8_reason 51 = .ok (.if_icmp .ne 5, 3) := by decide +kernel
theorem dX8_reason_54 : decode cX8_reason 54 = .ok (.iconst 3, 1) := by decide +kernel
theorem dX8_reason_55 : decode cX8_reason 55 = .ok (.ireturn, 1) := by decide +kernel
theorem dX8_reason_56 : decode cX8_reason 56 = .ok (.aload_n 0, 1) := by decide +kernel
theorem dX8_reason_57 : decode cX8_reason 57 = .ok (.getfield 15, 3) := by decide +kernel
theorem dX8_reason_60 : decode cX8_reason 60 = .ok (.iload 4, 2) := by decide +kernel
theorem dX8_reason_62 : decode cX8_reason 62 = .ok (.iaload, 1) := by decide +kernel
theorem dX8_reason_63 : decode cX8_reason 63 = .ok (.iload_n 1, 1) := by decide +kernel
theorem dX8_reason_64 : decode cX8_reason 64 = .ok (.if_icmp .ne 6, 3) := by decide +kernel
theorem dX8_reason_67 : decode cX8_reason 67 = .ok (.goto 9, 3) := by decide +kernel
theorem dX8_reason_70 : decode cX8_reason 70 = .ok (.iinc 4 1, 3) := by decide +kernel
theorem dX8_reason_73 : decode cX8_reason 73 = .ok (.goto (-42), 3) := by decide +kernel
theorem dX8_reason_76 : decode cX8_reason 76 = .ok (.aload_n 0, 1) := by decide +kernel
theorem dX8_reason_77 : decode cX8_reason 77 = .ok (.getfield 27, 3) := by decide +kernel
theorem dX8_reason_80 : decode cX8_reason 80 = .ok (.iload_n 2, 1) := by decide +kernel
theorem dX8_reason_81 : decode cX8_reason 81 = .ok (.invokevirtual 57, 3) := by decide +kernel
theorem dX8_reason_84 : decode cX8_reason 84 = .ok (.aload_n 0, 1) := by decide +kernel
theorem dX8_reason_85 : decode cX8_reason 85 = .ok (.getfield 27, 3) := by decide +kernel
theorem dX8_reason_88 : decode cX8_reason 88 = .ok (.getfield 77, 3) := by decide +kernel
theorem dX8_reason_91 : decode cX8_reason 91 = .ok (.imul, 1) := by decide +kernel
theorem dX8_reason_92 : decode cX8_reason 92 = .ok (.istore 4, 2) := by decide +kernel
theorem dX8_reason_94 : decode cX8_reason 94 = .ok (.iconst 0, 1) := by decide +kernel
theorem dX8_reason_95 : decode cX8_reason 95 = .ok (.istore 5, 2) := by decide +kernel
theorem dX8_reason_97 : decode cX8_reason 97 = .ok (.iload 5, 2) := by decide +kernel
theorem dX8_reason_99 : decode cX8_reason 99 = .ok (.aload_n 0, 1) := by decide +kernel
theorem dX8_reason_100 : decode cX8_reason 100 = .ok (.getfield 27, 3) := by decide +kernel
theorem dX8_reason_103 : decode cX8_reason 103 = .ok (.getfield 77, 3) := by decide +kernel
theorem dX8_reason_106 : decode cX8_reason 106 = .ok (.if_icmp .ge 25, 3) := by decide +kernel
theorem dX8_reason_109 : decode cX8_reason 109 = .ok (.aload_n 0, 1) := by decide +kernel
theorem dX8_reason_110 : decode cX8_reason 110 = .ok (.getfield 18, 3) := by decide +kernel
theorem dX8_reason_113 : decode cX8_reason 113 = .ok (.iload 4, 2) := by decide +kernel
theorem dX8_reason_115 : decode cX8_reason 115 = .ok (.iload 5, 2) := by decide +kernel
theorem dX8_reason_117 : decode cX8_reason 117 = .ok (.iadd, 1) := by decide +kernel
theorem dX8_reason_118 : decode cX8_reason 118 = .ok (.iaload, 1) := by decide +kernel
theorem dX8_reason_119 : decode cX8_reason 119 = .ok (.iload_n 1, 1) := by decide +kernel
theorem dX8_reason_120 : decode cX8_reason 120 = .ok (.if_icmp .ne 5, 3) := by decide +kernel
theorem dX8_reason_123 : decode cX8_reason 123 = .ok (.iconst 1, 1) := by decide +kernel
theorem dX8_reason_124 : decode cX8_reason 124 = .ok (.ireturn, 1) := by decide +kernel
theorem dX8_reason_125 : decode cX8_reason 125 = .ok (.iinc 5 1, 3) := by decide +kernel
theorem dX8_reason_128 : decode cX8_reason 128 = .ok (.goto (-31), 3) := by decide +kernel
theorem dX8_reason_131 : decode cX8_reason 131 = .ok (.iconst 2, 1) := by decide +kernel
theorem dX8_reason_132 : decode cX8_reason 132 = .ok (.ireturn, 1) := by decide +kernel
theorem dX8_rowsLeft_0 : decode cX8_rowsLeft 0 = .ok (.lconst 1, 1) := by decide +kernel
theorem dX8_rowsLeft_1 : decode cX8_rowsLeft 1 = .ok (.lstore_n 2, 1) := by decide +kernel
theorem dX8_rowsLeft_2 : decode cX8_rowsLeft 2 = .ok (.aload_n 0, 1) := by decide +kernel
theorem dX8_rowsLeft_3 : decode cX8_rowsLeft 3 = .ok (.invokevirtual 69, 3) := by decide +kernel
theorem dX8_rowsLeft_6 : decode cX8_rowsLeft 6 = .ok (.istore 4, 2) := by decide +kernel
theorem dX8_rowsLeft_8 : decode cX8_rowsLeft 8 = .ok (.iload 4, 2) := by decide +kernel
theorem dX8_rowsLeft_10 : decode cX8_rowsLeft 10 = .ok (.istore 5, 2) := by decide +kernel
theorem dX8_rowsLeft_12 : decode cX8_rowsLeft 12 = .ok (.iload 5, 2) := by decide +kernel
theorem dX8_rowsLeft_14 : decode cX8_rowsLeft 14 = .ok (.aload_n 0, 1) := by decide +kernel
theorem dX8_rowsLeft_15 : decode cX8_rowsLeft 15 = .ok (.getfield 27, 3) := by decide +kernel
theorem dX8_rowsLeft_18 : decode cX8_rowsLeft 18 = .ok (.getfield 88, 3) := by decide +kernel
theorem dX8_rowsLeft_21 : decode cX8_rowsLeft 21 = .ok (.if_icmp .ge 48, 3) := by decide +kernel
theorem dX8_rowsLeft_24 : decode cX8_rowsLeft 24 = .ok (.iload 5, 2) := by decide +kernel
theorem dX8_rowsLeft_26 : decode cX8_rowsLeft 26 = .ok (.iload 4, 2) := by decide +kernel
theorem dX8_rowsLeft_28 : decode cX8_rowsLeft 28 = .ok (.if_icmp .ne 18, 3) := by decide +kernel
theorem dX8_rowsLeft_31 : decode cX8_rowsLeft 31 = .ok (.aload_n 0, 1) := by decide +kernel
theorem dX8_rowsLeft_32 : decode cX8_rowsLeft 32 = .ok (.getfield 27, 3) := by decide +kernel
theorem dX8_rowsLeft_35 : decode cX8_rowsLeft 35 = .ok (.getfield 77, 3) := by decide +kernel
theorem dX8_rowsLeft_38 : decode cX8_rowsLeft 38 = .ok (.aload_n 0, 1) := by decide +kernel
theorem dX8_rowsLeft_39 : decode cX8_rowsLeft 39 = .ok (.invokevirtual 106, 3) := by decide +kernel
theorem dX8_rowsLeft_42 : decode cX8_rowsLeft 42 = .ok (.isub, 1) := by decide +kernel
theorem dX8_rowsLeft_43 : decode cX8_rowsLeft 43 = .ok (.goto 10, 3) := by decide +kernel
theorem dX8_rowsLeft_46 : decode cX8_rowsLeft 46 = .ok (.aload_n 0, 1) := by decide +kernel
theorem dX8_rowsLeft_47 : decode cX8_rowsLeft 47 = .ok (.getfield 27, 3) := by decide +kernel
theorem dX8_rowsLeft_50 : decode cX8_rowsLeft 50 = .ok (.getfield 77, 3) := by decide +kernel
theorem dX8_rowsLeft_53 : decode cX8_rowsLeft 53 = .ok (.istore 6, 2) := by decide +kernel
theorem dX8_rowsLeft_55 : decode cX8_rowsLeft 55 = .ok (.lload_n 2, 1) := by decide +kernel
theorem dX8_rowsLeft_56 : decode cX8_rowsLeft 56 = .ok (.aload_n 1, 1) := by decide +kernel
theorem dX8_rowsLeft_57 : decode cX8_rowsLeft 57 = .ok (.iload 6, 2) := by decide +kernel
theorem dX8_rowsLeft_59 : decode cX8_rowsLeft 59 = .ok (.iaload, 1) := by decide +kernel
theorem dX8_rowsLeft_60 : decode cX8_rowsLeft 60 = .ok (.i2l, 1) := by decide +kernel
theorem dX8_rowsLeft_61 : decode cX8_rowsLeft 61 = .ok (.lmul, 1) := by decide +kernel
theorem dX8_rowsLeft_62 : decode cX8_rowsLeft 62 = .ok (.lstore_n 2, 1) := by decide +kernel
theorem dX8_rowsLeft_63 : decode cX8_rowsLeft 63 = .ok (.iinc 5 1, 3) := by decide +kernel
theorem dX8_rowsLeft_66 : decode cX8_rowsLeft 66 = .ok (.goto (-54), 3) := by decide +kernel
theorem dX8_rowsLeft_69 : decode cX8_rowsLeft 69 = .ok (.lload_n 2, 1) := by decide +kernel
theorem dX8_rowsLeft_70 : decode cX8_rowsLeft 70 = .ok (.lreturn, 1) := by decide +kernel
theorem dX9_forget_0 : decode cX9_forget 0 = .ok (.aload_n 0, 1) := by decide +kernel
theorem dX9_forget_1 : decode cX9_forget 1 = .ok (.iconst (-1), 1) := by decide +kernel
theorem dX9_forget_2 : decode cX9_forget 2 = .ok (.putfield 18, 3) := by decide +kernel
theorem dX9_forget_5 : decode cX9_forget 5 = .ok (.aload_n 0, 1) := by decide +kernel
theorem dX9_forget_6 : decode cX9_forget 6 = .ok (.iconst 0, 1) := by decide +kernel
theorem dX9_forget_7 : decode cX9_forget 7 = .ok (.putfield 33, 3) := by decide +kernel
theorem dX9_forget_10 : decode cX9_forget 10 = .ok (.return_, 1) := by decide +kernel
theorem dX9_howManyParts_0 : decode cX9_howManyParts 0 = .ok (.aload_n 0, 1) := by decide +kernel
theorem dX9_howManyParts_1 : decode cX9_howManyParts 1 = .ok (.invokevirtual 37, 3) := by decide +kernel
theorem dX9_howManyParts_4 : decode cX9_howManyParts 4 = .ok (.aload_n 0, 1) := by decide +kernel
theorem dX9_howManyParts_5 : decode cX9_howManyParts 5 = .ok (.getfield 40, 3) := by decide +kernel
theorem dX9_howManyParts_8 : decode cX9_howManyParts 8 = .ok (.ireturn, 1) := by decide +kernel
theorem dX9_sizeOfFirstPart_0 : decode cX9_sizeOfFirstPart 0 = .ok (.aload_n 0, 1) := by decide +kernel
theorem dX9_sizeOfFirstPart_1 : decode cX9_sizeOfFirstPart 1 = .ok (.invokevirtual 37, 3) := by decide +kernel
theorem dX9_sizeOfFirstPart_4 : decode cX9_sizeOfFirstPart 4 = .ok (.aload_n 0, 1) := by decide +kernel
theorem dX9_sizeOfFirstPart_5 : decode cX9_sizeOfFirstPart 5 = .ok (.getfield 43, 3) := by decide +kernel
theorem dX9_sizeOfFirstPart_8 : decode cX9_sizeOfFirstPart 8 = .ok (.ireturn, 1) := by decide +kernel
theorem dX9_sizeOfGreatestPart_0 : decode cX9_sizeOfGreatestPart 0 = .ok (.aload_n 0, 1) := by decide +kernel
theorem dX9_sizeOfGreatestPart_1 : decode cX9_sizeOfGreatestPart 1 = .ok (.invokevirtual 37, 3) := by decide +kernel
theorem dX9_sizeOfGreatestPart_4 : decode cX9_sizeOfGreatestPart 4 = .ok (.aload_n 0, 1) := by decide +kernel
theorem dX9_sizeOfGreatestPart_5 : decode cX9_sizeOfGreatestPart 5 = .ok (.getfield 46, 3) := by decide +kernel
theorem dX9_sizeOfGreatestPart_8 : decode cX9_sizeOfGreatestPart 8 = .ok (.ireturn, 1) := by decide +kernel
theorem dX9_clearRows_0 : decode cX9_clearRows 0 = .ok (.aload_n 0, 1) := by decide +kernel
theorem dX9_clearRows_1 : decode cX9_clearRows 1 = .ok (.getfield 9, 3) := by decide +kernel
theorem dX9_clearRows_4 : decode cX9_clearRows 4 = .ok (.arraylength, 1) := by decide +kernel
theorem dX9_clearRows_5 : decode cX9_clearRows 5 = .ok (.aload_n 0, 1) := by decide +kernel
theorem dX9_clearRows_6 : decode cX9_clearRows 6 = .ok (.getfield 22, 3) := by decide +kernel
theorem dX9_clearRows_9 : decode cX9_clearRows 9 = .ok (.getfield 49, 3) := by decide +kernel
theorem dX9_clearRows_12 : decode cX9_clearRows 12 = .ok (.if_icmp .ge 29, 3) := by decide +kernel
theorem dX9_clearRows_15 : decode cX9_clearRows 15 = .ok (.aload_n 0, 1) := by decide +kernel
theorem dX9_clearRows_16 : decode cX9_clearRows 16 = .ok (.aload_n 0, 1) := by decide +kernel
theorem dX9_clearRows_17 : decode cX9_clearRows 17 = .ok (.getfield 22, 3) := by decide +kernel
theorem dX9_clearRows_20 : decode cX9_clearRows 20 = .ok (.getfield 49, 3) := by decide +kernel
theorem dX9_clearRows_23 : decode cX9_clearRows 23 = .ok (.newarray .int, 2) := by decide +kernel
theorem dX9_clearRows_25 : decode cX9_clearRows 25 = .ok (.putfield 9, 3) := by decide +kernel
theorem dX9_clearRows_28 : decode cX9_clearRows 28 = .ok (.aload_n 0, 1) := by decide +kernel
theorem dX9_clearRows_29 : decode cX9_clearRows 29 = .ok (.aload_n 0, 1) := by decide +kernel
theorem dX9_clearRows_30 : decode cX9_clearRows 30 = .ok (.getfield 22, 3) := by decide +kernel
theorem dX9_clearRows_33 : decode cX9_clearRows 33 = .ok (.getfield 49, 3) := by decide +kernel
theorem dX9_clearRows_36 : decode cX9_clearRows 36 = .ok (.newarray .int, 2) := by decide +kernel
theorem dX9_clearRows_38 : decode cX9_clearRows 38 = .ok (.putfield 15, 3) := by decide +kernel
theorem dX9_clearRows_41 : decode cX9_clearRows 41 = .ok (.aload_n 0, 1) := by decide +kernel
theorem dX9_clearRows_42 : decode cX9_clearRows 42 = .ok (.getfield 9, 3) := by decide +kernel
theorem dX9_clearRows_45 : decode cX9_clearRows 45 = .ok (.iconst 0, 1) := by decide +kernel
theorem dX9_clearRows_46 : decode cX9_clearRows 46 = .ok (.aload_n 0, 1) := by decide +kernel
theorem dX9_clearRows_47 : decode cX9_clearRows 47 = .ok (.getfield 22, 3) := by decide +kernel
theorem dX9_clearRows_50 : decode cX9_clearRows 50 = .ok (.getfield 49, 3) := by decide +kernel
theorem dX9_clearRows_53 : decode cX9_clearRows 53 = .ok (.iconst 0, 1) := by decide +kernel
theorem dX9_clearRows_54 : decode cX9_clearRows 54 = .ok (.invokestatic 52, 3) := by decide +kernel
theorem dX9_clearRows_57 : decode cX9_clearRows 57 = .ok (.aload_n 0, 1) := by decide +kernel
theorem dX9_clearRows_58 : decode cX9_clearRows 58 = .ok (.iconst (-1), 1) := by decide +kernel
theorem dX9_clearRows_59 : decode cX9_clearRows 59 = .ok (.putfield 18, 3) := by decide +kernel
theorem dX9_clearRows_62 : decode cX9_clearRows 62 = .ok (.return_, 1) := by decide +kernel
theorem dX9_findParts_0 : decode cX9_findParts 0 = .ok (.aload_n 0, 1) := by decide +kernel
theorem dX9_findParts_1 : decode cX9_findParts 1 = .ok (.getfield 33, 3) := by decide +kernel
theorem dX9_findParts_4 : decode cX9_findParts 4 = .ok (.ifCond .eq 4, 3) := by decide +kernel
theorem dX9_findParts_7 : decode cX9_findParts 7 = .ok (.return_, 1) := by decide +kernel
theorem dX9_findParts_8 : decode cX9_findParts 8 = .ok (.aload_n 0, 1) := by decide +kernel
theorem dX9_findParts_9 : decode cX9_findParts 9 = .ok (.invokevirtual 58, 3) := by decide +kernel
theorem dX9_findParts_12 : decode cX9_findParts 12 = .ok (.aload_n 0, 1) := by decide +kernel
theorem dX9_findParts_13 : decode cX9_findParts 13 = .ok (.iconst 0, 1) := by decide +kernel
theorem dX9_findParts_14 : decode cX9_findParts 14 = .ok (.putfield 40, 3) := by decide +kernel
theorem dX9_findParts_17 : decode cX9_findParts 17 = .ok (.aload_n 0, 1) := by decide +kernel
theorem dX9_findParts_18 : decode cX9_findParts 18 = .ok (.iconst 0, 1) := by decide +kernel
theorem dX9_findParts_19 : decode cX9_findParts 19 = .ok (.putfield 43, 3) := by decide +kernel
theorem dX9_findParts_22 : decode cX9_findParts 22 = .ok (.aload_n 0, 1) := by decide +kernel
theorem dX9_findParts_23 : decode cX9_findParts 23 = .ok (.iconst 0, 1) := by decide +kernel
theorem dX9_findParts_24 : decode cX9_findParts 24 = .ok (.putfield 46, 3) := by decide +kernel
theorem dX9_findParts_27 : decode cX9_findParts 27 = .ok (.aload_n 0, 1) := by decide +kernel
theorem dX9_findParts_28 : decode cX9_findParts 28 = .ok (.iconst 0, 1) := by decide +kernel
theorem dX9_findParts_29 : decode cX9_findParts 29 = .ok (.putfield 61, 3) := by decide +kernel
theorem dX9_findParts_32 : decode cX9_findParts 32 = .ok (.iconst 0, 1) := by decide +kernel
theorem dX9_findParts_33 : decode cX9_findParts 33 = .ok (.istore_n 1, 1) := by decide +kernel
theorem dX9_findParts_34 : decode cX9_findParts 34 = .ok (.iload_n 1, 1) := by decide +kernel
theorem dX9_findParts_35 : decode cX9_findParts 35 = .ok (.aload_n 0, 1) := by decide +kernel
theorem dX9_findParts_36 : decode cX9_findParts 36 = .ok (.getfield 22, 3) := by decide +kernel
theorem dX9_findParts_39 : decode cX9_findParts 39 = .ok (.getfield 64, 3) := by decide +kernel
theorem dX9_findParts_42 : decode cX9_findParts 42 = .ok (.if_icmp .ge 81, 3) := by decide +kernel
theorem dX9_findParts_45 : decode cX9_findParts 45 = .ok (.aload_n 0, 1) := by decide +kernel
theorem dX9_findParts_46 : decode cX9_findParts 46 = .ok (.getfield 9, 3) := by decide +kernel
theorem dX9_findParts_49 : decode cX9_findParts 49 = .ok (.aload_n 0, 1) := by decide +kernel
theorem dX9_findParts_50 : decode cX9_findParts 50 = .ok (.getfield 22, 3) := by decide +kernel
theorem dX9_findParts_53 : decode cX9_findParts 53 = .ok (.getfield 67, 3) := by decide +kernel
theorem dX9_findParts_56 : decode cX9_findParts 56 = .ok (.iload_n 1, 1) := by decide +kernel
theorem dX9_findParts_57 : decode cX9_findParts 57 = .ok (.iaload, 1) := by decide +kernel
theorem dX9_findParts_58 : decode cX9_findParts 58 = .ok (.iaload, 1) := by decide +kernel
theorem dX9_findParts_59 : decode cX9_findParts 59 = .ok (.ifCond .ne 58, 3) := by decide +kernel
theorem dX9_findParts_62 : decode cX9_findParts 62 = .ok (.aload_n 0, 1) := by decide +kernel
theorem dX9_findParts_63 : decode cX9_findParts 63 = .ok (.aload_n 0, 1) := by decide +kernel
theorem dX9_findParts_64 : decode cX9_findParts 64 = .ok (.getfield 22, 3) := by decide +kernel
theorem dX9_findParts_67 : decode cX9_findParts 67 = .ok (.getfield 67, 3) := by decide +kernel
theorem dX9_findParts_70 : decode cX9_findParts 70 = .ok (.iload_n 1, 1) := by decide +kernel
theorem dX9_findParts_71 : decode cX9_findParts 71 = .ok (.iaload, 1) := by decide +kernel
theorem dX9_findParts_72 : decode cX9_findParts 72 = .ok (.invokevirtual 70, 3) := by decide +kernel
theorem dX9_findParts_75 : decode cX9_findParts 75 = .ok (.istore_n 2, 1) := by decide +kernel
theorem dX9_findParts_76 : decode cX9_findParts 76 = .ok (.aload_n 0, 1) := by decide +kernel
theorem dX9_findParts_77 : decode cX9_findParts 77 = .ok (.aload_n 0, 1) := by decide +kernel
theorem dX9_findParts_78 : decode cX9_findParts 78 = .ok (.getfield 40, 3) := by decide +kernel
theorem dX9_findParts_81 : decode cX9_findParts 81 = .ok (.ifCond .ne 7, 3) := by decide +kernel
theorem dX9_findParts_84 : decode cX9_findParts 84 = .ok (.iload_n 2, 1) := by decide +kernel
theorem dX9_findParts_85 : decode cX9_findParts 85 = .ok (.goto 7, 3) := by decide +kernel
theorem dX9_findParts_88 : decode cX9_findParts 88 = .ok (.aload_n 0, 1) := by decide +kernel
theorem dX9_findParts_89 : decode cX9_findParts 89 = .ok (.getfield 43, 3) := by decide +kernel
theorem dX9_findParts_92 : decode cX9_findParts 92 = .ok (.putfield 43, 3) := by decide +kernel
theorem dX9_findParts_95 : decode cX9_findParts 95 = .ok (.aload_n 0, 1) := by decide +kernel
theorem dX9_findParts_96 : decode cX9_findParts 96 = .ok (.aload_n 0, 1) := by decide +kernel
theorem dX9_findParts_97 : decode cX9_findParts 97 = .ok (.getfield 46, 3) := by decide +kernel
theorem dX9_findParts_100 : decode cX9_findParts 100 = .ok (.iload_n 2, 1) := by decide +kernel
theorem dX9_findParts_101 : decode cX9_findParts 101 = .ok (.invokestatic 74, 3) := by decide +kernel
theorem dX9_findParts_104 : decode cX9_findParts 104 = .ok (.putfield 46, 3) := by decide +kernel
theorem dX9_findParts_107 : decode cX9_findParts 107 = .ok (.aload_n 0, 1) := by decide +kernel
theorem dX9_findParts_108 : decode cX9_findParts 108 = .ok (.dup, 1) := by decide +kernel
theorem dX9_findParts_109 : decode cX9_findParts 109 = .ok (.getfield 40, 3) := by decide +kernel
theorem dX9_findParts_112 : decode cX9_findParts 112 = .ok (.iconst 1, 1) := by decide +kernel
theorem dX9_findParts_113 : decode cX9_findParts 113 = .ok (.iadd, 1) := by decide +kernel
theorem dX9_findParts_114 : decode cX9_findParts 114 = .ok (.putfield 40, 3) := by decide +kernel
theorem dX9_findParts_117 : decode cX9_findParts 117 = .ok (.iinc 1 1, 3) := by decide +kernel
theorem dX9_findParts_120 : decode cX9_findParts 120 = .ok (.goto (-86), 3) := by decide +kernel
theorem dX9_findParts_123 : decode cX9_findParts 123 = .ok (.aload_n 0, 1) := by decide +kernel
theorem dX9_findParts_124 : decode cX9_findParts 124 = .ok (.iconst 1, 1) := by decide +kernel
theorem dX9_findParts_125 : decode cX9_findParts 125 = .ok (.putfield 33, 3) := by decide +kernel
theorem dX9_findParts_128 : decode cX9_findParts 128 = .ok (.return_, 1) := by decide +kernel
theorem dX9_sizeOfPart_0 : decode cX9_sizeOfPart 0 = .ok (.aload_n 0, 1) := by decide +kernel
theorem dX9_sizeOfPart_1 : decode cX9_sizeOfPart 1 = .ok (.getfield 61, 3) := by decide +kernel
theorem dX9_sizeOfPart_4 : decode cX9_sizeOfPart 4 = .ok (.istore_n 2, 1) := by decide +kernel
theorem dX9_sizeOfPart_5 : decode cX9_sizeOfPart 5 = .ok (.aload_n 0, 1) := by decide +kernel
theorem dX9_sizeOfPart_6 : decode cX9_sizeOfPart 6 = .ok (.iload_n 1, 1) := by decide +kernel
theorem dX9_sizeOfPart_7 : decode cX9_sizeOfPart 7 = .ok (.invokevirtual 80, 3) := by decide +kernel
theorem dX9_sizeOfPart_10 : decode cX9_sizeOfPart 10 = .ok (.iload_n 2, 1) := by decide +kernel
theorem dX9_sizeOfPart_11 : decode cX9_sizeOfPart 11 = .ok (.istore_n 3, 1) := by decide +kernel
theorem dX9_sizeOfPart_12 : decode cX9_sizeOfPart 12 = .ok (.iload_n 3, 1) := by decide +kernel
theorem dX9_sizeOfPart_13 : decode cX9_sizeOfPart 13 = .ok (.aload_n 0, 1) := by decide +kernel
theorem dX9_sizeOfPart_14 : decode cX9_sizeOfPart 14 = .ok (.getfield 61, 3) := by decide +kernel
theorem dX9_sizeOfPart_17 : decode cX9_sizeOfPart 17 = .ok (.if_icmp .ge 30, 3) := by decide +kernel
theorem dX9_sizeOfPart_20 : decode cX9_sizeOfPart 20 = .ok (.iload_n 3, 1) := by decide +kernel
theorem dX9_sizeOfPart_21 : decode cX9_sizeOfPart 21 = .ok (.aload_n 0, 1) := by decide +kernel
theorem dX9_sizeOfPart_22 : decode cX9_sizeOfPart 22 = .ok (.getfield 22, 3) := by decide +kernel
theorem dX9_sizeOfPart_25 : decode cX9_sizeOfPart 25 = .ok (.getfield 49, 3) := by decide +kernel
theorem dX9_sizeOfPart_28 : decode cX9_sizeOfPart 28 = .ok (.if_icmp .ge 19, 3) := by decide +kernel
theorem dX9_sizeOfPart_31 : decode cX9_sizeOfPart 31 = .ok (.aload_n 0, 1) := by decide +kernel
theorem dX9_sizeOfPart_32 : decode cX9_sizeOfPart 32 = .ok (.aload_n 0, 1) := by decide +kernel
theorem dX9_sizeOfPart_33 : decode cX9_sizeOfPart 33 = .ok (.getfield 15, 3) := by decide +kernel
theorem dX9_sizeOfPart_36 : decode cX9_sizeOfPart 36 = .ok (.iload_n 3, 1) := by decide +kernel
theorem dX9_sizeOfPart_37 : decode cX9_sizeOfPart 37 = .ok (.iaload, 1) := by decide +kernel
theorem dX9_sizeOfPart_38 : decode cX9_sizeOfPart 38 = .ok (.invokevirtual 84, 3) := by decide +kernel
theorem dX9_sizeOfPart_41 : decode cX9_sizeOfPart 41 = .ok (.iinc 3 1, 3) := by decide +kernel
theorem dX9_sizeOfPart_44 : decode cX9_sizeOfPart 44 = .ok (.goto (-32), 3) := by decide +kernel
theorem dX9_sizeOfPart_47 : decode cX9_sizeOfPart 47 = .ok (.aload_n 0, 1) := by decide +kernel
theorem dX9_sizeOfPart_48 : decode cX9_sizeOfPart 48 = .ok (.getfield 61, 3) := by decide +kernel
theorem dX9_sizeOfPart_51 : decode cX9_sizeOfPart 51 = .ok (.iload_n 2, 1) := by decide +kernel
theorem dX9_sizeOfPart_52 : decode cX9_sizeOfPart 52 = .ok (.isub, 1) := by decide +kernel
theorem dX9_sizeOfPart_53 : decode cX9_sizeOfPart 53 = .ok (.ireturn, 1) := by decide +kernel
theorem dX9_meet_0 : decode cX9_meet 0 = .ok (.aload_n 0, 1) := by decide +kernel
theorem dX9_meet_1 : decode cX9_meet 1 = .ok (.getfield 9, 3) := by decide +kernel
theorem dX9_meet_4 : decode cX9_meet 4 = .ok (.iload_n 1, 1) := by decide +kernel
theorem dX9_meet_5 : decode cX9_meet 5 = .ok (.iaload, 1) := by decide +kernel
theorem dX9_meet_6 : decode cX9_meet 6 = .ok (.ifCond .ne 42, 3) := by decide +kernel
theorem dX9_meet_9 : decode cX9_meet 9 = .ok (.aload_n 0, 1) := by decide +kernel
theorem dX9_meet_10 : decode cX9_meet 10 = .ok (.getfield 61, 3) := by decide +kernel
theorem dX9_meet_13 : decode cX9_meet 13 = .ok (.aload_n 0, 1) := by decide +kernel
theorem dX9_meet_14 : decode cX9_meet 14 = .ok (.getfield 15, 3) := by decide +kernel
theorem dX9_meet_17 : decode cX9_meet 17 = .ok (.arraylength, 1) := by decide +kernel
theorem dX9_meet_18 : decode cX9_meet 18 = .ok (.if_icmp .ge 30, 3) := by decide +kernel
theorem dX9_meet_21 : decode cX9_meet 21 = .ok (.aload_n 0, 1) := by decide +kernel
theorem dX9_meet_22 : decode cX9_meet 22 = .ok (.getfield 9, 3) := by decide +kernel
theorem dX9_meet_25 : decode cX9_meet 25 = .ok (.iload_n 1, 1) := by decide +kernel
theorem dX9_meet_26 : decode cX9_meet 26 = .ok (.iconst 1, 1) := by decide +kernel
theorem dX9_meet_27 : decode cX9_meet 27 = .ok (.iastore, 1) := by decide +kernel
theorem dX9_meet_28 : decode cX9_meet 28 = .ok (.aload_n 0, 1) := by decide +kernel
theorem dX9_meet_29 : decode cX9_meet 29 = .ok (.getfield 15, 3) := by decide +kernel
theorem dX9_meet_32 : decode cX9_meet 32 = .ok (.aload_n 0, 1) := by decide +kernel
theorem dX9_meet_33 : decode cX9_meet 33 = .ok (.getfield 61, 3) := by decide +kernel
theorem dX9_meet_36 : decode cX9_meet 36 = .ok (.iload_n 1, 1) := by decide +kernel
theorem dX9_meet_37 : decode cX9_meet 37 = .ok (.iastore, 1) := by decide +kernel
theorem dX9_meet_38 : decode cX9_meet 38 = .ok (.aload_n 0, 1) := by decide +kernel
theorem dX9_meet_39 : decode cX9_meet 39 = .ok (.dup, 1) := by decide +kernel
theorem dX9_meet_40 : decode cX9_meet 40 = .ok (.getfield 61, 3) := by decide +kernel
theorem dX9_meet_43 : decode cX9_meet 43 = .ok (.iconst 1, 1) := by decide +kernel
theorem dX9_meet_44 : decode cX9_meet 44 = .ok (.iadd, 1) := by decide +kernel
theorem dX9_meet_45 : decode cX9_meet 45 = .ok (.putfield 61, 3) := by decide +kernel
theorem dX9_meet_48 : decode cX9_meet 48 = .ok (.return_, 1) := by decide +kernel
theorem dX9_meetSwapped_0 : decode cX9_meetSwapped 0 = .ok (.iconst 0, 1) := by decide +kernel
theorem dX9_meetSwapped_1 : decode cX9_meetSwapped 1 = .ok (.istore_n 2, 1) := by decide +kernel
theorem dX9_meetSwapped_2 : decode cX9_meetSwapped 2 = .ok (.iload_n 2, 1) := by decide +kernel
theorem dX9_meetSwapped_3 : decode cX9_meetSwapped 3 = .ok (.aload_n 0, 1) := by decide +kernel
theorem dX9_meetSwapped_4 : decode cX9_meetSwapped 4 = .ok (.getfield 22, 3) := by decide +kernel
theorem dX9_meetSwapped_7 : decode cX9_meetSwapped 7 = .ok (.getfield 87, 3) := by decide +kernel
theorem dX9_meetSwapped_10 : decode cX9_meetSwapped 10 = .ok (.getfield 91, 3) := by decide +kernel
theorem dX9_meetSwapped_13 : decode cX9_meetSwapped 13 = .ok (.if_icmp .ge 101, 3) := by decide +kernel
theorem dX9_meetSwapped_16 : decode cX9_meetSwapped 16 = .ok (.aload_n 0, 1) := by decide +kernel
theorem dX9_meetSwapped_17 : decode cX9_meetSwapped 17 = .ok (.getfield 22, 3) := by decide +kernel
theorem dX9_meetSwapped_20 : decode cX9_meetSwapped 20 = .ok (.getfield 96, 3) := by decide +kernel
theorem dX9_meetSwapped_23 : decode cX9_meetSwapped 23 = .ok (.iload_n 2, 1) := by decide +kernel
theorem dX9_meetSwapped_24 : decode cX9_meetSwapped 24 = .ok (.iaload, 1) := by decide +kernel
theorem dX9_meetSwapped_25 : decode cX9_meetSwapped 25 = .ok (.istore_n 3, 1) := by decide +kernel
theorem dX9_meetSwapped_26 : decode cX9_meetSwapped 26 = .ok (.aload_n 0, 1) := by decide +kernel
theorem dX9_meetSwapped_27 : decode cX9_meetSwapped 27 = .ok (.getfield 22, 3) := by decide +kernel
theorem dX9_meetSwapped_30 : decode cX9_meetSwapped 30 = .ok (.iload_n 1, 1) := by decide +kernel
theorem dX9_meetSwapped_31 : decode cX9_meetSwapped 31 = .ok (.iload_n 2, 1) := by decide +kernel
theorem dX9_meetSwapped_32 : decode cX9_meetSwapped 32 = .ok (.invokevirtual 99, 3) := by decide +kernel
theorem dX9_meetSwapped_35 : decode cX9_meetSwapped 35 = .ok (.istore 4, 2) := by decide +kernel
theorem dX9_meetSwapped_37 : decode cX9_meetSwapped 37 = .ok (.iload_n 1, 1) := by decide +kernel
theorem dX9_meetSwapped_38 : decode cX9_meetSwapped 38 = .ok (.iload 4, 2) := by decide +kernel
theorem dX9_meetSwapped_40 : decode cX9_meetSwapped 40 = .ok (.iload_n 3, 1) := by decide +kernel
theorem dX9_meetSwapped_41 : decode cX9_meetSwapped 41 = .ok (.imul, 1) := by decide +kernel
theorem dX9_meetSwapped_42 : decode cX9_meetSwapped 42 = .ok (.isub, 1) := by decide +kernel
theorem dX9_meetSwapped_43 : decode cX9_meetSwapped 43 = .ok (.istore 5, 2) := by decide +kernel
theorem dX9_meetSwapped_45 : decode cX9_meetSwapped 45 = .ok (.iconst 0, 1) := by decide +kernel
theorem dX9_meetSwapped_46 : decode cX9_meetSwapped 46 = .ok (.istore 6, 2) := by decide +kernel
theorem dX9_meetSwapped_48 : decode cX9_meetSwapped 48 = .ok (.iload 6, 2) := by decide +kernel
theorem dX9_meetSwapped_50 : decode cX9_meetSwapped 50 = .ok (.aload_n 0, 1) := by decide +kernel
theorem dX9_meetSwapped_51 : decode cX9_meetSwapped 51 = .ok (.getfield 32, 3) := by decide +kernel
theorem dX9_meetSwapped_54 : decode cX9_meetSwapped 54 = .ok (.getfield 102, 3) := by decide +kernel
theorem dX9_meetSwapped_57 : decode cX9_meetSwapped 57 = .ok (.if_icmp .ge 51, 3) := by decide +kernel
theorem dX9_meetSwapped_60 : decode cX9_meetSwapped 60 = .ok (.iload 5, 2) := by decide +kernel
theorem dX9_meetSwapped_62 : decode cX9_meetSwapped 62 = .ok (.aload_n 0, 1) := by decide +kernel
theorem dX9_meetSwapped_63 : decode cX9_meetSwapped 63 = .ok (.getfield 32, 3) := by decide +kernel
theorem dX9_meetSwapped_66 : decode cX9_meetSwapped 66 = .ok (.getfield 107, 3) := by decide +kernel
theorem dX9_meetSwapped_69 : decode cX9_meetSwapped 69 = .ok (.iload 4, 2) := by decide +kernel
theorem dX9_meetSwapped_71 : decode cX9_meetSwapped 71 = .ok (.bipush 6, 2) := by decide +kernel
theorem dX9_meetSwapped_73 : decode cX9_meetSwapped 73 = .ok (.imul, 1) := by decide +kernel
theorem dX9_meetSwapped_74 : decode cX9_meetSwapped 74 = .ok (.iload 6, 2) := by decide +kernel
theorem dX9_meetSwapped_76 : decode cX9_meetSwapped 76 = .ok (.iadd, 1) := by decide +kernel
theorem dX9_meetSwapped_77 : decode cX9_meetSwapped 77 = .ok (.iaload, 1) := by decide +kernel
theorem dX9_meetSwapped_78 : decode cX9_meetSwapped 78 = .ok (.iload_n 3, 1) := by decide +kernel
theorem dX9_meetSwapped_79 : decode cX9_meetSwapped 79 = .ok (.imul, 1) := by decide +kernel
theorem dX9_meetSwapped_80 : decode cX9_meetSwapped 80 = .ok (.iadd, 1) := by decide +kernel
theorem dX9_meetSwapped_81 : decode cX9_meetSwapped 81 = .ok (.istore 7, 2) := by decide +kernel
theorem dX9_meetSwapped_83 : decode cX9_meetSwapped 83 = .ok (.aload_n 0, 1) := by decide +kernel
theorem dX9_meetSwapped_84 : decode cX9_meetSwapped 84 = .ok (.getfield 22, 3) := by decide +kernel
theorem dX9_meetSwapped_87 : decode cX9_meetSwapped 87 = .ok (.getfield 110, 3) := by decide +kernel
theorem dX9_meetSwapped_90 : decode cX9_meetSwapped 90 = .ok (.iload 7, 2) := by decide +kernel
theorem dX9_meetSwapped_92 : decode cX9_meetSwapped 92 = .ok (.iaload, 1) := by decide +kernel
theorem dX9_meetSwapped_93 : decode cX9_meetSwapped 93 = .ok (.ifCond .ne 9, 3) := by decide +kernel
theorem dX9_meetSwapped_96 : decode cX9_meetSwapped 96 = .ok (.aload_n 0, 1) := by decide +kernel
theorem dX9_meetSwapped_97 : decode cX9_meetSwapped 97 = .ok (.iload 7, 2) := by decide +kernel
theorem dX9_meetSwapped_99 : decode cX9_meetSwapped 99 = .ok (.invokevirtual 80, 3) := by decide +kernel
theorem dX9_meetSwapped_102 : decode cX9_meetSwapped 102 = .ok (.iinc 6 1, 3) := by decide +kernel
theorem dX9_meetSwapped_105 : decode cX9_meetSwapped 105 = .ok (.goto (-57), 3) := by decide +kernel
theorem dX9_meetSwapped_108 : decode cX9_meetSwapped 108 = .ok (.iinc 2 1, 3) := by decide +kernel
theorem dX9_meetSwapped_111 : decode cX9_meetSwapped 111 = .ok (.goto (-109), 3) := by decide +kernel
theorem dX9_meetSwapped_114 : decode cX9_meetSwapped 114 = .ok (.return_, 1) := by decide +kernel
theorem dX9_rowsTo_0 : decode cX9_rowsTo 0 = .ok (.aload_n 0, 1) := by decide +kernel
theorem dX9_rowsTo_1 : decode cX9_rowsTo 1 = .ok (.iload_n 1, 1) := by decide +kernel
theorem dX9_rowsTo_2 : decode cX9_rowsTo 2 = .ok (.invokevirtual 113, 3) := by decide +kernel
theorem dX9_rowsTo_5 : decode cX9_rowsTo 5 = .ok (.aload_n 0, 1) := by decide +kernel
theorem dX9_rowsTo_6 : decode cX9_rowsTo 6 = .ok (.getfield 9, 3) := by decide +kernel
theorem dX9_rowsTo_9 : decode cX9_rowsTo 9 = .ok (.iload_n 2, 1) := by decide +kernel
theorem dX9_rowsTo_10 : decode cX9_rowsTo 10 = .ok (.iaload, 1) := by decide +kernel
theorem dX9_rowsTo_11 : decode cX9_rowsTo 11 = .ok (.ireturn, 1) := by decide +kernel
theorem dX9_allRows_0 : decode cX9_allRows 0 = .ok (.aload_n 0, 1) := by decide +kernel
theorem dX9_allRows_1 : decode cX9_allRows 1 = .ok (.getfield 22, 3) := by decide +kernel
theorem dX9_allRows_4 : decode cX9_allRows 4 = .ok (.getfield 87, 3) := by decide +kernel
theorem dX9_allRows_7 : decode cX9_allRows 7 = .ok (.getfield 91, 3) := by decide +kernel
theorem dX9_allRows_10 : decode cX9_allRows 10 = .ok (.aload_n 0, 1) := by decide +kernel
theorem dX9_allRows_11 : decode cX9_allRows 11 = .ok (.getfield 32, 3) := by decide +kernel
theorem dX9_allRows_14 : decode cX9_allRows 14 = .ok (.getfield 102, 3) := by decide +kernel
theorem dX9_allRows_17 : decode cX9_allRows 17 = .ok (.imul, 1) := by decide +kernel
theorem dX9_allRows_18 : decode cX9_allRows 18 = .ok (.i2l, 1) := by decide +kernel
theorem dX9_allRows_19 : decode cX9_allRows 19 = .ok (.lstore_n 2, 1) := by decide +kernel
theorem dX9_allRows_20 : decode cX9_allRows 20 = .ok (.lconst 1, 1) := by decide +kernel
theorem dX9_allRows_21 : decode cX9_allRows 21 = .ok (.lstore 4, 2) := by decide +kernel
theorem dX9_allRows_23 : decode cX9_allRows 23 = .ok (.iconst 0, 1) := by decide +kernel
theorem dX9_allRows_24 : decode cX9_allRows 24 = .ok (.istore 6, 2) := by decide +kernel
theorem dX9_allRows_26 : decode cX9_allRows 26 = .ok (.iload 6, 2) := by decide +kernel
theorem dX9_allRows_28 : decode cX9_allRows 28 = .ok (.iload_n 1, 1) := by decide +kernel
theorem dX9_allRows_29 : decode cX9_allRows 29 = .ok (.if_icmp .ge 15, 3) := by decide +kernel
theorem dX9_allRows_32 : decode cX9_allRows 32 = .ok (.lload 4, 2) := by decide +kernel
theorem dX9_allRows_34 : decode cX9_allRows 34 = .ok (.lload_n 2, 1) := by decide +kernel
theorem dX9_allRows_35 : decode cX9_allRows 35 = .ok (.lmul, 1) := by decide +kernel
theorem dX9_allRows_36 : decode cX9_allRows 36 = .ok (.lstore 4, 2) := by decide +kernel
theorem dX9_allRows_38 : decode cX9_allRows 38 = .ok (.iinc 6 1, 3) := by decide +kernel
