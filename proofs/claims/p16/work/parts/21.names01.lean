theorem dX2_tellWithin_23 : decode cX2_tellWithin 23 = .ok (.getfield 15, 3) := by decide +kernel
theorem dX2_tellWithin_26 : decode cX2_tellWithin 26 = .ok (.iload_n 1, 1) := by decide +kernel
theorem dX2_tellWithin_27 : decode cX2_tellWithin 27 = .ok (.iaload, 1) := by decide +kernel
theorem dX2_tellWithin_28 : decode cX2_tellWithin 28 = .ok (.dup2, 1) := by decide +kernel
theorem dX2_tellWithin_29 : decode cX2_tellWithin 29 = .ok (.iaload, 1) := by decide +kernel
theorem dX2_tellWithin_30 : decode cX2_tellWithin 30 = .ok (.iconst 1, 1) := by decide +kernel
theorem dX2_tellWithin_31 : decode cX2_tellWithin 31 = .ok (.iadd, 1) := by decide +kernel
theorem dX2_tellWithin_32 : decode cX2_tellWithin 32 = .ok (.iastore, 1) := by decide +kernel
theorem dX2_tellWithin_33 : decode cX2_tellWithin 33 = .ok (.iinc 1 1, 3) := by decide +kernel
theorem dX2_tellWithin_36 : decode cX2_tellWithin 36 = .ok (.goto (-26), 3) := by decide +kernel
theorem dX2_tellWithin_39 : decode cX2_tellWithin 39 = .ok (.aload_n 0, 1) := by decide +kernel
theorem dX2_tellWithin_40 : decode cX2_tellWithin 40 = .ok (.getfield 21, 3) := by decide +kernel
theorem dX2_tellWithin_43 : decode cX2_tellWithin 43 = .ok (.aload_n 0, 1) := by decide +kernel
theorem dX2_tellWithin_44 : decode cX2_tellWithin 44 = .ok (.getfield 30, 3) := by decide +kernel
theorem dX2_tellWithin_47 : decode cX2_tellWithin 47 = .ok (.getfield 58, 3) := by decide +kernel
theorem dX2_tellWithin_50 : decode cX2_tellWithin 50 = .ok (.invokestatic 98, 3) := by decide +kernel
theorem dX2_tellWithin_53 : decode cX2_tellWithin 53 = .ok (.return_, 1) := by decide +kernel
theorem dX2_addUp_0 : decode cX2_addUp 0 = .ok (.iconst 0, 1) := by decide +kernel
theorem dX2_addUp_1 : decode cX2_addUp 1 = .ok (.istore_n 2, 1) := by decide +kernel
theorem dX2_addUp_2 : decode cX2_addUp 2 = .ok (.iload_n 2, 1) := by decide +kernel
theorem dX2_addUp_3 : decode cX2_addUp 3 = .ok (.iload_n 1, 1) := by decide +kernel
theorem dX2_addUp_4 : decode cX2_addUp 4 = .ok (.if_icmp .ge 50, 3) := by decide +kernel
theorem dX2_addUp_7 : decode cX2_addUp 7 = .ok (.iconst 1, 1) := by decide +kernel
theorem dX2_addUp_8 : decode cX2_addUp 8 = .ok (.iload_n 2, 1) := by decide +kernel
theorem dX2_addUp_9 : decode cX2_addUp 9 = .ok (.ishl, 1) := by decide +kernel
theorem dX2_addUp_10 : decode cX2_addUp 10 = .ok (.istore_n 3, 1) := by decide +kernel
theorem dX2_addUp_11 : decode cX2_addUp 11 = .ok (.iconst 0, 1) := by decide +kernel
theorem dX2_addUp_12 : decode cX2_addUp 12 = .ok (.istore 4, 2) := by decide +kernel
theorem dX2_addUp_14 : decode cX2_addUp 14 = .ok (.iload 4, 2) := by decide +kernel
theorem dX2_addUp_16 : decode cX2_addUp 16 = .ok (.iconst 1, 1) := by decide +kernel
theorem dX2_addUp_17 : decode cX2_addUp 17 = .ok (.iload_n 1, 1) := by decide +kernel
theorem dX2_addUp_18 : decode cX2_addUp 18 = .ok (.ishl, 1) := by decide +kernel
theorem dX2_addUp_19 : decode cX2_addUp 19 = .ok (.if_icmp .ge 29, 3) := by decide +kernel
theorem dX2_addUp_22 : decode cX2_addUp 22 = .ok (.iload 4, 2) := by decide +kernel
theorem dX2_addUp_24 : decode cX2_addUp 24 = .ok (.iload_n 3, 1) := by decide +kernel
theorem dX2_addUp_25 : decode cX2_addUp 25 = .ok (.iand, 1) := by decide +kernel
theorem dX2_addUp_26 : decode cX2_addUp 26 = .ok (.ifCond .eq 16, 3) := by decide +kernel
theorem dX2_addUp_29 : decode cX2_addUp 29 = .ok (.aload_n 0, 1) := by decide +kernel
theorem dX2_addUp_30 : decode cX2_addUp 30 = .ok (.iload 4, 2) := by decide +kernel
theorem dX2_addUp_32 : decode cX2_addUp 32 = .ok (.dup2, 1) := by decide +kernel
theorem dX2_addUp_33 : decode cX2_addUp 33 = .ok (.iaload, 1) := by decide +kernel
theorem dX2_addUp_34 : decode cX2_addUp 34 = .ok (.aload_n 0, 1) := by decide +kernel
theorem dX2_addUp_35 : decode cX2_addUp 35 = .ok (.iload 4, 2) := by decide +kernel
theorem dX2_addUp_37 : decode cX2_addUp 37 = .ok (.iload_n 3, 1) := by decide +kernel
theorem dX2_addUp_38 : decode cX2_addUp 38 = .ok (.ixor, 1) := by decide +kernel
theorem dX2_addUp_39 : decode cX2_addUp 39 = .ok (.iaload, 1) := by decide +kernel
theorem dX2_addUp_40 : decode cX2_addUp 40 = .ok (.iadd, 1) := by decide +kernel
theorem dX2_addUp_41 : decode cX2_addUp 41 = .ok (.iastore, 1) := by decide +kernel
theorem dX2_addUp_42 : decode cX2_addUp 42 = .ok (.iinc 4 1, 3) := by decide +kernel
theorem dX2_addUp_45 : decode cX2_addUp 45 = .ok (.goto (-31), 3) := by decide +kernel
theorem dX2_addUp_48 : decode cX2_addUp 48 = .ok (.iinc 2 1, 3) := by decide +kernel
theorem dX2_addUp_51 : decode cX2_addUp 51 = .ok (.goto (-49), 3) := by decide +kernel
theorem dX2_addUp_54 : decode cX2_addUp 54 = .ok (.return_, 1) := by decide +kernel
theorem dX2_fewest_0 : decode cX2_fewest 0 = .ok (.iconst 1, 1) := by decide +kernel
theorem dX2_fewest_1 : decode cX2_fewest 1 = .ok (.iload_n 1, 1) := by decide +kernel
theorem dX2_fewest_2 : decode cX2_fewest 2 = .ok (.ishl, 1) := by decide +kernel
theorem dX2_fewest_3 : decode cX2_fewest 3 = .ok (.iconst 1, 1) := by decide +kernel
theorem dX2_fewest_4 : decode cX2_fewest 4 = .ok (.isub, 1) := by decide +kernel
theorem dX2_fewest_5 : decode cX2_fewest 5 = .ok (.istore_n 2, 1) := by decide +kernel
theorem dX2_fewest_6 : decode cX2_fewest 6 = .ok (.iload_n 2, 1) := by decide +kernel
theorem dX2_fewest_7 : decode cX2_fewest 7 = .ok (.istore_n 3, 1) := by decide +kernel
theorem dX2_fewest_8 : decode cX2_fewest 8 = .ok (.iconst 0, 1) := by decide +kernel
theorem dX2_fewest_9 : decode cX2_fewest 9 = .ok (.istore 4, 2) := by decide +kernel
theorem dX2_fewest_11 : decode cX2_fewest 11 = .ok (.iload 4, 2) := by decide +kernel
theorem dX2_fewest_13 : decode cX2_fewest 13 = .ok (.iload_n 2, 1) := by decide +kernel
theorem dX2_fewest_14 : decode cX2_fewest 14 = .ok (.if_icmp .gt 33, 3) := by decide +kernel
theorem dX2_fewest_17 : decode cX2_fewest 17 = .ok (.aload_n 0, 1) := by decide +kernel
theorem dX2_fewest_18 : decode cX2_fewest 18 = .ok (.iload_n 2, 1) := by decide +kernel
theorem dX2_fewest_19 : decode cX2_fewest 19 = .ok (.iload 4, 2) := by decide +kernel
theorem dX2_fewest_21 : decode cX2_fewest 21 = .ok (.ixor, 1) := by decide +kernel
theorem dX2_fewest_22 : decode cX2_fewest 22 = .ok (.iaload, 1) := by decide +kernel
theorem dX2_fewest_23 : decode cX2_fewest 23 = .ok (.ifCond .ne 18, 3) := by decide +kernel
theorem dX2_fewest_26 : decode cX2_fewest 26 = .ok (.iload 4, 2) := by decide +kernel
theorem dX2_fewest_28 : decode cX2_fewest 28 = .ok (.invokestatic 101, 3) := by decide +kernel
theorem dX2_fewest_31 : decode cX2_fewest 31 = .ok (.iload_n 3, 1) := by decide +kernel
theorem dX2_fewest_32 : decode cX2_fewest 32 = .ok (.invokestatic 101, 3) := by decide +kernel
theorem dX2_fewest_35 : decode cX2_fewest 35 = .ok (.if_icmp .ge 6, 3) := by decide +kernel
theorem dX2_fewest_38 : decode cX2_fewest 38 = .ok (.iload 4, 2) := by decide +kernel
theorem dX2_fewest_40 : decode cX2_fewest 40 = .ok (.istore_n 3, 1) := by decide +kernel
theorem dX2_fewest_41 : decode cX2_fewest 41 = .ok (.iinc 4 1, 3) := by decide +kernel
theorem dX2_fewest_44 : decode cX2_fewest 44 = .ok (.goto (-33), 3) := by decide +kernel
theorem dX2_fewest_47 : decode cX2_fewest 47 = .ok (.iload_n 3, 1) := by decide +kernel
theorem dX2_fewest_48 : decode cX2_fewest 48 = .ok (.ireturn, 1) := by decide +kernel
theorem dX2_fewestAgainst_0 : decode cX2_fewestAgainst 0 = .ok (.aload_n 0, 1) := by decide +kernel
theorem dX2_fewestAgainst_1 : decode cX2_fewestAgainst 1 = .ok (.getfield 24, 3) := by decide +kernel
theorem dX2_fewestAgainst_4 : decode cX2_fewestAgainst 4 = .ok (.iconst 0, 1) := by decide +kernel
theorem dX2_fewestAgainst_5 : decode cX2_fewestAgainst 5 = .ok (.invokestatic 95, 3) := by decide +kernel
theorem dX2_fewestAgainst_8 : decode cX2_fewestAgainst 8 = .ok (.iconst 0, 1) := by decide +kernel
theorem dX2_fewestAgainst_9 : decode cX2_fewestAgainst 9 = .ok (.istore_n 2, 1) := by decide +kernel
theorem dX2_fewestAgainst_10 : decode cX2_fewestAgainst 10 = .ok (.iload_n 2, 1) := by decide +kernel
theorem dX2_fewestAgainst_11 : decode cX2_fewestAgainst 11 = .ok (.aload_n 0, 1) := by decide +kernel
theorem dX2_fewestAgainst_12 : decode cX2_fewestAgainst 12 = .ok (.getfield 38, 3) := by decide +kernel
theorem dX2_fewestAgainst_15 : decode cX2_fewestAgainst 15 = .ok (.if_icmp .ge 33, 3) := by decide +kernel
theorem dX2_fewestAgainst_18 : decode cX2_fewestAgainst 18 = .ok (.aload_n 0, 1) := by decide +kernel
theorem dX2_fewestAgainst_19 : decode cX2_fewestAgainst 19 = .ok (.iload_n 2, 1) := by decide +kernel
theorem dX2_fewestAgainst_20 : decode cX2_fewestAgainst 20 = .ok (.aload_n 1, 1) := by decide +kernel
theorem dX2_fewestAgainst_21 : decode cX2_fewestAgainst 21 = .ok (.invokevirtual 107, 3) := by decide +kernel
theorem dX2_fewestAgainst_24 : decode cX2_fewestAgainst 24 = .ok (.ifCond .eq 18, 3) := by decide +kernel
theorem dX2_fewestAgainst_27 : decode cX2_fewestAgainst 27 = .ok (.aload_n 0, 1) := by decide +kernel
theorem dX2_fewestAgainst_28 : decode cX2_fewestAgainst 28 = .ok (.getfield 24, 3) := by decide +kernel
theorem dX2_fewestAgainst_31 : decode cX2_fewestAgainst 31 = .ok (.aload_n 0, 1) := by decide +kernel
theorem dX2_fewestAgainst_32 : decode cX2_fewestAgainst 32 = .ok (.getfield 15, 3) := by decide +kernel
theorem dX2_fewestAgainst_35 : decode cX2_fewestAgainst 35 = .ok (.iload_n 2, 1) := by decide +kernel
theorem dX2_fewestAgainst_36 : decode cX2_fewestAgainst 36 = .ok (.iaload, 1) := by decide +kernel
theorem dX2_fewestAgainst_37 : decode cX2_fewestAgainst 37 = .ok (.dup2, 1) := by decide +kernel
theorem dX2_fewestAgainst_38 : decode cX2_fewestAgainst 38 = .ok (.iaload, 1) := by decide +kernel
theorem dX2_fewestAgainst_39 : decode cX2_fewestAgainst 39 = .ok (.iconst 1, 1) := by decide +kernel
theorem dX2_fewestAgainst_40 : decode cX2_fewestAgainst 40 = .ok (.iadd, 1) := by decide +kernel
theorem dX2_fewestAgainst_41 : decode cX2_fewestAgainst 41 = .ok (.iastore, 1) := by decide +kernel
theorem dX2_fewestAgainst_42 : decode cX2_fewestAgainst 42 = .ok (.iinc 2 1, 3) := by decide +kernel
theorem dX2_fewestAgainst_45 : decode cX2_fewestAgainst 45 = .ok (.goto (-35), 3) := by decide +kernel
theorem dX2_fewestAgainst_48 : decode cX2_fewestAgainst 48 = .ok (.aload_n 0, 1) := by decide +kernel
theorem dX2_fewestAgainst_49 : decode cX2_fewestAgainst 49 = .ok (.getfield 24, 3) := by decide +kernel
theorem dX2_fewestAgainst_52 : decode cX2_fewestAgainst 52 = .ok (.aload_n 0, 1) := by decide +kernel
theorem dX2_fewestAgainst_53 : decode cX2_fewestAgainst 53 = .ok (.getfield 30, 3) := by decide +kernel
theorem dX2_fewestAgainst_56 : decode cX2_fewestAgainst 56 = .ok (.getfield 58, 3) := by decide +kernel
theorem dX2_fewestAgainst_59 : decode cX2_fewestAgainst 59 = .ok (.invokestatic 98, 3) := by decide +kernel
theorem dX2_fewestAgainst_62 : decode cX2_fewestAgainst 62 = .ok (.aload_n 0, 1) := by decide +kernel
theorem dX2_fewestAgainst_63 : decode cX2_fewestAgainst 63 = .ok (.getfield 24, 3) := by decide +kernel
theorem dX2_fewestAgainst_66 : decode cX2_fewestAgainst 66 = .ok (.aload_n 0, 1) := by decide +kernel
theorem dX2_fewestAgainst_67 : decode cX2_fewestAgainst 67 = .ok (.getfield 30, 3) := by decide +kernel
theorem dX2_fewestAgainst_70 : decode cX2_fewestAgainst 70 = .ok (.getfield 58, 3) := by decide +kernel
theorem dX2_fewestAgainst_73 : decode cX2_fewestAgainst 73 = .ok (.invokestatic 111, 3) := by decide +kernel
theorem dX2_fewestAgainst_76 : decode cX2_fewestAgainst 76 = .ok (.ireturn, 1) := by decide +kernel
theorem dX2_firstLawful_0 : decode cX2_firstLawful 0 = .ok (.iconst 0, 1) := by decide +kernel
theorem dX2_firstLawful_1 : decode cX2_firstLawful 1 = .ok (.istore_n 2, 1) := by decide +kernel
theorem dX2_firstLawful_2 : decode cX2_firstLawful 2 = .ok (.iload_n 2, 1) := by decide +kernel
theorem dX2_firstLawful_3 : decode cX2_firstLawful 3 = .ok (.aload_n 0, 1) := by decide +kernel
theorem dX2_firstLawful_4 : decode cX2_firstLawful 4 = .ok (.getfield 92, 3) := by decide +kernel
theorem dX2_firstLawful_7 : decode cX2_firstLawful 7 = .ok (.if_icmp .ge 30, 3) := by decide +kernel
theorem dX2_firstLawful_10 : decode cX2_firstLawful 10 = .ok (.aload_n 0, 1) := by decide +kernel
theorem dX2_firstLawful_11 : decode cX2_firstLawful 11 = .ok (.aload_n 0, 1) := by decide +kernel
theorem dX2_firstLawful_12 : decode cX2_firstLawful 12 = .ok (.getfield 18, 3) := by decide +kernel
theorem dX2_firstLawful_15 : decode cX2_firstLawful 15 = .ok (.iload_n 2, 1) := by decide +kernel
theorem dX2_firstLawful_16 : decode cX2_firstLawful 16 = .ok (.iaload, 1) := by decide +kernel
theorem dX2_firstLawful_17 : decode cX2_firstLawful 17 = .ok (.aload_n 1, 1) := by decide +kernel
theorem dX2_firstLawful_18 : decode cX2_firstLawful 18 = .ok (.invokevirtual 107, 3) := by decide +kernel
theorem dX2_firstLawful_21 : decode cX2_firstLawful 21 = .ok (.ifCond .eq 10, 3) := by decide +kernel
theorem dX2_firstLawful_24 : decode cX2_firstLawful 24 = .ok (.aload_n 0, 1) := by decide +kernel
theorem dX2_firstLawful_25 : decode cX2_firstLawful 25 = .ok (.getfield 18, 3) := by decide +kernel
theorem dX2_firstLawful_28 : decode cX2_firstLawful 28 = .ok (.iload_n 2, 1) := by decide +kernel
theorem dX2_firstLawful_29 : decode cX2_firstLawful 29 = .ok (.iaload, 1) := by decide +kernel
theorem dX2_firstLawful_30 : decode cX2_firstLawful 30 = .ok (.ireturn, 1) := by decide +kernel
theorem dX2_firstLawful_31 : decode cX2_firstLawful 31 = .ok (.iinc 2 1, 3) := by decide +kernel
theorem dX2_firstLawful_34 : decode cX2_firstLawful 34 = .ok (.goto (-32), 3) := by decide +kernel
theorem dX2_firstLawful_37 : decode cX2_firstLawful 37 = .ok (.iconst (-1), 1) := by decide +kernel
theorem dX2_firstLawful_38 : decode cX2_firstLawful 38 = .ok (.ireturn, 1) := by decide +kernel
theorem dX2_fits_0 : decode cX2_fits 0 = .ok (.iconst 0, 1) := by decide +kernel
theorem dX2_fits_1 : decode cX2_fits 1 = .ok (.istore_n 3, 1) := by decide +kernel
theorem dX2_fits_2 : decode cX2_fits 2 = .ok (.iload_n 3, 1) := by decide +kernel
theorem dX2_fits_3 : decode cX2_fits 3 = .ok (.aload_n 0, 1) := by decide +kernel
theorem dX2_fits_4 : decode cX2_fits 4 = .ok (.getfield 30, 3) := by decide +kernel
theorem dX2_fits_7 : decode cX2_fits 7 = .ok (.getfield 42, 3) := by decide +kernel
theorem dX2_fits_10 : decode cX2_fits 10 = .ok (.if_icmp .ge 26, 3) := by decide +kernel
theorem dX2_fits_13 : decode cX2_fits 13 = .ok (.aload_n 2, 1) := by decide +kernel
theorem dX2_fits_14 : decode cX2_fits 14 = .ok (.iload_n 3, 1) := by decide +kernel
theorem dX2_fits_15 : decode cX2_fits 15 = .ok (.iaload, 1) := by decide +kernel
theorem dX2_fits_16 : decode cX2_fits 16 = .ok (.aload_n 0, 1) := by decide +kernel
theorem dX2_fits_17 : decode cX2_fits 17 = .ok (.iload_n 1, 1) := by decide +kernel
theorem dX2_fits_18 : decode cX2_fits 18 = .ok (.iload_n 3, 1) := by decide +kernel
theorem dX2_fits_19 : decode cX2_fits 19 = .ok (.invokevirtual 88, 3) := by decide +kernel
theorem dX2_fits_22 : decode cX2_fits 22 = .ok (.iushr, 1) := by decide +kernel
theorem dX2_fits_23 : decode cX2_fits 23 = .ok (.iconst 1, 1) := by decide +kernel
theorem dX2_fits_24 : decode cX2_fits 24 = .ok (.iand, 1) := by decide +kernel
theorem dX2_fits_25 : decode cX2_fits 25 = .ok (.ifCond .ne 5, 3) := by decide +kernel
theorem dX2_fits_28 : decode cX2_fits 28 = .ok (.iconst 0, 1) := by decide +kernel
theorem dX2_fits_29 : decode cX2_fits 29 = .ok (.ireturn, 1) := by decide +kernel
theorem dX2_fits_30 : decode cX2_fits 30 = .ok (.iinc 3 1, 3) := by decide +kernel
theorem dX2_fits_33 : decode cX2_fits 33 = .ok (.goto (-31), 3) := by decide +kernel
theorem dX2_fits_36 : decode cX2_fits 36 = .ok (.iconst 1, 1) := by decide +kernel
theorem dX2_fits_37 : decode cX2_fits 37 = .ok (.ireturn, 1) := by decide +kernel
theorem dX2_rankIn_0 : decode cX2_rankIn 0 = .ok (.aload_n 0, 1) := by decide +kernel
theorem dX2_rankIn_1 : decode cX2_rankIn 1 = .ok (.getfield 9, 3) := by decide +kernel
theorem dX2_rankIn_4 : decode cX2_rankIn 4 = .ok (.iload_n 2, 1) := by decide +kernel
theorem dX2_rankIn_5 : decode cX2_rankIn 5 = .ok (.iaload, 1) := by decide +kernel
theorem dX2_rankIn_6 : decode cX2_rankIn 6 = .ok (.istore_n 3, 1) := by decide +kernel
theorem dX2_rankIn_7 : decode cX2_rankIn 7 = .ok (.aload_n 0, 1) := by decide +kernel
theorem dX2_rankIn_8 : decode cX2_rankIn 8 = .ok (.getfield 34, 3) := by decide +kernel
theorem dX2_rankIn_11 : decode cX2_rankIn 11 = .ok (.getfield 47, 3) := by decide +kernel
theorem dX2_rankIn_14 : decode cX2_rankIn 14 = .ok (.istore 4, 2) := by decide +kernel
theorem dX2_rankIn_16 : decode cX2_rankIn 16 = .ok (.iload_n 3, 1) := by decide +kernel
theorem dX2_rankIn_17 : decode cX2_rankIn 17 = .ok (.ifCond .le 17, 3) := by decide +kernel
theorem dX2_rankIn_20 : decode cX2_rankIn 20 = .ok (.iload 4, 2) := by decide +kernel
theorem dX2_rankIn_22 : decode cX2_rankIn 22 = .ok (.ifCond .le 12, 3) := by decide +kernel
theorem dX2_rankIn_25 : decode cX2_rankIn 25 = .ok (.iload_n 1, 1) := by decide +kernel
theorem dX2_rankIn_26 : decode cX2_rankIn 26 = .ok (.iload_n 3, 1) := by decide +kernel
theorem dX2_rankIn_27 : decode cX2_rankIn 27 = .ok (.idiv, 1) := by decide +kernel
theorem dX2_rankIn_28 : decode cX2_rankIn 28 = .ok (.iload 4, 2) := by decide +kernel
theorem dX2_rankIn_30 : decode cX2_rankIn 30 = .ok (.irem, 1) := by decide +kernel
theorem dX2_rankIn_31 : decode cX2_rankIn 31 = .ok (.goto 4, 3) := by decide +kernel
theorem dX2_rankIn_34 : decode cX2_rankIn 34 = .ok (.iconst 0, 1) := by decide +kernel
theorem dX2_rankIn_35 : decode cX2_rankIn 35 = .ok (.ireturn, 1) := by decide +kernel
theorem dX2_groupIn_0 : decode cX2_groupIn 0 = .ok (.aload_n 0, 1) := by decide +kernel
theorem dX2_groupIn_1 : decode cX2_groupIn 1 = .ok (.getfield 34, 3) := by decide +kernel
theorem dX2_groupIn_4 : decode cX2_groupIn 4 = .ok (.aload_n 0, 1) := by decide +kernel
theorem dX2_groupIn_5 : decode cX2_groupIn 5 = .ok (.iload_n 1, 1) := by decide +kernel
theorem dX2_groupIn_6 : decode cX2_groupIn 6 = .ok (.aload_n 0, 1) := by decide +kernel
theorem dX2_groupIn_7 : decode cX2_groupIn 7 = .ok (.getfield 30, 3) := by decide +kernel
theorem dX2_groupIn_10 : decode cX2_groupIn 10 = .ok (.iload_n 2, 1) := by decide +kernel
theorem dX2_groupIn_11 : decode cX2_groupIn 11 = .ok (.invokevirtual 115, 3) := by decide +kernel
theorem dX2_groupIn_14 : decode cX2_groupIn 14 = .ok (.invokevirtual 88, 3) := by decide +kernel
theorem dX2_groupIn_17 : decode cX2_groupIn 17 = .ok (.aload_n 0, 1) := by decide +kernel
theorem dX2_groupIn_18 : decode cX2_groupIn 18 = .ok (.getfield 30, 3) := by decide +kernel
theorem dX2_groupIn_21 : decode cX2_groupIn 21 = .ok (.iload_n 2, 1) := by decide +kernel
theorem dX2_groupIn_22 : decode cX2_groupIn 22 = .ok (.invokevirtual 118, 3) := by decide +kernel
theorem dX2_groupIn_25 : decode cX2_groupIn 25 = .ok (.invokevirtual 84, 3) := by decide +kernel
theorem dX2_groupIn_28 : decode cX2_groupIn 28 = .ok (.ireturn, 1) := by decide +kernel
theorem dX3_forget_0 : decode cX3_forget 0 = .ok (.aload_n 0, 1) := by decide +kernel
theorem dX3_forget_1 : decode cX3_forget 1 = .ok (.iconst 2, 1) := by decide +kernel
theorem dX3_forget_2 : decode cX3_forget 2 = .ok (.putfield 27, 3) := by decide +kernel
theorem dX3_forget_5 : decode cX3_forget 5 = .ok (.aload_n 0, 1) := by decide +kernel
theorem dX3_forget_6 : decode cX3_forget 6 = .ok (.iconst 0, 1) := by decide +kernel
theorem dX3_forget_7 : decode cX3_forget 7 = .ok (.putfield 31, 3) := by decide +kernel
theorem dX3_forget_10 : decode cX3_forget 10 = .ok (.aload_n 0, 1) := by decide +kernel
theorem dX3_forget_11 : decode cX3_forget 11 = .ok (.iconst 0, 1) := by decide +kernel
theorem dX3_forget_12 : decode cX3_forget 12 = .ok (.putfield 34, 3) := by decide +kernel
theorem dX3_forget_15 : decode cX3_forget 15 = .ok (.aload_n 0, 1) := by decide +kernel
theorem dX3_forget_16 : decode cX3_forget 16 = .ok (.iconst 0, 1) := by decide +kernel
theorem dX3_forget_17 : decode cX3_forget 17 = .ok (.putfield 37, 3) := by decide +kernel
theorem dX3_forget_20 : decode cX3_forget 20 = .ok (.aload_n 0, 1) := by decide +kernel
theorem dX3_forget_21 : decode cX3_forget 21 = .ok (.iconst 0, 1) := by decide +kernel
theorem dX3_forget_22 : decode cX3_forget 22 = .ok (.putfield 40, 3) := by decide +kernel
theorem dX3_forget_25 : decode cX3_forget 25 = .ok (.aload_n 0, 1) := by decide +kernel
theorem dX3_forget_26 : decode cX3_forget 26 = .ok (.iconst 0, 1) := by decide +kernel
theorem dX3_forget_27 : decode cX3_forget 27 = .ok (.putfield 43, 3) := by decide +kernel
theorem dX3_forget_30 : decode cX3_forget 30 = .ok (.return_, 1) := by decide +kernel
theorem dX3_take_0 : decode cX3_take 0 = .ok (.aload_n 0, 1) := by decide +kernel
theorem dX3_take_1 : decode cX3_take 1 = .ok (.aload_n 1, 1) := by decide +kernel
theorem dX3_take_2 : decode cX3_take 2 = .ok (.getfield 27, 3) := by decide +kernel
theorem dX3_take_5 : decode cX3_take 5 = .ok (.putfield 27, 3) := by decide +kernel
theorem dX3_take_8 : decode cX3_take 8 = .ok (.aload_n 0, 1) := by decide +kernel
theorem dX3_take_9 : decode cX3_take 9 = .ok (.aload_n 1, 1) := by decide +kernel
theorem dX3_take_10 : decode cX3_take 10 = .ok (.getfield 31, 3) := by decide +kernel
theorem dX3_take_13 : decode cX3_take 13 = .ok (.putfield 31, 3) := by decide +kernel
theorem dX3_take_16 : decode cX3_take 16 = .ok (.aload_n 0, 1) := by decide +kernel
theorem dX3_take_17 : decode cX3_take 17 = .ok (.aload_n 1, 1) := by decide +kernel
theorem dX3_take_18 : decode cX3_take 18 = .ok (.getfield 34, 3) := by decide +kernel
theorem dX3_take_21 : decode cX3_take 21 = .ok (.putfield 34, 3) := by decide +kernel
theorem dX3_take_24 : decode cX3_take 24 = .ok (.aload_n 0, 1) := by decide +kernel
theorem dX3_take_25 : decode cX3_take 25 = .ok (.aload_n 1, 1) := by decide +kernel
theorem dX3_take_26 : decode cX3_take 26 = .ok (.getfield 37, 3) := by decide +kernel
theorem dX3_take_29 : decode cX3_take 29 = .ok (.putfield 37, 3) := by decide +kernel
theorem dX3_take_32 : decode cX3_take 32 = .ok (.aload_n 0, 1) := by decide +kernel
theorem dX3_take_33 : decode cX3_take 33 = .ok (.aload_n 1, 1) := by decide +kernel
theorem dX3_take_34 : decode cX3_take 34 = .ok (.getfield 40, 3) := by decide +kernel
theorem dX3_take_37 : decode cX3_take 37 = .ok (.putfield 40, 3) := by decide +kernel
theorem dX3_take_40 : decode cX3_take 40 = .ok (.aload_n 0, 1) := by decide +kernel
theorem dX3_take_41 : decode cX3_take 41 = .ok (.aload_n 1, 1) := by decide +kernel
theorem dX3_take_42 : decode cX3_take 42 = .ok (.getfield 43, 3) := by decide +kernel
theorem dX3_take_45 : decode cX3_take 45 = .ok (.putfield 43, 3) := by decide +kernel
theorem dX3_take_48 : decode cX3_take 48 = .ok (.aload_n 1, 1) := by decide +kernel
theorem dX3_take_49 : decode cX3_take 49 = .ok (.getfield 9, 3) := by decide +kernel
theorem dX3_take_52 : decode cX3_take 52 = .ok (.iconst 0, 1) := by decide +kernel
theorem dX3_take_53 : decode cX3_take 53 = .ok (.aload_n 0, 1) := by decide +kernel
theorem dX3_take_54 : decode cX3_take 54 = .ok (.getfield 9, 3) := by decide +kernel
theorem dX3_take_57 : decode cX3_take 57 = .ok (.iconst 0, 1) := by decide +kernel
theorem dX3_take_58 : decode cX3_take 58 = .ok (.bipush 12, 2) := by decide +kernel
theorem dX3_take_60 : decode cX3_take 60 = .ok (.invokestatic 46, 3) := by decide +kernel
theorem dX3_take_63 : decode cX3_take 63 = .ok (.aload_n 1, 1) := by decide +kernel
theorem dX3_take_64 : decode cX3_take 64 = .ok (.getfield 15, 3) := by decide +kernel
theorem dX3_take_67 : decode cX3_take 67 = .ok (.iconst 0, 1) := by decide +kernel
theorem dX3_take_68 : decode cX3_take 68 = .ok (.aload_n 0, 1) := by decide +kernel
theorem dX3_take_69 : decode cX3_take 69 = .ok (.getfield 15, 3) := by decide +kernel
theorem dX3_take_72 : decode cX3_take 72 = .ok (.iconst 0, 1) := by decide +kernel
theorem dX3_take_73 : decode cX3_take 73 = .ok (.bipush 12, 2) := by decide +kernel
theorem dX3_take_75 : decode cX3_take 75 = .ok (.invokestatic 46, 3) := by decide +kernel
theorem dX3_take_78 : decode cX3_take 78 = .ok (.aload_n 1, 1) := by decide +kernel
theorem dX3_take_79 : decode cX3_take 79 = .ok (.getfield 18, 3) := by decide +kernel
theorem dX3_take_82 : decode cX3_take 82 = .ok (.iconst 0, 1) := by decide +kernel
theorem dX3_take_83 : decode cX3_take 83 = .ok (.aload_n 0, 1) := by decide +kernel
theorem dX3_take_84 : decode cX3_take 84 = .ok (.getfield 18, 3) := by decide +kernel
theorem dX3_take_87 : decode cX3_take 87 = .ok (.iconst 0, 1) := by decide +kernel
theorem dX3_take_88 : decode cX3_take 88 = .ok (.bipush 6, 2) := by decide +kernel
theorem dX3_take_90 : decode cX3_take 90 = .ok (.invokestatic 46, 3) := by decide +kernel
theorem dX3_take_93 : decode cX3_take 93 = .ok (.aload_n 1, 1) := by decide +kernel
theorem dX3_take_94 : decode cX3_take 94 = .ok (.getfield 21, 3) := by decide +kernel
theorem dX3_take_97 : decode cX3_take 97 = .ok (.iconst 0, 1) := by decide +kernel
theorem dX3_take_98 : decode cX3_take 98 = .ok (.aload_n 0, 1) := by decide +kernel
theorem dX3_take_99 : decode cX3_take 99 = .ok (.getfield 21, 3) := by decide +kernel
theorem dX3_take_102 : decode cX3_take 102 = .ok (.iconst 0, 1) := by decide +kernel
theorem dX3_take_103 : decode cX3_take 103 = .ok (.bipush 10, 2) := by decide +kernel
theorem dX3_take_105 : decode cX3_take 105 = .ok (.invokestatic 46, 3) := by decide +kernel
theorem dX3_take_108 : decode cX3_take 108 = .ok (.aload_n 1, 1) := by decide +kernel
theorem dX3_take_109 : decode cX3_take 109 = .ok (.getfield 24, 3) := by decide +kernel
theorem dX3_take_112 : decode cX3_take 112 = .ok (.iconst 0, 1) := by decide +kernel
theorem dX3_take_113 : decode cX3_take 113 = .ok (.aload_n 0, 1) := by decide +kernel
theorem dX3_take_114 : decode cX3_take 114 = .ok (.getfield 24, 3) := by decide +kernel
theorem dX3_take_117 : decode cX3_take 117 = .ok (.iconst 0, 1) := by decide +kernel
theorem dX3_take_118 : decode cX3_take 118 = .ok (.bipush 10, 2) := by decide +kernel
theorem dX3_take_120 : decode cX3_take 120 = .ok (.invokestatic 46, 3) := by decide +kernel
theorem dX3_take_123 : decode cX3_take 123 = .ok (.return_, 1) := by decide +kernel
theorem dX3_addTeam_0 : decode cX3_addTeam 0 = .ok (.aload_n 0, 1) := by decide +kernel
theorem dX3_addTeam_1 : decode cX3_addTeam 1 = .ok (.getfield 34, 3) := by decide +kernel
theorem dX3_addTeam_4 : decode cX3_addTeam 4 = .ok (.bipush 12, 2) := by decide +kernel
theorem dX3_addTeam_6 : decode cX3_addTeam 6 = .ok (.if_icmp .ge 33, 3) := by decide +kernel
theorem dX3_addTeam_9 : decode cX3_addTeam 9 = .ok (.aload_n 0, 1) := by decide +kernel
theorem dX3_addTeam_10 : decode cX3_addTeam 10 = .ok (.getfield 9, 3) := by decide +kernel
theorem dX3_addTeam_13 : decode cX3_addTeam 13 = .ok (.aload_n 0, 1) := by decide +kernel
theorem dX3_addTeam_14 : decode cX3_addTeam 14 = .ok (.getfield 34, 3) := by decide +kernel
theorem dX3_addTeam_17 : decode cX3_addTeam 17 = .ok (.iload_n 1, 1) := by decide +kernel
theorem dX3_addTeam_18 : decode cX3_addTeam 18 = .ok (.iastore, 1) := by decide +kernel
theorem dX3_addTeam_19 : decode cX3_addTeam 19 = .ok (.aload_n 0, 1) := by decide +kernel
theorem dX3_addTeam_20 : decode cX3_addTeam 20 = .ok (.getfield 15, 3) := by decide +kernel
theorem dX3_addTeam_23 : decode cX3_addTeam 23 = .ok (.aload_n 0, 1) := by decide +kernel
theorem dX3_addTeam_24 : decode cX3_addTeam 24 = .ok (.getfield 34, 3) := by decide +kernel
theorem dX3_addTeam_27 : decode cX3_addTeam 27 = .ok (.iconst 0, 1) := by decide +kernel
theorem dX3_addTeam_28 : decode cX3_addTeam 28 = .ok (.iastore, 1) := by decide +kernel
theorem dX3_addTeam_29 : decode cX3_addTeam 29 = .ok (.aload_n 0, 1) := by decide +kernel
theorem dX3_addTeam_30 : decode cX3_addTeam 30 = .ok (.dup, 1) := by decide +kernel
theorem dX3_addTeam_31 : decode cX3_addTeam 31 = .ok (.getfield 34, 3) := by decide +kernel
theorem dX3_addTeam_34 : decode cX3_addTeam 34 = .ok (.iconst 1, 1) := by decide +kernel
theorem dX3_addTeam_35 : decode cX3_addTeam 35 = .ok (.iadd, 1) := by decide +kernel
theorem dX3_addTeam_36 : decode cX3_addTeam 36 = .ok (.putfield 34, 3) := by decide +kernel
theorem dX3_addTeam_39 : decode cX3_addTeam 39 = .ok (.return_, 1) := by decide +kernel
theorem dX3_addMark_0 : decode cX3_addMark 0 = .ok (.aload_n 0, 1) := by decide +kernel
theorem dX3_addMark_1 : decode cX3_addMark 1 = .ok (.getfield 37, 3) := by decide +kernel
theorem dX3_addMark_4 : decode cX3_addMark 4 = .ok (.bipush 6, 2) := by decide +kernel
theorem dX3_addMark_6 : decode cX3_addMark 6 = .ok (.if_icmp .ge 23, 3) := by decide +kernel
theorem dX3_addMark_9 : decode cX3_addMark 9 = .ok (.aload_n 0, 1) := by decide +kernel
theorem dX3_addMark_10 : decode cX3_addMark 10 = .ok (.getfield 18, 3) := by decide +kernel
theorem dX3_addMark_13 : decode cX3_addMark 13 = .ok (.aload_n 0, 1) := by decide +kernel
theorem dX3_addMark_14 : decode cX3_addMark 14 = .ok (.getfield 37, 3) := by decide +kernel
theorem dX3_addMark_17 : decode cX3_addMark 17 = .ok (.iload_n 1, 1) := by decide +kernel
theorem dX3_addMark_18 : decode cX3_addMark 18 = .ok (.iastore, 1) := by decide +kernel
theorem dX3_addMark_19 : decode cX3_addMark 19 = .ok (.aload_n 0, 1) := by decide +kernel
theorem dX3_addMark_20 : decode cX3_addMark 20 = .ok (.dup, 1) := by decide +kernel
theorem dX3_addMark_21 : decode cX3_addMark 21 = .ok (.getfield 37, 3) := by decide +kernel
theorem dX3_addMark_24 : decode cX3_addMark 24 = .ok (.iconst 1, 1) := by decide +kernel
theorem dX3_addMark_25 : decode cX3_addMark 25 = .ok (.iadd, 1) := by decide +kernel
theorem dX3_addMark_26 : decode cX3_addMark 26 = .ok (.putfield 37, 3) := by decide +kernel
theorem dX3_addMark_29 : decode cX3_addMark 29 = .ok (.return_, 1) := by decide +kernel
theorem dX3_teamNamed_0 : decode cX3_teamNamed 0 = .ok (.aload_n 0, 1) := by decide +kernel
theorem dX3_teamNamed_1 : decode cX3_teamNamed 1 = .ok (.getfield 9, 3) := by decide +kernel
theorem dX3_teamNamed_4 : decode cX3_teamNamed 4 = .ok (.aload_n 0, 1) := by decide +kernel
theorem dX3_teamNamed_5 : decode cX3_teamNamed 5 = .ok (.getfield 34, 3) := by decide +kernel
theorem dX3_teamNamed_8 : decode cX3_teamNamed 8 = .ok (.iload_n 1, 1) := by decide +kernel
theorem dX3_teamNamed_9 : decode cX3_teamNamed 9 = .ok (.invokestatic 52, 3) := by decide +kernel
theorem dX3_teamNamed_12 : decode cX3_teamNamed 12 = .ok (.ireturn, 1) := by decide +kernel
theorem dX3_markNamed_0 : decode cX3_markNamed 0 = .ok (.aload_n 0, 1) := by decide +kernel
theorem dX3_markNamed_1 : decode cX3_markNamed 1 = .ok (.getfield 18, 3) := by decide +kernel
theorem dX3_markNamed_4 : decode cX3_markNamed 4 = .ok (.aload_n 0, 1) := by decide +kernel
theorem dX3_markNamed_5 : decode cX3_markNamed 5 = .ok (.getfield 37, 3) := by decide +kernel
theorem dX3_markNamed_8 : decode cX3_markNamed 8 = .ok (.iload_n 1, 1) := by decide +kernel
theorem dX3_markNamed_9 : decode cX3_markNamed 9 = .ok (.invokestatic 52, 3) := by decide +kernel
theorem dX3_markNamed_12 : decode cX3_markNamed 12 = .ok (.ireturn, 1) := by decide +kernel
theorem dX3_find_0 : decode cX3_find 0 = .ok (.iconst 0, 1) := by decide +kernel
theorem dX3_find_1 : decode cX3_find 1 = .ok (.istore_n 3, 1) := by decide +kernel
theorem dX3_find_2 : decode cX3_find 2 = .ok (.iload_n 3, 1) := by decide +kernel
theorem dX3_find_3 : decode cX3_find 3 = .ok (.iload_n 1, 1) := by decide +kernel
theorem dX3_find_4 : decode cX3_find 4 = .ok (.if_icmp .ge 24, 3) := by decide +kernel
theorem dX3_find_7 : decode cX3_find 7 = .ok (.iload_n 3, 1) := by decide +kernel
theorem dX3_find_8 : decode cX3_find 8 = .ok (.aload_n 0, 1) := by decide +kernel
theorem dX3_find_9 : decode cX3_find 9 = .ok (.arraylength, 1) := by decide +kernel
theorem dX3_find_10 : decode cX3_find 10 = .ok (.if_icmp .ge 18, 3) := by decide +kernel
theorem dX3_find_13 : decode cX3_find 13 = .ok (.aload_n 0, 1) := by decide +kernel
theorem dX3_find_14 : decode cX3_find 14 = .ok (.iload_n 3, 1) := by decide +kernel
theorem dX3_find_15 : decode cX3_find 15 = .ok (.iaload, 1) := by decide +kernel
theorem dX3_find_16 : decode cX3_find 16 = .ok (.iload_n 2, 1) := by decide +kernel
theorem dX3_find_17 : decode cX3_find 17 = .ok (.if_icmp .ne 5, 3) := by decide +kernel
theorem dX3_find_20 : decode cX3_find 20 = .ok (.iload_n 3, 1) := by decide +kernel
theorem dX3_find_21 : decode cX3_find 21 = .ok (.ireturn, 1) := by decide +kernel
theorem dX3_find_22 : decode cX3_find 22 = .ok (.iinc 3 1, 3) := by decide +kernel
theorem dX3_find_25 : decode cX3_find 25 = .ok (.goto (-23), 3) := by decide +kernel
theorem dX3_find_28 : decode cX3_find 28 = .ok (.iconst (-1), 1) := by decide +kernel
theorem dX3_find_29 : decode cX3_find 29 = .ok (.ireturn, 1) := by decide +kernel
theorem dX3_potOf_0 : decode cX3_potOf 0 = .ok (.aload_n 0, 1) := by decide +kernel
theorem dX3_potOf_1 : decode cX3_potOf 1 = .ok (.getfield 27, 3) := by decide +kernel
theorem dX3_potOf_4 : decode cX3_potOf 4 = .ok (.ifCond .le 12, 3) := by decide +kernel
theorem dX3_potOf_7 : decode cX3_potOf 7 = .ok (.iload_n 1, 1) := by decide +kernel
theorem dX3_potOf_8 : decode cX3_potOf 8 = .ok (.aload_n 0, 1) := by decide +kernel
theorem dX3_potOf_9 : decode cX3_potOf 9 = .ok (.getfield 27, 3) := by decide +kernel
theorem dX3_potOf_12 : decode cX3_potOf 12 = .ok (.idiv, 1) := by decide +kernel
theorem dX3_potOf_13 : decode cX3_potOf 13 = .ok (.goto 4, 3) := by decide +kernel
theorem dX3_potOf_16 : decode cX3_potOf 16 = .ok (.iconst 0, 1) := by decide +kernel
theorem dX3_potOf_17 : decode cX3_potOf 17 = .ok (.ireturn, 1) := by decide +kernel
theorem dX3_placeOf_0 : decode cX3_placeOf 0 = .ok (.aload_n 0, 1) := by decide +kernel
theorem dX3_placeOf_1 : decode cX3_placeOf 1 = .ok (.getfield 27, 3) := by decide +kernel
theorem dX3_placeOf_4 : decode cX3_placeOf 4 = .ok (.ifCond .le 12, 3) := by decide +kernel
theorem dX3_placeOf_7 : decode cX3_placeOf 7 = .ok (.iload_n 1, 1) := by decide +kernel
theorem dX3_placeOf_8 : decode cX3_placeOf 8 = .ok (.aload_n 0, 1) := by decide +kernel
theorem dX3_placeOf_9 : decode cX3_placeOf 9 = .ok (.getfield 27, 3) := by decide +kernel
theorem dX3_placeOf_12 : decode cX3_placeOf 12 = .ok (.irem, 1) := by decide +kernel
theorem dX3_placeOf_13 : decode cX3_placeOf 13 = .ok (.goto 4, 3) := by decide +kernel
theorem dX3_placeOf_16 : decode cX3_placeOf 16 = .ok (.iconst 0, 1) := by decide +kernel
theorem dX3_placeOf_17 : decode cX3_placeOf 17 = .ok (.ireturn, 1) := by decide +kernel
theorem dX3_nextPotAfter_0 : decode cX3_nextPotAfter 0 = .ok (.aload_n 0, 1) := by decide +kernel
theorem dX3_nextPotAfter_1 : decode cX3_nextPotAfter 1 = .ok (.iload_n 1, 1) := by decide +kernel
theorem dX3_nextPotAfter_2 : decode cX3_nextPotAfter 2 = .ok (.invokevirtual 56, 3) := by decide +kernel
theorem dX3_nextPotAfter_5 : decode cX3_nextPotAfter 5 = .ok (.iconst 1, 1) := by decide +kernel
theorem dX3_nextPotAfter_6 : decode cX3_nextPotAfter 6 = .ok (.iadd, 1) := by decide +kernel
theorem dX3_nextPotAfter_7 : decode cX3_nextPotAfter 7 = .ok (.aload_n 0, 1) := by decide +kernel
theorem dX3_nextPotAfter_8 : decode cX3_nextPotAfter 8 = .ok (.getfield 27, 3) := by decide +kernel
theorem dX3_nextPotAfter_11 : decode cX3_nextPotAfter 11 = .ok (.imul, 1) := by decide +kernel
theorem dX3_nextPotAfter_12 : decode cX3_nextPotAfter 12 = .ok (.ireturn, 1) := by decide +kernel
theorem dX3_isGroupNamed_0 : decode cX3_isGroupNamed 0 = .ok (.aload_n 0, 1) := by decide +kernel
theorem dX3_isGroupNamed_1 : decode cX3_isGroupNamed 1 = .ok (.getfield 43, 3) := by decide +kernel
theorem dX3_isGroupNamed_4 : decode cX3_isGroupNamed 4 = .ok (.iload_n 1, 1) := by decide +kernel
theorem dX3_isGroupNamed_5 : decode cX3_isGroupNamed 5 = .ok (.iushr, 1) := by decide +kernel
theorem dX3_isGroupNamed_6 : decode cX3_isGroupNamed 6 = .ok (.iconst 1, 1) := by decide +kernel
theorem dX3_isGroupNamed_7 : decode cX3_isGroupNamed 7 = .ok (.iand, 1) := by decide +kernel
theorem dX3_isGroupNamed_8 : decode cX3_isGroupNamed 8 = .ok (.ifCond .eq 7, 3) := by decide +kernel
theorem dX3_isGroupNamed_11 : decode cX3_isGroupNamed 11 = .ok (.iconst 1, 1) := by decide +kernel
theorem dX3_isGroupNamed_12 : decode cX3_isGroupNamed 12 = .ok (.goto 4, 3) := by decide +kernel
theorem dX3_isGroupNamed_15 : decode cX3_isGroupNamed 15 = .ok (.iconst 0, 1) := by decide +kernel
theorem dX3_isGroupNamed_16 : decode cX3_isGroupNamed 16 = .ok (.ireturn, 1) := by decide +kernel
theorem dX3_teamsMarked_0 : decode cX3_teamsMarked 0 = .ok (.iconst 0, 1) := by decide +kernel
theorem dX3_teamsMarked_1 : decode cX3_teamsMarked 1 = .ok (.istore_n 2, 1) := by decide +kernel
theorem dX3_teamsMarked_2 : decode cX3_teamsMarked 2 = .ok (.iconst 0, 1) := by decide +kernel
theorem dX3_teamsMarked_3 : decode cX3_teamsMarked 3 = .ok (.istore_n 3, 1) := by decide +kernel
theorem dX3_teamsMarked_4 : decode cX3_teamsMarked 4 = .ok (.iload_n 3, 1) := by decide +kernel
theorem dX3_teamsMarked_5 : decode cX3_teamsMarked 5 = .ok (.aload_n 0, 1) := by decide +kernel
theorem dX3_teamsMarked_6 : decode cX3_teamsMarked 6 = .ok (.getfield 34, 3) := by decide +kernel
theorem dX3_teamsMarked_9 : decode cX3_teamsMarked 9 = .ok (.if_icmp .ge 24, 3) := by decide +kernel
theorem dX3_teamsMarked_12 : decode cX3_teamsMarked 12 = .ok (.iload_n 2, 1) := by decide +kernel
theorem dX3_teamsMarked_13 : decode cX3_teamsMarked 13 = .ok (.aload_n 0, 1) := by decide +kernel
theorem dX3_teamsMarked_14 : decode cX3_teamsMarked 14 = .ok (.getfield 15, 3) := by decide +kernel
theorem dX3_teamsMarked_17 : decode cX3_teamsMarked 17 = .ok (.iload_n 3, 1) := by decide +kernel
theorem dX3_teamsMarked_18 : decode cX3_teamsMarked 18 = .ok (.iaload, 1) := by decide +kernel
theorem dX3_teamsMarked_19 : decode cX3_teamsMarked 19 = .ok (.iload_n 1, 1) := by decide +kernel
theorem dX3_teamsMarked_20 : decode cX3_teamsMarked 20 = .ok (.iushr, 1) := by decide +kernel
theorem dX3_teamsMarked_21 : decode cX3_teamsMarked 21 = .ok (.iconst 1, 1) := by decide +kernel
theorem dX3_teamsMarked_22 : decode cX3_teamsMarked 22 = .ok (.iand, 1) := by decide +kernel
theorem dX3_teamsMarked_23 : decode cX3_teamsMarked 23 = .ok (.iload_n 3, 1) := by decide +kernel
theorem dX3_teamsMarked_24 : decode cX3_teamsMarked 24 = .ok (.ishl, 1) := by decide +kernel
theorem dX3_teamsMarked_25 : decode cX3_teamsMarked 25 = .ok (.ior, 1) := by decide +kernel
theorem dX3_teamsMarked_26 : decode cX3_teamsMarked 26 = .ok (.istore_n 2, 1) := by decide +kernel
theorem dX3_teamsMarked_27 : decode cX3_teamsMarked 27 = .ok (.iinc 3 1, 3) := by decide +kernel
theorem dX3_teamsMarked_30 : decode cX3_teamsMarked 30 = .ok (.goto (-26), 3) := by decide +kernel
theorem dX3_teamsMarked_33 : decode cX3_teamsMarked 33 = .ok (.iload_n 2, 1) := by decide +kernel
theorem dX3_teamsMarked_34 : decode cX3_teamsMarked 34 = .ok (.ireturn, 1) := by decide +kernel
theorem dX3_addAtMost_0 : decode cX3_addAtMost 0 = .ok (.aload_n 0, 1) := by decide +kernel
theorem dX3_addAtMost_1 : decode cX3_addAtMost 1 = .ok (.iload_n 2, 1) := by decide +kernel
theorem dX3_addAtMost_2 : decode cX3_addAtMost 2 = .ok (.iload_n 1, 1) := by decide +kernel
theorem dX3_addAtMost_3 : decode cX3_addAtMost 3 = .ok (.sipush 4369, 3) := by decide +kernel
theorem dX3_addAtMost_6 : decode cX3_addAtMost 6 = .ok (.imul, 1) := by decide +kernel
theorem dX3_addAtMost_7 : decode cX3_addAtMost 7 = .ok (.invokevirtual 60, 3) := by decide +kernel
theorem dX3_addAtMost_10 : decode cX3_addAtMost 10 = .ok (.return_, 1) := by decide +kernel
theorem dX3_addNever_0 : decode cX3_addNever 0 = .ok (.aload_n 0, 1) := by decide +kernel
theorem dX3_addNever_1 : decode cX3_addNever 1 = .ok (.dup, 1) := by decide +kernel
theorem dX3_addNever_2 : decode cX3_addNever 2 = .ok (.getfield 43, 3) := by decide +kernel
theorem dX3_addNever_5 : decode cX3_addNever 5 = .ok (.iconst 1, 1) := by decide +kernel
theorem dX3_addNever_6 : decode cX3_addNever 6 = .ok (.iload_n 2, 1) := by decide +kernel
theorem dX3_addNever_7 : decode cX3_addNever 7 = .ok (.ishl, 1) := by decide +kernel
theorem dX3_addNever_8 : decode cX3_addNever 8 = .ok (.ior, 1) := by decide +kernel
theorem dX3_addNever_9 : decode cX3_addNever 9 = .ok (.putfield 43, 3) := by decide +kernel
theorem dX3_addNever_12 : decode cX3_addNever 12 = .ok (.aload_n 0, 1) := by decide +kernel
theorem dX3_addNever_13 : decode cX3_addNever 13 = .ok (.iconst 1, 1) := by decide +kernel
theorem dX3_addNever_14 : decode cX3_addNever 14 = .ok (.iload_n 1, 1) := by decide +kernel
theorem dX3_addNever_15 : decode cX3_addNever 15 = .ok (.ishl, 1) := by decide +kernel
theorem dX3_addNever_16 : decode cX3_addNever 16 = .ok (.sipush 30583, 3) := by decide +kernel
theorem dX3_addNever_19 : decode cX3_addNever 19 = .ok (.bipush 15, 2) := by decide +kernel
theorem dX3_addNever_21 : decode cX3_addNever 21 = .ok (.iconst 4, 1) := by decide +kernel
theorem dX3_addNever_22 : decode cX3_addNever 22 = .ok (.iload_n 2, 1) := by decide +kernel
theorem dX3_addNever_23 : decode cX3_addNever 23 = .ok (.imul, 1) := by decide +kernel
theorem dX3_addNever_24 : decode cX3_addNever 24 = .ok (.ishl, 1) := by decide +kernel
theorem dX3_addNever_25 : decode cX3_addNever 25 = .ok (.iconst (-1), 1) := by decide +kernel
theorem dX3_addNever_26 : decode cX3_addNever 26 = .ok (.ixor, 1) := by decide +kernel
theorem dX3_addNever_27 : decode cX3_addNever 27 = .ok (.iand, 1) := by decide +kernel
theorem dX3_addNever_28 : decode cX3_addNever 28 = .ok (.invokevirtual 60, 3) := by decide +kernel
theorem dX3_addNever_31 : decode cX3_addNever 31 = .ok (.return_, 1) := by decide +kernel
theorem dX3_addFixed_0 : decode cX3_addFixed 0 = .ok (.aload_n 0, 1) := by decide +kernel
theorem dX3_addFixed_1 : decode cX3_addFixed 1 = .ok (.dup, 1) := by decide +kernel
theorem dX3_addFixed_2 : decode cX3_addFixed 2 = .ok (.getfield 43, 3) := by decide +kernel
theorem dX3_addFixed_5 : decode cX3_addFixed 5 = .ok (.iconst 1, 1) := by decide +kernel
theorem dX3_addFixed_6 : decode cX3_addFixed 6 = .ok (.iload_n 2, 1) := by decide +kernel
theorem dX3_addFixed_7 : decode cX3_addFixed 7 = .ok (.ishl, 1) := by decide +kernel
theorem dX3_addFixed_8 : decode cX3_addFixed 8 = .ok (.ior, 1) := by decide +kernel
theorem dX3_addFixed_9 : decode cX3_addFixed 9 = .ok (.putfield 43, 3) := by decide +kernel
theorem dX3_addFixed_12 : decode cX3_addFixed 12 = .ok (.aload_n 0, 1) := by decide +kernel
theorem dX3_addFixed_13 : decode cX3_addFixed 13 = .ok (.iconst 1, 1) := by decide +kernel
theorem dX3_addFixed_14 : decode cX3_addFixed 14 = .ok (.iload_n 1, 1) := by decide +kernel
theorem dX3_addFixed_15 : decode cX3_addFixed 15 = .ok (.ishl, 1) := by decide +kernel
theorem dX3_addFixed_16 : decode cX3_addFixed 16 = .ok (.bipush 7, 2) := by decide +kernel
theorem dX3_addFixed_18 : decode cX3_addFixed 18 = .ok (.iconst 4, 1) := by decide +kernel
theorem dX3_addFixed_19 : decode cX3_addFixed 19 = .ok (.iload_n 2, 1) := by decide +kernel
theorem dX3_addFixed_20 : decode cX3_addFixed 20 = .ok (.imul, 1) := by decide +kernel
theorem dX3_addFixed_21 : decode cX3_addFixed 21 = .ok (.ishl, 1) := by decide +kernel
theorem dX3_addFixed_22 : decode cX3_addFixed 22 = .ok (.invokevirtual 60, 3) := by decide +kernel
theorem dX3_addFixed_25 : decode cX3_addFixed 25 = .ok (.return_, 1) := by decide +kernel
theorem dX3_addBar_0 : decode cX3_addBar 0 = .ok (.aload_n 0, 1) := by decide +kernel
theorem dX3_addBar_1 : decode cX3_addBar 1 = .ok (.getfield 40, 3) := by decide +kernel
theorem dX3_addBar_4 : decode cX3_addBar 4 = .ok (.bipush 10, 2) := by decide +kernel
theorem dX3_addBar_6 : decode cX3_addBar 6 = .ok (.if_icmp .ge 33, 3) := by decide +kernel
theorem dX3_addBar_9 : decode cX3_addBar 9 = .ok (.aload_n 0, 1) := by decide +kernel
theorem dX3_addBar_10 : decode cX3_addBar 10 = .ok (.getfield 21, 3) := by decide +kernel
theorem dX3_addBar_13 : decode cX3_addBar 13 = .ok (.aload_n 0, 1) := by decide +kernel
theorem dX3_addBar_14 : decode cX3_addBar 14 = .ok (.getfield 40, 3) := by decide +kernel
theorem dX3_addBar_17 : decode cX3_addBar 17 = .ok (.iload_n 1, 1) := by decide +kernel
theorem dX3_addBar_18 : decode cX3_addBar 18 = .ok (.iastore, 1) := by decide +kernel
theorem dX3_addBar_19 : decode cX3_addBar 19 = .ok (.aload_n 0, 1) := by decide +kernel
theorem dX3_addBar_20 : decode cX3_addBar 20 = .ok (.getfield 24, 3) := by decide +kernel
theorem dX3_addBar_23 : decode cX3_addBar 23 = .ok (.aload_n 0, 1) := by decide +kernel
theorem dX3_addBar_24 : decode cX3_addBar 24 = .ok (.getfield 40, 3) := by decide +kernel
theorem dX3_addBar_27 : decode cX3_addBar 27 = .ok (.iload_n 2, 1) := by decide +kernel
theorem dX3_addBar_28 : decode cX3_addBar 28 = .ok (.iastore, 1) := by decide +kernel
theorem dX3_addBar_29 : decode cX3_addBar 29 = .ok (.aload_n 0, 1) := by decide +kernel
theorem dX3_addBar_30 : decode cX3_addBar 30 = .ok (.dup, 1) := by decide +kernel
theorem dX3_addBar_31 : decode cX3_addBar 31 = .ok (.getfield 40, 3) := by decide +kernel
theorem dX3_addBar_34 : decode cX3_addBar 34 = .ok (.iconst 1, 1) := by decide +kernel
theorem dX3_addBar_35 : decode cX3_addBar 35 = .ok (.iadd, 1) := by decide +kernel
theorem dX3_addBar_36 : decode cX3_addBar 36 = .ok (.putfield 40, 3) := by decide +kernel
theorem dX3_addBar_39 : decode cX3_addBar 39 = .ok (.return_, 1) := by decide +kernel
theorem dX4_set_0 : decode cX4_set 0 = .ok (.iload_n 1, 1) := by decide +kernel
theorem dX4_set_1 : decode cX4_set 1 = .ok (.aload_n 0, 1) := by decide +kernel
theorem dX4_set_2 : decode cX4_set 2 = .ok (.getfield 27, 3) := by decide +kernel
theorem dX4_set_5 : decode cX4_set 5 = .ok (.if_icmp .eq 13, 3) := by decide +kernel
theorem dX4_set_8 : decode cX4_set 8 = .ok (.iload_n 1, 1) := by decide +kernel
theorem dX4_set_9 : decode cX4_set 9 = .ok (.iconst 1, 1) := by decide +kernel
theorem dX4_set_10 : decode cX4_set 10 = .ok (.if_icmp .lt 8, 3) := by decide +kernel
theorem dX4_set_13 : decode cX4_set 13 = .ok (.iload_n 1, 1) := by decide +kernel
theorem dX4_set_14 : decode cX4_set 14 = .ok (.iconst 4, 1) := by decide +kernel
theorem dX4_set_15 : decode cX4_set 15 = .ok (.if_icmp .le 4, 3) := by decide +kernel
theorem dX4_set_18 : decode cX4_set 18 = .ok (.return_, 1) := by decide +kernel
theorem dX4_set_19 : decode cX4_set 19 = .ok (.aload_n 0, 1) := by decide +kernel
theorem dX4_set_20 : decode cX4_set 20 = .ok (.iload_n 1, 1) := by decide +kernel
theorem dX4_set_21 : decode cX4_set 21 = .ok (.putfield 27, 3) := by decide +kernel
theorem dX4_set_24 : decode cX4_set 24 = .ok (.aload_n 0, 1) := by decide +kernel
theorem dX4_set_25 : decode cX4_set 25 = .ok (.iconst 0, 1) := by decide +kernel
theorem dX4_set_26 : decode cX4_set 26 = .ok (.putfield 31, 3) := by decide +kernel
theorem dX4_set_29 : decode cX4_set 29 = .ok (.aload_n 0, 1) := by decide +kernel
theorem dX4_set_30 : decode cX4_set 30 = .ok (.getfield 18, 3) := by decide +kernel
theorem dX4_set_33 : decode cX4_set 33 = .ok (.iconst 0, 1) := by decide +kernel
theorem dX4_set_34 : decode cX4_set 34 = .ok (.invokestatic 34, 3) := by decide +kernel
theorem dX4_set_37 : decode cX4_set 37 = .ok (.iconst 0, 1) := by decide +kernel
theorem dX4_set_38 : decode cX4_set 38 = .ok (.istore_n 2, 1) := by decide +kernel
theorem dX4_set_39 : decode cX4_set 39 = .ok (.iload_n 2, 1) := by decide +kernel
theorem dX4_set_40 : decode cX4_set 40 = .ok (.iconst 1, 1) := by decide +kernel
theorem dX4_set_41 : decode cX4_set 41 = .ok (.iconst 2, 1) := by decide +kernel
theorem dX4_set_42 : decode cX4_set 42 = .ok (.iload_n 1, 1) := by decide +kernel
theorem dX4_set_43 : decode cX4_set 43 = .ok (.imul, 1) := by decide +kernel
theorem dX4_set_44 : decode cX4_set 44 = .ok (.ishl, 1) := by decide +kernel
theorem dX4_set_45 : decode cX4_set 45 = .ok (.if_icmp .ge 34, 3) := by decide +kernel
theorem dX4_set_48 : decode cX4_set 48 = .ok (.aload_n 0, 1) := by decide +kernel
theorem dX4_set_49 : decode cX4_set 49 = .ok (.getfield 31, 3) := by decide +kernel
theorem dX4_set_52 : decode cX4_set 52 = .ok (.bipush 24, 2) := by decide +kernel
theorem dX4_set_54 : decode cX4_set 54 = .ok (.if_icmp .ge 19, 3) := by decide +kernel
theorem dX4_set_57 : decode cX4_set 57 = .ok (.iload_n 2, 1) := by decide +kernel
theorem dX4_set_58 : decode cX4_set 58 = .ok (.iload_n 1, 1) := by decide +kernel
theorem dX4_set_59 : decode cX4_set 59 = .ok (.aload_n 0, 1) := by decide +kernel
theorem dX4_set_60 : decode cX4_set 60 = .ok (.getfield 24, 3) := by decide +kernel
theorem dX4_set_63 : decode cX4_set 63 = .ok (.invokestatic 40, 3) := by decide +kernel
theorem dX4_set_66 : decode cX4_set 66 = .ok (.ifCond .eq 7, 3) := by decide +kernel
theorem dX4_set_69 : decode cX4_set 69 = .ok (.aload_n 0, 1) := by decide +kernel
theorem dX4_set_70 : decode cX4_set 70 = .ok (.invokevirtual 44, 3) := by decide +kernel
theorem dX4_set_73 : decode cX4_set 73 = .ok (.iinc 2 1, 3) := by decide +kernel
theorem dX4_set_76 : decode cX4_set 76 = .ok (.goto (-37), 3) := by decide +kernel
theorem dX4_set_79 : decode cX4_set 79 = .ok (.aload_n 0, 1) := by decide +kernel
theorem dX4_set_80 : decode cX4_set 80 = .ok (.iconst 1, 1) := by decide +kernel
theorem dX4_set_81 : decode cX4_set 81 = .ok (.aload_n 0, 1) := by decide +kernel
theorem dX4_set_82 : decode cX4_set 82 = .ok (.getfield 31, 3) := by decide +kernel
theorem dX4_set_85 : decode cX4_set 85 = .ok (.ishl, 1) := by decide +kernel
theorem dX4_set_86 : decode cX4_set 86 = .ok (.iconst 1, 1) := by decide +kernel
theorem dX4_set_87 : decode cX4_set 87 = .ok (.isub, 1) := by decide +kernel
theorem dX4_set_88 : decode cX4_set 88 = .ok (.putfield 47, 3) := by decide +kernel
theorem dX4_set_91 : decode cX4_set 91 = .ok (.iconst 0, 1) := by decide +kernel
theorem dX4_set_92 : decode cX4_set 92 = .ok (.istore_n 2, 1) := by decide +kernel
theorem dX4_set_93 : decode cX4_set 93 = .ok (.iload_n 2, 1) := by decide +kernel
theorem dX4_set_94 : decode cX4_set 94 = .ok (.aload_n 0, 1) := by decide +kernel
theorem dX4_set_95 : decode cX4_set 95 = .ok (.getfield 31, 3) := by decide +kernel
theorem dX4_set_98 : decode cX4_set 98 = .ok (.if_icmp .ge 14, 3) := by decide +kernel
theorem dX4_set_101 : decode cX4_set 101 = .ok (.aload_n 0, 1) := by decide +kernel
theorem dX4_set_102 : decode cX4_set 102 = .ok (.iload_n 2, 1) := by decide +kernel
theorem dX4_set_103 : decode cX4_set 103 = .ok (.invokevirtual 50, 3) := by decide +kernel
theorem dX4_set_106 : decode cX4_set 106 = .ok (.iinc 2 1, 3) := by decide +kernel
theorem dX4_set_109 : decode cX4_set 109 = .ok (.goto (-16), 3) := by decide +kernel
theorem dX4_set_112 : decode cX4_set 112 = .ok (.return_, 1) := by decide +kernel
theorem dX4_readRow_0 : decode cX4_readRow 0 = .ok (.iconst 0, 1) := by decide +kernel
theorem dX4_readRow_1 : decode cX4_readRow 1 = .ok (.istore_n 3, 1) := by decide +kernel
theorem dX4_readRow_2 : decode cX4_readRow 2 = .ok (.iconst 0, 1) := by decide +kernel
theorem dX4_readRow_3 : decode cX4_readRow 3 = .ok (.istore 4, 2) := by decide +kernel
theorem dX4_readRow_5 : decode cX4_readRow 5 = .ok (.iload 4, 2) := by decide +kernel
theorem dX4_readRow_7 : decode cX4_readRow 7 = .ok (.iload_n 1, 1) := by decide +kernel
theorem dX4_readRow_8 : decode cX4_readRow 8 = .ok (.if_icmp .ge 41, 3) := by decide +kernel
theorem dX4_readRow_11 : decode cX4_readRow 11 = .ok (.iload 4, 2) := by decide +kernel
theorem dX4_readRow_13 : decode cX4_readRow 13 = .ok (.aload_n 2, 1) := by decide +kernel
theorem dX4_readRow_14 : decode cX4_readRow 14 = .ok (.arraylength, 1) := by decide +kernel
theorem dX4_readRow_15 : decode cX4_readRow 15 = .ok (.if_icmp .ge 34, 3) := by decide +kernel
theorem dX4_readRow_18 : decode cX4_readRow 18 = .ok (.aload_n 2, 1) := by decide +kernel
theorem dX4_readRow_19 : decode cX4_readRow 19 = .ok (.iload 4, 2) := by decide +kernel
theorem dX4_readRow_21 : decode cX4_readRow 21 = .ok (.iload_n 0, 1) := by decide +kernel
theorem dX4_readRow_22 : decode cX4_readRow 22 = .ok (.iconst 2, 1) := by decide +kernel
theorem dX4_readRow_23 : decode cX4_readRow 23 = .ok (.iload_n 1, 1) := by decide +kernel
theorem dX4_readRow_24 : decode cX4_readRow 24 = .ok (.iconst 1, 1) := by decide +kernel
theorem dX4_readRow_25 : decode cX4_readRow 25 = .ok (.isub, 1) := by decide +kernel
theorem dX4_readRow_26 : decode cX4_readRow 26 = .ok (.iload 4, 2) := by decide +kernel
theorem dX4_readRow_28 : decode cX4_readRow 28 = .ok (.isub, 1) := by decide +kernel
theorem dX4_readRow_29 : decode cX4_readRow 29 = .ok (.imul, 1) := by decide +kernel
theorem dX4_readRow_30 : decode cX4_readRow 30 = .ok (.iushr, 1) := by decide +kernel
theorem dX4_readRow_31 : decode cX4_readRow 31 = .ok (.iconst 3, 1) := by decide +kernel
theorem dX4_readRow_32 : decode cX4_readRow 32 = .ok (.iand, 1) := by decide +kernel
theorem dX4_readRow_33 : decode cX4_readRow 33 = .ok (.iastore, 1) := by decide +kernel
theorem dX4_readRow_34 : decode cX4_readRow 34 = .ok (.iload_n 3, 1) := by decide +kernel
theorem dX4_readRow_35 : decode cX4_readRow 35 = .ok (.iconst 1, 1) := by decide +kernel
theorem dX4_readRow_36 : decode cX4_readRow 36 = .ok (.aload_n 2, 1) := by decide +kernel
theorem dX4_readRow_37 : decode cX4_readRow 37 = .ok (.iload 4, 2) := by decide +kernel
theorem dX4_readRow_39 : decode cX4_readRow 39 = .ok (.iaload, 1) := by decide +kernel
theorem dX4_readRow_40 : decode cX4_readRow 40 = .ok (.ishl, 1) := by decide +kernel
theorem dX4_readRow_41 : decode cX4_readRow 41 = .ok (.ior, 1) := by decide +kernel
theorem dX4_readRow_42 : decode cX4_readRow 42 = .ok (.istore_n 3, 1) := by decide +kernel
theorem dX4_readRow_43 : decode cX4_readRow 43 = .ok (.iinc 4 1, 3) := by decide +kernel
theorem dX4_readRow_46 : decode cX4_readRow 46 = .ok (.goto (-41), 3) := by decide +kernel
theorem dX4_readRow_49 : decode cX4_readRow 49 = .ok (.iload_n 3, 1) := by decide +kernel
theorem dX4_readRow_50 : decode cX4_readRow 50 = .ok (.iconst 1, 1) := by decide +kernel
theorem dX4_readRow_51 : decode cX4_readRow 51 = .ok (.iload_n 1, 1) := by decide +kernel
theorem dX4_readRow_52 : decode cX4_readRow 52 = .ok (.ishl, 1) := by decide +kernel
theorem dX4_readRow_53 : decode cX4_readRow 53 = .ok (.iconst 1, 1) := by decide +kernel
theorem dX4_readRow_54 : decode cX4_readRow 54 = .ok (.isub, 1) := by decide +kernel
theorem dX4_readRow_55 : decode cX4_readRow 55 = .ok (.if_icmp .ne 7, 3) := by decide +kernel
theorem dX4_readRow_58 : decode cX4_readRow 58 = .ok (.iconst 1, 1) := by decide +kernel
theorem dX4_readRow_59 : decode cX4_readRow 59 = .ok (.goto 4, 3) := by decide +kernel
theorem dX4_readRow_62 : decode cX4_readRow 62 = .ok (.iconst 0, 1) := by decide +kernel
theorem dX4_readRow_63 : decode cX4_readRow 63 = .ok (.ireturn, 1) := by decide +kernel
theorem dX4_addRow_0 : decode cX4_addRow 0 = .ok (.iconst 0, 1) := by decide +kernel
theorem dX4_addRow_1 : decode cX4_addRow 1 = .ok (.istore_n 1, 1) := by decide +kernel
theorem dX4_addRow_2 : decode cX4_addRow 2 = .ok (.iload_n 1, 1) := by decide +kernel
theorem dX4_addRow_3 : decode cX4_addRow 3 = .ok (.aload_n 0, 1) := by decide +kernel
theorem dX4_addRow_4 : decode cX4_addRow 4 = .ok (.getfield 27, 3) := by decide +kernel
theorem dX4_addRow_7 : decode cX4_addRow 7 = .ok (.if_icmp .ge 63, 3) := by decide +kernel
theorem dX4_addRow_10 : decode cX4_addRow 10 = .ok (.aload_n 0, 1) := by decide +kernel
theorem dX4_addRow_11 : decode cX4_addRow 11 = .ok (.getfield 24, 3) := by decide +kernel
theorem dX4_addRow_14 : decode cX4_addRow 14 = .ok (.iload_n 1, 1) := by decide +kernel
theorem dX4_addRow_15 : decode cX4_addRow 15 = .ok (.iaload, 1) := by decide +kernel
theorem dX4_addRow_16 : decode cX4_addRow 16 = .ok (.istore_n 2, 1) := by decide +kernel
theorem dX4_addRow_17 : decode cX4_addRow 17 = .ok (.aload_n 0, 1) := by decide +kernel
theorem dX4_addRow_18 : decode cX4_addRow 18 = .ok (.getfield 9, 3) := by decide +kernel
theorem dX4_addRow_21 : decode cX4_addRow 21 = .ok (.aload_n 0, 1) := by decide +kernel
theorem dX4_addRow_22 : decode cX4_addRow 22 = .ok (.getfield 31, 3) := by decide +kernel
theorem dX4_addRow_25 : decode cX4_addRow 25 = .ok (.iconst 4, 1) := by decide +kernel
theorem dX4_addRow_26 : decode cX4_addRow 26 = .ok (.imul, 1) := by decide +kernel
theorem dX4_addRow_27 : decode cX4_addRow 27 = .ok (.iload_n 1, 1) := by decide +kernel
theorem dX4_addRow_28 : decode cX4_addRow 28 = .ok (.iadd, 1) := by decide +kernel
theorem dX4_addRow_29 : decode cX4_addRow 29 = .ok (.iload_n 2, 1) := by decide +kernel
theorem dX4_addRow_30 : decode cX4_addRow 30 = .ok (.iastore, 1) := by decide +kernel
theorem dX4_addRow_31 : decode cX4_addRow 31 = .ok (.aload_n 0, 1) := by decide +kernel
theorem dX4_addRow_32 : decode cX4_addRow 32 = .ok (.getfield 15, 3) := by decide +kernel
theorem dX4_addRow_35 : decode cX4_addRow 35 = .ok (.aload_n 0, 1) := by decide +kernel
theorem dX4_addRow_36 : decode cX4_addRow 36 = .ok (.getfield 31, 3) := by decide +kernel
theorem dX4_addRow_39 : decode cX4_addRow 39 = .ok (.iconst 4, 1) := by decide +kernel
theorem dX4_addRow_40 : decode cX4_addRow 40 = .ok (.imul, 1) := by decide +kernel
theorem dX4_addRow_41 : decode cX4_addRow 41 = .ok (.iload_n 2, 1) := by decide +kernel
theorem dX4_addRow_42 : decode cX4_addRow 42 = .ok (.iadd, 1) := by decide +kernel
theorem dX4_addRow_43 : decode cX4_addRow 43 = .ok (.iload_n 1, 1) := by decide +kernel
theorem dX4_addRow_44 : decode cX4_addRow 44 = .ok (.iastore, 1) := by decide +kernel
theorem dX4_addRow_45 : decode cX4_addRow 45 = .ok (.aload_n 0, 1) := by decide +kernel
theorem dX4_addRow_46 : decode cX4_addRow 46 = .ok (.getfield 18, 3) := by decide +kernel
theorem dX4_addRow_49 : decode cX4_addRow 49 = .ok (.iload_n 1, 1) := by decide +kernel
theorem dX4_addRow_50 : decode cX4_addRow 50 = .ok (.iconst 4, 1) := by decide +kernel
theorem dX4_addRow_51 : decode cX4_addRow 51 = .ok (.imul, 1) := by decide +kernel
theorem dX4_addRow_52 : decode cX4_addRow 52 = .ok (.iload_n 2, 1) := by decide +kernel
theorem dX4_addRow_53 : decode cX4_addRow 53 = .ok (.iadd, 1) := by decide +kernel
theorem dX4_addRow_54 : decode cX4_addRow 54 = .ok (.dup2, 1) := by decide +kernel
theorem dX4_addRow_55 : decode cX4_addRow 55 = .ok (.iaload, 1) := by decide +kernel
theorem dX4_addRow_56 : decode cX4_addRow 56 = .ok (.iconst 1, 1) := by decide +kernel
theorem dX4_addRow_57 : decode cX4_addRow 57 = .ok (.aload_n 0, 1) := by decide +kernel
theorem dX4_addRow_58 : decode cX4_addRow 58 = .ok (.getfield 31, 3) := by decide +kernel
theorem dX4_addRow_61 : decode cX4_addRow 61 = .ok (.ishl, 1) := by decide +kernel
theorem dX4_addRow_62 : decode cX4_addRow 62 = .ok (.ior, 1) := by decide +kernel
theorem dX4_addRow_63 : decode cX4_addRow 63 = .ok (.iastore, 1) := by decide +kernel
theorem dX4_addRow_64 : decode cX4_addRow 64 = .ok (.iinc 1 1, 3) := by decide +kernel
theorem dX4_addRow_67 : decode cX4_addRow 67 = .ok (.goto (-65), 3) := by decide +kernel
theorem dX4_addRow_70 : decode cX4_addRow 70 = .ok (.aload_n 0, 1) := by decide +kernel
theorem dX4_addRow_71 : decode cX4_addRow 71 = .ok (.dup, 1) := by decide +kernel
theorem dX4_addRow_72 : decode cX4_addRow 72 = .ok (.getfield 31, 3) := by decide +kernel
theorem dX4_addRow_75 : decode cX4_addRow 75 = .ok (.iconst 1, 1) := by decide +kernel
theorem dX4_addRow_76 : decode cX4_addRow 76 = .ok (.iadd, 1) := by decide +kernel
theorem dX4_addRow_77 : decode cX4_addRow 77 = .ok (.putfield 31, 3) := by decide +kernel
theorem dX4_addRow_80 : decode cX4_addRow 80 = .ok (.return_, 1) := by decide +kernel
theorem dX4_setSwaps_0 : decode cX4_setSwaps 0 = .ok (.iconst 0, 1) := by decide +kernel
theorem dX4_setSwaps_1 : decode cX4_setSwaps 1 = .ok (.istore_n 2, 1) := by decide +kernel
theorem dX4_setSwaps_2 : decode cX4_setSwaps 2 = .ok (.iconst 0, 1) := by decide +kernel
theorem dX4_setSwaps_3 : decode cX4_setSwaps 3 = .ok (.istore_n 3, 1) := by decide +kernel
theorem dX4_setSwaps_4 : decode cX4_setSwaps 4 = .ok (.iload_n 3, 1) := by decide +kernel
theorem dX4_setSwaps_5 : decode cX4_setSwaps 5 = .ok (.aload_n 0, 1) := by decide +kernel
theorem dX4_setSwaps_6 : decode cX4_setSwaps 6 = .ok (.getfield 27, 3) := by decide +kernel
theorem dX4_setSwaps_9 : decode cX4_setSwaps 9 = .ok (.if_icmp .ge 51, 3) := by decide +kernel
theorem dX4_setSwaps_12 : decode cX4_setSwaps 12 = .ok (.iload_n 3, 1) := by decide +kernel
theorem dX4_setSwaps_13 : decode cX4_setSwaps 13 = .ok (.iconst 1, 1) := by decide +kernel
theorem dX4_setSwaps_14 : decode cX4_setSwaps 14 = .ok (.iadd, 1) := by decide +kernel
theorem dX4_setSwaps_15 : decode cX4_setSwaps 15 = .ok (.istore 4, 2) := by decide +kernel
theorem dX4_setSwaps_17 : decode cX4_setSwaps 17 = .ok (.iload 4, 2) := by decide +kernel
theorem dX4_setSwaps_19 : decode cX4_setSwaps 19 = .ok (.aload_n 0, 1) := by decide +kernel
theorem dX4_setSwaps_20 : decode cX4_setSwaps 20 = .ok (.getfield 27, 3) := by decide +kernel
theorem dX4_setSwaps_23 : decode cX4_setSwaps 23 = .ok (.if_icmp .ge 31, 3) := by decide +kernel
theorem dX4_setSwaps_26 : decode cX4_setSwaps 26 = .ok (.aload_n 0, 1) := by decide +kernel
theorem dX4_setSwaps_27 : decode cX4_setSwaps 27 = .ok (.getfield 21, 3) := by decide +kernel
theorem dX4_setSwaps_30 : decode cX4_setSwaps 30 = .ok (.iload_n 1, 1) := by decide +kernel
theorem dX4_setSwaps_31 : decode cX4_setSwaps 31 = .ok (.bipush 6, 2) := by decide +kernel
theorem dX4_setSwaps_33 : decode cX4_setSwaps 33 = .ok (.imul, 1) := by decide +kernel
theorem dX4_setSwaps_34 : decode cX4_setSwaps 34 = .ok (.iload_n 2, 1) := by decide +kernel
theorem dX4_setSwaps_35 : decode cX4_setSwaps 35 = .ok (.iadd, 1) := by decide +kernel
theorem dX4_setSwaps_36 : decode cX4_setSwaps 36 = .ok (.aload_n 0, 1) := by decide +kernel
theorem dX4_setSwaps_37 : decode cX4_setSwaps 37 = .ok (.iload_n 1, 1) := by decide +kernel
theorem dX4_setSwaps_38 : decode cX4_setSwaps 38 = .ok (.iload_n 3, 1) := by decide +kernel
theorem dX4_setSwaps_39 : decode cX4_setSwaps 39 = .ok (.iload 4, 2) := by decide +kernel
theorem dX4_setSwaps_41 : decode cX4_setSwaps 41 = .ok (.invokevirtual 54, 3) := by decide +kernel
theorem dX4_setSwaps_44 : decode cX4_setSwaps 44 = .ok (.iastore, 1) := by decide +kernel
theorem dX4_setSwaps_45 : decode cX4_setSwaps 45 = .ok (.iinc 2 1, 3) := by decide +kernel
theorem dX4_setSwaps_48 : decode cX4_setSwaps 48 = .ok (.iinc 4 1, 3) := by decide +kernel
theorem dX4_setSwaps_51 : decode cX4_setSwaps 51 = .ok (.goto (-34), 3) := by decide +kernel
theorem dX4_setSwaps_54 : decode cX4_setSwaps 54 = .ok (.iinc 3 1, 3) := by decide +kernel
theorem dX4_setSwaps_57 : decode cX4_setSwaps 57 = .ok (.goto (-53), 3) := by decide +kernel
theorem dX4_setSwaps_60 : decode cX4_setSwaps 60 = .ok (.aload_n 0, 1) := by decide +kernel
theorem dX4_setSwaps_61 : decode cX4_setSwaps 61 = .ok (.iload_n 2, 1) := by decide +kernel
theorem dX4_setSwaps_62 : decode cX4_setSwaps 62 = .ok (.putfield 58, 3) := by decide +kernel
theorem dX4_setSwaps_65 : decode cX4_setSwaps 65 = .ok (.return_, 1) := by decide +kernel
theorem dX4_rankWithSwapped_0 : decode cX4_rankWithSwapped 0 = .ok (.aload_n 0, 1) := by decide +kernel
theorem dX4_rankWithSwapped_1 : decode cX4_rankWithSwapped 1 = .ok (.getfield 47, 3) := by decide +kernel
theorem dX4_rankWithSwapped_4 : decode cX4_rankWithSwapped 4 = .ok (.istore 4, 2) := by decide +kernel
theorem dX4_rankWithSwapped_6 : decode cX4_rankWithSwapped 6 = .ok (.iconst 0, 1) := by decide +kernel
theorem dX4_rankWithSwapped_7 : decode cX4_rankWithSwapped 7 = .ok (.istore 5, 2) := by decide +kernel
theorem dX4_rankWithSwapped_9 : decode cX4_rankWithSwapped 9 = .ok (.iload 5, 2) := by decide +kernel
theorem dX4_rankWithSwapped_11 : decode cX4_rankWithSwapped 11 = .ok (.aload_n 0, 1) := by decide +kernel
theorem dX4_rankWithSwapped_12 : decode cX4_rankWithSwapped 12 = .ok (.getfield 27, 3) := by decide +kernel
theorem dX4_rankWithSwapped_15 : decode cX4_rankWithSwapped 15 = .ok (.if_icmp .ge 59, 3) := by decide +kernel
theorem dX4_rankWithSwapped_18 : decode cX4_rankWithSwapped 18 = .ok (.aload_n 0, 1) := by decide +kernel
theorem dX4_rankWithSwapped_19 : decode cX4_rankWithSwapped 19 = .ok (.iload_n 1, 1) := by decide +kernel
theorem dX4_rankWithSwapped_20 : decode cX4_rankWithSwapped 20 = .ok (.iload 5, 2) := by decide +kernel
theorem dX4_rankWithSwapped_22 : decode cX4_rankWithSwapped 22 = .ok (.invokevirtual 61, 3) := by decide +kernel
theorem dX4_rankWithSwapped_25 : decode cX4_rankWithSwapped 25 = .ok (.istore 6, 2) := by decide +kernel
theorem dX4_rankWithSwapped_27 : decode cX4_rankWithSwapped 27 = .ok (.iload 6, 2) := by decide +kernel
theorem dX4_rankWithSwapped_29 : decode cX4_rankWithSwapped 29 = .ok (.iload_n 2, 1) := by decide +kernel
theorem dX4_rankWithSwapped_30 : decode cX4_rankWithSwapped 30 = .ok (.if_icmp .ne 7, 3) := by decide +kernel
theorem dX4_rankWithSwapped_33 : decode cX4_rankWithSwapped 33 = .ok (.iload_n 3, 1) := by decide +kernel
theorem dX4_rankWithSwapped_34 : decode cX4_rankWithSwapped 34 = .ok (.goto 15, 3) := by decide +kernel
theorem dX4_rankWithSwapped_37 : decode cX4_rankWithSwapped 37 = .ok (.iload 6, 2) := by decide +kernel
theorem dX4_rankWithSwapped_39 : decode cX4_rankWithSwapped 39 = .ok (.iload_n 3, 1) := by decide +kernel
theorem dX4_rankWithSwapped_40 : decode cX4_rankWithSwapped 40 = .ok (.if_icmp .ne 7, 3) := by decide +kernel
theorem dX4_rankWithSwapped_43 : decode cX4_rankWithSwapped 43 = .ok (.iload_n 2, 1) := by decide +kernel
theorem dX4_rankWithSwapped_44 : decode cX4_rankWithSwapped 44 = .ok (.goto 5, 3) := by decide +kernel
theorem dX4_rankWithSwapped_47 : decode cX4_rankWithSwapped 47 = .ok (.iload 6, 2) := by decide +kernel
theorem dX4_rankWithSwapped_49 : decode cX4_rankWithSwapped 49 = .ok (.istore 7, 2) := by decide +kernel
theorem dX4_rankWithSwapped_51 : decode cX4_rankWithSwapped 51 = .ok (.iload 4, 2) := by decide +kernel
theorem dX4_rankWithSwapped_53 : decode cX4_rankWithSwapped 53 = .ok (.aload_n 0, 1) := by decide +kernel
theorem dX4_rankWithSwapped_54 : decode cX4_rankWithSwapped 54 = .ok (.getfield 18, 3) := by decide +kernel
theorem dX4_rankWithSwapped_57 : decode cX4_rankWithSwapped 57 = .ok (.iload 5, 2) := by decide +kernel
theorem dX4_rankWithSwapped_59 : decode cX4_rankWithSwapped 59 = .ok (.iconst 4, 1) := by decide +kernel
theorem dX4_rankWithSwapped_60 : decode cX4_rankWithSwapped 60 = .ok (.imul, 1) := by decide +kernel
theorem dX4_rankWithSwapped_61 : decode cX4_rankWithSwapped 61 = .ok (.iload 7, 2) := by decide +kernel
theorem dX4_rankWithSwapped_63 : decode cX4_rankWithSwapped 63 = .ok (.iadd, 1) := by decide +kernel
theorem dX4_rankWithSwapped_64 : decode cX4_rankWithSwapped 64 = .ok (.iaload, 1) := by decide +kernel
theorem dX4_rankWithSwapped_65 : decode cX4_rankWithSwapped 65 = .ok (.iand, 1) := by decide +kernel
theorem dX4_rankWithSwapped_66 : decode cX4_rankWithSwapped 66 = .ok (.istore 4, 2) := by decide +kernel
theorem dX4_rankWithSwapped_68 : decode cX4_rankWithSwapped 68 = .ok (.iinc 5 1, 3) := by decide +kernel
theorem dX4_rankWithSwapped_71 : decode cX4_rankWithSwapped 71 = .ok (.goto (-62), 3) := by decide +kernel
theorem dX4_rankWithSwapped_74 : decode cX4_rankWithSwapped 74 = .ok (.iload 4, 2) := by decide +kernel
theorem dX4_rankWithSwapped_76 : decode cX4_rankWithSwapped 76 = .ok (.invokestatic 65, 3) := by decide +kernel
theorem dX4_rankWithSwapped_79 : decode cX4_rankWithSwapped 79 = .ok (.ireturn, 1) := by decide +kernel
theorem dX4_groupAt_0 : decode cX4_groupAt 0 = .ok (.aload_n 0, 1) := by decide +kernel
theorem dX4_groupAt_1 : decode cX4_groupAt 1 = .ok (.getfield 9, 3) := by decide +kernel
theorem dX4_groupAt_4 : decode cX4_groupAt 4 = .ok (.iload_n 1, 1) := by decide +kernel
theorem dX4_groupAt_5 : decode cX4_groupAt 5 = .ok (.iconst 4, 1) := by decide +kernel
theorem dX4_groupAt_6 : decode cX4_groupAt 6 = .ok (.imul, 1) := by decide +kernel
theorem dX4_groupAt_7 : decode cX4_groupAt 7 = .ok (.iload_n 2, 1) := by decide +kernel
theorem dX4_groupAt_8 : decode cX4_groupAt 8 = .ok (.iadd, 1) := by decide +kernel
theorem dX4_groupAt_9 : decode cX4_groupAt 9 = .ok (.iaload, 1) := by decide +kernel
theorem dX4_groupAt_10 : decode cX4_groupAt 10 = .ok (.ireturn, 1) := by decide +kernel
theorem dX4_only_0 : decode cX4_only 0 = .ok (.iload_n 0, 1) := by decide +kernel
theorem dX4_only_1 : decode cX4_only 1 = .ok (.ifCond .ne 7, 3) := by decide +kernel
theorem dX4_only_4 : decode cX4_only 4 = .ok (.iconst 0, 1) := by decide +kernel
theorem dX4_only_5 : decode cX4_only 5 = .ok (.goto 12, 3) := by decide +kernel
theorem dX4_only_8 : decode cX4_only 8 = .ok (.iload_n 0, 1) := by decide +kernel
theorem dX4_only_9 : decode cX4_only 9 = .ok (.iload_n 0, 1) := by decide +kernel
theorem dX4_only_10 : decode cX4_only 10 = .ok (.ineg, 1) := by decide +kernel
theorem dX4_only_11 : decode cX4_only 11 = .ok (.iand, 1) := by decide +kernel
theorem dX4_only_12 : decode cX4_only 12 = .ok (.iconst 1, 1) := by decide +kernel
theorem dX4_only_13 : decode cX4_only 13 = .ok (.isub, 1) := by decide +kernel
theorem dX4_only_14 : decode cX4_only 14 = .ok (.invokestatic 69, 3) := by decide +kernel
theorem dX4_only_17 : decode cX4_only 17 = .ok (.ireturn, 1) := by decide +kernel
theorem dX4_firstOpen_0 : decode cX4_firstOpen 0 = .ok (.iconst 0, 1) := by decide +kernel
theorem dX4_firstOpen_1 : decode cX4_firstOpen 1 = .ok (.istore 4, 2) := by decide +kernel
theorem dX4_firstOpen_3 : decode cX4_firstOpen 3 = .ok (.iload 4, 2) := by decide +kernel
theorem dX4_firstOpen_5 : decode cX4_firstOpen 5 = .ok (.aload_n 0, 1) := by decide +kernel
theorem dX4_firstOpen_6 : decode cX4_firstOpen 6 = .ok (.getfield 27, 3) := by decide +kernel
theorem dX4_firstOpen_9 : decode cX4_firstOpen 9 = .ok (.if_icmp .ge 34, 3) := by decide +kernel
theorem dX4_firstOpen_12 : decode cX4_firstOpen 12 = .ok (.iload_n 1, 1) := by decide +kernel
theorem dX4_firstOpen_13 : decode cX4_firstOpen 13 = .ok (.aload_n 0, 1) := by decide +kernel
theorem dX4_firstOpen_14 : decode cX4_firstOpen 14 = .ok (.getfield 18, 3) := by decide +kernel
theorem dX4_firstOpen_17 : decode cX4_firstOpen 17 = .ok (.iload_n 2, 1) := by decide +kernel
theorem dX4_firstOpen_18 : decode cX4_firstOpen 18 = .ok (.iconst 4, 1) := by decide +kernel
theorem dX4_firstOpen_19 : decode cX4_firstOpen 19 = .ok (.imul, 1) := by decide +kernel
theorem dX4_firstOpen_20 : decode cX4_firstOpen 20 = .ok (.aload_n 3, 1) := by decide +kernel
theorem dX4_firstOpen_21 : decode cX4_firstOpen 21 = .ok (.iload 4, 2) := by decide +kernel
theorem dX4_firstOpen_23 : decode cX4_firstOpen 23 = .ok (.iaload, 1) := by decide +kernel
theorem dX4_firstOpen_24 : decode cX4_firstOpen 24 = .ok (.iadd, 1) := by decide +kernel
theorem dX4_firstOpen_25 : decode cX4_firstOpen 25 = .ok (.iaload, 1) := by decide +kernel
theorem dX4_firstOpen_26 : decode cX4_firstOpen 26 = .ok (.iand, 1) := by decide +kernel
theorem dX4_firstOpen_27 : decode cX4_firstOpen 27 = .ok (.istore 5, 2) := by decide +kernel
theorem dX4_firstOpen_29 : decode cX4_firstOpen 29 = .ok (.iload 5, 2) := by decide +kernel
theorem dX4_firstOpen_31 : decode cX4_firstOpen 31 = .ok (.ifCond .eq 6, 3) := by decide +kernel
theorem dX4_firstOpen_34 : decode cX4_firstOpen 34 = .ok (.iload 5, 2) := by decide +kernel
theorem dX4_firstOpen_36 : decode cX4_firstOpen 36 = .ok (.ireturn, 1) := by decide +kernel
theorem dX4_firstOpen_37 : decode cX4_firstOpen 37 = .ok (.iinc 4 1, 3) := by decide +kernel
theorem dX4_firstOpen_40 : decode cX4_firstOpen 40 = .ok (.goto (-37), 3) := by decide +kernel
theorem dX4_firstOpen_43 : decode cX4_firstOpen 43 = .ok (.iconst 0, 1) := by decide +kernel
theorem dX4_firstOpen_44 : decode cX4_firstOpen 44 = .ok (.ireturn, 1) := by decide +kernel
theorem dX4_groupWith_0 : decode cX4_groupWith 0 = .ok (.iload_n 1, 1) := by decide +kernel
theorem dX4_groupWith_1 : decode cX4_groupWith 1 = .ok (.ifCond .ne 7, 3) := by decide +kernel
theorem dX4_groupWith_4 : decode cX4_groupWith 4 = .ok (.iconst (-1), 1) := by decide +kernel
theorem dX4_groupWith_5 : decode cX4_groupWith 5 = .ok (.goto 12, 3) := by decide +kernel
theorem dX4_groupWith_8 : decode cX4_groupWith 8 = .ok (.aload_n 0, 1) := by decide +kernel
theorem dX4_groupWith_9 : decode cX4_groupWith 9 = .ok (.iload_n 1, 1) := by decide +kernel
theorem dX4_groupWith_10 : decode cX4_groupWith 10 = .ok (.invokestatic 65, 3) := by decide +kernel
theorem dX4_groupWith_13 : decode cX4_groupWith 13 = .ok (.iload_n 2, 1) := by decide +kernel
theorem dX4_groupWith_14 : decode cX4_groupWith 14 = .ok (.invokevirtual 61, 3) := by decide +kernel
theorem dX4_groupWith_17 : decode cX4_groupWith 17 = .ok (.ireturn, 1) := by decide +kernel
theorem dX5_readLines_0 : decode cX5_readLines 0 = .ok (.aload_n 0, 1) := by decide +kernel
theorem dX5_readLines_1 : decode cX5_readLines 1 = .ok (.iload_n 1, 1) := by decide +kernel
theorem dX5_readLines_2 : decode cX5_readLines 2 = .ok (.aload_n 0, 1) := by decide +kernel
theorem dX5_readLines_3 : decode cX5_readLines 3 = .ok (.getfield 22, 3) := by decide +kernel
theorem dX5_readLines_6 : decode cX5_readLines 6 = .ok (.arraylength, 1) := by decide +kernel
theorem dX5_readLines_7 : decode cX5_readLines 7 = .ok (.invokestatic 26, 3) := by decide +kernel
theorem dX5_readLines_10 : decode cX5_readLines 10 = .ok (.putfield 32, 3) := by decide +kernel
theorem dX5_readLines_13 : decode cX5_readLines 13 = .ok (.aload_n 0, 1) := by decide +kernel
theorem dX5_readLines_14 : decode cX5_readLines 14 = .ok (.iconst 0, 1) := by decide +kernel
theorem dX5_readLines_15 : decode cX5_readLines 15 = .ok (.putfield 35, 3) := by decide +kernel
theorem dX5_readLines_18 : decode cX5_readLines 18 = .ok (.aload_n 0, 1) := by decide +kernel
theorem dX5_readLines_19 : decode cX5_readLines 19 = .ok (.iconst 0, 1) := by decide +kernel
theorem dX5_readLines_20 : decode cX5_readLines 20 = .ok (.putfield 38, 3) := by decide +kernel
theorem dX5_readLines_23 : decode cX5_readLines 23 = .ok (.aload_n 0, 1) := by decide +kernel
theorem dX5_readLines_24 : decode cX5_readLines 24 = .ok (.iconst (-1), 1) := by decide +kernel
theorem dX5_readLines_25 : decode cX5_readLines 25 = .ok (.putfield 18, 3) := by decide +kernel
theorem dX5_readLines_28 : decode cX5_readLines 28 = .ok (.aload_n 0, 1) := by decide +kernel
theorem dX5_readLines_29 : decode cX5_readLines 29 = .ok (.getfield 12, 3) := by decide +kernel
theorem dX5_readLines_32 : decode cX5_readLines 32 = .ok (.invokevirtual 41, 3) := by decide +kernel
theorem dX5_readLines_35 : decode cX5_readLines 35 = .ok (.aload_n 0, 1) := by decide +kernel
theorem dX5_readLines_36 : decode cX5_readLines 36 = .ok (.invokevirtual 44, 3) := by decide +kernel
theorem dX5_readLines_39 : decode cX5_readLines 39 = .ok (.iconst 0, 1) := by decide +kernel
theorem dX5_readLines_40 : decode cX5_readLines 40 = .ok (.istore_n 2, 1) := by decide +kernel
theorem dX5_readLines_41 : decode cX5_readLines 41 = .ok (.iconst 0, 1) := by decide +kernel
theorem dX5_readLines_42 : decode cX5_readLines 42 = .ok (.istore_n 3, 1) := by decide +kernel
theorem dX5_readLines_43 : decode cX5_readLines 43 = .ok (.iload_n 3, 1) := by decide +kernel
theorem dX5_readLines_44 : decode cX5_readLines 44 = .ok (.aload_n 0, 1) := by decide +kernel
theorem dX5_readLines_45 : decode cX5_readLines 45 = .ok (.getfield 32, 3) := by decide +kernel
theorem dX5_readLines_48 : decode cX5_readLines 48 = .ok (.if_icmp .gt 42, 3) := by decide +kernel
theorem dX5_readLines_51 : decode cX5_readLines 51 = .ok (.aload_n 0, 1) := by decide +kernel
theorem dX5_readLines_52 : decode cX5_readLines 52 = .ok (.getfield 47, 3) := by decide +kernel
theorem dX5_readLines_55 : decode cX5_readLines 55 = .ok (.ifCond .eq 35, 3) := by decide +kernel
theorem dX5_readLines_58 : decode cX5_readLines 58 = .ok (.aload_n 0, 1) := by decide +kernel
theorem dX5_readLines_59 : decode cX5_readLines 59 = .ok (.getfield 38, 3) := by decide +kernel
theorem dX5_readLines_62 : decode cX5_readLines 62 = .ok (.ifCond .ne 28, 3) := by decide +kernel
theorem dX5_readLines_65 : decode cX5_readLines 65 = .ok (.aload_n 0, 1) := by decide +kernel
theorem dX5_readLines_66 : decode cX5_readLines 66 = .ok (.iload_n 2, 1) := by decide +kernel
theorem dX5_readLines_67 : decode cX5_readLines 67 = .ok (.ifCond .ne 7, 3) := by decide +kernel
theorem dX5_readLines_70 : decode cX5_readLines 70 = .ok (.iconst 1, 1) := by decide +kernel
theorem dX5_readLines_71 : decode cX5_readLines 71 = .ok (.goto 4, 3) := by decide +kernel
theorem dX5_readLines_74 : decode cX5_readLines 74 = .ok (.iconst 0, 1) := by decide +kernel
theorem dX5_readLines_75 : decode cX5_readLines 75 = .ok (.invokevirtual 50, 3) := by decide +kernel
theorem dX5_readLines_78 : decode cX5_readLines 78 = .ok (.ifCond .eq 6, 3) := by decide +kernel
theorem dX5_readLines_81 : decode cX5_readLines 81 = .ok (.iinc 2 1, 3) := by decide +kernel
theorem dX5_readLines_84 : decode cX5_readLines 84 = .ok (.iinc 3 1, 3) := by decide +kernel
theorem dX5_readLines_87 : decode cX5_readLines 87 = .ok (.goto (-44), 3) := by decide +kernel
theorem dX5_readLines_90 : decode cX5_readLines 90 = .ok (.iload_n 2, 1) := by decide +kernel
theorem dX5_readLines_91 : decode cX5_readLines 91 = .ok (.ireturn, 1) := by decide +kernel
theorem dX5_fail_0 : decode cX5_fail 0 = .ok (.aload_n 0, 1) := by decide +kernel
theorem dX5_fail_1 : decode cX5_fail 1 = .ok (.iload_n 1, 1) := by decide +kernel
theorem dX5_fail_2 : decode cX5_fail 2 = .ok (.putfield 38, 3) := by decide +kernel
theorem dX5_fail_5 : decode cX5_fail 5 = .ok (.aload_n 0, 1) := by decide +kernel
theorem dX5_fail_6 : decode cX5_fail 6 = .ok (.aload_n 0, 1) := by decide +kernel
theorem dX5_fail_7 : decode cX5_fail 7 = .ok (.getfield 54, 3) := by decide +kernel
theorem dX5_fail_10 : decode cX5_fail 10 = .ok (.putfield 18, 3) := by decide +kernel
theorem dX5_fail_13 : decode cX5_fail 13 = .ok (.iconst 0, 1) := by decide +kernel
theorem dX5_fail_14 : decode cX5_fail 14 = .ok (.ireturn, 1) := by decide +kernel
theorem dX5_step_0 : decode cX5_step 0 = .ok (.aload_n 0, 1) := by decide +kernel
theorem dX5_step_1 : decode cX5_step 1 = .ok (.getfield 35, 3) := by decide +kernel
theorem dX5_step_4 : decode cX5_step 4 = .ok (.aload_n 0, 1) := by decide +kernel
theorem dX5_step_5 : decode cX5_step 5 = .ok (.getfield 32, 3) := by decide +kernel
theorem dX5_step_8 : decode cX5_step 8 = .ok (.if_icmp .ge 31, 3) := by decide +kernel
theorem dX5_step_11 : decode cX5_step 11 = .ok (.aload_n 0, 1) := by decide +kernel
theorem dX5_step_12 : decode cX5_step 12 = .ok (.getfield 22, 3) := by decide +kernel
theorem dX5_step_15 : decode cX5_step 15 = .ok (.aload_n 0, 1) := by decide +kernel
theorem dX5_step_16 : decode cX5_step 16 = .ok (.getfield 35, 3) := by decide +kernel
theorem dX5_step_19 : decode cX5_step 19 = .ok (.iaload, 1) := by decide +kernel
theorem dX5_step_20 : decode cX5_step 20 = .ok (.invokestatic 57, 3) := by decide +kernel
theorem dX5_step_23 : decode cX5_step 23 = .ok (.ifCond .eq 16, 3) := by decide +kernel
theorem dX5_step_26 : decode cX5_step 26 = .ok (.aload_n 0, 1) := by decide +kernel
theorem dX5_step_27 : decode cX5_step 27 = .ok (.dup, 1) := by decide +kernel
theorem dX5_step_28 : decode cX5_step 28 = .ok (.getfield 35, 3) := by decide +kernel
theorem dX5_step_31 : decode cX5_step 31 = .ok (.iconst 1, 1) := by decide +kernel
theorem dX5_step_32 : decode cX5_step 32 = .ok (.iadd, 1) := by decide +kernel
theorem dX5_step_33 : decode cX5_step 33 = .ok (.putfield 35, 3) := by decide +kernel
theorem dX5_step_36 : decode cX5_step 36 = .ok (.goto (-36), 3) := by decide +kernel
theorem dX5_step_39 : decode cX5_step 39 = .ok (.aload_n 0, 1) := by decide +kernel
theorem dX5_step_40 : decode cX5_step 40 = .ok (.aload_n 0, 1) := by decide +kernel
theorem dX5_step_41 : decode cX5_step 41 = .ok (.getfield 35, 3) := by decide +kernel
theorem dX5_step_44 : decode cX5_step 44 = .ok (.putfield 54, 3) := by decide +kernel
theorem dX5_step_47 : decode cX5_step 47 = .ok (.aload_n 0, 1) := by decide +kernel
theorem dX5_step_48 : decode cX5_step 48 = .ok (.getfield 35, 3) := by decide +kernel
theorem dX5_step_51 : decode cX5_step 51 = .ok (.aload_n 0, 1) := by decide +kernel
theorem dX5_step_52 : decode cX5_step 52 = .ok (.getfield 32, 3) := by decide +kernel
theorem dX5_step_55 : decode cX5_step 55 = .ok (.if_icmp .lt 11, 3) := by decide +kernel
theorem dX5_step_58 : decode cX5_step 58 = .ok (.aload_n 0, 1) := by decide +kernel
theorem dX5_step_59 : decode cX5_step 59 = .ok (.iconst 0, 1) := by decide +kernel
theorem dX5_step_60 : decode cX5_step 60 = .ok (.putfield 47, 3) := by decide +kernel
theorem dX5_step_63 : decode cX5_step 63 = .ok (.goto 80, 3) := by decide +kernel
theorem dX5_step_66 : decode cX5_step 66 = .ok (.aload_n 0, 1) := by decide +kernel
theorem dX5_step_67 : decode cX5_step 67 = .ok (.getfield 22, 3) := by decide +kernel
theorem dX5_step_70 : decode cX5_step 70 = .ok (.aload_n 0, 1) := by decide +kernel
theorem dX5_step_71 : decode cX5_step 71 = .ok (.getfield 35, 3) := by decide +kernel
theorem dX5_step_74 : decode cX5_step 74 = .ok (.iaload, 1) := by decide +kernel
theorem dX5_step_75 : decode cX5_step 75 = .ok (.invokestatic 61, 3) := by decide +kernel
theorem dX5_step_78 : decode cX5_step 78 = .ok (.ifCond .eq 10, 3) := by decide +kernel
theorem dX5_step_81 : decode cX5_step 81 = .ok (.aload_n 0, 1) := by decide +kernel
theorem dX5_step_82 : decode cX5_step 82 = .ok (.invokevirtual 64, 3) := by decide +kernel
theorem dX5_step_85 : decode cX5_step 85 = .ok (.goto 58, 3) := by decide +kernel
theorem dX5_step_88 : decode cX5_step 88 = .ok (.aload_n 0, 1) := by decide +kernel
theorem dX5_step_89 : decode cX5_step 89 = .ok (.getfield 22, 3) := by decide +kernel
theorem dX5_step_92 : decode cX5_step 92 = .ok (.aload_n 0, 1) := by decide +kernel
theorem dX5_step_93 : decode cX5_step 93 = .ok (.getfield 35, 3) := by decide +kernel
theorem dX5_step_96 : decode cX5_step 96 = .ok (.iaload, 1) := by decide +kernel
theorem dX5_step_97 : decode cX5_step 97 = .ok (.invokestatic 67, 3) := by decide +kernel
theorem dX5_step_100 : decode cX5_step 100 = .ok (.ifCond .eq 10, 3) := by decide +kernel
theorem dX5_step_103 : decode cX5_step 103 = .ok (.aload_n 0, 1) := by decide +kernel
theorem dX5_step_104 : decode cX5_step 104 = .ok (.invokevirtual 70, 3) := by decide +kernel
theorem dX5_step_107 : decode cX5_step 107 = .ok (.goto 36, 3) := by decide +kernel
theorem dX5_step_110 : decode cX5_step 110 = .ok (.aload_n 0, 1) := by decide +kernel
theorem dX5_step_111 : decode cX5_step 111 = .ok (.aload_n 0, 1) := by decide +kernel
theorem dX5_step_112 : decode cX5_step 112 = .ok (.getfield 22, 3) := by decide +kernel
theorem dX5_step_115 : decode cX5_step 115 = .ok (.aload_n 0, 1) := by decide +kernel
theorem dX5_step_116 : decode cX5_step 116 = .ok (.getfield 35, 3) := by decide +kernel
theorem dX5_step_119 : decode cX5_step 119 = .ok (.iaload, 1) := by decide +kernel
theorem dX5_step_120 : decode cX5_step 120 = .ok (.bipush 59, 2) := by decide +kernel
theorem dX5_step_122 : decode cX5_step 122 = .ok (.if_icmp .ne 7, 3) := by decide +kernel
theorem dX5_step_125 : decode cX5_step 125 = .ok (.iconst 3, 1) := by decide +kernel
theorem dX5_step_126 : decode cX5_step 126 = .ok (.goto 4, 3) := by decide +kernel
theorem dX5_step_129 : decode cX5_step 129 = .ok (.iconst 4, 1) := by decide +kernel
theorem dX5_step_130 : decode cX5_step 130 = .ok (.putfield 47, 3) := by decide +kernel
theorem dX5_step_133 : decode cX5_step 133 = .ok (.aload_n 0, 1) := by decide +kernel
theorem dX5_step_134 : decode cX5_step 134 = .ok (.dup, 1) := by decide +kernel
theorem dX5_step_135 : decode cX5_step 135 = .ok (.getfield 35, 3) := by decide +kernel
theorem dX5_step_138 : decode cX5_step 138 = .ok (.iconst 1, 1) := by decide +kernel
theorem dX5_step_139 : decode cX5_step 139 = .ok (.iadd, 1) := by decide +kernel
theorem dX5_step_140 : decode cX5_step 140 = .ok (.putfield 35, 3) := by decide +kernel
theorem dX5_step_143 : decode cX5_step 143 = .ok (.return_, 1) := by decide +kernel
theorem dX5_stepWord_0 : decode cX5_stepWord 0 = .ok (.iconst 0, 1) := by decide +kernel
theorem dX5_stepWord_1 : decode cX5_stepWord 1 = .ok (.istore_n 1, 1) := by decide +kernel
theorem dX5_stepWord_2 : decode cX5_stepWord 2 = .ok (.aload_n 0, 1) := by decide +kernel
theorem dX5_stepWord_3 : decode cX5_stepWord 3 = .ok (.iconst 0, 1) := by decide +kernel
theorem dX5_stepWord_4 : decode cX5_stepWord 4 = .ok (.putfield 73, 3) := by decide +kernel
theorem dX5_stepWord_7 : decode cX5_stepWord 7 = .ok (.aload_n 0, 1) := by decide +kernel
theorem dX5_stepWord_8 : decode cX5_stepWord 8 = .ok (.getfield 35, 3) := by decide +kernel
theorem dX5_stepWord_11 : decode cX5_stepWord 11 = .ok (.aload_n 0, 1) := by decide +kernel
theorem dX5_stepWord_12 : decode cX5_stepWord 12 = .ok (.getfield 32, 3) := by decide +kernel
theorem dX5_stepWord_15 : decode cX5_stepWord 15 = .ok (.if_icmp .ge 70, 3) := by decide +kernel
theorem dX5_stepWord_18 : decode cX5_stepWord 18 = .ok (.aload_n 0, 1) := by decide +kernel
theorem dX5_stepWord_19 : decode cX5_stepWord 19 = .ok (.getfield 22, 3) := by decide +kernel
theorem dX5_stepWord_22 : decode cX5_stepWord 22 = .ok (.aload_n 0, 1) := by decide +kernel
theorem dX5_stepWord_23 : decode cX5_stepWord 23 = .ok (.getfield 35, 3) := by decide +kernel
theorem dX5_stepWord_26 : decode cX5_stepWord 26 = .ok (.iaload, 1) := by decide +kernel
theorem dX5_stepWord_27 : decode cX5_stepWord 27 = .ok (.invokestatic 61, 3) := by decide +kernel
theorem dX5_stepWord_30 : decode cX5_stepWord 30 = .ok (.ifCond .eq 55, 3) := by decide +kernel
theorem dX5_stepWord_33 : decode cX5_stepWord 33 = .ok (.iload_n 1, 1) := by decide +kernel
theorem dX5_stepWord_34 : decode cX5_stepWord 34 = .ok (.bipush 6, 2) := by decide +kernel
theorem dX5_stepWord_36 : decode cX5_stepWord 36 = .ok (.if_icmp .ge 33, 3) := by decide +kernel
theorem dX5_stepWord_39 : decode cX5_stepWord 39 = .ok (.aload_n 0, 1) := by decide +kernel
theorem dX5_stepWord_40 : decode cX5_stepWord 40 = .ok (.dup, 1) := by decide +kernel
theorem dX5_stepWord_41 : decode cX5_stepWord 41 = .ok (.getfield 73, 3) := by decide +kernel
theorem dX5_stepWord_44 : decode cX5_stepWord 44 = .ok (.aload_n 0, 1) := by decide +kernel
theorem dX5_stepWord_45 : decode cX5_stepWord 45 = .ok (.getfield 22, 3) := by decide +kernel
theorem dX5_stepWord_48 : decode cX5_stepWord 48 = .ok (.aload_n 0, 1) := by decide +kernel
theorem dX5_stepWord_49 : decode cX5_stepWord 49 = .ok (.getfield 35, 3) := by decide +kernel
theorem dX5_stepWord_52 : decode cX5_stepWord 52 = .ok (.iaload, 1) := by decide +kernel
theorem dX5_stepWord_53 : decode cX5_stepWord 53 = .ok (.bipush 97, 2) := by decide +kernel
theorem dX5_stepWord_55 : decode cX5_stepWord 55 = .ok (.isub, 1) := by decide +kernel
theorem dX5_stepWord_56 : decode cX5_stepWord 56 = .ok (.iconst 1, 1) := by decide +kernel
theorem dX5_stepWord_57 : decode cX5_stepWord 57 = .ok (.iadd, 1) := by decide +kernel
theorem dX5_stepWord_58 : decode cX5_stepWord 58 = .ok (.bipush 25, 2) := by decide +kernel
theorem dX5_stepWord_60 : decode cX5_stepWord 60 = .ok (.iconst 5, 1) := by decide +kernel
theorem dX5_stepWord_61 : decode cX5_stepWord 61 = .ok (.iload_n 1, 1) := by decide +kernel
theorem dX5_stepWord_62 : decode cX5_stepWord 62 = .ok (.imul, 1) := by decide +kernel
theorem dX5_stepWord_63 : decode cX5_stepWord 63 = .ok (.isub, 1) := by decide +kernel
theorem dX5_stepWord_64 : decode cX5_stepWord 64 = .ok (.ishl, 1) := by decide +kernel
theorem dX5_stepWord_65 : decode cX5_stepWord 65 = .ok (.ior, 1) := by decide +kernel
theorem dX5_stepWord_66 : decode cX5_stepWord 66 = .ok (.putfield 73, 3) := by decide +kernel
theorem dX5_stepWord_69 : decode cX5_stepWord 69 = .ok (.iinc 1 1, 3) := by decide +kernel
theorem dX5_stepWord_72 : decode cX5_stepWord 72 = .ok (.aload_n 0, 1) := by decide +kernel
theorem dX5_stepWord_73 : decode cX5_stepWord 73 = .ok (.dup, 1) := by decide +kernel
theorem dX5_stepWord_74 : decode cX5_stepWord 74 = .ok (.getfield 35, 3) := by decide +kernel
theorem dX5_stepWord_77 : decode cX5_stepWord 77 = .ok (.iconst 1, 1) := by decide +kernel
theorem dX5_stepWord_78 : decode cX5_stepWord 78 = .ok (.iadd, 1) := by decide +kernel
theorem dX5_stepWord_79 : decode cX5_stepWord 79 = .ok (.putfield 35, 3) := by decide +kernel
theorem dX5_stepWord_82 : decode cX5_stepWord 82 = .ok (.goto (-75), 3) := by decide +kernel
theorem dX5_stepWord_85 : decode cX5_stepWord 85 = .ok (.aload_n 0, 1) := by decide +kernel
theorem dX5_stepWord_86 : decode cX5_stepWord 86 = .ok (.iload_n 1, 1) := by decide +kernel
theorem dX5_stepWord_87 : decode cX5_stepWord 87 = .ok (.bipush 6, 2) := by decide +kernel
theorem dX5_stepWord_89 : decode cX5_stepWord 89 = .ok (.if_icmp .gt 7, 3) := by decide +kernel
theorem dX5_stepWord_92 : decode cX5_stepWord 92 = .ok (.iconst 1, 1) := by decide +kernel
theorem dX5_stepWord_93 : decode cX5_stepWord 93 = .ok (.goto 4, 3) := by decide +kernel
theorem dX5_stepWord_96 : decode cX5_stepWord 96 = .ok (.iconst 4, 1) := by decide +kernel
theorem dX5_stepWord_97 : decode cX5_stepWord 97 = .ok (.putfield 47, 3) := by decide +kernel
theorem dX5_stepWord_100 : decode cX5_stepWord 100 = .ok (.return_, 1) := by decide +kernel
theorem dX5_stepNumber_0 : decode cX5_stepNumber 0 = .ok (.aload_n 0, 1) := by decide +kernel
theorem dX5_stepNumber_1 : decode cX5_stepNumber 1 = .ok (.iconst 0, 1) := by decide +kernel
theorem dX5_stepNumber_2 : decode cX5_stepNumber 2 = .ok (.putfield 73, 3) := by decide +kernel
theorem dX5_stepNumber_5 : decode cX5_stepNumber 5 = .ok (.aload_n 0, 1) := by decide +kernel
theorem dX5_stepNumber_6 : decode cX5_stepNumber 6 = .ok (.getfield 35, 3) := by decide +kernel
theorem dX5_stepNumber_9 : decode cX5_stepNumber 9 = .ok (.aload_n 0, 1) := by decide +kernel
theorem dX5_stepNumber_10 : decode cX5_stepNumber 10 = .ok (.getfield 32, 3) := by decide +kernel
theorem dX5_stepNumber_13 : decode cX5_stepNumber 13 = .ok (.if_icmp .ge 61, 3) := by decide +kernel
theorem dX5_stepNumber_16 : decode cX5_stepNumber 16 = .ok (.aload_n 0, 1) := by decide +kernel
theorem dX5_stepNumber_17 : decode cX5_stepNumber 17 = .ok (.getfield 22, 3) := by decide +kernel
theorem dX5_stepNumber_20 : decode cX5_stepNumber 20 = .ok (.aload_n 0, 1) := by decide +kernel
theorem dX5_stepNumber_21 : decode cX5_stepNumber 21 = .ok (.getfield 35, 3) := by decide +kernel
theorem dX5_stepNumber_24 : decode cX5_stepNumber 24 = .ok (.iaload, 1) := by decide +kernel
theorem dX5_stepNumber_25 : decode cX5_stepNumber 25 = .ok (.invokestatic 67, 3) := by decide +kernel
theorem dX5_stepNumber_28 : decode cX5_stepNumber 28 = .ok (.ifCond .eq 46, 3) := by decide +kernel
theorem dX5_stepNumber_31 : decode cX5_stepNumber 31 = .ok (.aload_n 0, 1) := by decide +kernel
theorem dX5_stepNumber_32 : decode cX5_stepNumber 32 = .ok (.aload_n 0, 1) := by decide +kernel
theorem dX5_stepNumber_33 : decode cX5_stepNumber 33 = .ok (.getfield 73, 3) := by decide +kernel
theorem dX5_stepNumber_36 : decode cX5_stepNumber 36 = .ok (.bipush 10, 2) := by decide +kernel
theorem dX5_stepNumber_38 : decode cX5_stepNumber 38 = .ok (.imul, 1) := by decide +kernel
theorem dX5_stepNumber_39 : decode cX5_stepNumber 39 = .ok (.aload_n 0, 1) := by decide +kernel
theorem dX5_stepNumber_40 : decode cX5_stepNumber 40 = .ok (.getfield 22, 3) := by decide +kernel
theorem dX5_stepNumber_43 : decode cX5_stepNumber 43 = .ok (.aload_n 0, 1) := by decide +kernel
theorem dX5_stepNumber_44 : decode cX5_stepNumber 44 = .ok (.getfield 35, 3) := by decide +kernel
theorem dX5_stepNumber_47 : decode cX5_stepNumber 47 = .ok (.iaload, 1) := by decide +kernel
theorem dX5_stepNumber_48 : decode cX5_stepNumber 48 = .ok (.iadd, 1) := by decide +kernel
theorem dX5_stepNumber_49 : decode cX5_stepNumber 49 = .ok (.bipush 48, 2) := by decide +kernel
theorem dX5_stepNumber_51 : decode cX5_stepNumber 51 = .ok (.isub, 1) := by decide +kernel
theorem dX5_stepNumber_52 : decode cX5_stepNumber 52 = .ok (.sipush 1000, 3) := by decide +kernel
theorem dX5_stepNumber_55 : decode cX5_stepNumber 55 = .ok (.invokestatic 26, 3) := by decide +kernel
theorem dX5_stepNumber_58 : decode cX5_stepNumber 58 = .ok (.putfield 73, 3) := by decide +kernel
theorem dX5_stepNumber_61 : decode cX5_stepNumber 61 = .ok (.aload_n 0, 1) := by decide +kernel
theorem dX5_stepNumber_62 : decode cX5_stepNumber 62 = .ok (.dup, 1) := by decide +kernel
theorem dX5_stepNumber_63 : decode cX5_stepNumber 63 = .ok (.getfield 35, 3) := by decide +kernel
theorem dX5_stepNumber_66 : decode cX5_stepNumber 66 = .ok (.iconst 1, 1) := by decide +kernel
theorem dX5_stepNumber_67 : decode cX5_stepNumber 67 = .ok (.iadd, 1) := by decide +kernel
theorem dX5_stepNumber_68 : decode cX5_stepNumber 68 = .ok (.putfield 35, 3) := by decide +kernel
theorem dX5_stepNumber_71 : decode cX5_stepNumber 71 = .ok (.goto (-66), 3) := by decide +kernel
theorem dX5_stepNumber_74 : decode cX5_stepNumber 74 = .ok (.aload_n 0, 1) := by decide +kernel
theorem dX5_stepNumber_75 : decode cX5_stepNumber 75 = .ok (.iconst 2, 1) := by decide +kernel
theorem dX5_stepNumber_76 : decode cX5_stepNumber 76 = .ok (.putfield 47, 3) := by decide +kernel
theorem dX5_stepNumber_79 : decode cX5_stepNumber 79 = .ok (.return_, 1) := by decide +kernel
theorem dX5_isBlank_0 : decode cX5_isBlank 0 = .ok (.iload_n 0, 1) := by decide +kernel
theorem dX5_isBlank_1 : decode cX5_isBlank 1 = .ok (.bipush 10, 2) := by decide +kernel
theorem dX5_isBlank_3 : decode cX5_isBlank 3 = .ok (.if_icmp .eq 9, 3) := by decide +kernel
theorem dX5_isBlank_6 : decode cX5_isBlank 6 = .ok (.iload_n 0, 1) := by decide +kernel
theorem dX5_isBlank_7 : decode cX5_isBlank 7 = .ok (.bipush 32, 2) := by decide +kernel
theorem dX5_isBlank_9 : decode cX5_isBlank 9 = .ok (.if_icmp .ne 7, 3) := by decide +kernel
theorem dX5_isBlank_12 : decode cX5_isBlank 12 = .ok (.iconst 1, 1) := by decide +kernel
theorem dX5_isBlank_13 : decode cX5_isBlank 13 = .ok (.goto 4, 3) := by decide +kernel
theorem dX5_isBlank_16 : decode cX5_isBlank 16 = .ok (.iconst 0, 1) := by decide +kernel
theorem dX5_isBlank_17 : decode cX5_isBlank 17 = .ok (.ireturn, 1) := by decide +kernel
theorem dX5_isLetter_0 : decode cX5_isLetter 0 = .ok (.iload_n 0, 1) := by decide +kernel
theorem dX5_isLetter_1 : decode cX5_isLetter 1 = .ok (.bipush 97, 2) := by decide +kernel
theorem dX5_isLetter_3 : decode cX5_isLetter 3 = .ok (.if_icmp .lt 13, 3) := by decide +kernel
theorem dX5_isLetter_6 : decode cX5_isLetter 6 = .ok (.iload_n 0, 1) := by decide +kernel
theorem dX5_isLetter_7 : decode cX5_isLetter 7 = .ok (.bipush 122, 2) := by decide +kernel
theorem dX5_isLetter_9 : decode cX5_isLetter 9 = .ok (.if_icmp .gt 7, 3) := by decide +kernel
theorem dX5_isLetter_12 : decode cX5_isLetter 12 = .ok (.iconst 1, 1) := by decide +kernel
theorem dX5_isLetter_13 : decode cX5_isLetter 13 = .ok (.goto 4, 3) := by decide +kernel
theorem dX5_isLetter_16 : decode cX5_isLetter 16 = .ok (.iconst 0, 1) := by decide +kernel
theorem dX5_isLetter_17 : decode cX5_isLetter 17 = .ok (.ireturn, 1) := by decide +kernel
theorem dX5_isDigit_0 : decode cX5_isDigit 0 = .ok (.iload_n 0, 1) := by decide +kernel
theorem dX5_isDigit_1 : decode cX5_isDigit 1 = .ok (.bipush 48, 2) := by decide +kernel
theorem dX5_isDigit_3 : decode cX5_isDigit 3 = .ok (.if_icmp .lt 13, 3) := by decide +kernel
theorem dX5_isDigit_6 : decode cX5_isDigit 6 = .ok (.iload_n 0, 1) := by decide +kernel
theorem dX5_isDigit_7 : decode cX5_isDigit 7 = .ok (.bipush 57, 2) := by decide +kernel
theorem dX5_isDigit_9 : decode cX5_isDigit 9 = .ok (.if_icmp .gt 7, 3) := by decide +kernel
theorem dX5_isDigit_12 : decode cX5_isDigit 12 = .ok (.iconst 1, 1) := by decide +kernel
theorem dX5_isDigit_13 : decode cX5_isDigit 13 = .ok (.goto 4, 3) := by decide +kernel
theorem dX5_isDigit_16 : decode cX5_isDigit 16 = .ok (.iconst 0, 1) := by decide +kernel
theorem dX5_isDigit_17 : decode cX5_isDigit 17 = .ok (.ireturn, 1) := by decide +kernel
theorem dX5_readLine_0 : decode cX5_readLine 0 = .ok (.aload_n 0, 1) := by decide +kernel
theorem dX5_readLine_1 : decode cX5_readLine 1 = .ok (.iload_n 1, 1) := by decide +kernel
theorem dX5_readLine_2 : decode cX5_readLine 2 = .ok (.invokevirtual 76, 3) := by decide +kernel
theorem dX5_readLine_5 : decode cX5_readLine 5 = .ok (.ifCond .eq 14, 3) := by decide +kernel
theorem dX5_readLine_8 : decode cX5_readLine 8 = .ok (.aload_n 0, 1) := by decide +kernel
theorem dX5_readLine_9 : decode cX5_readLine 9 = .ok (.invokevirtual 79, 3) := by decide +kernel
theorem dX5_readLine_12 : decode cX5_readLine 12 = .ok (.ifCond .eq 7, 3) := by decide +kernel
theorem dX5_readLine_15 : decode cX5_readLine 15 = .ok (.iconst 1, 1) := by decide +kernel
theorem dX5_readLine_16 : decode cX5_readLine 16 = .ok (.goto 4, 3) := by decide +kernel
theorem dX5_readLine_19 : decode cX5_readLine 19 = .ok (.iconst 0, 1) := by decide +kernel
theorem dX5_readLine_20 : decode cX5_readLine 20 = .ok (.ireturn, 1) := by decide +kernel
theorem dX5_readUpToStop_0 : decode cX5_readUpToStop 0 = .ok (.aload_n 0, 1) := by decide +kernel
theorem dX5_readUpToStop_1 : decode cX5_readUpToStop 1 = .ok (.getfield 47, 3) := by decide +kernel
theorem dX5_readUpToStop_4 : decode cX5_readUpToStop 4 = .ok (.iconst 1, 1) := by decide +kernel
theorem dX5_readUpToStop_5 : decode cX5_readUpToStop 5 = .ok (.if_icmp .ne 16, 3) := by decide +kernel
theorem dX5_readUpToStop_8 : decode cX5_readUpToStop 8 = .ok (.iload_n 1, 1) := by decide +kernel
theorem dX5_readUpToStop_9 : decode cX5_readUpToStop 9 = .ok (.ifCond .eq 18, 3) := by decide +kernel
theorem dX5_readUpToStop_12 : decode cX5_readUpToStop 12 = .ok (.aload_n 0, 1) := by decide +kernel
theorem dX5_readUpToStop_13 : decode cX5_readUpToStop 13 = .ok (.getfield 73, 3) := by decide +kernel
theorem dX5_readUpToStop_16 : decode cX5_readUpToStop 16 = .ok (.ldc 83, 2) := by decide +kernel
theorem dX5_readUpToStop_18 : decode cX5_readUpToStop 18 = .ok (.if_icmp .eq 9, 3) := by decide +kernel
theorem dX5_readUpToStop_21 : decode cX5_readUpToStop 21 = .ok (.aload_n 0, 1) := by decide +kernel
theorem dX5_readUpToStop_22 : decode cX5_readUpToStop 22 = .ok (.iconst 1, 1) := by decide +kernel
theorem dX5_readUpToStop_23 : decode cX5_readUpToStop 23 = .ok (.invokevirtual 84, 3) := by decide +kernel
theorem dX5_readUpToStop_26 : decode cX5_readUpToStop 26 = .ok (.ireturn, 1) := by decide +kernel
theorem dX5_readUpToStop_27 : decode cX5_readUpToStop 27 = .ok (.iload_n 1, 1) := by decide +kernel
theorem dX5_readUpToStop_28 : decode cX5_readUpToStop 28 = .ok (.ifCond .eq 8, 3) := by decide +kernel
theorem dX5_readUpToStop_31 : decode cX5_readUpToStop 31 = .ok (.aload_n 0, 1) := by decide +kernel
theorem dX5_readUpToStop_32 : decode cX5_readUpToStop 32 = .ok (.invokevirtual 87, 3) := by decide +kernel
theorem dX5_readUpToStop_35 : decode cX5_readUpToStop 35 = .ok (.ireturn, 1) := by decide +kernel
theorem dX5_readUpToStop_36 : decode cX5_readUpToStop 36 = .ok (.aload_n 0, 1) := by decide +kernel
theorem dX5_readUpToStop_37 : decode cX5_readUpToStop 37 = .ok (.getfield 73, 3) := by decide +kernel
theorem dX5_readUpToStop_40 : decode cX5_readUpToStop 40 = .ok (.lookupswitch 166 #[(50383488, 104), (54967924, 84), (211555456, 145), (254268947, 68), (437857280, 79), (475731520, 124), (553254912, 74)], 68) := by decide +kernel
theorem dX5_readUpToStop_108 : decode cX5_readUpToStop 108 = .ok (.aload_n 0, 1) := by decide +kernel
theorem dX5_readUpToStop_109 : decode cX5_readUpToStop 109 = .ok (.iconst 3, 1) := by decide +kernel
theorem dX5_readUpToStop_110 : decode cX5_readUpToStop 110 = .ok (.invokevirtual 84, 3) := by decide +kernel
theorem dX5_readUpToStop_113 : decode cX5_readUpToStop 113 = .ok (.ireturn, 1) := by decide +kernel
theorem dX5_readUpToStop_114 : decode cX5_readUpToStop 114 = .ok (.aload_n 0, 1) := by decide +kernel
theorem dX5_readUpToStop_115 : decode cX5_readUpToStop 115 = .ok (.invokevirtual 90, 3) := by decide +kernel
theorem dX5_readUpToStop_118 : decode cX5_readUpToStop 118 = .ok (.ireturn, 1) := by decide +kernel
theorem dX5_readUpToStop_119 : decode cX5_readUpToStop 119 = .ok (.aload_n 0, 1) := by decide +kernel
theorem dX5_readUpToStop_120 : decode cX5_readUpToStop 120 = .ok (.invokevirtual 93, 3) := by decide +kernel
theorem dX5_readUpToStop_123 : decode cX5_readUpToStop 123 = .ok (.ireturn, 1) := by decide +kernel
theorem dX5_readUpToStop_124 : decode cX5_readUpToStop 124 = .ok (.aload_n 0, 1) := by decide +kernel
theorem dX5_readUpToStop_125 : decode cX5_readUpToStop 125 = .ok (.invokevirtual 96, 3) := by decide +kernel
theorem dX5_readUpToStop_128 : decode cX5_readUpToStop 128 = .ok (.ifCond .eq 14, 3) := by decide +kernel
theorem dX5_readUpToStop_131 : decode cX5_readUpToStop 131 = .ok (.aload_n 0, 1) := by decide +kernel
theorem dX5_readUpToStop_132 : decode cX5_readUpToStop 132 = .ok (.invokevirtual 99, 3) := by decide +kernel
theorem dX5_readUpToStop_135 : decode cX5_readUpToStop 135 = .ok (.ifCond .eq 7, 3) := by decide +kernel
theorem dX5_readUpToStop_138 : decode cX5_readUpToStop 138 = .ok (.iconst 1, 1) := by decide +kernel
theorem dX5_readUpToStop_139 : decode cX5_readUpToStop 139 = .ok (.goto 4, 3) := by decide +kernel
theorem dX5_readUpToStop_142 : decode cX5_readUpToStop 142 = .ok (.iconst 0, 1) := by decide +kernel
theorem dX5_readUpToStop_143 : decode cX5_readUpToStop 143 = .ok (.ireturn, 1) := by decide +kernel
theorem dX5_readUpToStop_144 : decode cX5_readUpToStop 144 = .ok (.aload_n 0, 1) := by decide +kernel
theorem dX5_readUpToStop_145 : decode cX5_readUpToStop 145 = .ok (.invokevirtual 96, 3) := by decide +kernel
theorem dX5_readUpToStop_148 : decode cX5_readUpToStop 148 = .ok (.ifCond .eq 14, 3) := by decide +kernel
theorem dX5_readUpToStop_151 : decode cX5_readUpToStop 151 = .ok (.aload_n 0, 1) := by decide +kernel
theorem dX5_readUpToStop_152 : decode cX5_readUpToStop 152 = .ok (.invokevirtual 102, 3) := by decide +kernel
theorem dX5_readUpToStop_155 : decode cX5_readUpToStop 155 = .ok (.ifCond .eq 7, 3) := by decide +kernel
theorem dX5_readUpToStop_158 : decode cX5_readUpToStop 158 = .ok (.iconst 1, 1) := by decide +kernel
theorem dX5_readUpToStop_159 : decode cX5_readUpToStop 159 = .ok (.goto 4, 3) := by decide +kernel
theorem dX5_readUpToStop_162 : decode cX5_readUpToStop 162 = .ok (.iconst 0, 1) := by decide +kernel
theorem dX5_readUpToStop_163 : decode cX5_readUpToStop 163 = .ok (.ireturn, 1) := by decide +kernel
theorem dX5_readUpToStop_164 : decode cX5_readUpToStop 164 = .ok (.aload_n 0, 1) := by decide +kernel
theorem dX5_readUpToStop_165 : decode cX5_readUpToStop 165 = .ok (.invokevirtual 96, 3) := by decide +kernel
theorem dX5_readUpToStop_168 : decode cX5_readUpToStop 168 = .ok (.ifCond .eq 15, 3) := by decide +kernel
theorem dX5_readUpToStop_171 : decode cX5_readUpToStop 171 = .ok (.aload_n 0, 1) := by decide +kernel
theorem dX5_readUpToStop_172 : decode cX5_readUpToStop 172 = .ok (.iconst 0, 1) := by decide +kernel
theorem dX5_readUpToStop_173 : decode cX5_readUpToStop 173 = .ok (.invokevirtual 105, 3) := by decide +kernel
theorem dX5_readUpToStop_176 : decode cX5_readUpToStop 176 = .ok (.ifCond .eq 7, 3) := by decide +kernel
theorem dX5_readUpToStop_179 : decode cX5_readUpToStop 179 = .ok (.iconst 1, 1) := by decide +kernel
theorem dX5_readUpToStop_180 : decode cX5_readUpToStop 180 = .ok (.goto 4, 3) := by decide +kernel
theorem dX5_readUpToStop_183 : decode cX5_readUpToStop 183 = .ok (.iconst 0, 1) := by decide +kernel
theorem dX5_readUpToStop_184 : decode cX5_readUpToStop 184 = .ok (.ireturn, 1) := by decide +kernel
theorem dX5_readUpToStop_185 : decode cX5_readUpToStop 185 = .ok (.aload_n 0, 1) := by decide +kernel
theorem dX5_readUpToStop_186 : decode cX5_readUpToStop 186 = .ok (.invokevirtual 96, 3) := by decide +kernel
theorem dX5_readUpToStop_189 : decode cX5_readUpToStop 189 = .ok (.ifCond .eq 15, 3) := by decide +kernel
theorem dX5_readUpToStop_192 : decode cX5_readUpToStop 192 = .ok (.aload_n 0, 1) := by decide +kernel
theorem dX5_readUpToStop_193 : decode cX5_readUpToStop 193 = .ok (.iconst 1, 1) := by decide +kernel
theorem dX5_readUpToStop_194 : decode cX5_readUpToStop 194 = .ok (.invokevirtual 105, 3) := by decide +kernel
theorem dX5_readUpToStop_197 : decode cX5_readUpToStop 197 = .ok (.ifCond .eq 7, 3) := by decide +kernel
theorem dX5_readUpToStop_200 : decode cX5_readUpToStop 200 = .ok (.iconst 1, 1) := by decide +kernel
theorem dX5_readUpToStop_201 : decode cX5_readUpToStop 201 = .ok (.goto 4, 3) := by decide +kernel
theorem dX5_readUpToStop_204 : decode cX5_readUpToStop 204 = .ok (.iconst 0, 1) := by decide +kernel
theorem dX5_readUpToStop_205 : decode cX5_readUpToStop 205 = .ok (.ireturn, 1) := by decide +kernel
theorem dX5_readUpToStop_206 : decode cX5_readUpToStop 206 = .ok (.aload_n 0, 1) := by decide +kernel
theorem dX5_readUpToStop_207 : decode cX5_readUpToStop 207 = .ok (.iconst 1, 1) := by decide +kernel
theorem dX5_readUpToStop_208 : decode cX5_readUpToStop 208 = .ok (.invokevirtual 84, 3) := by decide +kernel
theorem dX5_readUpToStop_211 : decode cX5_readUpToStop 211 = .ok (.ireturn, 1) := by decide +kernel
theorem dX5_readGroups_0 : decode cX5_readGroups 0 = .ok (.aload_n 0, 1) := by decide +kernel
theorem dX5_readGroups_1 : decode cX5_readGroups 1 = .ok (.invokevirtual 44, 3) := by decide +kernel
theorem dX5_readGroups_4 : decode cX5_readGroups 4 = .ok (.aload_n 0, 1) := by decide +kernel
theorem dX5_readGroups_5 : decode cX5_readGroups 5 = .ok (.iconst 2, 1) := by decide +kernel
theorem dX5_readGroups_6 : decode cX5_readGroups 6 = .ok (.iconst 4, 1) := by decide +kernel
theorem dX5_readGroups_7 : decode cX5_readGroups 7 = .ok (.invokevirtual 108, 3) := by decide +kernel
theorem dX5_readGroups_10 : decode cX5_readGroups 10 = .ok (.ifCond .ne 5, 3) := by decide +kernel
theorem dX5_readGroups_13 : decode cX5_readGroups 13 = .ok (.iconst 0, 1) := by decide +kernel
theorem dX5_readGroups_14 : decode cX5_readGroups 14 = .ok (.ireturn, 1) := by decide +kernel
theorem dX5_readGroups_15 : decode cX5_readGroups 15 = .ok (.aload_n 0, 1) := by decide +kernel
theorem dX5_readGroups_16 : decode cX5_readGroups 16 = .ok (.getfield 12, 3) := by decide +kernel
theorem dX5_readGroups_19 : decode cX5_readGroups 19 = .ok (.aload_n 0, 1) := by decide +kernel
theorem dX5_readGroups_20 : decode cX5_readGroups 20 = .ok (.getfield 73, 3) := by decide +kernel
theorem dX5_readGroups_23 : decode cX5_readGroups 23 = .ok (.putfield 112, 3) := by decide +kernel
theorem dX5_readGroups_26 : decode cX5_readGroups 26 = .ok (.aload_n 0, 1) := by decide +kernel
theorem dX5_readGroups_27 : decode cX5_readGroups 27 = .ok (.invokevirtual 44, 3) := by decide +kernel
theorem dX5_readGroups_30 : decode cX5_readGroups 30 = .ok (.iconst 1, 1) := by decide +kernel
theorem dX5_readGroups_31 : decode cX5_readGroups 31 = .ok (.ireturn, 1) := by decide +kernel
theorem dX5_readPot_0 : decode cX5_readPot 0 = .ok (.aload_n 0, 1) := by decide +kernel
theorem dX5_readPot_1 : decode cX5_readPot 1 = .ok (.getfield 12, 3) := by decide +kernel
theorem dX5_readPot_4 : decode cX5_readPot 4 = .ok (.getfield 115, 3) := by decide +kernel
theorem dX5_readPot_7 : decode cX5_readPot 7 = .ok (.iconst 4, 1) := by decide +kernel
theorem dX5_readPot_8 : decode cX5_readPot 8 = .ok (.if_icmp .eq 23, 3) := by decide +kernel
theorem dX5_readPot_11 : decode cX5_readPot 11 = .ok (.aload_n 0, 1) := by decide +kernel
theorem dX5_readPot_12 : decode cX5_readPot 12 = .ok (.getfield 12, 3) := by decide +kernel
theorem dX5_readPot_15 : decode cX5_readPot 15 = .ok (.getfield 118, 3) := by decide +kernel
theorem dX5_readPot_18 : decode cX5_readPot 18 = .ok (.aload_n 0, 1) := by decide +kernel
theorem dX5_readPot_19 : decode cX5_readPot 19 = .ok (.getfield 12, 3) := by decide +kernel
theorem dX5_readPot_22 : decode cX5_readPot 22 = .ok (.getfield 112, 3) := by decide +kernel
theorem dX5_readPot_25 : decode cX5_readPot 25 = .ok (.iadd, 1) := by decide +kernel
theorem dX5_readPot_26 : decode cX5_readPot 26 = .ok (.bipush 12, 2) := by decide +kernel
theorem dX5_readPot_28 : decode cX5_readPot 28 = .ok (.if_icmp .le 9, 3) := by decide +kernel
theorem dX5_readPot_31 : decode cX5_readPot 31 = .ok (.aload_n 0, 1) := by decide +kernel
theorem dX5_readPot_32 : decode cX5_readPot 32 = .ok (.iconst 2, 1) := by decide +kernel
theorem dX5_readPot_33 : decode cX5_readPot 33 = .ok (.invokevirtual 84, 3) := by decide +kernel
theorem dX5_readPot_36 : decode cX5_readPot 36 = .ok (.ireturn, 1) := by decide +kernel
theorem dX5_readPot_37 : decode cX5_readPot 37 = .ok (.aload_n 0, 1) := by decide +kernel
theorem dX5_readPot_38 : decode cX5_readPot 38 = .ok (.invokevirtual 44, 3) := by decide +kernel
theorem dX5_readPot_41 : decode cX5_readPot 41 = .ok (.iconst 0, 1) := by decide +kernel
theorem dX5_readPot_42 : decode cX5_readPot 42 = .ok (.istore_n 1, 1) := by decide +kernel
theorem dX5_readPot_43 : decode cX5_readPot 43 = .ok (.iconst 0, 1) := by decide +kernel
theorem dX5_readPot_44 : decode cX5_readPot 44 = .ok (.istore_n 2, 1) := by decide +kernel
theorem dX5_readPot_45 : decode cX5_readPot 45 = .ok (.iload_n 2, 1) := by decide +kernel
theorem dX5_readPot_46 : decode cX5_readPot 46 = .ok (.aload_n 0, 1) := by decide +kernel
theorem dX5_readPot_47 : decode cX5_readPot 47 = .ok (.getfield 32, 3) := by decide +kernel
theorem dX5_readPot_50 : decode cX5_readPot 50 = .ok (.if_icmp .ge 86, 3) := by decide +kernel
theorem dX5_readPot_53 : decode cX5_readPot 53 = .ok (.iload_n 1, 1) := by decide +kernel
theorem dX5_readPot_54 : decode cX5_readPot 54 = .ok (.ifCond .eq 11, 3) := by decide +kernel
theorem dX5_readPot_57 : decode cX5_readPot 57 = .ok (.aload_n 0, 1) := by decide +kernel
theorem dX5_readPot_58 : decode cX5_readPot 58 = .ok (.getfield 47, 3) := by decide +kernel
theorem dX5_readPot_61 : decode cX5_readPot 61 = .ok (.iconst 3, 1) := by decide +kernel
theorem dX5_readPot_62 : decode cX5_readPot 62 = .ok (.if_icmp .eq 74, 3) := by decide +kernel
theorem dX5_readPot_65 : decode cX5_readPot 65 = .ok (.aload_n 0, 1) := by decide +kernel
theorem dX5_readPot_66 : decode cX5_readPot 66 = .ok (.invokevirtual 121, 3) := by decide +kernel
theorem dX5_readPot_69 : decode cX5_readPot 69 = .ok (.ifCond .ne 5, 3) := by decide +kernel
theorem dX5_readPot_72 : decode cX5_readPot 72 = .ok (.iconst 0, 1) := by decide +kernel
theorem dX5_readPot_73 : decode cX5_readPot 73 = .ok (.ireturn, 1) := by decide +kernel
theorem dX5_readPot_74 : decode cX5_readPot 74 = .ok (.iload_n 1, 1) := by decide +kernel
theorem dX5_readPot_75 : decode cX5_readPot 75 = .ok (.aload_n 0, 1) := by decide +kernel
theorem dX5_readPot_76 : decode cX5_readPot 76 = .ok (.getfield 12, 3) := by decide +kernel
theorem dX5_readPot_79 : decode cX5_readPot 79 = .ok (.getfield 112, 3) := by decide +kernel
theorem dX5_readPot_82 : decode cX5_readPot 82 = .ok (.if_icmp .ne 9, 3) := by decide +kernel
theorem dX5_readPot_85 : decode cX5_readPot 85 = .ok (.aload_n 0, 1) := by decide +kernel
theorem dX5_readPot_86 : decode cX5_readPot 86 = .ok (.iconst 2, 1) := by decide +kernel
theorem dX5_readPot_87 : decode cX5_readPot 87 = .ok (.invokevirtual 84, 3) := by decide +kernel
theorem dX5_readPot_90 : decode cX5_readPot 90 = .ok (.ireturn, 1) := by decide +kernel
theorem dX5_readPot_91 : decode cX5_readPot 91 = .ok (.aload_n 0, 1) := by decide +kernel
theorem dX5_readPot_92 : decode cX5_readPot 92 = .ok (.getfield 12, 3) := by decide +kernel
theorem dX5_readPot_95 : decode cX5_readPot 95 = .ok (.aload_n 0, 1) := by decide +kernel
theorem dX5_readPot_96 : decode cX5_readPot 96 = .ok (.getfield 73, 3) := by decide +kernel
theorem dX5_readPot_99 : decode cX5_readPot 99 = .ok (.invokevirtual 124, 3) := by decide +kernel
theorem dX5_readPot_102 : decode cX5_readPot 102 = .ok (.iconst (-1), 1) := by decide +kernel
theorem dX5_readPot_103 : decode cX5_readPot 103 = .ok (.if_icmp .eq 9, 3) := by decide +kernel
theorem dX5_readPot_106 : decode cX5_readPot 106 = .ok (.aload_n 0, 1) := by decide +kernel
theorem dX5_readPot_107 : decode cX5_readPot 107 = .ok (.iconst 3, 1) := by decide +kernel
theorem dX5_readPot_108 : decode cX5_readPot 108 = .ok (.invokevirtual 84, 3) := by decide +kernel
theorem dX5_readPot_111 : decode cX5_readPot 111 = .ok (.ireturn, 1) := by decide +kernel
theorem dX5_readPot_112 : decode cX5_readPot 112 = .ok (.aload_n 0, 1) := by decide +kernel
theorem dX5_readPot_113 : decode cX5_readPot 113 = .ok (.getfield 12, 3) := by decide +kernel
theorem dX5_readPot_116 : decode cX5_readPot 116 = .ok (.aload_n 0, 1) := by decide +kernel
theorem dX5_readPot_117 : decode cX5_readPot 117 = .ok (.getfield 73, 3) := by decide +kernel
theorem dX5_readPot_120 : decode cX5_readPot 120 = .ok (.invokevirtual 128, 3) := by decide +kernel
theorem dX5_readPot_123 : decode cX5_readPot 123 = .ok (.iinc 1 1, 3) := by decide +kernel
theorem dX5_readPot_126 : decode cX5_readPot 126 = .ok (.aload_n 0, 1) := by decide +kernel
theorem dX5_readPot_127 : decode cX5_readPot 127 = .ok (.invokevirtual 44, 3) := by decide +kernel
theorem dX5_readPot_130 : decode cX5_readPot 130 = .ok (.iinc 2 1, 3) := by decide +kernel
theorem dX5_readPot_133 : decode cX5_readPot 133 = .ok (.goto (-88), 3) := by decide +kernel
theorem dX5_readPot_136 : decode cX5_readPot 136 = .ok (.iload_n 1, 1) := by decide +kernel
theorem dX5_readPot_137 : decode cX5_readPot 137 = .ok (.aload_n 0, 1) := by decide +kernel
theorem dX5_readPot_138 : decode cX5_readPot 138 = .ok (.getfield 12, 3) := by decide +kernel
theorem dX5_readPot_141 : decode cX5_readPot 141 = .ok (.getfield 112, 3) := by decide +kernel
theorem dX5_readPot_144 : decode cX5_readPot 144 = .ok (.if_icmp .ge 9, 3) := by decide +kernel
theorem dX5_readPot_147 : decode cX5_readPot 147 = .ok (.aload_n 0, 1) := by decide +kernel
theorem dX5_readPot_148 : decode cX5_readPot 148 = .ok (.iconst 5, 1) := by decide +kernel
theorem dX5_readPot_149 : decode cX5_readPot 149 = .ok (.invokevirtual 84, 3) := by decide +kernel
theorem dX5_readPot_152 : decode cX5_readPot 152 = .ok (.ireturn, 1) := by decide +kernel
theorem dX5_readPot_153 : decode cX5_readPot 153 = .ok (.aload_n 0, 1) := by decide +kernel
theorem dX5_readPot_154 : decode cX5_readPot 154 = .ok (.getfield 12, 3) := by decide +kernel
theorem dX5_readPot_157 : decode cX5_readPot 157 = .ok (.dup, 1) := by decide +kernel
theorem dX5_readPot_158 : decode cX5_readPot 158 = .ok (.getfield 115, 3) := by decide +kernel
theorem dX5_readPot_161 : decode cX5_readPot 161 = .ok (.iconst 1, 1) := by decide +kernel
theorem dX5_readPot_162 : decode cX5_readPot 162 = .ok (.iadd, 1) := by decide +kernel
theorem dX5_readPot_163 : decode cX5_readPot 163 = .ok (.putfield 115, 3) := by decide +kernel
theorem dX5_readPot_166 : decode cX5_readPot 166 = .ok (.iconst 1, 1) := by decide +kernel
theorem dX5_readPot_167 : decode cX5_readPot 167 = .ok (.ireturn, 1) := by decide +kernel
theorem dX5_readMark_0 : decode cX5_readMark 0 = .ok (.aload_n 0, 1) := by decide +kernel
theorem dX5_readMark_1 : decode cX5_readMark 1 = .ok (.getfield 12, 3) := by decide +kernel
theorem dX5_readMark_4 : decode cX5_readMark 4 = .ok (.getfield 132, 3) := by decide +kernel
theorem dX5_readMark_7 : decode cX5_readMark 7 = .ok (.bipush 6, 2) := by decide +kernel
theorem dX5_readMark_9 : decode cX5_readMark 9 = .ok (.if_icmp .ne 9, 3) := by decide +kernel
theorem dX5_readMark_12 : decode cX5_readMark 12 = .ok (.aload_n 0, 1) := by decide +kernel
theorem dX5_readMark_13 : decode cX5_readMark 13 = .ok (.iconst 2, 1) := by decide +kernel
theorem dX5_readMark_14 : decode cX5_readMark 14 = .ok (.invokevirtual 84, 3) := by decide +kernel
theorem dX5_readMark_17 : decode cX5_readMark 17 = .ok (.ireturn, 1) := by decide +kernel
theorem dX5_readMark_18 : decode cX5_readMark 18 = .ok (.aload_n 0, 1) := by decide +kernel
theorem dX5_readMark_19 : decode cX5_readMark 19 = .ok (.invokevirtual 44, 3) := by decide +kernel
theorem dX5_readMark_22 : decode cX5_readMark 22 = .ok (.aload_n 0, 1) := by decide +kernel
theorem dX5_readMark_23 : decode cX5_readMark 23 = .ok (.invokevirtual 121, 3) := by decide +kernel
theorem dX5_readMark_26 : decode cX5_readMark 26 = .ok (.ifCond .ne 5, 3) := by decide +kernel
theorem dX5_readMark_29 : decode cX5_readMark 29 = .ok (.iconst 0, 1) := by decide +kernel
theorem dX5_readMark_30 : decode cX5_readMark 30 = .ok (.ireturn, 1) := by decide +kernel
theorem dX5_readMark_31 : decode cX5_readMark 31 = .ok (.aload_n 0, 1) := by decide +kernel
theorem dX5_readMark_32 : decode cX5_readMark 32 = .ok (.getfield 12, 3) := by decide +kernel
theorem dX5_readMark_35 : decode cX5_readMark 35 = .ok (.aload_n 0, 1) := by decide +kernel
theorem dX5_readMark_36 : decode cX5_readMark 36 = .ok (.getfield 73, 3) := by decide +kernel
theorem dX5_readMark_39 : decode cX5_readMark 39 = .ok (.invokevirtual 135, 3) := by decide +kernel
theorem dX5_readMark_42 : decode cX5_readMark 42 = .ok (.iconst (-1), 1) := by decide +kernel
theorem dX5_readMark_43 : decode cX5_readMark 43 = .ok (.if_icmp .eq 9, 3) := by decide +kernel
theorem dX5_readMark_46 : decode cX5_readMark 46 = .ok (.aload_n 0, 1) := by decide +kernel
theorem dX5_readMark_47 : decode cX5_readMark 47 = .ok (.iconst 3, 1) := by decide +kernel
theorem dX5_readMark_48 : decode cX5_readMark 48 = .ok (.invokevirtual 84, 3) := by decide +kernel
theorem dX5_readMark_51 : decode cX5_readMark 51 = .ok (.ireturn, 1) := by decide +kernel
theorem dX5_readMark_52 : decode cX5_readMark 52 = .ok (.iconst 1, 1) := by decide +kernel
theorem dX5_readMark_53 : decode cX5_readMark 53 = .ok (.aload_n 0, 1) := by decide +kernel
theorem dX5_readMark_54 : decode cX5_readMark 54 = .ok (.getfield 12, 3) := by decide +kernel
theorem dX5_readMark_57 : decode cX5_readMark 57 = .ok (.getfield 132, 3) := by decide +kernel
theorem dX5_readMark_60 : decode cX5_readMark 60 = .ok (.ishl, 1) := by decide +kernel
theorem dX5_readMark_61 : decode cX5_readMark 61 = .ok (.istore_n 1, 1) := by decide +kernel
theorem dX5_readMark_62 : decode cX5_readMark 62 = .ok (.aload_n 0, 1) := by decide +kernel
theorem dX5_readMark_63 : decode cX5_readMark 63 = .ok (.getfield 12, 3) := by decide +kernel
theorem dX5_readMark_66 : decode cX5_readMark 66 = .ok (.aload_n 0, 1) := by decide +kernel
theorem dX5_readMark_67 : decode cX5_readMark 67 = .ok (.getfield 73, 3) := by decide +kernel
theorem dX5_readMark_70 : decode cX5_readMark 70 = .ok (.invokevirtual 138, 3) := by decide +kernel
theorem dX5_readMark_73 : decode cX5_readMark 73 = .ok (.aload_n 0, 1) := by decide +kernel
theorem dX5_readMark_74 : decode cX5_readMark 74 = .ok (.invokevirtual 44, 3) := by decide +kernel
theorem dX5_readMark_77 : decode cX5_readMark 77 = .ok (.iconst 0, 1) := by decide +kernel
theorem dX5_readMark_78 : decode cX5_readMark 78 = .ok (.istore_n 2, 1) := by decide +kernel
theorem dX5_readMark_79 : decode cX5_readMark 79 = .ok (.iconst 0, 1) := by decide +kernel
theorem dX5_readMark_80 : decode cX5_readMark 80 = .ok (.istore_n 3, 1) := by decide +kernel
theorem dX5_readMark_81 : decode cX5_readMark 81 = .ok (.iload_n 3, 1) := by decide +kernel
theorem dX5_readMark_82 : decode cX5_readMark 82 = .ok (.aload_n 0, 1) := by decide +kernel
theorem dX5_readMark_83 : decode cX5_readMark 83 = .ok (.getfield 32, 3) := by decide +kernel
theorem dX5_readMark_86 : decode cX5_readMark 86 = .ok (.if_icmp .ge 77, 3) := by decide +kernel
theorem dX5_readMark_89 : decode cX5_readMark 89 = .ok (.iload_n 2, 1) := by decide +kernel
theorem dX5_readMark_90 : decode cX5_readMark 90 = .ok (.ifCond .eq 11, 3) := by decide +kernel
theorem dX5_readMark_93 : decode cX5_readMark 93 = .ok (.aload_n 0, 1) := by decide +kernel
theorem dX5_readMark_94 : decode cX5_readMark 94 = .ok (.getfield 47, 3) := by decide +kernel
theorem dX5_readMark_97 : decode cX5_readMark 97 = .ok (.iconst 3, 1) := by decide +kernel
theorem dX5_readMark_98 : decode cX5_readMark 98 = .ok (.if_icmp .eq 65, 3) := by decide +kernel
theorem dX5_readMark_101 : decode cX5_readMark 101 = .ok (.aload_n 0, 1) := by decide +kernel
theorem dX5_readMark_102 : decode cX5_readMark 102 = .ok (.invokevirtual 141, 3) := by decide +kernel
theorem dX5_readMark_105 : decode cX5_readMark 105 = .ok (.istore 4, 2) := by decide +kernel
theorem dX5_readMark_107 : decode cX5_readMark 107 = .ok (.iload 4, 2) := by decide +kernel
theorem dX5_readMark_109 : decode cX5_readMark 109 = .ok (.iconst (-1), 1) := by decide +kernel
theorem dX5_readMark_110 : decode cX5_readMark 110 = .ok (.if_icmp .ne 5, 3) := by decide +kernel
theorem dX5_readMark_113 : decode cX5_readMark 113 = .ok (.iconst 0, 1) := by decide +kernel
theorem dX5_readMark_114 : decode cX5_readMark 114 = .ok (.ireturn, 1) := by decide +kernel
theorem dX5_readMark_115 : decode cX5_readMark 115 = .ok (.aload_n 0, 1) := by decide +kernel
theorem dX5_readMark_116 : decode cX5_readMark 116 = .ok (.getfield 12, 3) := by decide +kernel
theorem dX5_readMark_119 : decode cX5_readMark 119 = .ok (.getfield 145, 3) := by decide +kernel
theorem dX5_readMark_122 : decode cX5_readMark 122 = .ok (.iload 4, 2) := by decide +kernel
theorem dX5_readMark_124 : decode cX5_readMark 124 = .ok (.iaload, 1) := by decide +kernel
theorem dX5_readMark_125 : decode cX5_readMark 125 = .ok (.iload_n 1, 1) := by decide +kernel
theorem dX5_readMark_126 : decode cX5_readMark 126 = .ok (.iand, 1) := by decide +kernel
theorem dX5_readMark_127 : decode cX5_readMark 127 = .ok (.ifCond .eq 9, 3) := by decide +kernel
theorem dX5_readMark_130 : decode cX5_readMark 130 = .ok (.aload_n 0, 1) := by decide +kernel
theorem dX5_readMark_131 : decode cX5_readMark 131 = .ok (.iconst 3, 1) := by decide +kernel
theorem dX5_readMark_132 : decode cX5_readMark 132 = .ok (.invokevirtual 84, 3) := by decide +kernel
theorem dX5_readMark_135 : decode cX5_readMark 135 = .ok (.ireturn, 1) := by decide +kernel
theorem dX5_readMark_136 : decode cX5_readMark 136 = .ok (.aload_n 0, 1) := by decide +kernel
theorem dX5_readMark_137 : decode cX5_readMark 137 = .ok (.getfield 12, 3) := by decide +kernel
theorem dX5_readMark_140 : decode cX5_readMark 140 = .ok (.getfield 145, 3) := by decide +kernel
theorem dX5_readMark_143 : decode cX5_readMark 143 = .ok (.iload 4, 2) := by decide +kernel
theorem dX5_readMark_145 : decode cX5_readMark 145 = .ok (.dup2, 1) := by decide +kernel
theorem dX5_readMark_146 : decode cX5_readMark 146 = .ok (.iaload, 1) := by decide +kernel
theorem dX5_readMark_147 : decode cX5_readMark 147 = .ok (.iload_n 1, 1) := by decide +kernel
theorem dX5_readMark_148 : decode cX5_readMark 148 = .ok (.ior, 1) := by decide +kernel
theorem dX5_readMark_149 : decode cX5_readMark 149 = .ok (.iastore, 1) := by decide +kernel
theorem dX5_readMark_150 : decode cX5_readMark 150 = .ok (.iinc 2 1, 3) := by decide +kernel
theorem dX5_readMark_153 : decode cX5_readMark 153 = .ok (.aload_n 0, 1) := by decide +kernel
theorem dX5_readMark_154 : decode cX5_readMark 154 = .ok (.invokevirtual 44, 3) := by decide +kernel
theorem dX5_readMark_157 : decode cX5_readMark 157 = .ok (.iinc 3 1, 3) := by decide +kernel
theorem dX5_readMark_160 : decode cX5_readMark 160 = .ok (.goto (-79), 3) := by decide +kernel
theorem dX5_readMark_163 : decode cX5_readMark 163 = .ok (.iconst 1, 1) := by decide +kernel
theorem dX5_readMark_164 : decode cX5_readMark 164 = .ok (.ireturn, 1) := by decide +kernel
theorem dX5_isRoomForBar_0 : decode cX5_isRoomForBar 0 = .ok (.aload_n 0, 1) := by decide +kernel
theorem dX5_isRoomForBar_1 : decode cX5_isRoomForBar 1 = .ok (.getfield 12, 3) := by decide +kernel
theorem dX5_isRoomForBar_4 : decode cX5_isRoomForBar 4 = .ok (.getfield 148, 3) := by decide +kernel
theorem dX5_isRoomForBar_7 : decode cX5_isRoomForBar 7 = .ok (.bipush 10, 2) := by decide +kernel
theorem dX5_isRoomForBar_9 : decode cX5_isRoomForBar 9 = .ok (.if_icmp .lt 11, 3) := by decide +kernel
theorem dX5_isRoomForBar_12 : decode cX5_isRoomForBar 12 = .ok (.aload_n 0, 1) := by decide +kernel
theorem dX5_isRoomForBar_13 : decode cX5_isRoomForBar 13 = .ok (.iconst 2, 1) := by decide +kernel
theorem dX5_isRoomForBar_14 : decode cX5_isRoomForBar 14 = .ok (.invokevirtual 84, 3) := by decide +kernel
theorem dX5_isRoomForBar_17 : decode cX5_isRoomForBar 17 = .ok (.ifCond .eq 7, 3) := by decide +kernel
theorem dX5_isRoomForBar_20 : decode cX5_isRoomForBar 20 = .ok (.iconst 1, 1) := by decide +kernel
theorem dX5_isRoomForBar_21 : decode cX5_isRoomForBar 21 = .ok (.goto 4, 3) := by decide +kernel
theorem dX5_isRoomForBar_24 : decode cX5_isRoomForBar 24 = .ok (.iconst 0, 1) := by decide +kernel
theorem dX5_isRoomForBar_25 : decode cX5_isRoomForBar 25 = .ok (.ireturn, 1) := by decide +kernel
theorem dX5_readAtMost_0 : decode cX5_readAtMost 0 = .ok (.aload_n 0, 1) := by decide +kernel
theorem dX5_readAtMost_1 : decode cX5_readAtMost 1 = .ok (.invokevirtual 44, 3) := by decide +kernel
theorem dX5_readAtMost_4 : decode cX5_readAtMost 4 = .ok (.aload_n 0, 1) := by decide +kernel
theorem dX5_readAtMost_5 : decode cX5_readAtMost 5 = .ok (.iconst 1, 1) := by decide +kernel
theorem dX5_readAtMost_6 : decode cX5_readAtMost 6 = .ok (.iconst 3, 1) := by decide +kernel
theorem dX5_readAtMost_7 : decode cX5_readAtMost 7 = .ok (.invokevirtual 108, 3) := by decide +kernel
theorem dX5_readAtMost_10 : decode cX5_readAtMost 10 = .ok (.ifCond .ne 5, 3) := by decide +kernel
theorem dX5_readAtMost_13 : decode cX5_readAtMost 13 = .ok (.iconst 0, 1) := by decide +kernel
theorem dX5_readAtMost_14 : decode cX5_readAtMost 14 = .ok (.ireturn, 1) := by decide +kernel
theorem dX5_readAtMost_15 : decode cX5_readAtMost 15 = .ok (.aload_n 0, 1) := by decide +kernel
theorem dX5_readAtMost_16 : decode cX5_readAtMost 16 = .ok (.getfield 73, 3) := by decide +kernel
theorem dX5_readAtMost_19 : decode cX5_readAtMost 19 = .ok (.istore_n 1, 1) := by decide +kernel
theorem dX5_readAtMost_20 : decode cX5_readAtMost 20 = .ok (.aload_n 0, 1) := by decide +kernel
theorem dX5_readAtMost_21 : decode cX5_readAtMost 21 = .ok (.invokevirtual 44, 3) := by decide +kernel
theorem dX5_readAtMost_24 : decode cX5_readAtMost 24 = .ok (.aload_n 0, 1) := by decide +kernel
theorem dX5_readAtMost_25 : decode cX5_readAtMost 25 = .ok (.invokevirtual 121, 3) := by decide +kernel
theorem dX5_readAtMost_28 : decode cX5_readAtMost 28 = .ok (.ifCond .ne 5, 3) := by decide +kernel
theorem dX5_readAtMost_31 : decode cX5_readAtMost 31 = .ok (.iconst 0, 1) := by decide +kernel
theorem dX5_readAtMost_32 : decode cX5_readAtMost 32 = .ok (.ireturn, 1) := by decide +kernel
theorem dX5_readAtMost_33 : decode cX5_readAtMost 33 = .ok (.aload_n 0, 1) := by decide +kernel
theorem dX5_readAtMost_34 : decode cX5_readAtMost 34 = .ok (.getfield 12, 3) := by decide +kernel
theorem dX5_readAtMost_37 : decode cX5_readAtMost 37 = .ok (.aload_n 0, 1) := by decide +kernel
theorem dX5_readAtMost_38 : decode cX5_readAtMost 38 = .ok (.getfield 73, 3) := by decide +kernel
theorem dX5_readAtMost_41 : decode cX5_readAtMost 41 = .ok (.invokevirtual 135, 3) := by decide +kernel
theorem dX5_readAtMost_44 : decode cX5_readAtMost 44 = .ok (.istore_n 2, 1) := by decide +kernel
theorem dX5_readAtMost_45 : decode cX5_readAtMost 45 = .ok (.iload_n 2, 1) := by decide +kernel
theorem dX5_readAtMost_46 : decode cX5_readAtMost 46 = .ok (.iconst (-1), 1) := by decide +kernel
theorem dX5_readAtMost_47 : decode cX5_readAtMost 47 = .ok (.if_icmp .ne 9, 3) := by decide +kernel
theorem dX5_readAtMost_50 : decode cX5_readAtMost 50 = .ok (.aload_n 0, 1) := by decide +kernel
theorem dX5_readAtMost_51 : decode cX5_readAtMost 51 = .ok (.iconst 4, 1) := by decide +kernel
theorem dX5_readAtMost_52 : decode cX5_readAtMost 52 = .ok (.invokevirtual 84, 3) := by decide +kernel
theorem dX5_readAtMost_55 : decode cX5_readAtMost 55 = .ok (.ireturn, 1) := by decide +kernel
theorem dX5_readAtMost_56 : decode cX5_readAtMost 56 = .ok (.aload_n 0, 1) := by decide +kernel
theorem dX5_readAtMost_57 : decode cX5_readAtMost 57 = .ok (.getfield 12, 3) := by decide +kernel
theorem dX5_readAtMost_60 : decode cX5_readAtMost 60 = .ok (.iload_n 1, 1) := by decide +kernel
theorem dX5_readAtMost_61 : decode cX5_readAtMost 61 = .ok (.aload_n 0, 1) := by decide +kernel
theorem dX5_readAtMost_62 : decode cX5_readAtMost 62 = .ok (.getfield 12, 3) := by decide +kernel
theorem dX5_readAtMost_65 : decode cX5_readAtMost 65 = .ok (.iload_n 2, 1) := by decide +kernel
theorem dX5_readAtMost_66 : decode cX5_readAtMost 66 = .ok (.invokevirtual 151, 3) := by decide +kernel
theorem dX5_readAtMost_69 : decode cX5_readAtMost 69 = .ok (.invokevirtual 154, 3) := by decide +kernel
theorem dX5_readAtMost_72 : decode cX5_readAtMost 72 = .ok (.aload_n 0, 1) := by decide +kernel
theorem dX5_readAtMost_73 : decode cX5_readAtMost 73 = .ok (.invokevirtual 44, 3) := by decide +kernel
theorem dX5_readAtMost_76 : decode cX5_readAtMost 76 = .ok (.iconst 1, 1) := by decide +kernel
theorem dX5_readAtMost_77 : decode cX5_readAtMost 77 = .ok (.ireturn, 1) := by decide +kernel
theorem dX5_readApart_0 : decode cX5_readApart 0 = .ok (.aload_n 0, 1) := by decide +kernel
theorem dX5_readApart_1 : decode cX5_readApart 1 = .ok (.invokevirtual 44, 3) := by decide +kernel
theorem dX5_readApart_4 : decode cX5_readApart 4 = .ok (.aload_n 0, 1) := by decide +kernel
theorem dX5_readApart_5 : decode cX5_readApart 5 = .ok (.invokevirtual 141, 3) := by decide +kernel
theorem dX5_readApart_8 : decode cX5_readApart 8 = .ok (.istore_n 1, 1) := by decide +kernel
theorem dX5_readApart_9 : decode cX5_readApart 9 = .ok (.iload_n 1, 1) := by decide +kernel
theorem dX5_readApart_10 : decode cX5_readApart 10 = .ok (.iconst (-1), 1) := by decide +kernel
theorem dX5_readApart_11 : decode cX5_readApart 11 = .ok (.if_icmp .ne 5, 3) := by decide +kernel
theorem dX5_readApart_14 : decode cX5_readApart 14 = .ok (.iconst 0, 1) := by decide +kernel
theorem dX5_readApart_15 : decode cX5_readApart 15 = .ok (.ireturn, 1) := by decide +kernel
theorem dX5_readApart_16 : decode cX5_readApart 16 = .ok (.aload_n 0, 1) := by decide +kernel
theorem dX5_readApart_17 : decode cX5_readApart 17 = .ok (.invokevirtual 44, 3) := by decide +kernel
theorem dX5_readApart_20 : decode cX5_readApart 20 = .ok (.aload_n 0, 1) := by decide +kernel
theorem dX5_readApart_21 : decode cX5_readApart 21 = .ok (.invokevirtual 141, 3) := by decide +kernel
theorem dX5_readApart_24 : decode cX5_readApart 24 = .ok (.istore_n 2, 1) := by decide +kernel
theorem dX5_readApart_25 : decode cX5_readApart 25 = .ok (.iload_n 2, 1) := by decide +kernel
theorem dX5_readApart_26 : decode cX5_readApart 26 = .ok (.iconst (-1), 1) := by decide +kernel
theorem dX5_readApart_27 : decode cX5_readApart 27 = .ok (.if_icmp .ne 5, 3) := by decide +kernel
theorem dX5_readApart_30 : decode cX5_readApart 30 = .ok (.iconst 0, 1) := by decide +kernel
theorem dX5_readApart_31 : decode cX5_readApart 31 = .ok (.ireturn, 1) := by decide +kernel
theorem dX5_readApart_32 : decode cX5_readApart 32 = .ok (.iload_n 2, 1) := by decide +kernel
theorem dX5_readApart_33 : decode cX5_readApart 33 = .ok (.iload_n 1, 1) := by decide +kernel
theorem dX5_readApart_34 : decode cX5_readApart 34 = .ok (.if_icmp .ne 9, 3) := by decide +kernel
theorem dX5_readApart_37 : decode cX5_readApart 37 = .ok (.aload_n 0, 1) := by decide +kernel
theorem dX5_readApart_38 : decode cX5_readApart 38 = .ok (.iconst 3, 1) := by decide +kernel
theorem dX5_readApart_39 : decode cX5_readApart 39 = .ok (.invokevirtual 84, 3) := by decide +kernel
theorem dX5_readApart_42 : decode cX5_readApart 42 = .ok (.ireturn, 1) := by decide +kernel
theorem dX5_readApart_43 : decode cX5_readApart 43 = .ok (.aload_n 0, 1) := by decide +kernel
theorem dX5_readApart_44 : decode cX5_readApart 44 = .ok (.getfield 12, 3) := by decide +kernel
theorem dX5_readApart_47 : decode cX5_readApart 47 = .ok (.iconst 1, 1) := by decide +kernel
theorem dX5_readApart_48 : decode cX5_readApart 48 = .ok (.iconst 1, 1) := by decide +kernel
theorem dX5_readApart_49 : decode cX5_readApart 49 = .ok (.iload_n 1, 1) := by decide +kernel
theorem dX5_readApart_50 : decode cX5_readApart 50 = .ok (.ishl, 1) := by decide +kernel
theorem dX5_readApart_51 : decode cX5_readApart 51 = .ok (.iconst 1, 1) := by decide +kernel
theorem dX5_readApart_52 : decode cX5_readApart 52 = .ok (.iload_n 2, 1) := by decide +kernel
theorem dX5_readApart_53 : decode cX5_readApart 53 = .ok (.ishl, 1) := by decide +kernel
theorem dX5_readApart_54 : decode cX5_readApart 54 = .ok (.ior, 1) := by decide +kernel
theorem dX5_readApart_55 : decode cX5_readApart 55 = .ok (.invokevirtual 154, 3) := by decide +kernel
theorem dX5_readApart_58 : decode cX5_readApart 58 = .ok (.aload_n 0, 1) := by decide +kernel
theorem dX5_readApart_59 : decode cX5_readApart 59 = .ok (.invokevirtual 44, 3) := by decide +kernel
theorem dX5_readApart_62 : decode cX5_readApart 62 = .ok (.iconst 1, 1) := by decide +kernel
theorem dX5_readApart_63 : decode cX5_readApart 63 = .ok (.ireturn, 1) := by decide +kernel
theorem dX5_readHeld_0 : decode cX5_readHeld 0 = .ok (.aload_n 0, 1) := by decide +kernel
theorem dX5_readHeld_1 : decode cX5_readHeld 1 = .ok (.invokevirtual 44, 3) := by decide +kernel
theorem dX5_readHeld_4 : decode cX5_readHeld 4 = .ok (.aload_n 0, 1) := by decide +kernel
theorem dX5_readHeld_5 : decode cX5_readHeld 5 = .ok (.invokevirtual 141, 3) := by decide +kernel
theorem dX5_readHeld_8 : decode cX5_readHeld 8 = .ok (.istore_n 2, 1) := by decide +kernel
theorem dX5_readHeld_9 : decode cX5_readHeld 9 = .ok (.iload_n 2, 1) := by decide +kernel
theorem dX5_readHeld_10 : decode cX5_readHeld 10 = .ok (.iconst (-1), 1) := by decide +kernel
theorem dX5_readHeld_11 : decode cX5_readHeld 11 = .ok (.if_icmp .ne 5, 3) := by decide +kernel
theorem dX5_readHeld_14 : decode cX5_readHeld 14 = .ok (.iconst 0, 1) := by decide +kernel
theorem dX5_readHeld_15 : decode cX5_readHeld 15 = .ok (.ireturn, 1) := by decide +kernel
theorem dX5_readHeld_16 : decode cX5_readHeld 16 = .ok (.aload_n 0, 1) := by decide +kernel
theorem dX5_readHeld_17 : decode cX5_readHeld 17 = .ok (.invokevirtual 44, 3) := by decide +kernel
theorem dX5_readHeld_20 : decode cX5_readHeld 20 = .ok (.aload_n 0, 1) := by decide +kernel
theorem dX5_readHeld_21 : decode cX5_readHeld 21 = .ok (.iconst 0, 1) := by decide +kernel
theorem dX5_readHeld_22 : decode cX5_readHeld 22 = .ok (.aload_n 0, 1) := by decide +kernel
theorem dX5_readHeld_23 : decode cX5_readHeld 23 = .ok (.getfield 12, 3) := by decide +kernel
theorem dX5_readHeld_26 : decode cX5_readHeld 26 = .ok (.getfield 112, 3) := by decide +kernel
theorem dX5_readHeld_29 : decode cX5_readHeld 29 = .ok (.iconst 1, 1) := by decide +kernel
theorem dX5_readHeld_30 : decode cX5_readHeld 30 = .ok (.isub, 1) := by decide +kernel
theorem dX5_readHeld_31 : decode cX5_readHeld 31 = .ok (.invokevirtual 108, 3) := by decide +kernel
theorem dX5_readHeld_34 : decode cX5_readHeld 34 = .ok (.ifCond .ne 5, 3) := by decide +kernel
theorem dX5_readHeld_37 : decode cX5_readHeld 37 = .ok (.iconst 0, 1) := by decide +kernel
theorem dX5_readHeld_38 : decode cX5_readHeld 38 = .ok (.ireturn, 1) := by decide +kernel
theorem dX5_readHeld_39 : decode cX5_readHeld 39 = .ok (.iload_n 1, 1) := by decide +kernel
theorem dX5_readHeld_40 : decode cX5_readHeld 40 = .ok (.ifCond .eq 18, 3) := by decide +kernel
theorem dX5_readHeld_43 : decode cX5_readHeld 43 = .ok (.aload_n 0, 1) := by decide +kernel
theorem dX5_readHeld_44 : decode cX5_readHeld 44 = .ok (.getfield 12, 3) := by decide +kernel
theorem dX5_readHeld_47 : decode cX5_readHeld 47 = .ok (.iload_n 2, 1) := by decide +kernel
theorem dX5_readHeld_48 : decode cX5_readHeld 48 = .ok (.aload_n 0, 1) := by decide +kernel
theorem dX5_readHeld_49 : decode cX5_readHeld 49 = .ok (.getfield 73, 3) := by decide +kernel
theorem dX5_readHeld_52 : decode cX5_readHeld 52 = .ok (.invokevirtual 158, 3) := by decide +kernel
theorem dX5_readHeld_55 : decode cX5_readHeld 55 = .ok (.goto 15, 3) := by decide +kernel
theorem dX5_readHeld_58 : decode cX5_readHeld 58 = .ok (.aload_n 0, 1) := by decide +kernel
theorem dX5_readHeld_59 : decode cX5_readHeld 59 = .ok (.getfield 12, 3) := by decide +kernel
theorem dX5_readHeld_62 : decode cX5_readHeld 62 = .ok (.iload_n 2, 1) := by decide +kernel
theorem dX5_readHeld_63 : decode cX5_readHeld 63 = .ok (.aload_n 0, 1) := by decide +kernel
theorem dX5_readHeld_64 : decode cX5_readHeld 64 = .ok (.getfield 73, 3) := by decide +kernel
theorem dX5_readHeld_67 : decode cX5_readHeld 67 = .ok (.invokevirtual 161, 3) := by decide +kernel
theorem dX5_readHeld_70 : decode cX5_readHeld 70 = .ok (.aload_n 0, 1) := by decide +kernel
theorem dX5_readHeld_71 : decode cX5_readHeld 71 = .ok (.invokevirtual 44, 3) := by decide +kernel
theorem dX5_readHeld_74 : decode cX5_readHeld 74 = .ok (.iconst 1, 1) := by decide +kernel
theorem dX5_readHeld_75 : decode cX5_readHeld 75 = .ok (.ireturn, 1) := by decide +kernel
theorem dX5_readStop_0 : decode cX5_readStop 0 = .ok (.aload_n 0, 1) := by decide +kernel
theorem dX5_readStop_1 : decode cX5_readStop 1 = .ok (.getfield 47, 3) := by decide +kernel
theorem dX5_readStop_4 : decode cX5_readStop 4 = .ok (.iconst 3, 1) := by decide +kernel
theorem dX5_readStop_5 : decode cX5_readStop 5 = .ok (.if_icmp .eq 9, 3) := by decide +kernel
theorem dX5_readStop_8 : decode cX5_readStop 8 = .ok (.aload_n 0, 1) := by decide +kernel
theorem dX5_readStop_9 : decode cX5_readStop 9 = .ok (.iconst 1, 1) := by decide +kernel
theorem dX5_readStop_10 : decode cX5_readStop 10 = .ok (.invokevirtual 84, 3) := by decide +kernel
theorem dX5_readStop_13 : decode cX5_readStop 13 = .ok (.ireturn, 1) := by decide +kernel
theorem dX5_readStop_14 : decode cX5_readStop 14 = .ok (.aload_n 0, 1) := by decide +kernel
theorem dX5_readStop_15 : decode cX5_readStop 15 = .ok (.invokevirtual 44, 3) := by decide +kernel
theorem dX5_readStop_18 : decode cX5_readStop 18 = .ok (.iconst 1, 1) := by decide +kernel
theorem dX5_readStop_19 : decode cX5_readStop 19 = .ok (.ireturn, 1) := by decide +kernel
theorem dX5_isNumber_0 : decode cX5_isNumber 0 = .ok (.aload_n 0, 1) := by decide +kernel
