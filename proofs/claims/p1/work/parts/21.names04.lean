theorem wsL_law_in : ∀ w ∈ wsL_law, w ∈ lw_tbl := fun w h => (List.mem_append.mp h).elim (fun h => wsL_law_in0 w h) (fun h => wsL_law_x1 w h)
theorem inlX0 : ∀ w ∈ wsX00, w ∈ wsL_law := fun _ h => List.mem_append_left _ (List.mem_append_left _ (List.mem_append_left _ (List.mem_append_left _ (List.mem_append_left _ (List.mem_append_right _ h)))))
theorem inX0 : ∀ w ∈ wsX00, w ∈ lw_tbl := fun w h => wsL_law_in w (inlX0 w h)
theorem inlX1 : ∀ w ∈ wsX10, w ∈ wsL_law := fun _ h => List.mem_append_left _ (List.mem_append_left _ (List.mem_append_left _ (List.mem_append_left _ (List.mem_append_left _ (List.mem_append_left _ (List.mem_append_right _ h))))))
theorem inX1 : ∀ w ∈ wsX10, w ∈ lw_tbl := fun w h => wsL_law_in w (inlX1 w h)
theorem inlX2 : ∀ w ∈ wsX20, w ∈ wsL_law := fun _ h => List.mem_append_left _ (List.mem_append_left _ (List.mem_append_left _ (List.mem_append_left _ (List.mem_append_left _ (List.mem_append_left _ (List.mem_append_left _ (List.mem_append_left _ (List.mem_append_left _ (List.mem_append_left _ (List.mem_append_right _ h))))))))))
theorem inX2 : ∀ w ∈ wsX20, w ∈ lw_tbl := fun w h => wsL_law_in w (inlX2 w h)
theorem inlX3 : ∀ w ∈ wsX30, w ∈ wsL_law := fun _ h => List.mem_append_left _ (List.mem_append_left _ (List.mem_append_left _ (List.mem_append_left _ (List.mem_append_left _ (List.mem_append_left _ (List.mem_append_left _ (List.mem_append_left _ (List.mem_append_left _ (List.mem_append_left _ (List.mem_append_left _ (List.mem_append_left _ (List.mem_append_left _ (List.mem_append_right _ h)))))))))))))
theorem inX3 : ∀ w ∈ wsX30, w ∈ lw_tbl := fun w h => wsL_law_in w (inlX3 w h)
theorem inlX4 : ∀ w ∈ wsX40, w ∈ wsL_law := fun _ h => List.mem_append_left _ (List.mem_append_left _ (List.mem_append_left _ (List.mem_append_left _ (List.mem_append_left _ (List.mem_append_left _ (List.mem_append_left _ (List.mem_append_left _ (List.mem_append_left _ (List.mem_append_left _ (List.mem_append_left _ (List.mem_append_right _ h)))))))))))
theorem inX4 : ∀ w ∈ wsX40, w ∈ lw_tbl := fun w h => wsL_law_in w (inlX4 w h)
theorem inlX5 : ∀ w ∈ wsX50, w ∈ wsL_law := fun _ h => List.mem_append_left _ (List.mem_append_left _ (List.mem_append_left _ (List.mem_append_left _ (List.mem_append_left _ (List.mem_append_left _ (List.mem_append_left _ (List.mem_append_left _ (List.mem_append_left _ (List.mem_append_left _ (List.mem_append_left _ (List.mem_append_left _ (List.mem_append_right _ h))))))))))))
theorem inX5 : ∀ w ∈ wsX50, w ∈ lw_tbl := fun w h => wsL_law_in w (inlX5 w h)
theorem inlX6 : ∀ w ∈ wsX60, w ∈ wsL_law := fun _ h => List.mem_append_left _ (List.mem_append_left _ (List.mem_append_left _ (List.mem_append_left _ (List.mem_append_left _ (List.mem_append_left _ (List.mem_append_left _ (List.mem_append_right _ h)))))))
theorem inX6 : ∀ w ∈ wsX60, w ∈ lw_tbl := fun w h => wsL_law_in w (inlX6 w h)
theorem inlX7 : ∀ w ∈ wsX70, w ∈ wsL_law := fun _ h => List.mem_append_left _ (List.mem_append_left _ (List.mem_append_left _ (List.mem_append_right _ h)))
theorem inX7 : ∀ w ∈ wsX70, w ∈ lw_tbl := fun w h => wsL_law_in w (inlX7 w h)
theorem inlX8 : ∀ w ∈ wsX80, w ∈ wsL_law := fun _ h => List.mem_append_left _ (List.mem_append_left _ (List.mem_append_left _ (List.mem_append_left _ (List.mem_append_left _ (List.mem_append_left _ (List.mem_append_left _ (List.mem_append_left _ (List.mem_append_left _ (List.mem_append_right _ h)))))))))
theorem inX8 : ∀ w ∈ wsX80, w ∈ lw_tbl := fun w h => wsL_law_in w (inlX8 w h)
theorem inlX9 : ∀ w ∈ wsX90, w ∈ wsL_law := fun _ h => List.mem_append_left _ (List.mem_append_left _ (List.mem_append_left _ (List.mem_append_left _ (List.mem_append_right _ h))))
theorem inX9 : ∀ w ∈ wsX90, w ∈ lw_tbl := fun w h => wsL_law_in w (inlX9 w h)
theorem inlX10 : ∀ w ∈ wsX100, w ∈ wsL_law := fun _ h => List.mem_append_left _ (List.mem_append_left _ (List.mem_append_left _ (List.mem_append_left _ (List.mem_append_left _ (List.mem_append_left _ (List.mem_append_left _ (List.mem_append_left _ (List.mem_append_right _ h))))))))
theorem inX10 : ∀ w ∈ wsX100, w ∈ lw_tbl := fun w h => wsL_law_in w (inlX10 w h)
theorem inlX11 : ∀ w ∈ wsX110, w ∈ wsL_law := fun _ h => List.mem_append_left _ (List.mem_append_left _ (List.mem_append_left _ (List.mem_append_left _ (List.mem_append_left _ (List.mem_append_left _ (List.mem_append_left _ (List.mem_append_left _ (List.mem_append_left _ (List.mem_append_left _ (List.mem_append_left _ (List.mem_append_left _ (List.mem_append_left _ (List.mem_append_left _ (List.mem_append_left _ (List.mem_append_right _ h)))))))))))))))
theorem inX11 : ∀ w ∈ wsX110, w ∈ lw_tbl := fun w h => wsL_law_in w (inlX11 w h)
theorem inlX12 : ∀ w ∈ wsX120, w ∈ wsL_law := fun _ h => List.mem_append_left _ (List.mem_append_left _ (List.mem_append_left _ (List.mem_append_left _ (List.mem_append_left _ (List.mem_append_left _ (List.mem_append_left _ (List.mem_append_left _ (List.mem_append_left _ (List.mem_append_left _ (List.mem_append_left _ (List.mem_append_left _ (List.mem_append_left _ (List.mem_append_left _ (List.mem_append_right _ h))))))))))))))
theorem inX12 : ∀ w ∈ wsX120, w ∈ lw_tbl := fun w h => wsL_law_in w (inlX12 w h)
theorem inlJx00060 : ∀ w ∈ wsJx000600, w ∈ wsL_law := fun _ h => List.mem_append_left _ (List.mem_append_left _ (List.mem_append_right _ h))
theorem inJx00060 : ∀ w ∈ wsJx000600, w ∈ lw_tbl := fun w h => wsL_law_in w (inlJx00060 w h)
theorem inJ0 : ∀ w ∈ wsJ00, w ∈ lw_tbl := by decide +kernel
theorem inJ4 : ∀ w ∈ wsJ40, w ∈ lw_tbl := by decide +kernel
theorem dX11_arrange_0 : decode cX11_arrange 0 = .ok (.iload_n 1, 1) := by decide +kernel
theorem dX11_arrange_1 : decode cX11_arrange 1 = .ok (.aload_n 0, 1) := by decide +kernel
theorem dX11_arrange_2 : decode cX11_arrange 2 = .ok (.getfield 16, 3) := by decide +kernel
theorem dX11_arrange_5 : decode cX11_arrange 5 = .ok (.getfield 133, 3) := by decide +kernel
theorem dX11_arrange_8 : decode cX11_arrange 8 = .ok (.aload_n 0, 1) := by decide +kernel
theorem dX11_arrange_9 : decode cX11_arrange 9 = .ok (.getfield 48, 3) := by decide +kernel
theorem dX11_arrange_12 : decode cX11_arrange 12 = .ok (.getfield 221, 3) := by decide +kernel
theorem dX11_arrange_15 : decode cX11_arrange 15 = .ok (.invokestatic 214, 3) := by decide +kernel
theorem dX11_arrange_18 : decode cX11_arrange 18 = .ok (.ifCond .ne 5, 3) := by decide +kernel
theorem dX11_arrange_21 : decode cX11_arrange 21 = .ok (.iconst 0, 1) := by decide +kernel
theorem dX11_arrange_22 : decode cX11_arrange 22 = .ok (.ireturn, 1) := by decide +kernel
theorem dX11_arrange_23 : decode cX11_arrange 23 = .ok (.aload_n 0, 1) := by decide +kernel
theorem dX11_arrange_24 : decode cX11_arrange 24 = .ok (.getfield 48, 3) := by decide +kernel
theorem dX11_arrange_27 : decode cX11_arrange 27 = .ok (.invokevirtual 218, 3) := by decide +kernel
theorem dX11_arrange_30 : decode cX11_arrange 30 = .ok (.aload_n 0, 1) := by decide +kernel
theorem dX11_arrange_31 : decode cX11_arrange 31 = .ok (.bipush (-3), 2) := by decide +kernel
theorem dX11_arrange_33 : decode cX11_arrange 33 = .ok (.putfield 104, 3) := by decide +kernel
theorem dX11_arrange_36 : decode cX11_arrange 36 = .ok (.aload_n 0, 1) := by decide +kernel
theorem dX11_arrange_37 : decode cX11_arrange 37 = .ok (.invokevirtual 154, 3) := by decide +kernel
theorem dX11_arrange_40 : decode cX11_arrange 40 = .ok (.iconst 1, 1) := by decide +kernel
theorem dX11_arrange_41 : decode cX11_arrange 41 = .ok (.ireturn, 1) := by decide +kernel
theorem dX11_readTurns_11 : decode cX11_readTurns 11 = .ok (.iload_n 3, 1) := by decide +kernel
theorem dX11_readTurns_12 : decode cX11_readTurns 12 = .ok (.iconst 1, 1) := by decide +kernel
theorem dX11_readTurns_13 : decode cX11_readTurns 13 = .ok (.iload_n 0, 1) := by decide +kernel
theorem dX11_readTurns_14 : decode cX11_readTurns 14 = .ok (.iconst 2, 1) := by decide +kernel
theorem dX11_readTurns_15 : decode cX11_readTurns 15 = .ok (.iload 4, 2) := by decide +kernel
theorem dX11_readTurns_17 : decode cX11_readTurns 17 = .ok (.imul, 1) := by decide +kernel
theorem dX11_readTurns_18 : decode cX11_readTurns 18 = .ok (.iushr, 1) := by decide +kernel
theorem dX11_readTurns_19 : decode cX11_readTurns 19 = .ok (.iconst 3, 1) := by decide +kernel
theorem dX11_readTurns_20 : decode cX11_readTurns 20 = .ok (.iand, 1) := by decide +kernel
theorem dX11_readTurns_21 : decode cX11_readTurns 21 = .ok (.ishl, 1) := by decide +kernel
theorem dX11_readTurns_22 : decode cX11_readTurns 22 = .ok (.ior, 1) := by decide +kernel
theorem dX11_readTurns_23 : decode cX11_readTurns 23 = .ok (.istore_n 3, 1) := by decide +kernel
theorem dX11_readTurns_24 : decode cX11_readTurns 24 = .ok (.iinc 4 1, 3) := by decide +kernel
theorem dX11_readTurns_27 : decode cX11_readTurns 27 = .ok (.goto (-22), 3) := by decide +kernel
theorem dX11_readTurns_39 : decode cX11_readTurns 39 = .ok (.iconst 0, 1) := by decide +kernel
theorem dX11_readTurns_40 : decode cX11_readTurns 40 = .ok (.ireturn, 1) := by decide +kernel
theorem dX11_readTurns_50 : decode cX11_readTurns 50 = .ok (.iload 4, 2) := by decide +kernel
theorem dX11_readTurns_52 : decode cX11_readTurns 52 = .ok (.aload_n 2, 1) := by decide +kernel
theorem dX11_readTurns_53 : decode cX11_readTurns 53 = .ok (.arraylength, 1) := by decide +kernel
theorem dX11_readTurns_54 : decode cX11_readTurns 54 = .ok (.if_icmp .ge 21, 3) := by decide +kernel
theorem dX11_readTurns_57 : decode cX11_readTurns 57 = .ok (.aload_n 2, 1) := by decide +kernel
theorem dX11_readTurns_58 : decode cX11_readTurns 58 = .ok (.iload 4, 2) := by decide +kernel
theorem dX11_readTurns_60 : decode cX11_readTurns 60 = .ok (.iload_n 0, 1) := by decide +kernel
theorem dX11_readTurns_61 : decode cX11_readTurns 61 = .ok (.iconst 2, 1) := by decide +kernel
theorem dX11_readTurns_62 : decode cX11_readTurns 62 = .ok (.iload 4, 2) := by decide +kernel
theorem dX11_readTurns_64 : decode cX11_readTurns 64 = .ok (.imul, 1) := by decide +kernel
theorem dX11_readTurns_65 : decode cX11_readTurns 65 = .ok (.iushr, 1) := by decide +kernel
theorem dX11_readTurns_66 : decode cX11_readTurns 66 = .ok (.iconst 3, 1) := by decide +kernel
theorem dX11_readTurns_67 : decode cX11_readTurns 67 = .ok (.iand, 1) := by decide +kernel
theorem dX11_readTurns_68 : decode cX11_readTurns 68 = .ok (.iastore, 1) := by decide +kernel
theorem dX11_readTurns_69 : decode cX11_readTurns 69 = .ok (.iinc 4 1, 3) := by decide +kernel
theorem dX11_readTurns_72 : decode cX11_readTurns 72 = .ok (.goto (-28), 3) := by decide +kernel
theorem dX11_numberAfter_0 : decode cX11_numberAfter 0 = .ok (.iload_n 0, 1) := by decide +kernel
theorem dX11_numberAfter_1 : decode cX11_numberAfter 1 = .ok (.ldc_w 443, 3) := by decide +kernel
theorem dX11_numberAfter_4 : decode cX11_numberAfter 4 = .ok (.imul, 1) := by decide +kernel
theorem dX11_numberAfter_5 : decode cX11_numberAfter 5 = .ok (.sipush 12345, 3) := by decide +kernel
theorem dX11_numberAfter_8 : decode cX11_numberAfter 8 = .ok (.iadd, 1) := by decide +kernel
theorem dX11_numberAfter_9 : decode cX11_numberAfter 9 = .ok (.ldc_w 446, 3) := by decide +kernel
theorem dX11_numberAfter_12 : decode cX11_numberAfter 12 = .ok (.iand, 1) := by decide +kernel
theorem dX11_numberAfter_13 : decode cX11_numberAfter 13 = .ok (.ireturn, 1) := by decide +kernel
theorem dX11_evenly_21 : decode cX11_evenly 21 = .ok (.iload_n 3, 1) := by decide +kernel
theorem dX11_evenly_22 : decode cX11_evenly 22 = .ok (.ifCond .gt 5, 3) := by decide +kernel
theorem dX11_evenly_27 : decode cX11_evenly 27 = .ok (.ldc2_w 447, 3) := by decide +kernel
theorem dX11_evenly_30 : decode cX11_evenly 30 = .ok (.lstore 4, 2) := by decide +kernel
theorem dX11_evenly_32 : decode cX11_evenly 32 = .ok (.lload 4, 2) := by decide +kernel
theorem dX11_evenly_34 : decode cX11_evenly 34 = .ok (.lload 4, 2) := by decide +kernel
theorem dX11_evenly_36 : decode cX11_evenly 36 = .ok (.iload_n 3, 1) := by decide +kernel
theorem dX11_evenly_37 : decode cX11_evenly 37 = .ok (.i2l, 1) := by decide +kernel
theorem dX11_evenly_38 : decode cX11_evenly 38 = .ok (.lrem, 1) := by decide +kernel
theorem dX11_evenly_39 : decode cX11_evenly 39 = .ok (.lsub, 1) := by decide +kernel
theorem dX11_evenly_40 : decode cX11_evenly 40 = .ok (.lstore 6, 2) := by decide +kernel
theorem dX11_evenly_42 : decode cX11_evenly 42 = .ok (.iload_n 1, 1) := by decide +kernel
theorem dX11_evenly_43 : decode cX11_evenly 43 = .ok (.invokestatic 437, 3) := by decide +kernel
theorem dX11_evenly_46 : decode cX11_evenly 46 = .ok (.istore 8, 2) := by decide +kernel
theorem dX11_evenly_48 : decode cX11_evenly 48 = .ok (.iconst 1, 1) := by decide +kernel
theorem dX11_evenly_49 : decode cX11_evenly 49 = .ok (.istore 9, 2) := by decide +kernel
theorem dX11_evenly_51 : decode cX11_evenly 51 = .ok (.iconst 0, 1) := by decide +kernel
theorem dX11_evenly_52 : decode cX11_evenly 52 = .ok (.istore 10, 2) := by decide +kernel
theorem dX11_evenly_54 : decode cX11_evenly 54 = .ok (.iload 10, 2) := by decide +kernel
theorem dX11_evenly_56 : decode cX11_evenly 56 = .ok (.ldc_w 449, 3) := by decide +kernel
theorem dX11_evenly_59 : decode cX11_evenly 59 = .ok (.if_icmp .ge 28, 3) := by decide +kernel
theorem dX11_evenly_62 : decode cX11_evenly 62 = .ok (.iload 8, 2) := by decide +kernel
theorem dX11_evenly_64 : decode cX11_evenly 64 = .ok (.i2l, 1) := by decide +kernel
theorem dX11_evenly_65 : decode cX11_evenly 65 = .ok (.lload 6, 2) := by decide +kernel
theorem dX11_evenly_67 : decode cX11_evenly 67 = .ok (.lcmp, 1) := by decide +kernel
theorem dX11_evenly_68 : decode cX11_evenly 68 = .ok (.ifCond .lt 19, 3) := by decide +kernel
theorem dX11_evenly_87 : decode cX11_evenly 87 = .ok (.iload_n 2, 1) := by decide +kernel
theorem dX11_evenly_88 : decode cX11_evenly 88 = .ok (.ifCond .ne 8, 3) := by decide +kernel
theorem dX11_evenly_91 : decode cX11_evenly 91 = .ok (.iload 8, 2) := by decide +kernel
theorem dX11_evenly_93 : decode cX11_evenly 93 = .ok (.iload_n 3, 1) := by decide +kernel
theorem dX11_evenly_94 : decode cX11_evenly 94 = .ok (.irem, 1) := by decide +kernel
theorem dX11_evenly_95 : decode cX11_evenly 95 = .ok (.ireturn, 1) := by decide +kernel
theorem dX11_evenly_96 : decode cX11_evenly 96 = .ok (.iload_n 2, 1) := by decide +kernel
theorem dX11_evenly_97 : decode cX11_evenly 97 = .ok (.iconst 1, 1) := by decide +kernel
theorem dX11_evenly_98 : decode cX11_evenly 98 = .ok (.if_icmp .ne 8, 3) := by decide +kernel
theorem dX11_evenly_101 : decode cX11_evenly 101 = .ok (.iload 9, 2) := by decide +kernel
theorem dX11_evenly_103 : decode cX11_evenly 103 = .ok (.goto 5, 3) := by decide +kernel
theorem dX11_evenly_106 : decode cX11_evenly 106 = .ok (.iload 8, 2) := by decide +kernel
theorem dX11_evenly_108 : decode cX11_evenly 108 = .ok (.ireturn, 1) := by decide +kernel
theorem dX11_look_0 : decode cX11_look 0 = .ok (.aload_n 0, 1) := by decide +kernel
theorem dX11_look_1 : decode cX11_look 1 = .ok (.iload_n 1, 1) := by decide +kernel
theorem dX11_look_2 : decode cX11_look 2 = .ok (.invokevirtual 186, 3) := by decide +kernel
theorem dX11_look_5 : decode cX11_look 5 = .ok (.ifCond .ne 14, 3) := by decide +kernel
theorem dX11_look_8 : decode cX11_look 8 = .ok (.new 450, 3) := by decide +kernel
theorem dX11_look_11 : decode cX11_look 11 = .ok (.dup, 1) := by decide +kernel
theorem dX11_look_12 : decode cX11_look 12 = .ok (.ldc_w 452, 3) := by decide +kernel
theorem dX11_look_15 : decode cX11_look 15 = .ok (.invokespecial 454, 3) := by decide +kernel
theorem dX11_look_18 : decode cX11_look 18 = .ok (.athrow, 1) := by decide +kernel
theorem dX12_thrown_0 : decode cX12_thrown 0 = .ok (.aload_n 0, 1) := by decide +kernel
theorem dX12_thrown_1 : decode cX12_thrown 1 = .ok (.getfield 132, 3) := by decide +kernel
theorem dX12_thrown_4 : decode cX12_thrown 4 = .ok (.ireturn, 1) := by decide +kernel
theorem dX12_arrange_0 : decode cX12_arrange 0 = .ok (.aload_n 0, 1) := by decide +kernel
theorem dX12_arrange_1 : decode cX12_arrange 1 = .ok (.iconst 0, 1) := by decide +kernel
theorem dX12_arrange_2 : decode cX12_arrange 2 = .ok (.putfield 132, 3) := by decide +kernel
theorem dX12_arrange_5 : decode cX12_arrange 5 = .ok (.iload_n 1, 1) := by decide +kernel
theorem dX12_arrange_6 : decode cX12_arrange 6 = .ok (.aload_n 0, 1) := by decide +kernel
theorem dX12_arrange_7 : decode cX12_arrange 7 = .ok (.getfield 185, 3) := by decide +kernel
theorem dX12_arrange_10 : decode cX12_arrange 10 = .ok (.invokestatic 272, 3) := by decide +kernel
theorem dX12_arrange_13 : decode cX12_arrange 13 = .ok (.ifCond .ne 5, 3) := by decide +kernel
theorem dX12_arrange_16 : decode cX12_arrange 16 = .ok (.iconst 0, 1) := by decide +kernel
theorem dX12_arrange_17 : decode cX12_arrange 17 = .ok (.ireturn, 1) := by decide +kernel
theorem dX12_arrange_18 : decode cX12_arrange 18 = .ok (.iconst 0, 1) := by decide +kernel
theorem dX12_arrange_19 : decode cX12_arrange 19 = .ok (.istore_n 2, 1) := by decide +kernel
theorem dX12_arrange_20 : decode cX12_arrange 20 = .ok (.iload_n 2, 1) := by decide +kernel
theorem dX12_arrange_21 : decode cX12_arrange 21 = .ok (.aload_n 0, 1) := by decide +kernel
theorem dX12_arrange_22 : decode cX12_arrange 22 = .ok (.getfield 185, 3) := by decide +kernel
theorem dX12_arrange_25 : decode cX12_arrange 25 = .ok (.if_icmp .ge 22, 3) := by decide +kernel
theorem dX12_arrange_28 : decode cX12_arrange 28 = .ok (.aload_n 0, 1) := by decide +kernel
theorem dX12_arrange_29 : decode cX12_arrange 29 = .ok (.getfield 62, 3) := by decide +kernel
theorem dX12_arrange_32 : decode cX12_arrange 32 = .ok (.iload_n 2, 1) := by decide +kernel
theorem dX12_arrange_33 : decode cX12_arrange 33 = .ok (.iload_n 1, 1) := by decide +kernel
theorem dX12_arrange_34 : decode cX12_arrange 34 = .ok (.iconst 2, 1) := by decide +kernel
theorem dX12_arrange_35 : decode cX12_arrange 35 = .ok (.iload_n 2, 1) := by decide +kernel
theorem dX12_arrange_36 : decode cX12_arrange 36 = .ok (.imul, 1) := by decide +kernel
theorem dX12_arrange_37 : decode cX12_arrange 37 = .ok (.ishr, 1) := by decide +kernel
theorem dX12_arrange_38 : decode cX12_arrange 38 = .ok (.iconst 3, 1) := by decide +kernel
theorem dX12_arrange_39 : decode cX12_arrange 39 = .ok (.iand, 1) := by decide +kernel
theorem dX12_arrange_40 : decode cX12_arrange 40 = .ok (.iastore, 1) := by decide +kernel
theorem dX12_arrange_41 : decode cX12_arrange 41 = .ok (.iinc 2 1, 3) := by decide +kernel
theorem dX12_arrange_44 : decode cX12_arrange 44 = .ok (.goto (-24), 3) := by decide +kernel
theorem dX12_arrange_47 : decode cX12_arrange 47 = .ok (.aload_n 0, 1) := by decide +kernel
theorem dX12_arrange_48 : decode cX12_arrange 48 = .ok (.iconst 0, 1) := by decide +kernel
theorem dX12_arrange_49 : decode cX12_arrange 49 = .ok (.putfield 234, 3) := by decide +kernel
theorem dX12_arrange_52 : decode cX12_arrange 52 = .ok (.aload_n 0, 1) := by decide +kernel
theorem dX12_arrange_53 : decode cX12_arrange 53 = .ok (.iconst (-1), 1) := by decide +kernel
theorem dX12_arrange_54 : decode cX12_arrange 54 = .ok (.putfield 102, 3) := by decide +kernel
theorem dX12_arrange_57 : decode cX12_arrange 57 = .ok (.iconst 1, 1) := by decide +kernel
theorem dX12_arrange_58 : decode cX12_arrange 58 = .ok (.ireturn, 1) := by decide +kernel
theorem dX12_comesNext_0 : decode cX12_comesNext 0 = .ok (.lload_n 0, 1) := by decide +kernel
theorem dX12_comesNext_1 : decode cX12_comesNext 1 = .ok (.ldc2_w 396, 3) := by decide +kernel
theorem dX12_comesNext_4 : decode cX12_comesNext 4 = .ok (.lmul, 1) := by decide +kernel
theorem dX12_comesNext_5 : decode cX12_comesNext 5 = .ok (.ldc2_w 398, 3) := by decide +kernel
theorem dX12_comesNext_8 : decode cX12_comesNext 8 = .ok (.ladd, 1) := by decide +kernel
theorem dX12_comesNext_9 : decode cX12_comesNext 9 = .ok (.ldc2_w 400, 3) := by decide +kernel
theorem dX12_comesNext_12 : decode cX12_comesNext 12 = .ok (.land, 1) := by decide +kernel
theorem dX12_comesNext_13 : decode cX12_comesNext 13 = .ok (.lreturn, 1) := by decide +kernel
theorem dX12_evenly_18 : decode cX12_evenly 18 = .ok (.aload_n 0, 1) := by decide +kernel
theorem dX12_evenly_19 : decode cX12_evenly 19 = .ok (.getfield 251, 3) := by decide +kernel
theorem dX12_evenly_22 : decode cX12_evenly 22 = .ok (.ifCond .ne 5, 3) := by decide +kernel
theorem dX12_evenly_27 : decode cX12_evenly 27 = .ok (.ldc2_w 408, 3) := by decide +kernel
theorem dX12_evenly_30 : decode cX12_evenly 30 = .ok (.ldc2_w 408, 3) := by decide +kernel
theorem dX12_evenly_33 : decode cX12_evenly 33 = .ok (.aload_n 0, 1) := by decide +kernel
theorem dX12_evenly_34 : decode cX12_evenly 34 = .ok (.getfield 251, 3) := by decide +kernel
theorem dX12_evenly_37 : decode cX12_evenly 37 = .ok (.i2l, 1) := by decide +kernel
theorem dX12_evenly_38 : decode cX12_evenly 38 = .ok (.lrem, 1) := by decide +kernel
theorem dX12_evenly_39 : decode cX12_evenly 39 = .ok (.lsub, 1) := by decide +kernel
theorem dX12_evenly_40 : decode cX12_evenly 40 = .ok (.lstore_n 3, 1) := by decide +kernel
theorem dX12_evenly_41 : decode cX12_evenly 41 = .ok (.iload_n 1, 1) := by decide +kernel
theorem dX12_evenly_42 : decode cX12_evenly 42 = .ok (.i2l, 1) := by decide +kernel
theorem dX12_evenly_43 : decode cX12_evenly 43 = .ok (.invokestatic 402, 3) := by decide +kernel
theorem dX12_evenly_46 : decode cX12_evenly 46 = .ok (.lstore 5, 2) := by decide +kernel
theorem dX12_evenly_48 : decode cX12_evenly 48 = .ok (.iconst 1, 1) := by decide +kernel
theorem dX12_evenly_49 : decode cX12_evenly 49 = .ok (.istore 7, 2) := by decide +kernel
theorem dX12_evenly_51 : decode cX12_evenly 51 = .ok (.lload 5, 2) := by decide +kernel
theorem dX12_evenly_53 : decode cX12_evenly 53 = .ok (.lload_n 3, 1) := by decide +kernel
theorem dX12_evenly_54 : decode cX12_evenly 54 = .ok (.lcmp, 1) := by decide +kernel
theorem dX12_evenly_55 : decode cX12_evenly 55 = .ok (.ifCond .lt 16, 3) := by decide +kernel
theorem dX12_evenly_71 : decode cX12_evenly 71 = .ok (.iload_n 2, 1) := by decide +kernel
theorem dX12_evenly_72 : decode cX12_evenly 72 = .ok (.ifCond .ne 15, 3) := by decide +kernel
theorem dX12_evenly_75 : decode cX12_evenly 75 = .ok (.lload 5, 2) := by decide +kernel
theorem dX12_evenly_77 : decode cX12_evenly 77 = .ok (.aload_n 0, 1) := by decide +kernel
theorem dX12_evenly_78 : decode cX12_evenly 78 = .ok (.getfield 251, 3) := by decide +kernel
theorem dX12_evenly_81 : decode cX12_evenly 81 = .ok (.i2l, 1) := by decide +kernel
theorem dX12_evenly_82 : decode cX12_evenly 82 = .ok (.lrem, 1) := by decide +kernel
theorem dX12_evenly_83 : decode cX12_evenly 83 = .ok (.l2i, 1) := by decide +kernel
theorem dX12_evenly_84 : decode cX12_evenly 84 = .ok (.goto 16, 3) := by decide +kernel
theorem dX12_evenly_87 : decode cX12_evenly 87 = .ok (.iload_n 2, 1) := by decide +kernel
theorem dX12_evenly_88 : decode cX12_evenly 88 = .ok (.iconst 1, 1) := by decide +kernel
theorem dX12_evenly_89 : decode cX12_evenly 89 = .ok (.if_icmp .ne 8, 3) := by decide +kernel
theorem dX12_evenly_92 : decode cX12_evenly 92 = .ok (.iload 7, 2) := by decide +kernel
theorem dX12_evenly_94 : decode cX12_evenly 94 = .ok (.goto 6, 3) := by decide +kernel
theorem dX12_evenly_97 : decode cX12_evenly 97 = .ok (.lload 5, 2) := by decide +kernel
theorem dX12_evenly_99 : decode cX12_evenly 99 = .ok (.l2i, 1) := by decide +kernel
theorem dX12_evenly_100 : decode cX12_evenly 100 = .ok (.ireturn, 1) := by decide +kernel
theorem dX12_fails_0 : decode cX12_fails 0 = .ok (.aload_n 0, 1) := by decide +kernel
theorem dX12_fails_1 : decode cX12_fails 1 = .ok (.iload_n 1, 1) := by decide +kernel
theorem dX12_fails_2 : decode cX12_fails 2 = .ok (.putfield 132, 3) := by decide +kernel
theorem dX12_fails_5 : decode cX12_fails 5 = .ok (.iconst 0, 1) := by decide +kernel
theorem dX12_fails_6 : decode cX12_fails 6 = .ok (.ireturn, 1) := by decide +kernel
theorem dX12_look_0 : decode cX12_look 0 = .ok (.aload_n 0, 1) := by decide +kernel
theorem dX12_look_1 : decode cX12_look 1 = .ok (.iconst 0, 1) := by decide +kernel
theorem dX12_look_2 : decode cX12_look 2 = .ok (.putfield 132, 3) := by decide +kernel
theorem dX12_look_5 : decode cX12_look 5 = .ok (.aload_n 0, 1) := by decide +kernel
theorem dX12_look_6 : decode cX12_look 6 = .ok (.iload_n 1, 1) := by decide +kernel
theorem dX12_look_7 : decode cX12_look 7 = .ok (.invokevirtual 269, 3) := by decide +kernel
theorem dX12_look_10 : decode cX12_look 10 = .ok (.ifCond .ne 9, 3) := by decide +kernel
theorem dX12_look_13 : decode cX12_look 13 = .ok (.aload_n 0, 1) := by decide +kernel
theorem dX12_look_14 : decode cX12_look 14 = .ok (.iconst 1, 1) := by decide +kernel
theorem dX12_look_15 : decode cX12_look 15 = .ok (.invokevirtual 410, 3) := by decide +kernel
theorem dX12_look_18 : decode cX12_look 18 = .ok (.ireturn, 1) := by decide +kernel
set_option maxRecDepth 20000 in
theorem ggL_look_X11_look : GoodIn wsL_look wsX11_look := goodIn_ca (goodIn_r _ [7, 8, 9, 10, 11, 12, 13, 14, 15, 6, 16, 17, 18, 19, 20, 21, 22, 23, 24, 25, 26, 27, 28, 29, 30, 31, 32, 33, 34, 35, 36, 37, 38, 39, 40, 41, 42, 43, 44, 45, 46, 47, 48, 49, 50, 51] (by decide +kernel) (by decide +kernel)) (goodIn_sub (fun _ h => List.mem_cons_of_mem _ (List.mem_append_right _ h)) (by decide +kernel))
set_option maxRecDepth 20000 in
theorem gL_look_X11_look : GoodIn wsL_look (wsV RL 7 RX11 yX11_look wsX11_look) := goodIn_app (goodIn_of _ (by decide +kernel)) ggL_look_X11_look
theorem dL_look_0 : decode cL_look 0 = .ok (.aload_n 3, 1) := by decide +kernel
theorem dL_look_1 : decode cL_look 1 = .ok (.iconst 0, 1) := by decide +kernel
theorem dL_look_2 : decode cL_look 2 = .ok (.aload_n 0, 1) := by decide +kernel
theorem dL_look_3 : decode cL_look 3 = .ok (.iload_n 1, 1) := by decide +kernel
theorem dL_look_4 : decode cL_look 4 = .ok (.iload_n 2, 1) := by decide +kernel
theorem dL_look_5 : decode cL_look 5 = .ok (.invokevirtual 7, 3) := by decide +kernel
theorem dL_look_13 : decode cL_look 13 = .ok (.astore 4, 2) := by decide +kernel
theorem dL_look_15 : decode cL_look 15 = .ok (.iconst 1, 1) := by decide +kernel
theorem dL_look_16 : decode cL_look 16 = .ok (.ireturn, 1) := by decide +kernel
set_option maxRecDepth 20000 in
theorem ggL_law_L_look : GoodIn wsL_law wsL_look := goodIn_ca (goodIn_r _ [1395, 1396, 1397, 1398, 1399, 1400, 2, 1401, 1402, 1403, 1404, 1405, 18, 657, 658, 659, 660, 712, 666, 667, 17, 668, 70, 1426, 1427, 1428, 1429, 1430, 1431, 1432, 1433, 1434, 1435, 1436, 1437, 1438, 1439, 1440, 1441, 1442, 1443, 1510, 1511, 1512, 1513, 1514, 1515, 1516, 1517, 1518, 1519, 1520] (by decide +kernel) (by decide +kernel)) (goodIn_sub (fun _ h => List.mem_append_right _ h) (by decide +kernel))
set_option maxRecDepth 20000 in
theorem gL_law_L_look : GoodIn wsL_law (va_wsS RL 152 yL_look wsL_look) := goodIn_app (goodIn_of _ (by decide +kernel)) ggL_law_L_look
theorem dL_law_0 : decode cL_law 0 = .ok (.new 8, 3) := by decide +kernel
theorem dL_law_3 : decode cL_law 3 = .ok (.dup, 1) := by decide +kernel
theorem dL_law_4 : decode cL_law 4 = .ok (.invokespecial 17, 3) := by decide +kernel
theorem dL_law_7 : decode cL_law 7 = .ok (.astore_n 1, 1) := by decide +kernel
theorem dL_law_8 : decode cL_law 8 = .ok (.new 18, 3) := by decide +kernel
theorem dL_law_11 : decode cL_law 11 = .ok (.dup, 1) := by decide +kernel
theorem dL_law_12 : decode cL_law 12 = .ok (.invokespecial 20, 3) := by decide +kernel
theorem dL_law_15 : decode cL_law 15 = .ok (.astore_n 2, 1) := by decide +kernel
theorem dL_law_16 : decode cL_law 16 = .ok (.iconst 1, 1) := by decide +kernel
theorem dL_law_17 : decode cL_law 17 = .ok (.newarray .long, 2) := by decide +kernel
theorem dL_law_19 : decode cL_law 19 = .ok (.astore_n 3, 1) := by decide +kernel
theorem dL_law_20 : decode cL_law 20 = .ok (.iconst 0, 1) := by decide +kernel
theorem dL_law_21 : decode cL_law 21 = .ok (.istore 4, 2) := by decide +kernel
theorem dL_law_23 : decode cL_law 23 = .ok (.iload 4, 2) := by decide +kernel
theorem dL_law_25 : decode cL_law 25 = .ok (.aload_n 0, 1) := by decide +kernel
theorem dL_law_26 : decode cL_law 26 = .ok (.arraylength, 1) := by decide +kernel
theorem dL_law_27 : decode cL_law 27 = .ok (.bipush 6, 2) := by decide +kernel
theorem dL_law_29 : decode cL_law 29 = .ok (.isub, 1) := by decide +kernel
theorem dL_law_30 : decode cL_law 30 = .ok (.if_icmp .gt 1206, 3) := by decide +kernel
theorem dL_law_33 : decode cL_law 33 = .ok (.aload_n 0, 1) := by decide +kernel
theorem dL_law_34 : decode cL_law 34 = .ok (.iload 4, 2) := by decide +kernel
theorem dL_law_36 : decode cL_law 36 = .ok (.iaload, 1) := by decide +kernel
theorem dL_law_37 : decode cL_law 37 = .ok (.bipush 63, 2) := by decide +kernel
theorem dL_law_39 : decode cL_law 39 = .ok (.iand, 1) := by decide +kernel
theorem dL_law_40 : decode cL_law 40 = .ok (.tableswitch 1190 0 32 #[148, 221, 246, 271, 308, 321, 346, 359, 396, 421, 446, 471, 496, 509, 534, 559, 572, 597, 622, 672, 722, 748, 798, 823, 848, 898, 923, 948, 985, 1023, 1060, 1097, 1165], 148) := by decide +kernel
theorem dL_law_188 : decode cL_law 188 = .ok (.aload_n 1, 1) := by decide +kernel
theorem dL_law_189 : decode cL_law 189 = .ok (.aload_n 0, 1) := by decide +kernel
theorem dL_law_190 : decode cL_law 190 = .ok (.iload 4, 2) := by decide +kernel
theorem dL_law_192 : decode cL_law 192 = .ok (.iconst 1, 1) := by decide +kernel
theorem dL_law_193 : decode cL_law 193 = .ok (.iadd, 1) := by decide +kernel
theorem dL_law_194 : decode cL_law 194 = .ok (.iaload, 1) := by decide +kernel
theorem dL_law_195 : decode cL_law 195 = .ok (.aload_n 0, 1) := by decide +kernel
theorem dL_law_196 : decode cL_law 196 = .ok (.iload 4, 2) := by decide +kernel
theorem dL_law_198 : decode cL_law 198 = .ok (.iconst 2, 1) := by decide +kernel
theorem dL_law_199 : decode cL_law 199 = .ok (.iadd, 1) := by decide +kernel
theorem dL_law_200 : decode cL_law 200 = .ok (.iaload, 1) := by decide +kernel
theorem dL_law_201 : decode cL_law 201 = .ok (.aload_n 0, 1) := by decide +kernel
theorem dL_law_202 : decode cL_law 202 = .ok (.iload 4, 2) := by decide +kernel
theorem dL_law_204 : decode cL_law 204 = .ok (.iconst 3, 1) := by decide +kernel
theorem dL_law_205 : decode cL_law 205 = .ok (.iadd, 1) := by decide +kernel
theorem dL_law_206 : decode cL_law 206 = .ok (.iaload, 1) := by decide +kernel
theorem dL_law_207 : decode cL_law 207 = .ok (.aload_n 0, 1) := by decide +kernel
theorem dL_law_208 : decode cL_law 208 = .ok (.iload 4, 2) := by decide +kernel
theorem dL_law_210 : decode cL_law 210 = .ok (.iconst 4, 1) := by decide +kernel
theorem dL_law_211 : decode cL_law 211 = .ok (.iadd, 1) := by decide +kernel
theorem dL_law_212 : decode cL_law 212 = .ok (.iaload, 1) := by decide +kernel
theorem dL_law_213 : decode cL_law 213 = .ok (.aload_n 0, 1) := by decide +kernel
theorem dL_law_214 : decode cL_law 214 = .ok (.iload 4, 2) := by decide +kernel
theorem dL_law_216 : decode cL_law 216 = .ok (.iconst 5, 1) := by decide +kernel
theorem dL_law_217 : decode cL_law 217 = .ok (.iadd, 1) := by decide +kernel
theorem dL_law_218 : decode cL_law 218 = .ok (.iaload, 1) := by decide +kernel
theorem dL_law_219 : decode cL_law 219 = .ok (.invokevirtual 21, 3) := by decide +kernel
theorem dL_law_222 : decode cL_law 222 = .ok (.aload_n 2, 1) := by decide +kernel
theorem dL_law_223 : decode cL_law 223 = .ok (.aload_n 0, 1) := by decide +kernel
theorem dL_law_224 : decode cL_law 224 = .ok (.iload 4, 2) := by decide +kernel
theorem dL_law_226 : decode cL_law 226 = .ok (.iconst 1, 1) := by decide +kernel
theorem dL_law_227 : decode cL_law 227 = .ok (.iadd, 1) := by decide +kernel
