theorem rl_wsX11_arrange_r1 : ∀ w ∈ wsX11_arrange_r1, w ∈ wsX11_arrange := fun _ h => (List.mem_cons_of_mem _ (List.mem_append_left _ (List.mem_append_left _ (List.mem_append_left _ (List.mem_append_left _ (List.mem_append_left _ h))))))
theorem rl_wsX11_arrange_r2 : ∀ w ∈ wsX11_arrange_r2, w ∈ wsX11_arrange := fun _ h => (List.mem_cons_of_mem _ (List.mem_append_left _ (List.mem_append_left _ (List.mem_append_left _ (List.mem_append_left _ (List.mem_append_right _ h))))))
theorem rl_wsX11_beginAnew_r1 : ∀ w ∈ wsX11_beginAnew_r1, w ∈ wsX11_beginAnew := fun _ h => (List.mem_cons_of_mem _ (List.mem_append_left _ (List.mem_append_left _ (List.mem_append_left _ (List.mem_append_left _ (List.mem_append_left _ (List.mem_append_left _ (List.mem_append_left _ (List.mem_append_left _ (List.mem_append_left _ (List.mem_append_left _ (List.mem_append_left _ h))))))))))))
theorem rl_wsX11_beginAnew_r2 : ∀ w ∈ wsX11_beginAnew_r2, w ∈ wsX11_beginAnew := fun _ h => (List.mem_cons_of_mem _ (List.mem_append_left _ (List.mem_append_left _ (List.mem_append_left _ (List.mem_append_left _ (List.mem_append_left _ (List.mem_append_left _ (List.mem_append_left _ (List.mem_append_left _ (List.mem_append_left _ (List.mem_append_left _ (List.mem_append_right _ (List.mem_append_left _ h)))))))))))))
theorem rl_wsX11_beginAnew_r3 : ∀ w ∈ wsX11_beginAnew_r3, w ∈ wsX11_beginAnew := fun _ h => (List.mem_cons_of_mem _ (List.mem_append_left _ (List.mem_append_left _ (List.mem_append_left _ (List.mem_append_left _ (List.mem_append_left _ (List.mem_append_left _ (List.mem_append_left _ (List.mem_append_left _ (List.mem_append_left _ (List.mem_append_left _ (List.mem_append_right _ (List.mem_append_right _ (List.mem_append_left _ h))))))))))))))
theorem rl_wsX11_beginAnew_r4 : ∀ w ∈ wsX11_beginAnew_r4, w ∈ wsX11_beginAnew := fun _ h => (List.mem_cons_of_mem _ (List.mem_append_left _ (List.mem_append_left _ (List.mem_append_left _ (List.mem_append_left _ (List.mem_append_left _ (List.mem_append_left _ (List.mem_append_left _ (List.mem_append_left _ (List.mem_append_left _ (List.mem_append_left _ (List.mem_append_right _ (List.mem_append_right _ (List.mem_append_right _ (List.mem_append_left _ h)))))))))))))))
theorem rl_wsX11_beginAnew_r5 : ∀ w ∈ wsX11_beginAnew_r5, w ∈ wsX11_beginAnew := fun _ h => (List.mem_cons_of_mem _ (List.mem_append_left _ (List.mem_append_left _ (List.mem_append_left _ (List.mem_append_left _ (List.mem_append_left _ (List.mem_append_left _ (List.mem_append_left _ (List.mem_append_left _ (List.mem_append_left _ (List.mem_append_left _ (List.mem_append_right _ (List.mem_append_right _ (List.mem_append_right _ (List.mem_append_right _ (List.mem_append_left _ h))))))))))))))))
theorem rl_wsX11_beginAnew_r6 : ∀ w ∈ wsX11_beginAnew_r6, w ∈ wsX11_beginAnew := fun _ h => (List.mem_cons_of_mem _ (List.mem_append_left _ (List.mem_append_left _ (List.mem_append_left _ (List.mem_append_left _ (List.mem_append_left _ (List.mem_append_left _ (List.mem_append_left _ (List.mem_append_left _ (List.mem_append_left _ (List.mem_append_left _ (List.mem_append_right _ (List.mem_append_right _ (List.mem_append_right _ (List.mem_append_right _ (List.mem_append_right _ h))))))))))))))))
theorem rl_wsX11_draw_r1 : ∀ w ∈ wsX11_draw_r1, w ∈ wsX11_draw := fun _ h => (List.mem_cons_of_mem _ (List.mem_append_left _ (List.mem_append_left _ (List.mem_append_left _ (List.mem_append_left _ (List.mem_append_left _ h))))))
theorem rl_wsX11_draw_r2 : ∀ w ∈ wsX11_draw_r2, w ∈ wsX11_draw := fun _ h => (List.mem_cons_of_mem _ (List.mem_append_left _ (List.mem_append_left _ (List.mem_append_left _ (List.mem_append_left _ (List.mem_append_right _ h))))))
theorem rl_wsX11_order_r1 : ∀ w ∈ wsX11_order_r1, w ∈ wsX11_order := fun _ h => (List.mem_cons_of_mem _ (List.mem_append_left _ (List.mem_append_left _ (List.mem_append_left _ (List.mem_append_left _ (List.mem_append_left _ (List.mem_append_left _ h)))))))
theorem rl_wsX11_order_r2 : ∀ w ∈ wsX11_order_r2, w ∈ wsX11_order := fun _ h => (List.mem_cons_of_mem _ (List.mem_append_left _ (List.mem_append_left _ (List.mem_append_left _ (List.mem_append_left _ (List.mem_append_left _ (List.mem_append_right _ h)))))))
theorem rl_wsX11_text_r1 : ∀ w ∈ wsX11_text_r1, w ∈ wsX11_text := fun _ h => (List.mem_cons_of_mem _ (List.mem_append_left _ (List.mem_append_left _ (List.mem_append_left _ (List.mem_append_left _ (List.mem_append_left _ (List.mem_append_left _ (List.mem_append_left _ (List.mem_append_left _ (List.mem_append_left _ (List.mem_append_left _ (List.mem_append_left _ (List.mem_append_left _ h)))))))))))))
theorem rl_wsX11_text_r10 : ∀ w ∈ wsX11_text_r10, w ∈ wsX11_text := fun _ h => (List.mem_cons_of_mem _ (List.mem_append_left _ (List.mem_append_left _ (List.mem_append_left _ (List.mem_append_left _ (List.mem_append_left _ (List.mem_append_left _ (List.mem_append_left _ (List.mem_append_left _ (List.mem_append_left _ (List.mem_append_left _ (List.mem_append_left _ (List.mem_append_right _ (List.mem_append_right _ (List.mem_append_right _ (List.mem_append_right _ (List.mem_append_right _ (List.mem_append_right _ (List.mem_append_right _ (List.mem_append_right _ (List.mem_append_right _ (List.mem_append_left _ h))))))))))))))))))))))
theorem rl_wsX11_text_r11 : ∀ w ∈ wsX11_text_r11, w ∈ wsX11_text := fun _ h => (List.mem_cons_of_mem _ (List.mem_append_left _ (List.mem_append_left _ (List.mem_append_left _ (List.mem_append_left _ (List.mem_append_left _ (List.mem_append_left _ (List.mem_append_left _ (List.mem_append_left _ (List.mem_append_left _ (List.mem_append_left _ (List.mem_append_left _ (List.mem_append_right _ (List.mem_append_right _ (List.mem_append_right _ (List.mem_append_right _ (List.mem_append_right _ (List.mem_append_right _ (List.mem_append_right _ (List.mem_append_right _ (List.mem_append_right _ (List.mem_append_right _ (List.mem_append_left _ h)))))))))))))))))))))))
theorem rl_wsX11_text_r12 : ∀ w ∈ wsX11_text_r12, w ∈ wsX11_text := fun _ h => (List.mem_cons_of_mem _ (List.mem_append_left _ (List.mem_append_left _ (List.mem_append_left _ (List.mem_append_left _ (List.mem_append_left _ (List.mem_append_left _ (List.mem_append_left _ (List.mem_append_left _ (List.mem_append_left _ (List.mem_append_left _ (List.mem_append_left _ (List.mem_append_right _ (List.mem_append_right _ (List.mem_append_right _ (List.mem_append_right _ (List.mem_append_right _ (List.mem_append_right _ (List.mem_append_right _ (List.mem_append_right _ (List.mem_append_right _ (List.mem_append_right _ (List.mem_append_right _ (List.mem_append_left _ h))))))))))))))))))))))))
theorem rl_wsX11_text_r13 : ∀ w ∈ wsX11_text_r13, w ∈ wsX11_text := fun _ h => (List.mem_cons_of_mem _ (List.mem_append_left _ (List.mem_append_left _ (List.mem_append_left _ (List.mem_append_left _ (List.mem_append_left _ (List.mem_append_left _ (List.mem_append_left _ (List.mem_append_left _ (List.mem_append_left _ (List.mem_append_left _ (List.mem_append_left _ (List.mem_append_right _ (List.mem_append_right _ (List.mem_append_right _ (List.mem_append_right _ (List.mem_append_right _ (List.mem_append_right _ (List.mem_append_right _ (List.mem_append_right _ (List.mem_append_right _ (List.mem_append_right _ (List.mem_append_right _ (List.mem_append_right _ h))))))))))))))))))))))))
theorem rl_wsX11_text_r2 : ∀ w ∈ wsX11_text_r2, w ∈ wsX11_text := fun _ h => (List.mem_cons_of_mem _ (List.mem_append_left _ (List.mem_append_left _ (List.mem_append_left _ (List.mem_append_left _ (List.mem_append_left _ (List.mem_append_left _ (List.mem_append_left _ (List.mem_append_left _ (List.mem_append_left _ (List.mem_append_left _ (List.mem_append_left _ (List.mem_append_right _ (List.mem_append_left _ h))))))))))))))
theorem rl_wsX11_text_r3 : ∀ w ∈ wsX11_text_r3, w ∈ wsX11_text := fun _ h => (List.mem_cons_of_mem _ (List.mem_append_left _ (List.mem_append_left _ (List.mem_append_left _ (List.mem_append_left _ (List.mem_append_left _ (List.mem_append_left _ (List.mem_append_left _ (List.mem_append_left _ (List.mem_append_left _ (List.mem_append_left _ (List.mem_append_left _ (List.mem_append_right _ (List.mem_append_right _ (List.mem_append_left _ h)))))))))))))))
theorem rl_wsX11_text_r4 : ∀ w ∈ wsX11_text_r4, w ∈ wsX11_text := fun _ h => (List.mem_cons_of_mem _ (List.mem_append_left _ (List.mem_append_left _ (List.mem_append_left _ (List.mem_append_left _ (List.mem_append_left _ (List.mem_append_left _ (List.mem_append_left _ (List.mem_append_left _ (List.mem_append_left _ (List.mem_append_left _ (List.mem_append_left _ (List.mem_append_right _ (List.mem_append_right _ (List.mem_append_right _ (List.mem_append_left _ h))))))))))))))))
theorem rl_wsX11_text_r5 : ∀ w ∈ wsX11_text_r5, w ∈ wsX11_text := fun _ h => (List.mem_cons_of_mem _ (List.mem_append_left _ (List.mem_append_left _ (List.mem_append_left _ (List.mem_append_left _ (List.mem_append_left _ (List.mem_append_left _ (List.mem_append_left _ (List.mem_append_left _ (List.mem_append_left _ (List.mem_append_left _ (List.mem_append_left _ (List.mem_append_right _ (List.mem_append_right _ (List.mem_append_right _ (List.mem_append_right _ (List.mem_append_left _ h)))))))))))))))))
theorem rl_wsX11_text_r6 : ∀ w ∈ wsX11_text_r6, w ∈ wsX11_text := fun _ h => (List.mem_cons_of_mem _ (List.mem_append_left _ (List.mem_append_left _ (List.mem_append_left _ (List.mem_append_left _ (List.mem_append_left _ (List.mem_append_left _ (List.mem_append_left _ (List.mem_append_left _ (List.mem_append_left _ (List.mem_append_left _ (List.mem_append_left _ (List.mem_append_right _ (List.mem_append_right _ (List.mem_append_right _ (List.mem_append_right _ (List.mem_append_right _ (List.mem_append_left _ h))))))))))))))))))
theorem rl_wsX11_text_r7 : ∀ w ∈ wsX11_text_r7, w ∈ wsX11_text := fun _ h => (List.mem_cons_of_mem _ (List.mem_append_left _ (List.mem_append_left _ (List.mem_append_left _ (List.mem_append_left _ (List.mem_append_left _ (List.mem_append_left _ (List.mem_append_left _ (List.mem_append_left _ (List.mem_append_left _ (List.mem_append_left _ (List.mem_append_left _ (List.mem_append_right _ (List.mem_append_right _ (List.mem_append_right _ (List.mem_append_right _ (List.mem_append_right _ (List.mem_append_right _ (List.mem_append_left _ h)))))))))))))))))))
theorem rl_wsX11_text_r8 : ∀ w ∈ wsX11_text_r8, w ∈ wsX11_text := fun _ h => (List.mem_cons_of_mem _ (List.mem_append_left _ (List.mem_append_left _ (List.mem_append_left _ (List.mem_append_left _ (List.mem_append_left _ (List.mem_append_left _ (List.mem_append_left _ (List.mem_append_left _ (List.mem_append_left _ (List.mem_append_left _ (List.mem_append_left _ (List.mem_append_right _ (List.mem_append_right _ (List.mem_append_right _ (List.mem_append_right _ (List.mem_append_right _ (List.mem_append_right _ (List.mem_append_right _ (List.mem_append_left _ h))))))))))))))))))))
theorem rl_wsX11_text_r9 : ∀ w ∈ wsX11_text_r9, w ∈ wsX11_text := fun _ h => (List.mem_cons_of_mem _ (List.mem_append_left _ (List.mem_append_left _ (List.mem_append_left _ (List.mem_append_left _ (List.mem_append_left _ (List.mem_append_left _ (List.mem_append_left _ (List.mem_append_left _ (List.mem_append_left _ (List.mem_append_left _ (List.mem_append_left _ (List.mem_append_right _ (List.mem_append_right _ (List.mem_append_right _ (List.mem_append_right _ (List.mem_append_right _ (List.mem_append_right _ (List.mem_append_right _ (List.mem_append_right _ (List.mem_append_left _ h)))))))))))))))))))))
theorem rl_wsX11_treeOfNow_r1 : ∀ w ∈ wsX11_treeOfNow_r1, w ∈ wsX11_treeOfNow := fun _ h => (List.mem_cons_of_mem _ (List.mem_append_left _ (List.mem_append_left _ (List.mem_append_left _ (List.mem_append_left _ (List.mem_append_left _ (List.mem_append_left _ (List.mem_append_left _ h))))))))
theorem rl_wsX11_treeOfNow_r2 : ∀ w ∈ wsX11_treeOfNow_r2, w ∈ wsX11_treeOfNow := fun _ h => (List.mem_cons_of_mem _ (List.mem_append_left _ (List.mem_append_left _ (List.mem_append_left _ (List.mem_append_left _ (List.mem_append_left _ (List.mem_append_left _ (List.mem_append_right _ h))))))))
theorem rl_wsX2_renew_r1 : ∀ w ∈ wsX2_renew_r1, w ∈ wsX2_renew := fun _ h => (List.mem_cons_of_mem _ (List.mem_append_left _ (List.mem_append_left _ (List.mem_append_left _ (List.mem_append_left _ (List.mem_append_left _ h))))))
theorem rl_wsX2_renew_r2 : ∀ w ∈ wsX2_renew_r2, w ∈ wsX2_renew := fun _ h => (List.mem_cons_of_mem _ (List.mem_append_left _ (List.mem_append_left _ (List.mem_append_left _ (List.mem_append_left _ (List.mem_append_right _ (List.mem_append_left _ h)))))))
theorem rl_wsX2_renew_r3 : ∀ w ∈ wsX2_renew_r3, w ∈ wsX2_renew := fun _ h => (List.mem_cons_of_mem _ (List.mem_append_left _ (List.mem_append_left _ (List.mem_append_left _ (List.mem_append_left _ (List.mem_append_right _ (List.mem_append_right _ h)))))))
theorem rl_wsX4_set_r1 : ∀ w ∈ wsX4_set_r1, w ∈ wsX4_set := fun _ h => (List.mem_cons_of_mem _ (List.mem_append_left _ (List.mem_append_left _ h)))
theorem rl_wsX4_set_r2 : ∀ w ∈ wsX4_set_r2, w ∈ wsX4_set := fun _ h => (List.mem_cons_of_mem _ (List.mem_append_left _ (List.mem_append_right _ h)))
theorem rl_wsX4_setSwaps_r1 : ∀ w ∈ wsX4_setSwaps_r1, w ∈ wsX4_setSwaps := fun _ h => (List.mem_cons_of_mem _ (List.mem_append_left _ (List.mem_append_left _ h)))
theorem rl_wsX4_setSwaps_r2 : ∀ w ∈ wsX4_setSwaps_r2, w ∈ wsX4_setSwaps := fun _ h => (List.mem_cons_of_mem _ (List.mem_append_left _ (List.mem_append_right _ h)))
theorem rl_wsX5_readApart_r1 : ∀ w ∈ wsX5_readApart_r1, w ∈ wsX5_readApart := fun _ h => (List.mem_cons_of_mem _ (List.mem_append_left _ (List.mem_append_left _ (List.mem_append_left _ h))))
theorem rl_wsX5_readApart_r2 : ∀ w ∈ wsX5_readApart_r2, w ∈ wsX5_readApart := fun _ h => (List.mem_cons_of_mem _ (List.mem_append_left _ (List.mem_append_left _ (List.mem_append_right _ (List.mem_append_left _ h)))))
theorem rl_wsX5_readApart_r3 : ∀ w ∈ wsX5_readApart_r3, w ∈ wsX5_readApart := fun _ h => (List.mem_cons_of_mem _ (List.mem_append_left _ (List.mem_append_left _ (List.mem_append_right _ (List.mem_append_right _ h)))))
theorem rl_wsX5_readAtMost_r1 : ∀ w ∈ wsX5_readAtMost_r1, w ∈ wsX5_readAtMost := fun _ h => (List.mem_cons_of_mem _ (List.mem_append_left _ (List.mem_append_left _ (List.mem_append_left _ h))))
theorem rl_wsX5_readAtMost_r2 : ∀ w ∈ wsX5_readAtMost_r2, w ∈ wsX5_readAtMost := fun _ h => (List.mem_cons_of_mem _ (List.mem_append_left _ (List.mem_append_left _ (List.mem_append_right _ (List.mem_append_left _ h)))))
theorem rl_wsX5_readAtMost_r3 : ∀ w ∈ wsX5_readAtMost_r3, w ∈ wsX5_readAtMost := fun _ h => (List.mem_cons_of_mem _ (List.mem_append_left _ (List.mem_append_left _ (List.mem_append_right _ (List.mem_append_right _ (List.mem_append_left _ h))))))
theorem rl_wsX5_readAtMost_r4 : ∀ w ∈ wsX5_readAtMost_r4, w ∈ wsX5_readAtMost := fun _ h => (List.mem_cons_of_mem _ (List.mem_append_left _ (List.mem_append_left _ (List.mem_append_right _ (List.mem_append_right _ (List.mem_append_right _ h))))))
theorem rl_wsX5_readGroups_r1 : ∀ w ∈ wsX5_readGroups_r1, w ∈ wsX5_readGroups := fun _ h => (List.mem_cons_of_mem _ (List.mem_append_left _ (List.mem_append_left _ (List.mem_append_left _ h))))
theorem rl_wsX5_readGroups_r2 : ∀ w ∈ wsX5_readGroups_r2, w ∈ wsX5_readGroups := fun _ h => (List.mem_cons_of_mem _ (List.mem_append_left _ (List.mem_append_left _ (List.mem_append_right _ h))))
theorem rl_wsX5_readHeld_r1 : ∀ w ∈ wsX5_readHeld_r1, w ∈ wsX5_readHeld := fun _ h => (List.mem_cons_of_mem _ (List.mem_append_left _ (List.mem_append_left _ (List.mem_append_left _ h))))
theorem rl_wsX5_readHeld_r2 : ∀ w ∈ wsX5_readHeld_r2, w ∈ wsX5_readHeld := fun _ h => (List.mem_cons_of_mem _ (List.mem_append_left _ (List.mem_append_left _ (List.mem_append_right _ (List.mem_append_left _ h)))))
theorem rl_wsX5_readHeld_r3 : ∀ w ∈ wsX5_readHeld_r3, w ∈ wsX5_readHeld := fun _ h => (List.mem_cons_of_mem _ (List.mem_append_left _ (List.mem_append_left _ (List.mem_append_right _ (List.mem_append_right _ (List.mem_append_left _ h))))))
theorem rl_wsX5_readHeld_r4 : ∀ w ∈ wsX5_readHeld_r4, w ∈ wsX5_readHeld := fun _ h => (List.mem_cons_of_mem _ (List.mem_append_left _ (List.mem_append_left _ (List.mem_append_right _ (List.mem_append_right _ (List.mem_append_right _ h))))))
theorem rl_wsX5_readLine_r1 : ∀ w ∈ wsX5_readLine_r1, w ∈ wsX5_readLine := fun _ h => (List.mem_cons_of_mem _ (List.mem_append_left _ (List.mem_append_left _ (List.mem_append_left _ h))))
theorem rl_wsX5_readLine_r2 : ∀ w ∈ wsX5_readLine_r2, w ∈ wsX5_readLine := fun _ h => (List.mem_cons_of_mem _ (List.mem_append_left _ (List.mem_append_left _ (List.mem_append_right _ (List.mem_append_left _ h)))))
theorem rl_wsX5_readLine_r3 : ∀ w ∈ wsX5_readLine_r3, w ∈ wsX5_readLine := fun _ h => (List.mem_cons_of_mem _ (List.mem_append_left _ (List.mem_append_left _ (List.mem_append_right _ (List.mem_append_right _ (List.mem_append_left _ h))))))
theorem rl_wsX5_readLine_r4 : ∀ w ∈ wsX5_readLine_r4, w ∈ wsX5_readLine := fun _ h => (List.mem_cons_of_mem _ (List.mem_append_left _ (List.mem_append_left _ (List.mem_append_right _ (List.mem_append_right _ (List.mem_append_right _ (List.mem_append_left _ h)))))))
theorem rl_wsX5_readLine_r5 : ∀ w ∈ wsX5_readLine_r5, w ∈ wsX5_readLine := fun _ h => (List.mem_cons_of_mem _ (List.mem_append_left _ (List.mem_append_left _ (List.mem_append_right _ (List.mem_append_right _ (List.mem_append_right _ (List.mem_append_right _ (List.mem_append_left _ h))))))))
theorem rl_wsX5_readLine_r6 : ∀ w ∈ wsX5_readLine_r6, w ∈ wsX5_readLine := fun _ h => (List.mem_cons_of_mem _ (List.mem_append_left _ (List.mem_append_left _ (List.mem_append_right _ (List.mem_append_right _ (List.mem_append_right _ (List.mem_append_right _ (List.mem_append_right _ h))))))))
theorem rl_wsX5_readLines_r1 : ∀ w ∈ wsX5_readLines_r1, w ∈ wsX5_readLines := fun _ h => (List.mem_cons_of_mem _ (List.mem_append_left _ (List.mem_append_left _ (List.mem_append_left _ h))))
theorem rl_wsX5_readLines_r2 : ∀ w ∈ wsX5_readLines_r2, w ∈ wsX5_readLines := fun _ h => (List.mem_cons_of_mem _ (List.mem_append_left _ (List.mem_append_left _ (List.mem_append_right _ (List.mem_append_left _ h)))))
theorem rl_wsX5_readLines_r3 : ∀ w ∈ wsX5_readLines_r3, w ∈ wsX5_readLines := fun _ h => (List.mem_cons_of_mem _ (List.mem_append_left _ (List.mem_append_left _ (List.mem_append_right _ (List.mem_append_right _ (List.mem_append_left _ h))))))
theorem rl_wsX5_readLines_r4 : ∀ w ∈ wsX5_readLines_r4, w ∈ wsX5_readLines := fun _ h => (List.mem_cons_of_mem _ (List.mem_append_left _ (List.mem_append_left _ (List.mem_append_right _ (List.mem_append_right _ (List.mem_append_right _ (List.mem_append_left _ h)))))))
theorem rl_wsX5_readLines_r5 : ∀ w ∈ wsX5_readLines_r5, w ∈ wsX5_readLines := fun _ h => (List.mem_cons_of_mem _ (List.mem_append_left _ (List.mem_append_left _ (List.mem_append_right _ (List.mem_append_right _ (List.mem_append_right _ (List.mem_append_right _ (List.mem_append_left _ h))))))))
theorem rl_wsX5_readLines_r6 : ∀ w ∈ wsX5_readLines_r6, w ∈ wsX5_readLines := fun _ h => (List.mem_cons_of_mem _ (List.mem_append_left _ (List.mem_append_left _ (List.mem_append_right _ (List.mem_append_right _ (List.mem_append_right _ (List.mem_append_right _ (List.mem_append_right _ (List.mem_append_left _ h)))))))))
theorem rl_wsX5_readLines_r7 : ∀ w ∈ wsX5_readLines_r7, w ∈ wsX5_readLines := fun _ h => (List.mem_cons_of_mem _ (List.mem_append_left _ (List.mem_append_left _ (List.mem_append_right _ (List.mem_append_right _ (List.mem_append_right _ (List.mem_append_right _ (List.mem_append_right _ (List.mem_append_right _ h)))))))))
theorem rl_wsX5_readMark_r1 : ∀ w ∈ wsX5_readMark_r1, w ∈ wsX5_readMark := fun _ h => (List.mem_cons_of_mem _ (List.mem_append_left _ (List.mem_append_left _ (List.mem_append_left _ h))))
theorem rl_wsX5_readMark_r2 : ∀ w ∈ wsX5_readMark_r2, w ∈ wsX5_readMark := fun _ h => (List.mem_cons_of_mem _ (List.mem_append_left _ (List.mem_append_left _ (List.mem_append_right _ (List.mem_append_left _ h)))))
theorem rl_wsX5_readMark_r3 : ∀ w ∈ wsX5_readMark_r3, w ∈ wsX5_readMark := fun _ h => (List.mem_cons_of_mem _ (List.mem_append_left _ (List.mem_append_left _ (List.mem_append_right _ (List.mem_append_right _ h)))))
theorem rl_wsX5_readPot_r1 : ∀ w ∈ wsX5_readPot_r1, w ∈ wsX5_readPot := fun _ h => (List.mem_cons_of_mem _ (List.mem_append_left _ (List.mem_append_left _ (List.mem_append_left _ h))))
theorem rl_wsX5_readPot_r2 : ∀ w ∈ wsX5_readPot_r2, w ∈ wsX5_readPot := fun _ h => (List.mem_cons_of_mem _ (List.mem_append_left _ (List.mem_append_left _ (List.mem_append_right _ (List.mem_append_left _ h)))))
theorem rl_wsX5_readPot_r3 : ∀ w ∈ wsX5_readPot_r3, w ∈ wsX5_readPot := fun _ h => (List.mem_cons_of_mem _ (List.mem_append_left _ (List.mem_append_left _ (List.mem_append_right _ (List.mem_append_right _ h)))))
theorem rl_wsX5_readStop_r1 : ∀ w ∈ wsX5_readStop_r1, w ∈ wsX5_readStop := fun _ h => (List.mem_cons_of_mem _ (List.mem_append_left _ (List.mem_append_left _ h)))
theorem rl_wsX5_readStop_r2 : ∀ w ∈ wsX5_readStop_r2, w ∈ wsX5_readStop := fun _ h => (List.mem_cons_of_mem _ (List.mem_append_left _ (List.mem_append_right _ h)))
theorem rl_wsX5_readTeam_r1 : ∀ w ∈ wsX5_readTeam_r1, w ∈ wsX5_readTeam := fun _ h => (List.mem_cons_of_mem _ (List.mem_append_left _ (List.mem_append_left _ (List.mem_append_left _ h))))
theorem rl_wsX5_readTeam_r2 : ∀ w ∈ wsX5_readTeam_r2, w ∈ wsX5_readTeam := fun _ h => (List.mem_cons_of_mem _ (List.mem_append_left _ (List.mem_append_left _ (List.mem_append_right _ h))))
theorem rl_wsX5_readUpToStop_r1 : ∀ w ∈ wsX5_readUpToStop_r1, w ∈ wsX5_readUpToStop := fun _ h => (List.mem_cons_of_mem _ (List.mem_append_left _ (List.mem_append_left _ (List.mem_append_left _ h))))
theorem rl_wsX5_readUpToStop_r2 : ∀ w ∈ wsX5_readUpToStop_r2, w ∈ wsX5_readUpToStop := fun _ h => (List.mem_cons_of_mem _ (List.mem_append_left _ (List.mem_append_left _ (List.mem_append_right _ (List.mem_append_left _ h)))))
theorem rl_wsX5_readUpToStop_r3 : ∀ w ∈ wsX5_readUpToStop_r3, w ∈ wsX5_readUpToStop := fun _ h => (List.mem_cons_of_mem _ (List.mem_append_left _ (List.mem_append_left _ (List.mem_append_right _ (List.mem_append_right _ (List.mem_append_left _ h))))))
theorem rl_wsX5_readUpToStop_r4 : ∀ w ∈ wsX5_readUpToStop_r4, w ∈ wsX5_readUpToStop := fun _ h => (List.mem_cons_of_mem _ (List.mem_append_left _ (List.mem_append_left _ (List.mem_append_right _ (List.mem_append_right _ (List.mem_append_right _ (List.mem_append_left _ h)))))))
theorem rl_wsX5_readUpToStop_r5 : ∀ w ∈ wsX5_readUpToStop_r5, w ∈ wsX5_readUpToStop := fun _ h => (List.mem_cons_of_mem _ (List.mem_append_left _ (List.mem_append_left _ (List.mem_append_right _ (List.mem_append_right _ (List.mem_append_right _ (List.mem_append_right _ (List.mem_append_left _ h))))))))
theorem rl_wsX5_readUpToStop_r6 : ∀ w ∈ wsX5_readUpToStop_r6, w ∈ wsX5_readUpToStop := fun _ h => (List.mem_cons_of_mem _ (List.mem_append_left _ (List.mem_append_left _ (List.mem_append_right _ (List.mem_append_right _ (List.mem_append_right _ (List.mem_append_right _ (List.mem_append_right _ h))))))))
theorem rl_wsX5_step_r1 : ∀ w ∈ wsX5_step_r1, w ∈ wsX5_step := fun _ h => (List.mem_cons_of_mem _ (List.mem_append_left _ (List.mem_append_left _ h)))
theorem rl_wsX5_step_r2 : ∀ w ∈ wsX5_step_r2, w ∈ wsX5_step := fun _ h => (List.mem_cons_of_mem _ (List.mem_append_left _ (List.mem_append_right _ h)))
theorem mw_J6_bitCount_0f7a4__1 : (.constant RJ6 265 (1431655765) : Cond) ∈ wsJ6_bitCount_0f7a4 := List.mem_of_getElem? (i := 1) rfl
theorem mw_J6_bitCount_0f7a4__2 : (.constant RJ6 266 (858993459) : Cond) ∈ wsJ6_bitCount_0f7a4 := List.mem_of_getElem? (i := 2) rfl
theorem mw_J6_bitCount_0f7a4__3 : (.constant RJ6 267 (252645135) : Cond) ∈ wsJ6_bitCount_0f7a4 := List.mem_of_getElem? (i := 3) rfl
theorem mw_J7_fill_fda19__1 : (.methodLink RJ7 13 yJ7_rangeCheck_23922 : Cond) ∈ wsJ7_fill_fda19 := List.mem_of_getElem? (i := 1) rfl
theorem mw_J7_fill_fda19__2 : (.static yJ7_rangeCheck_23922 : Cond) ∈ wsJ7_fill_fda19 := List.mem_of_getElem? (i := 2) rfl
theorem mw_J7_fill_fda19__3 : (.initialized RJ7 : Cond) ∈ wsJ7_fill_fda19 := List.mem_of_getElem? (i := 3) rfl
theorem mw_J7_fill_fda19__4 : (.code yJ7_rangeCheck_23922 cJ7_rangeCheck_23922 3 none : Cond) ∈ wsJ7_fill_fda19 := List.mem_of_getElem? (i := 4) rfl
theorem mw_J7_fill_fda19__5 : (.classLink RJ7 68 RJx00060 : Cond) ∈ wsJ7_fill_fda19 := List.mem_of_getElem? (i := 5) rfl
theorem mw_J7_fill_fda19__6 : (.instantiable RJx00060 6 : Cond) ∈ wsJ7_fill_fda19 := List.mem_of_getElem? (i := 6) rfl
theorem mw_J7_fill_fda19__7 : (.initialized RJx00060 : Cond) ∈ wsJ7_fill_fda19 := List.mem_of_getElem? (i := 7) rfl
theorem mw_X10_build__1 : (.fieldLink RX10 18 "BallPots$Tree" "potAt" "[I" : Cond) ∈ wsX10_build := List.mem_of_getElem? (i := 1) rfl
theorem mw_X10_build__2 : (.methodLink RX10 25 arraycopyName : Cond) ∈ wsX10_build := List.mem_of_getElem? (i := 2) rfl
theorem mw_X10_build__3 : (.native arraycopyName : Cond) ∈ wsX10_build := List.mem_of_getElem? (i := 3) rfl
theorem mw_X10_build__4 : (.static arraycopyName : Cond) ∈ wsX10_build := List.mem_of_getElem? (i := 4) rfl
theorem mw_X10_build__5 : (.initialized "java/lang/System" : Cond) ∈ wsX10_build := List.mem_of_getElem? (i := 5) rfl
theorem mw_X10_build__6 : (.fieldLink RX10 21 "BallPots$Tree" "draws" "LBallPots$Draws;" : Cond) ∈ wsX10_build := List.mem_of_getElem? (i := 6) rfl
theorem mw_X10_build__7 : (.fieldLink RX10 15 "BallPots$Tree" "from" "[I" : Cond) ∈ wsX10_build := List.mem_of_getElem? (i := 7) rfl
theorem mw_X10_build__8 : (.fieldLink RX10 59 "BallPots$Tree" "fresh" "Z" : Cond) ∈ wsX10_build := List.mem_of_getElem? (i := 8) rfl
theorem mw_X10_build__9 : (.methodLink RX10 52 yX10_fillLast : Cond) ∈ wsX10_build := List.mem_of_getElem? (i := 9) rfl
theorem mw_X10_build__10 : (.instanceMethod yX10_fillLast : Cond) ∈ wsX10_build := List.mem_of_getElem? (i := 10) rfl
theorem mw_X10_build__11 : (.selects RX10 yX10_fillLast yX10_fillLast : Cond) ∈ wsX10_build := List.mem_of_getElem? (i := 11) rfl
theorem mw_X10_build__12 : (.initialized RX10 : Cond) ∈ wsX10_build := List.mem_of_getElem? (i := 12) rfl
theorem mw_X10_build__13 : (.code yX10_fillLast cX10_fillLast 8 none : Cond) ∈ wsX10_build := List.mem_of_getElem? (i := 13) rfl
theorem mw_X10_build__14 : (.fieldLink RX10 11 "BallPots$Tree" "sets" "[I" : Cond) ∈ wsX10_build := List.mem_of_getElem? (i := 14) rfl
theorem mw_X10_build__15 : (.methodLink RX10 66 yX10_codeOf : Cond) ∈ wsX10_build := List.mem_of_getElem? (i := 15) rfl
theorem mw_X10_build__16 : (.instanceMethod yX10_codeOf : Cond) ∈ wsX10_build := List.mem_of_getElem? (i := 16) rfl
theorem mw_X10_build__17 : (.selects RX10 yX10_codeOf yX10_codeOf : Cond) ∈ wsX10_build := List.mem_of_getElem? (i := 17) rfl
theorem mw_X10_build__18 : (.code yX10_codeOf cX10_codeOf 7 (some .int) : Cond) ∈ wsX10_build := List.mem_of_getElem? (i := 18) rfl
theorem mw_X10_build__19 : (.methodLink RX10 55 yX10_fillFromNext : Cond) ∈ wsX10_build := List.mem_of_getElem? (i := 19) rfl
theorem mw_X10_build__20 : (.instanceMethod yX10_fillFromNext : Cond) ∈ wsX10_build := List.mem_of_getElem? (i := 20) rfl
theorem mw_X10_build__21 : (.selects RX10 yX10_fillFromNext yX10_fillFromNext : Cond) ∈ wsX10_build := List.mem_of_getElem? (i := 21) rfl
theorem mw_X10_build__22 : (.code yX10_fillFromNext cX10_fillFromNext 7 none : Cond) ∈ wsX10_build := List.mem_of_getElem? (i := 22) rfl
theorem mw_X10_codeOf__1 : (.fieldLink RX10 21 "BallPots$Tree" "draws" "LBallPots$Draws;" : Cond) ∈ wsX10_codeOf := List.mem_of_getElem? (i := 1) rfl
theorem mw_X10_codeOf__2 : (.fieldLink RX10 18 "BallPots$Tree" "potAt" "[I" : Cond) ∈ wsX10_codeOf := List.mem_of_getElem? (i := 2) rfl
theorem mw_X10_fillFromNext__1 : (.fieldLink RX10 21 "BallPots$Tree" "draws" "LBallPots$Draws;" : Cond) ∈ wsX10_fillFromNext := List.mem_of_getElem? (i := 1) rfl
theorem mw_X10_fillFromNext__2 : (.fieldLink RX10 15 "BallPots$Tree" "from" "[I" : Cond) ∈ wsX10_fillFromNext := List.mem_of_getElem? (i := 2) rfl
theorem mw_X10_fillFromNext__3 : (.fieldLink RX10 11 "BallPots$Tree" "sets" "[I" : Cond) ∈ wsX10_fillFromNext := List.mem_of_getElem? (i := 3) rfl
theorem mw_X10_fillLast__1 : (.fieldLink RX10 21 "BallPots$Tree" "draws" "LBallPots$Draws;" : Cond) ∈ wsX10_fillLast := List.mem_of_getElem? (i := 1) rfl
theorem mw_X10_fillLast__2 : (.fieldLink RX10 18 "BallPots$Tree" "potAt" "[I" : Cond) ∈ wsX10_fillLast := List.mem_of_getElem? (i := 2) rfl
theorem mw_X10_fillLast__3 : (.fieldLink RX10 15 "BallPots$Tree" "from" "[I" : Cond) ∈ wsX10_fillLast := List.mem_of_getElem? (i := 3) rfl
theorem mw_X10_fillLast__4 : (.fieldLink RX10 11 "BallPots$Tree" "sets" "[I" : Cond) ∈ wsX10_fillLast := List.mem_of_getElem? (i := 4) rfl
theorem mw_X10_fillLast__5 : (.methodLink RX10 66 yX10_codeOf : Cond) ∈ wsX10_fillLast := List.mem_of_getElem? (i := 5) rfl
theorem mw_X10_fillLast__6 : (.instanceMethod yX10_codeOf : Cond) ∈ wsX10_fillLast := List.mem_of_getElem? (i := 6) rfl
theorem mw_X10_fillLast__7 : (.selects RX10 yX10_codeOf yX10_codeOf : Cond) ∈ wsX10_fillLast := List.mem_of_getElem? (i := 7) rfl
theorem mw_X10_fillLast__8 : (.initialized RX10 : Cond) ∈ wsX10_fillLast := List.mem_of_getElem? (i := 8) rfl
theorem mw_X10_fillLast__9 : (.code yX10_codeOf cX10_codeOf 7 (some .int) : Cond) ∈ wsX10_fillLast := List.mem_of_getElem? (i := 9) rfl
theorem mw_X11_arrange__1 : (.fieldLink RX11 16 "BallPots" "plan" "LBallPots$Plan;" : Cond) ∈ wsX11_arrange := rl_wsX11_arrange_r1 _ (List.mem_of_getElem? (i := 0) rfl)
theorem mw_X11_arrange__2 : (.fieldLink RX11 48 "BallPots" "stage" "LBallPots$Stage;" : Cond) ∈ wsX11_arrange := rl_wsX11_arrange_r1 _ (List.mem_of_getElem? (i := 1) rfl)
theorem mw_X11_arrange__3 : (.fieldLink RX11 104 "BallPots" "nearestOrder" "I" : Cond) ∈ wsX11_arrange := rl_wsX11_arrange_r1 _ (List.mem_of_getElem? (i := 2) rfl)
theorem mw_X11_arrange__4 : (.methodLink RX11 214 yX11_readTurns : Cond) ∈ wsX11_arrange := rl_wsX11_arrange_r1 _ (List.mem_of_getElem? (i := 3) rfl)
theorem mw_X11_arrange__5 : (.static yX11_readTurns : Cond) ∈ wsX11_arrange := rl_wsX11_arrange_r1 _ (List.mem_of_getElem? (i := 4) rfl)
theorem mw_X11_arrange__6 : (.initialized RX11 : Cond) ∈ wsX11_arrange := rl_wsX11_arrange_r1 _ (List.mem_of_getElem? (i := 5) rfl)
theorem mw_X11_arrange__7 : (.code yX11_readTurns cX11_readTurns 5 (some .boolean) : Cond) ∈ wsX11_arrange := rl_wsX11_arrange_r1 _ (List.mem_of_getElem? (i := 6) rfl)
theorem mw_X11_arrange__8 : (.methodLink RX11 218 yX8_empty : Cond) ∈ wsX11_arrange := rl_wsX11_arrange_r1 _ (List.mem_of_getElem? (i := 7) rfl)
theorem mw_X11_arrange__9 : (.instanceMethod yX8_empty : Cond) ∈ wsX11_arrange := rl_wsX11_arrange_r1 _ (List.mem_of_getElem? (i := 8) rfl)
theorem mw_X11_arrange__10 : (.selects RX8 yX8_empty yX8_empty : Cond) ∈ wsX11_arrange := rl_wsX11_arrange_r1 _ (List.mem_of_getElem? (i := 9) rfl)
theorem mw_X11_arrange__11 : (.initialized RX8 : Cond) ∈ wsX11_arrange := rl_wsX11_arrange_r1 _ (List.mem_of_getElem? (i := 10) rfl)
theorem mw_X11_arrange__12 : (.code yX8_empty cX8_empty 1 none : Cond) ∈ wsX11_arrange := rl_wsX11_arrange_r1 _ (List.mem_of_getElem? (i := 11) rfl)
theorem mw_X11_arrange__13 : (.fieldLink RX8 47 "BallPots$Stage" "out" "I" : Cond) ∈ wsX11_arrange := rl_wsX11_arrange_r1 _ (List.mem_of_getElem? (i := 12) rfl)
theorem mw_X11_arrange__14 : (.fieldLink RX8 18 "BallPots$Stage" "groupOf" "[I" : Cond) ∈ wsX11_arrange := rl_wsX11_arrange_r1 _ (List.mem_of_getElem? (i := 13) rfl)
theorem mw_X11_arrange__15 : (.methodLink RX8 51 yJ7_fill_53178 : Cond) ∈ wsX11_arrange := rl_wsX11_arrange_r1 _ (List.mem_of_getElem? (i := 14) rfl)
theorem mw_X11_arrange__16 : (.static yJ7_fill_53178 : Cond) ∈ wsX11_arrange := rl_wsX11_arrange_r1 _ (List.mem_of_getElem? (i := 15) rfl)
theorem mw_X11_arrange__17 : (.initialized RJ7 : Cond) ∈ wsX11_arrange := rl_wsX11_arrange_r1 _ (List.mem_of_getElem? (i := 16) rfl)
theorem mw_X11_arrange__18 : (.code yJ7_fill_53178 cJ7_fill_53178 4 none : Cond) ∈ wsX11_arrange := rl_wsX11_arrange_r1 _ (List.mem_of_getElem? (i := 17) rfl)
theorem mw_X11_arrange__19 : (.methodLink RX11 154 yX11_startChanged : Cond) ∈ wsX11_arrange := rl_wsX11_arrange_r1 _ (List.mem_of_getElem? (i := 18) rfl)
theorem mw_X11_arrange__20 : (.instanceMethod yX11_startChanged : Cond) ∈ wsX11_arrange := rl_wsX11_arrange_r1 _ (List.mem_of_getElem? (i := 19) rfl)
theorem mw_X11_arrange__21 : (.selects RX11 yX11_startChanged yX11_startChanged : Cond) ∈ wsX11_arrange := rl_wsX11_arrange_r1 _ (List.mem_of_getElem? (i := 20) rfl)
theorem mw_X11_arrange__22 : (.code yX11_startChanged cX11_startChanged 1 none : Cond) ∈ wsX11_arrange := rl_wsX11_arrange_r1 _ (List.mem_of_getElem? (i := 21) rfl)
theorem mw_X11_arrange__23 : (.fieldLink RX11 78 "BallPots" "fromStart" "[LBallPots$Chances;" : Cond) ∈ wsX11_arrange := rl_wsX11_arrange_r1 _ (List.mem_of_getElem? (i := 22) rfl)
theorem mw_X11_arrange__24 : (.methodLink RX11 157 yX11_stageChanged : Cond) ∈ wsX11_arrange := rl_wsX11_arrange_r1 _ (List.mem_of_getElem? (i := 23) rfl)
theorem mw_X11_arrange__25 : (.instanceMethod yX11_stageChanged : Cond) ∈ wsX11_arrange := rl_wsX11_arrange_r2 _ (List.mem_of_getElem? (i := 0) rfl)
theorem mw_X11_arrange__26 : (.selects RX11 yX11_stageChanged yX11_stageChanged : Cond) ∈ wsX11_arrange := rl_wsX11_arrange_r2 _ (List.mem_of_getElem? (i := 1) rfl)
theorem mw_X11_arrange__27 : (.code yX11_stageChanged cX11_stageChanged 2 none : Cond) ∈ wsX11_arrange := rl_wsX11_arrange_r2 _ (List.mem_of_getElem? (i := 2) rfl)
theorem mw_X11_arrange__28 : (.fieldLink RX11 82 "BallPots" "fromNow" "[LBallPots$Chances;" : Cond) ∈ wsX11_arrange := rl_wsX11_arrange_r2 _ (List.mem_of_getElem? (i := 3) rfl)
theorem mw_X11_beginAnew__1 : (.fieldLink RX11 32 "BallPots" "ranks" "LBallPots$Ranks;" : Cond) ∈ wsX11_beginAnew := rl_wsX11_beginAnew_r1 _ (List.mem_of_getElem? (i := 0) rfl)
theorem mw_X11_beginAnew__2 : (.fieldLink RX11 16 "BallPots" "plan" "LBallPots$Plan;" : Cond) ∈ wsX11_beginAnew := rl_wsX11_beginAnew_r1 _ (List.mem_of_getElem? (i := 1) rfl)
theorem mw_X11_beginAnew__3 : (.fieldLink RX11 41 "BallPots" "draws" "LBallPots$Draws;" : Cond) ∈ wsX11_beginAnew := rl_wsX11_beginAnew_r1 _ (List.mem_of_getElem? (i := 2) rfl)
theorem mw_X11_beginAnew__4 : (.fieldLink RX11 48 "BallPots" "stage" "LBallPots$Stage;" : Cond) ∈ wsX11_beginAnew := rl_wsX11_beginAnew_r1 _ (List.mem_of_getElem? (i := 3) rfl)
theorem mw_X11_beginAnew__5 : (.fieldLink RX11 57 "BallPots" "treeNow" "LBallPots$Tree;" : Cond) ∈ wsX11_beginAnew := rl_wsX11_beginAnew_r1 _ (List.mem_of_getElem? (i := 4) rfl)
theorem mw_X11_beginAnew__6 : (.fieldLink RX11 61 "BallPots" "treeInTurn" "LBallPots$Tree;" : Cond) ∈ wsX11_beginAnew := rl_wsX11_beginAnew_r1 _ (List.mem_of_getElem? (i := 5) rfl)
theorem mw_X11_beginAnew__7 : (.fieldLink RX11 78 "BallPots" "fromStart" "[LBallPots$Chances;" : Cond) ∈ wsX11_beginAnew := rl_wsX11_beginAnew_r1 _ (List.mem_of_getElem? (i := 6) rfl)
theorem mw_X11_beginAnew__8 : (.fieldLink RX11 93 "BallPots" "barTable" "LBallPots$BarTable;" : Cond) ∈ wsX11_beginAnew := rl_wsX11_beginAnew_r1 _ (List.mem_of_getElem? (i := 7) rfl)
theorem mw_X11_beginAnew__9 : (.fieldLink RX11 100 "BallPots" "swaps" "LBallPots$Swaps;" : Cond) ∈ wsX11_beginAnew := rl_wsX11_beginAnew_r1 _ (List.mem_of_getElem? (i := 8) rfl)
theorem mw_X11_beginAnew__10 : (.fieldLink RX11 104 "BallPots" "nearestOrder" "I" : Cond) ∈ wsX11_beginAnew := rl_wsX11_beginAnew_r1 _ (List.mem_of_getElem? (i := 9) rfl)
theorem mw_X11_beginAnew__11 : (.fieldLink RX11 108 "BallPots" "nearestArrangement" "I" : Cond) ∈ wsX11_beginAnew := rl_wsX11_beginAnew_r1 _ (List.mem_of_getElem? (i := 10) rfl)
theorem mw_X11_beginAnew__12 : (.methodLink RX11 136 yX4_set : Cond) ∈ wsX11_beginAnew := rl_wsX11_beginAnew_r1 _ (List.mem_of_getElem? (i := 11) rfl)
theorem mw_X11_beginAnew__13 : (.instanceMethod yX4_set : Cond) ∈ wsX11_beginAnew := rl_wsX11_beginAnew_r1 _ (List.mem_of_getElem? (i := 12) rfl)
theorem mw_X11_beginAnew__14 : (.selects RX4 yX4_set yX4_set : Cond) ∈ wsX11_beginAnew := rl_wsX11_beginAnew_r1 _ (List.mem_of_getElem? (i := 13) rfl)
theorem mw_X11_beginAnew__15 : (.initialized RX4 : Cond) ∈ wsX11_beginAnew := rl_wsX11_beginAnew_r1 _ (List.mem_of_getElem? (i := 14) rfl)
theorem mw_X11_beginAnew__16 : (.code yX4_set cX4_set 3 none : Cond) ∈ wsX11_beginAnew := rl_wsX11_beginAnew_r1 _ (List.mem_of_getElem? (i := 15) rfl)
theorem mw_X11_beginAnew__17 : (.fieldLink RX4 27 "BallPots$Ranks" "groups" "I" : Cond) ∈ wsX11_beginAnew := rl_wsX11_beginAnew_r1 _ (List.mem_of_getElem? (i := 16) rfl)
theorem mw_X11_beginAnew__18 : (.fieldLink RX4 31 "BallPots$Ranks" "many" "I" : Cond) ∈ wsX11_beginAnew := rl_wsX11_beginAnew_r1 _ (List.mem_of_getElem? (i := 17) rfl)
theorem mw_X11_beginAnew__19 : (.fieldLink RX4 18 "BallPots$Ranks" "having" "[I" : Cond) ∈ wsX11_beginAnew := rl_wsX11_beginAnew_r1 _ (List.mem_of_getElem? (i := 18) rfl)
theorem mw_X11_beginAnew__20 : (.fieldLink RX4 24 "BallPots$Ranks" "row" "[I" : Cond) ∈ wsX11_beginAnew := rl_wsX11_beginAnew_r1 _ (List.mem_of_getElem? (i := 19) rfl)
theorem mw_X11_beginAnew__21 : (.fieldLink RX4 47 "BallPots$Ranks" "everyRank" "I" : Cond) ∈ wsX11_beginAnew := rl_wsX11_beginAnew_r1 _ (List.mem_of_getElem? (i := 20) rfl)
theorem mw_X11_beginAnew__22 : (.methodLink RX4 34 yJ7_fill_53178 : Cond) ∈ wsX11_beginAnew := rl_wsX11_beginAnew_r1 _ (List.mem_of_getElem? (i := 21) rfl)
theorem mw_X11_beginAnew__23 : (.static yJ7_fill_53178 : Cond) ∈ wsX11_beginAnew := rl_wsX11_beginAnew_r1 _ (List.mem_of_getElem? (i := 22) rfl)
theorem mw_X11_beginAnew__24 : (.initialized RJ7 : Cond) ∈ wsX11_beginAnew := rl_wsX11_beginAnew_r1 _ (List.mem_of_getElem? (i := 23) rfl)
theorem mw_X11_beginAnew__25 : (.code yJ7_fill_53178 cJ7_fill_53178 4 none : Cond) ∈ wsX11_beginAnew := rl_wsX11_beginAnew_r2 _ (List.mem_of_getElem? (i := 0) rfl)
theorem mw_X11_beginAnew__26 : (.methodLink RX4 40 yX4_readRow : Cond) ∈ wsX11_beginAnew := rl_wsX11_beginAnew_r2 _ (List.mem_of_getElem? (i := 1) rfl)
theorem mw_X11_beginAnew__27 : (.static yX4_readRow : Cond) ∈ wsX11_beginAnew := rl_wsX11_beginAnew_r2 _ (List.mem_of_getElem? (i := 2) rfl)
theorem mw_X11_beginAnew__28 : (.code yX4_readRow cX4_readRow 5 (some .boolean) : Cond) ∈ wsX11_beginAnew := rl_wsX11_beginAnew_r2 _ (List.mem_of_getElem? (i := 3) rfl)
theorem mw_X11_beginAnew__29 : (.methodLink RX4 44 yX4_addRow : Cond) ∈ wsX11_beginAnew := rl_wsX11_beginAnew_r2 _ (List.mem_of_getElem? (i := 4) rfl)
theorem mw_X11_beginAnew__30 : (.instanceMethod yX4_addRow : Cond) ∈ wsX11_beginAnew := rl_wsX11_beginAnew_r2 _ (List.mem_of_getElem? (i := 5) rfl)
theorem mw_X11_beginAnew__31 : (.selects RX4 yX4_addRow yX4_addRow : Cond) ∈ wsX11_beginAnew := rl_wsX11_beginAnew_r2 _ (List.mem_of_getElem? (i := 6) rfl)
theorem mw_X11_beginAnew__32 : (.code yX4_addRow cX4_addRow 3 none : Cond) ∈ wsX11_beginAnew := rl_wsX11_beginAnew_r2 _ (List.mem_of_getElem? (i := 7) rfl)
theorem mw_X11_beginAnew__33 : (.fieldLink RX4 9 "BallPots$Ranks" "groupOf" "[I" : Cond) ∈ wsX11_beginAnew := rl_wsX11_beginAnew_r2 _ (List.mem_of_getElem? (i := 8) rfl)
theorem mw_X11_beginAnew__34 : (.fieldLink RX4 15 "BallPots$Ranks" "placeIn" "[I" : Cond) ∈ wsX11_beginAnew := rl_wsX11_beginAnew_r2 _ (List.mem_of_getElem? (i := 9) rfl)
theorem mw_X11_beginAnew__35 : (.methodLink RX4 50 yX4_setSwaps : Cond) ∈ wsX11_beginAnew := rl_wsX11_beginAnew_r2 _ (List.mem_of_getElem? (i := 10) rfl)
theorem mw_X11_beginAnew__36 : (.instanceMethod yX4_setSwaps : Cond) ∈ wsX11_beginAnew := rl_wsX11_beginAnew_r2 _ (List.mem_of_getElem? (i := 11) rfl)
theorem mw_X11_beginAnew__37 : (.selects RX4 yX4_setSwaps yX4_setSwaps : Cond) ∈ wsX11_beginAnew := rl_wsX11_beginAnew_r2 _ (List.mem_of_getElem? (i := 12) rfl)
theorem mw_X11_beginAnew__38 : (.code yX4_setSwaps cX4_setSwaps 5 none : Cond) ∈ wsX11_beginAnew := rl_wsX11_beginAnew_r2 _ (List.mem_of_getElem? (i := 13) rfl)
theorem mw_X11_beginAnew__39 : (.fieldLink RX4 21 "BallPots$Ranks" "swapped" "[I" : Cond) ∈ wsX11_beginAnew := rl_wsX11_beginAnew_r2 _ (List.mem_of_getElem? (i := 14) rfl)
theorem mw_X11_beginAnew__40 : (.fieldLink RX4 58 "BallPots$Ranks" "swapsAPot" "I" : Cond) ∈ wsX11_beginAnew := rl_wsX11_beginAnew_r2 _ (List.mem_of_getElem? (i := 15) rfl)
theorem mw_X11_beginAnew__41 : (.methodLink RX4 54 yX4_rankWithSwapped : Cond) ∈ wsX11_beginAnew := rl_wsX11_beginAnew_r2 _ (List.mem_of_getElem? (i := 16) rfl)
theorem mw_X11_beginAnew__42 : (.instanceMethod yX4_rankWithSwapped : Cond) ∈ wsX11_beginAnew := rl_wsX11_beginAnew_r2 _ (List.mem_of_getElem? (i := 17) rfl)
theorem mw_X11_beginAnew__43 : (.selects RX4 yX4_rankWithSwapped yX4_rankWithSwapped : Cond) ∈ wsX11_beginAnew := rl_wsX11_beginAnew_r2 _ (List.mem_of_getElem? (i := 18) rfl)
theorem mw_X11_beginAnew__44 : (.code yX4_rankWithSwapped cX4_rankWithSwapped 8 (some .int) : Cond) ∈ wsX11_beginAnew := rl_wsX11_beginAnew_r2 _ (List.mem_of_getElem? (i := 19) rfl)
theorem mw_X11_beginAnew__45 : (.methodLink RX4 61 yX4_groupAt : Cond) ∈ wsX11_beginAnew := rl_wsX11_beginAnew_r2 _ (List.mem_of_getElem? (i := 20) rfl)
theorem mw_X11_beginAnew__46 : (.instanceMethod yX4_groupAt : Cond) ∈ wsX11_beginAnew := rl_wsX11_beginAnew_r2 _ (List.mem_of_getElem? (i := 21) rfl)
theorem mw_X11_beginAnew__47 : (.selects RX4 yX4_groupAt yX4_groupAt : Cond) ∈ wsX11_beginAnew := rl_wsX11_beginAnew_r2 _ (List.mem_of_getElem? (i := 22) rfl)
theorem mw_X11_beginAnew__48 : (.code yX4_groupAt cX4_groupAt 3 (some .int) : Cond) ∈ wsX11_beginAnew := rl_wsX11_beginAnew_r2 _ (List.mem_of_getElem? (i := 23) rfl)
theorem mw_X11_beginAnew__49 : (.methodLink RX4 65 yX4_only : Cond) ∈ wsX11_beginAnew := rl_wsX11_beginAnew_r3 _ (List.mem_of_getElem? (i := 0) rfl)
theorem mw_X11_beginAnew__50 : (.static yX4_only : Cond) ∈ wsX11_beginAnew := rl_wsX11_beginAnew_r3 _ (List.mem_of_getElem? (i := 1) rfl)
theorem mw_X11_beginAnew__51 : (.code yX4_only cX4_only 1 (some .int) : Cond) ∈ wsX11_beginAnew := rl_wsX11_beginAnew_r3 _ (List.mem_of_getElem? (i := 2) rfl)
theorem mw_X11_beginAnew__52 : (.methodLink RX4 69 yJ6_bitCount_0f7a4 : Cond) ∈ wsX11_beginAnew := rl_wsX11_beginAnew_r3 _ (List.mem_of_getElem? (i := 3) rfl)
theorem mw_X11_beginAnew__53 : (.static yJ6_bitCount_0f7a4 : Cond) ∈ wsX11_beginAnew := rl_wsX11_beginAnew_r3 _ (List.mem_of_getElem? (i := 4) rfl)
theorem mw_X11_beginAnew__54 : (.initialized RJ6 : Cond) ∈ wsX11_beginAnew := rl_wsX11_beginAnew_r3 _ (List.mem_of_getElem? (i := 5) rfl)
theorem mw_X11_beginAnew__55 : (.code yJ6_bitCount_0f7a4 cJ6_bitCount_0f7a4 1 (some .int) : Cond) ∈ wsX11_beginAnew := rl_wsX11_beginAnew_r3 _ (List.mem_of_getElem? (i := 6) rfl)
theorem mw_X11_beginAnew__56 : (.constant RJ6 265 (1431655765) : Cond) ∈ wsX11_beginAnew := rl_wsX11_beginAnew_r3 _ (List.mem_of_getElem? (i := 7) rfl)
theorem mw_X11_beginAnew__57 : (.constant RJ6 266 (858993459) : Cond) ∈ wsX11_beginAnew := rl_wsX11_beginAnew_r3 _ (List.mem_of_getElem? (i := 8) rfl)
theorem mw_X11_beginAnew__58 : (.constant RJ6 267 (252645135) : Cond) ∈ wsX11_beginAnew := rl_wsX11_beginAnew_r3 _ (List.mem_of_getElem? (i := 9) rfl)
theorem mw_X11_beginAnew__59 : (.methodLink RX11 139 yX2_renew : Cond) ∈ wsX11_beginAnew := rl_wsX11_beginAnew_r3 _ (List.mem_of_getElem? (i := 10) rfl)
theorem mw_X11_beginAnew__60 : (.instanceMethod yX2_renew : Cond) ∈ wsX11_beginAnew := rl_wsX11_beginAnew_r3 _ (List.mem_of_getElem? (i := 11) rfl)
theorem mw_X11_beginAnew__61 : (.selects RX2 yX2_renew yX2_renew : Cond) ∈ wsX11_beginAnew := rl_wsX11_beginAnew_r3 _ (List.mem_of_getElem? (i := 12) rfl)
theorem mw_X11_beginAnew__62 : (.initialized RX2 : Cond) ∈ wsX11_beginAnew := rl_wsX11_beginAnew_r3 _ (List.mem_of_getElem? (i := 13) rfl)
theorem mw_X11_beginAnew__63 : (.code yX2_renew cX2_renew 2 none : Cond) ∈ wsX11_beginAnew := rl_wsX11_beginAnew_r3 _ (List.mem_of_getElem? (i := 14) rfl)
theorem mw_X11_beginAnew__64 : (.fieldLink RX2 38 "BallPots$Draws" "total" "I" : Cond) ∈ wsX11_beginAnew := rl_wsX11_beginAnew_r3 _ (List.mem_of_getElem? (i := 15) rfl)
theorem mw_X11_beginAnew__65 : (.fieldLink RX2 30 "BallPots$Draws" "plan" "LBallPots$Plan;" : Cond) ∈ wsX11_beginAnew := rl_wsX11_beginAnew_r3 _ (List.mem_of_getElem? (i := 16) rfl)
theorem mw_X11_beginAnew__66 : (.fieldLink RX2 9 "BallPots$Draws" "step" "[I" : Cond) ∈ wsX11_beginAnew := rl_wsX11_beginAnew_r3 _ (List.mem_of_getElem? (i := 17) rfl)
theorem mw_X11_beginAnew__67 : (.fieldLink RX2 34 "BallPots$Draws" "ranks" "LBallPots$Ranks;" : Cond) ∈ wsX11_beginAnew := rl_wsX11_beginAnew_r3 _ (List.mem_of_getElem? (i := 18) rfl)
theorem mw_X11_beginAnew__68 : (.fieldLink RX2 15 "BallPots$Draws" "broken" "[I" : Cond) ∈ wsX11_beginAnew := rl_wsX11_beginAnew_r3 _ (List.mem_of_getElem? (i := 19) rfl)
theorem mw_X11_beginAnew__69 : (.arrayClass .int : Cond) ∈ wsX11_beginAnew := rl_wsX11_beginAnew_r3 _ (List.mem_of_getElem? (i := 20) rfl)
theorem mw_X11_beginAnew__70 : (.fieldLink RX2 18 "BallPots$Draws" "lawfulCodes" "[I" : Cond) ∈ wsX11_beginAnew := rl_wsX11_beginAnew_r3 _ (List.mem_of_getElem? (i := 21) rfl)
theorem mw_X11_beginAnew__71 : (.methodLink RX2 52 yJ7_fill_fda19 : Cond) ∈ wsX11_beginAnew := rl_wsX11_beginAnew_r3 _ (List.mem_of_getElem? (i := 22) rfl)
theorem mw_X11_beginAnew__72 : (.static yJ7_fill_fda19 : Cond) ∈ wsX11_beginAnew := rl_wsX11_beginAnew_r3 _ (List.mem_of_getElem? (i := 23) rfl)
theorem mw_X11_beginAnew__73 : (.code yJ7_fill_fda19 cJ7_fill_fda19 5 none : Cond) ∈ wsX11_beginAnew := rl_wsX11_beginAnew_r4 _ (List.mem_of_getElem? (i := 0) rfl)
theorem mw_X11_beginAnew__74 : (.methodLink RJ7 13 yJ7_rangeCheck_23922 : Cond) ∈ wsX11_beginAnew := rl_wsX11_beginAnew_r4 _ (List.mem_of_getElem? (i := 1) rfl)
theorem mw_X11_beginAnew__75 : (.static yJ7_rangeCheck_23922 : Cond) ∈ wsX11_beginAnew := rl_wsX11_beginAnew_r4 _ (List.mem_of_getElem? (i := 2) rfl)
theorem mw_X11_beginAnew__76 : (.code yJ7_rangeCheck_23922 cJ7_rangeCheck_23922 3 none : Cond) ∈ wsX11_beginAnew := rl_wsX11_beginAnew_r4 _ (List.mem_of_getElem? (i := 3) rfl)
theorem mw_X11_beginAnew__77 : (.classLink RJ7 68 RJx00060 : Cond) ∈ wsX11_beginAnew := rl_wsX11_beginAnew_r4 _ (List.mem_of_getElem? (i := 4) rfl)
theorem mw_X11_beginAnew__78 : (.instantiable RJx00060 6 : Cond) ∈ wsX11_beginAnew := rl_wsX11_beginAnew_r4 _ (List.mem_of_getElem? (i := 5) rfl)
theorem mw_X11_beginAnew__79 : (.initialized RJx00060 : Cond) ∈ wsX11_beginAnew := rl_wsX11_beginAnew_r4 _ (List.mem_of_getElem? (i := 6) rfl)
theorem mw_X11_beginAnew__80 : (.methodLink RX2 64 yX2_tellHeld : Cond) ∈ wsX11_beginAnew := rl_wsX11_beginAnew_r4 _ (List.mem_of_getElem? (i := 7) rfl)
theorem mw_X11_beginAnew__81 : (.instanceMethod yX2_tellHeld : Cond) ∈ wsX11_beginAnew := rl_wsX11_beginAnew_r4 _ (List.mem_of_getElem? (i := 8) rfl)
theorem mw_X11_beginAnew__82 : (.selects RX2 yX2_tellHeld yX2_tellHeld : Cond) ∈ wsX11_beginAnew := rl_wsX11_beginAnew_r4 _ (List.mem_of_getElem? (i := 9) rfl)
theorem mw_X11_beginAnew__83 : (.code yX2_tellHeld cX2_tellHeld 7 none : Cond) ∈ wsX11_beginAnew := rl_wsX11_beginAnew_r4 _ (List.mem_of_getElem? (i := 10) rfl)
theorem mw_X11_beginAnew__84 : (.fieldLink RX2 27 "BallPots$Draws" "held" "[I" : Cond) ∈ wsX11_beginAnew := rl_wsX11_beginAnew_r4 _ (List.mem_of_getElem? (i := 11) rfl)
theorem mw_X11_beginAnew__85 : (.methodLink RX2 84 yX4_groupAt : Cond) ∈ wsX11_beginAnew := rl_wsX11_beginAnew_r4 _ (List.mem_of_getElem? (i := 12) rfl)
theorem mw_X11_beginAnew__86 : (.methodLink RX2 71 yX2_breakBar : Cond) ∈ wsX11_beginAnew := rl_wsX11_beginAnew_r4 _ (List.mem_of_getElem? (i := 13) rfl)
theorem mw_X11_beginAnew__87 : (.instanceMethod yX2_breakBar : Cond) ∈ wsX11_beginAnew := rl_wsX11_beginAnew_r4 _ (List.mem_of_getElem? (i := 14) rfl)
theorem mw_X11_beginAnew__88 : (.selects RX2 yX2_breakBar yX2_breakBar : Cond) ∈ wsX11_beginAnew := rl_wsX11_beginAnew_r4 _ (List.mem_of_getElem? (i := 15) rfl)
theorem mw_X11_beginAnew__89 : (.code yX2_breakBar cX2_breakBar 8 none : Cond) ∈ wsX11_beginAnew := rl_wsX11_beginAnew_r4 _ (List.mem_of_getElem? (i := 16) rfl)
theorem mw_X11_beginAnew__90 : (.constant RX2 91 (34952) : Cond) ∈ wsX11_beginAnew := rl_wsX11_beginAnew_r4 _ (List.mem_of_getElem? (i := 17) rfl)
theorem mw_X11_beginAnew__91 : (.methodLink RX2 88 yX2_rankIn : Cond) ∈ wsX11_beginAnew := rl_wsX11_beginAnew_r4 _ (List.mem_of_getElem? (i := 18) rfl)
theorem mw_X11_beginAnew__92 : (.instanceMethod yX2_rankIn : Cond) ∈ wsX11_beginAnew := rl_wsX11_beginAnew_r4 _ (List.mem_of_getElem? (i := 19) rfl)
theorem mw_X11_beginAnew__93 : (.selects RX2 yX2_rankIn yX2_rankIn : Cond) ∈ wsX11_beginAnew := rl_wsX11_beginAnew_r4 _ (List.mem_of_getElem? (i := 20) rfl)
theorem mw_X11_beginAnew__94 : (.code yX2_rankIn cX2_rankIn 5 (some .int) : Cond) ∈ wsX11_beginAnew := rl_wsX11_beginAnew_r4 _ (List.mem_of_getElem? (i := 21) rfl)
theorem mw_X11_beginAnew__95 : (.methodLink RX2 75 yX2_listLawful : Cond) ∈ wsX11_beginAnew := rl_wsX11_beginAnew_r4 _ (List.mem_of_getElem? (i := 22) rfl)
theorem mw_X11_beginAnew__96 : (.instanceMethod yX2_listLawful : Cond) ∈ wsX11_beginAnew := rl_wsX11_beginAnew_r4 _ (List.mem_of_getElem? (i := 23) rfl)
theorem mw_X11_beginAnew__97 : (.selects RX2 yX2_listLawful yX2_listLawful : Cond) ∈ wsX11_beginAnew := rl_wsX11_beginAnew_r5 _ (List.mem_of_getElem? (i := 0) rfl)
theorem mw_X11_beginAnew__98 : (.code yX2_listLawful cX2_listLawful 2 none : Cond) ∈ wsX11_beginAnew := rl_wsX11_beginAnew_r5 _ (List.mem_of_getElem? (i := 1) rfl)
theorem mw_X11_beginAnew__99 : (.fieldLink RX2 92 "BallPots$Draws" "lawfulOnes" "I" : Cond) ∈ wsX11_beginAnew := rl_wsX11_beginAnew_r5 _ (List.mem_of_getElem? (i := 2) rfl)
theorem mw_X11_beginAnew__100 : (.methodLink RX2 78 yX2_tellWithin : Cond) ∈ wsX11_beginAnew := rl_wsX11_beginAnew_r5 _ (List.mem_of_getElem? (i := 3) rfl)
theorem mw_X11_beginAnew__101 : (.instanceMethod yX2_tellWithin : Cond) ∈ wsX11_beginAnew := rl_wsX11_beginAnew_r5 _ (List.mem_of_getElem? (i := 4) rfl)
theorem mw_X11_beginAnew__102 : (.selects RX2 yX2_tellWithin yX2_tellWithin : Cond) ∈ wsX11_beginAnew := rl_wsX11_beginAnew_r5 _ (List.mem_of_getElem? (i := 5) rfl)
theorem mw_X11_beginAnew__103 : (.code yX2_tellWithin cX2_tellWithin 2 none : Cond) ∈ wsX11_beginAnew := rl_wsX11_beginAnew_r5 _ (List.mem_of_getElem? (i := 6) rfl)
theorem mw_X11_beginAnew__104 : (.fieldLink RX2 21 "BallPots$Draws" "within" "[I" : Cond) ∈ wsX11_beginAnew := rl_wsX11_beginAnew_r5 _ (List.mem_of_getElem? (i := 7) rfl)
theorem mw_X11_beginAnew__105 : (.methodLink RX2 95 yJ7_fill_53178 : Cond) ∈ wsX11_beginAnew := rl_wsX11_beginAnew_r5 _ (List.mem_of_getElem? (i := 8) rfl)
theorem mw_X11_beginAnew__106 : (.methodLink RX2 98 yX2_addUp : Cond) ∈ wsX11_beginAnew := rl_wsX11_beginAnew_r5 _ (List.mem_of_getElem? (i := 9) rfl)
theorem mw_X11_beginAnew__107 : (.static yX2_addUp : Cond) ∈ wsX11_beginAnew := rl_wsX11_beginAnew_r5 _ (List.mem_of_getElem? (i := 10) rfl)
theorem mw_X11_beginAnew__108 : (.code yX2_addUp cX2_addUp 5 none : Cond) ∈ wsX11_beginAnew := rl_wsX11_beginAnew_r5 _ (List.mem_of_getElem? (i := 11) rfl)
theorem mw_X11_beginAnew__109 : (.methodLink RX11 142 yX8_putInTurn : Cond) ∈ wsX11_beginAnew := rl_wsX11_beginAnew_r5 _ (List.mem_of_getElem? (i := 12) rfl)
theorem mw_X11_beginAnew__110 : (.instanceMethod yX8_putInTurn : Cond) ∈ wsX11_beginAnew := rl_wsX11_beginAnew_r5 _ (List.mem_of_getElem? (i := 13) rfl)
theorem mw_X11_beginAnew__111 : (.selects RX8 yX8_putInTurn yX8_putInTurn : Cond) ∈ wsX11_beginAnew := rl_wsX11_beginAnew_r5 _ (List.mem_of_getElem? (i := 14) rfl)
theorem mw_X11_beginAnew__112 : (.initialized RX8 : Cond) ∈ wsX11_beginAnew := rl_wsX11_beginAnew_r5 _ (List.mem_of_getElem? (i := 15) rfl)
theorem mw_X11_beginAnew__113 : (.code yX8_putInTurn cX8_putInTurn 1 none : Cond) ∈ wsX11_beginAnew := rl_wsX11_beginAnew_r5 _ (List.mem_of_getElem? (i := 16) rfl)
theorem mw_X11_beginAnew__114 : (.fieldLink RX8 9 "BallPots$Stage" "potAt" "[I" : Cond) ∈ wsX11_beginAnew := rl_wsX11_beginAnew_r5 _ (List.mem_of_getElem? (i := 17) rfl)
theorem mw_X11_beginAnew__115 : (.methodLink RX8 38 arraycopyName : Cond) ∈ wsX11_beginAnew := rl_wsX11_beginAnew_r5 _ (List.mem_of_getElem? (i := 18) rfl)
theorem mw_X11_beginAnew__116 : (.native arraycopyName : Cond) ∈ wsX11_beginAnew := rl_wsX11_beginAnew_r5 _ (List.mem_of_getElem? (i := 19) rfl)
theorem mw_X11_beginAnew__117 : (.static arraycopyName : Cond) ∈ wsX11_beginAnew := rl_wsX11_beginAnew_r5 _ (List.mem_of_getElem? (i := 20) rfl)
theorem mw_X11_beginAnew__118 : (.initialized "java/lang/System" : Cond) ∈ wsX11_beginAnew := rl_wsX11_beginAnew_r5 _ (List.mem_of_getElem? (i := 21) rfl)
theorem mw_X11_beginAnew__119 : (.fieldLink RX8 15 "BallPots$Stage" "groupAt" "[I" : Cond) ∈ wsX11_beginAnew := rl_wsX11_beginAnew_r5 _ (List.mem_of_getElem? (i := 22) rfl)
theorem mw_X11_beginAnew__120 : (.methodLink RX8 44 yX8_empty : Cond) ∈ wsX11_beginAnew := rl_wsX11_beginAnew_r5 _ (List.mem_of_getElem? (i := 23) rfl)
theorem mw_X11_beginAnew__121 : (.instanceMethod yX8_empty : Cond) ∈ wsX11_beginAnew := rl_wsX11_beginAnew_r6 _ (List.mem_of_getElem? (i := 0) rfl)
theorem mw_X11_beginAnew__122 : (.selects RX8 yX8_empty yX8_empty : Cond) ∈ wsX11_beginAnew := rl_wsX11_beginAnew_r6 _ (List.mem_of_getElem? (i := 1) rfl)
theorem mw_X11_beginAnew__123 : (.code yX8_empty cX8_empty 1 none : Cond) ∈ wsX11_beginAnew := rl_wsX11_beginAnew_r6 _ (List.mem_of_getElem? (i := 2) rfl)
theorem mw_X11_beginAnew__124 : (.fieldLink RX8 47 "BallPots$Stage" "out" "I" : Cond) ∈ wsX11_beginAnew := rl_wsX11_beginAnew_r6 _ (List.mem_of_getElem? (i := 3) rfl)
theorem mw_X11_beginAnew__125 : (.fieldLink RX8 18 "BallPots$Stage" "groupOf" "[I" : Cond) ∈ wsX11_beginAnew := rl_wsX11_beginAnew_r6 _ (List.mem_of_getElem? (i := 4) rfl)
theorem mw_X11_beginAnew__126 : (.methodLink RX8 51 yJ7_fill_53178 : Cond) ∈ wsX11_beginAnew := rl_wsX11_beginAnew_r6 _ (List.mem_of_getElem? (i := 5) rfl)
theorem mw_X11_beginAnew__127 : (.methodLink RX11 151 yX9_forget : Cond) ∈ wsX11_beginAnew := rl_wsX11_beginAnew_r6 _ (List.mem_of_getElem? (i := 6) rfl)
theorem mw_X11_beginAnew__128 : (.instanceMethod yX9_forget : Cond) ∈ wsX11_beginAnew := rl_wsX11_beginAnew_r6 _ (List.mem_of_getElem? (i := 7) rfl)
theorem mw_X11_beginAnew__129 : (.selects RX9 yX9_forget yX9_forget : Cond) ∈ wsX11_beginAnew := rl_wsX11_beginAnew_r6 _ (List.mem_of_getElem? (i := 8) rfl)
theorem mw_X11_beginAnew__130 : (.initialized RX9 : Cond) ∈ wsX11_beginAnew := rl_wsX11_beginAnew_r6 _ (List.mem_of_getElem? (i := 9) rfl)
theorem mw_X11_beginAnew__131 : (.code yX9_forget cX9_forget 1 none : Cond) ∈ wsX11_beginAnew := rl_wsX11_beginAnew_r6 _ (List.mem_of_getElem? (i := 10) rfl)
theorem mw_X11_beginAnew__132 : (.fieldLink RX9 18 "BallPots$Swaps" "done" "I" : Cond) ∈ wsX11_beginAnew := rl_wsX11_beginAnew_r6 _ (List.mem_of_getElem? (i := 11) rfl)
theorem mw_X11_beginAnew__133 : (.fieldLink RX9 33 "BallPots$Swaps" "partsFresh" "Z" : Cond) ∈ wsX11_beginAnew := rl_wsX11_beginAnew_r6 _ (List.mem_of_getElem? (i := 12) rfl)
theorem mw_X11_beginAnew__134 : (.methodLink RX11 154 yX11_startChanged : Cond) ∈ wsX11_beginAnew := rl_wsX11_beginAnew_r6 _ (List.mem_of_getElem? (i := 13) rfl)
theorem mw_X11_beginAnew__135 : (.instanceMethod yX11_startChanged : Cond) ∈ wsX11_beginAnew := rl_wsX11_beginAnew_r6 _ (List.mem_of_getElem? (i := 14) rfl)
theorem mw_X11_beginAnew__136 : (.selects RX11 yX11_startChanged yX11_startChanged : Cond) ∈ wsX11_beginAnew := rl_wsX11_beginAnew_r6 _ (List.mem_of_getElem? (i := 15) rfl)
theorem mw_X11_beginAnew__137 : (.initialized RX11 : Cond) ∈ wsX11_beginAnew := rl_wsX11_beginAnew_r6 _ (List.mem_of_getElem? (i := 16) rfl)
theorem mw_X11_beginAnew__138 : (.code yX11_startChanged cX11_startChanged 1 none : Cond) ∈ wsX11_beginAnew := rl_wsX11_beginAnew_r6 _ (List.mem_of_getElem? (i := 17) rfl)
theorem mw_X11_beginAnew__139 : (.methodLink RX11 157 yX11_stageChanged : Cond) ∈ wsX11_beginAnew := rl_wsX11_beginAnew_r6 _ (List.mem_of_getElem? (i := 18) rfl)
theorem mw_X11_beginAnew__140 : (.instanceMethod yX11_stageChanged : Cond) ∈ wsX11_beginAnew := rl_wsX11_beginAnew_r6 _ (List.mem_of_getElem? (i := 19) rfl)
theorem mw_X11_beginAnew__141 : (.selects RX11 yX11_stageChanged yX11_stageChanged : Cond) ∈ wsX11_beginAnew := rl_wsX11_beginAnew_r6 _ (List.mem_of_getElem? (i := 20) rfl)
theorem mw_X11_beginAnew__142 : (.code yX11_stageChanged cX11_stageChanged 2 none : Cond) ∈ wsX11_beginAnew := rl_wsX11_beginAnew_r6 _ (List.mem_of_getElem? (i := 21) rfl)
theorem mw_X11_beginAnew__143 : (.fieldLink RX11 82 "BallPots" "fromNow" "[LBallPots$Chances;" : Cond) ∈ wsX11_beginAnew := rl_wsX11_beginAnew_r6 _ (List.mem_of_getElem? (i := 22) rfl)
theorem mw_X11_draw__1 : (.fieldLink RX11 41 "BallPots" "draws" "LBallPots$Draws;" : Cond) ∈ wsX11_draw := rl_wsX11_draw_r1 _ (List.mem_of_getElem? (i := 0) rfl)
theorem mw_X11_draw__2 : (.methodLink RX11 186 yX11_isTeam : Cond) ∈ wsX11_draw := rl_wsX11_draw_r1 _ (List.mem_of_getElem? (i := 1) rfl)
theorem mw_X11_draw__3 : (.instanceMethod yX11_isTeam : Cond) ∈ wsX11_draw := rl_wsX11_draw_r1 _ (List.mem_of_getElem? (i := 2) rfl)
theorem mw_X11_draw__4 : (.selects RX11 yX11_isTeam yX11_isTeam : Cond) ∈ wsX11_draw := rl_wsX11_draw_r1 _ (List.mem_of_getElem? (i := 3) rfl)
theorem mw_X11_draw__5 : (.initialized RX11 : Cond) ∈ wsX11_draw := rl_wsX11_draw_r1 _ (List.mem_of_getElem? (i := 4) rfl)
theorem mw_X11_draw__6 : (.code yX11_isTeam cX11_isTeam 2 (some .boolean) : Cond) ∈ wsX11_draw := rl_wsX11_draw_r1 _ (List.mem_of_getElem? (i := 5) rfl)
theorem mw_X11_draw__7 : (.fieldLink RX11 16 "BallPots" "plan" "LBallPots$Plan;" : Cond) ∈ wsX11_draw := rl_wsX11_draw_r1 _ (List.mem_of_getElem? (i := 6) rfl)
theorem mw_X11_draw__8 : (.methodLink RX11 192 yX2_groupIn : Cond) ∈ wsX11_draw := rl_wsX11_draw_r1 _ (List.mem_of_getElem? (i := 7) rfl)
theorem mw_X11_draw__9 : (.instanceMethod yX2_groupIn : Cond) ∈ wsX11_draw := rl_wsX11_draw_r1 _ (List.mem_of_getElem? (i := 8) rfl)
theorem mw_X11_draw__10 : (.selects RX2 yX2_groupIn yX2_groupIn : Cond) ∈ wsX11_draw := rl_wsX11_draw_r1 _ (List.mem_of_getElem? (i := 9) rfl)
theorem mw_X11_draw__11 : (.initialized RX2 : Cond) ∈ wsX11_draw := rl_wsX11_draw_r1 _ (List.mem_of_getElem? (i := 10) rfl)
theorem mw_X11_draw__12 : (.code yX2_groupIn cX2_groupIn 3 (some .int) : Cond) ∈ wsX11_draw := rl_wsX11_draw_r1 _ (List.mem_of_getElem? (i := 11) rfl)
theorem mw_X11_draw__13 : (.fieldLink RX2 34 "BallPots$Draws" "ranks" "LBallPots$Ranks;" : Cond) ∈ wsX11_draw := rl_wsX11_draw_r1 _ (List.mem_of_getElem? (i := 12) rfl)
theorem mw_X11_draw__14 : (.fieldLink RX2 30 "BallPots$Draws" "plan" "LBallPots$Plan;" : Cond) ∈ wsX11_draw := rl_wsX11_draw_r1 _ (List.mem_of_getElem? (i := 13) rfl)
theorem mw_X11_draw__15 : (.methodLink RX2 115 yX3_potOf : Cond) ∈ wsX11_draw := rl_wsX11_draw_r1 _ (List.mem_of_getElem? (i := 14) rfl)
theorem mw_X11_draw__16 : (.instanceMethod yX3_potOf : Cond) ∈ wsX11_draw := rl_wsX11_draw_r1 _ (List.mem_of_getElem? (i := 15) rfl)
theorem mw_X11_draw__17 : (.selects RX3 yX3_potOf yX3_potOf : Cond) ∈ wsX11_draw := rl_wsX11_draw_r1 _ (List.mem_of_getElem? (i := 16) rfl)
theorem mw_X11_draw__18 : (.initialized RX3 : Cond) ∈ wsX11_draw := rl_wsX11_draw_r1 _ (List.mem_of_getElem? (i := 17) rfl)
theorem mw_X11_draw__19 : (.code yX3_potOf cX3_potOf 2 (some .int) : Cond) ∈ wsX11_draw := rl_wsX11_draw_r1 _ (List.mem_of_getElem? (i := 18) rfl)
theorem mw_X11_draw__20 : (.fieldLink RX3 27 "BallPots$Plan" "groups" "I" : Cond) ∈ wsX11_draw := rl_wsX11_draw_r1 _ (List.mem_of_getElem? (i := 19) rfl)
theorem mw_X11_draw__21 : (.methodLink RX2 88 yX2_rankIn : Cond) ∈ wsX11_draw := rl_wsX11_draw_r1 _ (List.mem_of_getElem? (i := 20) rfl)
theorem mw_X11_draw__22 : (.instanceMethod yX2_rankIn : Cond) ∈ wsX11_draw := rl_wsX11_draw_r1 _ (List.mem_of_getElem? (i := 21) rfl)
theorem mw_X11_draw__23 : (.selects RX2 yX2_rankIn yX2_rankIn : Cond) ∈ wsX11_draw := rl_wsX11_draw_r1 _ (List.mem_of_getElem? (i := 22) rfl)
theorem mw_X11_draw__24 : (.code yX2_rankIn cX2_rankIn 5 (some .int) : Cond) ∈ wsX11_draw := rl_wsX11_draw_r1 _ (List.mem_of_getElem? (i := 23) rfl)
theorem mw_X11_draw__25 : (.fieldLink RX2 9 "BallPots$Draws" "step" "[I" : Cond) ∈ wsX11_draw := rl_wsX11_draw_r2 _ (List.mem_of_getElem? (i := 0) rfl)
theorem mw_X11_draw__26 : (.methodLink RX2 118 yX3_placeOf : Cond) ∈ wsX11_draw := rl_wsX11_draw_r2 _ (List.mem_of_getElem? (i := 1) rfl)
theorem mw_X11_draw__27 : (.instanceMethod yX3_placeOf : Cond) ∈ wsX11_draw := rl_wsX11_draw_r2 _ (List.mem_of_getElem? (i := 2) rfl)
theorem mw_X11_draw__28 : (.selects RX3 yX3_placeOf yX3_placeOf : Cond) ∈ wsX11_draw := rl_wsX11_draw_r2 _ (List.mem_of_getElem? (i := 3) rfl)
theorem mw_X11_draw__29 : (.code yX3_placeOf cX3_placeOf 2 (some .int) : Cond) ∈ wsX11_draw := rl_wsX11_draw_r2 _ (List.mem_of_getElem? (i := 4) rfl)
theorem mw_X11_draw__30 : (.methodLink RX2 84 yX4_groupAt : Cond) ∈ wsX11_draw := rl_wsX11_draw_r2 _ (List.mem_of_getElem? (i := 5) rfl)
theorem mw_X11_draw__31 : (.instanceMethod yX4_groupAt : Cond) ∈ wsX11_draw := rl_wsX11_draw_r2 _ (List.mem_of_getElem? (i := 6) rfl)
theorem mw_X11_draw__32 : (.selects RX4 yX4_groupAt yX4_groupAt : Cond) ∈ wsX11_draw := rl_wsX11_draw_r2 _ (List.mem_of_getElem? (i := 7) rfl)
theorem mw_X11_draw__33 : (.initialized RX4 : Cond) ∈ wsX11_draw := rl_wsX11_draw_r2 _ (List.mem_of_getElem? (i := 8) rfl)
theorem mw_X11_draw__34 : (.code yX4_groupAt cX4_groupAt 3 (some .int) : Cond) ∈ wsX11_draw := rl_wsX11_draw_r2 _ (List.mem_of_getElem? (i := 9) rfl)
theorem mw_X11_draw__35 : (.fieldLink RX4 9 "BallPots$Ranks" "groupOf" "[I" : Cond) ∈ wsX11_draw := rl_wsX11_draw_r2 _ (List.mem_of_getElem? (i := 10) rfl)
theorem mw_X11_fault__1 : (.fieldLink RX11 25 "BallPots" "reader" "LBallPots$Reader;" : Cond) ∈ wsX11_fault := List.mem_of_getElem? (i := 1) rfl
theorem mw_X11_feed__1 : (.fieldLink RX11 114 "BallPots" "taped" "I" : Cond) ∈ wsX11_feed := List.mem_of_getElem? (i := 1) rfl
theorem mw_X11_feed__2 : (.methodLink RX11 117 yX11_tapeFour : Cond) ∈ wsX11_feed := List.mem_of_getElem? (i := 2) rfl
theorem mw_X11_feed__3 : (.instanceMethod yX11_tapeFour : Cond) ∈ wsX11_feed := List.mem_of_getElem? (i := 3) rfl
theorem mw_X11_feed__4 : (.selects RX11 yX11_tapeFour yX11_tapeFour : Cond) ∈ wsX11_feed := List.mem_of_getElem? (i := 4) rfl
theorem mw_X11_feed__5 : (.initialized RX11 : Cond) ∈ wsX11_feed := List.mem_of_getElem? (i := 5) rfl
theorem mw_X11_feed__6 : (.code yX11_tapeFour cX11_tapeFour 3 none : Cond) ∈ wsX11_feed := List.mem_of_getElem? (i := 6) rfl
theorem mw_X11_feed__7 : (.fieldLink RX11 9 "BallPots" "tape" "[I" : Cond) ∈ wsX11_feed := List.mem_of_getElem? (i := 7) rfl
theorem mw_X11_forbids__1 : (.fieldLink RX11 41 "BallPots" "draws" "LBallPots$Draws;" : Cond) ∈ wsX11_forbids := List.mem_of_getElem? (i := 1) rfl
theorem mw_X11_forbids__2 : (.fieldLink RX11 16 "BallPots" "plan" "LBallPots$Plan;" : Cond) ∈ wsX11_forbids := List.mem_of_getElem? (i := 2) rfl
theorem mw_X11_forbids__3 : (.static yX2_fewest : Cond) ∈ wsX11_forbids := List.mem_of_getElem? (i := 3) rfl
theorem mw_X11_forbids__4 : (.initialized RX2 : Cond) ∈ wsX11_forbids := List.mem_of_getElem? (i := 4) rfl
theorem mw_X11_forbids__5 : (.code yX2_fewest cX2_fewest 5 (some .int) : Cond) ∈ wsX11_forbids := List.mem_of_getElem? (i := 5) rfl
theorem mw_X11_forbids__6 : (.methodLink RX2 101 yJ6_bitCount_0f7a4 : Cond) ∈ wsX11_forbids := List.mem_of_getElem? (i := 6) rfl
theorem mw_X11_forbids__7 : (.static yJ6_bitCount_0f7a4 : Cond) ∈ wsX11_forbids := List.mem_of_getElem? (i := 7) rfl
theorem mw_X11_forbids__8 : (.initialized RJ6 : Cond) ∈ wsX11_forbids := List.mem_of_getElem? (i := 8) rfl
theorem mw_X11_forbids__9 : (.code yJ6_bitCount_0f7a4 cJ6_bitCount_0f7a4 1 (some .int) : Cond) ∈ wsX11_forbids := List.mem_of_getElem? (i := 9) rfl
theorem mw_X11_forbids__10 : (.constant RJ6 265 (1431655765) : Cond) ∈ wsX11_forbids := List.mem_of_getElem? (i := 10) rfl
theorem mw_X11_forbids__11 : (.constant RJ6 266 (858993459) : Cond) ∈ wsX11_forbids := List.mem_of_getElem? (i := 11) rfl
theorem mw_X11_forbids__12 : (.constant RJ6 267 (252645135) : Cond) ∈ wsX11_forbids := List.mem_of_getElem? (i := 12) rfl
theorem mw_X11_isBar__1 : (.fieldLink RX11 16 "BallPots" "plan" "LBallPots$Plan;" : Cond) ∈ wsX11_isBar := List.mem_of_getElem? (i := 1) rfl
theorem mw_X11_isCode__1 : (.fieldLink RX11 41 "BallPots" "draws" "LBallPots$Draws;" : Cond) ∈ wsX11_isCode := List.mem_of_getElem? (i := 1) rfl
theorem mw_X11_isTeam__1 : (.fieldLink RX11 16 "BallPots" "plan" "LBallPots$Plan;" : Cond) ∈ wsX11_isTeam := List.mem_of_getElem? (i := 1) rfl
theorem mw_X11_judge__1 : (.fieldLink RX11 41 "BallPots" "draws" "LBallPots$Draws;" : Cond) ∈ wsX11_judge := List.mem_of_getElem? (i := 1) rfl
theorem mw_X11_judge__2 : (.methodLink RX11 196 yX11_isCode : Cond) ∈ wsX11_judge := List.mem_of_getElem? (i := 2) rfl
theorem mw_X11_judge__3 : (.instanceMethod yX11_isCode : Cond) ∈ wsX11_judge := List.mem_of_getElem? (i := 3) rfl
theorem mw_X11_judge__4 : (.selects RX11 yX11_isCode yX11_isCode : Cond) ∈ wsX11_judge := List.mem_of_getElem? (i := 4) rfl
theorem mw_X11_judge__5 : (.initialized RX11 : Cond) ∈ wsX11_judge := List.mem_of_getElem? (i := 5) rfl
theorem mw_X11_judge__6 : (.code yX11_isCode cX11_isCode 2 (some .boolean) : Cond) ∈ wsX11_judge := List.mem_of_getElem? (i := 6) rfl
theorem mw_X11_lawful__1 : (.fieldLink RX11 41 "BallPots" "draws" "LBallPots$Draws;" : Cond) ∈ wsX11_lawful := List.mem_of_getElem? (i := 1) rfl
theorem mw_X11_named__1 : (.fieldLink RX11 16 "BallPots" "plan" "LBallPots$Plan;" : Cond) ∈ wsX11_named := List.mem_of_getElem? (i := 1) rfl
theorem mw_X11_named__2 : (.methodLink RX11 163 yX3_teamNamed : Cond) ∈ wsX11_named := List.mem_of_getElem? (i := 2) rfl
theorem mw_X11_named__3 : (.instanceMethod yX3_teamNamed : Cond) ∈ wsX11_named := List.mem_of_getElem? (i := 3) rfl
theorem mw_X11_named__4 : (.selects RX3 yX3_teamNamed yX3_teamNamed : Cond) ∈ wsX11_named := List.mem_of_getElem? (i := 4) rfl
theorem mw_X11_named__5 : (.initialized RX3 : Cond) ∈ wsX11_named := List.mem_of_getElem? (i := 5) rfl
theorem mw_X11_named__6 : (.code yX3_teamNamed cX3_teamNamed 2 (some .int) : Cond) ∈ wsX11_named := List.mem_of_getElem? (i := 6) rfl
theorem mw_X11_named__7 : (.fieldLink RX3 9 "BallPots$Plan" "teamNames" "[I" : Cond) ∈ wsX11_named := List.mem_of_getElem? (i := 7) rfl
theorem mw_X11_named__8 : (.fieldLink RX3 34 "BallPots$Plan" "teams" "I" : Cond) ∈ wsX11_named := List.mem_of_getElem? (i := 8) rfl
theorem mw_X11_named__9 : (.methodLink RX3 52 yX3_find : Cond) ∈ wsX11_named := List.mem_of_getElem? (i := 9) rfl
theorem mw_X11_named__10 : (.static yX3_find : Cond) ∈ wsX11_named := List.mem_of_getElem? (i := 10) rfl
theorem mw_X11_named__11 : (.code yX3_find cX3_find 4 (some .int) : Cond) ∈ wsX11_named := List.mem_of_getElem? (i := 11) rfl
theorem mw_X11_named__12 : (.methodLink RX11 166 yX3_markNamed : Cond) ∈ wsX11_named := List.mem_of_getElem? (i := 12) rfl
theorem mw_X11_named__13 : (.instanceMethod yX3_markNamed : Cond) ∈ wsX11_named := List.mem_of_getElem? (i := 13) rfl
theorem mw_X11_named__14 : (.selects RX3 yX3_markNamed yX3_markNamed : Cond) ∈ wsX11_named := List.mem_of_getElem? (i := 14) rfl
theorem mw_X11_named__15 : (.code yX3_markNamed cX3_markNamed 2 (some .int) : Cond) ∈ wsX11_named := List.mem_of_getElem? (i := 15) rfl
theorem mw_X11_named__16 : (.fieldLink RX3 18 "BallPots$Plan" "markNames" "[I" : Cond) ∈ wsX11_named := List.mem_of_getElem? (i := 16) rfl
theorem mw_X11_named__17 : (.fieldLink RX3 37 "BallPots$Plan" "marks" "I" : Cond) ∈ wsX11_named := List.mem_of_getElem? (i := 17) rfl
theorem mw_X11_order__1 : (.fieldLink RX11 16 "BallPots" "plan" "LBallPots$Plan;" : Cond) ∈ wsX11_order := rl_wsX11_order_r1 _ (List.mem_of_getElem? (i := 0) rfl)
theorem mw_X11_order__2 : (.fieldLink RX11 48 "BallPots" "stage" "LBallPots$Stage;" : Cond) ∈ wsX11_order := rl_wsX11_order_r1 _ (List.mem_of_getElem? (i := 1) rfl)
theorem mw_X11_order__3 : (.fieldLink RX11 57 "BallPots" "treeNow" "LBallPots$Tree;" : Cond) ∈ wsX11_order := rl_wsX11_order_r1 _ (List.mem_of_getElem? (i := 2) rfl)
theorem mw_X11_order__4 : (.fieldLink RX11 108 "BallPots" "nearestArrangement" "I" : Cond) ∈ wsX11_order := rl_wsX11_order_r1 _ (List.mem_of_getElem? (i := 3) rfl)
theorem mw_X11_order__5 : (.methodLink RX11 214 yX11_readTurns : Cond) ∈ wsX11_order := rl_wsX11_order_r1 _ (List.mem_of_getElem? (i := 4) rfl)
theorem mw_X11_order__6 : (.static yX11_readTurns : Cond) ∈ wsX11_order := rl_wsX11_order_r1 _ (List.mem_of_getElem? (i := 5) rfl)
theorem mw_X11_order__7 : (.initialized RX11 : Cond) ∈ wsX11_order := rl_wsX11_order_r1 _ (List.mem_of_getElem? (i := 6) rfl)
theorem mw_X11_order__8 : (.code yX11_readTurns cX11_readTurns 5 (some .boolean) : Cond) ∈ wsX11_order := rl_wsX11_order_r1 _ (List.mem_of_getElem? (i := 7) rfl)
theorem mw_X11_order__9 : (.methodLink RX11 218 yX8_empty : Cond) ∈ wsX11_order := rl_wsX11_order_r1 _ (List.mem_of_getElem? (i := 8) rfl)
theorem mw_X11_order__10 : (.instanceMethod yX8_empty : Cond) ∈ wsX11_order := rl_wsX11_order_r1 _ (List.mem_of_getElem? (i := 9) rfl)
theorem mw_X11_order__11 : (.selects RX8 yX8_empty yX8_empty : Cond) ∈ wsX11_order := rl_wsX11_order_r1 _ (List.mem_of_getElem? (i := 10) rfl)
theorem mw_X11_order__12 : (.initialized RX8 : Cond) ∈ wsX11_order := rl_wsX11_order_r1 _ (List.mem_of_getElem? (i := 11) rfl)
theorem mw_X11_order__13 : (.code yX8_empty cX8_empty 1 none : Cond) ∈ wsX11_order := rl_wsX11_order_r1 _ (List.mem_of_getElem? (i := 12) rfl)
theorem mw_X11_order__14 : (.fieldLink RX8 47 "BallPots$Stage" "out" "I" : Cond) ∈ wsX11_order := rl_wsX11_order_r1 _ (List.mem_of_getElem? (i := 13) rfl)
theorem mw_X11_order__15 : (.fieldLink RX8 18 "BallPots$Stage" "groupOf" "[I" : Cond) ∈ wsX11_order := rl_wsX11_order_r1 _ (List.mem_of_getElem? (i := 14) rfl)
theorem mw_X11_order__16 : (.methodLink RX8 51 yJ7_fill_53178 : Cond) ∈ wsX11_order := rl_wsX11_order_r1 _ (List.mem_of_getElem? (i := 15) rfl)
theorem mw_X11_order__17 : (.static yJ7_fill_53178 : Cond) ∈ wsX11_order := rl_wsX11_order_r1 _ (List.mem_of_getElem? (i := 16) rfl)
theorem mw_X11_order__18 : (.initialized RJ7 : Cond) ∈ wsX11_order := rl_wsX11_order_r1 _ (List.mem_of_getElem? (i := 17) rfl)
theorem mw_X11_order__19 : (.code yJ7_fill_53178 cJ7_fill_53178 4 none : Cond) ∈ wsX11_order := rl_wsX11_order_r1 _ (List.mem_of_getElem? (i := 18) rfl)
theorem mw_X11_order__20 : (.methodLink RX11 154 yX11_startChanged : Cond) ∈ wsX11_order := rl_wsX11_order_r1 _ (List.mem_of_getElem? (i := 19) rfl)
theorem mw_X11_order__21 : (.instanceMethod yX11_startChanged : Cond) ∈ wsX11_order := rl_wsX11_order_r1 _ (List.mem_of_getElem? (i := 20) rfl)
theorem mw_X11_order__22 : (.selects RX11 yX11_startChanged yX11_startChanged : Cond) ∈ wsX11_order := rl_wsX11_order_r1 _ (List.mem_of_getElem? (i := 21) rfl)
theorem mw_X11_order__23 : (.code yX11_startChanged cX11_startChanged 1 none : Cond) ∈ wsX11_order := rl_wsX11_order_r1 _ (List.mem_of_getElem? (i := 22) rfl)
theorem mw_X11_order__24 : (.fieldLink RX11 78 "BallPots" "fromStart" "[LBallPots$Chances;" : Cond) ∈ wsX11_order := rl_wsX11_order_r1 _ (List.mem_of_getElem? (i := 23) rfl)
theorem mw_X11_order__25 : (.methodLink RX11 157 yX11_stageChanged : Cond) ∈ wsX11_order := rl_wsX11_order_r2 _ (List.mem_of_getElem? (i := 0) rfl)
theorem mw_X11_order__26 : (.instanceMethod yX11_stageChanged : Cond) ∈ wsX11_order := rl_wsX11_order_r2 _ (List.mem_of_getElem? (i := 1) rfl)
theorem mw_X11_order__27 : (.selects RX11 yX11_stageChanged yX11_stageChanged : Cond) ∈ wsX11_order := rl_wsX11_order_r2 _ (List.mem_of_getElem? (i := 2) rfl)
theorem mw_X11_order__28 : (.code yX11_stageChanged cX11_stageChanged 2 none : Cond) ∈ wsX11_order := rl_wsX11_order_r2 _ (List.mem_of_getElem? (i := 3) rfl)
theorem mw_X11_order__29 : (.fieldLink RX11 82 "BallPots" "fromNow" "[LBallPots$Chances;" : Cond) ∈ wsX11_order := rl_wsX11_order_r2 _ (List.mem_of_getElem? (i := 4) rfl)
theorem mw_X11_stageChanged__1 : (.fieldLink RX11 82 "BallPots" "fromNow" "[LBallPots$Chances;" : Cond) ∈ wsX11_stageChanged := List.mem_of_getElem? (i := 1) rfl
theorem mw_X11_startChanged__1 : (.fieldLink RX11 78 "BallPots" "fromStart" "[LBallPots$Chances;" : Cond) ∈ wsX11_startChanged := List.mem_of_getElem? (i := 1) rfl
theorem mw_X11_startChanged__2 : (.methodLink RX11 157 yX11_stageChanged : Cond) ∈ wsX11_startChanged := List.mem_of_getElem? (i := 2) rfl
theorem mw_X11_startChanged__3 : (.instanceMethod yX11_stageChanged : Cond) ∈ wsX11_startChanged := List.mem_of_getElem? (i := 3) rfl
theorem mw_X11_startChanged__4 : (.selects RX11 yX11_stageChanged yX11_stageChanged : Cond) ∈ wsX11_startChanged := List.mem_of_getElem? (i := 4) rfl
theorem mw_X11_startChanged__5 : (.initialized RX11 : Cond) ∈ wsX11_startChanged := List.mem_of_getElem? (i := 5) rfl
theorem mw_X11_startChanged__6 : (.code yX11_stageChanged cX11_stageChanged 2 none : Cond) ∈ wsX11_startChanged := List.mem_of_getElem? (i := 6) rfl
theorem mw_X11_startChanged__7 : (.fieldLink RX11 82 "BallPots" "fromNow" "[LBallPots$Chances;" : Cond) ∈ wsX11_startChanged := List.mem_of_getElem? (i := 7) rfl
theorem mw_X11_tapeFour__1 : (.fieldLink RX11 114 "BallPots" "taped" "I" : Cond) ∈ wsX11_tapeFour := List.mem_of_getElem? (i := 1) rfl
theorem mw_X11_tapeFour__2 : (.fieldLink RX11 9 "BallPots" "tape" "[I" : Cond) ∈ wsX11_tapeFour := List.mem_of_getElem? (i := 2) rfl
theorem mw_X11_text__1 : (.fieldLink RX11 114 "BallPots" "taped" "I" : Cond) ∈ wsX11_text := rl_wsX11_text_r1 _ (List.mem_of_getElem? (i := 0) rfl)
theorem mw_X11_text__2 : (.fieldLink RX11 25 "BallPots" "reader" "LBallPots$Reader;" : Cond) ∈ wsX11_text := rl_wsX11_text_r1 _ (List.mem_of_getElem? (i := 1) rfl)
theorem mw_X11_text__3 : (.fieldLink RX11 16 "BallPots" "plan" "LBallPots$Plan;" : Cond) ∈ wsX11_text := rl_wsX11_text_r1 _ (List.mem_of_getElem? (i := 2) rfl)
theorem mw_X11_text__4 : (.methodLink RX11 121 yX5_readLines : Cond) ∈ wsX11_text := rl_wsX11_text_r1 _ (List.mem_of_getElem? (i := 3) rfl)
theorem mw_X11_text__5 : (.instanceMethod yX5_readLines : Cond) ∈ wsX11_text := rl_wsX11_text_r1 _ (List.mem_of_getElem? (i := 4) rfl)
theorem mw_X11_text__6 : (.selects RX5 yX5_readLines yX5_readLines : Cond) ∈ wsX11_text := rl_wsX11_text_r1 _ (List.mem_of_getElem? (i := 5) rfl)
theorem mw_X11_text__7 : (.initialized RX5 : Cond) ∈ wsX11_text := rl_wsX11_text_r1 _ (List.mem_of_getElem? (i := 6) rfl)
theorem mw_X11_text__8 : (.code yX5_readLines cX5_readLines 4 (some .int) : Cond) ∈ wsX11_text := rl_wsX11_text_r1 _ (List.mem_of_getElem? (i := 7) rfl)
theorem mw_X11_text__9 : (.fieldLink RX5 22 "BallPots$Reader" "signs" "[I" : Cond) ∈ wsX11_text := rl_wsX11_text_r1 _ (List.mem_of_getElem? (i := 8) rfl)
theorem mw_X11_text__10 : (.methodLink RX5 26 Lib.Math.min.name : Cond) ∈ wsX11_text := rl_wsX11_text_r1 _ (List.mem_of_getElem? (i := 9) rfl)
theorem mw_X11_text__11 : (.static Lib.Math.min.name : Cond) ∈ wsX11_text := rl_wsX11_text_r1 _ (List.mem_of_getElem? (i := 10) rfl)
theorem mw_X11_text__12 : (.initialized "java/lang/Math" : Cond) ∈ wsX11_text := rl_wsX11_text_r1 _ (List.mem_of_getElem? (i := 11) rfl)
theorem mw_X11_text__13 : (.code Lib.Math.min.name Lib.Math.min.code 2 (some .int) : Cond) ∈ wsX11_text := rl_wsX11_text_r1 _ (List.mem_of_getElem? (i := 12) rfl)
theorem mw_X11_text__14 : (.fieldLink RX5 32 "BallPots$Reader" "length" "I" : Cond) ∈ wsX11_text := rl_wsX11_text_r1 _ (List.mem_of_getElem? (i := 13) rfl)
theorem mw_X11_text__15 : (.fieldLink RX5 35 "BallPots$Reader" "at" "I" : Cond) ∈ wsX11_text := rl_wsX11_text_r1 _ (List.mem_of_getElem? (i := 14) rfl)
theorem mw_X11_text__16 : (.fieldLink RX5 38 "BallPots$Reader" "fault" "I" : Cond) ∈ wsX11_text := rl_wsX11_text_r1 _ (List.mem_of_getElem? (i := 15) rfl)
theorem mw_X11_text__17 : (.fieldLink RX5 18 "BallPots$Reader" "place" "I" : Cond) ∈ wsX11_text := rl_wsX11_text_r1 _ (List.mem_of_getElem? (i := 16) rfl)
theorem mw_X11_text__18 : (.fieldLink RX5 12 "BallPots$Reader" "plan" "LBallPots$Plan;" : Cond) ∈ wsX11_text := rl_wsX11_text_r1 _ (List.mem_of_getElem? (i := 17) rfl)
theorem mw_X11_text__19 : (.fieldLink RX5 47 "BallPots$Reader" "kind" "I" : Cond) ∈ wsX11_text := rl_wsX11_text_r1 _ (List.mem_of_getElem? (i := 18) rfl)
theorem mw_X11_text__20 : (.methodLink RX5 41 yX3_forget : Cond) ∈ wsX11_text := rl_wsX11_text_r1 _ (List.mem_of_getElem? (i := 19) rfl)
theorem mw_X11_text__21 : (.instanceMethod yX3_forget : Cond) ∈ wsX11_text := rl_wsX11_text_r1 _ (List.mem_of_getElem? (i := 20) rfl)
theorem mw_X11_text__22 : (.selects RX3 yX3_forget yX3_forget : Cond) ∈ wsX11_text := rl_wsX11_text_r1 _ (List.mem_of_getElem? (i := 21) rfl)
theorem mw_X11_text__23 : (.initialized RX3 : Cond) ∈ wsX11_text := rl_wsX11_text_r1 _ (List.mem_of_getElem? (i := 22) rfl)
theorem mw_X11_text__24 : (.code yX3_forget cX3_forget 1 none : Cond) ∈ wsX11_text := rl_wsX11_text_r1 _ (List.mem_of_getElem? (i := 23) rfl)
theorem mw_X11_text__25 : (.fieldLink RX3 27 "BallPots$Plan" "groups" "I" : Cond) ∈ wsX11_text := rl_wsX11_text_r2 _ (List.mem_of_getElem? (i := 0) rfl)
theorem mw_X11_text__26 : (.fieldLink RX3 31 "BallPots$Plan" "pots" "I" : Cond) ∈ wsX11_text := rl_wsX11_text_r2 _ (List.mem_of_getElem? (i := 1) rfl)
theorem mw_X11_text__27 : (.fieldLink RX3 34 "BallPots$Plan" "teams" "I" : Cond) ∈ wsX11_text := rl_wsX11_text_r2 _ (List.mem_of_getElem? (i := 2) rfl)
theorem mw_X11_text__28 : (.fieldLink RX3 37 "BallPots$Plan" "marks" "I" : Cond) ∈ wsX11_text := rl_wsX11_text_r2 _ (List.mem_of_getElem? (i := 3) rfl)
theorem mw_X11_text__29 : (.fieldLink RX3 40 "BallPots$Plan" "bars" "I" : Cond) ∈ wsX11_text := rl_wsX11_text_r2 _ (List.mem_of_getElem? (i := 4) rfl)
theorem mw_X11_text__30 : (.fieldLink RX3 43 "BallPots$Plan" "groupsNamed" "I" : Cond) ∈ wsX11_text := rl_wsX11_text_r2 _ (List.mem_of_getElem? (i := 5) rfl)
theorem mw_X11_text__31 : (.methodLink RX5 44 yX5_step : Cond) ∈ wsX11_text := rl_wsX11_text_r2 _ (List.mem_of_getElem? (i := 6) rfl)
theorem mw_X11_text__32 : (.instanceMethod yX5_step : Cond) ∈ wsX11_text := rl_wsX11_text_r2 _ (List.mem_of_getElem? (i := 7) rfl)
theorem mw_X11_text__33 : (.selects RX5 yX5_step yX5_step : Cond) ∈ wsX11_text := rl_wsX11_text_r2 _ (List.mem_of_getElem? (i := 8) rfl)
theorem mw_X11_text__34 : (.code yX5_step cX5_step 1 none : Cond) ∈ wsX11_text := rl_wsX11_text_r2 _ (List.mem_of_getElem? (i := 9) rfl)
theorem mw_X11_text__35 : (.fieldLink RX5 54 "BallPots$Reader" "start" "I" : Cond) ∈ wsX11_text := rl_wsX11_text_r2 _ (List.mem_of_getElem? (i := 10) rfl)
theorem mw_X11_text__36 : (.methodLink RX5 57 yX5_isBlank : Cond) ∈ wsX11_text := rl_wsX11_text_r2 _ (List.mem_of_getElem? (i := 11) rfl)
theorem mw_X11_text__37 : (.static yX5_isBlank : Cond) ∈ wsX11_text := rl_wsX11_text_r2 _ (List.mem_of_getElem? (i := 12) rfl)
theorem mw_X11_text__38 : (.code yX5_isBlank cX5_isBlank 1 (some .boolean) : Cond) ∈ wsX11_text := rl_wsX11_text_r2 _ (List.mem_of_getElem? (i := 13) rfl)
theorem mw_X11_text__39 : (.methodLink RX5 61 yX5_isLetter : Cond) ∈ wsX11_text := rl_wsX11_text_r2 _ (List.mem_of_getElem? (i := 14) rfl)
theorem mw_X11_text__40 : (.static yX5_isLetter : Cond) ∈ wsX11_text := rl_wsX11_text_r2 _ (List.mem_of_getElem? (i := 15) rfl)
theorem mw_X11_text__41 : (.code yX5_isLetter cX5_isLetter 1 (some .boolean) : Cond) ∈ wsX11_text := rl_wsX11_text_r2 _ (List.mem_of_getElem? (i := 16) rfl)
theorem mw_X11_text__42 : (.methodLink RX5 64 yX5_stepWord : Cond) ∈ wsX11_text := rl_wsX11_text_r2 _ (List.mem_of_getElem? (i := 17) rfl)
theorem mw_X11_text__43 : (.instanceMethod yX5_stepWord : Cond) ∈ wsX11_text := rl_wsX11_text_r2 _ (List.mem_of_getElem? (i := 18) rfl)
theorem mw_X11_text__44 : (.selects RX5 yX5_stepWord yX5_stepWord : Cond) ∈ wsX11_text := rl_wsX11_text_r2 _ (List.mem_of_getElem? (i := 19) rfl)
theorem mw_X11_text__45 : (.code yX5_stepWord cX5_stepWord 2 none : Cond) ∈ wsX11_text := rl_wsX11_text_r2 _ (List.mem_of_getElem? (i := 20) rfl)
theorem mw_X11_text__46 : (.fieldLink RX5 73 "BallPots$Reader" "value" "I" : Cond) ∈ wsX11_text := rl_wsX11_text_r2 _ (List.mem_of_getElem? (i := 21) rfl)
theorem mw_X11_text__47 : (.methodLink RX5 67 yX5_isDigit : Cond) ∈ wsX11_text := rl_wsX11_text_r2 _ (List.mem_of_getElem? (i := 22) rfl)
theorem mw_X11_text__48 : (.static yX5_isDigit : Cond) ∈ wsX11_text := rl_wsX11_text_r2 _ (List.mem_of_getElem? (i := 23) rfl)
theorem mw_X11_text__49 : (.code yX5_isDigit cX5_isDigit 1 (some .boolean) : Cond) ∈ wsX11_text := rl_wsX11_text_r3 _ (List.mem_of_getElem? (i := 0) rfl)
theorem mw_X11_text__50 : (.methodLink RX5 70 yX5_stepNumber : Cond) ∈ wsX11_text := rl_wsX11_text_r3 _ (List.mem_of_getElem? (i := 1) rfl)
theorem mw_X11_text__51 : (.instanceMethod yX5_stepNumber : Cond) ∈ wsX11_text := rl_wsX11_text_r3 _ (List.mem_of_getElem? (i := 2) rfl)
theorem mw_X11_text__52 : (.selects RX5 yX5_stepNumber yX5_stepNumber : Cond) ∈ wsX11_text := rl_wsX11_text_r3 _ (List.mem_of_getElem? (i := 3) rfl)
theorem mw_X11_text__53 : (.code yX5_stepNumber cX5_stepNumber 1 none : Cond) ∈ wsX11_text := rl_wsX11_text_r3 _ (List.mem_of_getElem? (i := 4) rfl)
theorem mw_X11_text__54 : (.methodLink RX5 50 yX5_readLine : Cond) ∈ wsX11_text := rl_wsX11_text_r3 _ (List.mem_of_getElem? (i := 5) rfl)
theorem mw_X11_text__55 : (.instanceMethod yX5_readLine : Cond) ∈ wsX11_text := rl_wsX11_text_r3 _ (List.mem_of_getElem? (i := 6) rfl)
theorem mw_X11_text__56 : (.selects RX5 yX5_readLine yX5_readLine : Cond) ∈ wsX11_text := rl_wsX11_text_r3 _ (List.mem_of_getElem? (i := 7) rfl)
theorem mw_X11_text__57 : (.code yX5_readLine cX5_readLine 2 (some .boolean) : Cond) ∈ wsX11_text := rl_wsX11_text_r3 _ (List.mem_of_getElem? (i := 8) rfl)
theorem mw_X11_text__58 : (.methodLink RX5 76 yX5_readUpToStop : Cond) ∈ wsX11_text := rl_wsX11_text_r3 _ (List.mem_of_getElem? (i := 9) rfl)
theorem mw_X11_text__59 : (.instanceMethod yX5_readUpToStop : Cond) ∈ wsX11_text := rl_wsX11_text_r3 _ (List.mem_of_getElem? (i := 10) rfl)
theorem mw_X11_text__60 : (.selects RX5 yX5_readUpToStop yX5_readUpToStop : Cond) ∈ wsX11_text := rl_wsX11_text_r3 _ (List.mem_of_getElem? (i := 11) rfl)
theorem mw_X11_text__61 : (.code yX5_readUpToStop cX5_readUpToStop 2 (some .boolean) : Cond) ∈ wsX11_text := rl_wsX11_text_r3 _ (List.mem_of_getElem? (i := 12) rfl)
theorem mw_X11_text__62 : (.constant RX5 83 (254268947) : Cond) ∈ wsX11_text := rl_wsX11_text_r3 _ (List.mem_of_getElem? (i := 13) rfl)
theorem mw_X11_text__63 : (.methodLink RX5 84 yX5_fail : Cond) ∈ wsX11_text := rl_wsX11_text_r3 _ (List.mem_of_getElem? (i := 14) rfl)
theorem mw_X11_text__64 : (.instanceMethod yX5_fail : Cond) ∈ wsX11_text := rl_wsX11_text_r3 _ (List.mem_of_getElem? (i := 15) rfl)
theorem mw_X11_text__65 : (.selects RX5 yX5_fail yX5_fail : Cond) ∈ wsX11_text := rl_wsX11_text_r3 _ (List.mem_of_getElem? (i := 16) rfl)
theorem mw_X11_text__66 : (.code yX5_fail cX5_fail 2 (some .boolean) : Cond) ∈ wsX11_text := rl_wsX11_text_r3 _ (List.mem_of_getElem? (i := 17) rfl)
theorem mw_X11_text__67 : (.methodLink RX5 87 yX5_readGroups : Cond) ∈ wsX11_text := rl_wsX11_text_r3 _ (List.mem_of_getElem? (i := 18) rfl)
theorem mw_X11_text__68 : (.instanceMethod yX5_readGroups : Cond) ∈ wsX11_text := rl_wsX11_text_r3 _ (List.mem_of_getElem? (i := 19) rfl)
theorem mw_X11_text__69 : (.selects RX5 yX5_readGroups yX5_readGroups : Cond) ∈ wsX11_text := rl_wsX11_text_r3 _ (List.mem_of_getElem? (i := 20) rfl)
theorem mw_X11_text__70 : (.code yX5_readGroups cX5_readGroups 1 (some .boolean) : Cond) ∈ wsX11_text := rl_wsX11_text_r3 _ (List.mem_of_getElem? (i := 21) rfl)
theorem mw_X11_text__71 : (.methodLink RX5 108 yX5_isNumber : Cond) ∈ wsX11_text := rl_wsX11_text_r3 _ (List.mem_of_getElem? (i := 22) rfl)
theorem mw_X11_text__72 : (.instanceMethod yX5_isNumber : Cond) ∈ wsX11_text := rl_wsX11_text_r3 _ (List.mem_of_getElem? (i := 23) rfl)
theorem mw_X11_text__73 : (.selects RX5 yX5_isNumber yX5_isNumber : Cond) ∈ wsX11_text := rl_wsX11_text_r4 _ (List.mem_of_getElem? (i := 0) rfl)
theorem mw_X11_text__74 : (.code yX5_isNumber cX5_isNumber 3 (some .boolean) : Cond) ∈ wsX11_text := rl_wsX11_text_r4 _ (List.mem_of_getElem? (i := 1) rfl)
theorem mw_X11_text__75 : (.methodLink RX5 90 yX5_readPot : Cond) ∈ wsX11_text := rl_wsX11_text_r4 _ (List.mem_of_getElem? (i := 2) rfl)
theorem mw_X11_text__76 : (.instanceMethod yX5_readPot : Cond) ∈ wsX11_text := rl_wsX11_text_r4 _ (List.mem_of_getElem? (i := 3) rfl)
theorem mw_X11_text__77 : (.selects RX5 yX5_readPot yX5_readPot : Cond) ∈ wsX11_text := rl_wsX11_text_r4 _ (List.mem_of_getElem? (i := 4) rfl)
theorem mw_X11_text__78 : (.code yX5_readPot cX5_readPot 3 (some .boolean) : Cond) ∈ wsX11_text := rl_wsX11_text_r4 _ (List.mem_of_getElem? (i := 5) rfl)
theorem mw_X11_text__79 : (.methodLink RX5 121 yX5_isName : Cond) ∈ wsX11_text := rl_wsX11_text_r4 _ (List.mem_of_getElem? (i := 6) rfl)
theorem mw_X11_text__80 : (.instanceMethod yX5_isName : Cond) ∈ wsX11_text := rl_wsX11_text_r4 _ (List.mem_of_getElem? (i := 7) rfl)
theorem mw_X11_text__81 : (.selects RX5 yX5_isName yX5_isName : Cond) ∈ wsX11_text := rl_wsX11_text_r4 _ (List.mem_of_getElem? (i := 8) rfl)
theorem mw_X11_text__82 : (.code yX5_isName cX5_isName 1 (some .boolean) : Cond) ∈ wsX11_text := rl_wsX11_text_r4 _ (List.mem_of_getElem? (i := 9) rfl)
theorem mw_X11_text__83 : (.methodLink RX5 164 yX5_isOfLanguage : Cond) ∈ wsX11_text := rl_wsX11_text_r4 _ (List.mem_of_getElem? (i := 10) rfl)
theorem mw_X11_text__84 : (.static yX5_isOfLanguage : Cond) ∈ wsX11_text := rl_wsX11_text_r4 _ (List.mem_of_getElem? (i := 11) rfl)
theorem mw_X11_text__85 : (.code yX5_isOfLanguage cX5_isOfLanguage 1 (some .boolean) : Cond) ∈ wsX11_text := rl_wsX11_text_r4 _ (List.mem_of_getElem? (i := 12) rfl)
theorem mw_X11_text__86 : (.methodLink RX5 124 yX3_teamNamed : Cond) ∈ wsX11_text := rl_wsX11_text_r4 _ (List.mem_of_getElem? (i := 13) rfl)
theorem mw_X11_text__87 : (.instanceMethod yX3_teamNamed : Cond) ∈ wsX11_text := rl_wsX11_text_r4 _ (List.mem_of_getElem? (i := 14) rfl)
theorem mw_X11_text__88 : (.selects RX3 yX3_teamNamed yX3_teamNamed : Cond) ∈ wsX11_text := rl_wsX11_text_r4 _ (List.mem_of_getElem? (i := 15) rfl)
theorem mw_X11_text__89 : (.code yX3_teamNamed cX3_teamNamed 2 (some .int) : Cond) ∈ wsX11_text := rl_wsX11_text_r4 _ (List.mem_of_getElem? (i := 16) rfl)
theorem mw_X11_text__90 : (.fieldLink RX3 9 "BallPots$Plan" "teamNames" "[I" : Cond) ∈ wsX11_text := rl_wsX11_text_r4 _ (List.mem_of_getElem? (i := 17) rfl)
theorem mw_X11_text__91 : (.methodLink RX3 52 yX3_find : Cond) ∈ wsX11_text := rl_wsX11_text_r4 _ (List.mem_of_getElem? (i := 18) rfl)
theorem mw_X11_text__92 : (.static yX3_find : Cond) ∈ wsX11_text := rl_wsX11_text_r4 _ (List.mem_of_getElem? (i := 19) rfl)
theorem mw_X11_text__93 : (.code yX3_find cX3_find 4 (some .int) : Cond) ∈ wsX11_text := rl_wsX11_text_r4 _ (List.mem_of_getElem? (i := 20) rfl)
theorem mw_X11_text__94 : (.methodLink RX5 128 yX3_addTeam : Cond) ∈ wsX11_text := rl_wsX11_text_r4 _ (List.mem_of_getElem? (i := 21) rfl)
theorem mw_X11_text__95 : (.instanceMethod yX3_addTeam : Cond) ∈ wsX11_text := rl_wsX11_text_r4 _ (List.mem_of_getElem? (i := 22) rfl)
theorem mw_X11_text__96 : (.selects RX3 yX3_addTeam yX3_addTeam : Cond) ∈ wsX11_text := rl_wsX11_text_r4 _ (List.mem_of_getElem? (i := 23) rfl)
theorem mw_X11_text__97 : (.code yX3_addTeam cX3_addTeam 2 none : Cond) ∈ wsX11_text := rl_wsX11_text_r5 _ (List.mem_of_getElem? (i := 0) rfl)
theorem mw_X11_text__98 : (.fieldLink RX3 15 "BallPots$Plan" "marksOf" "[I" : Cond) ∈ wsX11_text := rl_wsX11_text_r5 _ (List.mem_of_getElem? (i := 1) rfl)
theorem mw_X11_text__99 : (.methodLink RX5 93 yX5_readMark : Cond) ∈ wsX11_text := rl_wsX11_text_r5 _ (List.mem_of_getElem? (i := 2) rfl)
theorem mw_X11_text__100 : (.instanceMethod yX5_readMark : Cond) ∈ wsX11_text := rl_wsX11_text_r5 _ (List.mem_of_getElem? (i := 3) rfl)
theorem mw_X11_text__101 : (.selects RX5 yX5_readMark yX5_readMark : Cond) ∈ wsX11_text := rl_wsX11_text_r5 _ (List.mem_of_getElem? (i := 4) rfl)
theorem mw_X11_text__102 : (.code yX5_readMark cX5_readMark 5 (some .boolean) : Cond) ∈ wsX11_text := rl_wsX11_text_r5 _ (List.mem_of_getElem? (i := 5) rfl)
theorem mw_X11_text__103 : (.methodLink RX5 135 yX3_markNamed : Cond) ∈ wsX11_text := rl_wsX11_text_r5 _ (List.mem_of_getElem? (i := 6) rfl)
theorem mw_X11_text__104 : (.instanceMethod yX3_markNamed : Cond) ∈ wsX11_text := rl_wsX11_text_r5 _ (List.mem_of_getElem? (i := 7) rfl)
theorem mw_X11_text__105 : (.selects RX3 yX3_markNamed yX3_markNamed : Cond) ∈ wsX11_text := rl_wsX11_text_r5 _ (List.mem_of_getElem? (i := 8) rfl)
theorem mw_X11_text__106 : (.code yX3_markNamed cX3_markNamed 2 (some .int) : Cond) ∈ wsX11_text := rl_wsX11_text_r5 _ (List.mem_of_getElem? (i := 9) rfl)
theorem mw_X11_text__107 : (.fieldLink RX3 18 "BallPots$Plan" "markNames" "[I" : Cond) ∈ wsX11_text := rl_wsX11_text_r5 _ (List.mem_of_getElem? (i := 10) rfl)
theorem mw_X11_text__108 : (.methodLink RX5 138 yX3_addMark : Cond) ∈ wsX11_text := rl_wsX11_text_r5 _ (List.mem_of_getElem? (i := 11) rfl)
theorem mw_X11_text__109 : (.instanceMethod yX3_addMark : Cond) ∈ wsX11_text := rl_wsX11_text_r5 _ (List.mem_of_getElem? (i := 12) rfl)
theorem mw_X11_text__110 : (.selects RX3 yX3_addMark yX3_addMark : Cond) ∈ wsX11_text := rl_wsX11_text_r5 _ (List.mem_of_getElem? (i := 13) rfl)
theorem mw_X11_text__111 : (.code yX3_addMark cX3_addMark 2 none : Cond) ∈ wsX11_text := rl_wsX11_text_r5 _ (List.mem_of_getElem? (i := 14) rfl)
theorem mw_X11_text__112 : (.methodLink RX5 141 yX5_readTeam : Cond) ∈ wsX11_text := rl_wsX11_text_r5 _ (List.mem_of_getElem? (i := 15) rfl)
theorem mw_X11_text__113 : (.instanceMethod yX5_readTeam : Cond) ∈ wsX11_text := rl_wsX11_text_r5 _ (List.mem_of_getElem? (i := 16) rfl)
theorem mw_X11_text__114 : (.selects RX5 yX5_readTeam yX5_readTeam : Cond) ∈ wsX11_text := rl_wsX11_text_r5 _ (List.mem_of_getElem? (i := 17) rfl)
theorem mw_X11_text__115 : (.code yX5_readTeam cX5_readTeam 2 (some .int) : Cond) ∈ wsX11_text := rl_wsX11_text_r5 _ (List.mem_of_getElem? (i := 18) rfl)
theorem mw_X11_text__116 : (.methodLink RX5 96 yX5_isRoomForBar : Cond) ∈ wsX11_text := rl_wsX11_text_r5 _ (List.mem_of_getElem? (i := 19) rfl)
theorem mw_X11_text__117 : (.instanceMethod yX5_isRoomForBar : Cond) ∈ wsX11_text := rl_wsX11_text_r5 _ (List.mem_of_getElem? (i := 20) rfl)
theorem mw_X11_text__118 : (.selects RX5 yX5_isRoomForBar yX5_isRoomForBar : Cond) ∈ wsX11_text := rl_wsX11_text_r5 _ (List.mem_of_getElem? (i := 21) rfl)
theorem mw_X11_text__119 : (.code yX5_isRoomForBar cX5_isRoomForBar 1 (some .boolean) : Cond) ∈ wsX11_text := rl_wsX11_text_r5 _ (List.mem_of_getElem? (i := 22) rfl)
theorem mw_X11_text__120 : (.methodLink RX5 99 yX5_readAtMost : Cond) ∈ wsX11_text := rl_wsX11_text_r5 _ (List.mem_of_getElem? (i := 23) rfl)
theorem mw_X11_text__121 : (.instanceMethod yX5_readAtMost : Cond) ∈ wsX11_text := rl_wsX11_text_r6 _ (List.mem_of_getElem? (i := 0) rfl)
theorem mw_X11_text__122 : (.selects RX5 yX5_readAtMost yX5_readAtMost : Cond) ∈ wsX11_text := rl_wsX11_text_r6 _ (List.mem_of_getElem? (i := 1) rfl)
theorem mw_X11_text__123 : (.code yX5_readAtMost cX5_readAtMost 3 (some .boolean) : Cond) ∈ wsX11_text := rl_wsX11_text_r6 _ (List.mem_of_getElem? (i := 2) rfl)
theorem mw_X11_text__124 : (.methodLink RX5 151 yX3_teamsMarked : Cond) ∈ wsX11_text := rl_wsX11_text_r6 _ (List.mem_of_getElem? (i := 3) rfl)
theorem mw_X11_text__125 : (.instanceMethod yX3_teamsMarked : Cond) ∈ wsX11_text := rl_wsX11_text_r6 _ (List.mem_of_getElem? (i := 4) rfl)
theorem mw_X11_text__126 : (.selects RX3 yX3_teamsMarked yX3_teamsMarked : Cond) ∈ wsX11_text := rl_wsX11_text_r6 _ (List.mem_of_getElem? (i := 5) rfl)
theorem mw_X11_text__127 : (.code yX3_teamsMarked cX3_teamsMarked 4 (some .int) : Cond) ∈ wsX11_text := rl_wsX11_text_r6 _ (List.mem_of_getElem? (i := 6) rfl)
theorem mw_X11_text__128 : (.methodLink RX5 154 yX3_addAtMost : Cond) ∈ wsX11_text := rl_wsX11_text_r6 _ (List.mem_of_getElem? (i := 7) rfl)
theorem mw_X11_text__129 : (.instanceMethod yX3_addAtMost : Cond) ∈ wsX11_text := rl_wsX11_text_r6 _ (List.mem_of_getElem? (i := 8) rfl)
theorem mw_X11_text__130 : (.selects RX3 yX3_addAtMost yX3_addAtMost : Cond) ∈ wsX11_text := rl_wsX11_text_r6 _ (List.mem_of_getElem? (i := 9) rfl)
theorem mw_X11_text__131 : (.code yX3_addAtMost cX3_addAtMost 3 none : Cond) ∈ wsX11_text := rl_wsX11_text_r6 _ (List.mem_of_getElem? (i := 10) rfl)
theorem mw_X11_text__132 : (.methodLink RX3 60 yX3_addBar : Cond) ∈ wsX11_text := rl_wsX11_text_r6 _ (List.mem_of_getElem? (i := 11) rfl)
theorem mw_X11_text__133 : (.instanceMethod yX3_addBar : Cond) ∈ wsX11_text := rl_wsX11_text_r6 _ (List.mem_of_getElem? (i := 12) rfl)
theorem mw_X11_text__134 : (.selects RX3 yX3_addBar yX3_addBar : Cond) ∈ wsX11_text := rl_wsX11_text_r6 _ (List.mem_of_getElem? (i := 13) rfl)
theorem mw_X11_text__135 : (.code yX3_addBar cX3_addBar 3 none : Cond) ∈ wsX11_text := rl_wsX11_text_r6 _ (List.mem_of_getElem? (i := 14) rfl)
theorem mw_X11_text__136 : (.fieldLink RX3 21 "BallPots$Plan" "barTeams" "[I" : Cond) ∈ wsX11_text := rl_wsX11_text_r6 _ (List.mem_of_getElem? (i := 15) rfl)
theorem mw_X11_text__137 : (.fieldLink RX3 24 "BallPots$Plan" "barRooms" "[I" : Cond) ∈ wsX11_text := rl_wsX11_text_r6 _ (List.mem_of_getElem? (i := 16) rfl)
theorem mw_X11_text__138 : (.methodLink RX5 102 yX5_readApart : Cond) ∈ wsX11_text := rl_wsX11_text_r6 _ (List.mem_of_getElem? (i := 17) rfl)
theorem mw_X11_text__139 : (.instanceMethod yX5_readApart : Cond) ∈ wsX11_text := rl_wsX11_text_r6 _ (List.mem_of_getElem? (i := 18) rfl)
theorem mw_X11_text__140 : (.selects RX5 yX5_readApart yX5_readApart : Cond) ∈ wsX11_text := rl_wsX11_text_r6 _ (List.mem_of_getElem? (i := 19) rfl)
theorem mw_X11_text__141 : (.code yX5_readApart cX5_readApart 3 (some .boolean) : Cond) ∈ wsX11_text := rl_wsX11_text_r6 _ (List.mem_of_getElem? (i := 20) rfl)
theorem mw_X11_text__142 : (.methodLink RX5 105 yX5_readHeld : Cond) ∈ wsX11_text := rl_wsX11_text_r6 _ (List.mem_of_getElem? (i := 21) rfl)
theorem mw_X11_text__143 : (.instanceMethod yX5_readHeld : Cond) ∈ wsX11_text := rl_wsX11_text_r6 _ (List.mem_of_getElem? (i := 22) rfl)
theorem mw_X11_text__144 : (.selects RX5 yX5_readHeld yX5_readHeld : Cond) ∈ wsX11_text := rl_wsX11_text_r6 _ (List.mem_of_getElem? (i := 23) rfl)
theorem mw_X11_text__145 : (.code yX5_readHeld cX5_readHeld 3 (some .boolean) : Cond) ∈ wsX11_text := rl_wsX11_text_r7 _ (List.mem_of_getElem? (i := 0) rfl)
theorem mw_X11_text__146 : (.methodLink RX5 158 yX3_addFixed : Cond) ∈ wsX11_text := rl_wsX11_text_r7 _ (List.mem_of_getElem? (i := 1) rfl)
theorem mw_X11_text__147 : (.instanceMethod yX3_addFixed : Cond) ∈ wsX11_text := rl_wsX11_text_r7 _ (List.mem_of_getElem? (i := 2) rfl)
theorem mw_X11_text__148 : (.selects RX3 yX3_addFixed yX3_addFixed : Cond) ∈ wsX11_text := rl_wsX11_text_r7 _ (List.mem_of_getElem? (i := 3) rfl)
theorem mw_X11_text__149 : (.code yX3_addFixed cX3_addFixed 3 none : Cond) ∈ wsX11_text := rl_wsX11_text_r7 _ (List.mem_of_getElem? (i := 4) rfl)
theorem mw_X11_text__150 : (.methodLink RX5 161 yX3_addNever : Cond) ∈ wsX11_text := rl_wsX11_text_r7 _ (List.mem_of_getElem? (i := 5) rfl)
theorem mw_X11_text__151 : (.instanceMethod yX3_addNever : Cond) ∈ wsX11_text := rl_wsX11_text_r7 _ (List.mem_of_getElem? (i := 6) rfl)
theorem mw_X11_text__152 : (.selects RX3 yX3_addNever yX3_addNever : Cond) ∈ wsX11_text := rl_wsX11_text_r7 _ (List.mem_of_getElem? (i := 7) rfl)
theorem mw_X11_text__153 : (.code yX3_addNever cX3_addNever 3 none : Cond) ∈ wsX11_text := rl_wsX11_text_r7 _ (List.mem_of_getElem? (i := 8) rfl)
theorem mw_X11_text__154 : (.methodLink RX5 79 yX5_readStop : Cond) ∈ wsX11_text := rl_wsX11_text_r7 _ (List.mem_of_getElem? (i := 9) rfl)
theorem mw_X11_text__155 : (.instanceMethod yX5_readStop : Cond) ∈ wsX11_text := rl_wsX11_text_r7 _ (List.mem_of_getElem? (i := 10) rfl)
theorem mw_X11_text__156 : (.selects RX5 yX5_readStop yX5_readStop : Cond) ∈ wsX11_text := rl_wsX11_text_r7 _ (List.mem_of_getElem? (i := 11) rfl)
theorem mw_X11_text__157 : (.code yX5_readStop cX5_readStop 1 (some .boolean) : Cond) ∈ wsX11_text := rl_wsX11_text_r7 _ (List.mem_of_getElem? (i := 12) rfl)
theorem mw_X11_text__158 : (.methodLink RX11 129 yX3_take : Cond) ∈ wsX11_text := rl_wsX11_text_r7 _ (List.mem_of_getElem? (i := 13) rfl)
theorem mw_X11_text__159 : (.instanceMethod yX3_take : Cond) ∈ wsX11_text := rl_wsX11_text_r7 _ (List.mem_of_getElem? (i := 14) rfl)
theorem mw_X11_text__160 : (.selects RX3 yX3_take yX3_take : Cond) ∈ wsX11_text := rl_wsX11_text_r7 _ (List.mem_of_getElem? (i := 15) rfl)
theorem mw_X11_text__161 : (.code yX3_take cX3_take 2 none : Cond) ∈ wsX11_text := rl_wsX11_text_r7 _ (List.mem_of_getElem? (i := 16) rfl)
theorem mw_X11_text__162 : (.methodLink RX3 46 arraycopyName : Cond) ∈ wsX11_text := rl_wsX11_text_r7 _ (List.mem_of_getElem? (i := 17) rfl)
theorem mw_X11_text__163 : (.native arraycopyName : Cond) ∈ wsX11_text := rl_wsX11_text_r7 _ (List.mem_of_getElem? (i := 18) rfl)
theorem mw_X11_text__164 : (.static arraycopyName : Cond) ∈ wsX11_text := rl_wsX11_text_r7 _ (List.mem_of_getElem? (i := 19) rfl)
theorem mw_X11_text__165 : (.initialized "java/lang/System" : Cond) ∈ wsX11_text := rl_wsX11_text_r7 _ (List.mem_of_getElem? (i := 20) rfl)
theorem mw_X11_text__166 : (.methodLink RX11 111 yX11_beginAnew : Cond) ∈ wsX11_text := rl_wsX11_text_r7 _ (List.mem_of_getElem? (i := 21) rfl)
theorem mw_X11_text__167 : (.instanceMethod yX11_beginAnew : Cond) ∈ wsX11_text := rl_wsX11_text_r7 _ (List.mem_of_getElem? (i := 22) rfl)
theorem mw_X11_text__168 : (.selects RX11 yX11_beginAnew yX11_beginAnew : Cond) ∈ wsX11_text := rl_wsX11_text_r7 _ (List.mem_of_getElem? (i := 23) rfl)
theorem mw_X11_text__169 : (.initialized RX11 : Cond) ∈ wsX11_text := rl_wsX11_text_r8 _ (List.mem_of_getElem? (i := 0) rfl)
theorem mw_X11_text__170 : (.code yX11_beginAnew cX11_beginAnew 1 none : Cond) ∈ wsX11_text := rl_wsX11_text_r8 _ (List.mem_of_getElem? (i := 1) rfl)
theorem mw_X11_text__171 : (.fieldLink RX11 32 "BallPots" "ranks" "LBallPots$Ranks;" : Cond) ∈ wsX11_text := rl_wsX11_text_r8 _ (List.mem_of_getElem? (i := 2) rfl)
theorem mw_X11_text__172 : (.fieldLink RX11 41 "BallPots" "draws" "LBallPots$Draws;" : Cond) ∈ wsX11_text := rl_wsX11_text_r8 _ (List.mem_of_getElem? (i := 3) rfl)
theorem mw_X11_text__173 : (.fieldLink RX11 48 "BallPots" "stage" "LBallPots$Stage;" : Cond) ∈ wsX11_text := rl_wsX11_text_r8 _ (List.mem_of_getElem? (i := 4) rfl)
theorem mw_X11_text__174 : (.fieldLink RX11 57 "BallPots" "treeNow" "LBallPots$Tree;" : Cond) ∈ wsX11_text := rl_wsX11_text_r8 _ (List.mem_of_getElem? (i := 5) rfl)
theorem mw_X11_text__175 : (.fieldLink RX11 61 "BallPots" "treeInTurn" "LBallPots$Tree;" : Cond) ∈ wsX11_text := rl_wsX11_text_r8 _ (List.mem_of_getElem? (i := 6) rfl)
theorem mw_X11_text__176 : (.fieldLink RX11 78 "BallPots" "fromStart" "[LBallPots$Chances;" : Cond) ∈ wsX11_text := rl_wsX11_text_r8 _ (List.mem_of_getElem? (i := 7) rfl)
theorem mw_X11_text__177 : (.fieldLink RX11 93 "BallPots" "barTable" "LBallPots$BarTable;" : Cond) ∈ wsX11_text := rl_wsX11_text_r8 _ (List.mem_of_getElem? (i := 8) rfl)
theorem mw_X11_text__178 : (.fieldLink RX11 100 "BallPots" "swaps" "LBallPots$Swaps;" : Cond) ∈ wsX11_text := rl_wsX11_text_r8 _ (List.mem_of_getElem? (i := 9) rfl)
theorem mw_X11_text__179 : (.fieldLink RX11 104 "BallPots" "nearestOrder" "I" : Cond) ∈ wsX11_text := rl_wsX11_text_r8 _ (List.mem_of_getElem? (i := 10) rfl)
theorem mw_X11_text__180 : (.fieldLink RX11 108 "BallPots" "nearestArrangement" "I" : Cond) ∈ wsX11_text := rl_wsX11_text_r8 _ (List.mem_of_getElem? (i := 11) rfl)
theorem mw_X11_text__181 : (.methodLink RX11 136 yX4_set : Cond) ∈ wsX11_text := rl_wsX11_text_r8 _ (List.mem_of_getElem? (i := 12) rfl)
theorem mw_X11_text__182 : (.instanceMethod yX4_set : Cond) ∈ wsX11_text := rl_wsX11_text_r8 _ (List.mem_of_getElem? (i := 13) rfl)
theorem mw_X11_text__183 : (.selects RX4 yX4_set yX4_set : Cond) ∈ wsX11_text := rl_wsX11_text_r8 _ (List.mem_of_getElem? (i := 14) rfl)
theorem mw_X11_text__184 : (.initialized RX4 : Cond) ∈ wsX11_text := rl_wsX11_text_r8 _ (List.mem_of_getElem? (i := 15) rfl)
theorem mw_X11_text__185 : (.code yX4_set cX4_set 3 none : Cond) ∈ wsX11_text := rl_wsX11_text_r8 _ (List.mem_of_getElem? (i := 16) rfl)
theorem mw_X11_text__186 : (.fieldLink RX4 27 "BallPots$Ranks" "groups" "I" : Cond) ∈ wsX11_text := rl_wsX11_text_r8 _ (List.mem_of_getElem? (i := 17) rfl)
theorem mw_X11_text__187 : (.fieldLink RX4 31 "BallPots$Ranks" "many" "I" : Cond) ∈ wsX11_text := rl_wsX11_text_r8 _ (List.mem_of_getElem? (i := 18) rfl)
theorem mw_X11_text__188 : (.fieldLink RX4 18 "BallPots$Ranks" "having" "[I" : Cond) ∈ wsX11_text := rl_wsX11_text_r8 _ (List.mem_of_getElem? (i := 19) rfl)
theorem mw_X11_text__189 : (.fieldLink RX4 24 "BallPots$Ranks" "row" "[I" : Cond) ∈ wsX11_text := rl_wsX11_text_r8 _ (List.mem_of_getElem? (i := 20) rfl)
theorem mw_X11_text__190 : (.fieldLink RX4 47 "BallPots$Ranks" "everyRank" "I" : Cond) ∈ wsX11_text := rl_wsX11_text_r8 _ (List.mem_of_getElem? (i := 21) rfl)
theorem mw_X11_text__191 : (.methodLink RX4 34 yJ7_fill_53178 : Cond) ∈ wsX11_text := rl_wsX11_text_r8 _ (List.mem_of_getElem? (i := 22) rfl)
theorem mw_X11_text__192 : (.static yJ7_fill_53178 : Cond) ∈ wsX11_text := rl_wsX11_text_r8 _ (List.mem_of_getElem? (i := 23) rfl)
theorem mw_X11_text__193 : (.initialized RJ7 : Cond) ∈ wsX11_text := rl_wsX11_text_r9 _ (List.mem_of_getElem? (i := 0) rfl)
theorem mw_X11_text__194 : (.code yJ7_fill_53178 cJ7_fill_53178 4 none : Cond) ∈ wsX11_text := rl_wsX11_text_r9 _ (List.mem_of_getElem? (i := 1) rfl)
theorem mw_X11_text__195 : (.methodLink RX4 40 yX4_readRow : Cond) ∈ wsX11_text := rl_wsX11_text_r9 _ (List.mem_of_getElem? (i := 2) rfl)
theorem mw_X11_text__196 : (.static yX4_readRow : Cond) ∈ wsX11_text := rl_wsX11_text_r9 _ (List.mem_of_getElem? (i := 3) rfl)
theorem mw_X11_text__197 : (.code yX4_readRow cX4_readRow 5 (some .boolean) : Cond) ∈ wsX11_text := rl_wsX11_text_r9 _ (List.mem_of_getElem? (i := 4) rfl)
theorem mw_X11_text__198 : (.methodLink RX4 44 yX4_addRow : Cond) ∈ wsX11_text := rl_wsX11_text_r9 _ (List.mem_of_getElem? (i := 5) rfl)
theorem mw_X11_text__199 : (.instanceMethod yX4_addRow : Cond) ∈ wsX11_text := rl_wsX11_text_r9 _ (List.mem_of_getElem? (i := 6) rfl)
theorem mw_X11_text__200 : (.selects RX4 yX4_addRow yX4_addRow : Cond) ∈ wsX11_text := rl_wsX11_text_r9 _ (List.mem_of_getElem? (i := 7) rfl)
theorem mw_X11_text__201 : (.code yX4_addRow cX4_addRow 3 none : Cond) ∈ wsX11_text := rl_wsX11_text_r9 _ (List.mem_of_getElem? (i := 8) rfl)
theorem mw_X11_text__202 : (.fieldLink RX4 9 "BallPots$Ranks" "groupOf" "[I" : Cond) ∈ wsX11_text := rl_wsX11_text_r9 _ (List.mem_of_getElem? (i := 9) rfl)
theorem mw_X11_text__203 : (.fieldLink RX4 15 "BallPots$Ranks" "placeIn" "[I" : Cond) ∈ wsX11_text := rl_wsX11_text_r9 _ (List.mem_of_getElem? (i := 10) rfl)
theorem mw_X11_text__204 : (.methodLink RX4 50 yX4_setSwaps : Cond) ∈ wsX11_text := rl_wsX11_text_r9 _ (List.mem_of_getElem? (i := 11) rfl)
theorem mw_X11_text__205 : (.instanceMethod yX4_setSwaps : Cond) ∈ wsX11_text := rl_wsX11_text_r9 _ (List.mem_of_getElem? (i := 12) rfl)
theorem mw_X11_text__206 : (.selects RX4 yX4_setSwaps yX4_setSwaps : Cond) ∈ wsX11_text := rl_wsX11_text_r9 _ (List.mem_of_getElem? (i := 13) rfl)
theorem mw_X11_text__207 : (.code yX4_setSwaps cX4_setSwaps 5 none : Cond) ∈ wsX11_text := rl_wsX11_text_r9 _ (List.mem_of_getElem? (i := 14) rfl)
theorem mw_X11_text__208 : (.fieldLink RX4 21 "BallPots$Ranks" "swapped" "[I" : Cond) ∈ wsX11_text := rl_wsX11_text_r9 _ (List.mem_of_getElem? (i := 15) rfl)
theorem mw_X11_text__209 : (.fieldLink RX4 58 "BallPots$Ranks" "swapsAPot" "I" : Cond) ∈ wsX11_text := rl_wsX11_text_r9 _ (List.mem_of_getElem? (i := 16) rfl)
theorem mw_X11_text__210 : (.methodLink RX4 54 yX4_rankWithSwapped : Cond) ∈ wsX11_text := rl_wsX11_text_r9 _ (List.mem_of_getElem? (i := 17) rfl)
theorem mw_X11_text__211 : (.instanceMethod yX4_rankWithSwapped : Cond) ∈ wsX11_text := rl_wsX11_text_r9 _ (List.mem_of_getElem? (i := 18) rfl)
theorem mw_X11_text__212 : (.selects RX4 yX4_rankWithSwapped yX4_rankWithSwapped : Cond) ∈ wsX11_text := rl_wsX11_text_r9 _ (List.mem_of_getElem? (i := 19) rfl)
theorem mw_X11_text__213 : (.code yX4_rankWithSwapped cX4_rankWithSwapped 8 (some .int) : Cond) ∈ wsX11_text := rl_wsX11_text_r9 _ (List.mem_of_getElem? (i := 20) rfl)
theorem mw_X11_text__214 : (.methodLink RX4 61 yX4_groupAt : Cond) ∈ wsX11_text := rl_wsX11_text_r9 _ (List.mem_of_getElem? (i := 21) rfl)
theorem mw_X11_text__215 : (.instanceMethod yX4_groupAt : Cond) ∈ wsX11_text := rl_wsX11_text_r9 _ (List.mem_of_getElem? (i := 22) rfl)
theorem mw_X11_text__216 : (.selects RX4 yX4_groupAt yX4_groupAt : Cond) ∈ wsX11_text := rl_wsX11_text_r9 _ (List.mem_of_getElem? (i := 23) rfl)
theorem mw_X11_text__217 : (.code yX4_groupAt cX4_groupAt 3 (some .int) : Cond) ∈ wsX11_text := rl_wsX11_text_r10 _ (List.mem_of_getElem? (i := 0) rfl)
theorem mw_X11_text__218 : (.methodLink RX4 65 yX4_only : Cond) ∈ wsX11_text := rl_wsX11_text_r10 _ (List.mem_of_getElem? (i := 1) rfl)
theorem mw_X11_text__219 : (.static yX4_only : Cond) ∈ wsX11_text := rl_wsX11_text_r10 _ (List.mem_of_getElem? (i := 2) rfl)
theorem mw_X11_text__220 : (.code yX4_only cX4_only 1 (some .int) : Cond) ∈ wsX11_text := rl_wsX11_text_r10 _ (List.mem_of_getElem? (i := 3) rfl)
theorem mw_X11_text__221 : (.methodLink RX4 69 yJ6_bitCount_0f7a4 : Cond) ∈ wsX11_text := rl_wsX11_text_r10 _ (List.mem_of_getElem? (i := 4) rfl)
theorem mw_X11_text__222 : (.static yJ6_bitCount_0f7a4 : Cond) ∈ wsX11_text := rl_wsX11_text_r10 _ (List.mem_of_getElem? (i := 5) rfl)
theorem mw_X11_text__223 : (.initialized RJ6 : Cond) ∈ wsX11_text := rl_wsX11_text_r10 _ (List.mem_of_getElem? (i := 6) rfl)
theorem mw_X11_text__224 : (.code yJ6_bitCount_0f7a4 cJ6_bitCount_0f7a4 1 (some .int) : Cond) ∈ wsX11_text := rl_wsX11_text_r10 _ (List.mem_of_getElem? (i := 7) rfl)
theorem mw_X11_text__225 : (.constant RJ6 265 (1431655765) : Cond) ∈ wsX11_text := rl_wsX11_text_r10 _ (List.mem_of_getElem? (i := 8) rfl)
theorem mw_X11_text__226 : (.constant RJ6 266 (858993459) : Cond) ∈ wsX11_text := rl_wsX11_text_r10 _ (List.mem_of_getElem? (i := 9) rfl)
theorem mw_X11_text__227 : (.constant RJ6 267 (252645135) : Cond) ∈ wsX11_text := rl_wsX11_text_r10 _ (List.mem_of_getElem? (i := 10) rfl)
theorem mw_X11_text__228 : (.methodLink RX11 139 yX2_renew : Cond) ∈ wsX11_text := rl_wsX11_text_r10 _ (List.mem_of_getElem? (i := 11) rfl)
theorem mw_X11_text__229 : (.instanceMethod yX2_renew : Cond) ∈ wsX11_text := rl_wsX11_text_r10 _ (List.mem_of_getElem? (i := 12) rfl)
theorem mw_X11_text__230 : (.selects RX2 yX2_renew yX2_renew : Cond) ∈ wsX11_text := rl_wsX11_text_r10 _ (List.mem_of_getElem? (i := 13) rfl)
theorem mw_X11_text__231 : (.initialized RX2 : Cond) ∈ wsX11_text := rl_wsX11_text_r10 _ (List.mem_of_getElem? (i := 14) rfl)
theorem mw_X11_text__232 : (.code yX2_renew cX2_renew 2 none : Cond) ∈ wsX11_text := rl_wsX11_text_r10 _ (List.mem_of_getElem? (i := 15) rfl)
theorem mw_X11_text__233 : (.fieldLink RX2 38 "BallPots$Draws" "total" "I" : Cond) ∈ wsX11_text := rl_wsX11_text_r10 _ (List.mem_of_getElem? (i := 16) rfl)
theorem mw_X11_text__234 : (.fieldLink RX2 30 "BallPots$Draws" "plan" "LBallPots$Plan;" : Cond) ∈ wsX11_text := rl_wsX11_text_r10 _ (List.mem_of_getElem? (i := 17) rfl)
theorem mw_X11_text__235 : (.fieldLink RX2 9 "BallPots$Draws" "step" "[I" : Cond) ∈ wsX11_text := rl_wsX11_text_r10 _ (List.mem_of_getElem? (i := 18) rfl)
theorem mw_X11_text__236 : (.fieldLink RX2 34 "BallPots$Draws" "ranks" "LBallPots$Ranks;" : Cond) ∈ wsX11_text := rl_wsX11_text_r10 _ (List.mem_of_getElem? (i := 19) rfl)
theorem mw_X11_text__237 : (.fieldLink RX2 15 "BallPots$Draws" "broken" "[I" : Cond) ∈ wsX11_text := rl_wsX11_text_r10 _ (List.mem_of_getElem? (i := 20) rfl)
theorem mw_X11_text__238 : (.arrayClass .int : Cond) ∈ wsX11_text := rl_wsX11_text_r10 _ (List.mem_of_getElem? (i := 21) rfl)
theorem mw_X11_text__239 : (.fieldLink RX2 18 "BallPots$Draws" "lawfulCodes" "[I" : Cond) ∈ wsX11_text := rl_wsX11_text_r10 _ (List.mem_of_getElem? (i := 22) rfl)
theorem mw_X11_text__240 : (.methodLink RX2 52 yJ7_fill_fda19 : Cond) ∈ wsX11_text := rl_wsX11_text_r10 _ (List.mem_of_getElem? (i := 23) rfl)
theorem mw_X11_text__241 : (.static yJ7_fill_fda19 : Cond) ∈ wsX11_text := rl_wsX11_text_r11 _ (List.mem_of_getElem? (i := 0) rfl)
theorem mw_X11_text__242 : (.code yJ7_fill_fda19 cJ7_fill_fda19 5 none : Cond) ∈ wsX11_text := rl_wsX11_text_r11 _ (List.mem_of_getElem? (i := 1) rfl)
theorem mw_X11_text__243 : (.methodLink RJ7 13 yJ7_rangeCheck_23922 : Cond) ∈ wsX11_text := rl_wsX11_text_r11 _ (List.mem_of_getElem? (i := 2) rfl)
theorem mw_X11_text__244 : (.static yJ7_rangeCheck_23922 : Cond) ∈ wsX11_text := rl_wsX11_text_r11 _ (List.mem_of_getElem? (i := 3) rfl)
theorem mw_X11_text__245 : (.code yJ7_rangeCheck_23922 cJ7_rangeCheck_23922 3 none : Cond) ∈ wsX11_text := rl_wsX11_text_r11 _ (List.mem_of_getElem? (i := 4) rfl)
theorem mw_X11_text__246 : (.classLink RJ7 68 RJx00060 : Cond) ∈ wsX11_text := rl_wsX11_text_r11 _ (List.mem_of_getElem? (i := 5) rfl)
theorem mw_X11_text__247 : (.instantiable RJx00060 6 : Cond) ∈ wsX11_text := rl_wsX11_text_r11 _ (List.mem_of_getElem? (i := 6) rfl)
theorem mw_X11_text__248 : (.initialized RJx00060 : Cond) ∈ wsX11_text := rl_wsX11_text_r11 _ (List.mem_of_getElem? (i := 7) rfl)
theorem mw_X11_text__249 : (.methodLink RX2 64 yX2_tellHeld : Cond) ∈ wsX11_text := rl_wsX11_text_r11 _ (List.mem_of_getElem? (i := 8) rfl)
theorem mw_X11_text__250 : (.instanceMethod yX2_tellHeld : Cond) ∈ wsX11_text := rl_wsX11_text_r11 _ (List.mem_of_getElem? (i := 9) rfl)
theorem mw_X11_text__251 : (.selects RX2 yX2_tellHeld yX2_tellHeld : Cond) ∈ wsX11_text := rl_wsX11_text_r11 _ (List.mem_of_getElem? (i := 10) rfl)
theorem mw_X11_text__252 : (.code yX2_tellHeld cX2_tellHeld 7 none : Cond) ∈ wsX11_text := rl_wsX11_text_r11 _ (List.mem_of_getElem? (i := 11) rfl)
theorem mw_X11_text__253 : (.fieldLink RX2 27 "BallPots$Draws" "held" "[I" : Cond) ∈ wsX11_text := rl_wsX11_text_r11 _ (List.mem_of_getElem? (i := 12) rfl)
theorem mw_X11_text__254 : (.methodLink RX2 84 yX4_groupAt : Cond) ∈ wsX11_text := rl_wsX11_text_r11 _ (List.mem_of_getElem? (i := 13) rfl)
theorem mw_X11_text__255 : (.methodLink RX2 71 yX2_breakBar : Cond) ∈ wsX11_text := rl_wsX11_text_r11 _ (List.mem_of_getElem? (i := 14) rfl)
theorem mw_X11_text__256 : (.instanceMethod yX2_breakBar : Cond) ∈ wsX11_text := rl_wsX11_text_r11 _ (List.mem_of_getElem? (i := 15) rfl)
theorem mw_X11_text__257 : (.selects RX2 yX2_breakBar yX2_breakBar : Cond) ∈ wsX11_text := rl_wsX11_text_r11 _ (List.mem_of_getElem? (i := 16) rfl)
theorem mw_X11_text__258 : (.code yX2_breakBar cX2_breakBar 8 none : Cond) ∈ wsX11_text := rl_wsX11_text_r11 _ (List.mem_of_getElem? (i := 17) rfl)
theorem mw_X11_text__259 : (.constant RX2 91 (34952) : Cond) ∈ wsX11_text := rl_wsX11_text_r11 _ (List.mem_of_getElem? (i := 18) rfl)
theorem mw_X11_text__260 : (.methodLink RX2 88 yX2_rankIn : Cond) ∈ wsX11_text := rl_wsX11_text_r11 _ (List.mem_of_getElem? (i := 19) rfl)
theorem mw_X11_text__261 : (.instanceMethod yX2_rankIn : Cond) ∈ wsX11_text := rl_wsX11_text_r11 _ (List.mem_of_getElem? (i := 20) rfl)
theorem mw_X11_text__262 : (.selects RX2 yX2_rankIn yX2_rankIn : Cond) ∈ wsX11_text := rl_wsX11_text_r11 _ (List.mem_of_getElem? (i := 21) rfl)
theorem mw_X11_text__263 : (.code yX2_rankIn cX2_rankIn 5 (some .int) : Cond) ∈ wsX11_text := rl_wsX11_text_r11 _ (List.mem_of_getElem? (i := 22) rfl)
theorem mw_X11_text__264 : (.methodLink RX2 75 yX2_listLawful : Cond) ∈ wsX11_text := rl_wsX11_text_r11 _ (List.mem_of_getElem? (i := 23) rfl)
theorem mw_X11_text__265 : (.instanceMethod yX2_listLawful : Cond) ∈ wsX11_text := rl_wsX11_text_r12 _ (List.mem_of_getElem? (i := 0) rfl)
theorem mw_X11_text__266 : (.selects RX2 yX2_listLawful yX2_listLawful : Cond) ∈ wsX11_text := rl_wsX11_text_r12 _ (List.mem_of_getElem? (i := 1) rfl)
theorem mw_X11_text__267 : (.code yX2_listLawful cX2_listLawful 2 none : Cond) ∈ wsX11_text := rl_wsX11_text_r12 _ (List.mem_of_getElem? (i := 2) rfl)
theorem mw_X11_text__268 : (.fieldLink RX2 92 "BallPots$Draws" "lawfulOnes" "I" : Cond) ∈ wsX11_text := rl_wsX11_text_r12 _ (List.mem_of_getElem? (i := 3) rfl)
theorem mw_X11_text__269 : (.methodLink RX2 78 yX2_tellWithin : Cond) ∈ wsX11_text := rl_wsX11_text_r12 _ (List.mem_of_getElem? (i := 4) rfl)
theorem mw_X11_text__270 : (.instanceMethod yX2_tellWithin : Cond) ∈ wsX11_text := rl_wsX11_text_r12 _ (List.mem_of_getElem? (i := 5) rfl)
theorem mw_X11_text__271 : (.selects RX2 yX2_tellWithin yX2_tellWithin : Cond) ∈ wsX11_text := rl_wsX11_text_r12 _ (List.mem_of_getElem? (i := 6) rfl)
theorem mw_X11_text__272 : (.code yX2_tellWithin cX2_tellWithin 2 none : Cond) ∈ wsX11_text := rl_wsX11_text_r12 _ (List.mem_of_getElem? (i := 7) rfl)
theorem mw_X11_text__273 : (.fieldLink RX2 21 "BallPots$Draws" "within" "[I" : Cond) ∈ wsX11_text := rl_wsX11_text_r12 _ (List.mem_of_getElem? (i := 8) rfl)
theorem mw_X11_text__274 : (.methodLink RX2 95 yJ7_fill_53178 : Cond) ∈ wsX11_text := rl_wsX11_text_r12 _ (List.mem_of_getElem? (i := 9) rfl)
theorem mw_X11_text__275 : (.methodLink RX2 98 yX2_addUp : Cond) ∈ wsX11_text := rl_wsX11_text_r12 _ (List.mem_of_getElem? (i := 10) rfl)
theorem mw_X11_text__276 : (.static yX2_addUp : Cond) ∈ wsX11_text := rl_wsX11_text_r12 _ (List.mem_of_getElem? (i := 11) rfl)
theorem mw_X11_text__277 : (.code yX2_addUp cX2_addUp 5 none : Cond) ∈ wsX11_text := rl_wsX11_text_r12 _ (List.mem_of_getElem? (i := 12) rfl)
theorem mw_X11_text__278 : (.methodLink RX11 142 yX8_putInTurn : Cond) ∈ wsX11_text := rl_wsX11_text_r12 _ (List.mem_of_getElem? (i := 13) rfl)
theorem mw_X11_text__279 : (.instanceMethod yX8_putInTurn : Cond) ∈ wsX11_text := rl_wsX11_text_r12 _ (List.mem_of_getElem? (i := 14) rfl)
theorem mw_X11_text__280 : (.selects RX8 yX8_putInTurn yX8_putInTurn : Cond) ∈ wsX11_text := rl_wsX11_text_r12 _ (List.mem_of_getElem? (i := 15) rfl)
theorem mw_X11_text__281 : (.initialized RX8 : Cond) ∈ wsX11_text := rl_wsX11_text_r12 _ (List.mem_of_getElem? (i := 16) rfl)
theorem mw_X11_text__282 : (.code yX8_putInTurn cX8_putInTurn 1 none : Cond) ∈ wsX11_text := rl_wsX11_text_r12 _ (List.mem_of_getElem? (i := 17) rfl)
theorem mw_X11_text__283 : (.fieldLink RX8 9 "BallPots$Stage" "potAt" "[I" : Cond) ∈ wsX11_text := rl_wsX11_text_r12 _ (List.mem_of_getElem? (i := 18) rfl)
theorem mw_X11_text__284 : (.methodLink RX8 38 arraycopyName : Cond) ∈ wsX11_text := rl_wsX11_text_r12 _ (List.mem_of_getElem? (i := 19) rfl)
theorem mw_X11_text__285 : (.fieldLink RX8 15 "BallPots$Stage" "groupAt" "[I" : Cond) ∈ wsX11_text := rl_wsX11_text_r12 _ (List.mem_of_getElem? (i := 20) rfl)
theorem mw_X11_text__286 : (.methodLink RX8 44 yX8_empty : Cond) ∈ wsX11_text := rl_wsX11_text_r12 _ (List.mem_of_getElem? (i := 21) rfl)
theorem mw_X11_text__287 : (.instanceMethod yX8_empty : Cond) ∈ wsX11_text := rl_wsX11_text_r12 _ (List.mem_of_getElem? (i := 22) rfl)
theorem mw_X11_text__288 : (.selects RX8 yX8_empty yX8_empty : Cond) ∈ wsX11_text := rl_wsX11_text_r12 _ (List.mem_of_getElem? (i := 23) rfl)
theorem mw_X11_text__289 : (.code yX8_empty cX8_empty 1 none : Cond) ∈ wsX11_text := rl_wsX11_text_r13 _ (List.mem_of_getElem? (i := 0) rfl)
theorem mw_X11_text__290 : (.fieldLink RX8 47 "BallPots$Stage" "out" "I" : Cond) ∈ wsX11_text := rl_wsX11_text_r13 _ (List.mem_of_getElem? (i := 1) rfl)
theorem mw_X11_text__291 : (.fieldLink RX8 18 "BallPots$Stage" "groupOf" "[I" : Cond) ∈ wsX11_text := rl_wsX11_text_r13 _ (List.mem_of_getElem? (i := 2) rfl)
theorem mw_X11_text__292 : (.methodLink RX8 51 yJ7_fill_53178 : Cond) ∈ wsX11_text := rl_wsX11_text_r13 _ (List.mem_of_getElem? (i := 3) rfl)
theorem mw_X11_text__293 : (.methodLink RX11 151 yX9_forget : Cond) ∈ wsX11_text := rl_wsX11_text_r13 _ (List.mem_of_getElem? (i := 4) rfl)
theorem mw_X11_text__294 : (.instanceMethod yX9_forget : Cond) ∈ wsX11_text := rl_wsX11_text_r13 _ (List.mem_of_getElem? (i := 5) rfl)
theorem mw_X11_text__295 : (.selects RX9 yX9_forget yX9_forget : Cond) ∈ wsX11_text := rl_wsX11_text_r13 _ (List.mem_of_getElem? (i := 6) rfl)
theorem mw_X11_text__296 : (.initialized RX9 : Cond) ∈ wsX11_text := rl_wsX11_text_r13 _ (List.mem_of_getElem? (i := 7) rfl)
theorem mw_X11_text__297 : (.code yX9_forget cX9_forget 1 none : Cond) ∈ wsX11_text := rl_wsX11_text_r13 _ (List.mem_of_getElem? (i := 8) rfl)
theorem mw_X11_text__298 : (.fieldLink RX9 18 "BallPots$Swaps" "done" "I" : Cond) ∈ wsX11_text := rl_wsX11_text_r13 _ (List.mem_of_getElem? (i := 9) rfl)
theorem mw_X11_text__299 : (.fieldLink RX9 33 "BallPots$Swaps" "partsFresh" "Z" : Cond) ∈ wsX11_text := rl_wsX11_text_r13 _ (List.mem_of_getElem? (i := 10) rfl)
theorem mw_X11_text__300 : (.methodLink RX11 154 yX11_startChanged : Cond) ∈ wsX11_text := rl_wsX11_text_r13 _ (List.mem_of_getElem? (i := 11) rfl)
theorem mw_X11_text__301 : (.instanceMethod yX11_startChanged : Cond) ∈ wsX11_text := rl_wsX11_text_r13 _ (List.mem_of_getElem? (i := 12) rfl)
theorem mw_X11_text__302 : (.selects RX11 yX11_startChanged yX11_startChanged : Cond) ∈ wsX11_text := rl_wsX11_text_r13 _ (List.mem_of_getElem? (i := 13) rfl)
theorem mw_X11_text__303 : (.code yX11_startChanged cX11_startChanged 1 none : Cond) ∈ wsX11_text := rl_wsX11_text_r13 _ (List.mem_of_getElem? (i := 14) rfl)
theorem mw_X11_text__304 : (.methodLink RX11 157 yX11_stageChanged : Cond) ∈ wsX11_text := rl_wsX11_text_r13 _ (List.mem_of_getElem? (i := 15) rfl)
theorem mw_X11_text__305 : (.instanceMethod yX11_stageChanged : Cond) ∈ wsX11_text := rl_wsX11_text_r13 _ (List.mem_of_getElem? (i := 16) rfl)
theorem mw_X11_text__306 : (.selects RX11 yX11_stageChanged yX11_stageChanged : Cond) ∈ wsX11_text := rl_wsX11_text_r13 _ (List.mem_of_getElem? (i := 17) rfl)
theorem mw_X11_text__307 : (.code yX11_stageChanged cX11_stageChanged 2 none : Cond) ∈ wsX11_text := rl_wsX11_text_r13 _ (List.mem_of_getElem? (i := 18) rfl)
theorem mw_X11_text__308 : (.fieldLink RX11 82 "BallPots" "fromNow" "[LBallPots$Chances;" : Cond) ∈ wsX11_text := rl_wsX11_text_r13 _ (List.mem_of_getElem? (i := 19) rfl)
theorem mw_X11_treeOfNow__1 : (.fieldLink RX11 57 "BallPots" "treeNow" "LBallPots$Tree;" : Cond) ∈ wsX11_treeOfNow := rl_wsX11_treeOfNow_r1 _ (List.mem_of_getElem? (i := 0) rfl)
theorem mw_X11_treeOfNow__2 : (.fieldLink RX11 48 "BallPots" "stage" "LBallPots$Stage;" : Cond) ∈ wsX11_treeOfNow := rl_wsX11_treeOfNow_r1 _ (List.mem_of_getElem? (i := 1) rfl)
theorem mw_X11_treeOfNow__3 : (.methodLink RX11 224 yX10_build : Cond) ∈ wsX11_treeOfNow := rl_wsX11_treeOfNow_r1 _ (List.mem_of_getElem? (i := 2) rfl)
theorem mw_X11_treeOfNow__4 : (.instanceMethod yX10_build : Cond) ∈ wsX11_treeOfNow := rl_wsX11_treeOfNow_r1 _ (List.mem_of_getElem? (i := 3) rfl)
theorem mw_X11_treeOfNow__5 : (.selects RX10 yX10_build yX10_build : Cond) ∈ wsX11_treeOfNow := rl_wsX11_treeOfNow_r1 _ (List.mem_of_getElem? (i := 4) rfl)
theorem mw_X11_treeOfNow__6 : (.initialized RX10 : Cond) ∈ wsX11_treeOfNow := rl_wsX11_treeOfNow_r1 _ (List.mem_of_getElem? (i := 5) rfl)
theorem mw_X11_treeOfNow__7 : (.code yX10_build cX10_build 5 none : Cond) ∈ wsX11_treeOfNow := rl_wsX11_treeOfNow_r1 _ (List.mem_of_getElem? (i := 6) rfl)
theorem mw_X11_treeOfNow__8 : (.fieldLink RX10 18 "BallPots$Tree" "potAt" "[I" : Cond) ∈ wsX11_treeOfNow := rl_wsX11_treeOfNow_r1 _ (List.mem_of_getElem? (i := 7) rfl)
theorem mw_X11_treeOfNow__9 : (.methodLink RX10 25 arraycopyName : Cond) ∈ wsX11_treeOfNow := rl_wsX11_treeOfNow_r1 _ (List.mem_of_getElem? (i := 8) rfl)
theorem mw_X11_treeOfNow__10 : (.native arraycopyName : Cond) ∈ wsX11_treeOfNow := rl_wsX11_treeOfNow_r1 _ (List.mem_of_getElem? (i := 9) rfl)
theorem mw_X11_treeOfNow__11 : (.static arraycopyName : Cond) ∈ wsX11_treeOfNow := rl_wsX11_treeOfNow_r1 _ (List.mem_of_getElem? (i := 10) rfl)
theorem mw_X11_treeOfNow__12 : (.initialized "java/lang/System" : Cond) ∈ wsX11_treeOfNow := rl_wsX11_treeOfNow_r1 _ (List.mem_of_getElem? (i := 11) rfl)
theorem mw_X11_treeOfNow__13 : (.fieldLink RX10 21 "BallPots$Tree" "draws" "LBallPots$Draws;" : Cond) ∈ wsX11_treeOfNow := rl_wsX11_treeOfNow_r1 _ (List.mem_of_getElem? (i := 12) rfl)
theorem mw_X11_treeOfNow__14 : (.fieldLink RX10 15 "BallPots$Tree" "from" "[I" : Cond) ∈ wsX11_treeOfNow := rl_wsX11_treeOfNow_r1 _ (List.mem_of_getElem? (i := 13) rfl)
theorem mw_X11_treeOfNow__15 : (.fieldLink RX10 59 "BallPots$Tree" "fresh" "Z" : Cond) ∈ wsX11_treeOfNow := rl_wsX11_treeOfNow_r1 _ (List.mem_of_getElem? (i := 14) rfl)
theorem mw_X11_treeOfNow__16 : (.methodLink RX10 52 yX10_fillLast : Cond) ∈ wsX11_treeOfNow := rl_wsX11_treeOfNow_r1 _ (List.mem_of_getElem? (i := 15) rfl)
theorem mw_X11_treeOfNow__17 : (.instanceMethod yX10_fillLast : Cond) ∈ wsX11_treeOfNow := rl_wsX11_treeOfNow_r1 _ (List.mem_of_getElem? (i := 16) rfl)
theorem mw_X11_treeOfNow__18 : (.selects RX10 yX10_fillLast yX10_fillLast : Cond) ∈ wsX11_treeOfNow := rl_wsX11_treeOfNow_r1 _ (List.mem_of_getElem? (i := 17) rfl)
theorem mw_X11_treeOfNow__19 : (.code yX10_fillLast cX10_fillLast 8 none : Cond) ∈ wsX11_treeOfNow := rl_wsX11_treeOfNow_r1 _ (List.mem_of_getElem? (i := 18) rfl)
theorem mw_X11_treeOfNow__20 : (.fieldLink RX10 11 "BallPots$Tree" "sets" "[I" : Cond) ∈ wsX11_treeOfNow := rl_wsX11_treeOfNow_r1 _ (List.mem_of_getElem? (i := 19) rfl)
theorem mw_X11_treeOfNow__21 : (.methodLink RX10 66 yX10_codeOf : Cond) ∈ wsX11_treeOfNow := rl_wsX11_treeOfNow_r1 _ (List.mem_of_getElem? (i := 20) rfl)
theorem mw_X11_treeOfNow__22 : (.instanceMethod yX10_codeOf : Cond) ∈ wsX11_treeOfNow := rl_wsX11_treeOfNow_r1 _ (List.mem_of_getElem? (i := 21) rfl)
theorem mw_X11_treeOfNow__23 : (.selects RX10 yX10_codeOf yX10_codeOf : Cond) ∈ wsX11_treeOfNow := rl_wsX11_treeOfNow_r1 _ (List.mem_of_getElem? (i := 22) rfl)
theorem mw_X11_treeOfNow__24 : (.code yX10_codeOf cX10_codeOf 7 (some .int) : Cond) ∈ wsX11_treeOfNow := rl_wsX11_treeOfNow_r1 _ (List.mem_of_getElem? (i := 23) rfl)
theorem mw_X11_treeOfNow__25 : (.methodLink RX10 55 yX10_fillFromNext : Cond) ∈ wsX11_treeOfNow := rl_wsX11_treeOfNow_r2 _ (List.mem_of_getElem? (i := 0) rfl)
theorem mw_X11_treeOfNow__26 : (.instanceMethod yX10_fillFromNext : Cond) ∈ wsX11_treeOfNow := rl_wsX11_treeOfNow_r2 _ (List.mem_of_getElem? (i := 1) rfl)
theorem mw_X11_treeOfNow__27 : (.selects RX10 yX10_fillFromNext yX10_fillFromNext : Cond) ∈ wsX11_treeOfNow := rl_wsX11_treeOfNow_r2 _ (List.mem_of_getElem? (i := 2) rfl)
theorem mw_X11_treeOfNow__28 : (.code yX10_fillFromNext cX10_fillFromNext 7 none : Cond) ∈ wsX11_treeOfNow := rl_wsX11_treeOfNow_r2 _ (List.mem_of_getElem? (i := 3) rfl)
theorem mw_X11_without__1 : (.fieldLink RX11 41 "BallPots" "draws" "LBallPots$Draws;" : Cond) ∈ wsX11_without := List.mem_of_getElem? (i := 1) rfl
theorem mw_X11_without__2 : (.methodLink RX11 172 yX11_isBar : Cond) ∈ wsX11_without := List.mem_of_getElem? (i := 2) rfl
theorem mw_X11_without__3 : (.instanceMethod yX11_isBar : Cond) ∈ wsX11_without := List.mem_of_getElem? (i := 3) rfl
theorem mw_X11_without__4 : (.selects RX11 yX11_isBar yX11_isBar : Cond) ∈ wsX11_without := List.mem_of_getElem? (i := 4) rfl
theorem mw_X11_without__5 : (.initialized RX11 : Cond) ∈ wsX11_without := List.mem_of_getElem? (i := 5) rfl
theorem mw_X11_without__6 : (.code yX11_isBar cX11_isBar 2 (some .boolean) : Cond) ∈ wsX11_without := List.mem_of_getElem? (i := 6) rfl
theorem mw_X11_without__7 : (.fieldLink RX11 16 "BallPots" "plan" "LBallPots$Plan;" : Cond) ∈ wsX11_without := List.mem_of_getElem? (i := 7) rfl
theorem mw_X2_breakBar__1 : (.fieldLink RX2 30 "BallPots$Draws" "plan" "LBallPots$Plan;" : Cond) ∈ wsX2_breakBar := List.mem_of_getElem? (i := 1) rfl
theorem mw_X2_breakBar__2 : (.fieldLink RX2 34 "BallPots$Draws" "ranks" "LBallPots$Ranks;" : Cond) ∈ wsX2_breakBar := List.mem_of_getElem? (i := 2) rfl
theorem mw_X2_breakBar__3 : (.fieldLink RX2 38 "BallPots$Draws" "total" "I" : Cond) ∈ wsX2_breakBar := List.mem_of_getElem? (i := 3) rfl
theorem mw_X2_breakBar__4 : (.fieldLink RX2 27 "BallPots$Draws" "held" "[I" : Cond) ∈ wsX2_breakBar := List.mem_of_getElem? (i := 4) rfl
theorem mw_X2_breakBar__5 : (.constant RX2 91 (34952) : Cond) ∈ wsX2_breakBar := List.mem_of_getElem? (i := 5) rfl
theorem mw_X2_breakBar__6 : (.fieldLink RX2 15 "BallPots$Draws" "broken" "[I" : Cond) ∈ wsX2_breakBar := List.mem_of_getElem? (i := 6) rfl
theorem mw_X2_breakBar__7 : (.methodLink RX2 88 yX2_rankIn : Cond) ∈ wsX2_breakBar := List.mem_of_getElem? (i := 7) rfl
theorem mw_X2_breakBar__8 : (.instanceMethod yX2_rankIn : Cond) ∈ wsX2_breakBar := List.mem_of_getElem? (i := 8) rfl
theorem mw_X2_breakBar__9 : (.selects RX2 yX2_rankIn yX2_rankIn : Cond) ∈ wsX2_breakBar := List.mem_of_getElem? (i := 9) rfl
theorem mw_X2_breakBar__10 : (.initialized RX2 : Cond) ∈ wsX2_breakBar := List.mem_of_getElem? (i := 10) rfl
theorem mw_X2_breakBar__11 : (.code yX2_rankIn cX2_rankIn 5 (some .int) : Cond) ∈ wsX2_breakBar := List.mem_of_getElem? (i := 11) rfl
theorem mw_X2_breakBar__12 : (.fieldLink RX2 9 "BallPots$Draws" "step" "[I" : Cond) ∈ wsX2_breakBar := List.mem_of_getElem? (i := 12) rfl
theorem mw_X2_fewest__1 : (.methodLink RX2 101 yJ6_bitCount_0f7a4 : Cond) ∈ wsX2_fewest := List.mem_of_getElem? (i := 1) rfl
theorem mw_X2_fewest__2 : (.static yJ6_bitCount_0f7a4 : Cond) ∈ wsX2_fewest := List.mem_of_getElem? (i := 2) rfl
theorem mw_X2_fewest__3 : (.initialized RJ6 : Cond) ∈ wsX2_fewest := List.mem_of_getElem? (i := 3) rfl
theorem mw_X2_fewest__4 : (.code yJ6_bitCount_0f7a4 cJ6_bitCount_0f7a4 1 (some .int) : Cond) ∈ wsX2_fewest := List.mem_of_getElem? (i := 4) rfl
theorem mw_X2_fewest__5 : (.constant RJ6 265 (1431655765) : Cond) ∈ wsX2_fewest := List.mem_of_getElem? (i := 5) rfl
theorem mw_X2_fewest__6 : (.constant RJ6 266 (858993459) : Cond) ∈ wsX2_fewest := List.mem_of_getElem? (i := 6) rfl
theorem mw_X2_fewest__7 : (.constant RJ6 267 (252645135) : Cond) ∈ wsX2_fewest := List.mem_of_getElem? (i := 7) rfl
theorem mw_X2_groupIn__1 : (.fieldLink RX2 34 "BallPots$Draws" "ranks" "LBallPots$Ranks;" : Cond) ∈ wsX2_groupIn := List.mem_of_getElem? (i := 1) rfl
theorem mw_X2_groupIn__2 : (.fieldLink RX2 30 "BallPots$Draws" "plan" "LBallPots$Plan;" : Cond) ∈ wsX2_groupIn := List.mem_of_getElem? (i := 2) rfl
theorem mw_X2_groupIn__3 : (.methodLink RX2 115 yX3_potOf : Cond) ∈ wsX2_groupIn := List.mem_of_getElem? (i := 3) rfl
theorem mw_X2_groupIn__4 : (.instanceMethod yX3_potOf : Cond) ∈ wsX2_groupIn := List.mem_of_getElem? (i := 4) rfl
theorem mw_X2_groupIn__5 : (.selects RX3 yX3_potOf yX3_potOf : Cond) ∈ wsX2_groupIn := List.mem_of_getElem? (i := 5) rfl
theorem mw_X2_groupIn__6 : (.initialized RX3 : Cond) ∈ wsX2_groupIn := List.mem_of_getElem? (i := 6) rfl
theorem mw_X2_groupIn__7 : (.code yX3_potOf cX3_potOf 2 (some .int) : Cond) ∈ wsX2_groupIn := List.mem_of_getElem? (i := 7) rfl
theorem mw_X2_groupIn__8 : (.fieldLink RX3 27 "BallPots$Plan" "groups" "I" : Cond) ∈ wsX2_groupIn := List.mem_of_getElem? (i := 8) rfl
theorem mw_X2_groupIn__9 : (.methodLink RX2 88 yX2_rankIn : Cond) ∈ wsX2_groupIn := List.mem_of_getElem? (i := 9) rfl
theorem mw_X2_groupIn__10 : (.instanceMethod yX2_rankIn : Cond) ∈ wsX2_groupIn := List.mem_of_getElem? (i := 10) rfl
theorem mw_X2_groupIn__11 : (.selects RX2 yX2_rankIn yX2_rankIn : Cond) ∈ wsX2_groupIn := List.mem_of_getElem? (i := 11) rfl
theorem mw_X2_groupIn__12 : (.initialized RX2 : Cond) ∈ wsX2_groupIn := List.mem_of_getElem? (i := 12) rfl
theorem mw_X2_groupIn__13 : (.code yX2_rankIn cX2_rankIn 5 (some .int) : Cond) ∈ wsX2_groupIn := List.mem_of_getElem? (i := 13) rfl
theorem mw_X2_groupIn__14 : (.fieldLink RX2 9 "BallPots$Draws" "step" "[I" : Cond) ∈ wsX2_groupIn := List.mem_of_getElem? (i := 14) rfl
theorem mw_X2_groupIn__15 : (.methodLink RX2 118 yX3_placeOf : Cond) ∈ wsX2_groupIn := List.mem_of_getElem? (i := 15) rfl
theorem mw_X2_groupIn__16 : (.instanceMethod yX3_placeOf : Cond) ∈ wsX2_groupIn := List.mem_of_getElem? (i := 16) rfl
theorem mw_X2_groupIn__17 : (.selects RX3 yX3_placeOf yX3_placeOf : Cond) ∈ wsX2_groupIn := List.mem_of_getElem? (i := 17) rfl
theorem mw_X2_groupIn__18 : (.code yX3_placeOf cX3_placeOf 2 (some .int) : Cond) ∈ wsX2_groupIn := List.mem_of_getElem? (i := 18) rfl
theorem mw_X2_groupIn__19 : (.methodLink RX2 84 yX4_groupAt : Cond) ∈ wsX2_groupIn := List.mem_of_getElem? (i := 19) rfl
theorem mw_X2_groupIn__20 : (.instanceMethod yX4_groupAt : Cond) ∈ wsX2_groupIn := List.mem_of_getElem? (i := 20) rfl
theorem mw_X2_groupIn__21 : (.selects RX4 yX4_groupAt yX4_groupAt : Cond) ∈ wsX2_groupIn := List.mem_of_getElem? (i := 21) rfl
theorem mw_X2_groupIn__22 : (.initialized RX4 : Cond) ∈ wsX2_groupIn := List.mem_of_getElem? (i := 22) rfl
theorem mw_X2_groupIn__23 : (.code yX4_groupAt cX4_groupAt 3 (some .int) : Cond) ∈ wsX2_groupIn := List.mem_of_getElem? (i := 23) rfl
theorem mw_X2_groupIn__24 : (.fieldLink RX4 9 "BallPots$Ranks" "groupOf" "[I" : Cond) ∈ wsX2_groupIn := List.mem_of_getElem? (i := 24) rfl
theorem mw_X2_listLawful__1 : (.fieldLink RX2 92 "BallPots$Draws" "lawfulOnes" "I" : Cond) ∈ wsX2_listLawful := List.mem_of_getElem? (i := 1) rfl
theorem mw_X2_listLawful__2 : (.fieldLink RX2 38 "BallPots$Draws" "total" "I" : Cond) ∈ wsX2_listLawful := List.mem_of_getElem? (i := 2) rfl
theorem mw_X2_listLawful__3 : (.fieldLink RX2 15 "BallPots$Draws" "broken" "[I" : Cond) ∈ wsX2_listLawful := List.mem_of_getElem? (i := 3) rfl
theorem mw_X2_listLawful__4 : (.fieldLink RX2 18 "BallPots$Draws" "lawfulCodes" "[I" : Cond) ∈ wsX2_listLawful := List.mem_of_getElem? (i := 4) rfl
theorem mw_X2_rankIn__1 : (.fieldLink RX2 9 "BallPots$Draws" "step" "[I" : Cond) ∈ wsX2_rankIn := List.mem_of_getElem? (i := 1) rfl
theorem mw_X2_rankIn__2 : (.fieldLink RX2 34 "BallPots$Draws" "ranks" "LBallPots$Ranks;" : Cond) ∈ wsX2_rankIn := List.mem_of_getElem? (i := 2) rfl
theorem mw_X2_renew__1 : (.fieldLink RX2 38 "BallPots$Draws" "total" "I" : Cond) ∈ wsX2_renew := rl_wsX2_renew_r1 _ (List.mem_of_getElem? (i := 0) rfl)
theorem mw_X2_renew__2 : (.fieldLink RX2 30 "BallPots$Draws" "plan" "LBallPots$Plan;" : Cond) ∈ wsX2_renew := rl_wsX2_renew_r1 _ (List.mem_of_getElem? (i := 1) rfl)
theorem mw_X2_renew__3 : (.fieldLink RX2 9 "BallPots$Draws" "step" "[I" : Cond) ∈ wsX2_renew := rl_wsX2_renew_r1 _ (List.mem_of_getElem? (i := 2) rfl)
theorem mw_X2_renew__4 : (.fieldLink RX2 34 "BallPots$Draws" "ranks" "LBallPots$Ranks;" : Cond) ∈ wsX2_renew := rl_wsX2_renew_r1 _ (List.mem_of_getElem? (i := 3) rfl)
theorem mw_X2_renew__5 : (.fieldLink RX2 15 "BallPots$Draws" "broken" "[I" : Cond) ∈ wsX2_renew := rl_wsX2_renew_r1 _ (List.mem_of_getElem? (i := 4) rfl)
theorem mw_X2_renew__6 : (.arrayClass .int : Cond) ∈ wsX2_renew := rl_wsX2_renew_r1 _ (List.mem_of_getElem? (i := 5) rfl)
theorem mw_X2_renew__7 : (.fieldLink RX2 18 "BallPots$Draws" "lawfulCodes" "[I" : Cond) ∈ wsX2_renew := rl_wsX2_renew_r1 _ (List.mem_of_getElem? (i := 6) rfl)
theorem mw_X2_renew__8 : (.methodLink RX2 52 yJ7_fill_fda19 : Cond) ∈ wsX2_renew := rl_wsX2_renew_r1 _ (List.mem_of_getElem? (i := 7) rfl)
theorem mw_X2_renew__9 : (.static yJ7_fill_fda19 : Cond) ∈ wsX2_renew := rl_wsX2_renew_r1 _ (List.mem_of_getElem? (i := 8) rfl)
theorem mw_X2_renew__10 : (.initialized RJ7 : Cond) ∈ wsX2_renew := rl_wsX2_renew_r1 _ (List.mem_of_getElem? (i := 9) rfl)
theorem mw_X2_renew__11 : (.code yJ7_fill_fda19 cJ7_fill_fda19 5 none : Cond) ∈ wsX2_renew := rl_wsX2_renew_r1 _ (List.mem_of_getElem? (i := 10) rfl)
theorem mw_X2_renew__12 : (.methodLink RJ7 13 yJ7_rangeCheck_23922 : Cond) ∈ wsX2_renew := rl_wsX2_renew_r1 _ (List.mem_of_getElem? (i := 11) rfl)
theorem mw_X2_renew__13 : (.static yJ7_rangeCheck_23922 : Cond) ∈ wsX2_renew := rl_wsX2_renew_r1 _ (List.mem_of_getElem? (i := 12) rfl)
theorem mw_X2_renew__14 : (.code yJ7_rangeCheck_23922 cJ7_rangeCheck_23922 3 none : Cond) ∈ wsX2_renew := rl_wsX2_renew_r1 _ (List.mem_of_getElem? (i := 13) rfl)
theorem mw_X2_renew__15 : (.classLink RJ7 68 RJx00060 : Cond) ∈ wsX2_renew := rl_wsX2_renew_r1 _ (List.mem_of_getElem? (i := 14) rfl)
theorem mw_X2_renew__16 : (.instantiable RJx00060 6 : Cond) ∈ wsX2_renew := rl_wsX2_renew_r1 _ (List.mem_of_getElem? (i := 15) rfl)
theorem mw_X2_renew__17 : (.initialized RJx00060 : Cond) ∈ wsX2_renew := rl_wsX2_renew_r1 _ (List.mem_of_getElem? (i := 16) rfl)
theorem mw_X2_renew__18 : (.methodLink RX2 64 yX2_tellHeld : Cond) ∈ wsX2_renew := rl_wsX2_renew_r1 _ (List.mem_of_getElem? (i := 17) rfl)
theorem mw_X2_renew__19 : (.instanceMethod yX2_tellHeld : Cond) ∈ wsX2_renew := rl_wsX2_renew_r1 _ (List.mem_of_getElem? (i := 18) rfl)
theorem mw_X2_renew__20 : (.selects RX2 yX2_tellHeld yX2_tellHeld : Cond) ∈ wsX2_renew := rl_wsX2_renew_r1 _ (List.mem_of_getElem? (i := 19) rfl)
theorem mw_X2_renew__21 : (.initialized RX2 : Cond) ∈ wsX2_renew := rl_wsX2_renew_r1 _ (List.mem_of_getElem? (i := 20) rfl)
theorem mw_X2_renew__22 : (.code yX2_tellHeld cX2_tellHeld 7 none : Cond) ∈ wsX2_renew := rl_wsX2_renew_r1 _ (List.mem_of_getElem? (i := 21) rfl)
theorem mw_X2_renew__23 : (.fieldLink RX2 27 "BallPots$Draws" "held" "[I" : Cond) ∈ wsX2_renew := rl_wsX2_renew_r1 _ (List.mem_of_getElem? (i := 22) rfl)
theorem mw_X2_renew__24 : (.methodLink RX2 84 yX4_groupAt : Cond) ∈ wsX2_renew := rl_wsX2_renew_r1 _ (List.mem_of_getElem? (i := 23) rfl)
theorem mw_X2_renew__25 : (.instanceMethod yX4_groupAt : Cond) ∈ wsX2_renew := rl_wsX2_renew_r2 _ (List.mem_of_getElem? (i := 0) rfl)
theorem mw_X2_renew__26 : (.selects RX4 yX4_groupAt yX4_groupAt : Cond) ∈ wsX2_renew := rl_wsX2_renew_r2 _ (List.mem_of_getElem? (i := 1) rfl)
theorem mw_X2_renew__27 : (.initialized RX4 : Cond) ∈ wsX2_renew := rl_wsX2_renew_r2 _ (List.mem_of_getElem? (i := 2) rfl)
theorem mw_X2_renew__28 : (.code yX4_groupAt cX4_groupAt 3 (some .int) : Cond) ∈ wsX2_renew := rl_wsX2_renew_r2 _ (List.mem_of_getElem? (i := 3) rfl)
theorem mw_X2_renew__29 : (.fieldLink RX4 9 "BallPots$Ranks" "groupOf" "[I" : Cond) ∈ wsX2_renew := rl_wsX2_renew_r2 _ (List.mem_of_getElem? (i := 4) rfl)
theorem mw_X2_renew__30 : (.methodLink RX2 71 yX2_breakBar : Cond) ∈ wsX2_renew := rl_wsX2_renew_r2 _ (List.mem_of_getElem? (i := 5) rfl)
theorem mw_X2_renew__31 : (.instanceMethod yX2_breakBar : Cond) ∈ wsX2_renew := rl_wsX2_renew_r2 _ (List.mem_of_getElem? (i := 6) rfl)
theorem mw_X2_renew__32 : (.selects RX2 yX2_breakBar yX2_breakBar : Cond) ∈ wsX2_renew := rl_wsX2_renew_r2 _ (List.mem_of_getElem? (i := 7) rfl)
theorem mw_X2_renew__33 : (.code yX2_breakBar cX2_breakBar 8 none : Cond) ∈ wsX2_renew := rl_wsX2_renew_r2 _ (List.mem_of_getElem? (i := 8) rfl)
theorem mw_X2_renew__34 : (.constant RX2 91 (34952) : Cond) ∈ wsX2_renew := rl_wsX2_renew_r2 _ (List.mem_of_getElem? (i := 9) rfl)
theorem mw_X2_renew__35 : (.methodLink RX2 88 yX2_rankIn : Cond) ∈ wsX2_renew := rl_wsX2_renew_r2 _ (List.mem_of_getElem? (i := 10) rfl)
theorem mw_X2_renew__36 : (.instanceMethod yX2_rankIn : Cond) ∈ wsX2_renew := rl_wsX2_renew_r2 _ (List.mem_of_getElem? (i := 11) rfl)
theorem mw_X2_renew__37 : (.selects RX2 yX2_rankIn yX2_rankIn : Cond) ∈ wsX2_renew := rl_wsX2_renew_r2 _ (List.mem_of_getElem? (i := 12) rfl)
theorem mw_X2_renew__38 : (.code yX2_rankIn cX2_rankIn 5 (some .int) : Cond) ∈ wsX2_renew := rl_wsX2_renew_r2 _ (List.mem_of_getElem? (i := 13) rfl)
theorem mw_X2_renew__39 : (.methodLink RX2 75 yX2_listLawful : Cond) ∈ wsX2_renew := rl_wsX2_renew_r2 _ (List.mem_of_getElem? (i := 14) rfl)
theorem mw_X2_renew__40 : (.instanceMethod yX2_listLawful : Cond) ∈ wsX2_renew := rl_wsX2_renew_r2 _ (List.mem_of_getElem? (i := 15) rfl)
theorem mw_X2_renew__41 : (.selects RX2 yX2_listLawful yX2_listLawful : Cond) ∈ wsX2_renew := rl_wsX2_renew_r2 _ (List.mem_of_getElem? (i := 16) rfl)
theorem mw_X2_renew__42 : (.code yX2_listLawful cX2_listLawful 2 none : Cond) ∈ wsX2_renew := rl_wsX2_renew_r2 _ (List.mem_of_getElem? (i := 17) rfl)
theorem mw_X2_renew__43 : (.fieldLink RX2 92 "BallPots$Draws" "lawfulOnes" "I" : Cond) ∈ wsX2_renew := rl_wsX2_renew_r2 _ (List.mem_of_getElem? (i := 18) rfl)
theorem mw_X2_renew__44 : (.methodLink RX2 78 yX2_tellWithin : Cond) ∈ wsX2_renew := rl_wsX2_renew_r2 _ (List.mem_of_getElem? (i := 19) rfl)
theorem mw_X2_renew__45 : (.instanceMethod yX2_tellWithin : Cond) ∈ wsX2_renew := rl_wsX2_renew_r2 _ (List.mem_of_getElem? (i := 20) rfl)
theorem mw_X2_renew__46 : (.selects RX2 yX2_tellWithin yX2_tellWithin : Cond) ∈ wsX2_renew := rl_wsX2_renew_r2 _ (List.mem_of_getElem? (i := 21) rfl)
theorem mw_X2_renew__47 : (.code yX2_tellWithin cX2_tellWithin 2 none : Cond) ∈ wsX2_renew := rl_wsX2_renew_r2 _ (List.mem_of_getElem? (i := 22) rfl)
theorem mw_X2_renew__48 : (.fieldLink RX2 21 "BallPots$Draws" "within" "[I" : Cond) ∈ wsX2_renew := rl_wsX2_renew_r2 _ (List.mem_of_getElem? (i := 23) rfl)
theorem mw_X2_renew__49 : (.methodLink RX2 95 yJ7_fill_53178 : Cond) ∈ wsX2_renew := rl_wsX2_renew_r3 _ (List.mem_of_getElem? (i := 0) rfl)
theorem mw_X2_renew__50 : (.static yJ7_fill_53178 : Cond) ∈ wsX2_renew := rl_wsX2_renew_r3 _ (List.mem_of_getElem? (i := 1) rfl)
theorem mw_X2_renew__51 : (.code yJ7_fill_53178 cJ7_fill_53178 4 none : Cond) ∈ wsX2_renew := rl_wsX2_renew_r3 _ (List.mem_of_getElem? (i := 2) rfl)
theorem mw_X2_renew__52 : (.methodLink RX2 98 yX2_addUp : Cond) ∈ wsX2_renew := rl_wsX2_renew_r3 _ (List.mem_of_getElem? (i := 3) rfl)
theorem mw_X2_renew__53 : (.static yX2_addUp : Cond) ∈ wsX2_renew := rl_wsX2_renew_r3 _ (List.mem_of_getElem? (i := 4) rfl)
theorem mw_X2_renew__54 : (.code yX2_addUp cX2_addUp 5 none : Cond) ∈ wsX2_renew := rl_wsX2_renew_r3 _ (List.mem_of_getElem? (i := 5) rfl)
theorem mw_X2_tellHeld__1 : (.fieldLink RX2 30 "BallPots$Draws" "plan" "LBallPots$Plan;" : Cond) ∈ wsX2_tellHeld := List.mem_of_getElem? (i := 1) rfl
theorem mw_X2_tellHeld__2 : (.fieldLink RX2 34 "BallPots$Draws" "ranks" "LBallPots$Ranks;" : Cond) ∈ wsX2_tellHeld := List.mem_of_getElem? (i := 2) rfl
theorem mw_X2_tellHeld__3 : (.fieldLink RX2 27 "BallPots$Draws" "held" "[I" : Cond) ∈ wsX2_tellHeld := List.mem_of_getElem? (i := 3) rfl
theorem mw_X2_tellHeld__4 : (.methodLink RX2 84 yX4_groupAt : Cond) ∈ wsX2_tellHeld := List.mem_of_getElem? (i := 4) rfl
theorem mw_X2_tellHeld__5 : (.instanceMethod yX4_groupAt : Cond) ∈ wsX2_tellHeld := List.mem_of_getElem? (i := 5) rfl
theorem mw_X2_tellHeld__6 : (.selects RX4 yX4_groupAt yX4_groupAt : Cond) ∈ wsX2_tellHeld := List.mem_of_getElem? (i := 6) rfl
theorem mw_X2_tellHeld__7 : (.initialized RX4 : Cond) ∈ wsX2_tellHeld := List.mem_of_getElem? (i := 7) rfl
theorem mw_X2_tellHeld__8 : (.code yX4_groupAt cX4_groupAt 3 (some .int) : Cond) ∈ wsX2_tellHeld := List.mem_of_getElem? (i := 8) rfl
theorem mw_X2_tellHeld__9 : (.fieldLink RX4 9 "BallPots$Ranks" "groupOf" "[I" : Cond) ∈ wsX2_tellHeld := List.mem_of_getElem? (i := 9) rfl
theorem mw_X2_tellWithin__1 : (.fieldLink RX2 21 "BallPots$Draws" "within" "[I" : Cond) ∈ wsX2_tellWithin := List.mem_of_getElem? (i := 1) rfl
theorem mw_X2_tellWithin__2 : (.fieldLink RX2 38 "BallPots$Draws" "total" "I" : Cond) ∈ wsX2_tellWithin := List.mem_of_getElem? (i := 2) rfl
theorem mw_X2_tellWithin__3 : (.fieldLink RX2 15 "BallPots$Draws" "broken" "[I" : Cond) ∈ wsX2_tellWithin := List.mem_of_getElem? (i := 3) rfl
theorem mw_X2_tellWithin__4 : (.fieldLink RX2 30 "BallPots$Draws" "plan" "LBallPots$Plan;" : Cond) ∈ wsX2_tellWithin := List.mem_of_getElem? (i := 4) rfl
theorem mw_X2_tellWithin__5 : (.methodLink RX2 95 yJ7_fill_53178 : Cond) ∈ wsX2_tellWithin := List.mem_of_getElem? (i := 5) rfl
theorem mw_X2_tellWithin__6 : (.static yJ7_fill_53178 : Cond) ∈ wsX2_tellWithin := List.mem_of_getElem? (i := 6) rfl
theorem mw_X2_tellWithin__7 : (.initialized RJ7 : Cond) ∈ wsX2_tellWithin := List.mem_of_getElem? (i := 7) rfl
theorem mw_X2_tellWithin__8 : (.code yJ7_fill_53178 cJ7_fill_53178 4 none : Cond) ∈ wsX2_tellWithin := List.mem_of_getElem? (i := 8) rfl
theorem mw_X2_tellWithin__9 : (.methodLink RX2 98 yX2_addUp : Cond) ∈ wsX2_tellWithin := List.mem_of_getElem? (i := 9) rfl
theorem mw_X2_tellWithin__10 : (.static yX2_addUp : Cond) ∈ wsX2_tellWithin := List.mem_of_getElem? (i := 10) rfl
theorem mw_X2_tellWithin__11 : (.initialized RX2 : Cond) ∈ wsX2_tellWithin := List.mem_of_getElem? (i := 11) rfl
theorem mw_X2_tellWithin__12 : (.code yX2_addUp cX2_addUp 5 none : Cond) ∈ wsX2_tellWithin := List.mem_of_getElem? (i := 12) rfl
theorem mw_X3_addAtMost__1 : (.methodLink RX3 60 yX3_addBar : Cond) ∈ wsX3_addAtMost := List.mem_of_getElem? (i := 1) rfl
theorem mw_X3_addAtMost__2 : (.instanceMethod yX3_addBar : Cond) ∈ wsX3_addAtMost := List.mem_of_getElem? (i := 2) rfl
theorem mw_X3_addAtMost__3 : (.selects RX3 yX3_addBar yX3_addBar : Cond) ∈ wsX3_addAtMost := List.mem_of_getElem? (i := 3) rfl
theorem mw_X3_addAtMost__4 : (.initialized RX3 : Cond) ∈ wsX3_addAtMost := List.mem_of_getElem? (i := 4) rfl
theorem mw_X3_addAtMost__5 : (.code yX3_addBar cX3_addBar 3 none : Cond) ∈ wsX3_addAtMost := List.mem_of_getElem? (i := 5) rfl
theorem mw_X3_addAtMost__6 : (.fieldLink RX3 40 "BallPots$Plan" "bars" "I" : Cond) ∈ wsX3_addAtMost := List.mem_of_getElem? (i := 6) rfl
theorem mw_X3_addAtMost__7 : (.fieldLink RX3 21 "BallPots$Plan" "barTeams" "[I" : Cond) ∈ wsX3_addAtMost := List.mem_of_getElem? (i := 7) rfl
theorem mw_X3_addAtMost__8 : (.fieldLink RX3 24 "BallPots$Plan" "barRooms" "[I" : Cond) ∈ wsX3_addAtMost := List.mem_of_getElem? (i := 8) rfl
theorem mw_X3_addBar__1 : (.fieldLink RX3 40 "BallPots$Plan" "bars" "I" : Cond) ∈ wsX3_addBar := List.mem_of_getElem? (i := 1) rfl
theorem mw_X3_addBar__2 : (.fieldLink RX3 21 "BallPots$Plan" "barTeams" "[I" : Cond) ∈ wsX3_addBar := List.mem_of_getElem? (i := 2) rfl
theorem mw_X3_addBar__3 : (.fieldLink RX3 24 "BallPots$Plan" "barRooms" "[I" : Cond) ∈ wsX3_addBar := List.mem_of_getElem? (i := 3) rfl
theorem mw_X3_addFixed__1 : (.fieldLink RX3 43 "BallPots$Plan" "groupsNamed" "I" : Cond) ∈ wsX3_addFixed := List.mem_of_getElem? (i := 1) rfl
theorem mw_X3_addFixed__2 : (.methodLink RX3 60 yX3_addBar : Cond) ∈ wsX3_addFixed := List.mem_of_getElem? (i := 2) rfl
theorem mw_X3_addFixed__3 : (.instanceMethod yX3_addBar : Cond) ∈ wsX3_addFixed := List.mem_of_getElem? (i := 3) rfl
theorem mw_X3_addFixed__4 : (.selects RX3 yX3_addBar yX3_addBar : Cond) ∈ wsX3_addFixed := List.mem_of_getElem? (i := 4) rfl
theorem mw_X3_addFixed__5 : (.initialized RX3 : Cond) ∈ wsX3_addFixed := List.mem_of_getElem? (i := 5) rfl
theorem mw_X3_addFixed__6 : (.code yX3_addBar cX3_addBar 3 none : Cond) ∈ wsX3_addFixed := List.mem_of_getElem? (i := 6) rfl
theorem mw_X3_addFixed__7 : (.fieldLink RX3 40 "BallPots$Plan" "bars" "I" : Cond) ∈ wsX3_addFixed := List.mem_of_getElem? (i := 7) rfl
theorem mw_X3_addFixed__8 : (.fieldLink RX3 21 "BallPots$Plan" "barTeams" "[I" : Cond) ∈ wsX3_addFixed := List.mem_of_getElem? (i := 8) rfl
theorem mw_X3_addFixed__9 : (.fieldLink RX3 24 "BallPots$Plan" "barRooms" "[I" : Cond) ∈ wsX3_addFixed := List.mem_of_getElem? (i := 9) rfl
theorem mw_X3_addMark__1 : (.fieldLink RX3 37 "BallPots$Plan" "marks" "I" : Cond) ∈ wsX3_addMark := List.mem_of_getElem? (i := 1) rfl
theorem mw_X3_addMark__2 : (.fieldLink RX3 18 "BallPots$Plan" "markNames" "[I" : Cond) ∈ wsX3_addMark := List.mem_of_getElem? (i := 2) rfl
theorem mw_X3_addNever__1 : (.fieldLink RX3 43 "BallPots$Plan" "groupsNamed" "I" : Cond) ∈ wsX3_addNever := List.mem_of_getElem? (i := 1) rfl
theorem mw_X3_addNever__2 : (.methodLink RX3 60 yX3_addBar : Cond) ∈ wsX3_addNever := List.mem_of_getElem? (i := 2) rfl
theorem mw_X3_addNever__3 : (.instanceMethod yX3_addBar : Cond) ∈ wsX3_addNever := List.mem_of_getElem? (i := 3) rfl
theorem mw_X3_addNever__4 : (.selects RX3 yX3_addBar yX3_addBar : Cond) ∈ wsX3_addNever := List.mem_of_getElem? (i := 4) rfl
theorem mw_X3_addNever__5 : (.initialized RX3 : Cond) ∈ wsX3_addNever := List.mem_of_getElem? (i := 5) rfl
theorem mw_X3_addNever__6 : (.code yX3_addBar cX3_addBar 3 none : Cond) ∈ wsX3_addNever := List.mem_of_getElem? (i := 6) rfl
theorem mw_X3_addNever__7 : (.fieldLink RX3 40 "BallPots$Plan" "bars" "I" : Cond) ∈ wsX3_addNever := List.mem_of_getElem? (i := 7) rfl
theorem mw_X3_addNever__8 : (.fieldLink RX3 21 "BallPots$Plan" "barTeams" "[I" : Cond) ∈ wsX3_addNever := List.mem_of_getElem? (i := 8) rfl
theorem mw_X3_addNever__9 : (.fieldLink RX3 24 "BallPots$Plan" "barRooms" "[I" : Cond) ∈ wsX3_addNever := List.mem_of_getElem? (i := 9) rfl
theorem mw_X3_addTeam__1 : (.fieldLink RX3 34 "BallPots$Plan" "teams" "I" : Cond) ∈ wsX3_addTeam := List.mem_of_getElem? (i := 1) rfl
theorem mw_X3_addTeam__2 : (.fieldLink RX3 9 "BallPots$Plan" "teamNames" "[I" : Cond) ∈ wsX3_addTeam := List.mem_of_getElem? (i := 2) rfl
theorem mw_X3_addTeam__3 : (.fieldLink RX3 15 "BallPots$Plan" "marksOf" "[I" : Cond) ∈ wsX3_addTeam := List.mem_of_getElem? (i := 3) rfl
theorem mw_X3_forget__1 : (.fieldLink RX3 27 "BallPots$Plan" "groups" "I" : Cond) ∈ wsX3_forget := List.mem_of_getElem? (i := 1) rfl
theorem mw_X3_forget__2 : (.fieldLink RX3 31 "BallPots$Plan" "pots" "I" : Cond) ∈ wsX3_forget := List.mem_of_getElem? (i := 2) rfl
theorem mw_X3_forget__3 : (.fieldLink RX3 34 "BallPots$Plan" "teams" "I" : Cond) ∈ wsX3_forget := List.mem_of_getElem? (i := 3) rfl
theorem mw_X3_forget__4 : (.fieldLink RX3 37 "BallPots$Plan" "marks" "I" : Cond) ∈ wsX3_forget := List.mem_of_getElem? (i := 4) rfl
theorem mw_X3_forget__5 : (.fieldLink RX3 40 "BallPots$Plan" "bars" "I" : Cond) ∈ wsX3_forget := List.mem_of_getElem? (i := 5) rfl
theorem mw_X3_forget__6 : (.fieldLink RX3 43 "BallPots$Plan" "groupsNamed" "I" : Cond) ∈ wsX3_forget := List.mem_of_getElem? (i := 6) rfl
theorem mw_X3_markNamed__1 : (.fieldLink RX3 18 "BallPots$Plan" "markNames" "[I" : Cond) ∈ wsX3_markNamed := List.mem_of_getElem? (i := 1) rfl
theorem mw_X3_markNamed__2 : (.fieldLink RX3 37 "BallPots$Plan" "marks" "I" : Cond) ∈ wsX3_markNamed := List.mem_of_getElem? (i := 2) rfl
theorem mw_X3_markNamed__3 : (.methodLink RX3 52 yX3_find : Cond) ∈ wsX3_markNamed := List.mem_of_getElem? (i := 3) rfl
theorem mw_X3_markNamed__4 : (.static yX3_find : Cond) ∈ wsX3_markNamed := List.mem_of_getElem? (i := 4) rfl
theorem mw_X3_markNamed__5 : (.initialized RX3 : Cond) ∈ wsX3_markNamed := List.mem_of_getElem? (i := 5) rfl
theorem mw_X3_markNamed__6 : (.code yX3_find cX3_find 4 (some .int) : Cond) ∈ wsX3_markNamed := List.mem_of_getElem? (i := 6) rfl
theorem mw_X3_placeOf__1 : (.fieldLink RX3 27 "BallPots$Plan" "groups" "I" : Cond) ∈ wsX3_placeOf := List.mem_of_getElem? (i := 1) rfl
theorem mw_X3_potOf__1 : (.fieldLink RX3 27 "BallPots$Plan" "groups" "I" : Cond) ∈ wsX3_potOf := List.mem_of_getElem? (i := 1) rfl
theorem mw_X3_take__1 : (.fieldLink RX3 27 "BallPots$Plan" "groups" "I" : Cond) ∈ wsX3_take := List.mem_of_getElem? (i := 1) rfl
theorem mw_X3_take__2 : (.fieldLink RX3 31 "BallPots$Plan" "pots" "I" : Cond) ∈ wsX3_take := List.mem_of_getElem? (i := 2) rfl
theorem mw_X3_take__3 : (.fieldLink RX3 34 "BallPots$Plan" "teams" "I" : Cond) ∈ wsX3_take := List.mem_of_getElem? (i := 3) rfl
theorem mw_X3_take__4 : (.fieldLink RX3 37 "BallPots$Plan" "marks" "I" : Cond) ∈ wsX3_take := List.mem_of_getElem? (i := 4) rfl
theorem mw_X3_take__5 : (.fieldLink RX3 40 "BallPots$Plan" "bars" "I" : Cond) ∈ wsX3_take := List.mem_of_getElem? (i := 5) rfl
theorem mw_X3_take__6 : (.fieldLink RX3 43 "BallPots$Plan" "groupsNamed" "I" : Cond) ∈ wsX3_take := List.mem_of_getElem? (i := 6) rfl
theorem mw_X3_take__7 : (.fieldLink RX3 9 "BallPots$Plan" "teamNames" "[I" : Cond) ∈ wsX3_take := List.mem_of_getElem? (i := 7) rfl
theorem mw_X3_take__8 : (.methodLink RX3 46 arraycopyName : Cond) ∈ wsX3_take := List.mem_of_getElem? (i := 8) rfl
theorem mw_X3_take__9 : (.native arraycopyName : Cond) ∈ wsX3_take := List.mem_of_getElem? (i := 9) rfl
theorem mw_X3_take__10 : (.static arraycopyName : Cond) ∈ wsX3_take := List.mem_of_getElem? (i := 10) rfl
theorem mw_X3_take__11 : (.initialized "java/lang/System" : Cond) ∈ wsX3_take := List.mem_of_getElem? (i := 11) rfl
theorem mw_X3_take__12 : (.fieldLink RX3 15 "BallPots$Plan" "marksOf" "[I" : Cond) ∈ wsX3_take := List.mem_of_getElem? (i := 12) rfl
theorem mw_X3_take__13 : (.fieldLink RX3 18 "BallPots$Plan" "markNames" "[I" : Cond) ∈ wsX3_take := List.mem_of_getElem? (i := 13) rfl
theorem mw_X3_take__14 : (.fieldLink RX3 21 "BallPots$Plan" "barTeams" "[I" : Cond) ∈ wsX3_take := List.mem_of_getElem? (i := 14) rfl
theorem mw_X3_take__15 : (.fieldLink RX3 24 "BallPots$Plan" "barRooms" "[I" : Cond) ∈ wsX3_take := List.mem_of_getElem? (i := 15) rfl
theorem mw_X3_teamNamed__1 : (.fieldLink RX3 9 "BallPots$Plan" "teamNames" "[I" : Cond) ∈ wsX3_teamNamed := List.mem_of_getElem? (i := 1) rfl
theorem mw_X3_teamNamed__2 : (.fieldLink RX3 34 "BallPots$Plan" "teams" "I" : Cond) ∈ wsX3_teamNamed := List.mem_of_getElem? (i := 2) rfl
theorem mw_X3_teamNamed__3 : (.methodLink RX3 52 yX3_find : Cond) ∈ wsX3_teamNamed := List.mem_of_getElem? (i := 3) rfl
theorem mw_X3_teamNamed__4 : (.static yX3_find : Cond) ∈ wsX3_teamNamed := List.mem_of_getElem? (i := 4) rfl
theorem mw_X3_teamNamed__5 : (.initialized RX3 : Cond) ∈ wsX3_teamNamed := List.mem_of_getElem? (i := 5) rfl
theorem mw_X3_teamNamed__6 : (.code yX3_find cX3_find 4 (some .int) : Cond) ∈ wsX3_teamNamed := List.mem_of_getElem? (i := 6) rfl
theorem mw_X3_teamsMarked__1 : (.fieldLink RX3 34 "BallPots$Plan" "teams" "I" : Cond) ∈ wsX3_teamsMarked := List.mem_of_getElem? (i := 1) rfl
theorem mw_X3_teamsMarked__2 : (.fieldLink RX3 15 "BallPots$Plan" "marksOf" "[I" : Cond) ∈ wsX3_teamsMarked := List.mem_of_getElem? (i := 2) rfl
theorem mw_X4_addRow__1 : (.fieldLink RX4 27 "BallPots$Ranks" "groups" "I" : Cond) ∈ wsX4_addRow := List.mem_of_getElem? (i := 1) rfl
theorem mw_X4_addRow__2 : (.fieldLink RX4 24 "BallPots$Ranks" "row" "[I" : Cond) ∈ wsX4_addRow := List.mem_of_getElem? (i := 2) rfl
theorem mw_X4_addRow__3 : (.fieldLink RX4 9 "BallPots$Ranks" "groupOf" "[I" : Cond) ∈ wsX4_addRow := List.mem_of_getElem? (i := 3) rfl
theorem mw_X4_addRow__4 : (.fieldLink RX4 31 "BallPots$Ranks" "many" "I" : Cond) ∈ wsX4_addRow := List.mem_of_getElem? (i := 4) rfl
theorem mw_X4_addRow__5 : (.fieldLink RX4 15 "BallPots$Ranks" "placeIn" "[I" : Cond) ∈ wsX4_addRow := List.mem_of_getElem? (i := 5) rfl
theorem mw_X4_addRow__6 : (.fieldLink RX4 18 "BallPots$Ranks" "having" "[I" : Cond) ∈ wsX4_addRow := List.mem_of_getElem? (i := 6) rfl
theorem mw_X4_groupAt__1 : (.fieldLink RX4 9 "BallPots$Ranks" "groupOf" "[I" : Cond) ∈ wsX4_groupAt := List.mem_of_getElem? (i := 1) rfl
theorem mw_X4_only__1 : (.methodLink RX4 69 yJ6_bitCount_0f7a4 : Cond) ∈ wsX4_only := List.mem_of_getElem? (i := 1) rfl
theorem mw_X4_only__2 : (.static yJ6_bitCount_0f7a4 : Cond) ∈ wsX4_only := List.mem_of_getElem? (i := 2) rfl
theorem mw_X4_only__3 : (.initialized RJ6 : Cond) ∈ wsX4_only := List.mem_of_getElem? (i := 3) rfl
theorem mw_X4_only__4 : (.code yJ6_bitCount_0f7a4 cJ6_bitCount_0f7a4 1 (some .int) : Cond) ∈ wsX4_only := List.mem_of_getElem? (i := 4) rfl
theorem mw_X4_only__5 : (.constant RJ6 265 (1431655765) : Cond) ∈ wsX4_only := List.mem_of_getElem? (i := 5) rfl
theorem mw_X4_only__6 : (.constant RJ6 266 (858993459) : Cond) ∈ wsX4_only := List.mem_of_getElem? (i := 6) rfl
theorem mw_X4_only__7 : (.constant RJ6 267 (252645135) : Cond) ∈ wsX4_only := List.mem_of_getElem? (i := 7) rfl
theorem mw_X4_rankWithSwapped__1 : (.fieldLink RX4 47 "BallPots$Ranks" "everyRank" "I" : Cond) ∈ wsX4_rankWithSwapped := List.mem_of_getElem? (i := 1) rfl
theorem mw_X4_rankWithSwapped__2 : (.fieldLink RX4 27 "BallPots$Ranks" "groups" "I" : Cond) ∈ wsX4_rankWithSwapped := List.mem_of_getElem? (i := 2) rfl
theorem mw_X4_rankWithSwapped__3 : (.fieldLink RX4 18 "BallPots$Ranks" "having" "[I" : Cond) ∈ wsX4_rankWithSwapped := List.mem_of_getElem? (i := 3) rfl
theorem mw_X4_rankWithSwapped__4 : (.methodLink RX4 61 yX4_groupAt : Cond) ∈ wsX4_rankWithSwapped := List.mem_of_getElem? (i := 4) rfl
theorem mw_X4_rankWithSwapped__5 : (.instanceMethod yX4_groupAt : Cond) ∈ wsX4_rankWithSwapped := List.mem_of_getElem? (i := 5) rfl
theorem mw_X4_rankWithSwapped__6 : (.selects RX4 yX4_groupAt yX4_groupAt : Cond) ∈ wsX4_rankWithSwapped := List.mem_of_getElem? (i := 6) rfl
theorem mw_X4_rankWithSwapped__7 : (.initialized RX4 : Cond) ∈ wsX4_rankWithSwapped := List.mem_of_getElem? (i := 7) rfl
theorem mw_X4_rankWithSwapped__8 : (.code yX4_groupAt cX4_groupAt 3 (some .int) : Cond) ∈ wsX4_rankWithSwapped := List.mem_of_getElem? (i := 8) rfl
theorem mw_X4_rankWithSwapped__9 : (.fieldLink RX4 9 "BallPots$Ranks" "groupOf" "[I" : Cond) ∈ wsX4_rankWithSwapped := List.mem_of_getElem? (i := 9) rfl
theorem mw_X4_rankWithSwapped__10 : (.methodLink RX4 65 yX4_only : Cond) ∈ wsX4_rankWithSwapped := List.mem_of_getElem? (i := 10) rfl
theorem mw_X4_rankWithSwapped__11 : (.static yX4_only : Cond) ∈ wsX4_rankWithSwapped := List.mem_of_getElem? (i := 11) rfl
theorem mw_X4_rankWithSwapped__12 : (.code yX4_only cX4_only 1 (some .int) : Cond) ∈ wsX4_rankWithSwapped := List.mem_of_getElem? (i := 12) rfl
theorem mw_X4_rankWithSwapped__13 : (.methodLink RX4 69 yJ6_bitCount_0f7a4 : Cond) ∈ wsX4_rankWithSwapped := List.mem_of_getElem? (i := 13) rfl
theorem mw_X4_rankWithSwapped__14 : (.static yJ6_bitCount_0f7a4 : Cond) ∈ wsX4_rankWithSwapped := List.mem_of_getElem? (i := 14) rfl
theorem mw_X4_rankWithSwapped__15 : (.initialized RJ6 : Cond) ∈ wsX4_rankWithSwapped := List.mem_of_getElem? (i := 15) rfl
theorem mw_X4_rankWithSwapped__16 : (.code yJ6_bitCount_0f7a4 cJ6_bitCount_0f7a4 1 (some .int) : Cond) ∈ wsX4_rankWithSwapped := List.mem_of_getElem? (i := 16) rfl
theorem mw_X4_rankWithSwapped__17 : (.constant RJ6 265 (1431655765) : Cond) ∈ wsX4_rankWithSwapped := List.mem_of_getElem? (i := 17) rfl
theorem mw_X4_rankWithSwapped__18 : (.constant RJ6 266 (858993459) : Cond) ∈ wsX4_rankWithSwapped := List.mem_of_getElem? (i := 18) rfl
theorem mw_X4_rankWithSwapped__19 : (.constant RJ6 267 (252645135) : Cond) ∈ wsX4_rankWithSwapped := List.mem_of_getElem? (i := 19) rfl
theorem mw_X4_set__1 : (.fieldLink RX4 27 "BallPots$Ranks" "groups" "I" : Cond) ∈ wsX4_set := rl_wsX4_set_r1 _ (List.mem_of_getElem? (i := 0) rfl)
theorem mw_X4_set__2 : (.fieldLink RX4 31 "BallPots$Ranks" "many" "I" : Cond) ∈ wsX4_set := rl_wsX4_set_r1 _ (List.mem_of_getElem? (i := 1) rfl)
theorem mw_X4_set__3 : (.fieldLink RX4 18 "BallPots$Ranks" "having" "[I" : Cond) ∈ wsX4_set := rl_wsX4_set_r1 _ (List.mem_of_getElem? (i := 2) rfl)
theorem mw_X4_set__4 : (.fieldLink RX4 24 "BallPots$Ranks" "row" "[I" : Cond) ∈ wsX4_set := rl_wsX4_set_r1 _ (List.mem_of_getElem? (i := 3) rfl)
theorem mw_X4_set__5 : (.fieldLink RX4 47 "BallPots$Ranks" "everyRank" "I" : Cond) ∈ wsX4_set := rl_wsX4_set_r1 _ (List.mem_of_getElem? (i := 4) rfl)
theorem mw_X4_set__6 : (.methodLink RX4 34 yJ7_fill_53178 : Cond) ∈ wsX4_set := rl_wsX4_set_r1 _ (List.mem_of_getElem? (i := 5) rfl)
theorem mw_X4_set__7 : (.static yJ7_fill_53178 : Cond) ∈ wsX4_set := rl_wsX4_set_r1 _ (List.mem_of_getElem? (i := 6) rfl)
theorem mw_X4_set__8 : (.initialized RJ7 : Cond) ∈ wsX4_set := rl_wsX4_set_r1 _ (List.mem_of_getElem? (i := 7) rfl)
theorem mw_X4_set__9 : (.code yJ7_fill_53178 cJ7_fill_53178 4 none : Cond) ∈ wsX4_set := rl_wsX4_set_r1 _ (List.mem_of_getElem? (i := 8) rfl)
theorem mw_X4_set__10 : (.methodLink RX4 40 yX4_readRow : Cond) ∈ wsX4_set := rl_wsX4_set_r1 _ (List.mem_of_getElem? (i := 9) rfl)
theorem mw_X4_set__11 : (.static yX4_readRow : Cond) ∈ wsX4_set := rl_wsX4_set_r1 _ (List.mem_of_getElem? (i := 10) rfl)
theorem mw_X4_set__12 : (.initialized RX4 : Cond) ∈ wsX4_set := rl_wsX4_set_r1 _ (List.mem_of_getElem? (i := 11) rfl)
theorem mw_X4_set__13 : (.code yX4_readRow cX4_readRow 5 (some .boolean) : Cond) ∈ wsX4_set := rl_wsX4_set_r1 _ (List.mem_of_getElem? (i := 12) rfl)
theorem mw_X4_set__14 : (.methodLink RX4 44 yX4_addRow : Cond) ∈ wsX4_set := rl_wsX4_set_r1 _ (List.mem_of_getElem? (i := 13) rfl)
theorem mw_X4_set__15 : (.instanceMethod yX4_addRow : Cond) ∈ wsX4_set := rl_wsX4_set_r1 _ (List.mem_of_getElem? (i := 14) rfl)
theorem mw_X4_set__16 : (.selects RX4 yX4_addRow yX4_addRow : Cond) ∈ wsX4_set := rl_wsX4_set_r1 _ (List.mem_of_getElem? (i := 15) rfl)
theorem mw_X4_set__17 : (.code yX4_addRow cX4_addRow 3 none : Cond) ∈ wsX4_set := rl_wsX4_set_r1 _ (List.mem_of_getElem? (i := 16) rfl)
theorem mw_X4_set__18 : (.fieldLink RX4 9 "BallPots$Ranks" "groupOf" "[I" : Cond) ∈ wsX4_set := rl_wsX4_set_r1 _ (List.mem_of_getElem? (i := 17) rfl)
theorem mw_X4_set__19 : (.fieldLink RX4 15 "BallPots$Ranks" "placeIn" "[I" : Cond) ∈ wsX4_set := rl_wsX4_set_r1 _ (List.mem_of_getElem? (i := 18) rfl)
theorem mw_X4_set__20 : (.methodLink RX4 50 yX4_setSwaps : Cond) ∈ wsX4_set := rl_wsX4_set_r1 _ (List.mem_of_getElem? (i := 19) rfl)
theorem mw_X4_set__21 : (.instanceMethod yX4_setSwaps : Cond) ∈ wsX4_set := rl_wsX4_set_r1 _ (List.mem_of_getElem? (i := 20) rfl)
theorem mw_X4_set__22 : (.selects RX4 yX4_setSwaps yX4_setSwaps : Cond) ∈ wsX4_set := rl_wsX4_set_r1 _ (List.mem_of_getElem? (i := 21) rfl)
theorem mw_X4_set__23 : (.code yX4_setSwaps cX4_setSwaps 5 none : Cond) ∈ wsX4_set := rl_wsX4_set_r1 _ (List.mem_of_getElem? (i := 22) rfl)
theorem mw_X4_set__24 : (.fieldLink RX4 21 "BallPots$Ranks" "swapped" "[I" : Cond) ∈ wsX4_set := rl_wsX4_set_r1 _ (List.mem_of_getElem? (i := 23) rfl)
theorem mw_X4_set__25 : (.fieldLink RX4 58 "BallPots$Ranks" "swapsAPot" "I" : Cond) ∈ wsX4_set := rl_wsX4_set_r2 _ (List.mem_of_getElem? (i := 0) rfl)
theorem mw_X4_set__26 : (.methodLink RX4 54 yX4_rankWithSwapped : Cond) ∈ wsX4_set := rl_wsX4_set_r2 _ (List.mem_of_getElem? (i := 1) rfl)
theorem mw_X4_set__27 : (.instanceMethod yX4_rankWithSwapped : Cond) ∈ wsX4_set := rl_wsX4_set_r2 _ (List.mem_of_getElem? (i := 2) rfl)
theorem mw_X4_set__28 : (.selects RX4 yX4_rankWithSwapped yX4_rankWithSwapped : Cond) ∈ wsX4_set := rl_wsX4_set_r2 _ (List.mem_of_getElem? (i := 3) rfl)
theorem mw_X4_set__29 : (.code yX4_rankWithSwapped cX4_rankWithSwapped 8 (some .int) : Cond) ∈ wsX4_set := rl_wsX4_set_r2 _ (List.mem_of_getElem? (i := 4) rfl)
theorem mw_X4_set__30 : (.methodLink RX4 61 yX4_groupAt : Cond) ∈ wsX4_set := rl_wsX4_set_r2 _ (List.mem_of_getElem? (i := 5) rfl)
theorem mw_X4_set__31 : (.instanceMethod yX4_groupAt : Cond) ∈ wsX4_set := rl_wsX4_set_r2 _ (List.mem_of_getElem? (i := 6) rfl)
theorem mw_X4_set__32 : (.selects RX4 yX4_groupAt yX4_groupAt : Cond) ∈ wsX4_set := rl_wsX4_set_r2 _ (List.mem_of_getElem? (i := 7) rfl)
theorem mw_X4_set__33 : (.code yX4_groupAt cX4_groupAt 3 (some .int) : Cond) ∈ wsX4_set := rl_wsX4_set_r2 _ (List.mem_of_getElem? (i := 8) rfl)
theorem mw_X4_set__34 : (.methodLink RX4 65 yX4_only : Cond) ∈ wsX4_set := rl_wsX4_set_r2 _ (List.mem_of_getElem? (i := 9) rfl)
theorem mw_X4_set__35 : (.static yX4_only : Cond) ∈ wsX4_set := rl_wsX4_set_r2 _ (List.mem_of_getElem? (i := 10) rfl)
theorem mw_X4_set__36 : (.code yX4_only cX4_only 1 (some .int) : Cond) ∈ wsX4_set := rl_wsX4_set_r2 _ (List.mem_of_getElem? (i := 11) rfl)
theorem mw_X4_set__37 : (.methodLink RX4 69 yJ6_bitCount_0f7a4 : Cond) ∈ wsX4_set := rl_wsX4_set_r2 _ (List.mem_of_getElem? (i := 12) rfl)
theorem mw_X4_set__38 : (.static yJ6_bitCount_0f7a4 : Cond) ∈ wsX4_set := rl_wsX4_set_r2 _ (List.mem_of_getElem? (i := 13) rfl)
theorem mw_X4_set__39 : (.initialized RJ6 : Cond) ∈ wsX4_set := rl_wsX4_set_r2 _ (List.mem_of_getElem? (i := 14) rfl)
theorem mw_X4_set__40 : (.code yJ6_bitCount_0f7a4 cJ6_bitCount_0f7a4 1 (some .int) : Cond) ∈ wsX4_set := rl_wsX4_set_r2 _ (List.mem_of_getElem? (i := 15) rfl)
theorem mw_X4_set__41 : (.constant RJ6 265 (1431655765) : Cond) ∈ wsX4_set := rl_wsX4_set_r2 _ (List.mem_of_getElem? (i := 16) rfl)
theorem mw_X4_set__42 : (.constant RJ6 266 (858993459) : Cond) ∈ wsX4_set := rl_wsX4_set_r2 _ (List.mem_of_getElem? (i := 17) rfl)
theorem mw_X4_set__43 : (.constant RJ6 267 (252645135) : Cond) ∈ wsX4_set := rl_wsX4_set_r2 _ (List.mem_of_getElem? (i := 18) rfl)
theorem mw_X4_setSwaps__1 : (.fieldLink RX4 27 "BallPots$Ranks" "groups" "I" : Cond) ∈ wsX4_setSwaps := rl_wsX4_setSwaps_r1 _ (List.mem_of_getElem? (i := 0) rfl)
theorem mw_X4_setSwaps__2 : (.fieldLink RX4 21 "BallPots$Ranks" "swapped" "[I" : Cond) ∈ wsX4_setSwaps := rl_wsX4_setSwaps_r1 _ (List.mem_of_getElem? (i := 1) rfl)
theorem mw_X4_setSwaps__3 : (.fieldLink RX4 58 "BallPots$Ranks" "swapsAPot" "I" : Cond) ∈ wsX4_setSwaps := rl_wsX4_setSwaps_r1 _ (List.mem_of_getElem? (i := 2) rfl)
theorem mw_X4_setSwaps__4 : (.methodLink RX4 54 yX4_rankWithSwapped : Cond) ∈ wsX4_setSwaps := rl_wsX4_setSwaps_r1 _ (List.mem_of_getElem? (i := 3) rfl)
theorem mw_X4_setSwaps__5 : (.instanceMethod yX4_rankWithSwapped : Cond) ∈ wsX4_setSwaps := rl_wsX4_setSwaps_r1 _ (List.mem_of_getElem? (i := 4) rfl)
theorem mw_X4_setSwaps__6 : (.selects RX4 yX4_rankWithSwapped yX4_rankWithSwapped : Cond) ∈ wsX4_setSwaps := rl_wsX4_setSwaps_r1 _ (List.mem_of_getElem? (i := 5) rfl)
theorem mw_X4_setSwaps__7 : (.initialized RX4 : Cond) ∈ wsX4_setSwaps := rl_wsX4_setSwaps_r1 _ (List.mem_of_getElem? (i := 6) rfl)
theorem mw_X4_setSwaps__8 : (.code yX4_rankWithSwapped cX4_rankWithSwapped 8 (some .int) : Cond) ∈ wsX4_setSwaps := rl_wsX4_setSwaps_r1 _ (List.mem_of_getElem? (i := 7) rfl)
theorem mw_X4_setSwaps__9 : (.fieldLink RX4 47 "BallPots$Ranks" "everyRank" "I" : Cond) ∈ wsX4_setSwaps := rl_wsX4_setSwaps_r1 _ (List.mem_of_getElem? (i := 8) rfl)
theorem mw_X4_setSwaps__10 : (.fieldLink RX4 18 "BallPots$Ranks" "having" "[I" : Cond) ∈ wsX4_setSwaps := rl_wsX4_setSwaps_r1 _ (List.mem_of_getElem? (i := 9) rfl)
theorem mw_X4_setSwaps__11 : (.methodLink RX4 61 yX4_groupAt : Cond) ∈ wsX4_setSwaps := rl_wsX4_setSwaps_r1 _ (List.mem_of_getElem? (i := 10) rfl)
theorem mw_X4_setSwaps__12 : (.instanceMethod yX4_groupAt : Cond) ∈ wsX4_setSwaps := rl_wsX4_setSwaps_r1 _ (List.mem_of_getElem? (i := 11) rfl)
theorem mw_X4_setSwaps__13 : (.selects RX4 yX4_groupAt yX4_groupAt : Cond) ∈ wsX4_setSwaps := rl_wsX4_setSwaps_r1 _ (List.mem_of_getElem? (i := 12) rfl)
theorem mw_X4_setSwaps__14 : (.code yX4_groupAt cX4_groupAt 3 (some .int) : Cond) ∈ wsX4_setSwaps := rl_wsX4_setSwaps_r1 _ (List.mem_of_getElem? (i := 13) rfl)
theorem mw_X4_setSwaps__15 : (.fieldLink RX4 9 "BallPots$Ranks" "groupOf" "[I" : Cond) ∈ wsX4_setSwaps := rl_wsX4_setSwaps_r1 _ (List.mem_of_getElem? (i := 14) rfl)
theorem mw_X4_setSwaps__16 : (.methodLink RX4 65 yX4_only : Cond) ∈ wsX4_setSwaps := rl_wsX4_setSwaps_r1 _ (List.mem_of_getElem? (i := 15) rfl)
theorem mw_X4_setSwaps__17 : (.static yX4_only : Cond) ∈ wsX4_setSwaps := rl_wsX4_setSwaps_r1 _ (List.mem_of_getElem? (i := 16) rfl)
theorem mw_X4_setSwaps__18 : (.code yX4_only cX4_only 1 (some .int) : Cond) ∈ wsX4_setSwaps := rl_wsX4_setSwaps_r1 _ (List.mem_of_getElem? (i := 17) rfl)
theorem mw_X4_setSwaps__19 : (.methodLink RX4 69 yJ6_bitCount_0f7a4 : Cond) ∈ wsX4_setSwaps := rl_wsX4_setSwaps_r1 _ (List.mem_of_getElem? (i := 18) rfl)
theorem mw_X4_setSwaps__20 : (.static yJ6_bitCount_0f7a4 : Cond) ∈ wsX4_setSwaps := rl_wsX4_setSwaps_r1 _ (List.mem_of_getElem? (i := 19) rfl)
theorem mw_X4_setSwaps__21 : (.initialized RJ6 : Cond) ∈ wsX4_setSwaps := rl_wsX4_setSwaps_r1 _ (List.mem_of_getElem? (i := 20) rfl)
theorem mw_X4_setSwaps__22 : (.code yJ6_bitCount_0f7a4 cJ6_bitCount_0f7a4 1 (some .int) : Cond) ∈ wsX4_setSwaps := rl_wsX4_setSwaps_r1 _ (List.mem_of_getElem? (i := 21) rfl)
theorem mw_X4_setSwaps__23 : (.constant RJ6 265 (1431655765) : Cond) ∈ wsX4_setSwaps := rl_wsX4_setSwaps_r1 _ (List.mem_of_getElem? (i := 22) rfl)
theorem mw_X4_setSwaps__24 : (.constant RJ6 266 (858993459) : Cond) ∈ wsX4_setSwaps := rl_wsX4_setSwaps_r1 _ (List.mem_of_getElem? (i := 23) rfl)
theorem mw_X4_setSwaps__25 : (.constant RJ6 267 (252645135) : Cond) ∈ wsX4_setSwaps := rl_wsX4_setSwaps_r2 _ (List.mem_of_getElem? (i := 0) rfl)
theorem mw_X5_fail__1 : (.fieldLink RX5 38 "BallPots$Reader" "fault" "I" : Cond) ∈ wsX5_fail := List.mem_of_getElem? (i := 1) rfl
theorem mw_X5_fail__2 : (.fieldLink RX5 54 "BallPots$Reader" "start" "I" : Cond) ∈ wsX5_fail := List.mem_of_getElem? (i := 2) rfl
theorem mw_X5_fail__3 : (.fieldLink RX5 18 "BallPots$Reader" "place" "I" : Cond) ∈ wsX5_fail := List.mem_of_getElem? (i := 3) rfl
theorem mw_X5_isName__1 : (.fieldLink RX5 47 "BallPots$Reader" "kind" "I" : Cond) ∈ wsX5_isName := List.mem_of_getElem? (i := 1) rfl
theorem mw_X5_isName__2 : (.fieldLink RX5 73 "BallPots$Reader" "value" "I" : Cond) ∈ wsX5_isName := List.mem_of_getElem? (i := 2) rfl
theorem mw_X5_isName__3 : (.methodLink RX5 164 yX5_isOfLanguage : Cond) ∈ wsX5_isName := List.mem_of_getElem? (i := 3) rfl
theorem mw_X5_isName__4 : (.static yX5_isOfLanguage : Cond) ∈ wsX5_isName := List.mem_of_getElem? (i := 4) rfl
theorem mw_X5_isName__5 : (.initialized RX5 : Cond) ∈ wsX5_isName := List.mem_of_getElem? (i := 5) rfl
theorem mw_X5_isName__6 : (.code yX5_isOfLanguage cX5_isOfLanguage 1 (some .boolean) : Cond) ∈ wsX5_isName := List.mem_of_getElem? (i := 6) rfl
theorem mw_X5_isName__7 : (.methodLink RX5 84 yX5_fail : Cond) ∈ wsX5_isName := List.mem_of_getElem? (i := 7) rfl
theorem mw_X5_isName__8 : (.instanceMethod yX5_fail : Cond) ∈ wsX5_isName := List.mem_of_getElem? (i := 8) rfl
theorem mw_X5_isName__9 : (.selects RX5 yX5_fail yX5_fail : Cond) ∈ wsX5_isName := List.mem_of_getElem? (i := 9) rfl
theorem mw_X5_isName__10 : (.code yX5_fail cX5_fail 2 (some .boolean) : Cond) ∈ wsX5_isName := List.mem_of_getElem? (i := 10) rfl
theorem mw_X5_isName__11 : (.fieldLink RX5 38 "BallPots$Reader" "fault" "I" : Cond) ∈ wsX5_isName := List.mem_of_getElem? (i := 11) rfl
theorem mw_X5_isName__12 : (.fieldLink RX5 54 "BallPots$Reader" "start" "I" : Cond) ∈ wsX5_isName := List.mem_of_getElem? (i := 12) rfl
theorem mw_X5_isName__13 : (.fieldLink RX5 18 "BallPots$Reader" "place" "I" : Cond) ∈ wsX5_isName := List.mem_of_getElem? (i := 13) rfl
theorem mw_X5_isNumber__1 : (.fieldLink RX5 47 "BallPots$Reader" "kind" "I" : Cond) ∈ wsX5_isNumber := List.mem_of_getElem? (i := 1) rfl
theorem mw_X5_isNumber__2 : (.fieldLink RX5 73 "BallPots$Reader" "value" "I" : Cond) ∈ wsX5_isNumber := List.mem_of_getElem? (i := 2) rfl
theorem mw_X5_isNumber__3 : (.methodLink RX5 84 yX5_fail : Cond) ∈ wsX5_isNumber := List.mem_of_getElem? (i := 3) rfl
theorem mw_X5_isNumber__4 : (.instanceMethod yX5_fail : Cond) ∈ wsX5_isNumber := List.mem_of_getElem? (i := 4) rfl
theorem mw_X5_isNumber__5 : (.selects RX5 yX5_fail yX5_fail : Cond) ∈ wsX5_isNumber := List.mem_of_getElem? (i := 5) rfl
theorem mw_X5_isNumber__6 : (.initialized RX5 : Cond) ∈ wsX5_isNumber := List.mem_of_getElem? (i := 6) rfl
theorem mw_X5_isNumber__7 : (.code yX5_fail cX5_fail 2 (some .boolean) : Cond) ∈ wsX5_isNumber := List.mem_of_getElem? (i := 7) rfl
theorem mw_X5_isNumber__8 : (.fieldLink RX5 38 "BallPots$Reader" "fault" "I" : Cond) ∈ wsX5_isNumber := List.mem_of_getElem? (i := 8) rfl
theorem mw_X5_isNumber__9 : (.fieldLink RX5 54 "BallPots$Reader" "start" "I" : Cond) ∈ wsX5_isNumber := List.mem_of_getElem? (i := 9) rfl
theorem mw_X5_isNumber__10 : (.fieldLink RX5 18 "BallPots$Reader" "place" "I" : Cond) ∈ wsX5_isNumber := List.mem_of_getElem? (i := 10) rfl
theorem mw_X5_isRoomForBar__1 : (.fieldLink RX5 12 "BallPots$Reader" "plan" "LBallPots$Plan;" : Cond) ∈ wsX5_isRoomForBar := List.mem_of_getElem? (i := 1) rfl
theorem mw_X5_isRoomForBar__2 : (.methodLink RX5 84 yX5_fail : Cond) ∈ wsX5_isRoomForBar := List.mem_of_getElem? (i := 2) rfl
theorem mw_X5_isRoomForBar__3 : (.instanceMethod yX5_fail : Cond) ∈ wsX5_isRoomForBar := List.mem_of_getElem? (i := 3) rfl
theorem mw_X5_isRoomForBar__4 : (.selects RX5 yX5_fail yX5_fail : Cond) ∈ wsX5_isRoomForBar := List.mem_of_getElem? (i := 4) rfl
theorem mw_X5_isRoomForBar__5 : (.initialized RX5 : Cond) ∈ wsX5_isRoomForBar := List.mem_of_getElem? (i := 5) rfl
theorem mw_X5_isRoomForBar__6 : (.code yX5_fail cX5_fail 2 (some .boolean) : Cond) ∈ wsX5_isRoomForBar := List.mem_of_getElem? (i := 6) rfl
theorem mw_X5_isRoomForBar__7 : (.fieldLink RX5 38 "BallPots$Reader" "fault" "I" : Cond) ∈ wsX5_isRoomForBar := List.mem_of_getElem? (i := 7) rfl
theorem mw_X5_isRoomForBar__8 : (.fieldLink RX5 54 "BallPots$Reader" "start" "I" : Cond) ∈ wsX5_isRoomForBar := List.mem_of_getElem? (i := 8) rfl
theorem mw_X5_isRoomForBar__9 : (.fieldLink RX5 18 "BallPots$Reader" "place" "I" : Cond) ∈ wsX5_isRoomForBar := List.mem_of_getElem? (i := 9) rfl
theorem mw_X5_readApart__1 : (.fieldLink RX5 12 "BallPots$Reader" "plan" "LBallPots$Plan;" : Cond) ∈ wsX5_readApart := rl_wsX5_readApart_r1 _ (List.mem_of_getElem? (i := 0) rfl)
theorem mw_X5_readApart__2 : (.methodLink RX5 44 yX5_step : Cond) ∈ wsX5_readApart := rl_wsX5_readApart_r1 _ (List.mem_of_getElem? (i := 1) rfl)
theorem mw_X5_readApart__3 : (.instanceMethod yX5_step : Cond) ∈ wsX5_readApart := rl_wsX5_readApart_r1 _ (List.mem_of_getElem? (i := 2) rfl)
theorem mw_X5_readApart__4 : (.selects RX5 yX5_step yX5_step : Cond) ∈ wsX5_readApart := rl_wsX5_readApart_r1 _ (List.mem_of_getElem? (i := 3) rfl)
theorem mw_X5_readApart__5 : (.initialized RX5 : Cond) ∈ wsX5_readApart := rl_wsX5_readApart_r1 _ (List.mem_of_getElem? (i := 4) rfl)
theorem mw_X5_readApart__6 : (.code yX5_step cX5_step 1 none : Cond) ∈ wsX5_readApart := rl_wsX5_readApart_r1 _ (List.mem_of_getElem? (i := 5) rfl)
theorem mw_X5_readApart__7 : (.fieldLink RX5 35 "BallPots$Reader" "at" "I" : Cond) ∈ wsX5_readApart := rl_wsX5_readApart_r1 _ (List.mem_of_getElem? (i := 6) rfl)
theorem mw_X5_readApart__8 : (.fieldLink RX5 32 "BallPots$Reader" "length" "I" : Cond) ∈ wsX5_readApart := rl_wsX5_readApart_r1 _ (List.mem_of_getElem? (i := 7) rfl)
theorem mw_X5_readApart__9 : (.fieldLink RX5 22 "BallPots$Reader" "signs" "[I" : Cond) ∈ wsX5_readApart := rl_wsX5_readApart_r1 _ (List.mem_of_getElem? (i := 8) rfl)
theorem mw_X5_readApart__10 : (.fieldLink RX5 54 "BallPots$Reader" "start" "I" : Cond) ∈ wsX5_readApart := rl_wsX5_readApart_r1 _ (List.mem_of_getElem? (i := 9) rfl)
theorem mw_X5_readApart__11 : (.fieldLink RX5 47 "BallPots$Reader" "kind" "I" : Cond) ∈ wsX5_readApart := rl_wsX5_readApart_r1 _ (List.mem_of_getElem? (i := 10) rfl)
theorem mw_X5_readApart__12 : (.methodLink RX5 57 yX5_isBlank : Cond) ∈ wsX5_readApart := rl_wsX5_readApart_r1 _ (List.mem_of_getElem? (i := 11) rfl)
theorem mw_X5_readApart__13 : (.static yX5_isBlank : Cond) ∈ wsX5_readApart := rl_wsX5_readApart_r1 _ (List.mem_of_getElem? (i := 12) rfl)
theorem mw_X5_readApart__14 : (.code yX5_isBlank cX5_isBlank 1 (some .boolean) : Cond) ∈ wsX5_readApart := rl_wsX5_readApart_r1 _ (List.mem_of_getElem? (i := 13) rfl)
theorem mw_X5_readApart__15 : (.methodLink RX5 61 yX5_isLetter : Cond) ∈ wsX5_readApart := rl_wsX5_readApart_r1 _ (List.mem_of_getElem? (i := 14) rfl)
theorem mw_X5_readApart__16 : (.static yX5_isLetter : Cond) ∈ wsX5_readApart := rl_wsX5_readApart_r1 _ (List.mem_of_getElem? (i := 15) rfl)
theorem mw_X5_readApart__17 : (.code yX5_isLetter cX5_isLetter 1 (some .boolean) : Cond) ∈ wsX5_readApart := rl_wsX5_readApart_r1 _ (List.mem_of_getElem? (i := 16) rfl)
theorem mw_X5_readApart__18 : (.methodLink RX5 64 yX5_stepWord : Cond) ∈ wsX5_readApart := rl_wsX5_readApart_r1 _ (List.mem_of_getElem? (i := 17) rfl)
theorem mw_X5_readApart__19 : (.instanceMethod yX5_stepWord : Cond) ∈ wsX5_readApart := rl_wsX5_readApart_r1 _ (List.mem_of_getElem? (i := 18) rfl)
theorem mw_X5_readApart__20 : (.selects RX5 yX5_stepWord yX5_stepWord : Cond) ∈ wsX5_readApart := rl_wsX5_readApart_r1 _ (List.mem_of_getElem? (i := 19) rfl)
theorem mw_X5_readApart__21 : (.code yX5_stepWord cX5_stepWord 2 none : Cond) ∈ wsX5_readApart := rl_wsX5_readApart_r1 _ (List.mem_of_getElem? (i := 20) rfl)
theorem mw_X5_readApart__22 : (.fieldLink RX5 73 "BallPots$Reader" "value" "I" : Cond) ∈ wsX5_readApart := rl_wsX5_readApart_r1 _ (List.mem_of_getElem? (i := 21) rfl)
theorem mw_X5_readApart__23 : (.methodLink RX5 67 yX5_isDigit : Cond) ∈ wsX5_readApart := rl_wsX5_readApart_r1 _ (List.mem_of_getElem? (i := 22) rfl)
theorem mw_X5_readApart__24 : (.static yX5_isDigit : Cond) ∈ wsX5_readApart := rl_wsX5_readApart_r1 _ (List.mem_of_getElem? (i := 23) rfl)
theorem mw_X5_readApart__25 : (.code yX5_isDigit cX5_isDigit 1 (some .boolean) : Cond) ∈ wsX5_readApart := rl_wsX5_readApart_r2 _ (List.mem_of_getElem? (i := 0) rfl)
theorem mw_X5_readApart__26 : (.methodLink RX5 70 yX5_stepNumber : Cond) ∈ wsX5_readApart := rl_wsX5_readApart_r2 _ (List.mem_of_getElem? (i := 1) rfl)
theorem mw_X5_readApart__27 : (.instanceMethod yX5_stepNumber : Cond) ∈ wsX5_readApart := rl_wsX5_readApart_r2 _ (List.mem_of_getElem? (i := 2) rfl)
theorem mw_X5_readApart__28 : (.selects RX5 yX5_stepNumber yX5_stepNumber : Cond) ∈ wsX5_readApart := rl_wsX5_readApart_r2 _ (List.mem_of_getElem? (i := 3) rfl)
theorem mw_X5_readApart__29 : (.code yX5_stepNumber cX5_stepNumber 1 none : Cond) ∈ wsX5_readApart := rl_wsX5_readApart_r2 _ (List.mem_of_getElem? (i := 4) rfl)
theorem mw_X5_readApart__30 : (.methodLink RX5 26 Lib.Math.min.name : Cond) ∈ wsX5_readApart := rl_wsX5_readApart_r2 _ (List.mem_of_getElem? (i := 5) rfl)
theorem mw_X5_readApart__31 : (.static Lib.Math.min.name : Cond) ∈ wsX5_readApart := rl_wsX5_readApart_r2 _ (List.mem_of_getElem? (i := 6) rfl)
theorem mw_X5_readApart__32 : (.initialized "java/lang/Math" : Cond) ∈ wsX5_readApart := rl_wsX5_readApart_r2 _ (List.mem_of_getElem? (i := 7) rfl)
theorem mw_X5_readApart__33 : (.code Lib.Math.min.name Lib.Math.min.code 2 (some .int) : Cond) ∈ wsX5_readApart := rl_wsX5_readApart_r2 _ (List.mem_of_getElem? (i := 8) rfl)
theorem mw_X5_readApart__34 : (.methodLink RX5 141 yX5_readTeam : Cond) ∈ wsX5_readApart := rl_wsX5_readApart_r2 _ (List.mem_of_getElem? (i := 9) rfl)
theorem mw_X5_readApart__35 : (.instanceMethod yX5_readTeam : Cond) ∈ wsX5_readApart := rl_wsX5_readApart_r2 _ (List.mem_of_getElem? (i := 10) rfl)
theorem mw_X5_readApart__36 : (.selects RX5 yX5_readTeam yX5_readTeam : Cond) ∈ wsX5_readApart := rl_wsX5_readApart_r2 _ (List.mem_of_getElem? (i := 11) rfl)
theorem mw_X5_readApart__37 : (.code yX5_readTeam cX5_readTeam 2 (some .int) : Cond) ∈ wsX5_readApart := rl_wsX5_readApart_r2 _ (List.mem_of_getElem? (i := 12) rfl)
theorem mw_X5_readApart__38 : (.methodLink RX5 121 yX5_isName : Cond) ∈ wsX5_readApart := rl_wsX5_readApart_r2 _ (List.mem_of_getElem? (i := 13) rfl)
theorem mw_X5_readApart__39 : (.instanceMethod yX5_isName : Cond) ∈ wsX5_readApart := rl_wsX5_readApart_r2 _ (List.mem_of_getElem? (i := 14) rfl)
theorem mw_X5_readApart__40 : (.selects RX5 yX5_isName yX5_isName : Cond) ∈ wsX5_readApart := rl_wsX5_readApart_r2 _ (List.mem_of_getElem? (i := 15) rfl)
theorem mw_X5_readApart__41 : (.code yX5_isName cX5_isName 1 (some .boolean) : Cond) ∈ wsX5_readApart := rl_wsX5_readApart_r2 _ (List.mem_of_getElem? (i := 16) rfl)
theorem mw_X5_readApart__42 : (.methodLink RX5 164 yX5_isOfLanguage : Cond) ∈ wsX5_readApart := rl_wsX5_readApart_r2 _ (List.mem_of_getElem? (i := 17) rfl)
theorem mw_X5_readApart__43 : (.static yX5_isOfLanguage : Cond) ∈ wsX5_readApart := rl_wsX5_readApart_r2 _ (List.mem_of_getElem? (i := 18) rfl)
theorem mw_X5_readApart__44 : (.code yX5_isOfLanguage cX5_isOfLanguage 1 (some .boolean) : Cond) ∈ wsX5_readApart := rl_wsX5_readApart_r2 _ (List.mem_of_getElem? (i := 19) rfl)
theorem mw_X5_readApart__45 : (.methodLink RX5 84 yX5_fail : Cond) ∈ wsX5_readApart := rl_wsX5_readApart_r2 _ (List.mem_of_getElem? (i := 20) rfl)
theorem mw_X5_readApart__46 : (.instanceMethod yX5_fail : Cond) ∈ wsX5_readApart := rl_wsX5_readApart_r2 _ (List.mem_of_getElem? (i := 21) rfl)
theorem mw_X5_readApart__47 : (.selects RX5 yX5_fail yX5_fail : Cond) ∈ wsX5_readApart := rl_wsX5_readApart_r2 _ (List.mem_of_getElem? (i := 22) rfl)
theorem mw_X5_readApart__48 : (.code yX5_fail cX5_fail 2 (some .boolean) : Cond) ∈ wsX5_readApart := rl_wsX5_readApart_r2 _ (List.mem_of_getElem? (i := 23) rfl)
theorem mw_X5_readApart__49 : (.fieldLink RX5 38 "BallPots$Reader" "fault" "I" : Cond) ∈ wsX5_readApart := rl_wsX5_readApart_r3 _ (List.mem_of_getElem? (i := 0) rfl)
theorem mw_X5_readApart__50 : (.fieldLink RX5 18 "BallPots$Reader" "place" "I" : Cond) ∈ wsX5_readApart := rl_wsX5_readApart_r3 _ (List.mem_of_getElem? (i := 1) rfl)
theorem mw_X5_readApart__51 : (.methodLink RX5 124 yX3_teamNamed : Cond) ∈ wsX5_readApart := rl_wsX5_readApart_r3 _ (List.mem_of_getElem? (i := 2) rfl)
theorem mw_X5_readApart__52 : (.instanceMethod yX3_teamNamed : Cond) ∈ wsX5_readApart := rl_wsX5_readApart_r3 _ (List.mem_of_getElem? (i := 3) rfl)
theorem mw_X5_readApart__53 : (.selects RX3 yX3_teamNamed yX3_teamNamed : Cond) ∈ wsX5_readApart := rl_wsX5_readApart_r3 _ (List.mem_of_getElem? (i := 4) rfl)
theorem mw_X5_readApart__54 : (.initialized RX3 : Cond) ∈ wsX5_readApart := rl_wsX5_readApart_r3 _ (List.mem_of_getElem? (i := 5) rfl)
theorem mw_X5_readApart__55 : (.code yX3_teamNamed cX3_teamNamed 2 (some .int) : Cond) ∈ wsX5_readApart := rl_wsX5_readApart_r3 _ (List.mem_of_getElem? (i := 6) rfl)
theorem mw_X5_readApart__56 : (.fieldLink RX3 9 "BallPots$Plan" "teamNames" "[I" : Cond) ∈ wsX5_readApart := rl_wsX5_readApart_r3 _ (List.mem_of_getElem? (i := 7) rfl)
theorem mw_X5_readApart__57 : (.fieldLink RX3 34 "BallPots$Plan" "teams" "I" : Cond) ∈ wsX5_readApart := rl_wsX5_readApart_r3 _ (List.mem_of_getElem? (i := 8) rfl)
theorem mw_X5_readApart__58 : (.methodLink RX3 52 yX3_find : Cond) ∈ wsX5_readApart := rl_wsX5_readApart_r3 _ (List.mem_of_getElem? (i := 9) rfl)
theorem mw_X5_readApart__59 : (.static yX3_find : Cond) ∈ wsX5_readApart := rl_wsX5_readApart_r3 _ (List.mem_of_getElem? (i := 10) rfl)
theorem mw_X5_readApart__60 : (.code yX3_find cX3_find 4 (some .int) : Cond) ∈ wsX5_readApart := rl_wsX5_readApart_r3 _ (List.mem_of_getElem? (i := 11) rfl)
theorem mw_X5_readApart__61 : (.methodLink RX5 154 yX3_addAtMost : Cond) ∈ wsX5_readApart := rl_wsX5_readApart_r3 _ (List.mem_of_getElem? (i := 12) rfl)
theorem mw_X5_readApart__62 : (.instanceMethod yX3_addAtMost : Cond) ∈ wsX5_readApart := rl_wsX5_readApart_r3 _ (List.mem_of_getElem? (i := 13) rfl)
theorem mw_X5_readApart__63 : (.selects RX3 yX3_addAtMost yX3_addAtMost : Cond) ∈ wsX5_readApart := rl_wsX5_readApart_r3 _ (List.mem_of_getElem? (i := 14) rfl)
theorem mw_X5_readApart__64 : (.code yX3_addAtMost cX3_addAtMost 3 none : Cond) ∈ wsX5_readApart := rl_wsX5_readApart_r3 _ (List.mem_of_getElem? (i := 15) rfl)
theorem mw_X5_readApart__65 : (.methodLink RX3 60 yX3_addBar : Cond) ∈ wsX5_readApart := rl_wsX5_readApart_r3 _ (List.mem_of_getElem? (i := 16) rfl)
theorem mw_X5_readApart__66 : (.instanceMethod yX3_addBar : Cond) ∈ wsX5_readApart := rl_wsX5_readApart_r3 _ (List.mem_of_getElem? (i := 17) rfl)
theorem mw_X5_readApart__67 : (.selects RX3 yX3_addBar yX3_addBar : Cond) ∈ wsX5_readApart := rl_wsX5_readApart_r3 _ (List.mem_of_getElem? (i := 18) rfl)
theorem mw_X5_readApart__68 : (.code yX3_addBar cX3_addBar 3 none : Cond) ∈ wsX5_readApart := rl_wsX5_readApart_r3 _ (List.mem_of_getElem? (i := 19) rfl)
theorem mw_X5_readApart__69 : (.fieldLink RX3 40 "BallPots$Plan" "bars" "I" : Cond) ∈ wsX5_readApart := rl_wsX5_readApart_r3 _ (List.mem_of_getElem? (i := 20) rfl)
theorem mw_X5_readApart__70 : (.fieldLink RX3 21 "BallPots$Plan" "barTeams" "[I" : Cond) ∈ wsX5_readApart := rl_wsX5_readApart_r3 _ (List.mem_of_getElem? (i := 21) rfl)
theorem mw_X5_readApart__71 : (.fieldLink RX3 24 "BallPots$Plan" "barRooms" "[I" : Cond) ∈ wsX5_readApart := rl_wsX5_readApart_r3 _ (List.mem_of_getElem? (i := 22) rfl)
theorem mw_X5_readAtMost__1 : (.fieldLink RX5 73 "BallPots$Reader" "value" "I" : Cond) ∈ wsX5_readAtMost := rl_wsX5_readAtMost_r1 _ (List.mem_of_getElem? (i := 0) rfl)
theorem mw_X5_readAtMost__2 : (.fieldLink RX5 12 "BallPots$Reader" "plan" "LBallPots$Plan;" : Cond) ∈ wsX5_readAtMost := rl_wsX5_readAtMost_r1 _ (List.mem_of_getElem? (i := 1) rfl)
theorem mw_X5_readAtMost__3 : (.methodLink RX5 44 yX5_step : Cond) ∈ wsX5_readAtMost := rl_wsX5_readAtMost_r1 _ (List.mem_of_getElem? (i := 2) rfl)
theorem mw_X5_readAtMost__4 : (.instanceMethod yX5_step : Cond) ∈ wsX5_readAtMost := rl_wsX5_readAtMost_r1 _ (List.mem_of_getElem? (i := 3) rfl)
theorem mw_X5_readAtMost__5 : (.selects RX5 yX5_step yX5_step : Cond) ∈ wsX5_readAtMost := rl_wsX5_readAtMost_r1 _ (List.mem_of_getElem? (i := 4) rfl)
theorem mw_X5_readAtMost__6 : (.initialized RX5 : Cond) ∈ wsX5_readAtMost := rl_wsX5_readAtMost_r1 _ (List.mem_of_getElem? (i := 5) rfl)
theorem mw_X5_readAtMost__7 : (.code yX5_step cX5_step 1 none : Cond) ∈ wsX5_readAtMost := rl_wsX5_readAtMost_r1 _ (List.mem_of_getElem? (i := 6) rfl)
theorem mw_X5_readAtMost__8 : (.fieldLink RX5 35 "BallPots$Reader" "at" "I" : Cond) ∈ wsX5_readAtMost := rl_wsX5_readAtMost_r1 _ (List.mem_of_getElem? (i := 7) rfl)
theorem mw_X5_readAtMost__9 : (.fieldLink RX5 32 "BallPots$Reader" "length" "I" : Cond) ∈ wsX5_readAtMost := rl_wsX5_readAtMost_r1 _ (List.mem_of_getElem? (i := 8) rfl)
theorem mw_X5_readAtMost__10 : (.fieldLink RX5 22 "BallPots$Reader" "signs" "[I" : Cond) ∈ wsX5_readAtMost := rl_wsX5_readAtMost_r1 _ (List.mem_of_getElem? (i := 9) rfl)
theorem mw_X5_readAtMost__11 : (.fieldLink RX5 54 "BallPots$Reader" "start" "I" : Cond) ∈ wsX5_readAtMost := rl_wsX5_readAtMost_r1 _ (List.mem_of_getElem? (i := 10) rfl)
theorem mw_X5_readAtMost__12 : (.fieldLink RX5 47 "BallPots$Reader" "kind" "I" : Cond) ∈ wsX5_readAtMost := rl_wsX5_readAtMost_r1 _ (List.mem_of_getElem? (i := 11) rfl)
theorem mw_X5_readAtMost__13 : (.methodLink RX5 57 yX5_isBlank : Cond) ∈ wsX5_readAtMost := rl_wsX5_readAtMost_r1 _ (List.mem_of_getElem? (i := 12) rfl)
theorem mw_X5_readAtMost__14 : (.static yX5_isBlank : Cond) ∈ wsX5_readAtMost := rl_wsX5_readAtMost_r1 _ (List.mem_of_getElem? (i := 13) rfl)
theorem mw_X5_readAtMost__15 : (.code yX5_isBlank cX5_isBlank 1 (some .boolean) : Cond) ∈ wsX5_readAtMost := rl_wsX5_readAtMost_r1 _ (List.mem_of_getElem? (i := 14) rfl)
theorem mw_X5_readAtMost__16 : (.methodLink RX5 61 yX5_isLetter : Cond) ∈ wsX5_readAtMost := rl_wsX5_readAtMost_r1 _ (List.mem_of_getElem? (i := 15) rfl)
theorem mw_X5_readAtMost__17 : (.static yX5_isLetter : Cond) ∈ wsX5_readAtMost := rl_wsX5_readAtMost_r1 _ (List.mem_of_getElem? (i := 16) rfl)
theorem mw_X5_readAtMost__18 : (.code yX5_isLetter cX5_isLetter 1 (some .boolean) : Cond) ∈ wsX5_readAtMost := rl_wsX5_readAtMost_r1 _ (List.mem_of_getElem? (i := 17) rfl)
theorem mw_X5_readAtMost__19 : (.methodLink RX5 64 yX5_stepWord : Cond) ∈ wsX5_readAtMost := rl_wsX5_readAtMost_r1 _ (List.mem_of_getElem? (i := 18) rfl)
theorem mw_X5_readAtMost__20 : (.instanceMethod yX5_stepWord : Cond) ∈ wsX5_readAtMost := rl_wsX5_readAtMost_r1 _ (List.mem_of_getElem? (i := 19) rfl)
theorem mw_X5_readAtMost__21 : (.selects RX5 yX5_stepWord yX5_stepWord : Cond) ∈ wsX5_readAtMost := rl_wsX5_readAtMost_r1 _ (List.mem_of_getElem? (i := 20) rfl)
theorem mw_X5_readAtMost__22 : (.code yX5_stepWord cX5_stepWord 2 none : Cond) ∈ wsX5_readAtMost := rl_wsX5_readAtMost_r1 _ (List.mem_of_getElem? (i := 21) rfl)
theorem mw_X5_readAtMost__23 : (.methodLink RX5 67 yX5_isDigit : Cond) ∈ wsX5_readAtMost := rl_wsX5_readAtMost_r1 _ (List.mem_of_getElem? (i := 22) rfl)
theorem mw_X5_readAtMost__24 : (.static yX5_isDigit : Cond) ∈ wsX5_readAtMost := rl_wsX5_readAtMost_r1 _ (List.mem_of_getElem? (i := 23) rfl)
theorem mw_X5_readAtMost__25 : (.code yX5_isDigit cX5_isDigit 1 (some .boolean) : Cond) ∈ wsX5_readAtMost := rl_wsX5_readAtMost_r2 _ (List.mem_of_getElem? (i := 0) rfl)
theorem mw_X5_readAtMost__26 : (.methodLink RX5 70 yX5_stepNumber : Cond) ∈ wsX5_readAtMost := rl_wsX5_readAtMost_r2 _ (List.mem_of_getElem? (i := 1) rfl)
theorem mw_X5_readAtMost__27 : (.instanceMethod yX5_stepNumber : Cond) ∈ wsX5_readAtMost := rl_wsX5_readAtMost_r2 _ (List.mem_of_getElem? (i := 2) rfl)
theorem mw_X5_readAtMost__28 : (.selects RX5 yX5_stepNumber yX5_stepNumber : Cond) ∈ wsX5_readAtMost := rl_wsX5_readAtMost_r2 _ (List.mem_of_getElem? (i := 3) rfl)
theorem mw_X5_readAtMost__29 : (.code yX5_stepNumber cX5_stepNumber 1 none : Cond) ∈ wsX5_readAtMost := rl_wsX5_readAtMost_r2 _ (List.mem_of_getElem? (i := 4) rfl)
theorem mw_X5_readAtMost__30 : (.methodLink RX5 26 Lib.Math.min.name : Cond) ∈ wsX5_readAtMost := rl_wsX5_readAtMost_r2 _ (List.mem_of_getElem? (i := 5) rfl)
theorem mw_X5_readAtMost__31 : (.static Lib.Math.min.name : Cond) ∈ wsX5_readAtMost := rl_wsX5_readAtMost_r2 _ (List.mem_of_getElem? (i := 6) rfl)
theorem mw_X5_readAtMost__32 : (.initialized "java/lang/Math" : Cond) ∈ wsX5_readAtMost := rl_wsX5_readAtMost_r2 _ (List.mem_of_getElem? (i := 7) rfl)
theorem mw_X5_readAtMost__33 : (.code Lib.Math.min.name Lib.Math.min.code 2 (some .int) : Cond) ∈ wsX5_readAtMost := rl_wsX5_readAtMost_r2 _ (List.mem_of_getElem? (i := 8) rfl)
theorem mw_X5_readAtMost__34 : (.methodLink RX5 108 yX5_isNumber : Cond) ∈ wsX5_readAtMost := rl_wsX5_readAtMost_r2 _ (List.mem_of_getElem? (i := 9) rfl)
theorem mw_X5_readAtMost__35 : (.instanceMethod yX5_isNumber : Cond) ∈ wsX5_readAtMost := rl_wsX5_readAtMost_r2 _ (List.mem_of_getElem? (i := 10) rfl)
theorem mw_X5_readAtMost__36 : (.selects RX5 yX5_isNumber yX5_isNumber : Cond) ∈ wsX5_readAtMost := rl_wsX5_readAtMost_r2 _ (List.mem_of_getElem? (i := 11) rfl)
theorem mw_X5_readAtMost__37 : (.code yX5_isNumber cX5_isNumber 3 (some .boolean) : Cond) ∈ wsX5_readAtMost := rl_wsX5_readAtMost_r2 _ (List.mem_of_getElem? (i := 12) rfl)
theorem mw_X5_readAtMost__38 : (.methodLink RX5 84 yX5_fail : Cond) ∈ wsX5_readAtMost := rl_wsX5_readAtMost_r2 _ (List.mem_of_getElem? (i := 13) rfl)
theorem mw_X5_readAtMost__39 : (.instanceMethod yX5_fail : Cond) ∈ wsX5_readAtMost := rl_wsX5_readAtMost_r2 _ (List.mem_of_getElem? (i := 14) rfl)
theorem mw_X5_readAtMost__40 : (.selects RX5 yX5_fail yX5_fail : Cond) ∈ wsX5_readAtMost := rl_wsX5_readAtMost_r2 _ (List.mem_of_getElem? (i := 15) rfl)
theorem mw_X5_readAtMost__41 : (.code yX5_fail cX5_fail 2 (some .boolean) : Cond) ∈ wsX5_readAtMost := rl_wsX5_readAtMost_r2 _ (List.mem_of_getElem? (i := 16) rfl)
theorem mw_X5_readAtMost__42 : (.fieldLink RX5 38 "BallPots$Reader" "fault" "I" : Cond) ∈ wsX5_readAtMost := rl_wsX5_readAtMost_r2 _ (List.mem_of_getElem? (i := 17) rfl)
theorem mw_X5_readAtMost__43 : (.fieldLink RX5 18 "BallPots$Reader" "place" "I" : Cond) ∈ wsX5_readAtMost := rl_wsX5_readAtMost_r2 _ (List.mem_of_getElem? (i := 18) rfl)
theorem mw_X5_readAtMost__44 : (.methodLink RX5 121 yX5_isName : Cond) ∈ wsX5_readAtMost := rl_wsX5_readAtMost_r2 _ (List.mem_of_getElem? (i := 19) rfl)
theorem mw_X5_readAtMost__45 : (.instanceMethod yX5_isName : Cond) ∈ wsX5_readAtMost := rl_wsX5_readAtMost_r2 _ (List.mem_of_getElem? (i := 20) rfl)
theorem mw_X5_readAtMost__46 : (.selects RX5 yX5_isName yX5_isName : Cond) ∈ wsX5_readAtMost := rl_wsX5_readAtMost_r2 _ (List.mem_of_getElem? (i := 21) rfl)
theorem mw_X5_readAtMost__47 : (.code yX5_isName cX5_isName 1 (some .boolean) : Cond) ∈ wsX5_readAtMost := rl_wsX5_readAtMost_r2 _ (List.mem_of_getElem? (i := 22) rfl)
theorem mw_X5_readAtMost__48 : (.methodLink RX5 164 yX5_isOfLanguage : Cond) ∈ wsX5_readAtMost := rl_wsX5_readAtMost_r2 _ (List.mem_of_getElem? (i := 23) rfl)
theorem mw_X5_readAtMost__49 : (.static yX5_isOfLanguage : Cond) ∈ wsX5_readAtMost := rl_wsX5_readAtMost_r3 _ (List.mem_of_getElem? (i := 0) rfl)
theorem mw_X5_readAtMost__50 : (.code yX5_isOfLanguage cX5_isOfLanguage 1 (some .boolean) : Cond) ∈ wsX5_readAtMost := rl_wsX5_readAtMost_r3 _ (List.mem_of_getElem? (i := 1) rfl)
theorem mw_X5_readAtMost__51 : (.methodLink RX5 135 yX3_markNamed : Cond) ∈ wsX5_readAtMost := rl_wsX5_readAtMost_r3 _ (List.mem_of_getElem? (i := 2) rfl)
theorem mw_X5_readAtMost__52 : (.instanceMethod yX3_markNamed : Cond) ∈ wsX5_readAtMost := rl_wsX5_readAtMost_r3 _ (List.mem_of_getElem? (i := 3) rfl)
theorem mw_X5_readAtMost__53 : (.selects RX3 yX3_markNamed yX3_markNamed : Cond) ∈ wsX5_readAtMost := rl_wsX5_readAtMost_r3 _ (List.mem_of_getElem? (i := 4) rfl)
theorem mw_X5_readAtMost__54 : (.initialized RX3 : Cond) ∈ wsX5_readAtMost := rl_wsX5_readAtMost_r3 _ (List.mem_of_getElem? (i := 5) rfl)
theorem mw_X5_readAtMost__55 : (.code yX3_markNamed cX3_markNamed 2 (some .int) : Cond) ∈ wsX5_readAtMost := rl_wsX5_readAtMost_r3 _ (List.mem_of_getElem? (i := 6) rfl)
theorem mw_X5_readAtMost__56 : (.fieldLink RX3 18 "BallPots$Plan" "markNames" "[I" : Cond) ∈ wsX5_readAtMost := rl_wsX5_readAtMost_r3 _ (List.mem_of_getElem? (i := 7) rfl)
theorem mw_X5_readAtMost__57 : (.fieldLink RX3 37 "BallPots$Plan" "marks" "I" : Cond) ∈ wsX5_readAtMost := rl_wsX5_readAtMost_r3 _ (List.mem_of_getElem? (i := 8) rfl)
theorem mw_X5_readAtMost__58 : (.methodLink RX3 52 yX3_find : Cond) ∈ wsX5_readAtMost := rl_wsX5_readAtMost_r3 _ (List.mem_of_getElem? (i := 9) rfl)
theorem mw_X5_readAtMost__59 : (.static yX3_find : Cond) ∈ wsX5_readAtMost := rl_wsX5_readAtMost_r3 _ (List.mem_of_getElem? (i := 10) rfl)
theorem mw_X5_readAtMost__60 : (.code yX3_find cX3_find 4 (some .int) : Cond) ∈ wsX5_readAtMost := rl_wsX5_readAtMost_r3 _ (List.mem_of_getElem? (i := 11) rfl)
theorem mw_X5_readAtMost__61 : (.methodLink RX5 151 yX3_teamsMarked : Cond) ∈ wsX5_readAtMost := rl_wsX5_readAtMost_r3 _ (List.mem_of_getElem? (i := 12) rfl)
theorem mw_X5_readAtMost__62 : (.instanceMethod yX3_teamsMarked : Cond) ∈ wsX5_readAtMost := rl_wsX5_readAtMost_r3 _ (List.mem_of_getElem? (i := 13) rfl)
theorem mw_X5_readAtMost__63 : (.selects RX3 yX3_teamsMarked yX3_teamsMarked : Cond) ∈ wsX5_readAtMost := rl_wsX5_readAtMost_r3 _ (List.mem_of_getElem? (i := 14) rfl)
theorem mw_X5_readAtMost__64 : (.code yX3_teamsMarked cX3_teamsMarked 4 (some .int) : Cond) ∈ wsX5_readAtMost := rl_wsX5_readAtMost_r3 _ (List.mem_of_getElem? (i := 15) rfl)
theorem mw_X5_readAtMost__65 : (.fieldLink RX3 34 "BallPots$Plan" "teams" "I" : Cond) ∈ wsX5_readAtMost := rl_wsX5_readAtMost_r3 _ (List.mem_of_getElem? (i := 16) rfl)
theorem mw_X5_readAtMost__66 : (.fieldLink RX3 15 "BallPots$Plan" "marksOf" "[I" : Cond) ∈ wsX5_readAtMost := rl_wsX5_readAtMost_r3 _ (List.mem_of_getElem? (i := 17) rfl)
theorem mw_X5_readAtMost__67 : (.methodLink RX5 154 yX3_addAtMost : Cond) ∈ wsX5_readAtMost := rl_wsX5_readAtMost_r3 _ (List.mem_of_getElem? (i := 18) rfl)
theorem mw_X5_readAtMost__68 : (.instanceMethod yX3_addAtMost : Cond) ∈ wsX5_readAtMost := rl_wsX5_readAtMost_r3 _ (List.mem_of_getElem? (i := 19) rfl)
theorem mw_X5_readAtMost__69 : (.selects RX3 yX3_addAtMost yX3_addAtMost : Cond) ∈ wsX5_readAtMost := rl_wsX5_readAtMost_r3 _ (List.mem_of_getElem? (i := 20) rfl)
theorem mw_X5_readAtMost__70 : (.code yX3_addAtMost cX3_addAtMost 3 none : Cond) ∈ wsX5_readAtMost := rl_wsX5_readAtMost_r3 _ (List.mem_of_getElem? (i := 21) rfl)
theorem mw_X5_readAtMost__71 : (.methodLink RX3 60 yX3_addBar : Cond) ∈ wsX5_readAtMost := rl_wsX5_readAtMost_r3 _ (List.mem_of_getElem? (i := 22) rfl)
theorem mw_X5_readAtMost__72 : (.instanceMethod yX3_addBar : Cond) ∈ wsX5_readAtMost := rl_wsX5_readAtMost_r3 _ (List.mem_of_getElem? (i := 23) rfl)
theorem mw_X5_readAtMost__73 : (.selects RX3 yX3_addBar yX3_addBar : Cond) ∈ wsX5_readAtMost := rl_wsX5_readAtMost_r4 _ (List.mem_of_getElem? (i := 0) rfl)
theorem mw_X5_readAtMost__74 : (.code yX3_addBar cX3_addBar 3 none : Cond) ∈ wsX5_readAtMost := rl_wsX5_readAtMost_r4 _ (List.mem_of_getElem? (i := 1) rfl)
theorem mw_X5_readAtMost__75 : (.fieldLink RX3 40 "BallPots$Plan" "bars" "I" : Cond) ∈ wsX5_readAtMost := rl_wsX5_readAtMost_r4 _ (List.mem_of_getElem? (i := 2) rfl)
theorem mw_X5_readAtMost__76 : (.fieldLink RX3 21 "BallPots$Plan" "barTeams" "[I" : Cond) ∈ wsX5_readAtMost := rl_wsX5_readAtMost_r4 _ (List.mem_of_getElem? (i := 3) rfl)
theorem mw_X5_readAtMost__77 : (.fieldLink RX3 24 "BallPots$Plan" "barRooms" "[I" : Cond) ∈ wsX5_readAtMost := rl_wsX5_readAtMost_r4 _ (List.mem_of_getElem? (i := 4) rfl)
theorem mw_X5_readGroups__1 : (.fieldLink RX5 12 "BallPots$Reader" "plan" "LBallPots$Plan;" : Cond) ∈ wsX5_readGroups := rl_wsX5_readGroups_r1 _ (List.mem_of_getElem? (i := 0) rfl)
theorem mw_X5_readGroups__2 : (.fieldLink RX5 73 "BallPots$Reader" "value" "I" : Cond) ∈ wsX5_readGroups := rl_wsX5_readGroups_r1 _ (List.mem_of_getElem? (i := 1) rfl)
theorem mw_X5_readGroups__3 : (.methodLink RX5 44 yX5_step : Cond) ∈ wsX5_readGroups := rl_wsX5_readGroups_r1 _ (List.mem_of_getElem? (i := 2) rfl)
theorem mw_X5_readGroups__4 : (.instanceMethod yX5_step : Cond) ∈ wsX5_readGroups := rl_wsX5_readGroups_r1 _ (List.mem_of_getElem? (i := 3) rfl)
theorem mw_X5_readGroups__5 : (.selects RX5 yX5_step yX5_step : Cond) ∈ wsX5_readGroups := rl_wsX5_readGroups_r1 _ (List.mem_of_getElem? (i := 4) rfl)
theorem mw_X5_readGroups__6 : (.initialized RX5 : Cond) ∈ wsX5_readGroups := rl_wsX5_readGroups_r1 _ (List.mem_of_getElem? (i := 5) rfl)
theorem mw_X5_readGroups__7 : (.code yX5_step cX5_step 1 none : Cond) ∈ wsX5_readGroups := rl_wsX5_readGroups_r1 _ (List.mem_of_getElem? (i := 6) rfl)
theorem mw_X5_readGroups__8 : (.fieldLink RX5 35 "BallPots$Reader" "at" "I" : Cond) ∈ wsX5_readGroups := rl_wsX5_readGroups_r1 _ (List.mem_of_getElem? (i := 7) rfl)
theorem mw_X5_readGroups__9 : (.fieldLink RX5 32 "BallPots$Reader" "length" "I" : Cond) ∈ wsX5_readGroups := rl_wsX5_readGroups_r1 _ (List.mem_of_getElem? (i := 8) rfl)
theorem mw_X5_readGroups__10 : (.fieldLink RX5 22 "BallPots$Reader" "signs" "[I" : Cond) ∈ wsX5_readGroups := rl_wsX5_readGroups_r1 _ (List.mem_of_getElem? (i := 9) rfl)
theorem mw_X5_readGroups__11 : (.fieldLink RX5 54 "BallPots$Reader" "start" "I" : Cond) ∈ wsX5_readGroups := rl_wsX5_readGroups_r1 _ (List.mem_of_getElem? (i := 10) rfl)
theorem mw_X5_readGroups__12 : (.fieldLink RX5 47 "BallPots$Reader" "kind" "I" : Cond) ∈ wsX5_readGroups := rl_wsX5_readGroups_r1 _ (List.mem_of_getElem? (i := 11) rfl)
theorem mw_X5_readGroups__13 : (.methodLink RX5 57 yX5_isBlank : Cond) ∈ wsX5_readGroups := rl_wsX5_readGroups_r1 _ (List.mem_of_getElem? (i := 12) rfl)
theorem mw_X5_readGroups__14 : (.static yX5_isBlank : Cond) ∈ wsX5_readGroups := rl_wsX5_readGroups_r1 _ (List.mem_of_getElem? (i := 13) rfl)
theorem mw_X5_readGroups__15 : (.code yX5_isBlank cX5_isBlank 1 (some .boolean) : Cond) ∈ wsX5_readGroups := rl_wsX5_readGroups_r1 _ (List.mem_of_getElem? (i := 14) rfl)
theorem mw_X5_readGroups__16 : (.methodLink RX5 61 yX5_isLetter : Cond) ∈ wsX5_readGroups := rl_wsX5_readGroups_r1 _ (List.mem_of_getElem? (i := 15) rfl)
theorem mw_X5_readGroups__17 : (.static yX5_isLetter : Cond) ∈ wsX5_readGroups := rl_wsX5_readGroups_r1 _ (List.mem_of_getElem? (i := 16) rfl)
theorem mw_X5_readGroups__18 : (.code yX5_isLetter cX5_isLetter 1 (some .boolean) : Cond) ∈ wsX5_readGroups := rl_wsX5_readGroups_r1 _ (List.mem_of_getElem? (i := 17) rfl)
theorem mw_X5_readGroups__19 : (.methodLink RX5 64 yX5_stepWord : Cond) ∈ wsX5_readGroups := rl_wsX5_readGroups_r1 _ (List.mem_of_getElem? (i := 18) rfl)
theorem mw_X5_readGroups__20 : (.instanceMethod yX5_stepWord : Cond) ∈ wsX5_readGroups := rl_wsX5_readGroups_r1 _ (List.mem_of_getElem? (i := 19) rfl)
theorem mw_X5_readGroups__21 : (.selects RX5 yX5_stepWord yX5_stepWord : Cond) ∈ wsX5_readGroups := rl_wsX5_readGroups_r1 _ (List.mem_of_getElem? (i := 20) rfl)
theorem mw_X5_readGroups__22 : (.code yX5_stepWord cX5_stepWord 2 none : Cond) ∈ wsX5_readGroups := rl_wsX5_readGroups_r1 _ (List.mem_of_getElem? (i := 21) rfl)
theorem mw_X5_readGroups__23 : (.methodLink RX5 67 yX5_isDigit : Cond) ∈ wsX5_readGroups := rl_wsX5_readGroups_r1 _ (List.mem_of_getElem? (i := 22) rfl)
theorem mw_X5_readGroups__24 : (.static yX5_isDigit : Cond) ∈ wsX5_readGroups := rl_wsX5_readGroups_r1 _ (List.mem_of_getElem? (i := 23) rfl)
theorem mw_X5_readGroups__25 : (.code yX5_isDigit cX5_isDigit 1 (some .boolean) : Cond) ∈ wsX5_readGroups := rl_wsX5_readGroups_r2 _ (List.mem_of_getElem? (i := 0) rfl)
theorem mw_X5_readGroups__26 : (.methodLink RX5 70 yX5_stepNumber : Cond) ∈ wsX5_readGroups := rl_wsX5_readGroups_r2 _ (List.mem_of_getElem? (i := 1) rfl)
theorem mw_X5_readGroups__27 : (.instanceMethod yX5_stepNumber : Cond) ∈ wsX5_readGroups := rl_wsX5_readGroups_r2 _ (List.mem_of_getElem? (i := 2) rfl)
theorem mw_X5_readGroups__28 : (.selects RX5 yX5_stepNumber yX5_stepNumber : Cond) ∈ wsX5_readGroups := rl_wsX5_readGroups_r2 _ (List.mem_of_getElem? (i := 3) rfl)
theorem mw_X5_readGroups__29 : (.code yX5_stepNumber cX5_stepNumber 1 none : Cond) ∈ wsX5_readGroups := rl_wsX5_readGroups_r2 _ (List.mem_of_getElem? (i := 4) rfl)
theorem mw_X5_readGroups__30 : (.methodLink RX5 26 Lib.Math.min.name : Cond) ∈ wsX5_readGroups := rl_wsX5_readGroups_r2 _ (List.mem_of_getElem? (i := 5) rfl)
theorem mw_X5_readGroups__31 : (.static Lib.Math.min.name : Cond) ∈ wsX5_readGroups := rl_wsX5_readGroups_r2 _ (List.mem_of_getElem? (i := 6) rfl)
theorem mw_X5_readGroups__32 : (.initialized "java/lang/Math" : Cond) ∈ wsX5_readGroups := rl_wsX5_readGroups_r2 _ (List.mem_of_getElem? (i := 7) rfl)
theorem mw_X5_readGroups__33 : (.code Lib.Math.min.name Lib.Math.min.code 2 (some .int) : Cond) ∈ wsX5_readGroups := rl_wsX5_readGroups_r2 _ (List.mem_of_getElem? (i := 8) rfl)
theorem mw_X5_readGroups__34 : (.methodLink RX5 108 yX5_isNumber : Cond) ∈ wsX5_readGroups := rl_wsX5_readGroups_r2 _ (List.mem_of_getElem? (i := 9) rfl)
theorem mw_X5_readGroups__35 : (.instanceMethod yX5_isNumber : Cond) ∈ wsX5_readGroups := rl_wsX5_readGroups_r2 _ (List.mem_of_getElem? (i := 10) rfl)
theorem mw_X5_readGroups__36 : (.selects RX5 yX5_isNumber yX5_isNumber : Cond) ∈ wsX5_readGroups := rl_wsX5_readGroups_r2 _ (List.mem_of_getElem? (i := 11) rfl)
theorem mw_X5_readGroups__37 : (.code yX5_isNumber cX5_isNumber 3 (some .boolean) : Cond) ∈ wsX5_readGroups := rl_wsX5_readGroups_r2 _ (List.mem_of_getElem? (i := 12) rfl)
theorem mw_X5_readGroups__38 : (.methodLink RX5 84 yX5_fail : Cond) ∈ wsX5_readGroups := rl_wsX5_readGroups_r2 _ (List.mem_of_getElem? (i := 13) rfl)
theorem mw_X5_readGroups__39 : (.instanceMethod yX5_fail : Cond) ∈ wsX5_readGroups := rl_wsX5_readGroups_r2 _ (List.mem_of_getElem? (i := 14) rfl)
theorem mw_X5_readGroups__40 : (.selects RX5 yX5_fail yX5_fail : Cond) ∈ wsX5_readGroups := rl_wsX5_readGroups_r2 _ (List.mem_of_getElem? (i := 15) rfl)
theorem mw_X5_readGroups__41 : (.code yX5_fail cX5_fail 2 (some .boolean) : Cond) ∈ wsX5_readGroups := rl_wsX5_readGroups_r2 _ (List.mem_of_getElem? (i := 16) rfl)
theorem mw_X5_readGroups__42 : (.fieldLink RX5 38 "BallPots$Reader" "fault" "I" : Cond) ∈ wsX5_readGroups := rl_wsX5_readGroups_r2 _ (List.mem_of_getElem? (i := 17) rfl)
theorem mw_X5_readGroups__43 : (.fieldLink RX5 18 "BallPots$Reader" "place" "I" : Cond) ∈ wsX5_readGroups := rl_wsX5_readGroups_r2 _ (List.mem_of_getElem? (i := 18) rfl)
theorem mw_X5_readHeld__1 : (.fieldLink RX5 12 "BallPots$Reader" "plan" "LBallPots$Plan;" : Cond) ∈ wsX5_readHeld := rl_wsX5_readHeld_r1 _ (List.mem_of_getElem? (i := 0) rfl)
theorem mw_X5_readHeld__2 : (.fieldLink RX5 73 "BallPots$Reader" "value" "I" : Cond) ∈ wsX5_readHeld := rl_wsX5_readHeld_r1 _ (List.mem_of_getElem? (i := 1) rfl)
theorem mw_X5_readHeld__3 : (.methodLink RX5 44 yX5_step : Cond) ∈ wsX5_readHeld := rl_wsX5_readHeld_r1 _ (List.mem_of_getElem? (i := 2) rfl)
theorem mw_X5_readHeld__4 : (.instanceMethod yX5_step : Cond) ∈ wsX5_readHeld := rl_wsX5_readHeld_r1 _ (List.mem_of_getElem? (i := 3) rfl)
theorem mw_X5_readHeld__5 : (.selects RX5 yX5_step yX5_step : Cond) ∈ wsX5_readHeld := rl_wsX5_readHeld_r1 _ (List.mem_of_getElem? (i := 4) rfl)
theorem mw_X5_readHeld__6 : (.initialized RX5 : Cond) ∈ wsX5_readHeld := rl_wsX5_readHeld_r1 _ (List.mem_of_getElem? (i := 5) rfl)
theorem mw_X5_readHeld__7 : (.code yX5_step cX5_step 1 none : Cond) ∈ wsX5_readHeld := rl_wsX5_readHeld_r1 _ (List.mem_of_getElem? (i := 6) rfl)
theorem mw_X5_readHeld__8 : (.fieldLink RX5 35 "BallPots$Reader" "at" "I" : Cond) ∈ wsX5_readHeld := rl_wsX5_readHeld_r1 _ (List.mem_of_getElem? (i := 7) rfl)
theorem mw_X5_readHeld__9 : (.fieldLink RX5 32 "BallPots$Reader" "length" "I" : Cond) ∈ wsX5_readHeld := rl_wsX5_readHeld_r1 _ (List.mem_of_getElem? (i := 8) rfl)
theorem mw_X5_readHeld__10 : (.fieldLink RX5 22 "BallPots$Reader" "signs" "[I" : Cond) ∈ wsX5_readHeld := rl_wsX5_readHeld_r1 _ (List.mem_of_getElem? (i := 9) rfl)
theorem mw_X5_readHeld__11 : (.fieldLink RX5 54 "BallPots$Reader" "start" "I" : Cond) ∈ wsX5_readHeld := rl_wsX5_readHeld_r1 _ (List.mem_of_getElem? (i := 10) rfl)
theorem mw_X5_readHeld__12 : (.fieldLink RX5 47 "BallPots$Reader" "kind" "I" : Cond) ∈ wsX5_readHeld := rl_wsX5_readHeld_r1 _ (List.mem_of_getElem? (i := 11) rfl)
theorem mw_X5_readHeld__13 : (.methodLink RX5 57 yX5_isBlank : Cond) ∈ wsX5_readHeld := rl_wsX5_readHeld_r1 _ (List.mem_of_getElem? (i := 12) rfl)
theorem mw_X5_readHeld__14 : (.static yX5_isBlank : Cond) ∈ wsX5_readHeld := rl_wsX5_readHeld_r1 _ (List.mem_of_getElem? (i := 13) rfl)
theorem mw_X5_readHeld__15 : (.code yX5_isBlank cX5_isBlank 1 (some .boolean) : Cond) ∈ wsX5_readHeld := rl_wsX5_readHeld_r1 _ (List.mem_of_getElem? (i := 14) rfl)
theorem mw_X5_readHeld__16 : (.methodLink RX5 61 yX5_isLetter : Cond) ∈ wsX5_readHeld := rl_wsX5_readHeld_r1 _ (List.mem_of_getElem? (i := 15) rfl)
theorem mw_X5_readHeld__17 : (.static yX5_isLetter : Cond) ∈ wsX5_readHeld := rl_wsX5_readHeld_r1 _ (List.mem_of_getElem? (i := 16) rfl)
theorem mw_X5_readHeld__18 : (.code yX5_isLetter cX5_isLetter 1 (some .boolean) : Cond) ∈ wsX5_readHeld := rl_wsX5_readHeld_r1 _ (List.mem_of_getElem? (i := 17) rfl)
theorem mw_X5_readHeld__19 : (.methodLink RX5 64 yX5_stepWord : Cond) ∈ wsX5_readHeld := rl_wsX5_readHeld_r1 _ (List.mem_of_getElem? (i := 18) rfl)
theorem mw_X5_readHeld__20 : (.instanceMethod yX5_stepWord : Cond) ∈ wsX5_readHeld := rl_wsX5_readHeld_r1 _ (List.mem_of_getElem? (i := 19) rfl)
theorem mw_X5_readHeld__21 : (.selects RX5 yX5_stepWord yX5_stepWord : Cond) ∈ wsX5_readHeld := rl_wsX5_readHeld_r1 _ (List.mem_of_getElem? (i := 20) rfl)
theorem mw_X5_readHeld__22 : (.code yX5_stepWord cX5_stepWord 2 none : Cond) ∈ wsX5_readHeld := rl_wsX5_readHeld_r1 _ (List.mem_of_getElem? (i := 21) rfl)
theorem mw_X5_readHeld__23 : (.methodLink RX5 67 yX5_isDigit : Cond) ∈ wsX5_readHeld := rl_wsX5_readHeld_r1 _ (List.mem_of_getElem? (i := 22) rfl)
theorem mw_X5_readHeld__24 : (.static yX5_isDigit : Cond) ∈ wsX5_readHeld := rl_wsX5_readHeld_r1 _ (List.mem_of_getElem? (i := 23) rfl)
theorem mw_X5_readHeld__25 : (.code yX5_isDigit cX5_isDigit 1 (some .boolean) : Cond) ∈ wsX5_readHeld := rl_wsX5_readHeld_r2 _ (List.mem_of_getElem? (i := 0) rfl)
theorem mw_X5_readHeld__26 : (.methodLink RX5 70 yX5_stepNumber : Cond) ∈ wsX5_readHeld := rl_wsX5_readHeld_r2 _ (List.mem_of_getElem? (i := 1) rfl)
theorem mw_X5_readHeld__27 : (.instanceMethod yX5_stepNumber : Cond) ∈ wsX5_readHeld := rl_wsX5_readHeld_r2 _ (List.mem_of_getElem? (i := 2) rfl)
theorem mw_X5_readHeld__28 : (.selects RX5 yX5_stepNumber yX5_stepNumber : Cond) ∈ wsX5_readHeld := rl_wsX5_readHeld_r2 _ (List.mem_of_getElem? (i := 3) rfl)
theorem mw_X5_readHeld__29 : (.code yX5_stepNumber cX5_stepNumber 1 none : Cond) ∈ wsX5_readHeld := rl_wsX5_readHeld_r2 _ (List.mem_of_getElem? (i := 4) rfl)
theorem mw_X5_readHeld__30 : (.methodLink RX5 26 Lib.Math.min.name : Cond) ∈ wsX5_readHeld := rl_wsX5_readHeld_r2 _ (List.mem_of_getElem? (i := 5) rfl)
theorem mw_X5_readHeld__31 : (.static Lib.Math.min.name : Cond) ∈ wsX5_readHeld := rl_wsX5_readHeld_r2 _ (List.mem_of_getElem? (i := 6) rfl)
theorem mw_X5_readHeld__32 : (.initialized "java/lang/Math" : Cond) ∈ wsX5_readHeld := rl_wsX5_readHeld_r2 _ (List.mem_of_getElem? (i := 7) rfl)
theorem mw_X5_readHeld__33 : (.code Lib.Math.min.name Lib.Math.min.code 2 (some .int) : Cond) ∈ wsX5_readHeld := rl_wsX5_readHeld_r2 _ (List.mem_of_getElem? (i := 8) rfl)
theorem mw_X5_readHeld__34 : (.methodLink RX5 141 yX5_readTeam : Cond) ∈ wsX5_readHeld := rl_wsX5_readHeld_r2 _ (List.mem_of_getElem? (i := 9) rfl)
theorem mw_X5_readHeld__35 : (.instanceMethod yX5_readTeam : Cond) ∈ wsX5_readHeld := rl_wsX5_readHeld_r2 _ (List.mem_of_getElem? (i := 10) rfl)
theorem mw_X5_readHeld__36 : (.selects RX5 yX5_readTeam yX5_readTeam : Cond) ∈ wsX5_readHeld := rl_wsX5_readHeld_r2 _ (List.mem_of_getElem? (i := 11) rfl)
theorem mw_X5_readHeld__37 : (.code yX5_readTeam cX5_readTeam 2 (some .int) : Cond) ∈ wsX5_readHeld := rl_wsX5_readHeld_r2 _ (List.mem_of_getElem? (i := 12) rfl)
theorem mw_X5_readHeld__38 : (.methodLink RX5 121 yX5_isName : Cond) ∈ wsX5_readHeld := rl_wsX5_readHeld_r2 _ (List.mem_of_getElem? (i := 13) rfl)
theorem mw_X5_readHeld__39 : (.instanceMethod yX5_isName : Cond) ∈ wsX5_readHeld := rl_wsX5_readHeld_r2 _ (List.mem_of_getElem? (i := 14) rfl)
theorem mw_X5_readHeld__40 : (.selects RX5 yX5_isName yX5_isName : Cond) ∈ wsX5_readHeld := rl_wsX5_readHeld_r2 _ (List.mem_of_getElem? (i := 15) rfl)
theorem mw_X5_readHeld__41 : (.code yX5_isName cX5_isName 1 (some .boolean) : Cond) ∈ wsX5_readHeld := rl_wsX5_readHeld_r2 _ (List.mem_of_getElem? (i := 16) rfl)
theorem mw_X5_readHeld__42 : (.methodLink RX5 164 yX5_isOfLanguage : Cond) ∈ wsX5_readHeld := rl_wsX5_readHeld_r2 _ (List.mem_of_getElem? (i := 17) rfl)
theorem mw_X5_readHeld__43 : (.static yX5_isOfLanguage : Cond) ∈ wsX5_readHeld := rl_wsX5_readHeld_r2 _ (List.mem_of_getElem? (i := 18) rfl)
theorem mw_X5_readHeld__44 : (.code yX5_isOfLanguage cX5_isOfLanguage 1 (some .boolean) : Cond) ∈ wsX5_readHeld := rl_wsX5_readHeld_r2 _ (List.mem_of_getElem? (i := 19) rfl)
theorem mw_X5_readHeld__45 : (.methodLink RX5 84 yX5_fail : Cond) ∈ wsX5_readHeld := rl_wsX5_readHeld_r2 _ (List.mem_of_getElem? (i := 20) rfl)
theorem mw_X5_readHeld__46 : (.instanceMethod yX5_fail : Cond) ∈ wsX5_readHeld := rl_wsX5_readHeld_r2 _ (List.mem_of_getElem? (i := 21) rfl)
theorem mw_X5_readHeld__47 : (.selects RX5 yX5_fail yX5_fail : Cond) ∈ wsX5_readHeld := rl_wsX5_readHeld_r2 _ (List.mem_of_getElem? (i := 22) rfl)
theorem mw_X5_readHeld__48 : (.code yX5_fail cX5_fail 2 (some .boolean) : Cond) ∈ wsX5_readHeld := rl_wsX5_readHeld_r2 _ (List.mem_of_getElem? (i := 23) rfl)
theorem mw_X5_readHeld__49 : (.fieldLink RX5 38 "BallPots$Reader" "fault" "I" : Cond) ∈ wsX5_readHeld := rl_wsX5_readHeld_r3 _ (List.mem_of_getElem? (i := 0) rfl)
theorem mw_X5_readHeld__50 : (.fieldLink RX5 18 "BallPots$Reader" "place" "I" : Cond) ∈ wsX5_readHeld := rl_wsX5_readHeld_r3 _ (List.mem_of_getElem? (i := 1) rfl)
theorem mw_X5_readHeld__51 : (.methodLink RX5 124 yX3_teamNamed : Cond) ∈ wsX5_readHeld := rl_wsX5_readHeld_r3 _ (List.mem_of_getElem? (i := 2) rfl)
theorem mw_X5_readHeld__52 : (.instanceMethod yX3_teamNamed : Cond) ∈ wsX5_readHeld := rl_wsX5_readHeld_r3 _ (List.mem_of_getElem? (i := 3) rfl)
theorem mw_X5_readHeld__53 : (.selects RX3 yX3_teamNamed yX3_teamNamed : Cond) ∈ wsX5_readHeld := rl_wsX5_readHeld_r3 _ (List.mem_of_getElem? (i := 4) rfl)
theorem mw_X5_readHeld__54 : (.initialized RX3 : Cond) ∈ wsX5_readHeld := rl_wsX5_readHeld_r3 _ (List.mem_of_getElem? (i := 5) rfl)
theorem mw_X5_readHeld__55 : (.code yX3_teamNamed cX3_teamNamed 2 (some .int) : Cond) ∈ wsX5_readHeld := rl_wsX5_readHeld_r3 _ (List.mem_of_getElem? (i := 6) rfl)
theorem mw_X5_readHeld__56 : (.fieldLink RX3 9 "BallPots$Plan" "teamNames" "[I" : Cond) ∈ wsX5_readHeld := rl_wsX5_readHeld_r3 _ (List.mem_of_getElem? (i := 7) rfl)
theorem mw_X5_readHeld__57 : (.fieldLink RX3 34 "BallPots$Plan" "teams" "I" : Cond) ∈ wsX5_readHeld := rl_wsX5_readHeld_r3 _ (List.mem_of_getElem? (i := 8) rfl)
theorem mw_X5_readHeld__58 : (.methodLink RX3 52 yX3_find : Cond) ∈ wsX5_readHeld := rl_wsX5_readHeld_r3 _ (List.mem_of_getElem? (i := 9) rfl)
theorem mw_X5_readHeld__59 : (.static yX3_find : Cond) ∈ wsX5_readHeld := rl_wsX5_readHeld_r3 _ (List.mem_of_getElem? (i := 10) rfl)
theorem mw_X5_readHeld__60 : (.code yX3_find cX3_find 4 (some .int) : Cond) ∈ wsX5_readHeld := rl_wsX5_readHeld_r3 _ (List.mem_of_getElem? (i := 11) rfl)
theorem mw_X5_readHeld__61 : (.methodLink RX5 108 yX5_isNumber : Cond) ∈ wsX5_readHeld := rl_wsX5_readHeld_r3 _ (List.mem_of_getElem? (i := 12) rfl)
theorem mw_X5_readHeld__62 : (.instanceMethod yX5_isNumber : Cond) ∈ wsX5_readHeld := rl_wsX5_readHeld_r3 _ (List.mem_of_getElem? (i := 13) rfl)
theorem mw_X5_readHeld__63 : (.selects RX5 yX5_isNumber yX5_isNumber : Cond) ∈ wsX5_readHeld := rl_wsX5_readHeld_r3 _ (List.mem_of_getElem? (i := 14) rfl)
theorem mw_X5_readHeld__64 : (.code yX5_isNumber cX5_isNumber 3 (some .boolean) : Cond) ∈ wsX5_readHeld := rl_wsX5_readHeld_r3 _ (List.mem_of_getElem? (i := 15) rfl)
theorem mw_X5_readHeld__65 : (.methodLink RX5 158 yX3_addFixed : Cond) ∈ wsX5_readHeld := rl_wsX5_readHeld_r3 _ (List.mem_of_getElem? (i := 16) rfl)
theorem mw_X5_readHeld__66 : (.instanceMethod yX3_addFixed : Cond) ∈ wsX5_readHeld := rl_wsX5_readHeld_r3 _ (List.mem_of_getElem? (i := 17) rfl)
theorem mw_X5_readHeld__67 : (.selects RX3 yX3_addFixed yX3_addFixed : Cond) ∈ wsX5_readHeld := rl_wsX5_readHeld_r3 _ (List.mem_of_getElem? (i := 18) rfl)
theorem mw_X5_readHeld__68 : (.code yX3_addFixed cX3_addFixed 3 none : Cond) ∈ wsX5_readHeld := rl_wsX5_readHeld_r3 _ (List.mem_of_getElem? (i := 19) rfl)
theorem mw_X5_readHeld__69 : (.fieldLink RX3 43 "BallPots$Plan" "groupsNamed" "I" : Cond) ∈ wsX5_readHeld := rl_wsX5_readHeld_r3 _ (List.mem_of_getElem? (i := 20) rfl)
theorem mw_X5_readHeld__70 : (.methodLink RX3 60 yX3_addBar : Cond) ∈ wsX5_readHeld := rl_wsX5_readHeld_r3 _ (List.mem_of_getElem? (i := 21) rfl)
theorem mw_X5_readHeld__71 : (.instanceMethod yX3_addBar : Cond) ∈ wsX5_readHeld := rl_wsX5_readHeld_r3 _ (List.mem_of_getElem? (i := 22) rfl)
theorem mw_X5_readHeld__72 : (.selects RX3 yX3_addBar yX3_addBar : Cond) ∈ wsX5_readHeld := rl_wsX5_readHeld_r3 _ (List.mem_of_getElem? (i := 23) rfl)
theorem mw_X5_readHeld__73 : (.code yX3_addBar cX3_addBar 3 none : Cond) ∈ wsX5_readHeld := rl_wsX5_readHeld_r4 _ (List.mem_of_getElem? (i := 0) rfl)
theorem mw_X5_readHeld__74 : (.fieldLink RX3 40 "BallPots$Plan" "bars" "I" : Cond) ∈ wsX5_readHeld := rl_wsX5_readHeld_r4 _ (List.mem_of_getElem? (i := 1) rfl)
theorem mw_X5_readHeld__75 : (.fieldLink RX3 21 "BallPots$Plan" "barTeams" "[I" : Cond) ∈ wsX5_readHeld := rl_wsX5_readHeld_r4 _ (List.mem_of_getElem? (i := 2) rfl)
theorem mw_X5_readHeld__76 : (.fieldLink RX3 24 "BallPots$Plan" "barRooms" "[I" : Cond) ∈ wsX5_readHeld := rl_wsX5_readHeld_r4 _ (List.mem_of_getElem? (i := 3) rfl)
theorem mw_X5_readHeld__77 : (.methodLink RX5 161 yX3_addNever : Cond) ∈ wsX5_readHeld := rl_wsX5_readHeld_r4 _ (List.mem_of_getElem? (i := 4) rfl)
theorem mw_X5_readHeld__78 : (.instanceMethod yX3_addNever : Cond) ∈ wsX5_readHeld := rl_wsX5_readHeld_r4 _ (List.mem_of_getElem? (i := 5) rfl)
theorem mw_X5_readHeld__79 : (.selects RX3 yX3_addNever yX3_addNever : Cond) ∈ wsX5_readHeld := rl_wsX5_readHeld_r4 _ (List.mem_of_getElem? (i := 6) rfl)
theorem mw_X5_readHeld__80 : (.code yX3_addNever cX3_addNever 3 none : Cond) ∈ wsX5_readHeld := rl_wsX5_readHeld_r4 _ (List.mem_of_getElem? (i := 7) rfl)
theorem mw_X5_readLine__1 : (.methodLink RX5 76 yX5_readUpToStop : Cond) ∈ wsX5_readLine := rl_wsX5_readLine_r1 _ (List.mem_of_getElem? (i := 0) rfl)
theorem mw_X5_readLine__2 : (.instanceMethod yX5_readUpToStop : Cond) ∈ wsX5_readLine := rl_wsX5_readLine_r1 _ (List.mem_of_getElem? (i := 1) rfl)
theorem mw_X5_readLine__3 : (.selects RX5 yX5_readUpToStop yX5_readUpToStop : Cond) ∈ wsX5_readLine := rl_wsX5_readLine_r1 _ (List.mem_of_getElem? (i := 2) rfl)
theorem mw_X5_readLine__4 : (.initialized RX5 : Cond) ∈ wsX5_readLine := rl_wsX5_readLine_r1 _ (List.mem_of_getElem? (i := 3) rfl)
theorem mw_X5_readLine__5 : (.code yX5_readUpToStop cX5_readUpToStop 2 (some .boolean) : Cond) ∈ wsX5_readLine := rl_wsX5_readLine_r1 _ (List.mem_of_getElem? (i := 4) rfl)
theorem mw_X5_readLine__6 : (.fieldLink RX5 47 "BallPots$Reader" "kind" "I" : Cond) ∈ wsX5_readLine := rl_wsX5_readLine_r1 _ (List.mem_of_getElem? (i := 5) rfl)
theorem mw_X5_readLine__7 : (.fieldLink RX5 73 "BallPots$Reader" "value" "I" : Cond) ∈ wsX5_readLine := rl_wsX5_readLine_r1 _ (List.mem_of_getElem? (i := 6) rfl)
theorem mw_X5_readLine__8 : (.constant RX5 83 (254268947) : Cond) ∈ wsX5_readLine := rl_wsX5_readLine_r1 _ (List.mem_of_getElem? (i := 7) rfl)
theorem mw_X5_readLine__9 : (.methodLink RX5 84 yX5_fail : Cond) ∈ wsX5_readLine := rl_wsX5_readLine_r1 _ (List.mem_of_getElem? (i := 8) rfl)
theorem mw_X5_readLine__10 : (.instanceMethod yX5_fail : Cond) ∈ wsX5_readLine := rl_wsX5_readLine_r1 _ (List.mem_of_getElem? (i := 9) rfl)
theorem mw_X5_readLine__11 : (.selects RX5 yX5_fail yX5_fail : Cond) ∈ wsX5_readLine := rl_wsX5_readLine_r1 _ (List.mem_of_getElem? (i := 10) rfl)
theorem mw_X5_readLine__12 : (.code yX5_fail cX5_fail 2 (some .boolean) : Cond) ∈ wsX5_readLine := rl_wsX5_readLine_r1 _ (List.mem_of_getElem? (i := 11) rfl)
theorem mw_X5_readLine__13 : (.fieldLink RX5 38 "BallPots$Reader" "fault" "I" : Cond) ∈ wsX5_readLine := rl_wsX5_readLine_r1 _ (List.mem_of_getElem? (i := 12) rfl)
theorem mw_X5_readLine__14 : (.fieldLink RX5 54 "BallPots$Reader" "start" "I" : Cond) ∈ wsX5_readLine := rl_wsX5_readLine_r1 _ (List.mem_of_getElem? (i := 13) rfl)
theorem mw_X5_readLine__15 : (.fieldLink RX5 18 "BallPots$Reader" "place" "I" : Cond) ∈ wsX5_readLine := rl_wsX5_readLine_r1 _ (List.mem_of_getElem? (i := 14) rfl)
theorem mw_X5_readLine__16 : (.methodLink RX5 87 yX5_readGroups : Cond) ∈ wsX5_readLine := rl_wsX5_readLine_r1 _ (List.mem_of_getElem? (i := 15) rfl)
theorem mw_X5_readLine__17 : (.instanceMethod yX5_readGroups : Cond) ∈ wsX5_readLine := rl_wsX5_readLine_r1 _ (List.mem_of_getElem? (i := 16) rfl)
theorem mw_X5_readLine__18 : (.selects RX5 yX5_readGroups yX5_readGroups : Cond) ∈ wsX5_readLine := rl_wsX5_readLine_r1 _ (List.mem_of_getElem? (i := 17) rfl)
theorem mw_X5_readLine__19 : (.code yX5_readGroups cX5_readGroups 1 (some .boolean) : Cond) ∈ wsX5_readLine := rl_wsX5_readLine_r1 _ (List.mem_of_getElem? (i := 18) rfl)
theorem mw_X5_readLine__20 : (.fieldLink RX5 12 "BallPots$Reader" "plan" "LBallPots$Plan;" : Cond) ∈ wsX5_readLine := rl_wsX5_readLine_r1 _ (List.mem_of_getElem? (i := 19) rfl)
theorem mw_X5_readLine__21 : (.methodLink RX5 44 yX5_step : Cond) ∈ wsX5_readLine := rl_wsX5_readLine_r1 _ (List.mem_of_getElem? (i := 20) rfl)
theorem mw_X5_readLine__22 : (.instanceMethod yX5_step : Cond) ∈ wsX5_readLine := rl_wsX5_readLine_r1 _ (List.mem_of_getElem? (i := 21) rfl)
theorem mw_X5_readLine__23 : (.selects RX5 yX5_step yX5_step : Cond) ∈ wsX5_readLine := rl_wsX5_readLine_r1 _ (List.mem_of_getElem? (i := 22) rfl)
theorem mw_X5_readLine__24 : (.code yX5_step cX5_step 1 none : Cond) ∈ wsX5_readLine := rl_wsX5_readLine_r1 _ (List.mem_of_getElem? (i := 23) rfl)
theorem mw_X5_readLine__25 : (.fieldLink RX5 35 "BallPots$Reader" "at" "I" : Cond) ∈ wsX5_readLine := rl_wsX5_readLine_r2 _ (List.mem_of_getElem? (i := 0) rfl)
theorem mw_X5_readLine__26 : (.fieldLink RX5 32 "BallPots$Reader" "length" "I" : Cond) ∈ wsX5_readLine := rl_wsX5_readLine_r2 _ (List.mem_of_getElem? (i := 1) rfl)
theorem mw_X5_readLine__27 : (.fieldLink RX5 22 "BallPots$Reader" "signs" "[I" : Cond) ∈ wsX5_readLine := rl_wsX5_readLine_r2 _ (List.mem_of_getElem? (i := 2) rfl)
theorem mw_X5_readLine__28 : (.methodLink RX5 57 yX5_isBlank : Cond) ∈ wsX5_readLine := rl_wsX5_readLine_r2 _ (List.mem_of_getElem? (i := 3) rfl)
theorem mw_X5_readLine__29 : (.static yX5_isBlank : Cond) ∈ wsX5_readLine := rl_wsX5_readLine_r2 _ (List.mem_of_getElem? (i := 4) rfl)
theorem mw_X5_readLine__30 : (.code yX5_isBlank cX5_isBlank 1 (some .boolean) : Cond) ∈ wsX5_readLine := rl_wsX5_readLine_r2 _ (List.mem_of_getElem? (i := 5) rfl)
theorem mw_X5_readLine__31 : (.methodLink RX5 61 yX5_isLetter : Cond) ∈ wsX5_readLine := rl_wsX5_readLine_r2 _ (List.mem_of_getElem? (i := 6) rfl)
theorem mw_X5_readLine__32 : (.static yX5_isLetter : Cond) ∈ wsX5_readLine := rl_wsX5_readLine_r2 _ (List.mem_of_getElem? (i := 7) rfl)
theorem mw_X5_readLine__33 : (.code yX5_isLetter cX5_isLetter 1 (some .boolean) : Cond) ∈ wsX5_readLine := rl_wsX5_readLine_r2 _ (List.mem_of_getElem? (i := 8) rfl)
theorem mw_X5_readLine__34 : (.methodLink RX5 64 yX5_stepWord : Cond) ∈ wsX5_readLine := rl_wsX5_readLine_r2 _ (List.mem_of_getElem? (i := 9) rfl)
theorem mw_X5_readLine__35 : (.instanceMethod yX5_stepWord : Cond) ∈ wsX5_readLine := rl_wsX5_readLine_r2 _ (List.mem_of_getElem? (i := 10) rfl)
theorem mw_X5_readLine__36 : (.selects RX5 yX5_stepWord yX5_stepWord : Cond) ∈ wsX5_readLine := rl_wsX5_readLine_r2 _ (List.mem_of_getElem? (i := 11) rfl)
theorem mw_X5_readLine__37 : (.code yX5_stepWord cX5_stepWord 2 none : Cond) ∈ wsX5_readLine := rl_wsX5_readLine_r2 _ (List.mem_of_getElem? (i := 12) rfl)
theorem mw_X5_readLine__38 : (.methodLink RX5 67 yX5_isDigit : Cond) ∈ wsX5_readLine := rl_wsX5_readLine_r2 _ (List.mem_of_getElem? (i := 13) rfl)
theorem mw_X5_readLine__39 : (.static yX5_isDigit : Cond) ∈ wsX5_readLine := rl_wsX5_readLine_r2 _ (List.mem_of_getElem? (i := 14) rfl)
theorem mw_X5_readLine__40 : (.code yX5_isDigit cX5_isDigit 1 (some .boolean) : Cond) ∈ wsX5_readLine := rl_wsX5_readLine_r2 _ (List.mem_of_getElem? (i := 15) rfl)
theorem mw_X5_readLine__41 : (.methodLink RX5 70 yX5_stepNumber : Cond) ∈ wsX5_readLine := rl_wsX5_readLine_r2 _ (List.mem_of_getElem? (i := 16) rfl)
theorem mw_X5_readLine__42 : (.instanceMethod yX5_stepNumber : Cond) ∈ wsX5_readLine := rl_wsX5_readLine_r2 _ (List.mem_of_getElem? (i := 17) rfl)
theorem mw_X5_readLine__43 : (.selects RX5 yX5_stepNumber yX5_stepNumber : Cond) ∈ wsX5_readLine := rl_wsX5_readLine_r2 _ (List.mem_of_getElem? (i := 18) rfl)
theorem mw_X5_readLine__44 : (.code yX5_stepNumber cX5_stepNumber 1 none : Cond) ∈ wsX5_readLine := rl_wsX5_readLine_r2 _ (List.mem_of_getElem? (i := 19) rfl)
theorem mw_X5_readLine__45 : (.methodLink RX5 26 Lib.Math.min.name : Cond) ∈ wsX5_readLine := rl_wsX5_readLine_r2 _ (List.mem_of_getElem? (i := 20) rfl)
theorem mw_X5_readLine__46 : (.static Lib.Math.min.name : Cond) ∈ wsX5_readLine := rl_wsX5_readLine_r2 _ (List.mem_of_getElem? (i := 21) rfl)
theorem mw_X5_readLine__47 : (.initialized "java/lang/Math" : Cond) ∈ wsX5_readLine := rl_wsX5_readLine_r2 _ (List.mem_of_getElem? (i := 22) rfl)
theorem mw_X5_readLine__48 : (.code Lib.Math.min.name Lib.Math.min.code 2 (some .int) : Cond) ∈ wsX5_readLine := rl_wsX5_readLine_r2 _ (List.mem_of_getElem? (i := 23) rfl)
theorem mw_X5_readLine__49 : (.methodLink RX5 108 yX5_isNumber : Cond) ∈ wsX5_readLine := rl_wsX5_readLine_r3 _ (List.mem_of_getElem? (i := 0) rfl)
theorem mw_X5_readLine__50 : (.instanceMethod yX5_isNumber : Cond) ∈ wsX5_readLine := rl_wsX5_readLine_r3 _ (List.mem_of_getElem? (i := 1) rfl)
theorem mw_X5_readLine__51 : (.selects RX5 yX5_isNumber yX5_isNumber : Cond) ∈ wsX5_readLine := rl_wsX5_readLine_r3 _ (List.mem_of_getElem? (i := 2) rfl)
theorem mw_X5_readLine__52 : (.code yX5_isNumber cX5_isNumber 3 (some .boolean) : Cond) ∈ wsX5_readLine := rl_wsX5_readLine_r3 _ (List.mem_of_getElem? (i := 3) rfl)
theorem mw_X5_readLine__53 : (.methodLink RX5 90 yX5_readPot : Cond) ∈ wsX5_readLine := rl_wsX5_readLine_r3 _ (List.mem_of_getElem? (i := 4) rfl)
theorem mw_X5_readLine__54 : (.instanceMethod yX5_readPot : Cond) ∈ wsX5_readLine := rl_wsX5_readLine_r3 _ (List.mem_of_getElem? (i := 5) rfl)
theorem mw_X5_readLine__55 : (.selects RX5 yX5_readPot yX5_readPot : Cond) ∈ wsX5_readLine := rl_wsX5_readLine_r3 _ (List.mem_of_getElem? (i := 6) rfl)
theorem mw_X5_readLine__56 : (.code yX5_readPot cX5_readPot 3 (some .boolean) : Cond) ∈ wsX5_readLine := rl_wsX5_readLine_r3 _ (List.mem_of_getElem? (i := 7) rfl)
theorem mw_X5_readLine__57 : (.methodLink RX5 121 yX5_isName : Cond) ∈ wsX5_readLine := rl_wsX5_readLine_r3 _ (List.mem_of_getElem? (i := 8) rfl)
theorem mw_X5_readLine__58 : (.instanceMethod yX5_isName : Cond) ∈ wsX5_readLine := rl_wsX5_readLine_r3 _ (List.mem_of_getElem? (i := 9) rfl)
theorem mw_X5_readLine__59 : (.selects RX5 yX5_isName yX5_isName : Cond) ∈ wsX5_readLine := rl_wsX5_readLine_r3 _ (List.mem_of_getElem? (i := 10) rfl)
theorem mw_X5_readLine__60 : (.code yX5_isName cX5_isName 1 (some .boolean) : Cond) ∈ wsX5_readLine := rl_wsX5_readLine_r3 _ (List.mem_of_getElem? (i := 11) rfl)
theorem mw_X5_readLine__61 : (.methodLink RX5 164 yX5_isOfLanguage : Cond) ∈ wsX5_readLine := rl_wsX5_readLine_r3 _ (List.mem_of_getElem? (i := 12) rfl)
theorem mw_X5_readLine__62 : (.static yX5_isOfLanguage : Cond) ∈ wsX5_readLine := rl_wsX5_readLine_r3 _ (List.mem_of_getElem? (i := 13) rfl)
theorem mw_X5_readLine__63 : (.code yX5_isOfLanguage cX5_isOfLanguage 1 (some .boolean) : Cond) ∈ wsX5_readLine := rl_wsX5_readLine_r3 _ (List.mem_of_getElem? (i := 14) rfl)
theorem mw_X5_readLine__64 : (.methodLink RX5 124 yX3_teamNamed : Cond) ∈ wsX5_readLine := rl_wsX5_readLine_r3 _ (List.mem_of_getElem? (i := 15) rfl)
theorem mw_X5_readLine__65 : (.instanceMethod yX3_teamNamed : Cond) ∈ wsX5_readLine := rl_wsX5_readLine_r3 _ (List.mem_of_getElem? (i := 16) rfl)
theorem mw_X5_readLine__66 : (.selects RX3 yX3_teamNamed yX3_teamNamed : Cond) ∈ wsX5_readLine := rl_wsX5_readLine_r3 _ (List.mem_of_getElem? (i := 17) rfl)
theorem mw_X5_readLine__67 : (.initialized RX3 : Cond) ∈ wsX5_readLine := rl_wsX5_readLine_r3 _ (List.mem_of_getElem? (i := 18) rfl)
theorem mw_X5_readLine__68 : (.code yX3_teamNamed cX3_teamNamed 2 (some .int) : Cond) ∈ wsX5_readLine := rl_wsX5_readLine_r3 _ (List.mem_of_getElem? (i := 19) rfl)
theorem mw_X5_readLine__69 : (.fieldLink RX3 9 "BallPots$Plan" "teamNames" "[I" : Cond) ∈ wsX5_readLine := rl_wsX5_readLine_r3 _ (List.mem_of_getElem? (i := 20) rfl)
theorem mw_X5_readLine__70 : (.fieldLink RX3 34 "BallPots$Plan" "teams" "I" : Cond) ∈ wsX5_readLine := rl_wsX5_readLine_r3 _ (List.mem_of_getElem? (i := 21) rfl)
theorem mw_X5_readLine__71 : (.methodLink RX3 52 yX3_find : Cond) ∈ wsX5_readLine := rl_wsX5_readLine_r3 _ (List.mem_of_getElem? (i := 22) rfl)
theorem mw_X5_readLine__72 : (.static yX3_find : Cond) ∈ wsX5_readLine := rl_wsX5_readLine_r3 _ (List.mem_of_getElem? (i := 23) rfl)
theorem mw_X5_readLine__73 : (.code yX3_find cX3_find 4 (some .int) : Cond) ∈ wsX5_readLine := rl_wsX5_readLine_r4 _ (List.mem_of_getElem? (i := 0) rfl)
theorem mw_X5_readLine__74 : (.methodLink RX5 128 yX3_addTeam : Cond) ∈ wsX5_readLine := rl_wsX5_readLine_r4 _ (List.mem_of_getElem? (i := 1) rfl)
theorem mw_X5_readLine__75 : (.instanceMethod yX3_addTeam : Cond) ∈ wsX5_readLine := rl_wsX5_readLine_r4 _ (List.mem_of_getElem? (i := 2) rfl)
theorem mw_X5_readLine__76 : (.selects RX3 yX3_addTeam yX3_addTeam : Cond) ∈ wsX5_readLine := rl_wsX5_readLine_r4 _ (List.mem_of_getElem? (i := 3) rfl)
theorem mw_X5_readLine__77 : (.code yX3_addTeam cX3_addTeam 2 none : Cond) ∈ wsX5_readLine := rl_wsX5_readLine_r4 _ (List.mem_of_getElem? (i := 4) rfl)
theorem mw_X5_readLine__78 : (.fieldLink RX3 15 "BallPots$Plan" "marksOf" "[I" : Cond) ∈ wsX5_readLine := rl_wsX5_readLine_r4 _ (List.mem_of_getElem? (i := 5) rfl)
theorem mw_X5_readLine__79 : (.methodLink RX5 93 yX5_readMark : Cond) ∈ wsX5_readLine := rl_wsX5_readLine_r4 _ (List.mem_of_getElem? (i := 6) rfl)
theorem mw_X5_readLine__80 : (.instanceMethod yX5_readMark : Cond) ∈ wsX5_readLine := rl_wsX5_readLine_r4 _ (List.mem_of_getElem? (i := 7) rfl)
theorem mw_X5_readLine__81 : (.selects RX5 yX5_readMark yX5_readMark : Cond) ∈ wsX5_readLine := rl_wsX5_readLine_r4 _ (List.mem_of_getElem? (i := 8) rfl)
theorem mw_X5_readLine__82 : (.code yX5_readMark cX5_readMark 5 (some .boolean) : Cond) ∈ wsX5_readLine := rl_wsX5_readLine_r4 _ (List.mem_of_getElem? (i := 9) rfl)
theorem mw_X5_readLine__83 : (.methodLink RX5 135 yX3_markNamed : Cond) ∈ wsX5_readLine := rl_wsX5_readLine_r4 _ (List.mem_of_getElem? (i := 10) rfl)
theorem mw_X5_readLine__84 : (.instanceMethod yX3_markNamed : Cond) ∈ wsX5_readLine := rl_wsX5_readLine_r4 _ (List.mem_of_getElem? (i := 11) rfl)
theorem mw_X5_readLine__85 : (.selects RX3 yX3_markNamed yX3_markNamed : Cond) ∈ wsX5_readLine := rl_wsX5_readLine_r4 _ (List.mem_of_getElem? (i := 12) rfl)
theorem mw_X5_readLine__86 : (.code yX3_markNamed cX3_markNamed 2 (some .int) : Cond) ∈ wsX5_readLine := rl_wsX5_readLine_r4 _ (List.mem_of_getElem? (i := 13) rfl)
theorem mw_X5_readLine__87 : (.fieldLink RX3 18 "BallPots$Plan" "markNames" "[I" : Cond) ∈ wsX5_readLine := rl_wsX5_readLine_r4 _ (List.mem_of_getElem? (i := 14) rfl)
theorem mw_X5_readLine__88 : (.fieldLink RX3 37 "BallPots$Plan" "marks" "I" : Cond) ∈ wsX5_readLine := rl_wsX5_readLine_r4 _ (List.mem_of_getElem? (i := 15) rfl)
theorem mw_X5_readLine__89 : (.methodLink RX5 138 yX3_addMark : Cond) ∈ wsX5_readLine := rl_wsX5_readLine_r4 _ (List.mem_of_getElem? (i := 16) rfl)
theorem mw_X5_readLine__90 : (.instanceMethod yX3_addMark : Cond) ∈ wsX5_readLine := rl_wsX5_readLine_r4 _ (List.mem_of_getElem? (i := 17) rfl)
theorem mw_X5_readLine__91 : (.selects RX3 yX3_addMark yX3_addMark : Cond) ∈ wsX5_readLine := rl_wsX5_readLine_r4 _ (List.mem_of_getElem? (i := 18) rfl)
theorem mw_X5_readLine__92 : (.code yX3_addMark cX3_addMark 2 none : Cond) ∈ wsX5_readLine := rl_wsX5_readLine_r4 _ (List.mem_of_getElem? (i := 19) rfl)
theorem mw_X5_readLine__93 : (.methodLink RX5 141 yX5_readTeam : Cond) ∈ wsX5_readLine := rl_wsX5_readLine_r4 _ (List.mem_of_getElem? (i := 20) rfl)
theorem mw_X5_readLine__94 : (.instanceMethod yX5_readTeam : Cond) ∈ wsX5_readLine := rl_wsX5_readLine_r4 _ (List.mem_of_getElem? (i := 21) rfl)
theorem mw_X5_readLine__95 : (.selects RX5 yX5_readTeam yX5_readTeam : Cond) ∈ wsX5_readLine := rl_wsX5_readLine_r4 _ (List.mem_of_getElem? (i := 22) rfl)
theorem mw_X5_readLine__96 : (.code yX5_readTeam cX5_readTeam 2 (some .int) : Cond) ∈ wsX5_readLine := rl_wsX5_readLine_r4 _ (List.mem_of_getElem? (i := 23) rfl)
theorem mw_X5_readLine__97 : (.methodLink RX5 96 yX5_isRoomForBar : Cond) ∈ wsX5_readLine := rl_wsX5_readLine_r5 _ (List.mem_of_getElem? (i := 0) rfl)
theorem mw_X5_readLine__98 : (.instanceMethod yX5_isRoomForBar : Cond) ∈ wsX5_readLine := rl_wsX5_readLine_r5 _ (List.mem_of_getElem? (i := 1) rfl)
theorem mw_X5_readLine__99 : (.selects RX5 yX5_isRoomForBar yX5_isRoomForBar : Cond) ∈ wsX5_readLine := rl_wsX5_readLine_r5 _ (List.mem_of_getElem? (i := 2) rfl)
theorem mw_X5_readLine__100 : (.code yX5_isRoomForBar cX5_isRoomForBar 1 (some .boolean) : Cond) ∈ wsX5_readLine := rl_wsX5_readLine_r5 _ (List.mem_of_getElem? (i := 3) rfl)
theorem mw_X5_readLine__101 : (.methodLink RX5 99 yX5_readAtMost : Cond) ∈ wsX5_readLine := rl_wsX5_readLine_r5 _ (List.mem_of_getElem? (i := 4) rfl)
theorem mw_X5_readLine__102 : (.instanceMethod yX5_readAtMost : Cond) ∈ wsX5_readLine := rl_wsX5_readLine_r5 _ (List.mem_of_getElem? (i := 5) rfl)
theorem mw_X5_readLine__103 : (.selects RX5 yX5_readAtMost yX5_readAtMost : Cond) ∈ wsX5_readLine := rl_wsX5_readLine_r5 _ (List.mem_of_getElem? (i := 6) rfl)
theorem mw_X5_readLine__104 : (.code yX5_readAtMost cX5_readAtMost 3 (some .boolean) : Cond) ∈ wsX5_readLine := rl_wsX5_readLine_r5 _ (List.mem_of_getElem? (i := 7) rfl)
theorem mw_X5_readLine__105 : (.methodLink RX5 151 yX3_teamsMarked : Cond) ∈ wsX5_readLine := rl_wsX5_readLine_r5 _ (List.mem_of_getElem? (i := 8) rfl)
theorem mw_X5_readLine__106 : (.instanceMethod yX3_teamsMarked : Cond) ∈ wsX5_readLine := rl_wsX5_readLine_r5 _ (List.mem_of_getElem? (i := 9) rfl)
theorem mw_X5_readLine__107 : (.selects RX3 yX3_teamsMarked yX3_teamsMarked : Cond) ∈ wsX5_readLine := rl_wsX5_readLine_r5 _ (List.mem_of_getElem? (i := 10) rfl)
theorem mw_X5_readLine__108 : (.code yX3_teamsMarked cX3_teamsMarked 4 (some .int) : Cond) ∈ wsX5_readLine := rl_wsX5_readLine_r5 _ (List.mem_of_getElem? (i := 11) rfl)
theorem mw_X5_readLine__109 : (.methodLink RX5 154 yX3_addAtMost : Cond) ∈ wsX5_readLine := rl_wsX5_readLine_r5 _ (List.mem_of_getElem? (i := 12) rfl)
theorem mw_X5_readLine__110 : (.instanceMethod yX3_addAtMost : Cond) ∈ wsX5_readLine := rl_wsX5_readLine_r5 _ (List.mem_of_getElem? (i := 13) rfl)
theorem mw_X5_readLine__111 : (.selects RX3 yX3_addAtMost yX3_addAtMost : Cond) ∈ wsX5_readLine := rl_wsX5_readLine_r5 _ (List.mem_of_getElem? (i := 14) rfl)
theorem mw_X5_readLine__112 : (.code yX3_addAtMost cX3_addAtMost 3 none : Cond) ∈ wsX5_readLine := rl_wsX5_readLine_r5 _ (List.mem_of_getElem? (i := 15) rfl)
theorem mw_X5_readLine__113 : (.methodLink RX3 60 yX3_addBar : Cond) ∈ wsX5_readLine := rl_wsX5_readLine_r5 _ (List.mem_of_getElem? (i := 16) rfl)
theorem mw_X5_readLine__114 : (.instanceMethod yX3_addBar : Cond) ∈ wsX5_readLine := rl_wsX5_readLine_r5 _ (List.mem_of_getElem? (i := 17) rfl)
theorem mw_X5_readLine__115 : (.selects RX3 yX3_addBar yX3_addBar : Cond) ∈ wsX5_readLine := rl_wsX5_readLine_r5 _ (List.mem_of_getElem? (i := 18) rfl)
theorem mw_X5_readLine__116 : (.code yX3_addBar cX3_addBar 3 none : Cond) ∈ wsX5_readLine := rl_wsX5_readLine_r5 _ (List.mem_of_getElem? (i := 19) rfl)
theorem mw_X5_readLine__117 : (.fieldLink RX3 40 "BallPots$Plan" "bars" "I" : Cond) ∈ wsX5_readLine := rl_wsX5_readLine_r5 _ (List.mem_of_getElem? (i := 20) rfl)
theorem mw_X5_readLine__118 : (.fieldLink RX3 21 "BallPots$Plan" "barTeams" "[I" : Cond) ∈ wsX5_readLine := rl_wsX5_readLine_r5 _ (List.mem_of_getElem? (i := 21) rfl)
theorem mw_X5_readLine__119 : (.fieldLink RX3 24 "BallPots$Plan" "barRooms" "[I" : Cond) ∈ wsX5_readLine := rl_wsX5_readLine_r5 _ (List.mem_of_getElem? (i := 22) rfl)
theorem mw_X5_readLine__120 : (.methodLink RX5 102 yX5_readApart : Cond) ∈ wsX5_readLine := rl_wsX5_readLine_r5 _ (List.mem_of_getElem? (i := 23) rfl)
theorem mw_X5_readLine__121 : (.instanceMethod yX5_readApart : Cond) ∈ wsX5_readLine := rl_wsX5_readLine_r6 _ (List.mem_of_getElem? (i := 0) rfl)
theorem mw_X5_readLine__122 : (.selects RX5 yX5_readApart yX5_readApart : Cond) ∈ wsX5_readLine := rl_wsX5_readLine_r6 _ (List.mem_of_getElem? (i := 1) rfl)
theorem mw_X5_readLine__123 : (.code yX5_readApart cX5_readApart 3 (some .boolean) : Cond) ∈ wsX5_readLine := rl_wsX5_readLine_r6 _ (List.mem_of_getElem? (i := 2) rfl)
theorem mw_X5_readLine__124 : (.methodLink RX5 105 yX5_readHeld : Cond) ∈ wsX5_readLine := rl_wsX5_readLine_r6 _ (List.mem_of_getElem? (i := 3) rfl)
theorem mw_X5_readLine__125 : (.instanceMethod yX5_readHeld : Cond) ∈ wsX5_readLine := rl_wsX5_readLine_r6 _ (List.mem_of_getElem? (i := 4) rfl)
theorem mw_X5_readLine__126 : (.selects RX5 yX5_readHeld yX5_readHeld : Cond) ∈ wsX5_readLine := rl_wsX5_readLine_r6 _ (List.mem_of_getElem? (i := 5) rfl)
theorem mw_X5_readLine__127 : (.code yX5_readHeld cX5_readHeld 3 (some .boolean) : Cond) ∈ wsX5_readLine := rl_wsX5_readLine_r6 _ (List.mem_of_getElem? (i := 6) rfl)
theorem mw_X5_readLine__128 : (.methodLink RX5 158 yX3_addFixed : Cond) ∈ wsX5_readLine := rl_wsX5_readLine_r6 _ (List.mem_of_getElem? (i := 7) rfl)
theorem mw_X5_readLine__129 : (.instanceMethod yX3_addFixed : Cond) ∈ wsX5_readLine := rl_wsX5_readLine_r6 _ (List.mem_of_getElem? (i := 8) rfl)
theorem mw_X5_readLine__130 : (.selects RX3 yX3_addFixed yX3_addFixed : Cond) ∈ wsX5_readLine := rl_wsX5_readLine_r6 _ (List.mem_of_getElem? (i := 9) rfl)
theorem mw_X5_readLine__131 : (.code yX3_addFixed cX3_addFixed 3 none : Cond) ∈ wsX5_readLine := rl_wsX5_readLine_r6 _ (List.mem_of_getElem? (i := 10) rfl)
theorem mw_X5_readLine__132 : (.fieldLink RX3 43 "BallPots$Plan" "groupsNamed" "I" : Cond) ∈ wsX5_readLine := rl_wsX5_readLine_r6 _ (List.mem_of_getElem? (i := 11) rfl)
theorem mw_X5_readLine__133 : (.methodLink RX5 161 yX3_addNever : Cond) ∈ wsX5_readLine := rl_wsX5_readLine_r6 _ (List.mem_of_getElem? (i := 12) rfl)
theorem mw_X5_readLine__134 : (.instanceMethod yX3_addNever : Cond) ∈ wsX5_readLine := rl_wsX5_readLine_r6 _ (List.mem_of_getElem? (i := 13) rfl)
theorem mw_X5_readLine__135 : (.selects RX3 yX3_addNever yX3_addNever : Cond) ∈ wsX5_readLine := rl_wsX5_readLine_r6 _ (List.mem_of_getElem? (i := 14) rfl)
theorem mw_X5_readLine__136 : (.code yX3_addNever cX3_addNever 3 none : Cond) ∈ wsX5_readLine := rl_wsX5_readLine_r6 _ (List.mem_of_getElem? (i := 15) rfl)
theorem mw_X5_readLine__137 : (.methodLink RX5 79 yX5_readStop : Cond) ∈ wsX5_readLine := rl_wsX5_readLine_r6 _ (List.mem_of_getElem? (i := 16) rfl)
theorem mw_X5_readLine__138 : (.instanceMethod yX5_readStop : Cond) ∈ wsX5_readLine := rl_wsX5_readLine_r6 _ (List.mem_of_getElem? (i := 17) rfl)
