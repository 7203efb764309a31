set_option maxHeartbeats 4000000 in
set_option maxRecDepth 100000 in
theorem k395_X12_nearest {l : Launch} {D : va_G} {Y : Nat → ClassId} {tt : Nat → Nat} (h0 h1 h2 h3 h4 h5 h6 h7 h8 h9 h10 h11 h12 h13 h14 h15 h16 h17 h18 h19 h20 h21 h22 h23 h24 h25 h26 h27 h28 h29 h30 h31 h32 h33 h34 h35 : Nat) (sz : Nat) : Met l yX12_nearest wsX12_nearest ({ frames := 3, cells := 0, slots := 0, locals := 86 }) (jw_Pc D Y tt [.ref h0, .int 1] [(h0, .inr (15, [.ref h14, .int 0, .int 0, .ref h15, .int 0, .int (-1), .int 0, .int 0, .int 0, .int 0, .int 0, .int 2, .int 0, .int 0, .int 0, .ref h16, .ref h17, .ref h18, .ref h19, .int 2, .int 0, .int 0, .int 0, .int 0, .ref h20, .ref h21, .ref h22, .ref h23, .int 2, .ref h1, .int 1, .ref h2, .ref h24, .int 1, .ref h25, .ref h3, .ref h4, .int 0, .ref h26, .ref h27, .ref h5, .ref h6, .ref h7, .ref h8, .ref h9, .ref h10, .ref h11, .int 0, .ref h12, .ref h28, .ref h13, .int (-1), .ref h29, .long 0, .long 0, .int 0, .int 0, .long 0, .long 0, .ref h30, .ref h31, .ref h32, .ref h33, .ref h34, .ref h35, .long 0])), (h1, .inl (Y 1, 100, .inl (jw_l 0 [0, 1, 0, 0, 1, 0, 0, 0, 1, 1]))), (h2, .inl (Y 1, 13824, .inl (jw_l 0 [0]))), (h3, .inl (Y 1, 4, .inl (jw_l 0 [0, 1, 2, 3]))), (h4, .inl (Y 1, 4, .inl (jw_l 0 [0, 1, 2, 3]))), (h5, .inl (Y 1, 4, .inl (jw_l 0 []))), (h6, .inl (Y 1, 4, .inl (jw_l 0 []))), (h7, .inl (Y 1, 6, .inl (jw_l 0 []))), (h8, .inl (Y 1, 14425, .inl (jw_l 0 []))), (h9, .inl (Y 2, 14425, .inr (.inl (jw_L 0 [])))), (h10, .inl (Y 1, 13824, .inl (jw_l 0 []))), (h11, .inl (Y 1, 16, .inl (jw_l 0 []))), (h12, .inl (Y 1, 5, .inl (jw_l 0 []))), (h13, .inl (Y 2, 13824, .inr (.inl (jw_L 0 []))))] sz) (jw_Qi D (fun r => r = 4) (fun w => w = []) (va_A [(h0, .inr (15, [.ref h14, .int 0, .int 0, .ref h15, .int 0, .int (-1), .int 0, .int 0, .int 0, .int 0, .int 0, .int 2, .int 0, .int 0, .int 0, .ref h16, .ref h17, .ref h18, .ref h19, .int 2, .int 0, .int 0, .int 0, .int 0, .ref h20, .ref h21, .ref h22, .ref h23, .int 2, .ref h1, .int 1, .ref h2, .ref h24, .int 1, .ref h25, .ref h3, .ref h4, .int 0, .ref h26, .ref h27, .ref h5, .ref h6, .ref h7, .ref h8, .ref h9, .ref h10, .ref h11, .int 0, .ref h12, .ref h28, .ref h13, .int (-1), .ref h29, .long 0, .long 0, .int 0, .int 0, .long 0, .long 0, .ref h30, .ref h31, .ref h32, .ref h33, .ref h34, .ref h35, .long 0])), (h1, .inl (Y 1, 100, .inl (jw_l 0 [0, 1, 0, 0, 1, 0, 0, 0, 1, 1]))), (h2, .inl (Y 1, 13824, .inl (jw_l 0 [0]))), (h3, .inl (Y 1, 4, .inl (jw_l 0 [0, 1, 2, 3]))), (h4, .inl (Y 1, 4, .inl (jw_l 0 [0, 1, 2, 3]))), (h5, .inl (Y 1, 4, .inl (jw_l 0 []))), (h6, .inl (Y 1, 4, .inl (jw_l 0 []))), (h7, .inl (Y 1, 6, .inl (jw_l 0 []))), (h8, .inl (Y 1, 14425, .inl (jw_l 0 []))), (h9, .inl (Y 2, 14425, .inr (.inl (jw_L 0 [])))), (h10, .inl (Y 1, 13824, .inl (jw_l 0 []))), (h11, .inl (Y 1, 16, .inl (jw_l 0 []))), (h12, .inl (Y 1, 5, .inl (jw_l 0 []))), (h13, .inl (Y 2, 13824, .inr (.inl (jw_L 0 []))))] sz)) 0 0 (va_A [(h0, .inr (15, [.ref h14, .int 0, .int 0, .ref h15, .int 0, .int (-1), .int 0, .int 0, .int 0, .int 0, .int 0, .int 2, .int 0, .int 0, .int 0, .ref h16, .ref h17, .ref h18, .ref h19, .int 2, .int 0, .int 0, .int 0, .int 0, .ref h20, .ref h21, .ref h22, .ref h23, .int 2, .ref h1, .int 1, .ref h2, .ref h24, .int 1, .ref h25, .ref h3, .ref h4, .int 0, .ref h26, .ref h27, .ref h5, .ref h6, .ref h7, .ref h8, .ref h9, .ref h10, .ref h11, .int 0, .ref h12, .ref h28, .ref h13, .int (-1), .ref h29, .long 0, .long 0, .int 0, .int 0, .long 0, .long 0, .ref h30, .ref h31, .ref h32, .ref h33, .ref h34, .ref h35, .long 0])), (h1, .inl (Y 1, 100, .inl (jw_l 0 [0, 1, 0, 0, 1, 0, 0, 0, 1, 1]))), (h2, .inl (Y 1, 13824, .inl (jw_l 0 [0]))), (h3, .inl (Y 1, 4, .inl (jw_l 0 [0, 1, 2, 3]))), (h4, .inl (Y 1, 4, .inl (jw_l 0 [0, 1, 2, 3]))), (h5, .inl (Y 1, 4, .inl (jw_l 0 []))), (h6, .inl (Y 1, 4, .inl (jw_l 0 []))), (h7, .inl (Y 1, 6, .inl (jw_l 0 []))), (h8, .inl (Y 1, 14425, .inl (jw_l 0 []))), (h9, .inl (Y 2, 14425, .inr (.inl (jw_L 0 [])))), (h10, .inl (Y 1, 13824, .inl (jw_l 0 []))), (h11, .inl (Y 1, 16, .inl (jw_l 0 []))), (h12, .inl (Y 1, 5, .inl (jw_l 0 []))), (h13, .inl (Y 2, 13824, .inr (.inl (jw_L 0 []))))] sz) := by
  refine jw_met (fun A => jw_Qi D (fun r => r = 4) (fun w => w = []) A) (cc := cX12_nearest) (maxL := 9) (ret := (some .int)) pn_X12_nearest rfl rfl ?_
  intro p e s m below meth c A H locs ls hx hb hml hr hts hown hlocks hin hP hD hA hS hE hl
  have hown : s.vm.findClass RX12 = some m.cls := hown
  have hl : lv_has ls 9 [(0, .ref h0), (1, .int 1)] := hl
  refine lv_aload_n hx hb dX12_nearest_0 rfl (lv_at hl 0 rfl) ?_
  refine lv_iconst (v := 0) hx hb dX12_nearest_1 (by decide +kernel) ?_
  refine va_put (D := D) (ci := 15) (v := .int 0) (C := RX12) (T := TX12) (N := 66) hx hb hts iw_X12_nearest__X12 tyX12 tyX12_ok nmX12 hown hE.1 hP hD hS 0 rfl rfl 2 (by decide) (hts _ mw_X12_nearest__1) (fun _ h9 => h9) rfl (tyX12_ok 2 (by decide)) rfl rfl (Nat.le_of_ble_eq_true rfl) dX12_nearest_2 (fun H locs hP hD hS => ?_)
  have hP : va_P D vwCl [(h0, .inr (15, [.ref h14, .int 0, .int 0, .ref h15, .int 0, .int (-1), .int 0, .int 0, .int 0, .int 0, .int 0, .int 2, .int 0, .int 0, .int 0, .ref h16, .ref h17, .ref h18, .ref h19, .int 2, .int 0, .int 0, .int 0, .int 0, .ref h20, .ref h21, .ref h22, .ref h23, .int 2, .ref h1, .int 1, .ref h2, .ref h24, .int 1, .ref h25, .ref h3, .ref h4, .int 0, .ref h26, .ref h27, .ref h5, .ref h6, .ref h7, .ref h8, .ref h9, .ref h10, .ref h11, .int 0, .ref h12, .ref h28, .ref h13, .int (-1), .ref h29, .long 0, .long 0, .int 0, .int 0, .long 0, .long 0, .ref h30, .ref h31, .ref h32, .ref h33, .ref h34, .ref h35, .long 0])), (h1, .inl (Y 1, 100, .inl (jw_l 0 [0, 1, 0, 0, 1, 0, 0, 0, 1, 1]))), (h2, .inl (Y 1, 13824, .inl (jw_l 0 [0]))), (h3, .inl (Y 1, 4, .inl (jw_l 0 [0, 1, 2, 3]))), (h4, .inl (Y 1, 4, .inl (jw_l 0 [0, 1, 2, 3]))), (h5, .inl (Y 1, 4, .inl (jw_l 0 []))), (h6, .inl (Y 1, 4, .inl (jw_l 0 []))), (h7, .inl (Y 1, 6, .inl (jw_l 0 []))), (h8, .inl (Y 1, 14425, .inl (jw_l 0 []))), (h9, .inl (Y 2, 14425, .inr (.inl (jw_L 0 [])))), (h10, .inl (Y 1, 13824, .inl (jw_l 0 []))), (h11, .inl (Y 1, 16, .inl (jw_l 0 []))), (h12, .inl (Y 1, 5, .inl (jw_l 0 []))), (h13, .inl (Y 2, 13824, .inr (.inl (jw_L 0 []))))] H := hP
  have hD : va_D A [(h0, .inr (15, [.ref h14, .int 0, .int 0, .ref h15, .int 0, .int (-1), .int 0, .int 0, .int 0, .int 0, .int 0, .int 2, .int 0, .int 0, .int 0, .ref h16, .ref h17, .ref h18, .ref h19, .int 2, .int 0, .int 0, .int 0, .int 0, .ref h20, .ref h21, .ref h22, .ref h23, .int 2, .ref h1, .int 1, .ref h2, .ref h24, .int 1, .ref h25, .ref h3, .ref h4, .int 0, .ref h26, .ref h27, .ref h5, .ref h6, .ref h7, .ref h8, .ref h9, .ref h10, .ref h11, .int 0, .ref h12, .ref h28, .ref h13, .int (-1), .ref h29, .long 0, .long 0, .int 0, .int 0, .long 0, .long 0, .ref h30, .ref h31, .ref h32, .ref h33, .ref h34, .ref h35, .long 0])), (h1, .inl (Y 1, 100, .inl (jw_l 0 [0, 1, 0, 0, 1, 0, 0, 0, 1, 1]))), (h2, .inl (Y 1, 13824, .inl (jw_l 0 [0]))), (h3, .inl (Y 1, 4, .inl (jw_l 0 [0, 1, 2, 3]))), (h4, .inl (Y 1, 4, .inl (jw_l 0 [0, 1, 2, 3]))), (h5, .inl (Y 1, 4, .inl (jw_l 0 []))), (h6, .inl (Y 1, 4, .inl (jw_l 0 []))), (h7, .inl (Y 1, 6, .inl (jw_l 0 []))), (h8, .inl (Y 1, 14425, .inl (jw_l 0 []))), (h9, .inl (Y 2, 14425, .inr (.inl (jw_L 0 [])))), (h10, .inl (Y 1, 13824, .inl (jw_l 0 []))), (h11, .inl (Y 1, 16, .inl (jw_l 0 []))), (h12, .inl (Y 1, 5, .inl (jw_l 0 []))), (h13, .inl (Y 2, 13824, .inr (.inl (jw_L 0 []))))] := hD
  refine lv_iload_n hx hb dX12_nearest_5 rfl (lv_at hl 1 rfl) ?_
  refine lv_iconst (v := 0) hx hb dX12_nearest_6 (by decide +kernel) ?_
  refine lv_iconst (v := 1) hx hb dX12_nearest_7 (by decide +kernel) ?_
  refine jw_mi (wc := []) (cs := 0) (ss := 0) (va_runS (As := [.int 1, .int 0, .int 1]) (rest := []) ⟨hx, hb, hml, hown, hts⟩ (k104_X12_isIn H.size) (va_cwS 3 hts gX12_nearest_X12_isIn rfl rfl rfl ydS_X12_isIn ⟨Nat.le_of_ble_eq_true rfl, Nat.le_of_ble_eq_true rfl⟩) (jw_mpreS hP hD hS hA hE [] rfl) rfl rfl hl.1 rfl (lv_room (Nat.le_of_ble_eq_true rfl)) dX12_nearest_8 ⟨Nat.le_of_ble_eq_true rfl, Nat.le_of_ble_eq_true rfl⟩) hP hD hS hA [] rfl rfl rfl (fun r9 w1 H locs hr9 hw9 hP hD hS => ?_)
  subst hr9
  subst hw9
  have hP : va_P D vwCl [(h0, .inr (15, [.ref h14, .int 0, .int 0, .ref h15, .int 0, .int (-1), .int 0, .int 0, .int 0, .int 0, .int 0, .int 2, .int 0, .int 0, .int 0, .ref h16, .ref h17, .ref h18, .ref h19, .int 2, .int 0, .int 0, .int 0, .int 0, .ref h20, .ref h21, .ref h22, .ref h23, .int 2, .ref h1, .int 1, .ref h2, .ref h24, .int 1, .ref h25, .ref h3, .ref h4, .int 0, .ref h26, .ref h27, .ref h5, .ref h6, .ref h7, .ref h8, .ref h9, .ref h10, .ref h11, .int 0, .ref h12, .ref h28, .ref h13, .int (-1), .ref h29, .long 0, .long 0, .int 0, .int 0, .long 0, .long 0, .ref h30, .ref h31, .ref h32, .ref h33, .ref h34, .ref h35, .long 0])), (h1, .inl (Y 1, 100, .inl (jw_l 0 [0, 1, 0, 0, 1, 0, 0, 0, 1, 1]))), (h2, .inl (Y 1, 13824, .inl (jw_l 0 [0]))), (h3, .inl (Y 1, 4, .inl (jw_l 0 [0, 1, 2, 3]))), (h4, .inl (Y 1, 4, .inl (jw_l 0 [0, 1, 2, 3]))), (h5, .inl (Y 1, 4, .inl (jw_l 0 []))), (h6, .inl (Y 1, 4, .inl (jw_l 0 []))), (h7, .inl (Y 1, 6, .inl (jw_l 0 []))), (h8, .inl (Y 1, 14425, .inl (jw_l 0 []))), (h9, .inl (Y 2, 14425, .inr (.inl (jw_L 0 [])))), (h10, .inl (Y 1, 13824, .inl (jw_l 0 []))), (h11, .inl (Y 1, 16, .inl (jw_l 0 []))), (h12, .inl (Y 1, 5, .inl (jw_l 0 []))), (h13, .inl (Y 2, 13824, .inr (.inl (jw_L 0 []))))] H := hP
  have hD : va_D A [(h0, .inr (15, [.ref h14, .int 0, .int 0, .ref h15, .int 0, .int (-1), .int 0, .int 0, .int 0, .int 0, .int 0, .int 2, .int 0, .int 0, .int 0, .ref h16, .ref h17, .ref h18, .ref h19, .int 2, .int 0, .int 0, .int 0, .int 0, .ref h20, .ref h21, .ref h22, .ref h23, .int 2, .ref h1, .int 1, .ref h2, .ref h24, .int 1, .ref h25, .ref h3, .ref h4, .int 0, .ref h26, .ref h27, .ref h5, .ref h6, .ref h7, .ref h8, .ref h9, .ref h10, .ref h11, .int 0, .ref h12, .ref h28, .ref h13, .int (-1), .ref h29, .long 0, .long 0, .int 0, .int 0, .long 0, .long 0, .ref h30, .ref h31, .ref h32, .ref h33, .ref h34, .ref h35, .long 0])), (h1, .inl (Y 1, 100, .inl (jw_l 0 [0, 1, 0, 0, 1, 0, 0, 0, 1, 1]))), (h2, .inl (Y 1, 13824, .inl (jw_l 0 [0]))), (h3, .inl (Y 1, 4, .inl (jw_l 0 [0, 1, 2, 3]))), (h4, .inl (Y 1, 4, .inl (jw_l 0 [0, 1, 2, 3]))), (h5, .inl (Y 1, 4, .inl (jw_l 0 []))), (h6, .inl (Y 1, 4, .inl (jw_l 0 []))), (h7, .inl (Y 1, 6, .inl (jw_l 0 []))), (h8, .inl (Y 1, 14425, .inl (jw_l 0 []))), (h9, .inl (Y 2, 14425, .inr (.inl (jw_L 0 [])))), (h10, .inl (Y 1, 13824, .inl (jw_l 0 []))), (h11, .inl (Y 1, 16, .inl (jw_l 0 []))), (h12, .inl (Y 1, 5, .inl (jw_l 0 []))), (h13, .inl (Y 2, 13824, .inr (.inl (jw_L 0 []))))] := hD
  refine lv_if_ne (tgt := 16) hx hb dX12_nearest_11 (by decide) (fun _ => ?_) (fun c9 => absurd c9 (by decide +kernel))
  refine lv_aload_n hx hb dX12_nearest_16 rfl (lv_at hl 0 rfl) ?_
  refine va_get (D := D) (ci := 15) (v := .int 1) (C := RX12) (T := TX12) (N := 66) hx hb hts iw_X12_nearest__X12 hown hE.1 hP 0 rfl rfl 33 (by decide) (hts _ mw_X12_nearest__2) (fun _ h9 => h9) rfl dX12_nearest_17 ?_
  refine lv_if_ne (tgt := 26) hx hb dX12_nearest_20 (by decide) (fun _ => ?_) (fun c9 => absurd c9 (by decide +kernel))
  refine lv_aload_n hx hb dX12_nearest_26 rfl (lv_at hl 0 rfl) ?_
  refine jw_mv (wc := [(h0, .inr (15, [.ref h14, .int 0, .int 0, .ref h15, .int 0, .int (-1), .int 0, .int 0, .int 0, .int 0, .int 0, .int 2, .int 0, .int 0, .int 0, .ref h16, .ref h17, .ref h18, .ref h19, .int 2, .int 0, .int 0, .int 0, .int 0, .ref h20, .ref h21, .ref h22, .ref h23, .int 2, .ref h1, .int 1, .ref h2, .ref h24, .int 1, .ref h25, .ref h3, .ref h4, .int 0, .ref h26, .ref h27, .ref h5, .ref h6, .ref h7, .ref h8, .ref h9, .ref h10, .ref h11, .int 0, .ref h12, .ref h28, .ref h13, .int (-1), .ref h29, .long 0, .long 0, .int 0, .int 0, .long 0, .long 0, .ref h30, .ref h31, .ref h32, .ref h33, .ref h34, .ref h35, .long 0])), (h3, .inl (Y 1, 4, .inl (jw_l 0 [0, 1, 2, 3]))), (h4, .inl (Y 1, 4, .inl (jw_l 0 [0, 1, 2, 3]))), (h5, .inl (Y 1, 4, .inl (jw_l 0 []))), (h6, .inl (Y 1, 4, .inl (jw_l 0 [])))]) (cs := 0) (ss := 0) (va_runV (As := []) (rest := []) ⟨hx, hb, hml, hown, hts⟩ (k170_X12_turnsAs h0 h3 h4 h5 h6 h14 h15 h16 h17 h18 h19 h20 h21 h22 h23 h1 h2 h24 h25 h26 h27 h7 h8 h9 h10 h11 h12 h28 h13 h29 h30 h31 h32 h33 h34 h35 H.size) (cwV 0 hts gX12_nearest_X12_turnsAs rfl rfl rfl ydV_X12_turnsAs ⟨Nat.le_of_ble_eq_true rfl, Nat.le_of_ble_eq_true rfl⟩) (jw_mpreV (ci := 15) (q0 := 0) hP hD hS hA hE [true, false, false, true, true, true, true] rfl rfl rfl) rfl rfl hl.1 rfl (lv_room (Nat.le_of_ble_eq_true rfl)) dX12_nearest_27 ⟨Nat.le_of_ble_eq_true rfl, Nat.le_of_ble_eq_true rfl⟩) hP hD hS hA [true, false, false, true, true, true, true] rfl rfl rfl (fun w1 H locs hw9 hP hD hS => ?_)
  subst hw9
  have hP : va_P D vwCl [(h0, .inr (15, [.ref h14, .int 0, .int 0, .ref h15, .int 0, .int (-1), .int 0, .int 0, .int 0, .int 0, .int 0, .int 2, .int 0, .int 0, .int 0, .ref h16, .ref h17, .ref h18, .ref h19, .int 2, .int 0, .int 0, .int 0, .int 0, .ref h20, .ref h21, .ref h22, .ref h23, .int 2, .ref h1, .int 1, .ref h2, .ref h24, .int 1, .ref h25, .ref h3, .ref h4, .int 0, .ref h26, .ref h27, .ref h5, .ref h6, .ref h7, .ref h8, .ref h9, .ref h10, .ref h11, .int 0, .ref h12, .ref h28, .ref h13, .int (-1), .ref h29, .long 0, .long 0, .int 0, .int 0, .long 0, .long 0, .ref h30, .ref h31, .ref h32, .ref h33, .ref h34, .ref h35, .long 0])), (h1, .inl (Y 1, 100, .inl (jw_l 0 [0, 1, 0, 0, 1, 0, 0, 0, 1, 1]))), (h2, .inl (Y 1, 13824, .inl (jw_l 0 [0]))), (h3, .inl (Y 1, 4, .inl (jw_l 0 [0, 1, 2, 3]))), (h4, .inl (Y 1, 4, .inl (jw_l 0 [0, 1, 2, 3]))), (h5, .inl (Y 1, 4, .inl (jw_l 0 [0, 1, 2, 3]))), (h6, .inl (Y 1, 4, .inl (jw_l 0 [0, 1, 2, 3]))), (h7, .inl (Y 1, 6, .inl (jw_l 0 []))), (h8, .inl (Y 1, 14425, .inl (jw_l 0 []))), (h9, .inl (Y 2, 14425, .inr (.inl (jw_L 0 [])))), (h10, .inl (Y 1, 13824, .inl (jw_l 0 []))), (h11, .inl (Y 1, 16, .inl (jw_l 0 []))), (h12, .inl (Y 1, 5, .inl (jw_l 0 []))), (h13, .inl (Y 2, 13824, .inr (.inl (jw_L 0 []))))] H := hP
  have hD : va_D A [(h0, .inr (15, [.ref h14, .int 0, .int 0, .ref h15, .int 0, .int (-1), .int 0, .int 0, .int 0, .int 0, .int 0, .int 2, .int 0, .int 0, .int 0, .ref h16, .ref h17, .ref h18, .ref h19, .int 2, .int 0, .int 0, .int 0, .int 0, .ref h20, .ref h21, .ref h22, .ref h23, .int 2, .ref h1, .int 1, .ref h2, .ref h24, .int 1, .ref h25, .ref h3, .ref h4, .int 0, .ref h26, .ref h27, .ref h5, .ref h6, .ref h7, .ref h8, .ref h9, .ref h10, .ref h11, .int 0, .ref h12, .ref h28, .ref h13, .int (-1), .ref h29, .long 0, .long 0, .int 0, .int 0, .long 0, .long 0, .ref h30, .ref h31, .ref h32, .ref h33, .ref h34, .ref h35, .long 0])), (h1, .inl (Y 1, 100, .inl (jw_l 0 [0, 1, 0, 0, 1, 0, 0, 0, 1, 1]))), (h2, .inl (Y 1, 13824, .inl (jw_l 0 [0]))), (h3, .inl (Y 1, 4, .inl (jw_l 0 [0, 1, 2, 3]))), (h4, .inl (Y 1, 4, .inl (jw_l 0 [0, 1, 2, 3]))), (h5, .inl (Y 1, 4, .inl (jw_l 0 [0, 1, 2, 3]))), (h6, .inl (Y 1, 4, .inl (jw_l 0 [0, 1, 2, 3]))), (h7, .inl (Y 1, 6, .inl (jw_l 0 []))), (h8, .inl (Y 1, 14425, .inl (jw_l 0 []))), (h9, .inl (Y 2, 14425, .inr (.inl (jw_L 0 [])))), (h10, .inl (Y 1, 13824, .inl (jw_l 0 []))), (h11, .inl (Y 1, 16, .inl (jw_l 0 []))), (h12, .inl (Y 1, 5, .inl (jw_l 0 []))), (h13, .inl (Y 2, 13824, .inr (.inl (jw_L 0 []))))] := hD
  refine lv_iload_n hx hb dX12_nearest_30 rfl (lv_at hl 1 rfl) ?_
  refine lv_if_ne (tgt := 41) hx hb dX12_nearest_31 (by decide) (fun _ => ?_) (fun c9 => absurd c9 (by decide +kernel))
  refine lv_aload_n hx hb dX12_nearest_41 rfl (lv_at hl 0 rfl) ?_
  refine va_get (D := D) (ci := 15) (v := .int 2) (C := RX12) (T := TX12) (N := 66) hx hb hts iw_X12_nearest__X12 hown hE.1 hP 0 rfl rfl 11 (by decide) (hts _ mw_X12_nearest__4) (fun _ h9 => h9) rfl dX12_nearest_42 ?_
  refine lv_istore_n (lv' := [(2, .int 2), (0, .ref h0), (1, .int 1)]) hx hb dX12_nearest_45 rfl hl (by decide) rfl (fun ls hl => ?_)
  refine lv_iconst (v := (-1)) hx hb dX12_nearest_46 (by decide +kernel) ?_
  refine lv_istore_n (lv' := [(3, .int (-1)), (2, .int 2), (0, .ref h0), (1, .int 1)]) hx hb dX12_nearest_47 rfl hl (by decide) rfl (fun ls hl => ?_)
  refine lv_lconst (v := 0) hx hb dX12_nearest_48 (by decide +kernel) ?_
  refine lv_lstore (lv' := [(4, .long 0), (3, .int (-1)), (2, .int 2), (0, .ref h0), (1, .int 1)]) hx hb dX12_nearest_49 hl (by decide) rfl (fun ls hl => ?_)
  refine lv_iconst (v := 0) hx hb dX12_nearest_51 (by decide +kernel) ?_
  refine lv_istore (lv' := [(6, .int 0), (4, .long 0), (3, .int (-1)), (2, .int 2), (0, .ref h0), (1, .int 1)]) hx hb dX12_nearest_52 hl (by decide) rfl (fun ls hl => ?_)
  refine lv_iload hx hb dX12_nearest_54 (lv_at hl 0 rfl) ?_
  refine lv_iconst (v := 1) hx hb dX12_nearest_56 (by decide +kernel) ?_
  refine lv_iconst (v := 2) hx hb dX12_nearest_57 (by decide +kernel) ?_
  refine lv_iload_n hx hb dX12_nearest_58 rfl (lv_at hl 3 rfl) ?_
  refine jw_imul (v := 4) hx hb dX12_nearest_59 (by decide +kernel) ?_
  refine jw_ishl (v := 16) hx hb dX12_nearest_60 (by decide +kernel) ?_
  refine lv_icmp_ge (tgt := 210) hx hb dX12_nearest_61 (by decide) (fun c9 => absurd c9 (by decide +kernel)) (fun _ => ?_)
  refine lv_iconst (v := 0) hx hb dX12_nearest_64 (by decide +kernel) ?_
  refine lv_istore (lv' := [(7, .int 0), (6, .int 0), (4, .long 0), (3, .int (-1)), (2, .int 2), (0, .ref h0), (1, .int 1)]) hx hb dX12_nearest_65 hl (by decide) rfl (fun ls hl => ?_)
  refine lv_iconst (v := 0) hx hb dX12_nearest_67 (by decide +kernel) ?_
  refine lv_istore (lv' := [(8, .int 0), (7, .int 0), (6, .int 0), (4, .long 0), (3, .int (-1)), (2, .int 2), (0, .ref h0), (1, .int 1)]) hx hb dX12_nearest_68 hl (by decide) rfl (fun ls hl => ?_)
  refine lv_iload hx hb dX12_nearest_70 (lv_at hl 0 rfl) ?_
  refine lv_iload_n hx hb dX12_nearest_72 rfl (lv_at hl 5 rfl) ?_
  refine lv_icmp_ge (tgt := 105) hx hb dX12_nearest_73 (by decide) (fun c9 => absurd c9 (by decide +kernel)) (fun _ => ?_)
  refine lv_iload hx hb dX12_nearest_76 (lv_at hl 1 rfl) ?_
  refine lv_iload hx hb dX12_nearest_78 (lv_at hl 2 rfl) ?_
  refine lv_iconst (v := 2) hx hb dX12_nearest_80 (by decide +kernel) ?_
  refine lv_iload_n hx hb dX12_nearest_81 rfl (lv_at hl 5 rfl) ?_
  refine lv_iconst (v := 1) hx hb dX12_nearest_82 (by decide +kernel) ?_
  refine jw_isub (v := 1) hx hb dX12_nearest_83 (by decide +kernel) ?_
  refine lv_iload hx hb dX12_nearest_84 (lv_at hl 0 rfl) ?_
  refine jw_isub (v := 1) hx hb dX12_nearest_86 (by decide +kernel) ?_
  refine jw_imul (v := 2) hx hb dX12_nearest_87 (by decide +kernel) ?_
  refine jw_ishr (v := 0) hx hb dX12_nearest_88 (by decide +kernel) ?_
  refine lv_iconst (v := 3) hx hb dX12_nearest_89 (by decide +kernel) ?_
  refine jw_iand (v := 0) hx hb dX12_nearest_90 (by decide +kernel) ?_
  refine lv_iconst (v := 2) hx hb dX12_nearest_91 (by decide +kernel) ?_
  refine lv_iload hx hb dX12_nearest_92 (lv_at hl 0 rfl) ?_
  refine jw_imul (v := 0) hx hb dX12_nearest_94 (by decide +kernel) ?_
  refine jw_ishl (v := 0) hx hb dX12_nearest_95 (by decide +kernel) ?_
  refine jw_ior (v := 0) hx hb dX12_nearest_96 (by decide +kernel) ?_
  refine lv_istore (lv' := [(7, .int 0), (8, .int 0), (6, .int 0), (4, .long 0), (3, .int (-1)), (2, .int 2), (0, .ref h0), (1, .int 1)]) hx hb dX12_nearest_97 hl (by decide) rfl (fun ls hl => ?_)
  refine lv_iinc (v := 1) (lv' := [(8, .int 1), (7, .int 0), (6, .int 0), (4, .long 0), (3, .int (-1)), (2, .int 2), (0, .ref h0), (1, .int 1)]) hx hb dX12_nearest_99 hl (k := 1) rfl (by decide +kernel) (by decide) rfl (fun ls hl => ?_)
  refine lv_goto (tgt := 70) hx hb dX12_nearest_102 (by decide) ?_
  refine lv_iload hx hb dX12_nearest_70 (lv_at hl 0 rfl) ?_
  refine lv_iload_n hx hb dX12_nearest_72 rfl (lv_at hl 5 rfl) ?_
  refine lv_icmp_ge (tgt := 105) hx hb dX12_nearest_73 (by decide) (fun c9 => absurd c9 (by decide +kernel)) (fun _ => ?_)
  refine lv_iload hx hb dX12_nearest_76 (lv_at hl 1 rfl) ?_
  refine lv_iload hx hb dX12_nearest_78 (lv_at hl 2 rfl) ?_
  refine lv_iconst (v := 2) hx hb dX12_nearest_80 (by decide +kernel) ?_
  refine lv_iload_n hx hb dX12_nearest_81 rfl (lv_at hl 5 rfl) ?_
  refine lv_iconst (v := 1) hx hb dX12_nearest_82 (by decide +kernel) ?_
  refine jw_isub (v := 1) hx hb dX12_nearest_83 (by decide +kernel) ?_
  refine lv_iload hx hb dX12_nearest_84 (lv_at hl 0 rfl) ?_
  refine jw_isub (v := 0) hx hb dX12_nearest_86 (by decide +kernel) ?_
  refine jw_imul (v := 0) hx hb dX12_nearest_87 (by decide +kernel) ?_
  refine jw_ishr (v := 0) hx hb dX12_nearest_88 (by decide +kernel) ?_
  refine lv_iconst (v := 3) hx hb dX12_nearest_89 (by decide +kernel) ?_
  refine jw_iand (v := 0) hx hb dX12_nearest_90 (by decide +kernel) ?_
  refine lv_iconst (v := 2) hx hb dX12_nearest_91 (by decide +kernel) ?_
  refine lv_iload hx hb dX12_nearest_92 (lv_at hl 0 rfl) ?_
  refine jw_imul (v := 2) hx hb dX12_nearest_94 (by decide +kernel) ?_
  refine jw_ishl (v := 0) hx hb dX12_nearest_95 (by decide +kernel) ?_
  refine jw_ior (v := 0) hx hb dX12_nearest_96 (by decide +kernel) ?_
  refine lv_istore (lv' := [(7, .int 0), (8, .int 1), (6, .int 0), (4, .long 0), (3, .int (-1)), (2, .int 2), (0, .ref h0), (1, .int 1)]) hx hb dX12_nearest_97 hl (by decide) rfl (fun ls hl => ?_)
  refine lv_iinc (v := 2) (lv' := [(8, .int 2), (7, .int 0), (6, .int 0), (4, .long 0), (3, .int (-1)), (2, .int 2), (0, .ref h0), (1, .int 1)]) hx hb dX12_nearest_99 hl (k := 1) rfl (by decide +kernel) (by decide) rfl (fun ls hl => ?_)
  refine lv_goto (tgt := 70) hx hb dX12_nearest_102 (by decide) ?_
  refine lv_iload hx hb dX12_nearest_70 (lv_at hl 0 rfl) ?_
  refine lv_iload_n hx hb dX12_nearest_72 rfl (lv_at hl 5 rfl) ?_
  refine lv_icmp_ge (tgt := 105) hx hb dX12_nearest_73 (by decide) (fun _ => ?_) (fun c9 => absurd (by decide +kernel) c9)
  refine lv_iload hx hb dX12_nearest_105 (lv_at hl 1 rfl) ?_
  refine lv_iload_n hx hb dX12_nearest_107 rfl (lv_at hl 5 rfl) ?_
  refine jw_mi (wc := []) (cs := 0) (ss := 0) (va_runS (As := [.int 0, .int 2]) (rest := []) ⟨hx, hb, hml, hown, hts⟩ (k373_X12_isOnce H.size) (va_cwS 2 hts gX12_nearest_X12_isOnce rfl rfl rfl ydS_X12_isOnce ⟨Nat.le_of_ble_eq_true rfl, Nat.le_of_ble_eq_true rfl⟩) (jw_mpreS hP hD hS hA hE [] rfl) rfl rfl hl.1 rfl (lv_room (Nat.le_of_ble_eq_true rfl)) dX12_nearest_108 ⟨Nat.le_of_ble_eq_true rfl, Nat.le_of_ble_eq_true rfl⟩) hP hD hS hA [] rfl rfl rfl (fun r9 w1 H locs hr9 hw9 hP hD hS => ?_)
  subst hr9
  subst hw9
  have hP : va_P D vwCl [(h0, .inr (15, [.ref h14, .int 0, .int 0, .ref h15, .int 0, .int (-1), .int 0, .int 0, .int 0, .int 0, .int 0, .int 2, .int 0, .int 0, .int 0, .ref h16, .ref h17, .ref h18, .ref h19, .int 2, .int 0, .int 0, .int 0, .int 0, .ref h20, .ref h21, .ref h22, .ref h23, .int 2, .ref h1, .int 1, .ref h2, .ref h24, .int 1, .ref h25, .ref h3, .ref h4, .int 0, .ref h26, .ref h27, .ref h5, .ref h6, .ref h7, .ref h8, .ref h9, .ref h10, .ref h11, .int 0, .ref h12, .ref h28, .ref h13, .int (-1), .ref h29, .long 0, .long 0, .int 0, .int 0, .long 0, .long 0, .ref h30, .ref h31, .ref h32, .ref h33, .ref h34, .ref h35, .long 0])), (h1, .inl (Y 1, 100, .inl (jw_l 0 [0, 1, 0, 0, 1, 0, 0, 0, 1, 1]))), (h2, .inl (Y 1, 13824, .inl (jw_l 0 [0]))), (h3, .inl (Y 1, 4, .inl (jw_l 0 [0, 1, 2, 3]))), (h4, .inl (Y 1, 4, .inl (jw_l 0 [0, 1, 2, 3]))), (h5, .inl (Y 1, 4, .inl (jw_l 0 [0, 1, 2, 3]))), (h6, .inl (Y 1, 4, .inl (jw_l 0 [0, 1, 2, 3]))), (h7, .inl (Y 1, 6, .inl (jw_l 0 []))), (h8, .inl (Y 1, 14425, .inl (jw_l 0 []))), (h9, .inl (Y 2, 14425, .inr (.inl (jw_L 0 [])))), (h10, .inl (Y 1, 13824, .inl (jw_l 0 []))), (h11, .inl (Y 1, 16, .inl (jw_l 0 []))), (h12, .inl (Y 1, 5, .inl (jw_l 0 []))), (h13, .inl (Y 2, 13824, .inr (.inl (jw_L 0 []))))] H := hP
  have hD : va_D A [(h0, .inr (15, [.ref h14, .int 0, .int 0, .ref h15, .int 0, .int (-1), .int 0, .int 0, .int 0, .int 0, .int 0, .int 2, .int 0, .int 0, .int 0, .ref h16, .ref h17, .ref h18, .ref h19, .int 2, .int 0, .int 0, .int 0, .int 0, .ref h20, .ref h21, .ref h22, .ref h23, .int 2, .ref h1, .int 1, .ref h2, .ref h24, .int 1, .ref h25, .ref h3, .ref h4, .int 0, .ref h26, .ref h27, .ref h5, .ref h6, .ref h7, .ref h8, .ref h9, .ref h10, .ref h11, .int 0, .ref h12, .ref h28, .ref h13, .int (-1), .ref h29, .long 0, .long 0, .int 0, .int 0, .long 0, .long 0, .ref h30, .ref h31, .ref h32, .ref h33, .ref h34, .ref h35, .long 0])), (h1, .inl (Y 1, 100, .inl (jw_l 0 [0, 1, 0, 0, 1, 0, 0, 0, 1, 1]))), (h2, .inl (Y 1, 13824, .inl (jw_l 0 [0]))), (h3, .inl (Y 1, 4, .inl (jw_l 0 [0, 1, 2, 3]))), (h4, .inl (Y 1, 4, .inl (jw_l 0 [0, 1, 2, 3]))), (h5, .inl (Y 1, 4, .inl (jw_l 0 [0, 1, 2, 3]))), (h6, .inl (Y 1, 4, .inl (jw_l 0 [0, 1, 2, 3]))), (h7, .inl (Y 1, 6, .inl (jw_l 0 []))), (h8, .inl (Y 1, 14425, .inl (jw_l 0 []))), (h9, .inl (Y 2, 14425, .inr (.inl (jw_L 0 [])))), (h10, .inl (Y 1, 13824, .inl (jw_l 0 []))), (h11, .inl (Y 1, 16, .inl (jw_l 0 []))), (h12, .inl (Y 1, 5, .inl (jw_l 0 []))), (h13, .inl (Y 2, 13824, .inr (.inl (jw_L 0 []))))] := hD
  refine lv_if_ne (tgt := 117) hx hb dX12_nearest_111 (by decide) (fun c9 => absurd (by decide +kernel) c9) (fun _ => ?_)
  refine lv_goto (tgt := 204) hx hb dX12_nearest_114 (by decide) ?_
  refine lv_iinc (v := 1) (lv' := [(6, .int 1), (8, .int 2), (7, .int 0), (4, .long 0), (3, .int (-1)), (2, .int 2), (0, .ref h0), (1, .int 1)]) hx hb dX12_nearest_204 hl (k := 2) rfl (by decide +kernel) (by decide) rfl (fun ls hl => ?_)
  refine lv_goto (tgt := 54) hx hb dX12_nearest_207 (by decide) ?_
  refine lv_iload hx hb dX12_nearest_54 (lv_at hl 0 rfl) ?_
  refine lv_iconst (v := 1) hx hb dX12_nearest_56 (by decide +kernel) ?_
  refine lv_iconst (v := 2) hx hb dX12_nearest_57 (by decide +kernel) ?_
  refine lv_iload_n hx hb dX12_nearest_58 rfl (lv_at hl 5 rfl) ?_
  refine jw_imul (v := 4) hx hb dX12_nearest_59 (by decide +kernel) ?_
  refine jw_ishl (v := 16) hx hb dX12_nearest_60 (by decide +kernel) ?_
  refine lv_icmp_ge (tgt := 210) hx hb dX12_nearest_61 (by decide) (fun c9 => absurd c9 (by decide +kernel)) (fun _ => ?_)
  refine lv_iconst (v := 0) hx hb dX12_nearest_64 (by decide +kernel) ?_
  refine lv_istore (lv' := [(7, .int 0), (6, .int 1), (8, .int 2), (4, .long 0), (3, .int (-1)), (2, .int 2), (0, .ref h0), (1, .int 1)]) hx hb dX12_nearest_65 hl (by decide) rfl (fun ls hl => ?_)
  refine lv_iconst (v := 0) hx hb dX12_nearest_67 (by decide +kernel) ?_
  refine lv_istore (lv' := [(8, .int 0), (7, .int 0), (6, .int 1), (4, .long 0), (3, .int (-1)), (2, .int 2), (0, .ref h0), (1, .int 1)]) hx hb dX12_nearest_68 hl (by decide) rfl (fun ls hl => ?_)
  refine lv_iload hx hb dX12_nearest_70 (lv_at hl 0 rfl) ?_
  refine lv_iload_n hx hb dX12_nearest_72 rfl (lv_at hl 5 rfl) ?_
  refine lv_icmp_ge (tgt := 105) hx hb dX12_nearest_73 (by decide) (fun c9 => absurd c9 (by decide +kernel)) (fun _ => ?_)
  refine lv_iload hx hb dX12_nearest_76 (lv_at hl 1 rfl) ?_
  refine lv_iload hx hb dX12_nearest_78 (lv_at hl 2 rfl) ?_
  refine lv_iconst (v := 2) hx hb dX12_nearest_80 (by decide +kernel) ?_
  refine lv_iload_n hx hb dX12_nearest_81 rfl (lv_at hl 5 rfl) ?_
  refine lv_iconst (v := 1) hx hb dX12_nearest_82 (by decide +kernel) ?_
  refine jw_isub (v := 1) hx hb dX12_nearest_83 (by decide +kernel) ?_
  refine lv_iload hx hb dX12_nearest_84 (lv_at hl 0 rfl) ?_
  refine jw_isub (v := 1) hx hb dX12_nearest_86 (by decide +kernel) ?_
  refine jw_imul (v := 2) hx hb dX12_nearest_87 (by decide +kernel) ?_
  refine jw_ishr (v := 0) hx hb dX12_nearest_88 (by decide +kernel) ?_
  refine lv_iconst (v := 3) hx hb dX12_nearest_89 (by decide +kernel) ?_
  refine jw_iand (v := 0) hx hb dX12_nearest_90 (by decide +kernel) ?_
  refine lv_iconst (v := 2) hx hb dX12_nearest_91 (by decide +kernel) ?_
  refine lv_iload hx hb dX12_nearest_92 (lv_at hl 0 rfl) ?_
  refine jw_imul (v := 0) hx hb dX12_nearest_94 (by decide +kernel) ?_
  refine jw_ishl (v := 0) hx hb dX12_nearest_95 (by decide +kernel) ?_
  refine jw_ior (v := 0) hx hb dX12_nearest_96 (by decide +kernel) ?_
  refine lv_istore (lv' := [(7, .int 0), (8, .int 0), (6, .int 1), (4, .long 0), (3, .int (-1)), (2, .int 2), (0, .ref h0), (1, .int 1)]) hx hb dX12_nearest_97 hl (by decide) rfl (fun ls hl => ?_)
  refine lv_iinc (v := 1) (lv' := [(8, .int 1), (7, .int 0), (6, .int 1), (4, .long 0), (3, .int (-1)), (2, .int 2), (0, .ref h0), (1, .int 1)]) hx hb dX12_nearest_99 hl (k := 1) rfl (by decide +kernel) (by decide) rfl (fun ls hl => ?_)
  refine lv_goto (tgt := 70) hx hb dX12_nearest_102 (by decide) ?_
  refine lv_iload hx hb dX12_nearest_70 (lv_at hl 0 rfl) ?_
  refine lv_iload_n hx hb dX12_nearest_72 rfl (lv_at hl 5 rfl) ?_
  refine lv_icmp_ge (tgt := 105) hx hb dX12_nearest_73 (by decide) (fun c9 => absurd c9 (by decide +kernel)) (fun _ => ?_)
  refine lv_iload hx hb dX12_nearest_76 (lv_at hl 1 rfl) ?_
  refine lv_iload hx hb dX12_nearest_78 (lv_at hl 2 rfl) ?_
  refine lv_iconst (v := 2) hx hb dX12_nearest_80 (by decide +kernel) ?_
  refine lv_iload_n hx hb dX12_nearest_81 rfl (lv_at hl 5 rfl) ?_
  refine lv_iconst (v := 1) hx hb dX12_nearest_82 (by decide +kernel) ?_
  refine jw_isub (v := 1) hx hb dX12_nearest_83 (by decide +kernel) ?_
  refine lv_iload hx hb dX12_nearest_84 (lv_at hl 0 rfl) ?_
  refine jw_isub (v := 0) hx hb dX12_nearest_86 (by decide +kernel) ?_
  refine jw_imul (v := 0) hx hb dX12_nearest_87 (by decide +kernel) ?_
  refine jw_ishr (v := 1) hx hb dX12_nearest_88 (by decide +kernel) ?_
  refine lv_iconst (v := 3) hx hb dX12_nearest_89 (by decide +kernel) ?_
  refine jw_iand (v := 1) hx hb dX12_nearest_90 (by decide +kernel) ?_
  refine lv_iconst (v := 2) hx hb dX12_nearest_91 (by decide +kernel) ?_
  refine lv_iload hx hb dX12_nearest_92 (lv_at hl 0 rfl) ?_
  refine jw_imul (v := 2) hx hb dX12_nearest_94 (by decide +kernel) ?_
  refine jw_ishl (v := 4) hx hb dX12_nearest_95 (by decide +kernel) ?_
  refine jw_ior (v := 4) hx hb dX12_nearest_96 (by decide +kernel) ?_
  refine lv_istore (lv' := [(7, .int 4), (8, .int 1), (6, .int 1), (4, .long 0), (3, .int (-1)), (2, .int 2), (0, .ref h0), (1, .int 1)]) hx hb dX12_nearest_97 hl (by decide) rfl (fun ls hl => ?_)
  refine lv_iinc (v := 2) (lv' := [(8, .int 2), (7, .int 4), (6, .int 1), (4, .long 0), (3, .int (-1)), (2, .int 2), (0, .ref h0), (1, .int 1)]) hx hb dX12_nearest_99 hl (k := 1) rfl (by decide +kernel) (by decide) rfl (fun ls hl => ?_)
  refine lv_goto (tgt := 70) hx hb dX12_nearest_102 (by decide) ?_
  refine lv_iload hx hb dX12_nearest_70 (lv_at hl 0 rfl) ?_
  refine lv_iload_n hx hb dX12_nearest_72 rfl (lv_at hl 5 rfl) ?_
  refine lv_icmp_ge (tgt := 105) hx hb dX12_nearest_73 (by decide) (fun _ => ?_) (fun c9 => absurd (by decide +kernel) c9)
  refine lv_iload hx hb dX12_nearest_105 (lv_at hl 1 rfl) ?_
  refine lv_iload_n hx hb dX12_nearest_107 rfl (lv_at hl 5 rfl) ?_
  refine jw_mi (wc := []) (cs := 0) (ss := 0) (va_runS (As := [.int 4, .int 2]) (rest := []) ⟨hx, hb, hml, hown, hts⟩ (k374_X12_isOnce H.size) (va_cwS 2 hts gX12_nearest_X12_isOnce rfl rfl rfl ydS_X12_isOnce ⟨Nat.le_of_ble_eq_true rfl, Nat.le_of_ble_eq_true rfl⟩) (jw_mpreS hP hD hS hA hE [] rfl) rfl rfl hl.1 rfl (lv_room (Nat.le_of_ble_eq_true rfl)) dX12_nearest_108 ⟨Nat.le_of_ble_eq_true rfl, Nat.le_of_ble_eq_true rfl⟩) hP hD hS hA [] rfl rfl rfl (fun r9 w1 H locs hr9 hw9 hP hD hS => ?_)
  subst hr9
  subst hw9
  have hP : va_P D vwCl [(h0, .inr (15, [.ref h14, .int 0, .int 0, .ref h15, .int 0, .int (-1), .int 0, .int 0, .int 0, .int 0, .int 0, .int 2, .int 0, .int 0, .int 0, .ref h16, .ref h17, .ref h18, .ref h19, .int 2, .int 0, .int 0, .int 0, .int 0, .ref h20, .ref h21, .ref h22, .ref h23, .int 2, .ref h1, .int 1, .ref h2, .ref h24, .int 1, .ref h25, .ref h3, .ref h4, .int 0, .ref h26, .ref h27, .ref h5, .ref h6, .ref h7, .ref h8, .ref h9, .ref h10, .ref h11, .int 0, .ref h12, .ref h28, .ref h13, .int (-1), .ref h29, .long 0, .long 0, .int 0, .int 0, .long 0, .long 0, .ref h30, .ref h31, .ref h32, .ref h33, .ref h34, .ref h35, .long 0])), (h1, .inl (Y 1, 100, .inl (jw_l 0 [0, 1, 0, 0, 1, 0, 0, 0, 1, 1]))), (h2, .inl (Y 1, 13824, .inl (jw_l 0 [0]))), (h3, .inl (Y 1, 4, .inl (jw_l 0 [0, 1, 2, 3]))), (h4, .inl (Y 1, 4, .inl (jw_l 0 [0, 1, 2, 3]))), (h5, .inl (Y 1, 4, .inl (jw_l 0 [0, 1, 2, 3]))), (h6, .inl (Y 1, 4, .inl (jw_l 0 [0, 1, 2, 3]))), (h7, .inl (Y 1, 6, .inl (jw_l 0 []))), (h8, .inl (Y 1, 14425, .inl (jw_l 0 []))), (h9, .inl (Y 2, 14425, .inr (.inl (jw_L 0 [])))), (h10, .inl (Y 1, 13824, .inl (jw_l 0 []))), (h11, .inl (Y 1, 16, .inl (jw_l 0 []))), (h12, .inl (Y 1, 5, .inl (jw_l 0 []))), (h13, .inl (Y 2, 13824, .inr (.inl (jw_L 0 []))))] H := hP
  have hD : va_D A [(h0, .inr (15, [.ref h14, .int 0, .int 0, .ref h15, .int 0, .int (-1), .int 0, .int 0, .int 0, .int 0, .int 0, .int 2, .int 0, .int 0, .int 0, .ref h16, .ref h17, .ref h18, .ref h19, .int 2, .int 0, .int 0, .int 0, .int 0, .ref h20, .ref h21, .ref h22, .ref h23, .int 2, .ref h1, .int 1, .ref h2, .ref h24, .int 1, .ref h25, .ref h3, .ref h4, .int 0, .ref h26, .ref h27, .ref h5, .ref h6, .ref h7, .ref h8, .ref h9, .ref h10, .ref h11, .int 0, .ref h12, .ref h28, .ref h13, .int (-1), .ref h29, .long 0, .long 0, .int 0, .int 0, .long 0, .long 0, .ref h30, .ref h31, .ref h32, .ref h33, .ref h34, .ref h35, .long 0])), (h1, .inl (Y 1, 100, .inl (jw_l 0 [0, 1, 0, 0, 1, 0, 0, 0, 1, 1]))), (h2, .inl (Y 1, 13824, .inl (jw_l 0 [0]))), (h3, .inl (Y 1, 4, .inl (jw_l 0 [0, 1, 2, 3]))), (h4, .inl (Y 1, 4, .inl (jw_l 0 [0, 1, 2, 3]))), (h5, .inl (Y 1, 4, .inl (jw_l 0 [0, 1, 2, 3]))), (h6, .inl (Y 1, 4, .inl (jw_l 0 [0, 1, 2, 3]))), (h7, .inl (Y 1, 6, .inl (jw_l 0 []))), (h8, .inl (Y 1, 14425, .inl (jw_l 0 []))), (h9, .inl (Y 2, 14425, .inr (.inl (jw_L 0 [])))), (h10, .inl (Y 1, 13824, .inl (jw_l 0 []))), (h11, .inl (Y 1, 16, .inl (jw_l 0 []))), (h12, .inl (Y 1, 5, .inl (jw_l 0 []))), (h13, .inl (Y 2, 13824, .inr (.inl (jw_L 0 []))))] := hD
  refine lv_if_ne (tgt := 117) hx hb dX12_nearest_111 (by decide) (fun _ => ?_) (fun c9 => absurd c9 (by decide +kernel))
  refine lv_iconst (v := 0) hx hb dX12_nearest_117 (by decide +kernel) ?_
  refine lv_istore (lv' := [(8, .int 0), (7, .int 4), (6, .int 1), (4, .long 0), (3, .int (-1)), (2, .int 2), (0, .ref h0), (1, .int 1)]) hx hb dX12_nearest_118 hl (by decide) rfl (fun ls hl => ?_)
  refine lv_iload hx hb dX12_nearest_120 (lv_at hl 0 rfl) ?_
  refine lv_iload_n hx hb dX12_nearest_122 rfl (lv_at hl 5 rfl) ?_
  refine lv_icmp_ge (tgt := 171) hx hb dX12_nearest_123 (by decide) (fun c9 => absurd c9 (by decide +kernel)) (fun _ => ?_)
  refine lv_iload_n hx hb dX12_nearest_126 rfl (lv_at hl 7 rfl) ?_
  refine lv_if_ne (tgt := 149) hx hb dX12_nearest_127 (by decide) (fun _ => ?_) (fun c9 => absurd c9 (by decide +kernel))
  refine lv_aload_n hx hb dX12_nearest_149 rfl (lv_at hl 6 rfl) ?_
  refine va_get (D := D) (ci := 15) (v := .ref h6) (C := RX12) (T := TX12) (N := 66) hx hb hts iw_X12_nearest__X12 hown hE.1 hP 0 rfl rfl 41 (by decide) (hts _ mw_X12_nearest__6) (fun _ h9 => h9) rfl dX12_nearest_150 ?_
  refine lv_iload hx hb dX12_nearest_153 (lv_at hl 0 rfl) ?_
  refine lv_iload hx hb dX12_nearest_155 (lv_at hl 1 rfl) ?_
  refine lv_iconst (v := 2) hx hb dX12_nearest_157 (by decide +kernel) ?_
  refine lv_iload hx hb dX12_nearest_158 (lv_at hl 0 rfl) ?_
  refine jw_imul (v := 0) hx hb dX12_nearest_160 (by decide +kernel) ?_
  refine jw_ishr (v := 4) hx hb dX12_nearest_161 (by decide +kernel) ?_
  refine lv_iconst (v := 3) hx hb dX12_nearest_162 (by decide +kernel) ?_
  refine jw_iand (v := 0) hx hb dX12_nearest_163 (by decide +kernel) ?_
  refine jw_iast (ws' := [(h0, .inr (15, [.ref h14, .int 0, .int 0, .ref h15, .int 0, .int (-1), .int 0, .int 0, .int 0, .int 0, .int 0, .int 2, .int 0, .int 0, .int 0, .ref h16, .ref h17, .ref h18, .ref h19, .int 2, .int 0, .int 0, .int 0, .int 0, .ref h20, .ref h21, .ref h22, .ref h23, .int 2, .ref h1, .int 1, .ref h2, .ref h24, .int 1, .ref h25, .ref h3, .ref h4, .int 0, .ref h26, .ref h27, .ref h5, .ref h6, .ref h7, .ref h8, .ref h9, .ref h10, .ref h11, .int 0, .ref h12, .ref h28, .ref h13, .int (-1), .ref h29, .long 0, .long 0, .int 0, .int 0, .long 0, .long 0, .ref h30, .ref h31, .ref h32, .ref h33, .ref h34, .ref h35, .long 0])), (h1, .inl (Y 1, 100, .inl (jw_l 0 [0, 1, 0, 0, 1, 0, 0, 0, 1, 1]))), (h2, .inl (Y 1, 13824, .inl (jw_l 0 [0]))), (h3, .inl (Y 1, 4, .inl (jw_l 0 [0, 1, 2, 3]))), (h4, .inl (Y 1, 4, .inl (jw_l 0 [0, 1, 2, 3]))), (h5, .inl (Y 1, 4, .inl (jw_l 0 [0, 1, 2, 3]))), (h6, .inl (Y 1, 4, .inl (jw_l 0 [0, 1, 2, 3]))), (h7, .inl (Y 1, 6, .inl (jw_l 0 []))), (h8, .inl (Y 1, 14425, .inl (jw_l 0 []))), (h9, .inl (Y 2, 14425, .inr (.inl (jw_L 0 [])))), (h10, .inl (Y 1, 13824, .inl (jw_l 0 []))), (h11, .inl (Y 1, 16, .inl (jw_l 0 []))), (h12, .inl (Y 1, 5, .inl (jw_l 0 []))), (h13, .inl (Y 2, 13824, .inr (.inl (jw_L 0 []))))]) hx hb hE hP hD hS 6 0 [0, 1, 2, 3] rfl (by decide +kernel) (by decide +kernel) rfl dX12_nearest_164 (fun H locs hP hD hS => ?_)
  refine lv_iinc (v := 1) (lv' := [(8, .int 1), (7, .int 4), (6, .int 1), (4, .long 0), (3, .int (-1)), (2, .int 2), (0, .ref h0), (1, .int 1)]) hx hb dX12_nearest_165 hl (k := 0) rfl (by decide +kernel) (by decide) rfl (fun ls hl => ?_)
  refine lv_goto (tgt := 120) hx hb dX12_nearest_168 (by decide) ?_
  refine lv_iload hx hb dX12_nearest_120 (lv_at hl 0 rfl) ?_
  refine lv_iload_n hx hb dX12_nearest_122 rfl (lv_at hl 5 rfl) ?_
  refine lv_icmp_ge (tgt := 171) hx hb dX12_nearest_123 (by decide) (fun c9 => absurd c9 (by decide +kernel)) (fun _ => ?_)
  refine lv_iload_n hx hb dX12_nearest_126 rfl (lv_at hl 7 rfl) ?_
  refine lv_if_ne (tgt := 149) hx hb dX12_nearest_127 (by decide) (fun _ => ?_) (fun c9 => absurd c9 (by decide +kernel))
  refine lv_aload_n hx hb dX12_nearest_149 rfl (lv_at hl 6 rfl) ?_
  refine va_get (D := D) (ci := 15) (v := .ref h6) (C := RX12) (T := TX12) (N := 66) hx hb hts iw_X12_nearest__X12 hown hE.1 hP 0 rfl rfl 41 (by decide) (hts _ mw_X12_nearest__6) (fun _ h9 => h9) rfl dX12_nearest_150 ?_
  refine lv_iload hx hb dX12_nearest_153 (lv_at hl 0 rfl) ?_
  refine lv_iload hx hb dX12_nearest_155 (lv_at hl 1 rfl) ?_
  refine lv_iconst (v := 2) hx hb dX12_nearest_157 (by decide +kernel) ?_
  refine lv_iload hx hb dX12_nearest_158 (lv_at hl 0 rfl) ?_
  refine jw_imul (v := 2) hx hb dX12_nearest_160 (by decide +kernel) ?_
  refine jw_ishr (v := 1) hx hb dX12_nearest_161 (by decide +kernel) ?_
  refine lv_iconst (v := 3) hx hb dX12_nearest_162 (by decide +kernel) ?_
  refine jw_iand (v := 1) hx hb dX12_nearest_163 (by decide +kernel) ?_
  refine jw_iast (ws' := [(h0, .inr (15, [.ref h14, .int 0, .int 0, .ref h15, .int 0, .int (-1), .int 0, .int 0, .int 0, .int 0, .int 0, .int 2, .int 0, .int 0, .int 0, .ref h16, .ref h17, .ref h18, .ref h19, .int 2, .int 0, .int 0, .int 0, .int 0, .ref h20, .ref h21, .ref h22, .ref h23, .int 2, .ref h1, .int 1, .ref h2, .ref h24, .int 1, .ref h25, .ref h3, .ref h4, .int 0, .ref h26, .ref h27, .ref h5, .ref h6, .ref h7, .ref h8, .ref h9, .ref h10, .ref h11, .int 0, .ref h12, .ref h28, .ref h13, .int (-1), .ref h29, .long 0, .long 0, .int 0, .int 0, .long 0, .long 0, .ref h30, .ref h31, .ref h32, .ref h33, .ref h34, .ref h35, .long 0])), (h1, .inl (Y 1, 100, .inl (jw_l 0 [0, 1, 0, 0, 1, 0, 0, 0, 1, 1]))), (h2, .inl (Y 1, 13824, .inl (jw_l 0 [0]))), (h3, .inl (Y 1, 4, .inl (jw_l 0 [0, 1, 2, 3]))), (h4, .inl (Y 1, 4, .inl (jw_l 0 [0, 1, 2, 3]))), (h5, .inl (Y 1, 4, .inl (jw_l 0 [0, 1, 2, 3]))), (h6, .inl (Y 1, 4, .inl (jw_l 0 [0, 1, 2, 3]))), (h7, .inl (Y 1, 6, .inl (jw_l 0 []))), (h8, .inl (Y 1, 14425, .inl (jw_l 0 []))), (h9, .inl (Y 2, 14425, .inr (.inl (jw_L 0 [])))), (h10, .inl (Y 1, 13824, .inl (jw_l 0 []))), (h11, .inl (Y 1, 16, .inl (jw_l 0 []))), (h12, .inl (Y 1, 5, .inl (jw_l 0 []))), (h13, .inl (Y 2, 13824, .inr (.inl (jw_L 0 []))))]) hx hb hE hP hD hS 6 1 [0, 1, 2, 3] rfl (by decide +kernel) (by decide +kernel) rfl dX12_nearest_164 (fun H locs hP hD hS => ?_)
  refine lv_iinc (v := 2) (lv' := [(8, .int 2), (7, .int 4), (6, .int 1), (4, .long 0), (3, .int (-1)), (2, .int 2), (0, .ref h0), (1, .int 1)]) hx hb dX12_nearest_165 hl (k := 0) rfl (by decide +kernel) (by decide) rfl (fun ls hl => ?_)
  refine lv_goto (tgt := 120) hx hb dX12_nearest_168 (by decide) ?_
  refine lv_iload hx hb dX12_nearest_120 (lv_at hl 0 rfl) ?_
  refine lv_iload_n hx hb dX12_nearest_122 rfl (lv_at hl 5 rfl) ?_
  refine lv_icmp_ge (tgt := 171) hx hb dX12_nearest_123 (by decide) (fun _ => ?_) (fun c9 => absurd (by decide +kernel) c9)
  refine lv_aload_n hx hb dX12_nearest_171 rfl (lv_at hl 6 rfl) ?_
  refine lv_iconst (v := 0) hx hb dX12_nearest_172 (by decide +kernel) ?_
  refine lv_iconst (v := 1) hx hb dX12_nearest_173 (by decide +kernel) ?_
  refine jw_mv (wc := [(h0, .inr (15, [.ref h14, .int 0, .int 0, .ref h15, .int 0, .int (-1), .int 0, .int 0, .int 0, .int 0, .int 0, .int 2, .int 0, .int 0, .int 0, .ref h16, .ref h17, .ref h18, .ref h19, .int 2, .int 0, .int 0, .int 0, .int 0, .ref h20, .ref h21, .ref h22, .ref h23, .int 2, .ref h1, .int 1, .ref h2, .ref h24, .int 1, .ref h25, .ref h3, .ref h4, .int 0, .ref h26, .ref h27, .ref h5, .ref h6, .ref h7, .ref h8, .ref h9, .ref h10, .ref h11, .int 0, .ref h12, .ref h28, .ref h13, .int (-1), .ref h29, .long 0, .long 0, .int 0, .int 0, .long 0, .long 0, .ref h30, .ref h31, .ref h32, .ref h33, .ref h34, .ref h35, .long 0])), (h1, .inl (Y 1, 100, .inl (jw_l 0 [0, 1, 0, 0, 1, 0, 0, 0, 1, 1]))), (h2, .inl (Y 1, 13824, .inl (jw_l 0 [0]))), (h7, .inl (Y 1, 6, .inl (jw_l 0 []))), (h8, .inl (Y 1, 14425, .inl (jw_l 0 []))), (h9, .inl (Y 2, 14425, .inr (.inl (jw_L 0 [])))), (h10, .inl (Y 1, 13824, .inl (jw_l 0 []))), (h11, .inl (Y 1, 16, .inl (jw_l 0 []))), (h12, .inl (Y 1, 5, .inl (jw_l 0 []))), (h13, .inl (Y 2, 13824, .inr (.inl (jw_L 0 []))))]) (cs := 0) (ss := 0) (va_runV (As := [.int 0, .int 1]) (rest := []) ⟨hx, hb, hml, hown, hts⟩ (k224_X12_layApart h0 h1 h2 h7 h8 h9 h10 h11 h12 h13 h14 h15 h16 h17 h18 h19 h20 h21 h22 h23 h24 h25 h3 h4 h26 h27 h5 h6 h28 h29 h30 h31 h32 h33 h34 h35 H.size) (cwV 2 hts gX12_nearest_X12_layApart rfl rfl rfl ydV_X12_layApart ⟨Nat.le_of_ble_eq_true rfl, Nat.le_of_ble_eq_true rfl⟩) (jw_mpreV (ci := 15) (q0 := 0) hP hD hS hA hE [true, true, true, false, false, false, false, true, true, true, true, true, true, true] rfl rfl rfl) rfl rfl hl.1 rfl (lv_room (Nat.le_of_ble_eq_true rfl)) dX12_nearest_174 ⟨Nat.le_of_ble_eq_true rfl, Nat.le_of_ble_eq_true rfl⟩) hP hD hS hA [true, true, true, false, false, false, false, true, true, true, true, true, true, true] rfl rfl rfl (fun w1 H locs hw9 hP hD hS => ?_)
  subst hw9
  have hP : va_P D vwCl [(h0, .inr (15, [.ref h14, .int 0, .int 0, .ref h15, .int 0, .int (-1), .int 0, .int 0, .int 0, .int 0, .int 0, .int 2, .int 0, .int 0, .int 0, .ref h16, .ref h17, .ref h18, .ref h19, .int 2, .int 0, .int 0, .int 0, .int 0, .ref h20, .ref h21, .ref h22, .ref h23, .int 2, .ref h1, .int 1, .ref h2, .ref h24, .int 1, .ref h25, .ref h3, .ref h4, .int 0, .ref h26, .ref h27, .ref h5, .ref h6, .ref h7, .ref h8, .ref h9, .ref h10, .ref h11, .int 9, .ref h12, .ref h28, .ref h13, .int (-1), .ref h29, .long 0, .long 0, .int (-1), .int (-1), .long 0, .long 1, .ref h30, .ref h31, .ref h32, .ref h33, .ref h34, .ref h35, .long 0])), (h1, .inl (Y 1, 100, .inl (jw_l 0 [0, 1, 0, 0, 1, 0, 0, 0, 1, 1]))), (h2, .inl (Y 1, 13824, .inl (jw_l 0 [0]))), (h3, .inl (Y 1, 4, .inl (jw_l 0 [0, 1, 2, 3]))), (h4, .inl (Y 1, 4, .inl (jw_l 0 [0, 1, 2, 3]))), (h5, .inl (Y 1, 4, .inl (jw_l 0 [0, 1, 2, 3]))), (h6, .inl (Y 1, 4, .inl (jw_l 0 [0, 1, 2, 3]))), (h7, .inl (Y 1, 6, .inl (jw_l 0 [0, 1]))), (h8, .inl (Y 1, 14425, .inl (jw_l 0 [0]))), (h9, .inl (Y 2, 14425, .inr (.inl (jw_L 0 [1])))), (h10, .inl (Y 1, 13824, .inl (jw_l 0 [0]))), (h11, .inl (Y 1, 16, .inl (jw_l 0 [1, 2, 0, 0, 2, 1, 0, 0, 0, 0, 0, 0, 0, 0, 0, 0]))), (h12, .inl (Y 1, 5, .inl (jw_l 0 [1, 3]))), (h13, .inl (Y 2, 13824, .inr (.inl (jw_L 0 [1]))))] H := hP
  have hD : va_D A [(h0, .inr (15, [.ref h14, .int 0, .int 0, .ref h15, .int 0, .int (-1), .int 0, .int 0, .int 0, .int 0, .int 0, .int 2, .int 0, .int 0, .int 0, .ref h16, .ref h17, .ref h18, .ref h19, .int 2, .int 0, .int 0, .int 0, .int 0, .ref h20, .ref h21, .ref h22, .ref h23, .int 2, .ref h1, .int 1, .ref h2, .ref h24, .int 1, .ref h25, .ref h3, .ref h4, .int 0, .ref h26, .ref h27, .ref h5, .ref h6, .ref h7, .ref h8, .ref h9, .ref h10, .ref h11, .int 9, .ref h12, .ref h28, .ref h13, .int (-1), .ref h29, .long 0, .long 0, .int (-1), .int (-1), .long 0, .long 1, .ref h30, .ref h31, .ref h32, .ref h33, .ref h34, .ref h35, .long 0])), (h1, .inl (Y 1, 100, .inl (jw_l 0 [0, 1, 0, 0, 1, 0, 0, 0, 1, 1]))), (h2, .inl (Y 1, 13824, .inl (jw_l 0 [0]))), (h3, .inl (Y 1, 4, .inl (jw_l 0 [0, 1, 2, 3]))), (h4, .inl (Y 1, 4, .inl (jw_l 0 [0, 1, 2, 3]))), (h5, .inl (Y 1, 4, .inl (jw_l 0 [0, 1, 2, 3]))), (h6, .inl (Y 1, 4, .inl (jw_l 0 [0, 1, 2, 3]))), (h7, .inl (Y 1, 6, .inl (jw_l 0 [0, 1]))), (h8, .inl (Y 1, 14425, .inl (jw_l 0 [0]))), (h9, .inl (Y 2, 14425, .inr (.inl (jw_L 0 [1])))), (h10, .inl (Y 1, 13824, .inl (jw_l 0 [0]))), (h11, .inl (Y 1, 16, .inl (jw_l 0 [1, 2, 0, 0, 2, 1, 0, 0, 0, 0, 0, 0, 0, 0, 0, 0]))), (h12, .inl (Y 1, 5, .inl (jw_l 0 [1, 3]))), (h13, .inl (Y 2, 13824, .inr (.inl (jw_L 0 [1]))))] := hD
  refine lv_iload_n hx hb dX12_nearest_177 rfl (lv_at hl 4 rfl) ?_
  refine lv_iconst (v := (-1)) hx hb dX12_nearest_178 (by decide +kernel) ?_
  refine lv_icmp_eq (tgt := 195) hx hb dX12_nearest_179 (by decide) (fun _ => ?_) (fun c9 => absurd (by decide +kernel) c9)
  refine lv_iload hx hb dX12_nearest_195 (lv_at hl 1 rfl) ?_
  refine lv_istore_n (lv' := [(3, .int 4), (8, .int 2), (7, .int 4), (6, .int 1), (4, .long 0), (2, .int 2), (0, .ref h0), (1, .int 1)]) hx hb dX12_nearest_197 rfl hl (by decide) rfl (fun ls hl => ?_)
  refine lv_aload_n hx hb dX12_nearest_198 rfl (lv_at hl 6 rfl) ?_
  refine va_get (D := D) (ci := 15) (v := .long 0) (C := RX12) (T := TX12) (N := 66) hx hb hts iw_X12_nearest__X12 hown hE.1 hP 0 rfl rfl 53 (by decide) (hts _ mw_X12_nearest__7) (fun _ h9 => h9) rfl dX12_nearest_199 ?_
  refine lv_lstore (lv' := [(4, .long 0), (3, .int 4), (8, .int 2), (7, .int 4), (6, .int 1), (2, .int 2), (0, .ref h0), (1, .int 1)]) hx hb dX12_nearest_202 hl (by decide) rfl (fun ls hl => ?_)
  refine lv_iinc (v := 2) (lv' := [(6, .int 2), (4, .long 0), (3, .int 4), (8, .int 2), (7, .int 4), (2, .int 2), (0, .ref h0), (1, .int 1)]) hx hb dX12_nearest_204 hl (k := 4) rfl (by decide +kernel) (by decide) rfl (fun ls hl => ?_)
  refine lv_goto (tgt := 54) hx hb dX12_nearest_207 (by decide) ?_
  refine lv_iload hx hb dX12_nearest_54 (lv_at hl 0 rfl) ?_
  refine lv_iconst (v := 1) hx hb dX12_nearest_56 (by decide +kernel) ?_
  refine lv_iconst (v := 2) hx hb dX12_nearest_57 (by decide +kernel) ?_
  refine lv_iload_n hx hb dX12_nearest_58 rfl (lv_at hl 5 rfl) ?_
  refine jw_imul (v := 4) hx hb dX12_nearest_59 (by decide +kernel) ?_
  refine jw_ishl (v := 16) hx hb dX12_nearest_60 (by decide +kernel) ?_
  refine lv_icmp_ge (tgt := 210) hx hb dX12_nearest_61 (by decide) (fun c9 => absurd c9 (by decide +kernel)) (fun _ => ?_)
  refine lv_iconst (v := 0) hx hb dX12_nearest_64 (by decide +kernel) ?_
  refine lv_istore (lv' := [(7, .int 0), (6, .int 2), (4, .long 0), (3, .int 4), (8, .int 2), (2, .int 2), (0, .ref h0), (1, .int 1)]) hx hb dX12_nearest_65 hl (by decide) rfl (fun ls hl => ?_)
  refine lv_iconst (v := 0) hx hb dX12_nearest_67 (by decide +kernel) ?_
  refine lv_istore (lv' := [(8, .int 0), (7, .int 0), (6, .int 2), (4, .long 0), (3, .int 4), (2, .int 2), (0, .ref h0), (1, .int 1)]) hx hb dX12_nearest_68 hl (by decide) rfl (fun ls hl => ?_)
  refine lv_iload hx hb dX12_nearest_70 (lv_at hl 0 rfl) ?_
  refine lv_iload_n hx hb dX12_nearest_72 rfl (lv_at hl 5 rfl) ?_
  refine lv_icmp_ge (tgt := 105) hx hb dX12_nearest_73 (by decide) (fun c9 => absurd c9 (by decide +kernel)) (fun _ => ?_)
  refine lv_iload hx hb dX12_nearest_76 (lv_at hl 1 rfl) ?_
  refine lv_iload hx hb dX12_nearest_78 (lv_at hl 2 rfl) ?_
  refine lv_iconst (v := 2) hx hb dX12_nearest_80 (by decide +kernel) ?_
  refine lv_iload_n hx hb dX12_nearest_81 rfl (lv_at hl 5 rfl) ?_
  refine lv_iconst (v := 1) hx hb dX12_nearest_82 (by decide +kernel) ?_
  refine jw_isub (v := 1) hx hb dX12_nearest_83 (by decide +kernel) ?_
  refine lv_iload hx hb dX12_nearest_84 (lv_at hl 0 rfl) ?_
  refine jw_isub (v := 1) hx hb dX12_nearest_86 (by decide +kernel) ?_
  refine jw_imul (v := 2) hx hb dX12_nearest_87 (by decide +kernel) ?_
  refine jw_ishr (v := 0) hx hb dX12_nearest_88 (by decide +kernel) ?_
  refine lv_iconst (v := 3) hx hb dX12_nearest_89 (by decide +kernel) ?_
  refine jw_iand (v := 0) hx hb dX12_nearest_90 (by decide +kernel) ?_
  refine lv_iconst (v := 2) hx hb dX12_nearest_91 (by decide +kernel) ?_
  refine lv_iload hx hb dX12_nearest_92 (lv_at hl 0 rfl) ?_
  refine jw_imul (v := 0) hx hb dX12_nearest_94 (by decide +kernel) ?_
  refine jw_ishl (v := 0) hx hb dX12_nearest_95 (by decide +kernel) ?_
  refine jw_ior (v := 0) hx hb dX12_nearest_96 (by decide +kernel) ?_
  refine lv_istore (lv' := [(7, .int 0), (8, .int 0), (6, .int 2), (4, .long 0), (3, .int 4), (2, .int 2), (0, .ref h0), (1, .int 1)]) hx hb dX12_nearest_97 hl (by decide) rfl (fun ls hl => ?_)
  refine lv_iinc (v := 1) (lv' := [(8, .int 1), (7, .int 0), (6, .int 2), (4, .long 0), (3, .int 4), (2, .int 2), (0, .ref h0), (1, .int 1)]) hx hb dX12_nearest_99 hl (k := 1) rfl (by decide +kernel) (by decide) rfl (fun ls hl => ?_)
  refine lv_goto (tgt := 70) hx hb dX12_nearest_102 (by decide) ?_
  refine lv_iload hx hb dX12_nearest_70 (lv_at hl 0 rfl) ?_
  refine lv_iload_n hx hb dX12_nearest_72 rfl (lv_at hl 5 rfl) ?_
  refine lv_icmp_ge (tgt := 105) hx hb dX12_nearest_73 (by decide) (fun c9 => absurd c9 (by decide +kernel)) (fun _ => ?_)
  refine lv_iload hx hb dX12_nearest_76 (lv_at hl 1 rfl) ?_
  refine lv_iload hx hb dX12_nearest_78 (lv_at hl 2 rfl) ?_
  refine lv_iconst (v := 2) hx hb dX12_nearest_80 (by decide +kernel) ?_
  refine lv_iload_n hx hb dX12_nearest_81 rfl (lv_at hl 5 rfl) ?_
  refine lv_iconst (v := 1) hx hb dX12_nearest_82 (by decide +kernel) ?_
  refine jw_isub (v := 1) hx hb dX12_nearest_83 (by decide +kernel) ?_
  refine lv_iload hx hb dX12_nearest_84 (lv_at hl 0 rfl) ?_
  refine jw_isub (v := 0) hx hb dX12_nearest_86 (by decide +kernel) ?_
  refine jw_imul (v := 0) hx hb dX12_nearest_87 (by decide +kernel) ?_
  refine jw_ishr (v := 2) hx hb dX12_nearest_88 (by decide +kernel) ?_
  refine lv_iconst (v := 3) hx hb dX12_nearest_89 (by decide +kernel) ?_
  refine jw_iand (v := 2) hx hb dX12_nearest_90 (by decide +kernel) ?_
  refine lv_iconst (v := 2) hx hb dX12_nearest_91 (by decide +kernel) ?_
  refine lv_iload hx hb dX12_nearest_92 (lv_at hl 0 rfl) ?_
  refine jw_imul (v := 2) hx hb dX12_nearest_94 (by decide +kernel) ?_
  refine jw_ishl (v := 8) hx hb dX12_nearest_95 (by decide +kernel) ?_
  refine jw_ior (v := 8) hx hb dX12_nearest_96 (by decide +kernel) ?_
  refine lv_istore (lv' := [(7, .int 8), (8, .int 1), (6, .int 2), (4, .long 0), (3, .int 4), (2, .int 2), (0, .ref h0), (1, .int 1)]) hx hb dX12_nearest_97 hl (by decide) rfl (fun ls hl => ?_)
  refine lv_iinc (v := 2) (lv' := [(8, .int 2), (7, .int 8), (6, .int 2), (4, .long 0), (3, .int 4), (2, .int 2), (0, .ref h0), (1, .int 1)]) hx hb dX12_nearest_99 hl (k := 1) rfl (by decide +kernel) (by decide) rfl (fun ls hl => ?_)
  refine lv_goto (tgt := 70) hx hb dX12_nearest_102 (by decide) ?_
  refine lv_iload hx hb dX12_nearest_70 (lv_at hl 0 rfl) ?_
  refine lv_iload_n hx hb dX12_nearest_72 rfl (lv_at hl 5 rfl) ?_
  refine lv_icmp_ge (tgt := 105) hx hb dX12_nearest_73 (by decide) (fun _ => ?_) (fun c9 => absurd (by decide +kernel) c9)
  refine lv_iload hx hb dX12_nearest_105 (lv_at hl 1 rfl) ?_
  refine lv_iload_n hx hb dX12_nearest_107 rfl (lv_at hl 5 rfl) ?_
  refine jw_mi (wc := []) (cs := 0) (ss := 0) (va_runS (As := [.int 8, .int 2]) (rest := []) ⟨hx, hb, hml, hown, hts⟩ (k375_X12_isOnce H.size) (va_cwS 2 hts gX12_nearest_X12_isOnce rfl rfl rfl ydS_X12_isOnce ⟨Nat.le_of_ble_eq_true rfl, Nat.le_of_ble_eq_true rfl⟩) (jw_mpreS hP hD hS hA hE [] rfl) rfl rfl hl.1 rfl (lv_room (Nat.le_of_ble_eq_true rfl)) dX12_nearest_108 ⟨Nat.le_of_ble_eq_true rfl, Nat.le_of_ble_eq_true rfl⟩) hP hD hS hA [] rfl rfl rfl (fun r9 w1 H locs hr9 hw9 hP hD hS => ?_)
  subst hr9
  subst hw9
  have hP : va_P D vwCl [(h0, .inr (15, [.ref h14, .int 0, .int 0, .ref h15, .int 0, .int (-1), .int 0, .int 0, .int 0, .int 0, .int 0, .int 2, .int 0, .int 0, .int 0, .ref h16, .ref h17, .ref h18, .ref h19, .int 2, .int 0, .int 0, .int 0, .int 0, .ref h20, .ref h21, .ref h22, .ref h23, .int 2, .ref h1, .int 1, .ref h2, .ref h24, .int 1, .ref h25, .ref h3, .ref h4, .int 0, .ref h26, .ref h27, .ref h5, .ref h6, .ref h7, .ref h8, .ref h9, .ref h10, .ref h11, .int 9, .ref h12, .ref h28, .ref h13, .int (-1), .ref h29, .long 0, .long 0, .int (-1), .int (-1), .long 0, .long 1, .ref h30, .ref h31, .ref h32, .ref h33, .ref h34, .ref h35, .long 0])), (h1, .inl (Y 1, 100, .inl (jw_l 0 [0, 1, 0, 0, 1, 0, 0, 0, 1, 1]))), (h2, .inl (Y 1, 13824, .inl (jw_l 0 [0]))), (h3, .inl (Y 1, 4, .inl (jw_l 0 [0, 1, 2, 3]))), (h4, .inl (Y 1, 4, .inl (jw_l 0 [0, 1, 2, 3]))), (h5, .inl (Y 1, 4, .inl (jw_l 0 [0, 1, 2, 3]))), (h6, .inl (Y 1, 4, .inl (jw_l 0 [0, 1, 2, 3]))), (h7, .inl (Y 1, 6, .inl (jw_l 0 [0, 1]))), (h8, .inl (Y 1, 14425, .inl (jw_l 0 [0]))), (h9, .inl (Y 2, 14425, .inr (.inl (jw_L 0 [1])))), (h10, .inl (Y 1, 13824, .inl (jw_l 0 [0]))), (h11, .inl (Y 1, 16, .inl (jw_l 0 [1, 2, 0, 0, 2, 1, 0, 0, 0, 0, 0, 0, 0, 0, 0, 0]))), (h12, .inl (Y 1, 5, .inl (jw_l 0 [1, 3]))), (h13, .inl (Y 2, 13824, .inr (.inl (jw_L 0 [1]))))] H := hP
  have hD : va_D A [(h0, .inr (15, [.ref h14, .int 0, .int 0, .ref h15, .int 0, .int (-1), .int 0, .int 0, .int 0, .int 0, .int 0, .int 2, .int 0, .int 0, .int 0, .ref h16, .ref h17, .ref h18, .ref h19, .int 2, .int 0, .int 0, .int 0, .int 0, .ref h20, .ref h21, .ref h22, .ref h23, .int 2, .ref h1, .int 1, .ref h2, .ref h24, .int 1, .ref h25, .ref h3, .ref h4, .int 0, .ref h26, .ref h27, .ref h5, .ref h6, .ref h7, .ref h8, .ref h9, .ref h10, .ref h11, .int 9, .ref h12, .ref h28, .ref h13, .int (-1), .ref h29, .long 0, .long 0, .int (-1), .int (-1), .long 0, .long 1, .ref h30, .ref h31, .ref h32, .ref h33, .ref h34, .ref h35, .long 0])), (h1, .inl (Y 1, 100, .inl (jw_l 0 [0, 1, 0, 0, 1, 0, 0, 0, 1, 1]))), (h2, .inl (Y 1, 13824, .inl (jw_l 0 [0]))), (h3, .inl (Y 1, 4, .inl (jw_l 0 [0, 1, 2, 3]))), (h4, .inl (Y 1, 4, .inl (jw_l 0 [0, 1, 2, 3]))), (h5, .inl (Y 1, 4, .inl (jw_l 0 [0, 1, 2, 3]))), (h6, .inl (Y 1, 4, .inl (jw_l 0 [0, 1, 2, 3]))), (h7, .inl (Y 1, 6, .inl (jw_l 0 [0, 1]))), (h8, .inl (Y 1, 14425, .inl (jw_l 0 [0]))), (h9, .inl (Y 2, 14425, .inr (.inl (jw_L 0 [1])))), (h10, .inl (Y 1, 13824, .inl (jw_l 0 [0]))), (h11, .inl (Y 1, 16, .inl (jw_l 0 [1, 2, 0, 0, 2, 1, 0, 0, 0, 0, 0, 0, 0, 0, 0, 0]))), (h12, .inl (Y 1, 5, .inl (jw_l 0 [1, 3]))), (h13, .inl (Y 2, 13824, .inr (.inl (jw_L 0 [1]))))] := hD
  refine lv_if_ne (tgt := 117) hx hb dX12_nearest_111 (by decide) (fun c9 => absurd (by decide +kernel) c9) (fun _ => ?_)
  refine lv_goto (tgt := 204) hx hb dX12_nearest_114 (by decide) ?_
  refine lv_iinc (v := 3) (lv' := [(6, .int 3), (8, .int 2), (7, .int 8), (4, .long 0), (3, .int 4), (2, .int 2), (0, .ref h0), (1, .int 1)]) hx hb dX12_nearest_204 hl (k := 2) rfl (by decide +kernel) (by decide) rfl (fun ls hl => ?_)
  refine lv_goto (tgt := 54) hx hb dX12_nearest_207 (by decide) ?_
  refine lv_iload hx hb dX12_nearest_54 (lv_at hl 0 rfl) ?_
  refine lv_iconst (v := 1) hx hb dX12_nearest_56 (by decide +kernel) ?_
  refine lv_iconst (v := 2) hx hb dX12_nearest_57 (by decide +kernel) ?_
  refine lv_iload_n hx hb dX12_nearest_58 rfl (lv_at hl 5 rfl) ?_
  refine jw_imul (v := 4) hx hb dX12_nearest_59 (by decide +kernel) ?_
  refine jw_ishl (v := 16) hx hb dX12_nearest_60 (by decide +kernel) ?_
  refine lv_icmp_ge (tgt := 210) hx hb dX12_nearest_61 (by decide) (fun c9 => absurd c9 (by decide +kernel)) (fun _ => ?_)
  refine lv_iconst (v := 0) hx hb dX12_nearest_64 (by decide +kernel) ?_
  refine lv_istore (lv' := [(7, .int 0), (6, .int 3), (8, .int 2), (4, .long 0), (3, .int 4), (2, .int 2), (0, .ref h0), (1, .int 1)]) hx hb dX12_nearest_65 hl (by decide) rfl (fun ls hl => ?_)
  refine lv_iconst (v := 0) hx hb dX12_nearest_67 (by decide +kernel) ?_
  refine lv_istore (lv' := [(8, .int 0), (7, .int 0), (6, .int 3), (4, .long 0), (3, .int 4), (2, .int 2), (0, .ref h0), (1, .int 1)]) hx hb dX12_nearest_68 hl (by decide) rfl (fun ls hl => ?_)
  refine lv_iload hx hb dX12_nearest_70 (lv_at hl 0 rfl) ?_
  refine lv_iload_n hx hb dX12_nearest_72 rfl (lv_at hl 5 rfl) ?_
  refine lv_icmp_ge (tgt := 105) hx hb dX12_nearest_73 (by decide) (fun c9 => absurd c9 (by decide +kernel)) (fun _ => ?_)
  refine lv_iload hx hb dX12_nearest_76 (lv_at hl 1 rfl) ?_
  refine lv_iload hx hb dX12_nearest_78 (lv_at hl 2 rfl) ?_
  refine lv_iconst (v := 2) hx hb dX12_nearest_80 (by decide +kernel) ?_
  refine lv_iload_n hx hb dX12_nearest_81 rfl (lv_at hl 5 rfl) ?_
  refine lv_iconst (v := 1) hx hb dX12_nearest_82 (by decide +kernel) ?_
  refine jw_isub (v := 1) hx hb dX12_nearest_83 (by decide +kernel) ?_
  refine lv_iload hx hb dX12_nearest_84 (lv_at hl 0 rfl) ?_
  refine jw_isub (v := 1) hx hb dX12_nearest_86 (by decide +kernel) ?_
  refine jw_imul (v := 2) hx hb dX12_nearest_87 (by decide +kernel) ?_
  refine jw_ishr (v := 0) hx hb dX12_nearest_88 (by decide +kernel) ?_
  refine lv_iconst (v := 3) hx hb dX12_nearest_89 (by decide +kernel) ?_
  refine jw_iand (v := 0) hx hb dX12_nearest_90 (by decide +kernel) ?_
  refine lv_iconst (v := 2) hx hb dX12_nearest_91 (by decide +kernel) ?_
  refine lv_iload hx hb dX12_nearest_92 (lv_at hl 0 rfl) ?_
  refine jw_imul (v := 0) hx hb dX12_nearest_94 (by decide +kernel) ?_
  refine jw_ishl (v := 0) hx hb dX12_nearest_95 (by decide +kernel) ?_
  refine jw_ior (v := 0) hx hb dX12_nearest_96 (by decide +kernel) ?_
  refine lv_istore (lv' := [(7, .int 0), (8, .int 0), (6, .int 3), (4, .long 0), (3, .int 4), (2, .int 2), (0, .ref h0), (1, .int 1)]) hx hb dX12_nearest_97 hl (by decide) rfl (fun ls hl => ?_)
  refine lv_iinc (v := 1) (lv' := [(8, .int 1), (7, .int 0), (6, .int 3), (4, .long 0), (3, .int 4), (2, .int 2), (0, .ref h0), (1, .int 1)]) hx hb dX12_nearest_99 hl (k := 1) rfl (by decide +kernel) (by decide) rfl (fun ls hl => ?_)
  refine lv_goto (tgt := 70) hx hb dX12_nearest_102 (by decide) ?_
  refine lv_iload hx hb dX12_nearest_70 (lv_at hl 0 rfl) ?_
  refine lv_iload_n hx hb dX12_nearest_72 rfl (lv_at hl 5 rfl) ?_
  refine lv_icmp_ge (tgt := 105) hx hb dX12_nearest_73 (by decide) (fun c9 => absurd c9 (by decide +kernel)) (fun _ => ?_)
  refine lv_iload hx hb dX12_nearest_76 (lv_at hl 1 rfl) ?_
  refine lv_iload hx hb dX12_nearest_78 (lv_at hl 2 rfl) ?_
  refine lv_iconst (v := 2) hx hb dX12_nearest_80 (by decide +kernel) ?_
  refine lv_iload_n hx hb dX12_nearest_81 rfl (lv_at hl 5 rfl) ?_
  refine lv_iconst (v := 1) hx hb dX12_nearest_82 (by decide +kernel) ?_
  refine jw_isub (v := 1) hx hb dX12_nearest_83 (by decide +kernel) ?_
  refine lv_iload hx hb dX12_nearest_84 (lv_at hl 0 rfl) ?_
  refine jw_isub (v := 0) hx hb dX12_nearest_86 (by decide +kernel) ?_
  refine jw_imul (v := 0) hx hb dX12_nearest_87 (by decide +kernel) ?_
  refine jw_ishr (v := 3) hx hb dX12_nearest_88 (by decide +kernel) ?_
  refine lv_iconst (v := 3) hx hb dX12_nearest_89 (by decide +kernel) ?_
  refine jw_iand (v := 3) hx hb dX12_nearest_90 (by decide +kernel) ?_
  refine lv_iconst (v := 2) hx hb dX12_nearest_91 (by decide +kernel) ?_
  refine lv_iload hx hb dX12_nearest_92 (lv_at hl 0 rfl) ?_
  refine jw_imul (v := 2) hx hb dX12_nearest_94 (by decide +kernel) ?_
  refine jw_ishl (v := 12) hx hb dX12_nearest_95 (by decide +kernel) ?_
  refine jw_ior (v := 12) hx hb dX12_nearest_96 (by decide +kernel) ?_
  refine lv_istore (lv' := [(7, .int 12), (8, .int 1), (6, .int 3), (4, .long 0), (3, .int 4), (2, .int 2), (0, .ref h0), (1, .int 1)]) hx hb dX12_nearest_97 hl (by decide) rfl (fun ls hl => ?_)
  refine lv_iinc (v := 2) (lv' := [(8, .int 2), (7, .int 12), (6, .int 3), (4, .long 0), (3, .int 4), (2, .int 2), (0, .ref h0), (1, .int 1)]) hx hb dX12_nearest_99 hl (k := 1) rfl (by decide +kernel) (by decide) rfl (fun ls hl => ?_)
  refine lv_goto (tgt := 70) hx hb dX12_nearest_102 (by decide) ?_
  refine lv_iload hx hb dX12_nearest_70 (lv_at hl 0 rfl) ?_
  refine lv_iload_n hx hb dX12_nearest_72 rfl (lv_at hl 5 rfl) ?_
  refine lv_icmp_ge (tgt := 105) hx hb dX12_nearest_73 (by decide) (fun _ => ?_) (fun c9 => absurd (by decide +kernel) c9)
  refine lv_iload hx hb dX12_nearest_105 (lv_at hl 1 rfl) ?_
  refine lv_iload_n hx hb dX12_nearest_107 rfl (lv_at hl 5 rfl) ?_
  refine jw_mi (wc := []) (cs := 0) (ss := 0) (va_runS (As := [.int 12, .int 2]) (rest := []) ⟨hx, hb, hml, hown, hts⟩ (k376_X12_isOnce H.size) (va_cwS 2 hts gX12_nearest_X12_isOnce rfl rfl rfl ydS_X12_isOnce ⟨Nat.le_of_ble_eq_true rfl, Nat.le_of_ble_eq_true rfl⟩) (jw_mpreS hP hD hS hA hE [] rfl) rfl rfl hl.1 rfl (lv_room (Nat.le_of_ble_eq_true rfl)) dX12_nearest_108 ⟨Nat.le_of_ble_eq_true rfl, Nat.le_of_ble_eq_true rfl⟩) hP hD hS hA [] rfl rfl rfl (fun r9 w1 H locs hr9 hw9 hP hD hS => ?_)
  subst hr9
  subst hw9
  have hP : va_P D vwCl [(h0, .inr (15, [.ref h14, .int 0, .int 0, .ref h15, .int 0, .int (-1), .int 0, .int 0, .int 0, .int 0, .int 0, .int 2, .int 0, .int 0, .int 0, .ref h16, .ref h17, .ref h18, .ref h19, .int 2, .int 0, .int 0, .int 0, .int 0, .ref h20, .ref h21, .ref h22, .ref h23, .int 2, .ref h1, .int 1, .ref h2, .ref h24, .int 1, .ref h25, .ref h3, .ref h4, .int 0, .ref h26, .ref h27, .ref h5, .ref h6, .ref h7, .ref h8, .ref h9, .ref h10, .ref h11, .int 9, .ref h12, .ref h28, .ref h13, .int (-1), .ref h29, .long 0, .long 0, .int (-1), .int (-1), .long 0, .long 1, .ref h30, .ref h31, .ref h32, .ref h33, .ref h34, .ref h35, .long 0])), (h1, .inl (Y 1, 100, .inl (jw_l 0 [0, 1, 0, 0, 1, 0, 0, 0, 1, 1]))), (h2, .inl (Y 1, 13824, .inl (jw_l 0 [0]))), (h3, .inl (Y 1, 4, .inl (jw_l 0 [0, 1, 2, 3]))), (h4, .inl (Y 1, 4, .inl (jw_l 0 [0, 1, 2, 3]))), (h5, .inl (Y 1, 4, .inl (jw_l 0 [0, 1, 2, 3]))), (h6, .inl (Y 1, 4, .inl (jw_l 0 [0, 1, 2, 3]))), (h7, .inl (Y 1, 6, .inl (jw_l 0 [0, 1]))), (h8, .inl (Y 1, 14425, .inl (jw_l 0 [0]))), (h9, .inl (Y 2, 14425, .inr (.inl (jw_L 0 [1])))), (h10, .inl (Y 1, 13824, .inl (jw_l 0 [0]))), (h11, .inl (Y 1, 16, .inl (jw_l 0 [1, 2, 0, 0, 2, 1, 0, 0, 0, 0, 0, 0, 0, 0, 0, 0]))), (h12, .inl (Y 1, 5, .inl (jw_l 0 [1, 3]))), (h13, .inl (Y 2, 13824, .inr (.inl (jw_L 0 [1]))))] H := hP
  have hD : va_D A [(h0, .inr (15, [.ref h14, .int 0, .int 0, .ref h15, .int 0, .int (-1), .int 0, .int 0, .int 0, .int 0, .int 0, .int 2, .int 0, .int 0, .int 0, .ref h16, .ref h17, .ref h18, .ref h19, .int 2, .int 0, .int 0, .int 0, .int 0, .ref h20, .ref h21, .ref h22, .ref h23, .int 2, .ref h1, .int 1, .ref h2, .ref h24, .int 1, .ref h25, .ref h3, .ref h4, .int 0, .ref h26, .ref h27, .ref h5, .ref h6, .ref h7, .ref h8, .ref h9, .ref h10, .ref h11, .int 9, .ref h12, .ref h28, .ref h13, .int (-1), .ref h29, .long 0, .long 0, .int (-1), .int (-1), .long 0, .long 1, .ref h30, .ref h31, .ref h32, .ref h33, .ref h34, .ref h35, .long 0])), (h1, .inl (Y 1, 100, .inl (jw_l 0 [0, 1, 0, 0, 1, 0, 0, 0, 1, 1]))), (h2, .inl (Y 1, 13824, .inl (jw_l 0 [0]))), (h3, .inl (Y 1, 4, .inl (jw_l 0 [0, 1, 2, 3]))), (h4, .inl (Y 1, 4, .inl (jw_l 0 [0, 1, 2, 3]))), (h5, .inl (Y 1, 4, .inl (jw_l 0 [0, 1, 2, 3]))), (h6, .inl (Y 1, 4, .inl (jw_l 0 [0, 1, 2, 3]))), (h7, .inl (Y 1, 6, .inl (jw_l 0 [0, 1]))), (h8, .inl (Y 1, 14425, .inl (jw_l 0 [0]))), (h9, .inl (Y 2, 14425, .inr (.inl (jw_L 0 [1])))), (h10, .inl (Y 1, 13824, .inl (jw_l 0 [0]))), (h11, .inl (Y 1, 16, .inl (jw_l 0 [1, 2, 0, 0, 2, 1, 0, 0, 0, 0, 0, 0, 0, 0, 0, 0]))), (h12, .inl (Y 1, 5, .inl (jw_l 0 [1, 3]))), (h13, .inl (Y 2, 13824, .inr (.inl (jw_L 0 [1]))))] := hD
  refine lv_if_ne (tgt := 117) hx hb dX12_nearest_111 (by decide) (fun c9 => absurd (by decide +kernel) c9) (fun _ => ?_)
  refine lv_goto (tgt := 204) hx hb dX12_nearest_114 (by decide) ?_
  refine lv_iinc (v := 4) (lv' := [(6, .int 4), (8, .int 2), (7, .int 12), (4, .long 0), (3, .int 4), (2, .int 2), (0, .ref h0), (1, .int 1)]) hx hb dX12_nearest_204 hl (k := 2) rfl (by decide +kernel) (by decide) rfl (fun ls hl => ?_)
  refine lv_goto (tgt := 54) hx hb dX12_nearest_207 (by decide) ?_
  refine lv_iload hx hb dX12_nearest_54 (lv_at hl 0 rfl) ?_
  refine lv_iconst (v := 1) hx hb dX12_nearest_56 (by decide +kernel) ?_
  refine lv_iconst (v := 2) hx hb dX12_nearest_57 (by decide +kernel) ?_
  refine lv_iload_n hx hb dX12_nearest_58 rfl (lv_at hl 5 rfl) ?_
  refine jw_imul (v := 4) hx hb dX12_nearest_59 (by decide +kernel) ?_
  refine jw_ishl (v := 16) hx hb dX12_nearest_60 (by decide +kernel) ?_
  refine lv_icmp_ge (tgt := 210) hx hb dX12_nearest_61 (by decide) (fun c9 => absurd c9 (by decide +kernel)) (fun _ => ?_)
  refine lv_iconst (v := 0) hx hb dX12_nearest_64 (by decide +kernel) ?_
  refine lv_istore (lv' := [(7, .int 0), (6, .int 4), (8, .int 2), (4, .long 0), (3, .int 4), (2, .int 2), (0, .ref h0), (1, .int 1)]) hx hb dX12_nearest_65 hl (by decide) rfl (fun ls hl => ?_)
  refine lv_iconst (v := 0) hx hb dX12_nearest_67 (by decide +kernel) ?_
  refine lv_istore (lv' := [(8, .int 0), (7, .int 0), (6, .int 4), (4, .long 0), (3, .int 4), (2, .int 2), (0, .ref h0), (1, .int 1)]) hx hb dX12_nearest_68 hl (by decide) rfl (fun ls hl => ?_)
  refine lv_iload hx hb dX12_nearest_70 (lv_at hl 0 rfl) ?_
  refine lv_iload_n hx hb dX12_nearest_72 rfl (lv_at hl 5 rfl) ?_
  refine lv_icmp_ge (tgt := 105) hx hb dX12_nearest_73 (by decide) (fun c9 => absurd c9 (by decide +kernel)) (fun _ => ?_)
  refine lv_iload hx hb dX12_nearest_76 (lv_at hl 1 rfl) ?_
  refine lv_iload hx hb dX12_nearest_78 (lv_at hl 2 rfl) ?_
  refine lv_iconst (v := 2) hx hb dX12_nearest_80 (by decide +kernel) ?_
  refine lv_iload_n hx hb dX12_nearest_81 rfl (lv_at hl 5 rfl) ?_
  refine lv_iconst (v := 1) hx hb dX12_nearest_82 (by decide +kernel) ?_
  refine jw_isub (v := 1) hx hb dX12_nearest_83 (by decide +kernel) ?_
  refine lv_iload hx hb dX12_nearest_84 (lv_at hl 0 rfl) ?_
  refine jw_isub (v := 1) hx hb dX12_nearest_86 (by decide +kernel) ?_
  refine jw_imul (v := 2) hx hb dX12_nearest_87 (by decide +kernel) ?_
  refine jw_ishr (v := 1) hx hb dX12_nearest_88 (by decide +kernel) ?_
  refine lv_iconst (v := 3) hx hb dX12_nearest_89 (by decide +kernel) ?_
  refine jw_iand (v := 1) hx hb dX12_nearest_90 (by decide +kernel) ?_
  refine lv_iconst (v := 2) hx hb dX12_nearest_91 (by decide +kernel) ?_
  refine lv_iload hx hb dX12_nearest_92 (lv_at hl 0 rfl) ?_
  refine jw_imul (v := 0) hx hb dX12_nearest_94 (by decide +kernel) ?_
  refine jw_ishl (v := 1) hx hb dX12_nearest_95 (by decide +kernel) ?_
  refine jw_ior (v := 1) hx hb dX12_nearest_96 (by decide +kernel) ?_
  refine lv_istore (lv' := [(7, .int 1), (8, .int 0), (6, .int 4), (4, .long 0), (3, .int 4), (2, .int 2), (0, .ref h0), (1, .int 1)]) hx hb dX12_nearest_97 hl (by decide) rfl (fun ls hl => ?_)
  refine lv_iinc (v := 1) (lv' := [(8, .int 1), (7, .int 1), (6, .int 4), (4, .long 0), (3, .int 4), (2, .int 2), (0, .ref h0), (1, .int 1)]) hx hb dX12_nearest_99 hl (k := 1) rfl (by decide +kernel) (by decide) rfl (fun ls hl => ?_)
  refine lv_goto (tgt := 70) hx hb dX12_nearest_102 (by decide) ?_
  refine lv_iload hx hb dX12_nearest_70 (lv_at hl 0 rfl) ?_
  refine lv_iload_n hx hb dX12_nearest_72 rfl (lv_at hl 5 rfl) ?_
  refine lv_icmp_ge (tgt := 105) hx hb dX12_nearest_73 (by decide) (fun c9 => absurd c9 (by decide +kernel)) (fun _ => ?_)
  refine lv_iload hx hb dX12_nearest_76 (lv_at hl 1 rfl) ?_
  refine lv_iload hx hb dX12_nearest_78 (lv_at hl 2 rfl) ?_
  refine lv_iconst (v := 2) hx hb dX12_nearest_80 (by decide +kernel) ?_
  refine lv_iload_n hx hb dX12_nearest_81 rfl (lv_at hl 5 rfl) ?_
  refine lv_iconst (v := 1) hx hb dX12_nearest_82 (by decide +kernel) ?_
  refine jw_isub (v := 1) hx hb dX12_nearest_83 (by decide +kernel) ?_
  refine lv_iload hx hb dX12_nearest_84 (lv_at hl 0 rfl) ?_
  refine jw_isub (v := 0) hx hb dX12_nearest_86 (by decide +kernel) ?_
  refine jw_imul (v := 0) hx hb dX12_nearest_87 (by decide +kernel) ?_
  refine jw_ishr (v := 4) hx hb dX12_nearest_88 (by decide +kernel) ?_
  refine lv_iconst (v := 3) hx hb dX12_nearest_89 (by decide +kernel) ?_
  refine jw_iand (v := 0) hx hb dX12_nearest_90 (by decide +kernel) ?_
  refine lv_iconst (v := 2) hx hb dX12_nearest_91 (by decide +kernel) ?_
  refine lv_iload hx hb dX12_nearest_92 (lv_at hl 0 rfl) ?_
  refine jw_imul (v := 2) hx hb dX12_nearest_94 (by decide +kernel) ?_
  refine jw_ishl (v := 0) hx hb dX12_nearest_95 (by decide +kernel) ?_
  refine jw_ior (v := 1) hx hb dX12_nearest_96 (by decide +kernel) ?_
  refine lv_istore (lv' := [(7, .int 1), (8, .int 1), (6, .int 4), (4, .long 0), (3, .int 4), (2, .int 2), (0, .ref h0), (1, .int 1)]) hx hb dX12_nearest_97 hl (by decide) rfl (fun ls hl => ?_)
  refine lv_iinc (v := 2) (lv' := [(8, .int 2), (7, .int 1), (6, .int 4), (4, .long 0), (3, .int 4), (2, .int 2), (0, .ref h0), (1, .int 1)]) hx hb dX12_nearest_99 hl (k := 1) rfl (by decide +kernel) (by decide) rfl (fun ls hl => ?_)
  refine lv_goto (tgt := 70) hx hb dX12_nearest_102 (by decide) ?_
  refine lv_iload hx hb dX12_nearest_70 (lv_at hl 0 rfl) ?_
  refine lv_iload_n hx hb dX12_nearest_72 rfl (lv_at hl 5 rfl) ?_
  refine lv_icmp_ge (tgt := 105) hx hb dX12_nearest_73 (by decide) (fun _ => ?_) (fun c9 => absurd (by decide +kernel) c9)
  refine lv_iload hx hb dX12_nearest_105 (lv_at hl 1 rfl) ?_
  refine lv_iload_n hx hb dX12_nearest_107 rfl (lv_at hl 5 rfl) ?_
  refine jw_mi (wc := []) (cs := 0) (ss := 0) (va_runS (As := [.int 1, .int 2]) (rest := []) ⟨hx, hb, hml, hown, hts⟩ (k377_X12_isOnce H.size) (va_cwS 2 hts gX12_nearest_X12_isOnce rfl rfl rfl ydS_X12_isOnce ⟨Nat.le_of_ble_eq_true rfl, Nat.le_of_ble_eq_true rfl⟩) (jw_mpreS hP hD hS hA hE [] rfl) rfl rfl hl.1 rfl (lv_room (Nat.le_of_ble_eq_true rfl)) dX12_nearest_108 ⟨Nat.le_of_ble_eq_true rfl, Nat.le_of_ble_eq_true rfl⟩) hP hD hS hA [] rfl rfl rfl (fun r9 w1 H locs hr9 hw9 hP hD hS => ?_)
  subst hr9
  subst hw9
  have hP : va_P D vwCl [(h0, .inr (15, [.ref h14, .int 0, .int 0, .ref h15, .int 0, .int (-1), .int 0, .int 0, .int 0, .int 0, .int 0, .int 2, .int 0, .int 0, .int 0, .ref h16, .ref h17, .ref h18, .ref h19, .int 2, .int 0, .int 0, .int 0, .int 0, .ref h20, .ref h21, .ref h22, .ref h23, .int 2, .ref h1, .int 1, .ref h2, .ref h24, .int 1, .ref h25, .ref h3, .ref h4, .int 0, .ref h26, .ref h27, .ref h5, .ref h6, .ref h7, .ref h8, .ref h9, .ref h10, .ref h11, .int 9, .ref h12, .ref h28, .ref h13, .int (-1), .ref h29, .long 0, .long 0, .int (-1), .int (-1), .long 0, .long 1, .ref h30, .ref h31, .ref h32, .ref h33, .ref h34, .ref h35, .long 0])), (h1, .inl (Y 1, 100, .inl (jw_l 0 [0, 1, 0, 0, 1, 0, 0, 0, 1, 1]))), (h2, .inl (Y 1, 13824, .inl (jw_l 0 [0]))), (h3, .inl (Y 1, 4, .inl (jw_l 0 [0, 1, 2, 3]))), (h4, .inl (Y 1, 4, .inl (jw_l 0 [0, 1, 2, 3]))), (h5, .inl (Y 1, 4, .inl (jw_l 0 [0, 1, 2, 3]))), (h6, .inl (Y 1, 4, .inl (jw_l 0 [0, 1, 2, 3]))), (h7, .inl (Y 1, 6, .inl (jw_l 0 [0, 1]))), (h8, .inl (Y 1, 14425, .inl (jw_l 0 [0]))), (h9, .inl (Y 2, 14425, .inr (.inl (jw_L 0 [1])))), (h10, .inl (Y 1, 13824, .inl (jw_l 0 [0]))), (h11, .inl (Y 1, 16, .inl (jw_l 0 [1, 2, 0, 0, 2, 1, 0, 0, 0, 0, 0, 0, 0, 0, 0, 0]))), (h12, .inl (Y 1, 5, .inl (jw_l 0 [1, 3]))), (h13, .inl (Y 2, 13824, .inr (.inl (jw_L 0 [1]))))] H := hP
  have hD : va_D A [(h0, .inr (15, [.ref h14, .int 0, .int 0, .ref h15, .int 0, .int (-1), .int 0, .int 0, .int 0, .int 0, .int 0, .int 2, .int 0, .int 0, .int 0, .ref h16, .ref h17, .ref h18, .ref h19, .int 2, .int 0, .int 0, .int 0, .int 0, .ref h20, .ref h21, .ref h22, .ref h23, .int 2, .ref h1, .int 1, .ref h2, .ref h24, .int 1, .ref h25, .ref h3, .ref h4, .int 0, .ref h26, .ref h27, .ref h5, .ref h6, .ref h7, .ref h8, .ref h9, .ref h10, .ref h11, .int 9, .ref h12, .ref h28, .ref h13, .int (-1), .ref h29, .long 0, .long 0, .int (-1), .int (-1), .long 0, .long 1, .ref h30, .ref h31, .ref h32, .ref h33, .ref h34, .ref h35, .long 0])), (h1, .inl (Y 1, 100, .inl (jw_l 0 [0, 1, 0, 0, 1, 0, 0, 0, 1, 1]))), (h2, .inl (Y 1, 13824, .inl (jw_l 0 [0]))), (h3, .inl (Y 1, 4, .inl (jw_l 0 [0, 1, 2, 3]))), (h4, .inl (Y 1, 4, .inl (jw_l 0 [0, 1, 2, 3]))), (h5, .inl (Y 1, 4, .inl (jw_l 0 [0, 1, 2, 3]))), (h6, .inl (Y 1, 4, .inl (jw_l 0 [0, 1, 2, 3]))), (h7, .inl (Y 1, 6, .inl (jw_l 0 [0, 1]))), (h8, .inl (Y 1, 14425, .inl (jw_l 0 [0]))), (h9, .inl (Y 2, 14425, .inr (.inl (jw_L 0 [1])))), (h10, .inl (Y 1, 13824, .inl (jw_l 0 [0]))), (h11, .inl (Y 1, 16, .inl (jw_l 0 [1, 2, 0, 0, 2, 1, 0, 0, 0, 0, 0, 0, 0, 0, 0, 0]))), (h12, .inl (Y 1, 5, .inl (jw_l 0 [1, 3]))), (h13, .inl (Y 2, 13824, .inr (.inl (jw_L 0 [1]))))] := hD
  refine lv_if_ne (tgt := 117) hx hb dX12_nearest_111 (by decide) (fun _ => ?_) (fun c9 => absurd c9 (by decide +kernel))
  refine lv_iconst (v := 0) hx hb dX12_nearest_117 (by decide +kernel) ?_
  refine lv_istore (lv' := [(8, .int 0), (7, .int 1), (6, .int 4), (4, .long 0), (3, .int 4), (2, .int 2), (0, .ref h0), (1, .int 1)]) hx hb dX12_nearest_118 hl (by decide) rfl (fun ls hl => ?_)
  refine lv_iload hx hb dX12_nearest_120 (lv_at hl 0 rfl) ?_
  refine lv_iload_n hx hb dX12_nearest_122 rfl (lv_at hl 5 rfl) ?_
  refine lv_icmp_ge (tgt := 171) hx hb dX12_nearest_123 (by decide) (fun c9 => absurd c9 (by decide +kernel)) (fun _ => ?_)
  refine lv_iload_n hx hb dX12_nearest_126 rfl (lv_at hl 7 rfl) ?_
  refine lv_if_ne (tgt := 149) hx hb dX12_nearest_127 (by decide) (fun _ => ?_) (fun c9 => absurd c9 (by decide +kernel))
  refine lv_aload_n hx hb dX12_nearest_149 rfl (lv_at hl 6 rfl) ?_
  refine va_get (D := D) (ci := 15) (v := .ref h6) (C := RX12) (T := TX12) (N := 66) hx hb hts iw_X12_nearest__X12 hown hE.1 hP 0 rfl rfl 41 (by decide) (hts _ mw_X12_nearest__6) (fun _ h9 => h9) rfl dX12_nearest_150 ?_
  refine lv_iload hx hb dX12_nearest_153 (lv_at hl 0 rfl) ?_
  refine lv_iload hx hb dX12_nearest_155 (lv_at hl 1 rfl) ?_
  refine lv_iconst (v := 2) hx hb dX12_nearest_157 (by decide +kernel) ?_
  refine lv_iload hx hb dX12_nearest_158 (lv_at hl 0 rfl) ?_
  refine jw_imul (v := 0) hx hb dX12_nearest_160 (by decide +kernel) ?_
  refine jw_ishr (v := 1) hx hb dX12_nearest_161 (by decide +kernel) ?_
  refine lv_iconst (v := 3) hx hb dX12_nearest_162 (by decide +kernel) ?_
  refine jw_iand (v := 1) hx hb dX12_nearest_163 (by decide +kernel) ?_
  refine jw_iast (ws' := [(h0, .inr (15, [.ref h14, .int 0, .int 0, .ref h15, .int 0, .int (-1), .int 0, .int 0, .int 0, .int 0, .int 0, .int 2, .int 0, .int 0, .int 0, .ref h16, .ref h17, .ref h18, .ref h19, .int 2, .int 0, .int 0, .int 0, .int 0, .ref h20, .ref h21, .ref h22, .ref h23, .int 2, .ref h1, .int 1, .ref h2, .ref h24, .int 1, .ref h25, .ref h3, .ref h4, .int 0, .ref h26, .ref h27, .ref h5, .ref h6, .ref h7, .ref h8, .ref h9, .ref h10, .ref h11, .int 9, .ref h12, .ref h28, .ref h13, .int (-1), .ref h29, .long 0, .long 0, .int (-1), .int (-1), .long 0, .long 1, .ref h30, .ref h31, .ref h32, .ref h33, .ref h34, .ref h35, .long 0])), (h1, .inl (Y 1, 100, .inl (jw_l 0 [0, 1, 0, 0, 1, 0, 0, 0, 1, 1]))), (h2, .inl (Y 1, 13824, .inl (jw_l 0 [0]))), (h3, .inl (Y 1, 4, .inl (jw_l 0 [0, 1, 2, 3]))), (h4, .inl (Y 1, 4, .inl (jw_l 0 [0, 1, 2, 3]))), (h5, .inl (Y 1, 4, .inl (jw_l 0 [0, 1, 2, 3]))), (h6, .inl (Y 1, 4, .inl (jw_l 0 [1, 1, 2, 3]))), (h7, .inl (Y 1, 6, .inl (jw_l 0 [0, 1]))), (h8, .inl (Y 1, 14425, .inl (jw_l 0 [0]))), (h9, .inl (Y 2, 14425, .inr (.inl (jw_L 0 [1])))), (h10, .inl (Y 1, 13824, .inl (jw_l 0 [0]))), (h11, .inl (Y 1, 16, .inl (jw_l 0 [1, 2, 0, 0, 2, 1, 0, 0, 0, 0, 0, 0, 0, 0, 0, 0]))), (h12, .inl (Y 1, 5, .inl (jw_l 0 [1, 3]))), (h13, .inl (Y 2, 13824, .inr (.inl (jw_L 0 [1]))))]) hx hb hE hP hD hS 6 0 [1, 1, 2, 3] rfl (by decide +kernel) (by decide +kernel) rfl dX12_nearest_164 (fun H locs hP hD hS => ?_)
  refine lv_iinc (v := 1) (lv' := [(8, .int 1), (7, .int 1), (6, .int 4), (4, .long 0), (3, .int 4), (2, .int 2), (0, .ref h0), (1, .int 1)]) hx hb dX12_nearest_165 hl (k := 0) rfl (by decide +kernel) (by decide) rfl (fun ls hl => ?_)
  refine lv_goto (tgt := 120) hx hb dX12_nearest_168 (by decide) ?_
  refine lv_iload hx hb dX12_nearest_120 (lv_at hl 0 rfl) ?_
  refine lv_iload_n hx hb dX12_nearest_122 rfl (lv_at hl 5 rfl) ?_
  refine lv_icmp_ge (tgt := 171) hx hb dX12_nearest_123 (by decide) (fun c9 => absurd c9 (by decide +kernel)) (fun _ => ?_)
  refine lv_iload_n hx hb dX12_nearest_126 rfl (lv_at hl 7 rfl) ?_
  refine lv_if_ne (tgt := 149) hx hb dX12_nearest_127 (by decide) (fun _ => ?_) (fun c9 => absurd c9 (by decide +kernel))
  refine lv_aload_n hx hb dX12_nearest_149 rfl (lv_at hl 6 rfl) ?_
  refine va_get (D := D) (ci := 15) (v := .ref h6) (C := RX12) (T := TX12) (N := 66) hx hb hts iw_X12_nearest__X12 hown hE.1 hP 0 rfl rfl 41 (by decide) (hts _ mw_X12_nearest__6) (fun _ h9 => h9) rfl dX12_nearest_150 ?_
  refine lv_iload hx hb dX12_nearest_153 (lv_at hl 0 rfl) ?_
  refine lv_iload hx hb dX12_nearest_155 (lv_at hl 1 rfl) ?_
  refine lv_iconst (v := 2) hx hb dX12_nearest_157 (by decide +kernel) ?_
  refine lv_iload hx hb dX12_nearest_158 (lv_at hl 0 rfl) ?_
  refine jw_imul (v := 2) hx hb dX12_nearest_160 (by decide +kernel) ?_
  refine jw_ishr (v := 0) hx hb dX12_nearest_161 (by decide +kernel) ?_
  refine lv_iconst (v := 3) hx hb dX12_nearest_162 (by decide +kernel) ?_
  refine jw_iand (v := 0) hx hb dX12_nearest_163 (by decide +kernel) ?_
  refine jw_iast (ws' := [(h0, .inr (15, [.ref h14, .int 0, .int 0, .ref h15, .int 0, .int (-1), .int 0, .int 0, .int 0, .int 0, .int 0, .int 2, .int 0, .int 0, .int 0, .ref h16, .ref h17, .ref h18, .ref h19, .int 2, .int 0, .int 0, .int 0, .int 0, .ref h20, .ref h21, .ref h22, .ref h23, .int 2, .ref h1, .int 1, .ref h2, .ref h24, .int 1, .ref h25, .ref h3, .ref h4, .int 0, .ref h26, .ref h27, .ref h5, .ref h6, .ref h7, .ref h8, .ref h9, .ref h10, .ref h11, .int 9, .ref h12, .ref h28, .ref h13, .int (-1), .ref h29, .long 0, .long 0, .int (-1), .int (-1), .long 0, .long 1, .ref h30, .ref h31, .ref h32, .ref h33, .ref h34, .ref h35, .long 0])), (h1, .inl (Y 1, 100, .inl (jw_l 0 [0, 1, 0, 0, 1, 0, 0, 0, 1, 1]))), (h2, .inl (Y 1, 13824, .inl (jw_l 0 [0]))), (h3, .inl (Y 1, 4, .inl (jw_l 0 [0, 1, 2, 3]))), (h4, .inl (Y 1, 4, .inl (jw_l 0 [0, 1, 2, 3]))), (h5, .inl (Y 1, 4, .inl (jw_l 0 [0, 1, 2, 3]))), (h6, .inl (Y 1, 4, .inl (jw_l 0 [1, 0, 2, 3]))), (h7, .inl (Y 1, 6, .inl (jw_l 0 [0, 1]))), (h8, .inl (Y 1, 14425, .inl (jw_l 0 [0]))), (h9, .inl (Y 2, 14425, .inr (.inl (jw_L 0 [1])))), (h10, .inl (Y 1, 13824, .inl (jw_l 0 [0]))), (h11, .inl (Y 1, 16, .inl (jw_l 0 [1, 2, 0, 0, 2, 1, 0, 0, 0, 0, 0, 0, 0, 0, 0, 0]))), (h12, .inl (Y 1, 5, .inl (jw_l 0 [1, 3]))), (h13, .inl (Y 2, 13824, .inr (.inl (jw_L 0 [1]))))]) hx hb hE hP hD hS 6 1 [1, 0, 2, 3] rfl (by decide +kernel) (by decide +kernel) rfl dX12_nearest_164 (fun H locs hP hD hS => ?_)
  refine lv_iinc (v := 2) (lv' := [(8, .int 2), (7, .int 1), (6, .int 4), (4, .long 0), (3, .int 4), (2, .int 2), (0, .ref h0), (1, .int 1)]) hx hb dX12_nearest_165 hl (k := 0) rfl (by decide +kernel) (by decide) rfl (fun ls hl => ?_)
  refine lv_goto (tgt := 120) hx hb dX12_nearest_168 (by decide) ?_
  refine lv_iload hx hb dX12_nearest_120 (lv_at hl 0 rfl) ?_
  refine lv_iload_n hx hb dX12_nearest_122 rfl (lv_at hl 5 rfl) ?_
  refine lv_icmp_ge (tgt := 171) hx hb dX12_nearest_123 (by decide) (fun _ => ?_) (fun c9 => absurd (by decide +kernel) c9)
  refine lv_aload_n hx hb dX12_nearest_171 rfl (lv_at hl 6 rfl) ?_
  refine lv_iconst (v := 0) hx hb dX12_nearest_172 (by decide +kernel) ?_
  refine lv_iconst (v := 1) hx hb dX12_nearest_173 (by decide +kernel) ?_
  refine jw_mv (wc := [(h0, .inr (15, [.ref h14, .int 0, .int 0, .ref h15, .int 0, .int (-1), .int 0, .int 0, .int 0, .int 0, .int 0, .int 2, .int 0, .int 0, .int 0, .ref h16, .ref h17, .ref h18, .ref h19, .int 2, .int 0, .int 0, .int 0, .int 0, .ref h20, .ref h21, .ref h22, .ref h23, .int 2, .ref h1, .int 1, .ref h2, .ref h24, .int 1, .ref h25, .ref h3, .ref h4, .int 0, .ref h26, .ref h27, .ref h5, .ref h6, .ref h7, .ref h8, .ref h9, .ref h10, .ref h11, .int 9, .ref h12, .ref h28, .ref h13, .int (-1), .ref h29, .long 0, .long 0, .int (-1), .int (-1), .long 0, .long 1, .ref h30, .ref h31, .ref h32, .ref h33, .ref h34, .ref h35, .long 0])), (h1, .inl (Y 1, 100, .inl (jw_l 0 [0, 1, 0, 0, 1, 0, 0, 0, 1, 1]))), (h2, .inl (Y 1, 13824, .inl (jw_l 0 [0]))), (h7, .inl (Y 1, 6, .inl (jw_l 0 [0, 1]))), (h8, .inl (Y 1, 14425, .inl (jw_l 0 [0]))), (h9, .inl (Y 2, 14425, .inr (.inl (jw_L 0 [1])))), (h10, .inl (Y 1, 13824, .inl (jw_l 0 [0]))), (h11, .inl (Y 1, 16, .inl (jw_l 0 [1, 2, 0, 0, 2, 1, 0, 0, 0, 0, 0, 0, 0, 0, 0, 0]))), (h12, .inl (Y 1, 5, .inl (jw_l 0 [1, 3]))), (h13, .inl (Y 2, 13824, .inr (.inl (jw_L 0 [1]))))]) (cs := 0) (ss := 0) (va_runV (As := [.int 0, .int 1]) (rest := []) ⟨hx, hb, hml, hown, hts⟩ (k383_X12_layApart h0 h1 h2 h7 h8 h9 h10 h11 h12 h13 h14 h15 h16 h17 h18 h19 h20 h21 h22 h23 h24 h25 h3 h4 h26 h27 h5 h6 h28 h29 h30 h31 h32 h33 h34 h35 H.size) (cwV 2 hts gX12_nearest_X12_layApart rfl rfl rfl ydV_X12_layApart ⟨Nat.le_of_ble_eq_true rfl, Nat.le_of_ble_eq_true rfl⟩) (jw_mpreV (ci := 15) (q0 := 0) hP hD hS hA hE [true, true, true, false, false, false, false, true, true, true, true, true, true, true] rfl rfl rfl) rfl rfl hl.1 rfl (lv_room (Nat.le_of_ble_eq_true rfl)) dX12_nearest_174 ⟨Nat.le_of_ble_eq_true rfl, Nat.le_of_ble_eq_true rfl⟩) hP hD hS hA [true, true, true, false, false, false, false, true, true, true, true, true, true, true] rfl rfl rfl (fun w1 H locs hw9 hP hD hS => ?_)
  subst hw9
  have hP : va_P D vwCl [(h0, .inr (15, [.ref h14, .int 0, .int 0, .ref h15, .int 0, .int (-1), .int 0, .int 0, .int 0, .int 0, .int 0, .int 2, .int 0, .int 0, .int 0, .ref h16, .ref h17, .ref h18, .ref h19, .int 2, .int 0, .int 0, .int 0, .int 0, .ref h20, .ref h21, .ref h22, .ref h23, .int 2, .ref h1, .int 1, .ref h2, .ref h24, .int 1, .ref h25, .ref h3, .ref h4, .int 0, .ref h26, .ref h27, .ref h5, .ref h6, .ref h7, .ref h8, .ref h9, .ref h10, .ref h11, .int 9, .ref h12, .ref h28, .ref h13, .int (-1), .ref h29, .long 0, .long 0, .int (-1), .int (-1), .long 0, .long 1, .ref h30, .ref h31, .ref h32, .ref h33, .ref h34, .ref h35, .long 0])), (h1, .inl (Y 1, 100, .inl (jw_l 0 [0, 1, 0, 0, 1, 0, 0, 0, 1, 1]))), (h2, .inl (Y 1, 13824, .inl (jw_l 0 [0]))), (h3, .inl (Y 1, 4, .inl (jw_l 0 [0, 1, 2, 3]))), (h4, .inl (Y 1, 4, .inl (jw_l 0 [0, 1, 2, 3]))), (h5, .inl (Y 1, 4, .inl (jw_l 0 [0, 1, 2, 3]))), (h6, .inl (Y 1, 4, .inl (jw_l 0 [1, 0, 2, 3]))), (h7, .inl (Y 1, 6, .inl (jw_l 0 [0, 1]))), (h8, .inl (Y 1, 14425, .inl (jw_l 0 [0]))), (h9, .inl (Y 2, 14425, .inr (.inl (jw_L 0 [1])))), (h10, .inl (Y 1, 13824, .inl (jw_l 0 [0]))), (h11, .inl (Y 1, 16, .inl (jw_l 0 [1, 2, 0, 0, 2, 1, 0, 0, 0, 0, 0, 0, 0, 0, 0, 0]))), (h12, .inl (Y 1, 5, .inl (jw_l 0 [1, 3]))), (h13, .inl (Y 2, 13824, .inr (.inl (jw_L 0 [1]))))] H := hP
  have hD : va_D A [(h0, .inr (15, [.ref h14, .int 0, .int 0, .ref h15, .int 0, .int (-1), .int 0, .int 0, .int 0, .int 0, .int 0, .int 2, .int 0, .int 0, .int 0, .ref h16, .ref h17, .ref h18, .ref h19, .int 2, .int 0, .int 0, .int 0, .int 0, .ref h20, .ref h21, .ref h22, .ref h23, .int 2, .ref h1, .int 1, .ref h2, .ref h24, .int 1, .ref h25, .ref h3, .ref h4, .int 0, .ref h26, .ref h27, .ref h5, .ref h6, .ref h7, .ref h8, .ref h9, .ref h10, .ref h11, .int 9, .ref h12, .ref h28, .ref h13, .int (-1), .ref h29, .long 0, .long 0, .int (-1), .int (-1), .long 0, .long 1, .ref h30, .ref h31, .ref h32, .ref h33, .ref h34, .ref h35, .long 0])), (h1, .inl (Y 1, 100, .inl (jw_l 0 [0, 1, 0, 0, 1, 0, 0, 0, 1, 1]))), (h2, .inl (Y 1, 13824, .inl (jw_l 0 [0]))), (h3, .inl (Y 1, 4, .inl (jw_l 0 [0, 1, 2, 3]))), (h4, .inl (Y 1, 4, .inl (jw_l 0 [0, 1, 2, 3]))), (h5, .inl (Y 1, 4, .inl (jw_l 0 [0, 1, 2, 3]))), (h6, .inl (Y 1, 4, .inl (jw_l 0 [1, 0, 2, 3]))), (h7, .inl (Y 1, 6, .inl (jw_l 0 [0, 1]))), (h8, .inl (Y 1, 14425, .inl (jw_l 0 [0]))), (h9, .inl (Y 2, 14425, .inr (.inl (jw_L 0 [1])))), (h10, .inl (Y 1, 13824, .inl (jw_l 0 [0]))), (h11, .inl (Y 1, 16, .inl (jw_l 0 [1, 2, 0, 0, 2, 1, 0, 0, 0, 0, 0, 0, 0, 0, 0, 0]))), (h12, .inl (Y 1, 5, .inl (jw_l 0 [1, 3]))), (h13, .inl (Y 2, 13824, .inr (.inl (jw_L 0 [1]))))] := hD
  refine lv_iload_n hx hb dX12_nearest_177 rfl (lv_at hl 4 rfl) ?_
  refine lv_iconst (v := (-1)) hx hb dX12_nearest_178 (by decide +kernel) ?_
  refine lv_icmp_eq (tgt := 195) hx hb dX12_nearest_179 (by decide) (fun c9 => absurd c9 (by decide +kernel)) (fun _ => ?_)
  refine lv_aload_n hx hb dX12_nearest_182 rfl (lv_at hl 6 rfl) ?_
  refine va_get (D := D) (ci := 15) (v := .long 0) (C := RX12) (T := TX12) (N := 66) hx hb hts iw_X12_nearest__X12 hown hE.1 hP 0 rfl rfl 53 (by decide) (hts _ mw_X12_nearest__7) (fun _ h9 => h9) rfl dX12_nearest_183 ?_
  refine lv_lload hx hb dX12_nearest_186 (lv_at hl 3 rfl) ?_
  refine jw_lcmp (v := 0) hx hb dX12_nearest_188 (by decide +kernel) ?_
  refine lv_if_lt (tgt := 195) hx hb dX12_nearest_189 (by decide) (fun c9 => absurd c9 (by decide +kernel)) (fun _ => ?_)
  refine lv_goto (tgt := 204) hx hb dX12_nearest_192 (by decide) ?_
  refine lv_iinc (v := 5) (lv' := [(6, .int 5), (8, .int 2), (7, .int 1), (4, .long 0), (3, .int 4), (2, .int 2), (0, .ref h0), (1, .int 1)]) hx hb dX12_nearest_204 hl (k := 2) rfl (by decide +kernel) (by decide) rfl (fun ls hl => ?_)
  refine lv_goto (tgt := 54) hx hb dX12_nearest_207 (by decide) ?_
  refine lv_iload hx hb dX12_nearest_54 (lv_at hl 0 rfl) ?_
  refine lv_iconst (v := 1) hx hb dX12_nearest_56 (by decide +kernel) ?_
  refine lv_iconst (v := 2) hx hb dX12_nearest_57 (by decide +kernel) ?_
  refine lv_iload_n hx hb dX12_nearest_58 rfl (lv_at hl 5 rfl) ?_
  refine jw_imul (v := 4) hx hb dX12_nearest_59 (by decide +kernel) ?_
  refine jw_ishl (v := 16) hx hb dX12_nearest_60 (by decide +kernel) ?_
  refine lv_icmp_ge (tgt := 210) hx hb dX12_nearest_61 (by decide) (fun c9 => absurd c9 (by decide +kernel)) (fun _ => ?_)
  refine lv_iconst (v := 0) hx hb dX12_nearest_64 (by decide +kernel) ?_
  refine lv_istore (lv' := [(7, .int 0), (6, .int 5), (8, .int 2), (4, .long 0), (3, .int 4), (2, .int 2), (0, .ref h0), (1, .int 1)]) hx hb dX12_nearest_65 hl (by decide) rfl (fun ls hl => ?_)
  refine lv_iconst (v := 0) hx hb dX12_nearest_67 (by decide +kernel) ?_
  refine lv_istore (lv' := [(8, .int 0), (7, .int 0), (6, .int 5), (4, .long 0), (3, .int 4), (2, .int 2), (0, .ref h0), (1, .int 1)]) hx hb dX12_nearest_68 hl (by decide) rfl (fun ls hl => ?_)
  refine lv_iload hx hb dX12_nearest_70 (lv_at hl 0 rfl) ?_
  refine lv_iload_n hx hb dX12_nearest_72 rfl (lv_at hl 5 rfl) ?_
  refine lv_icmp_ge (tgt := 105) hx hb dX12_nearest_73 (by decide) (fun c9 => absurd c9 (by decide +kernel)) (fun _ => ?_)
  refine lv_iload hx hb dX12_nearest_76 (lv_at hl 1 rfl) ?_
  refine lv_iload hx hb dX12_nearest_78 (lv_at hl 2 rfl) ?_
  refine lv_iconst (v := 2) hx hb dX12_nearest_80 (by decide +kernel) ?_
  refine lv_iload_n hx hb dX12_nearest_81 rfl (lv_at hl 5 rfl) ?_
  refine lv_iconst (v := 1) hx hb dX12_nearest_82 (by decide +kernel) ?_
  refine jw_isub (v := 1) hx hb dX12_nearest_83 (by decide +kernel) ?_
  refine lv_iload hx hb dX12_nearest_84 (lv_at hl 0 rfl) ?_
  refine jw_isub (v := 1) hx hb dX12_nearest_86 (by decide +kernel) ?_
  refine jw_imul (v := 2) hx hb dX12_nearest_87 (by decide +kernel) ?_
  refine jw_ishr (v := 1) hx hb dX12_nearest_88 (by decide +kernel) ?_
  refine lv_iconst (v := 3) hx hb dX12_nearest_89 (by decide +kernel) ?_
  refine jw_iand (v := 1) hx hb dX12_nearest_90 (by decide +kernel) ?_
  refine lv_iconst (v := 2) hx hb dX12_nearest_91 (by decide +kernel) ?_
  refine lv_iload hx hb dX12_nearest_92 (lv_at hl 0 rfl) ?_
  refine jw_imul (v := 0) hx hb dX12_nearest_94 (by decide +kernel) ?_
  refine jw_ishl (v := 1) hx hb dX12_nearest_95 (by decide +kernel) ?_
  refine jw_ior (v := 1) hx hb dX12_nearest_96 (by decide +kernel) ?_
  refine lv_istore (lv' := [(7, .int 1), (8, .int 0), (6, .int 5), (4, .long 0), (3, .int 4), (2, .int 2), (0, .ref h0), (1, .int 1)]) hx hb dX12_nearest_97 hl (by decide) rfl (fun ls hl => ?_)
  refine lv_iinc (v := 1) (lv' := [(8, .int 1), (7, .int 1), (6, .int 5), (4, .long 0), (3, .int 4), (2, .int 2), (0, .ref h0), (1, .int 1)]) hx hb dX12_nearest_99 hl (k := 1) rfl (by decide +kernel) (by decide) rfl (fun ls hl => ?_)
  refine lv_goto (tgt := 70) hx hb dX12_nearest_102 (by decide) ?_
  refine lv_iload hx hb dX12_nearest_70 (lv_at hl 0 rfl) ?_
  refine lv_iload_n hx hb dX12_nearest_72 rfl (lv_at hl 5 rfl) ?_
  refine lv_icmp_ge (tgt := 105) hx hb dX12_nearest_73 (by decide) (fun c9 => absurd c9 (by decide +kernel)) (fun _ => ?_)
  refine lv_iload hx hb dX12_nearest_76 (lv_at hl 1 rfl) ?_
  refine lv_iload hx hb dX12_nearest_78 (lv_at hl 2 rfl) ?_
  refine lv_iconst (v := 2) hx hb dX12_nearest_80 (by decide +kernel) ?_
  refine lv_iload_n hx hb dX12_nearest_81 rfl (lv_at hl 5 rfl) ?_
  refine lv_iconst (v := 1) hx hb dX12_nearest_82 (by decide +kernel) ?_
  refine jw_isub (v := 1) hx hb dX12_nearest_83 (by decide +kernel) ?_
  refine lv_iload hx hb dX12_nearest_84 (lv_at hl 0 rfl) ?_
  refine jw_isub (v := 0) hx hb dX12_nearest_86 (by decide +kernel) ?_
  refine jw_imul (v := 0) hx hb dX12_nearest_87 (by decide +kernel) ?_
  refine jw_ishr (v := 5) hx hb dX12_nearest_88 (by decide +kernel) ?_
  refine lv_iconst (v := 3) hx hb dX12_nearest_89 (by decide +kernel) ?_
  refine jw_iand (v := 1) hx hb dX12_nearest_90 (by decide +kernel) ?_
  refine lv_iconst (v := 2) hx hb dX12_nearest_91 (by decide +kernel) ?_
  refine lv_iload hx hb dX12_nearest_92 (lv_at hl 0 rfl) ?_
  refine jw_imul (v := 2) hx hb dX12_nearest_94 (by decide +kernel) ?_
  refine jw_ishl (v := 4) hx hb dX12_nearest_95 (by decide +kernel) ?_
  refine jw_ior (v := 5) hx hb dX12_nearest_96 (by decide +kernel) ?_
  refine lv_istore (lv' := [(7, .int 5), (8, .int 1), (6, .int 5), (4, .long 0), (3, .int 4), (2, .int 2), (0, .ref h0), (1, .int 1)]) hx hb dX12_nearest_97 hl (by decide) rfl (fun ls hl => ?_)
  refine lv_iinc (v := 2) (lv' := [(8, .int 2), (7, .int 5), (6, .int 5), (4, .long 0), (3, .int 4), (2, .int 2), (0, .ref h0), (1, .int 1)]) hx hb dX12_nearest_99 hl (k := 1) rfl (by decide +kernel) (by decide) rfl (fun ls hl => ?_)
  refine lv_goto (tgt := 70) hx hb dX12_nearest_102 (by decide) ?_
  refine lv_iload hx hb dX12_nearest_70 (lv_at hl 0 rfl) ?_
  refine lv_iload_n hx hb dX12_nearest_72 rfl (lv_at hl 5 rfl) ?_
  refine lv_icmp_ge (tgt := 105) hx hb dX12_nearest_73 (by decide) (fun _ => ?_) (fun c9 => absurd (by decide +kernel) c9)
  refine lv_iload hx hb dX12_nearest_105 (lv_at hl 1 rfl) ?_
  refine lv_iload_n hx hb dX12_nearest_107 rfl (lv_at hl 5 rfl) ?_
  refine jw_mi (wc := []) (cs := 0) (ss := 0) (va_runS (As := [.int 5, .int 2]) (rest := []) ⟨hx, hb, hml, hown, hts⟩ (k384_X12_isOnce H.size) (va_cwS 2 hts gX12_nearest_X12_isOnce rfl rfl rfl ydS_X12_isOnce ⟨Nat.le_of_ble_eq_true rfl, Nat.le_of_ble_eq_true rfl⟩) (jw_mpreS hP hD hS hA hE [] rfl) rfl rfl hl.1 rfl (lv_room (Nat.le_of_ble_eq_true rfl)) dX12_nearest_108 ⟨Nat.le_of_ble_eq_true rfl, Nat.le_of_ble_eq_true rfl⟩) hP hD hS hA [] rfl rfl rfl (fun r9 w1 H locs hr9 hw9 hP hD hS => ?_)
  subst hr9
  subst hw9
  have hP : va_P D vwCl [(h0, .inr (15, [.ref h14, .int 0, .int 0, .ref h15, .int 0, .int (-1), .int 0, .int 0, .int 0, .int 0, .int 0, .int 2, .int 0, .int 0, .int 0, .ref h16, .ref h17, .ref h18, .ref h19, .int 2, .int 0, .int 0, .int 0, .int 0, .ref h20, .ref h21, .ref h22, .ref h23, .int 2, .ref h1, .int 1, .ref h2, .ref h24, .int 1, .ref h25, .ref h3, .ref h4, .int 0, .ref h26, .ref h27, .ref h5, .ref h6, .ref h7, .ref h8, .ref h9, .ref h10, .ref h11, .int 9, .ref h12, .ref h28, .ref h13, .int (-1), .ref h29, .long 0, .long 0, .int (-1), .int (-1), .long 0, .long 1, .ref h30, .ref h31, .ref h32, .ref h33, .ref h34, .ref h35, .long 0])), (h1, .inl (Y 1, 100, .inl (jw_l 0 [0, 1, 0, 0, 1, 0, 0, 0, 1, 1]))), (h2, .inl (Y 1, 13824, .inl (jw_l 0 [0]))), (h3, .inl (Y 1, 4, .inl (jw_l 0 [0, 1, 2, 3]))), (h4, .inl (Y 1, 4, .inl (jw_l 0 [0, 1, 2, 3]))), (h5, .inl (Y 1, 4, .inl (jw_l 0 [0, 1, 2, 3]))), (h6, .inl (Y 1, 4, .inl (jw_l 0 [1, 0, 2, 3]))), (h7, .inl (Y 1, 6, .inl (jw_l 0 [0, 1]))), (h8, .inl (Y 1, 14425, .inl (jw_l 0 [0]))), (h9, .inl (Y 2, 14425, .inr (.inl (jw_L 0 [1])))), (h10, .inl (Y 1, 13824, .inl (jw_l 0 [0]))), (h11, .inl (Y 1, 16, .inl (jw_l 0 [1, 2, 0, 0, 2, 1, 0, 0, 0, 0, 0, 0, 0, 0, 0, 0]))), (h12, .inl (Y 1, 5, .inl (jw_l 0 [1, 3]))), (h13, .inl (Y 2, 13824, .inr (.inl (jw_L 0 [1]))))] H := hP
  have hD : va_D A [(h0, .inr (15, [.ref h14, .int 0, .int 0, .ref h15, .int 0, .int (-1), .int 0, .int 0, .int 0, .int 0, .int 0, .int 2, .int 0, .int 0, .int 0, .ref h16, .ref h17, .ref h18, .ref h19, .int 2, .int 0, .int 0, .int 0, .int 0, .ref h20, .ref h21, .ref h22, .ref h23, .int 2, .ref h1, .int 1, .ref h2, .ref h24, .int 1, .ref h25, .ref h3, .ref h4, .int 0, .ref h26, .ref h27, .ref h5, .ref h6, .ref h7, .ref h8, .ref h9, .ref h10, .ref h11, .int 9, .ref h12, .ref h28, .ref h13, .int (-1), .ref h29, .long 0, .long 0, .int (-1), .int (-1), .long 0, .long 1, .ref h30, .ref h31, .ref h32, .ref h33, .ref h34, .ref h35, .long 0])), (h1, .inl (Y 1, 100, .inl (jw_l 0 [0, 1, 0, 0, 1, 0, 0, 0, 1, 1]))), (h2, .inl (Y 1, 13824, .inl (jw_l 0 [0]))), (h3, .inl (Y 1, 4, .inl (jw_l 0 [0, 1, 2, 3]))), (h4, .inl (Y 1, 4, .inl (jw_l 0 [0, 1, 2, 3]))), (h5, .inl (Y 1, 4, .inl (jw_l 0 [0, 1, 2, 3]))), (h6, .inl (Y 1, 4, .inl (jw_l 0 [1, 0, 2, 3]))), (h7, .inl (Y 1, 6, .inl (jw_l 0 [0, 1]))), (h8, .inl (Y 1, 14425, .inl (jw_l 0 [0]))), (h9, .inl (Y 2, 14425, .inr (.inl (jw_L 0 [1])))), (h10, .inl (Y 1, 13824, .inl (jw_l 0 [0]))), (h11, .inl (Y 1, 16, .inl (jw_l 0 [1, 2, 0, 0, 2, 1, 0, 0, 0, 0, 0, 0, 0, 0, 0, 0]))), (h12, .inl (Y 1, 5, .inl (jw_l 0 [1, 3]))), (h13, .inl (Y 2, 13824, .inr (.inl (jw_L 0 [1]))))] := hD
  refine lv_if_ne (tgt := 117) hx hb dX12_nearest_111 (by decide) (fun c9 => absurd (by decide +kernel) c9) (fun _ => ?_)
  refine lv_goto (tgt := 204) hx hb dX12_nearest_114 (by decide) ?_
  refine lv_iinc (v := 6) (lv' := [(6, .int 6), (8, .int 2), (7, .int 5), (4, .long 0), (3, .int 4), (2, .int 2), (0, .ref h0), (1, .int 1)]) hx hb dX12_nearest_204 hl (k := 2) rfl (by decide +kernel) (by decide) rfl (fun ls hl => ?_)
  refine lv_goto (tgt := 54) hx hb dX12_nearest_207 (by decide) ?_
  refine lv_iload hx hb dX12_nearest_54 (lv_at hl 0 rfl) ?_
  refine lv_iconst (v := 1) hx hb dX12_nearest_56 (by decide +kernel) ?_
  refine lv_iconst (v := 2) hx hb dX12_nearest_57 (by decide +kernel) ?_
  refine lv_iload_n hx hb dX12_nearest_58 rfl (lv_at hl 5 rfl) ?_
  refine jw_imul (v := 4) hx hb dX12_nearest_59 (by decide +kernel) ?_
  refine jw_ishl (v := 16) hx hb dX12_nearest_60 (by decide +kernel) ?_
  refine lv_icmp_ge (tgt := 210) hx hb dX12_nearest_61 (by decide) (fun c9 => absurd c9 (by decide +kernel)) (fun _ => ?_)
  refine lv_iconst (v := 0) hx hb dX12_nearest_64 (by decide +kernel) ?_
  refine lv_istore (lv' := [(7, .int 0), (6, .int 6), (8, .int 2), (4, .long 0), (3, .int 4), (2, .int 2), (0, .ref h0), (1, .int 1)]) hx hb dX12_nearest_65 hl (by decide) rfl (fun ls hl => ?_)
  refine lv_iconst (v := 0) hx hb dX12_nearest_67 (by decide +kernel) ?_
  refine lv_istore (lv' := [(8, .int 0), (7, .int 0), (6, .int 6), (4, .long 0), (3, .int 4), (2, .int 2), (0, .ref h0), (1, .int 1)]) hx hb dX12_nearest_68 hl (by decide) rfl (fun ls hl => ?_)
  refine lv_iload hx hb dX12_nearest_70 (lv_at hl 0 rfl) ?_
  refine lv_iload_n hx hb dX12_nearest_72 rfl (lv_at hl 5 rfl) ?_
  refine lv_icmp_ge (tgt := 105) hx hb dX12_nearest_73 (by decide) (fun c9 => absurd c9 (by decide +kernel)) (fun _ => ?_)
  refine lv_iload hx hb dX12_nearest_76 (lv_at hl 1 rfl) ?_
  refine lv_iload hx hb dX12_nearest_78 (lv_at hl 2 rfl) ?_
  refine lv_iconst (v := 2) hx hb dX12_nearest_80 (by decide +kernel) ?_
  refine lv_iload_n hx hb dX12_nearest_81 rfl (lv_at hl 5 rfl) ?_
  refine lv_iconst (v := 1) hx hb dX12_nearest_82 (by decide +kernel) ?_
  refine jw_isub (v := 1) hx hb dX12_nearest_83 (by decide +kernel) ?_
  refine lv_iload hx hb dX12_nearest_84 (lv_at hl 0 rfl) ?_
  refine jw_isub (v := 1) hx hb dX12_nearest_86 (by decide +kernel) ?_
  refine jw_imul (v := 2) hx hb dX12_nearest_87 (by decide +kernel) ?_
  refine jw_ishr (v := 1) hx hb dX12_nearest_88 (by decide +kernel) ?_
  refine lv_iconst (v := 3) hx hb dX12_nearest_89 (by decide +kernel) ?_
  refine jw_iand (v := 1) hx hb dX12_nearest_90 (by decide +kernel) ?_
  refine lv_iconst (v := 2) hx hb dX12_nearest_91 (by decide +kernel) ?_
  refine lv_iload hx hb dX12_nearest_92 (lv_at hl 0 rfl) ?_
  refine jw_imul (v := 0) hx hb dX12_nearest_94 (by decide +kernel) ?_
  refine jw_ishl (v := 1) hx hb dX12_nearest_95 (by decide +kernel) ?_
  refine jw_ior (v := 1) hx hb dX12_nearest_96 (by decide +kernel) ?_
  refine lv_istore (lv' := [(7, .int 1), (8, .int 0), (6, .int 6), (4, .long 0), (3, .int 4), (2, .int 2), (0, .ref h0), (1, .int 1)]) hx hb dX12_nearest_97 hl (by decide) rfl (fun ls hl => ?_)
  refine lv_iinc (v := 1) (lv' := [(8, .int 1), (7, .int 1), (6, .int 6), (4, .long 0), (3, .int 4), (2, .int 2), (0, .ref h0), (1, .int 1)]) hx hb dX12_nearest_99 hl (k := 1) rfl (by decide +kernel) (by decide) rfl (fun ls hl => ?_)
  refine lv_goto (tgt := 70) hx hb dX12_nearest_102 (by decide) ?_
  refine lv_iload hx hb dX12_nearest_70 (lv_at hl 0 rfl) ?_
  refine lv_iload_n hx hb dX12_nearest_72 rfl (lv_at hl 5 rfl) ?_
  refine lv_icmp_ge (tgt := 105) hx hb dX12_nearest_73 (by decide) (fun c9 => absurd c9 (by decide +kernel)) (fun _ => ?_)
  refine lv_iload hx hb dX12_nearest_76 (lv_at hl 1 rfl) ?_
  refine lv_iload hx hb dX12_nearest_78 (lv_at hl 2 rfl) ?_
  refine lv_iconst (v := 2) hx hb dX12_nearest_80 (by decide +kernel) ?_
  refine lv_iload_n hx hb dX12_nearest_81 rfl (lv_at hl 5 rfl) ?_
  refine lv_iconst (v := 1) hx hb dX12_nearest_82 (by decide +kernel) ?_
  refine jw_isub (v := 1) hx hb dX12_nearest_83 (by decide +kernel) ?_
  refine lv_iload hx hb dX12_nearest_84 (lv_at hl 0 rfl) ?_
  refine jw_isub (v := 0) hx hb dX12_nearest_86 (by decide +kernel) ?_
  refine jw_imul (v := 0) hx hb dX12_nearest_87 (by decide +kernel) ?_
  refine jw_ishr (v := 6) hx hb dX12_nearest_88 (by decide +kernel) ?_
  refine lv_iconst (v := 3) hx hb dX12_nearest_89 (by decide +kernel) ?_
  refine jw_iand (v := 2) hx hb dX12_nearest_90 (by decide +kernel) ?_
  refine lv_iconst (v := 2) hx hb dX12_nearest_91 (by decide +kernel) ?_
  refine lv_iload hx hb dX12_nearest_92 (lv_at hl 0 rfl) ?_
  refine jw_imul (v := 2) hx hb dX12_nearest_94 (by decide +kernel) ?_
  refine jw_ishl (v := 8) hx hb dX12_nearest_95 (by decide +kernel) ?_
  refine jw_ior (v := 9) hx hb dX12_nearest_96 (by decide +kernel) ?_
  refine lv_istore (lv' := [(7, .int 9), (8, .int 1), (6, .int 6), (4, .long 0), (3, .int 4), (2, .int 2), (0, .ref h0), (1, .int 1)]) hx hb dX12_nearest_97 hl (by decide) rfl (fun ls hl => ?_)
  refine lv_iinc (v := 2) (lv' := [(8, .int 2), (7, .int 9), (6, .int 6), (4, .long 0), (3, .int 4), (2, .int 2), (0, .ref h0), (1, .int 1)]) hx hb dX12_nearest_99 hl (k := 1) rfl (by decide +kernel) (by decide) rfl (fun ls hl => ?_)
  refine lv_goto (tgt := 70) hx hb dX12_nearest_102 (by decide) ?_
  refine lv_iload hx hb dX12_nearest_70 (lv_at hl 0 rfl) ?_
  refine lv_iload_n hx hb dX12_nearest_72 rfl (lv_at hl 5 rfl) ?_
  refine lv_icmp_ge (tgt := 105) hx hb dX12_nearest_73 (by decide) (fun _ => ?_) (fun c9 => absurd (by decide +kernel) c9)
  refine lv_iload hx hb dX12_nearest_105 (lv_at hl 1 rfl) ?_
  refine lv_iload_n hx hb dX12_nearest_107 rfl (lv_at hl 5 rfl) ?_
  refine jw_mi (wc := []) (cs := 0) (ss := 0) (va_runS (As := [.int 9, .int 2]) (rest := []) ⟨hx, hb, hml, hown, hts⟩ (k385_X12_isOnce H.size) (va_cwS 2 hts gX12_nearest_X12_isOnce rfl rfl rfl ydS_X12_isOnce ⟨Nat.le_of_ble_eq_true rfl, Nat.le_of_ble_eq_true rfl⟩) (jw_mpreS hP hD hS hA hE [] rfl) rfl rfl hl.1 rfl (lv_room (Nat.le_of_ble_eq_true rfl)) dX12_nearest_108 ⟨Nat.le_of_ble_eq_true rfl, Nat.le_of_ble_eq_true rfl⟩) hP hD hS hA [] rfl rfl rfl (fun r9 w1 H locs hr9 hw9 hP hD hS => ?_)
  subst hr9
  subst hw9
  have hP : va_P D vwCl [(h0, .inr (15, [.ref h14, .int 0, .int 0, .ref h15, .int 0, .int (-1), .int 0, .int 0, .int 0, .int 0, .int 0, .int 2, .int 0, .int 0, .int 0, .ref h16, .ref h17, .ref h18, .ref h19, .int 2, .int 0, .int 0, .int 0, .int 0, .ref h20, .ref h21, .ref h22, .ref h23, .int 2, .ref h1, .int 1, .ref h2, .ref h24, .int 1, .ref h25, .ref h3, .ref h4, .int 0, .ref h26, .ref h27, .ref h5, .ref h6, .ref h7, .ref h8, .ref h9, .ref h10, .ref h11, .int 9, .ref h12, .ref h28, .ref h13, .int (-1), .ref h29, .long 0, .long 0, .int (-1), .int (-1), .long 0, .long 1, .ref h30, .ref h31, .ref h32, .ref h33, .ref h34, .ref h35, .long 0])), (h1, .inl (Y 1, 100, .inl (jw_l 0 [0, 1, 0, 0, 1, 0, 0, 0, 1, 1]))), (h2, .inl (Y 1, 13824, .inl (jw_l 0 [0]))), (h3, .inl (Y 1, 4, .inl (jw_l 0 [0, 1, 2, 3]))), (h4, .inl (Y 1, 4, .inl (jw_l 0 [0, 1, 2, 3]))), (h5, .inl (Y 1, 4, .inl (jw_l 0 [0, 1, 2, 3]))), (h6, .inl (Y 1, 4, .inl (jw_l 0 [1, 0, 2, 3]))), (h7, .inl (Y 1, 6, .inl (jw_l 0 [0, 1]))), (h8, .inl (Y 1, 14425, .inl (jw_l 0 [0]))), (h9, .inl (Y 2, 14425, .inr (.inl (jw_L 0 [1])))), (h10, .inl (Y 1, 13824, .inl (jw_l 0 [0]))), (h11, .inl (Y 1, 16, .inl (jw_l 0 [1, 2, 0, 0, 2, 1, 0, 0, 0, 0, 0, 0, 0, 0, 0, 0]))), (h12, .inl (Y 1, 5, .inl (jw_l 0 [1, 3]))), (h13, .inl (Y 2, 13824, .inr (.inl (jw_L 0 [1]))))] H := hP
  have hD : va_D A [(h0, .inr (15, [.ref h14, .int 0, .int 0, .ref h15, .int 0, .int (-1), .int 0, .int 0, .int 0, .int 0, .int 0, .int 2, .int 0, .int 0, .int 0, .ref h16, .ref h17, .ref h18, .ref h19, .int 2, .int 0, .int 0, .int 0, .int 0, .ref h20, .ref h21, .ref h22, .ref h23, .int 2, .ref h1, .int 1, .ref h2, .ref h24, .int 1, .ref h25, .ref h3, .ref h4, .int 0, .ref h26, .ref h27, .ref h5, .ref h6, .ref h7, .ref h8, .ref h9, .ref h10, .ref h11, .int 9, .ref h12, .ref h28, .ref h13, .int (-1), .ref h29, .long 0, .long 0, .int (-1), .int (-1), .long 0, .long 1, .ref h30, .ref h31, .ref h32, .ref h33, .ref h34, .ref h35, .long 0])), (h1, .inl (Y 1, 100, .inl (jw_l 0 [0, 1, 0, 0, 1, 0, 0, 0, 1, 1]))), (h2, .inl (Y 1, 13824, .inl (jw_l 0 [0]))), (h3, .inl (Y 1, 4, .inl (jw_l 0 [0, 1, 2, 3]))), (h4, .inl (Y 1, 4, .inl (jw_l 0 [0, 1, 2, 3]))), (h5, .inl (Y 1, 4, .inl (jw_l 0 [0, 1, 2, 3]))), (h6, .inl (Y 1, 4, .inl (jw_l 0 [1, 0, 2, 3]))), (h7, .inl (Y 1, 6, .inl (jw_l 0 [0, 1]))), (h8, .inl (Y 1, 14425, .inl (jw_l 0 [0]))), (h9, .inl (Y 2, 14425, .inr (.inl (jw_L 0 [1])))), (h10, .inl (Y 1, 13824, .inl (jw_l 0 [0]))), (h11, .inl (Y 1, 16, .inl (jw_l 0 [1, 2, 0, 0, 2, 1, 0, 0, 0, 0, 0, 0, 0, 0, 0, 0]))), (h12, .inl (Y 1, 5, .inl (jw_l 0 [1, 3]))), (h13, .inl (Y 2, 13824, .inr (.inl (jw_L 0 [1]))))] := hD
  refine lv_if_ne (tgt := 117) hx hb dX12_nearest_111 (by decide) (fun c9 => absurd (by decide +kernel) c9) (fun _ => ?_)
  refine lv_goto (tgt := 204) hx hb dX12_nearest_114 (by decide) ?_
  refine lv_iinc (v := 7) (lv' := [(6, .int 7), (8, .int 2), (7, .int 9), (4, .long 0), (3, .int 4), (2, .int 2), (0, .ref h0), (1, .int 1)]) hx hb dX12_nearest_204 hl (k := 2) rfl (by decide +kernel) (by decide) rfl (fun ls hl => ?_)
  refine lv_goto (tgt := 54) hx hb dX12_nearest_207 (by decide) ?_
  refine lv_iload hx hb dX12_nearest_54 (lv_at hl 0 rfl) ?_
  refine lv_iconst (v := 1) hx hb dX12_nearest_56 (by decide +kernel) ?_
  refine lv_iconst (v := 2) hx hb dX12_nearest_57 (by decide +kernel) ?_
  refine lv_iload_n hx hb dX12_nearest_58 rfl (lv_at hl 5 rfl) ?_
  refine jw_imul (v := 4) hx hb dX12_nearest_59 (by decide +kernel) ?_
  refine jw_ishl (v := 16) hx hb dX12_nearest_60 (by decide +kernel) ?_
  refine lv_icmp_ge (tgt := 210) hx hb dX12_nearest_61 (by decide) (fun c9 => absurd c9 (by decide +kernel)) (fun _ => ?_)
  refine lv_iconst (v := 0) hx hb dX12_nearest_64 (by decide +kernel) ?_
  refine lv_istore (lv' := [(7, .int 0), (6, .int 7), (8, .int 2), (4, .long 0), (3, .int 4), (2, .int 2), (0, .ref h0), (1, .int 1)]) hx hb dX12_nearest_65 hl (by decide) rfl (fun ls hl => ?_)
  refine lv_iconst (v := 0) hx hb dX12_nearest_67 (by decide +kernel) ?_
  refine lv_istore (lv' := [(8, .int 0), (7, .int 0), (6, .int 7), (4, .long 0), (3, .int 4), (2, .int 2), (0, .ref h0), (1, .int 1)]) hx hb dX12_nearest_68 hl (by decide) rfl (fun ls hl => ?_)
  refine lv_iload hx hb dX12_nearest_70 (lv_at hl 0 rfl) ?_
  refine lv_iload_n hx hb dX12_nearest_72 rfl (lv_at hl 5 rfl) ?_
  refine lv_icmp_ge (tgt := 105) hx hb dX12_nearest_73 (by decide) (fun c9 => absurd c9 (by decide +kernel)) (fun _ => ?_)
  refine lv_iload hx hb dX12_nearest_76 (lv_at hl 1 rfl) ?_
  refine lv_iload hx hb dX12_nearest_78 (lv_at hl 2 rfl) ?_
  refine lv_iconst (v := 2) hx hb dX12_nearest_80 (by decide +kernel) ?_
  refine lv_iload_n hx hb dX12_nearest_81 rfl (lv_at hl 5 rfl) ?_
  refine lv_iconst (v := 1) hx hb dX12_nearest_82 (by decide +kernel) ?_
  refine jw_isub (v := 1) hx hb dX12_nearest_83 (by decide +kernel) ?_
  refine lv_iload hx hb dX12_nearest_84 (lv_at hl 0 rfl) ?_
  refine jw_isub (v := 1) hx hb dX12_nearest_86 (by decide +kernel) ?_
  refine jw_imul (v := 2) hx hb dX12_nearest_87 (by decide +kernel) ?_
  refine jw_ishr (v := 1) hx hb dX12_nearest_88 (by decide +kernel) ?_
  refine lv_iconst (v := 3) hx hb dX12_nearest_89 (by decide +kernel) ?_
  refine jw_iand (v := 1) hx hb dX12_nearest_90 (by decide +kernel) ?_
  refine lv_iconst (v := 2) hx hb dX12_nearest_91 (by decide +kernel) ?_
  refine lv_iload hx hb dX12_nearest_92 (lv_at hl 0 rfl) ?_
  refine jw_imul (v := 0) hx hb dX12_nearest_94 (by decide +kernel) ?_
  refine jw_ishl (v := 1) hx hb dX12_nearest_95 (by decide +kernel) ?_
  refine jw_ior (v := 1) hx hb dX12_nearest_96 (by decide +kernel) ?_
  refine lv_istore (lv' := [(7, .int 1), (8, .int 0), (6, .int 7), (4, .long 0), (3, .int 4), (2, .int 2), (0, .ref h0), (1, .int 1)]) hx hb dX12_nearest_97 hl (by decide) rfl (fun ls hl => ?_)
  refine lv_iinc (v := 1) (lv' := [(8, .int 1), (7, .int 1), (6, .int 7), (4, .long 0), (3, .int 4), (2, .int 2), (0, .ref h0), (1, .int 1)]) hx hb dX12_nearest_99 hl (k := 1) rfl (by decide +kernel) (by decide) rfl (fun ls hl => ?_)
  refine lv_goto (tgt := 70) hx hb dX12_nearest_102 (by decide) ?_
  refine lv_iload hx hb dX12_nearest_70 (lv_at hl 0 rfl) ?_
  refine lv_iload_n hx hb dX12_nearest_72 rfl (lv_at hl 5 rfl) ?_
  refine lv_icmp_ge (tgt := 105) hx hb dX12_nearest_73 (by decide) (fun c9 => absurd c9 (by decide +kernel)) (fun _ => ?_)
  refine lv_iload hx hb dX12_nearest_76 (lv_at hl 1 rfl) ?_
  refine lv_iload hx hb dX12_nearest_78 (lv_at hl 2 rfl) ?_
  refine lv_iconst (v := 2) hx hb dX12_nearest_80 (by decide +kernel) ?_
  refine lv_iload_n hx hb dX12_nearest_81 rfl (lv_at hl 5 rfl) ?_
  refine lv_iconst (v := 1) hx hb dX12_nearest_82 (by decide +kernel) ?_
  refine jw_isub (v := 1) hx hb dX12_nearest_83 (by decide +kernel) ?_
  refine lv_iload hx hb dX12_nearest_84 (lv_at hl 0 rfl) ?_
  refine jw_isub (v := 0) hx hb dX12_nearest_86 (by decide +kernel) ?_
  refine jw_imul (v := 0) hx hb dX12_nearest_87 (by decide +kernel) ?_
  refine jw_ishr (v := 7) hx hb dX12_nearest_88 (by decide +kernel) ?_
  refine lv_iconst (v := 3) hx hb dX12_nearest_89 (by decide +kernel) ?_
  refine jw_iand (v := 3) hx hb dX12_nearest_90 (by decide +kernel) ?_
  refine lv_iconst (v := 2) hx hb dX12_nearest_91 (by decide +kernel) ?_
  refine lv_iload hx hb dX12_nearest_92 (lv_at hl 0 rfl) ?_
  refine jw_imul (v := 2) hx hb dX12_nearest_94 (by decide +kernel) ?_
  refine jw_ishl (v := 12) hx hb dX12_nearest_95 (by decide +kernel) ?_
  refine jw_ior (v := 13) hx hb dX12_nearest_96 (by decide +kernel) ?_
  refine lv_istore (lv' := [(7, .int 13), (8, .int 1), (6, .int 7), (4, .long 0), (3, .int 4), (2, .int 2), (0, .ref h0), (1, .int 1)]) hx hb dX12_nearest_97 hl (by decide) rfl (fun ls hl => ?_)
  refine lv_iinc (v := 2) (lv' := [(8, .int 2), (7, .int 13), (6, .int 7), (4, .long 0), (3, .int 4), (2, .int 2), (0, .ref h0), (1, .int 1)]) hx hb dX12_nearest_99 hl (k := 1) rfl (by decide +kernel) (by decide) rfl (fun ls hl => ?_)
  refine lv_goto (tgt := 70) hx hb dX12_nearest_102 (by decide) ?_
  refine lv_iload hx hb dX12_nearest_70 (lv_at hl 0 rfl) ?_
  refine lv_iload_n hx hb dX12_nearest_72 rfl (lv_at hl 5 rfl) ?_
  refine lv_icmp_ge (tgt := 105) hx hb dX12_nearest_73 (by decide) (fun _ => ?_) (fun c9 => absurd (by decide +kernel) c9)
  refine lv_iload hx hb dX12_nearest_105 (lv_at hl 1 rfl) ?_
  refine lv_iload_n hx hb dX12_nearest_107 rfl (lv_at hl 5 rfl) ?_
  refine jw_mi (wc := []) (cs := 0) (ss := 0) (va_runS (As := [.int 13, .int 2]) (rest := []) ⟨hx, hb, hml, hown, hts⟩ (k386_X12_isOnce H.size) (va_cwS 2 hts gX12_nearest_X12_isOnce rfl rfl rfl ydS_X12_isOnce ⟨Nat.le_of_ble_eq_true rfl, Nat.le_of_ble_eq_true rfl⟩) (jw_mpreS hP hD hS hA hE [] rfl) rfl rfl hl.1 rfl (lv_room (Nat.le_of_ble_eq_true rfl)) dX12_nearest_108 ⟨Nat.le_of_ble_eq_true rfl, Nat.le_of_ble_eq_true rfl⟩) hP hD hS hA [] rfl rfl rfl (fun r9 w1 H locs hr9 hw9 hP hD hS => ?_)
  subst hr9
  subst hw9
  have hP : va_P D vwCl [(h0, .inr (15, [.ref h14, .int 0, .int 0, .ref h15, .int 0, .int (-1), .int 0, .int 0, .int 0, .int 0, .int 0, .int 2, .int 0, .int 0, .int 0, .ref h16, .ref h17, .ref h18, .ref h19, .int 2, .int 0, .int 0, .int 0, .int 0, .ref h20, .ref h21, .ref h22, .ref h23, .int 2, .ref h1, .int 1, .ref h2, .ref h24, .int 1, .ref h25, .ref h3, .ref h4, .int 0, .ref h26, .ref h27, .ref h5, .ref h6, .ref h7, .ref h8, .ref h9, .ref h10, .ref h11, .int 9, .ref h12, .ref h28, .ref h13, .int (-1), .ref h29, .long 0, .long 0, .int (-1), .int (-1), .long 0, .long 1, .ref h30, .ref h31, .ref h32, .ref h33, .ref h34, .ref h35, .long 0])), (h1, .inl (Y 1, 100, .inl (jw_l 0 [0, 1, 0, 0, 1, 0, 0, 0, 1, 1]))), (h2, .inl (Y 1, 13824, .inl (jw_l 0 [0]))), (h3, .inl (Y 1, 4, .inl (jw_l 0 [0, 1, 2, 3]))), (h4, .inl (Y 1, 4, .inl (jw_l 0 [0, 1, 2, 3]))), (h5, .inl (Y 1, 4, .inl (jw_l 0 [0, 1, 2, 3]))), (h6, .inl (Y 1, 4, .inl (jw_l 0 [1, 0, 2, 3]))), (h7, .inl (Y 1, 6, .inl (jw_l 0 [0, 1]))), (h8, .inl (Y 1, 14425, .inl (jw_l 0 [0]))), (h9, .inl (Y 2, 14425, .inr (.inl (jw_L 0 [1])))), (h10, .inl (Y 1, 13824, .inl (jw_l 0 [0]))), (h11, .inl (Y 1, 16, .inl (jw_l 0 [1, 2, 0, 0, 2, 1, 0, 0, 0, 0, 0, 0, 0, 0, 0, 0]))), (h12, .inl (Y 1, 5, .inl (jw_l 0 [1, 3]))), (h13, .inl (Y 2, 13824, .inr (.inl (jw_L 0 [1]))))] H := hP
  have hD : va_D A [(h0, .inr (15, [.ref h14, .int 0, .int 0, .ref h15, .int 0, .int (-1), .int 0, .int 0, .int 0, .int 0, .int 0, .int 2, .int 0, .int 0, .int 0, .ref h16, .ref h17, .ref h18, .ref h19, .int 2, .int 0, .int 0, .int 0, .int 0, .ref h20, .ref h21, .ref h22, .ref h23, .int 2, .ref h1, .int 1, .ref h2, .ref h24, .int 1, .ref h25, .ref h3, .ref h4, .int 0, .ref h26, .ref h27, .ref h5, .ref h6, .ref h7, .ref h8, .ref h9, .ref h10, .ref h11, .int 9, .ref h12, .ref h28, .ref h13, .int (-1), .ref h29, .long 0, .long 0, .int (-1), .int (-1), .long 0, .long 1, .ref h30, .ref h31, .ref h32, .ref h33, .ref h34, .ref h35, .long 0])), (h1, .inl (Y 1, 100, .inl (jw_l 0 [0, 1, 0, 0, 1, 0, 0, 0, 1, 1]))), (h2, .inl (Y 1, 13824, .inl (jw_l 0 [0]))), (h3, .inl (Y 1, 4, .inl (jw_l 0 [0, 1, 2, 3]))), (h4, .inl (Y 1, 4, .inl (jw_l 0 [0, 1, 2, 3]))), (h5, .inl (Y 1, 4, .inl (jw_l 0 [0, 1, 2, 3]))), (h6, .inl (Y 1, 4, .inl (jw_l 0 [1, 0, 2, 3]))), (h7, .inl (Y 1, 6, .inl (jw_l 0 [0, 1]))), (h8, .inl (Y 1, 14425, .inl (jw_l 0 [0]))), (h9, .inl (Y 2, 14425, .inr (.inl (jw_L 0 [1])))), (h10, .inl (Y 1, 13824, .inl (jw_l 0 [0]))), (h11, .inl (Y 1, 16, .inl (jw_l 0 [1, 2, 0, 0, 2, 1, 0, 0, 0, 0, 0, 0, 0, 0, 0, 0]))), (h12, .inl (Y 1, 5, .inl (jw_l 0 [1, 3]))), (h13, .inl (Y 2, 13824, .inr (.inl (jw_L 0 [1]))))] := hD
  refine lv_if_ne (tgt := 117) hx hb dX12_nearest_111 (by decide) (fun c9 => absurd (by decide +kernel) c9) (fun _ => ?_)
  refine lv_goto (tgt := 204) hx hb dX12_nearest_114 (by decide) ?_
  refine lv_iinc (v := 8) (lv' := [(6, .int 8), (8, .int 2), (7, .int 13), (4, .long 0), (3, .int 4), (2, .int 2), (0, .ref h0), (1, .int 1)]) hx hb dX12_nearest_204 hl (k := 2) rfl (by decide +kernel) (by decide) rfl (fun ls hl => ?_)
  refine lv_goto (tgt := 54) hx hb dX12_nearest_207 (by decide) ?_
  refine lv_iload hx hb dX12_nearest_54 (lv_at hl 0 rfl) ?_
  refine lv_iconst (v := 1) hx hb dX12_nearest_56 (by decide +kernel) ?_
  refine lv_iconst (v := 2) hx hb dX12_nearest_57 (by decide +kernel) ?_
  refine lv_iload_n hx hb dX12_nearest_58 rfl (lv_at hl 5 rfl) ?_
  refine jw_imul (v := 4) hx hb dX12_nearest_59 (by decide +kernel) ?_
  refine jw_ishl (v := 16) hx hb dX12_nearest_60 (by decide +kernel) ?_
  refine lv_icmp_ge (tgt := 210) hx hb dX12_nearest_61 (by decide) (fun c9 => absurd c9 (by decide +kernel)) (fun _ => ?_)
  refine lv_iconst (v := 0) hx hb dX12_nearest_64 (by decide +kernel) ?_
  refine lv_istore (lv' := [(7, .int 0), (6, .int 8), (8, .int 2), (4, .long 0), (3, .int 4), (2, .int 2), (0, .ref h0), (1, .int 1)]) hx hb dX12_nearest_65 hl (by decide) rfl (fun ls hl => ?_)
  refine lv_iconst (v := 0) hx hb dX12_nearest_67 (by decide +kernel) ?_
  refine lv_istore (lv' := [(8, .int 0), (7, .int 0), (6, .int 8), (4, .long 0), (3, .int 4), (2, .int 2), (0, .ref h0), (1, .int 1)]) hx hb dX12_nearest_68 hl (by decide) rfl (fun ls hl => ?_)
  refine lv_iload hx hb dX12_nearest_70 (lv_at hl 0 rfl) ?_
  refine lv_iload_n hx hb dX12_nearest_72 rfl (lv_at hl 5 rfl) ?_
  refine lv_icmp_ge (tgt := 105) hx hb dX12_nearest_73 (by decide) (fun c9 => absurd c9 (by decide +kernel)) (fun _ => ?_)
  refine lv_iload hx hb dX12_nearest_76 (lv_at hl 1 rfl) ?_
  refine lv_iload hx hb dX12_nearest_78 (lv_at hl 2 rfl) ?_
  refine lv_iconst (v := 2) hx hb dX12_nearest_80 (by decide +kernel) ?_
  refine lv_iload_n hx hb dX12_nearest_81 rfl (lv_at hl 5 rfl) ?_
  refine lv_iconst (v := 1) hx hb dX12_nearest_82 (by decide +kernel) ?_
  refine jw_isub (v := 1) hx hb dX12_nearest_83 (by decide +kernel) ?_
  refine lv_iload hx hb dX12_nearest_84 (lv_at hl 0 rfl) ?_
  refine jw_isub (v := 1) hx hb dX12_nearest_86 (by decide +kernel) ?_
  refine jw_imul (v := 2) hx hb dX12_nearest_87 (by decide +kernel) ?_
  refine jw_ishr (v := 2) hx hb dX12_nearest_88 (by decide +kernel) ?_
  refine lv_iconst (v := 3) hx hb dX12_nearest_89 (by decide +kernel) ?_
  refine jw_iand (v := 2) hx hb dX12_nearest_90 (by decide +kernel) ?_
  refine lv_iconst (v := 2) hx hb dX12_nearest_91 (by decide +kernel) ?_
  refine lv_iload hx hb dX12_nearest_92 (lv_at hl 0 rfl) ?_
  refine jw_imul (v := 0) hx hb dX12_nearest_94 (by decide +kernel) ?_
  refine jw_ishl (v := 2) hx hb dX12_nearest_95 (by decide +kernel) ?_
  refine jw_ior (v := 2) hx hb dX12_nearest_96 (by decide +kernel) ?_
  refine lv_istore (lv' := [(7, .int 2), (8, .int 0), (6, .int 8), (4, .long 0), (3, .int 4), (2, .int 2), (0, .ref h0), (1, .int 1)]) hx hb dX12_nearest_97 hl (by decide) rfl (fun ls hl => ?_)
  refine lv_iinc (v := 1) (lv' := [(8, .int 1), (7, .int 2), (6, .int 8), (4, .long 0), (3, .int 4), (2, .int 2), (0, .ref h0), (1, .int 1)]) hx hb dX12_nearest_99 hl (k := 1) rfl (by decide +kernel) (by decide) rfl (fun ls hl => ?_)
  refine lv_goto (tgt := 70) hx hb dX12_nearest_102 (by decide) ?_
  refine lv_iload hx hb dX12_nearest_70 (lv_at hl 0 rfl) ?_
  refine lv_iload_n hx hb dX12_nearest_72 rfl (lv_at hl 5 rfl) ?_
  refine lv_icmp_ge (tgt := 105) hx hb dX12_nearest_73 (by decide) (fun c9 => absurd c9 (by decide +kernel)) (fun _ => ?_)
  refine lv_iload hx hb dX12_nearest_76 (lv_at hl 1 rfl) ?_
  refine lv_iload hx hb dX12_nearest_78 (lv_at hl 2 rfl) ?_
  refine lv_iconst (v := 2) hx hb dX12_nearest_80 (by decide +kernel) ?_
  refine lv_iload_n hx hb dX12_nearest_81 rfl (lv_at hl 5 rfl) ?_
  refine lv_iconst (v := 1) hx hb dX12_nearest_82 (by decide +kernel) ?_
  refine jw_isub (v := 1) hx hb dX12_nearest_83 (by decide +kernel) ?_
  refine lv_iload hx hb dX12_nearest_84 (lv_at hl 0 rfl) ?_
  refine jw_isub (v := 0) hx hb dX12_nearest_86 (by decide +kernel) ?_
  refine jw_imul (v := 0) hx hb dX12_nearest_87 (by decide +kernel) ?_
  refine jw_ishr (v := 8) hx hb dX12_nearest_88 (by decide +kernel) ?_
  refine lv_iconst (v := 3) hx hb dX12_nearest_89 (by decide +kernel) ?_
  refine jw_iand (v := 0) hx hb dX12_nearest_90 (by decide +kernel) ?_
  refine lv_iconst (v := 2) hx hb dX12_nearest_91 (by decide +kernel) ?_
  refine lv_iload hx hb dX12_nearest_92 (lv_at hl 0 rfl) ?_
  refine jw_imul (v := 2) hx hb dX12_nearest_94 (by decide +kernel) ?_
  refine jw_ishl (v := 0) hx hb dX12_nearest_95 (by decide +kernel) ?_
  refine jw_ior (v := 2) hx hb dX12_nearest_96 (by decide +kernel) ?_
  refine lv_istore (lv' := [(7, .int 2), (8, .int 1), (6, .int 8), (4, .long 0), (3, .int 4), (2, .int 2), (0, .ref h0), (1, .int 1)]) hx hb dX12_nearest_97 hl (by decide) rfl (fun ls hl => ?_)
  refine lv_iinc (v := 2) (lv' := [(8, .int 2), (7, .int 2), (6, .int 8), (4, .long 0), (3, .int 4), (2, .int 2), (0, .ref h0), (1, .int 1)]) hx hb dX12_nearest_99 hl (k := 1) rfl (by decide +kernel) (by decide) rfl (fun ls hl => ?_)
  refine lv_goto (tgt := 70) hx hb dX12_nearest_102 (by decide) ?_
  refine lv_iload hx hb dX12_nearest_70 (lv_at hl 0 rfl) ?_
  refine lv_iload_n hx hb dX12_nearest_72 rfl (lv_at hl 5 rfl) ?_
  refine lv_icmp_ge (tgt := 105) hx hb dX12_nearest_73 (by decide) (fun _ => ?_) (fun c9 => absurd (by decide +kernel) c9)
  refine lv_iload hx hb dX12_nearest_105 (lv_at hl 1 rfl) ?_
  refine lv_iload_n hx hb dX12_nearest_107 rfl (lv_at hl 5 rfl) ?_
  refine jw_mi (wc := []) (cs := 0) (ss := 0) (va_runS (As := [.int 2, .int 2]) (rest := []) ⟨hx, hb, hml, hown, hts⟩ (k387_X12_isOnce H.size) (va_cwS 2 hts gX12_nearest_X12_isOnce rfl rfl rfl ydS_X12_isOnce ⟨Nat.le_of_ble_eq_true rfl, Nat.le_of_ble_eq_true rfl⟩) (jw_mpreS hP hD hS hA hE [] rfl) rfl rfl hl.1 rfl (lv_room (Nat.le_of_ble_eq_true rfl)) dX12_nearest_108 ⟨Nat.le_of_ble_eq_true rfl, Nat.le_of_ble_eq_true rfl⟩) hP hD hS hA [] rfl rfl rfl (fun r9 w1 H locs hr9 hw9 hP hD hS => ?_)
  subst hr9
  subst hw9
  have hP : va_P D vwCl [(h0, .inr (15, [.ref h14, .int 0, .int 0, .ref h15, .int 0, .int (-1), .int 0, .int 0, .int 0, .int 0, .int 0, .int 2, .int 0, .int 0, .int 0, .ref h16, .ref h17, .ref h18, .ref h19, .int 2, .int 0, .int 0, .int 0, .int 0, .ref h20, .ref h21, .ref h22, .ref h23, .int 2, .ref h1, .int 1, .ref h2, .ref h24, .int 1, .ref h25, .ref h3, .ref h4, .int 0, .ref h26, .ref h27, .ref h5, .ref h6, .ref h7, .ref h8, .ref h9, .ref h10, .ref h11, .int 9, .ref h12, .ref h28, .ref h13, .int (-1), .ref h29, .long 0, .long 0, .int (-1), .int (-1), .long 0, .long 1, .ref h30, .ref h31, .ref h32, .ref h33, .ref h34, .ref h35, .long 0])), (h1, .inl (Y 1, 100, .inl (jw_l 0 [0, 1, 0, 0, 1, 0, 0, 0, 1, 1]))), (h2, .inl (Y 1, 13824, .inl (jw_l 0 [0]))), (h3, .inl (Y 1, 4, .inl (jw_l 0 [0, 1, 2, 3]))), (h4, .inl (Y 1, 4, .inl (jw_l 0 [0, 1, 2, 3]))), (h5, .inl (Y 1, 4, .inl (jw_l 0 [0, 1, 2, 3]))), (h6, .inl (Y 1, 4, .inl (jw_l 0 [1, 0, 2, 3]))), (h7, .inl (Y 1, 6, .inl (jw_l 0 [0, 1]))), (h8, .inl (Y 1, 14425, .inl (jw_l 0 [0]))), (h9, .inl (Y 2, 14425, .inr (.inl (jw_L 0 [1])))), (h10, .inl (Y 1, 13824, .inl (jw_l 0 [0]))), (h11, .inl (Y 1, 16, .inl (jw_l 0 [1, 2, 0, 0, 2, 1, 0, 0, 0, 0, 0, 0, 0, 0, 0, 0]))), (h12, .inl (Y 1, 5, .inl (jw_l 0 [1, 3]))), (h13, .inl (Y 2, 13824, .inr (.inl (jw_L 0 [1]))))] H := hP
  have hD : va_D A [(h0, .inr (15, [.ref h14, .int 0, .int 0, .ref h15, .int 0, .int (-1), .int 0, .int 0, .int 0, .int 0, .int 0, .int 2, .int 0, .int 0, .int 0, .ref h16, .ref h17, .ref h18, .ref h19, .int 2, .int 0, .int 0, .int 0, .int 0, .ref h20, .ref h21, .ref h22, .ref h23, .int 2, .ref h1, .int 1, .ref h2, .ref h24, .int 1, .ref h25, .ref h3, .ref h4, .int 0, .ref h26, .ref h27, .ref h5, .ref h6, .ref h7, .ref h8, .ref h9, .ref h10, .ref h11, .int 9, .ref h12, .ref h28, .ref h13, .int (-1), .ref h29, .long 0, .long 0, .int (-1), .int (-1), .long 0, .long 1, .ref h30, .ref h31, .ref h32, .ref h33, .ref h34, .ref h35, .long 0])), (h1, .inl (Y 1, 100, .inl (jw_l 0 [0, 1, 0, 0, 1, 0, 0, 0, 1, 1]))), (h2, .inl (Y 1, 13824, .inl (jw_l 0 [0]))), (h3, .inl (Y 1, 4, .inl (jw_l 0 [0, 1, 2, 3]))), (h4, .inl (Y 1, 4, .inl (jw_l 0 [0, 1, 2, 3]))), (h5, .inl (Y 1, 4, .inl (jw_l 0 [0, 1, 2, 3]))), (h6, .inl (Y 1, 4, .inl (jw_l 0 [1, 0, 2, 3]))), (h7, .inl (Y 1, 6, .inl (jw_l 0 [0, 1]))), (h8, .inl (Y 1, 14425, .inl (jw_l 0 [0]))), (h9, .inl (Y 2, 14425, .inr (.inl (jw_L 0 [1])))), (h10, .inl (Y 1, 13824, .inl (jw_l 0 [0]))), (h11, .inl (Y 1, 16, .inl (jw_l 0 [1, 2, 0, 0, 2, 1, 0, 0, 0, 0, 0, 0, 0, 0, 0, 0]))), (h12, .inl (Y 1, 5, .inl (jw_l 0 [1, 3]))), (h13, .inl (Y 2, 13824, .inr (.inl (jw_L 0 [1]))))] := hD
  refine lv_if_ne (tgt := 117) hx hb dX12_nearest_111 (by decide) (fun c9 => absurd (by decide +kernel) c9) (fun _ => ?_)
  refine lv_goto (tgt := 204) hx hb dX12_nearest_114 (by decide) ?_
  refine lv_iinc (v := 9) (lv' := [(6, .int 9), (8, .int 2), (7, .int 2), (4, .long 0), (3, .int 4), (2, .int 2), (0, .ref h0), (1, .int 1)]) hx hb dX12_nearest_204 hl (k := 2) rfl (by decide +kernel) (by decide) rfl (fun ls hl => ?_)
  refine lv_goto (tgt := 54) hx hb dX12_nearest_207 (by decide) ?_
  refine lv_iload hx hb dX12_nearest_54 (lv_at hl 0 rfl) ?_
  refine lv_iconst (v := 1) hx hb dX12_nearest_56 (by decide +kernel) ?_
  refine lv_iconst (v := 2) hx hb dX12_nearest_57 (by decide +kernel) ?_
  refine lv_iload_n hx hb dX12_nearest_58 rfl (lv_at hl 5 rfl) ?_
  refine jw_imul (v := 4) hx hb dX12_nearest_59 (by decide +kernel) ?_
  refine jw_ishl (v := 16) hx hb dX12_nearest_60 (by decide +kernel) ?_
  refine lv_icmp_ge (tgt := 210) hx hb dX12_nearest_61 (by decide) (fun c9 => absurd c9 (by decide +kernel)) (fun _ => ?_)
  refine lv_iconst (v := 0) hx hb dX12_nearest_64 (by decide +kernel) ?_
  refine lv_istore (lv' := [(7, .int 0), (6, .int 9), (8, .int 2), (4, .long 0), (3, .int 4), (2, .int 2), (0, .ref h0), (1, .int 1)]) hx hb dX12_nearest_65 hl (by decide) rfl (fun ls hl => ?_)
  refine lv_iconst (v := 0) hx hb dX12_nearest_67 (by decide +kernel) ?_
  refine lv_istore (lv' := [(8, .int 0), (7, .int 0), (6, .int 9), (4, .long 0), (3, .int 4), (2, .int 2), (0, .ref h0), (1, .int 1)]) hx hb dX12_nearest_68 hl (by decide) rfl (fun ls hl => ?_)
  refine lv_iload hx hb dX12_nearest_70 (lv_at hl 0 rfl) ?_
  refine lv_iload_n hx hb dX12_nearest_72 rfl (lv_at hl 5 rfl) ?_
  refine lv_icmp_ge (tgt := 105) hx hb dX12_nearest_73 (by decide) (fun c9 => absurd c9 (by decide +kernel)) (fun _ => ?_)
  refine lv_iload hx hb dX12_nearest_76 (lv_at hl 1 rfl) ?_
  refine lv_iload hx hb dX12_nearest_78 (lv_at hl 2 rfl) ?_
  refine lv_iconst (v := 2) hx hb dX12_nearest_80 (by decide +kernel) ?_
  refine lv_iload_n hx hb dX12_nearest_81 rfl (lv_at hl 5 rfl) ?_
  refine lv_iconst (v := 1) hx hb dX12_nearest_82 (by decide +kernel) ?_
  refine jw_isub (v := 1) hx hb dX12_nearest_83 (by decide +kernel) ?_
  refine lv_iload hx hb dX12_nearest_84 (lv_at hl 0 rfl) ?_
  refine jw_isub (v := 1) hx hb dX12_nearest_86 (by decide +kernel) ?_
  refine jw_imul (v := 2) hx hb dX12_nearest_87 (by decide +kernel) ?_
  refine jw_ishr (v := 2) hx hb dX12_nearest_88 (by decide +kernel) ?_
  refine lv_iconst (v := 3) hx hb dX12_nearest_89 (by decide +kernel) ?_
  refine jw_iand (v := 2) hx hb dX12_nearest_90 (by decide +kernel) ?_
  refine lv_iconst (v := 2) hx hb dX12_nearest_91 (by decide +kernel) ?_
  refine lv_iload hx hb dX12_nearest_92 (lv_at hl 0 rfl) ?_
  refine jw_imul (v := 0) hx hb dX12_nearest_94 (by decide +kernel) ?_
  refine jw_ishl (v := 2) hx hb dX12_nearest_95 (by decide +kernel) ?_
  refine jw_ior (v := 2) hx hb dX12_nearest_96 (by decide +kernel) ?_
  refine lv_istore (lv' := [(7, .int 2), (8, .int 0), (6, .int 9), (4, .long 0), (3, .int 4), (2, .int 2), (0, .ref h0), (1, .int 1)]) hx hb dX12_nearest_97 hl (by decide) rfl (fun ls hl => ?_)
  refine lv_iinc (v := 1) (lv' := [(8, .int 1), (7, .int 2), (6, .int 9), (4, .long 0), (3, .int 4), (2, .int 2), (0, .ref h0), (1, .int 1)]) hx hb dX12_nearest_99 hl (k := 1) rfl (by decide +kernel) (by decide) rfl (fun ls hl => ?_)
  refine lv_goto (tgt := 70) hx hb dX12_nearest_102 (by decide) ?_
  refine lv_iload hx hb dX12_nearest_70 (lv_at hl 0 rfl) ?_
  refine lv_iload_n hx hb dX12_nearest_72 rfl (lv_at hl 5 rfl) ?_
  refine lv_icmp_ge (tgt := 105) hx hb dX12_nearest_73 (by decide) (fun c9 => absurd c9 (by decide +kernel)) (fun _ => ?_)
  refine lv_iload hx hb dX12_nearest_76 (lv_at hl 1 rfl) ?_
  refine lv_iload hx hb dX12_nearest_78 (lv_at hl 2 rfl) ?_
  refine lv_iconst (v := 2) hx hb dX12_nearest_80 (by decide +kernel) ?_
  refine lv_iload_n hx hb dX12_nearest_81 rfl (lv_at hl 5 rfl) ?_
  refine lv_iconst (v := 1) hx hb dX12_nearest_82 (by decide +kernel) ?_
  refine jw_isub (v := 1) hx hb dX12_nearest_83 (by decide +kernel) ?_
  refine lv_iload hx hb dX12_nearest_84 (lv_at hl 0 rfl) ?_
  refine jw_isub (v := 0) hx hb dX12_nearest_86 (by decide +kernel) ?_
  refine jw_imul (v := 0) hx hb dX12_nearest_87 (by decide +kernel) ?_
  refine jw_ishr (v := 9) hx hb dX12_nearest_88 (by decide +kernel) ?_
  refine lv_iconst (v := 3) hx hb dX12_nearest_89 (by decide +kernel) ?_
  refine jw_iand (v := 1) hx hb dX12_nearest_90 (by decide +kernel) ?_
  refine lv_iconst (v := 2) hx hb dX12_nearest_91 (by decide +kernel) ?_
  refine lv_iload hx hb dX12_nearest_92 (lv_at hl 0 rfl) ?_
  refine jw_imul (v := 2) hx hb dX12_nearest_94 (by decide +kernel) ?_
  refine jw_ishl (v := 4) hx hb dX12_nearest_95 (by decide +kernel) ?_
  refine jw_ior (v := 6) hx hb dX12_nearest_96 (by decide +kernel) ?_
  refine lv_istore (lv' := [(7, .int 6), (8, .int 1), (6, .int 9), (4, .long 0), (3, .int 4), (2, .int 2), (0, .ref h0), (1, .int 1)]) hx hb dX12_nearest_97 hl (by decide) rfl (fun ls hl => ?_)
  refine lv_iinc (v := 2) (lv' := [(8, .int 2), (7, .int 6), (6, .int 9), (4, .long 0), (3, .int 4), (2, .int 2), (0, .ref h0), (1, .int 1)]) hx hb dX12_nearest_99 hl (k := 1) rfl (by decide +kernel) (by decide) rfl (fun ls hl => ?_)
  refine lv_goto (tgt := 70) hx hb dX12_nearest_102 (by decide) ?_
  refine lv_iload hx hb dX12_nearest_70 (lv_at hl 0 rfl) ?_
  refine lv_iload_n hx hb dX12_nearest_72 rfl (lv_at hl 5 rfl) ?_
  refine lv_icmp_ge (tgt := 105) hx hb dX12_nearest_73 (by decide) (fun _ => ?_) (fun c9 => absurd (by decide +kernel) c9)
  refine lv_iload hx hb dX12_nearest_105 (lv_at hl 1 rfl) ?_
  refine lv_iload_n hx hb dX12_nearest_107 rfl (lv_at hl 5 rfl) ?_
  refine jw_mi (wc := []) (cs := 0) (ss := 0) (va_runS (As := [.int 6, .int 2]) (rest := []) ⟨hx, hb, hml, hown, hts⟩ (k388_X12_isOnce H.size) (va_cwS 2 hts gX12_nearest_X12_isOnce rfl rfl rfl ydS_X12_isOnce ⟨Nat.le_of_ble_eq_true rfl, Nat.le_of_ble_eq_true rfl⟩) (jw_mpreS hP hD hS hA hE [] rfl) rfl rfl hl.1 rfl (lv_room (Nat.le_of_ble_eq_true rfl)) dX12_nearest_108 ⟨Nat.le_of_ble_eq_true rfl, Nat.le_of_ble_eq_true rfl⟩) hP hD hS hA [] rfl rfl rfl (fun r9 w1 H locs hr9 hw9 hP hD hS => ?_)
  subst hr9
  subst hw9
  have hP : va_P D vwCl [(h0, .inr (15, [.ref h14, .int 0, .int 0, .ref h15, .int 0, .int (-1), .int 0, .int 0, .int 0, .int 0, .int 0, .int 2, .int 0, .int 0, .int 0, .ref h16, .ref h17, .ref h18, .ref h19, .int 2, .int 0, .int 0, .int 0, .int 0, .ref h20, .ref h21, .ref h22, .ref h23, .int 2, .ref h1, .int 1, .ref h2, .ref h24, .int 1, .ref h25, .ref h3, .ref h4, .int 0, .ref h26, .ref h27, .ref h5, .ref h6, .ref h7, .ref h8, .ref h9, .ref h10, .ref h11, .int 9, .ref h12, .ref h28, .ref h13, .int (-1), .ref h29, .long 0, .long 0, .int (-1), .int (-1), .long 0, .long 1, .ref h30, .ref h31, .ref h32, .ref h33, .ref h34, .ref h35, .long 0])), (h1, .inl (Y 1, 100, .inl (jw_l 0 [0, 1, 0, 0, 1, 0, 0, 0, 1, 1]))), (h2, .inl (Y 1, 13824, .inl (jw_l 0 [0]))), (h3, .inl (Y 1, 4, .inl (jw_l 0 [0, 1, 2, 3]))), (h4, .inl (Y 1, 4, .inl (jw_l 0 [0, 1, 2, 3]))), (h5, .inl (Y 1, 4, .inl (jw_l 0 [0, 1, 2, 3]))), (h6, .inl (Y 1, 4, .inl (jw_l 0 [1, 0, 2, 3]))), (h7, .inl (Y 1, 6, .inl (jw_l 0 [0, 1]))), (h8, .inl (Y 1, 14425, .inl (jw_l 0 [0]))), (h9, .inl (Y 2, 14425, .inr (.inl (jw_L 0 [1])))), (h10, .inl (Y 1, 13824, .inl (jw_l 0 [0]))), (h11, .inl (Y 1, 16, .inl (jw_l 0 [1, 2, 0, 0, 2, 1, 0, 0, 0, 0, 0, 0, 0, 0, 0, 0]))), (h12, .inl (Y 1, 5, .inl (jw_l 0 [1, 3]))), (h13, .inl (Y 2, 13824, .inr (.inl (jw_L 0 [1]))))] H := hP
  have hD : va_D A [(h0, .inr (15, [.ref h14, .int 0, .int 0, .ref h15, .int 0, .int (-1), .int 0, .int 0, .int 0, .int 0, .int 0, .int 2, .int 0, .int 0, .int 0, .ref h16, .ref h17, .ref h18, .ref h19, .int 2, .int 0, .int 0, .int 0, .int 0, .ref h20, .ref h21, .ref h22, .ref h23, .int 2, .ref h1, .int 1, .ref h2, .ref h24, .int 1, .ref h25, .ref h3, .ref h4, .int 0, .ref h26, .ref h27, .ref h5, .ref h6, .ref h7, .ref h8, .ref h9, .ref h10, .ref h11, .int 9, .ref h12, .ref h28, .ref h13, .int (-1), .ref h29, .long 0, .long 0, .int (-1), .int (-1), .long 0, .long 1, .ref h30, .ref h31, .ref h32, .ref h33, .ref h34, .ref h35, .long 0])), (h1, .inl (Y 1, 100, .inl (jw_l 0 [0, 1, 0, 0, 1, 0, 0, 0, 1, 1]))), (h2, .inl (Y 1, 13824, .inl (jw_l 0 [0]))), (h3, .inl (Y 1, 4, .inl (jw_l 0 [0, 1, 2, 3]))), (h4, .inl (Y 1, 4, .inl (jw_l 0 [0, 1, 2, 3]))), (h5, .inl (Y 1, 4, .inl (jw_l 0 [0, 1, 2, 3]))), (h6, .inl (Y 1, 4, .inl (jw_l 0 [1, 0, 2, 3]))), (h7, .inl (Y 1, 6, .inl (jw_l 0 [0, 1]))), (h8, .inl (Y 1, 14425, .inl (jw_l 0 [0]))), (h9, .inl (Y 2, 14425, .inr (.inl (jw_L 0 [1])))), (h10, .inl (Y 1, 13824, .inl (jw_l 0 [0]))), (h11, .inl (Y 1, 16, .inl (jw_l 0 [1, 2, 0, 0, 2, 1, 0, 0, 0, 0, 0, 0, 0, 0, 0, 0]))), (h12, .inl (Y 1, 5, .inl (jw_l 0 [1, 3]))), (h13, .inl (Y 2, 13824, .inr (.inl (jw_L 0 [1]))))] := hD
  refine lv_if_ne (tgt := 117) hx hb dX12_nearest_111 (by decide) (fun c9 => absurd (by decide +kernel) c9) (fun _ => ?_)
  refine lv_goto (tgt := 204) hx hb dX12_nearest_114 (by decide) ?_
  refine lv_iinc (v := 10) (lv' := [(6, .int 10), (8, .int 2), (7, .int 6), (4, .long 0), (3, .int 4), (2, .int 2), (0, .ref h0), (1, .int 1)]) hx hb dX12_nearest_204 hl (k := 2) rfl (by decide +kernel) (by decide) rfl (fun ls hl => ?_)
  refine lv_goto (tgt := 54) hx hb dX12_nearest_207 (by decide) ?_
  refine lv_iload hx hb dX12_nearest_54 (lv_at hl 0 rfl) ?_
  refine lv_iconst (v := 1) hx hb dX12_nearest_56 (by decide +kernel) ?_
  refine lv_iconst (v := 2) hx hb dX12_nearest_57 (by decide +kernel) ?_
  refine lv_iload_n hx hb dX12_nearest_58 rfl (lv_at hl 5 rfl) ?_
  refine jw_imul (v := 4) hx hb dX12_nearest_59 (by decide +kernel) ?_
  refine jw_ishl (v := 16) hx hb dX12_nearest_60 (by decide +kernel) ?_
  refine lv_icmp_ge (tgt := 210) hx hb dX12_nearest_61 (by decide) (fun c9 => absurd c9 (by decide +kernel)) (fun _ => ?_)
  refine lv_iconst (v := 0) hx hb dX12_nearest_64 (by decide +kernel) ?_
  refine lv_istore (lv' := [(7, .int 0), (6, .int 10), (8, .int 2), (4, .long 0), (3, .int 4), (2, .int 2), (0, .ref h0), (1, .int 1)]) hx hb dX12_nearest_65 hl (by decide) rfl (fun ls hl => ?_)
  refine lv_iconst (v := 0) hx hb dX12_nearest_67 (by decide +kernel) ?_
  refine lv_istore (lv' := [(8, .int 0), (7, .int 0), (6, .int 10), (4, .long 0), (3, .int 4), (2, .int 2), (0, .ref h0), (1, .int 1)]) hx hb dX12_nearest_68 hl (by decide) rfl (fun ls hl => ?_)
  refine lv_iload hx hb dX12_nearest_70 (lv_at hl 0 rfl) ?_
  refine lv_iload_n hx hb dX12_nearest_72 rfl (lv_at hl 5 rfl) ?_
  refine lv_icmp_ge (tgt := 105) hx hb dX12_nearest_73 (by decide) (fun c9 => absurd c9 (by decide +kernel)) (fun _ => ?_)
  refine lv_iload hx hb dX12_nearest_76 (lv_at hl 1 rfl) ?_
  refine lv_iload hx hb dX12_nearest_78 (lv_at hl 2 rfl) ?_
  refine lv_iconst (v := 2) hx hb dX12_nearest_80 (by decide +kernel) ?_
  refine lv_iload_n hx hb dX12_nearest_81 rfl (lv_at hl 5 rfl) ?_
  refine lv_iconst (v := 1) hx hb dX12_nearest_82 (by decide +kernel) ?_
  refine jw_isub (v := 1) hx hb dX12_nearest_83 (by decide +kernel) ?_
  refine lv_iload hx hb dX12_nearest_84 (lv_at hl 0 rfl) ?_
  refine jw_isub (v := 1) hx hb dX12_nearest_86 (by decide +kernel) ?_
  refine jw_imul (v := 2) hx hb dX12_nearest_87 (by decide +kernel) ?_
  refine jw_ishr (v := 2) hx hb dX12_nearest_88 (by decide +kernel) ?_
  refine lv_iconst (v := 3) hx hb dX12_nearest_89 (by decide +kernel) ?_
  refine jw_iand (v := 2) hx hb dX12_nearest_90 (by decide +kernel) ?_
  refine lv_iconst (v := 2) hx hb dX12_nearest_91 (by decide +kernel) ?_
  refine lv_iload hx hb dX12_nearest_92 (lv_at hl 0 rfl) ?_
  refine jw_imul (v := 0) hx hb dX12_nearest_94 (by decide +kernel) ?_
  refine jw_ishl (v := 2) hx hb dX12_nearest_95 (by decide +kernel) ?_
  refine jw_ior (v := 2) hx hb dX12_nearest_96 (by decide +kernel) ?_
  refine lv_istore (lv' := [(7, .int 2), (8, .int 0), (6, .int 10), (4, .long 0), (3, .int 4), (2, .int 2), (0, .ref h0), (1, .int 1)]) hx hb dX12_nearest_97 hl (by decide) rfl (fun ls hl => ?_)
  refine lv_iinc (v := 1) (lv' := [(8, .int 1), (7, .int 2), (6, .int 10), (4, .long 0), (3, .int 4), (2, .int 2), (0, .ref h0), (1, .int 1)]) hx hb dX12_nearest_99 hl (k := 1) rfl (by decide +kernel) (by decide) rfl (fun ls hl => ?_)
  refine lv_goto (tgt := 70) hx hb dX12_nearest_102 (by decide) ?_
  refine lv_iload hx hb dX12_nearest_70 (lv_at hl 0 rfl) ?_
  refine lv_iload_n hx hb dX12_nearest_72 rfl (lv_at hl 5 rfl) ?_
  refine lv_icmp_ge (tgt := 105) hx hb dX12_nearest_73 (by decide) (fun c9 => absurd c9 (by decide +kernel)) (fun _ => ?_)
  refine lv_iload hx hb dX12_nearest_76 (lv_at hl 1 rfl) ?_
  refine lv_iload hx hb dX12_nearest_78 (lv_at hl 2 rfl) ?_
  refine lv_iconst (v := 2) hx hb dX12_nearest_80 (by decide +kernel) ?_
  refine lv_iload_n hx hb dX12_nearest_81 rfl (lv_at hl 5 rfl) ?_
  refine lv_iconst (v := 1) hx hb dX12_nearest_82 (by decide +kernel) ?_
  refine jw_isub (v := 1) hx hb dX12_nearest_83 (by decide +kernel) ?_
  refine lv_iload hx hb dX12_nearest_84 (lv_at hl 0 rfl) ?_
  refine jw_isub (v := 0) hx hb dX12_nearest_86 (by decide +kernel) ?_
  refine jw_imul (v := 0) hx hb dX12_nearest_87 (by decide +kernel) ?_
  refine jw_ishr (v := 10) hx hb dX12_nearest_88 (by decide +kernel) ?_
  refine lv_iconst (v := 3) hx hb dX12_nearest_89 (by decide +kernel) ?_
  refine jw_iand (v := 2) hx hb dX12_nearest_90 (by decide +kernel) ?_
  refine lv_iconst (v := 2) hx hb dX12_nearest_91 (by decide +kernel) ?_
  refine lv_iload hx hb dX12_nearest_92 (lv_at hl 0 rfl) ?_
  refine jw_imul (v := 2) hx hb dX12_nearest_94 (by decide +kernel) ?_
  refine jw_ishl (v := 8) hx hb dX12_nearest_95 (by decide +kernel) ?_
  refine jw_ior (v := 10) hx hb dX12_nearest_96 (by decide +kernel) ?_
  refine lv_istore (lv' := [(7, .int 10), (8, .int 1), (6, .int 10), (4, .long 0), (3, .int 4), (2, .int 2), (0, .ref h0), (1, .int 1)]) hx hb dX12_nearest_97 hl (by decide) rfl (fun ls hl => ?_)
  refine lv_iinc (v := 2) (lv' := [(8, .int 2), (7, .int 10), (6, .int 10), (4, .long 0), (3, .int 4), (2, .int 2), (0, .ref h0), (1, .int 1)]) hx hb dX12_nearest_99 hl (k := 1) rfl (by decide +kernel) (by decide) rfl (fun ls hl => ?_)
  refine lv_goto (tgt := 70) hx hb dX12_nearest_102 (by decide) ?_
  refine lv_iload hx hb dX12_nearest_70 (lv_at hl 0 rfl) ?_
  refine lv_iload_n hx hb dX12_nearest_72 rfl (lv_at hl 5 rfl) ?_
  refine lv_icmp_ge (tgt := 105) hx hb dX12_nearest_73 (by decide) (fun _ => ?_) (fun c9 => absurd (by decide +kernel) c9)
  refine lv_iload hx hb dX12_nearest_105 (lv_at hl 1 rfl) ?_
  refine lv_iload_n hx hb dX12_nearest_107 rfl (lv_at hl 5 rfl) ?_
  refine jw_mi (wc := []) (cs := 0) (ss := 0) (va_runS (As := [.int 10, .int 2]) (rest := []) ⟨hx, hb, hml, hown, hts⟩ (k389_X12_isOnce H.size) (va_cwS 2 hts gX12_nearest_X12_isOnce rfl rfl rfl ydS_X12_isOnce ⟨Nat.le_of_ble_eq_true rfl, Nat.le_of_ble_eq_true rfl⟩) (jw_mpreS hP hD hS hA hE [] rfl) rfl rfl hl.1 rfl (lv_room (Nat.le_of_ble_eq_true rfl)) dX12_nearest_108 ⟨Nat.le_of_ble_eq_true rfl, Nat.le_of_ble_eq_true rfl⟩) hP hD hS hA [] rfl rfl rfl (fun r9 w1 H locs hr9 hw9 hP hD hS => ?_)
  subst hr9
  subst hw9
  have hP : va_P D vwCl [(h0, .inr (15, [.ref h14, .int 0, .int 0, .ref h15, .int 0, .int (-1), .int 0, .int 0, .int 0, .int 0, .int 0, .int 2, .int 0, .int 0, .int 0, .ref h16, .ref h17, .ref h18, .ref h19, .int 2, .int 0, .int 0, .int 0, .int 0, .ref h20, .ref h21, .ref h22, .ref h23, .int 2, .ref h1, .int 1, .ref h2, .ref h24, .int 1, .ref h25, .ref h3, .ref h4, .int 0, .ref h26, .ref h27, .ref h5, .ref h6, .ref h7, .ref h8, .ref h9, .ref h10, .ref h11, .int 9, .ref h12, .ref h28, .ref h13, .int (-1), .ref h29, .long 0, .long 0, .int (-1), .int (-1), .long 0, .long 1, .ref h30, .ref h31, .ref h32, .ref h33, .ref h34, .ref h35, .long 0])), (h1, .inl (Y 1, 100, .inl (jw_l 0 [0, 1, 0, 0, 1, 0, 0, 0, 1, 1]))), (h2, .inl (Y 1, 13824, .inl (jw_l 0 [0]))), (h3, .inl (Y 1, 4, .inl (jw_l 0 [0, 1, 2, 3]))), (h4, .inl (Y 1, 4, .inl (jw_l 0 [0, 1, 2, 3]))), (h5, .inl (Y 1, 4, .inl (jw_l 0 [0, 1, 2, 3]))), (h6, .inl (Y 1, 4, .inl (jw_l 0 [1, 0, 2, 3]))), (h7, .inl (Y 1, 6, .inl (jw_l 0 [0, 1]))), (h8, .inl (Y 1, 14425, .inl (jw_l 0 [0]))), (h9, .inl (Y 2, 14425, .inr (.inl (jw_L 0 [1])))), (h10, .inl (Y 1, 13824, .inl (jw_l 0 [0]))), (h11, .inl (Y 1, 16, .inl (jw_l 0 [1, 2, 0, 0, 2, 1, 0, 0, 0, 0, 0, 0, 0, 0, 0, 0]))), (h12, .inl (Y 1, 5, .inl (jw_l 0 [1, 3]))), (h13, .inl (Y 2, 13824, .inr (.inl (jw_L 0 [1]))))] H := hP
  have hD : va_D A [(h0, .inr (15, [.ref h14, .int 0, .int 0, .ref h15, .int 0, .int (-1), .int 0, .int 0, .int 0, .int 0, .int 0, .int 2, .int 0, .int 0, .int 0, .ref h16, .ref h17, .ref h18, .ref h19, .int 2, .int 0, .int 0, .int 0, .int 0, .ref h20, .ref h21, .ref h22, .ref h23, .int 2, .ref h1, .int 1, .ref h2, .ref h24, .int 1, .ref h25, .ref h3, .ref h4, .int 0, .ref h26, .ref h27, .ref h5, .ref h6, .ref h7, .ref h8, .ref h9, .ref h10, .ref h11, .int 9, .ref h12, .ref h28, .ref h13, .int (-1), .ref h29, .long 0, .long 0, .int (-1), .int (-1), .long 0, .long 1, .ref h30, .ref h31, .ref h32, .ref h33, .ref h34, .ref h35, .long 0])), (h1, .inl (Y 1, 100, .inl (jw_l 0 [0, 1, 0, 0, 1, 0, 0, 0, 1, 1]))), (h2, .inl (Y 1, 13824, .inl (jw_l 0 [0]))), (h3, .inl (Y 1, 4, .inl (jw_l 0 [0, 1, 2, 3]))), (h4, .inl (Y 1, 4, .inl (jw_l 0 [0, 1, 2, 3]))), (h5, .inl (Y 1, 4, .inl (jw_l 0 [0, 1, 2, 3]))), (h6, .inl (Y 1, 4, .inl (jw_l 0 [1, 0, 2, 3]))), (h7, .inl (Y 1, 6, .inl (jw_l 0 [0, 1]))), (h8, .inl (Y 1, 14425, .inl (jw_l 0 [0]))), (h9, .inl (Y 2, 14425, .inr (.inl (jw_L 0 [1])))), (h10, .inl (Y 1, 13824, .inl (jw_l 0 [0]))), (h11, .inl (Y 1, 16, .inl (jw_l 0 [1, 2, 0, 0, 2, 1, 0, 0, 0, 0, 0, 0, 0, 0, 0, 0]))), (h12, .inl (Y 1, 5, .inl (jw_l 0 [1, 3]))), (h13, .inl (Y 2, 13824, .inr (.inl (jw_L 0 [1]))))] := hD
  refine lv_if_ne (tgt := 117) hx hb dX12_nearest_111 (by decide) (fun c9 => absurd (by decide +kernel) c9) (fun _ => ?_)
  refine lv_goto (tgt := 204) hx hb dX12_nearest_114 (by decide) ?_
  refine lv_iinc (v := 11) (lv' := [(6, .int 11), (8, .int 2), (7, .int 10), (4, .long 0), (3, .int 4), (2, .int 2), (0, .ref h0), (1, .int 1)]) hx hb dX12_nearest_204 hl (k := 2) rfl (by decide +kernel) (by decide) rfl (fun ls hl => ?_)
  refine lv_goto (tgt := 54) hx hb dX12_nearest_207 (by decide) ?_
  refine lv_iload hx hb dX12_nearest_54 (lv_at hl 0 rfl) ?_
  refine lv_iconst (v := 1) hx hb dX12_nearest_56 (by decide +kernel) ?_
  refine lv_iconst (v := 2) hx hb dX12_nearest_57 (by decide +kernel) ?_
  refine lv_iload_n hx hb dX12_nearest_58 rfl (lv_at hl 5 rfl) ?_
  refine jw_imul (v := 4) hx hb dX12_nearest_59 (by decide +kernel) ?_
  refine jw_ishl (v := 16) hx hb dX12_nearest_60 (by decide +kernel) ?_
  refine lv_icmp_ge (tgt := 210) hx hb dX12_nearest_61 (by decide) (fun c9 => absurd c9 (by decide +kernel)) (fun _ => ?_)
  refine lv_iconst (v := 0) hx hb dX12_nearest_64 (by decide +kernel) ?_
  refine lv_istore (lv' := [(7, .int 0), (6, .int 11), (8, .int 2), (4, .long 0), (3, .int 4), (2, .int 2), (0, .ref h0), (1, .int 1)]) hx hb dX12_nearest_65 hl (by decide) rfl (fun ls hl => ?_)
  refine lv_iconst (v := 0) hx hb dX12_nearest_67 (by decide +kernel) ?_
  refine lv_istore (lv' := [(8, .int 0), (7, .int 0), (6, .int 11), (4, .long 0), (3, .int 4), (2, .int 2), (0, .ref h0), (1, .int 1)]) hx hb dX12_nearest_68 hl (by decide) rfl (fun ls hl => ?_)
  refine lv_iload hx hb dX12_nearest_70 (lv_at hl 0 rfl) ?_
  refine lv_iload_n hx hb dX12_nearest_72 rfl (lv_at hl 5 rfl) ?_
  refine lv_icmp_ge (tgt := 105) hx hb dX12_nearest_73 (by decide) (fun c9 => absurd c9 (by decide +kernel)) (fun _ => ?_)
  refine lv_iload hx hb dX12_nearest_76 (lv_at hl 1 rfl) ?_
  refine lv_iload hx hb dX12_nearest_78 (lv_at hl 2 rfl) ?_
  refine lv_iconst (v := 2) hx hb dX12_nearest_80 (by decide +kernel) ?_
  refine lv_iload_n hx hb dX12_nearest_81 rfl (lv_at hl 5 rfl) ?_
  refine lv_iconst (v := 1) hx hb dX12_nearest_82 (by decide +kernel) ?_
  refine jw_isub (v := 1) hx hb dX12_nearest_83 (by decide +kernel) ?_
  refine lv_iload hx hb dX12_nearest_84 (lv_at hl 0 rfl) ?_
  refine jw_isub (v := 1) hx hb dX12_nearest_86 (by decide +kernel) ?_
  refine jw_imul (v := 2) hx hb dX12_nearest_87 (by decide +kernel) ?_
  refine jw_ishr (v := 2) hx hb dX12_nearest_88 (by decide +kernel) ?_
  refine lv_iconst (v := 3) hx hb dX12_nearest_89 (by decide +kernel) ?_
  refine jw_iand (v := 2) hx hb dX12_nearest_90 (by decide +kernel) ?_
  refine lv_iconst (v := 2) hx hb dX12_nearest_91 (by decide +kernel) ?_
  refine lv_iload hx hb dX12_nearest_92 (lv_at hl 0 rfl) ?_
  refine jw_imul (v := 0) hx hb dX12_nearest_94 (by decide +kernel) ?_
  refine jw_ishl (v := 2) hx hb dX12_nearest_95 (by decide +kernel) ?_
  refine jw_ior (v := 2) hx hb dX12_nearest_96 (by decide +kernel) ?_
  refine lv_istore (lv' := [(7, .int 2), (8, .int 0), (6, .int 11), (4, .long 0), (3, .int 4), (2, .int 2), (0, .ref h0), (1, .int 1)]) hx hb dX12_nearest_97 hl (by decide) rfl (fun ls hl => ?_)
  refine lv_iinc (v := 1) (lv' := [(8, .int 1), (7, .int 2), (6, .int 11), (4, .long 0), (3, .int 4), (2, .int 2), (0, .ref h0), (1, .int 1)]) hx hb dX12_nearest_99 hl (k := 1) rfl (by decide +kernel) (by decide) rfl (fun ls hl => ?_)
  refine lv_goto (tgt := 70) hx hb dX12_nearest_102 (by decide) ?_
  refine lv_iload hx hb dX12_nearest_70 (lv_at hl 0 rfl) ?_
  refine lv_iload_n hx hb dX12_nearest_72 rfl (lv_at hl 5 rfl) ?_
  refine lv_icmp_ge (tgt := 105) hx hb dX12_nearest_73 (by decide) (fun c9 => absurd c9 (by decide +kernel)) (fun _ => ?_)
  refine lv_iload hx hb dX12_nearest_76 (lv_at hl 1 rfl) ?_
  refine lv_iload hx hb dX12_nearest_78 (lv_at hl 2 rfl) ?_
  refine lv_iconst (v := 2) hx hb dX12_nearest_80 (by decide +kernel) ?_
  refine lv_iload_n hx hb dX12_nearest_81 rfl (lv_at hl 5 rfl) ?_
  refine lv_iconst (v := 1) hx hb dX12_nearest_82 (by decide +kernel) ?_
  refine jw_isub (v := 1) hx hb dX12_nearest_83 (by decide +kernel) ?_
  refine lv_iload hx hb dX12_nearest_84 (lv_at hl 0 rfl) ?_
  refine jw_isub (v := 0) hx hb dX12_nearest_86 (by decide +kernel) ?_
  refine jw_imul (v := 0) hx hb dX12_nearest_87 (by decide +kernel) ?_
  refine jw_ishr (v := 11) hx hb dX12_nearest_88 (by decide +kernel) ?_
  refine lv_iconst (v := 3) hx hb dX12_nearest_89 (by decide +kernel) ?_
  refine jw_iand (v := 3) hx hb dX12_nearest_90 (by decide +kernel) ?_
  refine lv_iconst (v := 2) hx hb dX12_nearest_91 (by decide +kernel) ?_
  refine lv_iload hx hb dX12_nearest_92 (lv_at hl 0 rfl) ?_
  refine jw_imul (v := 2) hx hb dX12_nearest_94 (by decide +kernel) ?_
  refine jw_ishl (v := 12) hx hb dX12_nearest_95 (by decide +kernel) ?_
  refine jw_ior (v := 14) hx hb dX12_nearest_96 (by decide +kernel) ?_
  refine lv_istore (lv' := [(7, .int 14), (8, .int 1), (6, .int 11), (4, .long 0), (3, .int 4), (2, .int 2), (0, .ref h0), (1, .int 1)]) hx hb dX12_nearest_97 hl (by decide) rfl (fun ls hl => ?_)
  refine lv_iinc (v := 2) (lv' := [(8, .int 2), (7, .int 14), (6, .int 11), (4, .long 0), (3, .int 4), (2, .int 2), (0, .ref h0), (1, .int 1)]) hx hb dX12_nearest_99 hl (k := 1) rfl (by decide +kernel) (by decide) rfl (fun ls hl => ?_)
  refine lv_goto (tgt := 70) hx hb dX12_nearest_102 (by decide) ?_
  refine lv_iload hx hb dX12_nearest_70 (lv_at hl 0 rfl) ?_
  refine lv_iload_n hx hb dX12_nearest_72 rfl (lv_at hl 5 rfl) ?_
  refine lv_icmp_ge (tgt := 105) hx hb dX12_nearest_73 (by decide) (fun _ => ?_) (fun c9 => absurd (by decide +kernel) c9)
  refine lv_iload hx hb dX12_nearest_105 (lv_at hl 1 rfl) ?_
  refine lv_iload_n hx hb dX12_nearest_107 rfl (lv_at hl 5 rfl) ?_
  refine jw_mi (wc := []) (cs := 0) (ss := 0) (va_runS (As := [.int 14, .int 2]) (rest := []) ⟨hx, hb, hml, hown, hts⟩ (k390_X12_isOnce H.size) (va_cwS 2 hts gX12_nearest_X12_isOnce rfl rfl rfl ydS_X12_isOnce ⟨Nat.le_of_ble_eq_true rfl, Nat.le_of_ble_eq_true rfl⟩) (jw_mpreS hP hD hS hA hE [] rfl) rfl rfl hl.1 rfl (lv_room (Nat.le_of_ble_eq_true rfl)) dX12_nearest_108 ⟨Nat.le_of_ble_eq_true rfl, Nat.le_of_ble_eq_true rfl⟩) hP hD hS hA [] rfl rfl rfl (fun r9 w1 H locs hr9 hw9 hP hD hS => ?_)
  subst hr9
  subst hw9
  have hP : va_P D vwCl [(h0, .inr (15, [.ref h14, .int 0, .int 0, .ref h15, .int 0, .int (-1), .int 0, .int 0, .int 0, .int 0, .int 0, .int 2, .int 0, .int 0, .int 0, .ref h16, .ref h17, .ref h18, .ref h19, .int 2, .int 0, .int 0, .int 0, .int 0, .ref h20, .ref h21, .ref h22, .ref h23, .int 2, .ref h1, .int 1, .ref h2, .ref h24, .int 1, .ref h25, .ref h3, .ref h4, .int 0, .ref h26, .ref h27, .ref h5, .ref h6, .ref h7, .ref h8, .ref h9, .ref h10, .ref h11, .int 9, .ref h12, .ref h28, .ref h13, .int (-1), .ref h29, .long 0, .long 0, .int (-1), .int (-1), .long 0, .long 1, .ref h30, .ref h31, .ref h32, .ref h33, .ref h34, .ref h35, .long 0])), (h1, .inl (Y 1, 100, .inl (jw_l 0 [0, 1, 0, 0, 1, 0, 0, 0, 1, 1]))), (h2, .inl (Y 1, 13824, .inl (jw_l 0 [0]))), (h3, .inl (Y 1, 4, .inl (jw_l 0 [0, 1, 2, 3]))), (h4, .inl (Y 1, 4, .inl (jw_l 0 [0, 1, 2, 3]))), (h5, .inl (Y 1, 4, .inl (jw_l 0 [0, 1, 2, 3]))), (h6, .inl (Y 1, 4, .inl (jw_l 0 [1, 0, 2, 3]))), (h7, .inl (Y 1, 6, .inl (jw_l 0 [0, 1]))), (h8, .inl (Y 1, 14425, .inl (jw_l 0 [0]))), (h9, .inl (Y 2, 14425, .inr (.inl (jw_L 0 [1])))), (h10, .inl (Y 1, 13824, .inl (jw_l 0 [0]))), (h11, .inl (Y 1, 16, .inl (jw_l 0 [1, 2, 0, 0, 2, 1, 0, 0, 0, 0, 0, 0, 0, 0, 0, 0]))), (h12, .inl (Y 1, 5, .inl (jw_l 0 [1, 3]))), (h13, .inl (Y 2, 13824, .inr (.inl (jw_L 0 [1]))))] H := hP
  have hD : va_D A [(h0, .inr (15, [.ref h14, .int 0, .int 0, .ref h15, .int 0, .int (-1), .int 0, .int 0, .int 0, .int 0, .int 0, .int 2, .int 0, .int 0, .int 0, .ref h16, .ref h17, .ref h18, .ref h19, .int 2, .int 0, .int 0, .int 0, .int 0, .ref h20, .ref h21, .ref h22, .ref h23, .int 2, .ref h1, .int 1, .ref h2, .ref h24, .int 1, .ref h25, .ref h3, .ref h4, .int 0, .ref h26, .ref h27, .ref h5, .ref h6, .ref h7, .ref h8, .ref h9, .ref h10, .ref h11, .int 9, .ref h12, .ref h28, .ref h13, .int (-1), .ref h29, .long 0, .long 0, .int (-1), .int (-1), .long 0, .long 1, .ref h30, .ref h31, .ref h32, .ref h33, .ref h34, .ref h35, .long 0])), (h1, .inl (Y 1, 100, .inl (jw_l 0 [0, 1, 0, 0, 1, 0, 0, 0, 1, 1]))), (h2, .inl (Y 1, 13824, .inl (jw_l 0 [0]))), (h3, .inl (Y 1, 4, .inl (jw_l 0 [0, 1, 2, 3]))), (h4, .inl (Y 1, 4, .inl (jw_l 0 [0, 1, 2, 3]))), (h5, .inl (Y 1, 4, .inl (jw_l 0 [0, 1, 2, 3]))), (h6, .inl (Y 1, 4, .inl (jw_l 0 [1, 0, 2, 3]))), (h7, .inl (Y 1, 6, .inl (jw_l 0 [0, 1]))), (h8, .inl (Y 1, 14425, .inl (jw_l 0 [0]))), (h9, .inl (Y 2, 14425, .inr (.inl (jw_L 0 [1])))), (h10, .inl (Y 1, 13824, .inl (jw_l 0 [0]))), (h11, .inl (Y 1, 16, .inl (jw_l 0 [1, 2, 0, 0, 2, 1, 0, 0, 0, 0, 0, 0, 0, 0, 0, 0]))), (h12, .inl (Y 1, 5, .inl (jw_l 0 [1, 3]))), (h13, .inl (Y 2, 13824, .inr (.inl (jw_L 0 [1]))))] := hD
  refine lv_if_ne (tgt := 117) hx hb dX12_nearest_111 (by decide) (fun c9 => absurd (by decide +kernel) c9) (fun _ => ?_)
  refine lv_goto (tgt := 204) hx hb dX12_nearest_114 (by decide) ?_
  refine lv_iinc (v := 12) (lv' := [(6, .int 12), (8, .int 2), (7, .int 14), (4, .long 0), (3, .int 4), (2, .int 2), (0, .ref h0), (1, .int 1)]) hx hb dX12_nearest_204 hl (k := 2) rfl (by decide +kernel) (by decide) rfl (fun ls hl => ?_)
  refine lv_goto (tgt := 54) hx hb dX12_nearest_207 (by decide) ?_
  refine lv_iload hx hb dX12_nearest_54 (lv_at hl 0 rfl) ?_
  refine lv_iconst (v := 1) hx hb dX12_nearest_56 (by decide +kernel) ?_
  refine lv_iconst (v := 2) hx hb dX12_nearest_57 (by decide +kernel) ?_
  refine lv_iload_n hx hb dX12_nearest_58 rfl (lv_at hl 5 rfl) ?_
  refine jw_imul (v := 4) hx hb dX12_nearest_59 (by decide +kernel) ?_
  refine jw_ishl (v := 16) hx hb dX12_nearest_60 (by decide +kernel) ?_
  refine lv_icmp_ge (tgt := 210) hx hb dX12_nearest_61 (by decide) (fun c9 => absurd c9 (by decide +kernel)) (fun _ => ?_)
  refine lv_iconst (v := 0) hx hb dX12_nearest_64 (by decide +kernel) ?_
  refine lv_istore (lv' := [(7, .int 0), (6, .int 12), (8, .int 2), (4, .long 0), (3, .int 4), (2, .int 2), (0, .ref h0), (1, .int 1)]) hx hb dX12_nearest_65 hl (by decide) rfl (fun ls hl => ?_)
  refine lv_iconst (v := 0) hx hb dX12_nearest_67 (by decide +kernel) ?_
  refine lv_istore (lv' := [(8, .int 0), (7, .int 0), (6, .int 12), (4, .long 0), (3, .int 4), (2, .int 2), (0, .ref h0), (1, .int 1)]) hx hb dX12_nearest_68 hl (by decide) rfl (fun ls hl => ?_)
  refine lv_iload hx hb dX12_nearest_70 (lv_at hl 0 rfl) ?_
  refine lv_iload_n hx hb dX12_nearest_72 rfl (lv_at hl 5 rfl) ?_
  refine lv_icmp_ge (tgt := 105) hx hb dX12_nearest_73 (by decide) (fun c9 => absurd c9 (by decide +kernel)) (fun _ => ?_)
  refine lv_iload hx hb dX12_nearest_76 (lv_at hl 1 rfl) ?_
  refine lv_iload hx hb dX12_nearest_78 (lv_at hl 2 rfl) ?_
  refine lv_iconst (v := 2) hx hb dX12_nearest_80 (by decide +kernel) ?_
  refine lv_iload_n hx hb dX12_nearest_81 rfl (lv_at hl 5 rfl) ?_
  refine lv_iconst (v := 1) hx hb dX12_nearest_82 (by decide +kernel) ?_
  refine jw_isub (v := 1) hx hb dX12_nearest_83 (by decide +kernel) ?_
  refine lv_iload hx hb dX12_nearest_84 (lv_at hl 0 rfl) ?_
  refine jw_isub (v := 1) hx hb dX12_nearest_86 (by decide +kernel) ?_
  refine jw_imul (v := 2) hx hb dX12_nearest_87 (by decide +kernel) ?_
  refine jw_ishr (v := 3) hx hb dX12_nearest_88 (by decide +kernel) ?_
  refine lv_iconst (v := 3) hx hb dX12_nearest_89 (by decide +kernel) ?_
  refine jw_iand (v := 3) hx hb dX12_nearest_90 (by decide +kernel) ?_
  refine lv_iconst (v := 2) hx hb dX12_nearest_91 (by decide +kernel) ?_
  refine lv_iload hx hb dX12_nearest_92 (lv_at hl 0 rfl) ?_
  refine jw_imul (v := 0) hx hb dX12_nearest_94 (by decide +kernel) ?_
  refine jw_ishl (v := 3) hx hb dX12_nearest_95 (by decide +kernel) ?_
  refine jw_ior (v := 3) hx hb dX12_nearest_96 (by decide +kernel) ?_
  refine lv_istore (lv' := [(7, .int 3), (8, .int 0), (6, .int 12), (4, .long 0), (3, .int 4), (2, .int 2), (0, .ref h0), (1, .int 1)]) hx hb dX12_nearest_97 hl (by decide) rfl (fun ls hl => ?_)
  refine lv_iinc (v := 1) (lv' := [(8, .int 1), (7, .int 3), (6, .int 12), (4, .long 0), (3, .int 4), (2, .int 2), (0, .ref h0), (1, .int 1)]) hx hb dX12_nearest_99 hl (k := 1) rfl (by decide +kernel) (by decide) rfl (fun ls hl => ?_)
  refine lv_goto (tgt := 70) hx hb dX12_nearest_102 (by decide) ?_
  refine lv_iload hx hb dX12_nearest_70 (lv_at hl 0 rfl) ?_
  refine lv_iload_n hx hb dX12_nearest_72 rfl (lv_at hl 5 rfl) ?_
  refine lv_icmp_ge (tgt := 105) hx hb dX12_nearest_73 (by decide) (fun c9 => absurd c9 (by decide +kernel)) (fun _ => ?_)
  refine lv_iload hx hb dX12_nearest_76 (lv_at hl 1 rfl) ?_
  refine lv_iload hx hb dX12_nearest_78 (lv_at hl 2 rfl) ?_
  refine lv_iconst (v := 2) hx hb dX12_nearest_80 (by decide +kernel) ?_
  refine lv_iload_n hx hb dX12_nearest_81 rfl (lv_at hl 5 rfl) ?_
  refine lv_iconst (v := 1) hx hb dX12_nearest_82 (by decide +kernel) ?_
  refine jw_isub (v := 1) hx hb dX12_nearest_83 (by decide +kernel) ?_
  refine lv_iload hx hb dX12_nearest_84 (lv_at hl 0 rfl) ?_
  refine jw_isub (v := 0) hx hb dX12_nearest_86 (by decide +kernel) ?_
  refine jw_imul (v := 0) hx hb dX12_nearest_87 (by decide +kernel) ?_
  refine jw_ishr (v := 12) hx hb dX12_nearest_88 (by decide +kernel) ?_
  refine lv_iconst (v := 3) hx hb dX12_nearest_89 (by decide +kernel) ?_
  refine jw_iand (v := 0) hx hb dX12_nearest_90 (by decide +kernel) ?_
  refine lv_iconst (v := 2) hx hb dX12_nearest_91 (by decide +kernel) ?_
  refine lv_iload hx hb dX12_nearest_92 (lv_at hl 0 rfl) ?_
  refine jw_imul (v := 2) hx hb dX12_nearest_94 (by decide +kernel) ?_
  refine jw_ishl (v := 0) hx hb dX12_nearest_95 (by decide +kernel) ?_
  refine jw_ior (v := 3) hx hb dX12_nearest_96 (by decide +kernel) ?_
  refine lv_istore (lv' := [(7, .int 3), (8, .int 1), (6, .int 12), (4, .long 0), (3, .int 4), (2, .int 2), (0, .ref h0), (1, .int 1)]) hx hb dX12_nearest_97 hl (by decide) rfl (fun ls hl => ?_)
  refine lv_iinc (v := 2) (lv' := [(8, .int 2), (7, .int 3), (6, .int 12), (4, .long 0), (3, .int 4), (2, .int 2), (0, .ref h0), (1, .int 1)]) hx hb dX12_nearest_99 hl (k := 1) rfl (by decide +kernel) (by decide) rfl (fun ls hl => ?_)
  refine lv_goto (tgt := 70) hx hb dX12_nearest_102 (by decide) ?_
  refine lv_iload hx hb dX12_nearest_70 (lv_at hl 0 rfl) ?_
  refine lv_iload_n hx hb dX12_nearest_72 rfl (lv_at hl 5 rfl) ?_
  refine lv_icmp_ge (tgt := 105) hx hb dX12_nearest_73 (by decide) (fun _ => ?_) (fun c9 => absurd (by decide +kernel) c9)
  refine lv_iload hx hb dX12_nearest_105 (lv_at hl 1 rfl) ?_
  refine lv_iload_n hx hb dX12_nearest_107 rfl (lv_at hl 5 rfl) ?_
  refine jw_mi (wc := []) (cs := 0) (ss := 0) (va_runS (As := [.int 3, .int 2]) (rest := []) ⟨hx, hb, hml, hown, hts⟩ (k391_X12_isOnce H.size) (va_cwS 2 hts gX12_nearest_X12_isOnce rfl rfl rfl ydS_X12_isOnce ⟨Nat.le_of_ble_eq_true rfl, Nat.le_of_ble_eq_true rfl⟩) (jw_mpreS hP hD hS hA hE [] rfl) rfl rfl hl.1 rfl (lv_room (Nat.le_of_ble_eq_true rfl)) dX12_nearest_108 ⟨Nat.le_of_ble_eq_true rfl, Nat.le_of_ble_eq_true rfl⟩) hP hD hS hA [] rfl rfl rfl (fun r9 w1 H locs hr9 hw9 hP hD hS => ?_)
  subst hr9
  subst hw9
  have hP : va_P D vwCl [(h0, .inr (15, [.ref h14, .int 0, .int 0, .ref h15, .int 0, .int (-1), .int 0, .int 0, .int 0, .int 0, .int 0, .int 2, .int 0, .int 0, .int 0, .ref h16, .ref h17, .ref h18, .ref h19, .int 2, .int 0, .int 0, .int 0, .int 0, .ref h20, .ref h21, .ref h22, .ref h23, .int 2, .ref h1, .int 1, .ref h2, .ref h24, .int 1, .ref h25, .ref h3, .ref h4, .int 0, .ref h26, .ref h27, .ref h5, .ref h6, .ref h7, .ref h8, .ref h9, .ref h10, .ref h11, .int 9, .ref h12, .ref h28, .ref h13, .int (-1), .ref h29, .long 0, .long 0, .int (-1), .int (-1), .long 0, .long 1, .ref h30, .ref h31, .ref h32, .ref h33, .ref h34, .ref h35, .long 0])), (h1, .inl (Y 1, 100, .inl (jw_l 0 [0, 1, 0, 0, 1, 0, 0, 0, 1, 1]))), (h2, .inl (Y 1, 13824, .inl (jw_l 0 [0]))), (h3, .inl (Y 1, 4, .inl (jw_l 0 [0, 1, 2, 3]))), (h4, .inl (Y 1, 4, .inl (jw_l 0 [0, 1, 2, 3]))), (h5, .inl (Y 1, 4, .inl (jw_l 0 [0, 1, 2, 3]))), (h6, .inl (Y 1, 4, .inl (jw_l 0 [1, 0, 2, 3]))), (h7, .inl (Y 1, 6, .inl (jw_l 0 [0, 1]))), (h8, .inl (Y 1, 14425, .inl (jw_l 0 [0]))), (h9, .inl (Y 2, 14425, .inr (.inl (jw_L 0 [1])))), (h10, .inl (Y 1, 13824, .inl (jw_l 0 [0]))), (h11, .inl (Y 1, 16, .inl (jw_l 0 [1, 2, 0, 0, 2, 1, 0, 0, 0, 0, 0, 0, 0, 0, 0, 0]))), (h12, .inl (Y 1, 5, .inl (jw_l 0 [1, 3]))), (h13, .inl (Y 2, 13824, .inr (.inl (jw_L 0 [1]))))] H := hP
  have hD : va_D A [(h0, .inr (15, [.ref h14, .int 0, .int 0, .ref h15, .int 0, .int (-1), .int 0, .int 0, .int 0, .int 0, .int 0, .int 2, .int 0, .int 0, .int 0, .ref h16, .ref h17, .ref h18, .ref h19, .int 2, .int 0, .int 0, .int 0, .int 0, .ref h20, .ref h21, .ref h22, .ref h23, .int 2, .ref h1, .int 1, .ref h2, .ref h24, .int 1, .ref h25, .ref h3, .ref h4, .int 0, .ref h26, .ref h27, .ref h5, .ref h6, .ref h7, .ref h8, .ref h9, .ref h10, .ref h11, .int 9, .ref h12, .ref h28, .ref h13, .int (-1), .ref h29, .long 0, .long 0, .int (-1), .int (-1), .long 0, .long 1, .ref h30, .ref h31, .ref h32, .ref h33, .ref h34, .ref h35, .long 0])), (h1, .inl (Y 1, 100, .inl (jw_l 0 [0, 1, 0, 0, 1, 0, 0, 0, 1, 1]))), (h2, .inl (Y 1, 13824, .inl (jw_l 0 [0]))), (h3, .inl (Y 1, 4, .inl (jw_l 0 [0, 1, 2, 3]))), (h4, .inl (Y 1, 4, .inl (jw_l 0 [0, 1, 2, 3]))), (h5, .inl (Y 1, 4, .inl (jw_l 0 [0, 1, 2, 3]))), (h6, .inl (Y 1, 4, .inl (jw_l 0 [1, 0, 2, 3]))), (h7, .inl (Y 1, 6, .inl (jw_l 0 [0, 1]))), (h8, .inl (Y 1, 14425, .inl (jw_l 0 [0]))), (h9, .inl (Y 2, 14425, .inr (.inl (jw_L 0 [1])))), (h10, .inl (Y 1, 13824, .inl (jw_l 0 [0]))), (h11, .inl (Y 1, 16, .inl (jw_l 0 [1, 2, 0, 0, 2, 1, 0, 0, 0, 0, 0, 0, 0, 0, 0, 0]))), (h12, .inl (Y 1, 5, .inl (jw_l 0 [1, 3]))), (h13, .inl (Y 2, 13824, .inr (.inl (jw_L 0 [1]))))] := hD
  refine lv_if_ne (tgt := 117) hx hb dX12_nearest_111 (by decide) (fun c9 => absurd (by decide +kernel) c9) (fun _ => ?_)
  refine lv_goto (tgt := 204) hx hb dX12_nearest_114 (by decide) ?_
  refine lv_iinc (v := 13) (lv' := [(6, .int 13), (8, .int 2), (7, .int 3), (4, .long 0), (3, .int 4), (2, .int 2), (0, .ref h0), (1, .int 1)]) hx hb dX12_nearest_204 hl (k := 2) rfl (by decide +kernel) (by decide) rfl (fun ls hl => ?_)
  refine lv_goto (tgt := 54) hx hb dX12_nearest_207 (by decide) ?_
  refine lv_iload hx hb dX12_nearest_54 (lv_at hl 0 rfl) ?_
  refine lv_iconst (v := 1) hx hb dX12_nearest_56 (by decide +kernel) ?_
  refine lv_iconst (v := 2) hx hb dX12_nearest_57 (by decide +kernel) ?_
  refine lv_iload_n hx hb dX12_nearest_58 rfl (lv_at hl 5 rfl) ?_
  refine jw_imul (v := 4) hx hb dX12_nearest_59 (by decide +kernel) ?_
  refine jw_ishl (v := 16) hx hb dX12_nearest_60 (by decide +kernel) ?_
  refine lv_icmp_ge (tgt := 210) hx hb dX12_nearest_61 (by decide) (fun c9 => absurd c9 (by decide +kernel)) (fun _ => ?_)
  refine lv_iconst (v := 0) hx hb dX12_nearest_64 (by decide +kernel) ?_
  refine lv_istore (lv' := [(7, .int 0), (6, .int 13), (8, .int 2), (4, .long 0), (3, .int 4), (2, .int 2), (0, .ref h0), (1, .int 1)]) hx hb dX12_nearest_65 hl (by decide) rfl (fun ls hl => ?_)
  refine lv_iconst (v := 0) hx hb dX12_nearest_67 (by decide +kernel) ?_
  refine lv_istore (lv' := [(8, .int 0), (7, .int 0), (6, .int 13), (4, .long 0), (3, .int 4), (2, .int 2), (0, .ref h0), (1, .int 1)]) hx hb dX12_nearest_68 hl (by decide) rfl (fun ls hl => ?_)
  refine lv_iload hx hb dX12_nearest_70 (lv_at hl 0 rfl) ?_
  refine lv_iload_n hx hb dX12_nearest_72 rfl (lv_at hl 5 rfl) ?_
  refine lv_icmp_ge (tgt := 105) hx hb dX12_nearest_73 (by decide) (fun c9 => absurd c9 (by decide +kernel)) (fun _ => ?_)
  refine lv_iload hx hb dX12_nearest_76 (lv_at hl 1 rfl) ?_
  refine lv_iload hx hb dX12_nearest_78 (lv_at hl 2 rfl) ?_
  refine lv_iconst (v := 2) hx hb dX12_nearest_80 (by decide +kernel) ?_
  refine lv_iload_n hx hb dX12_nearest_81 rfl (lv_at hl 5 rfl) ?_
  refine lv_iconst (v := 1) hx hb dX12_nearest_82 (by decide +kernel) ?_
  refine jw_isub (v := 1) hx hb dX12_nearest_83 (by decide +kernel) ?_
  refine lv_iload hx hb dX12_nearest_84 (lv_at hl 0 rfl) ?_
  refine jw_isub (v := 1) hx hb dX12_nearest_86 (by decide +kernel) ?_
  refine jw_imul (v := 2) hx hb dX12_nearest_87 (by decide +kernel) ?_
  refine jw_ishr (v := 3) hx hb dX12_nearest_88 (by decide +kernel) ?_
  refine lv_iconst (v := 3) hx hb dX12_nearest_89 (by decide +kernel) ?_
  refine jw_iand (v := 3) hx hb dX12_nearest_90 (by decide +kernel) ?_
  refine lv_iconst (v := 2) hx hb dX12_nearest_91 (by decide +kernel) ?_
  refine lv_iload hx hb dX12_nearest_92 (lv_at hl 0 rfl) ?_
  refine jw_imul (v := 0) hx hb dX12_nearest_94 (by decide +kernel) ?_
  refine jw_ishl (v := 3) hx hb dX12_nearest_95 (by decide +kernel) ?_
  refine jw_ior (v := 3) hx hb dX12_nearest_96 (by decide +kernel) ?_
  refine lv_istore (lv' := [(7, .int 3), (8, .int 0), (6, .int 13), (4, .long 0), (3, .int 4), (2, .int 2), (0, .ref h0), (1, .int 1)]) hx hb dX12_nearest_97 hl (by decide) rfl (fun ls hl => ?_)
  refine lv_iinc (v := 1) (lv' := [(8, .int 1), (7, .int 3), (6, .int 13), (4, .long 0), (3, .int 4), (2, .int 2), (0, .ref h0), (1, .int 1)]) hx hb dX12_nearest_99 hl (k := 1) rfl (by decide +kernel) (by decide) rfl (fun ls hl => ?_)
  refine lv_goto (tgt := 70) hx hb dX12_nearest_102 (by decide) ?_
  refine lv_iload hx hb dX12_nearest_70 (lv_at hl 0 rfl) ?_
  refine lv_iload_n hx hb dX12_nearest_72 rfl (lv_at hl 5 rfl) ?_
  refine lv_icmp_ge (tgt := 105) hx hb dX12_nearest_73 (by decide) (fun c9 => absurd c9 (by decide +kernel)) (fun _ => ?_)
  refine lv_iload hx hb dX12_nearest_76 (lv_at hl 1 rfl) ?_
  refine lv_iload hx hb dX12_nearest_78 (lv_at hl 2 rfl) ?_
  refine lv_iconst (v := 2) hx hb dX12_nearest_80 (by decide +kernel) ?_
  refine lv_iload_n hx hb dX12_nearest_81 rfl (lv_at hl 5 rfl) ?_
  refine lv_iconst (v := 1) hx hb dX12_nearest_82 (by decide +kernel) ?_
  refine jw_isub (v := 1) hx hb dX12_nearest_83 (by decide +kernel) ?_
  refine lv_iload hx hb dX12_nearest_84 (lv_at hl 0 rfl) ?_
  refine jw_isub (v := 0) hx hb dX12_nearest_86 (by decide +kernel) ?_
  refine jw_imul (v := 0) hx hb dX12_nearest_87 (by decide +kernel) ?_
  refine jw_ishr (v := 13) hx hb dX12_nearest_88 (by decide +kernel) ?_
  refine lv_iconst (v := 3) hx hb dX12_nearest_89 (by decide +kernel) ?_
  refine jw_iand (v := 1) hx hb dX12_nearest_90 (by decide +kernel) ?_
  refine lv_iconst (v := 2) hx hb dX12_nearest_91 (by decide +kernel) ?_
  refine lv_iload hx hb dX12_nearest_92 (lv_at hl 0 rfl) ?_
  refine jw_imul (v := 2) hx hb dX12_nearest_94 (by decide +kernel) ?_
  refine jw_ishl (v := 4) hx hb dX12_nearest_95 (by decide +kernel) ?_
  refine jw_ior (v := 7) hx hb dX12_nearest_96 (by decide +kernel) ?_
  refine lv_istore (lv' := [(7, .int 7), (8, .int 1), (6, .int 13), (4, .long 0), (3, .int 4), (2, .int 2), (0, .ref h0), (1, .int 1)]) hx hb dX12_nearest_97 hl (by decide) rfl (fun ls hl => ?_)
  refine lv_iinc (v := 2) (lv' := [(8, .int 2), (7, .int 7), (6, .int 13), (4, .long 0), (3, .int 4), (2, .int 2), (0, .ref h0), (1, .int 1)]) hx hb dX12_nearest_99 hl (k := 1) rfl (by decide +kernel) (by decide) rfl (fun ls hl => ?_)
  refine lv_goto (tgt := 70) hx hb dX12_nearest_102 (by decide) ?_
  refine lv_iload hx hb dX12_nearest_70 (lv_at hl 0 rfl) ?_
  refine lv_iload_n hx hb dX12_nearest_72 rfl (lv_at hl 5 rfl) ?_
  refine lv_icmp_ge (tgt := 105) hx hb dX12_nearest_73 (by decide) (fun _ => ?_) (fun c9 => absurd (by decide +kernel) c9)
  refine lv_iload hx hb dX12_nearest_105 (lv_at hl 1 rfl) ?_
  refine lv_iload_n hx hb dX12_nearest_107 rfl (lv_at hl 5 rfl) ?_
  refine jw_mi (wc := []) (cs := 0) (ss := 0) (va_runS (As := [.int 7, .int 2]) (rest := []) ⟨hx, hb, hml, hown, hts⟩ (k392_X12_isOnce H.size) (va_cwS 2 hts gX12_nearest_X12_isOnce rfl rfl rfl ydS_X12_isOnce ⟨Nat.le_of_ble_eq_true rfl, Nat.le_of_ble_eq_true rfl⟩) (jw_mpreS hP hD hS hA hE [] rfl) rfl rfl hl.1 rfl (lv_room (Nat.le_of_ble_eq_true rfl)) dX12_nearest_108 ⟨Nat.le_of_ble_eq_true rfl, Nat.le_of_ble_eq_true rfl⟩) hP hD hS hA [] rfl rfl rfl (fun r9 w1 H locs hr9 hw9 hP hD hS => ?_)
  subst hr9
  subst hw9
  have hP : va_P D vwCl [(h0, .inr (15, [.ref h14, .int 0, .int 0, .ref h15, .int 0, .int (-1), .int 0, .int 0, .int 0, .int 0, .int 0, .int 2, .int 0, .int 0, .int 0, .ref h16, .ref h17, .ref h18, .ref h19, .int 2, .int 0, .int 0, .int 0, .int 0, .ref h20, .ref h21, .ref h22, .ref h23, .int 2, .ref h1, .int 1, .ref h2, .ref h24, .int 1, .ref h25, .ref h3, .ref h4, .int 0, .ref h26, .ref h27, .ref h5, .ref h6, .ref h7, .ref h8, .ref h9, .ref h10, .ref h11, .int 9, .ref h12, .ref h28, .ref h13, .int (-1), .ref h29, .long 0, .long 0, .int (-1), .int (-1), .long 0, .long 1, .ref h30, .ref h31, .ref h32, .ref h33, .ref h34, .ref h35, .long 0])), (h1, .inl (Y 1, 100, .inl (jw_l 0 [0, 1, 0, 0, 1, 0, 0, 0, 1, 1]))), (h2, .inl (Y 1, 13824, .inl (jw_l 0 [0]))), (h3, .inl (Y 1, 4, .inl (jw_l 0 [0, 1, 2, 3]))), (h4, .inl (Y 1, 4, .inl (jw_l 0 [0, 1, 2, 3]))), (h5, .inl (Y 1, 4, .inl (jw_l 0 [0, 1, 2, 3]))), (h6, .inl (Y 1, 4, .inl (jw_l 0 [1, 0, 2, 3]))), (h7, .inl (Y 1, 6, .inl (jw_l 0 [0, 1]))), (h8, .inl (Y 1, 14425, .inl (jw_l 0 [0]))), (h9, .inl (Y 2, 14425, .inr (.inl (jw_L 0 [1])))), (h10, .inl (Y 1, 13824, .inl (jw_l 0 [0]))), (h11, .inl (Y 1, 16, .inl (jw_l 0 [1, 2, 0, 0, 2, 1, 0, 0, 0, 0, 0, 0, 0, 0, 0, 0]))), (h12, .inl (Y 1, 5, .inl (jw_l 0 [1, 3]))), (h13, .inl (Y 2, 13824, .inr (.inl (jw_L 0 [1]))))] H := hP
  have hD : va_D A [(h0, .inr (15, [.ref h14, .int 0, .int 0, .ref h15, .int 0, .int (-1), .int 0, .int 0, .int 0, .int 0, .int 0, .int 2, .int 0, .int 0, .int 0, .ref h16, .ref h17, .ref h18, .ref h19, .int 2, .int 0, .int 0, .int 0, .int 0, .ref h20, .ref h21, .ref h22, .ref h23, .int 2, .ref h1, .int 1, .ref h2, .ref h24, .int 1, .ref h25, .ref h3, .ref h4, .int 0, .ref h26, .ref h27, .ref h5, .ref h6, .ref h7, .ref h8, .ref h9, .ref h10, .ref h11, .int 9, .ref h12, .ref h28, .ref h13, .int (-1), .ref h29, .long 0, .long 0, .int (-1), .int (-1), .long 0, .long 1, .ref h30, .ref h31, .ref h32, .ref h33, .ref h34, .ref h35, .long 0])), (h1, .inl (Y 1, 100, .inl (jw_l 0 [0, 1, 0, 0, 1, 0, 0, 0, 1, 1]))), (h2, .inl (Y 1, 13824, .inl (jw_l 0 [0]))), (h3, .inl (Y 1, 4, .inl (jw_l 0 [0, 1, 2, 3]))), (h4, .inl (Y 1, 4, .inl (jw_l 0 [0, 1, 2, 3]))), (h5, .inl (Y 1, 4, .inl (jw_l 0 [0, 1, 2, 3]))), (h6, .inl (Y 1, 4, .inl (jw_l 0 [1, 0, 2, 3]))), (h7, .inl (Y 1, 6, .inl (jw_l 0 [0, 1]))), (h8, .inl (Y 1, 14425, .inl (jw_l 0 [0]))), (h9, .inl (Y 2, 14425, .inr (.inl (jw_L 0 [1])))), (h10, .inl (Y 1, 13824, .inl (jw_l 0 [0]))), (h11, .inl (Y 1, 16, .inl (jw_l 0 [1, 2, 0, 0, 2, 1, 0, 0, 0, 0, 0, 0, 0, 0, 0, 0]))), (h12, .inl (Y 1, 5, .inl (jw_l 0 [1, 3]))), (h13, .inl (Y 2, 13824, .inr (.inl (jw_L 0 [1]))))] := hD
  refine lv_if_ne (tgt := 117) hx hb dX12_nearest_111 (by decide) (fun c9 => absurd (by decide +kernel) c9) (fun _ => ?_)
  refine lv_goto (tgt := 204) hx hb dX12_nearest_114 (by decide) ?_
  refine lv_iinc (v := 14) (lv' := [(6, .int 14), (8, .int 2), (7, .int 7), (4, .long 0), (3, .int 4), (2, .int 2), (0, .ref h0), (1, .int 1)]) hx hb dX12_nearest_204 hl (k := 2) rfl (by decide +kernel) (by decide) rfl (fun ls hl => ?_)
  refine lv_goto (tgt := 54) hx hb dX12_nearest_207 (by decide) ?_
  refine lv_iload hx hb dX12_nearest_54 (lv_at hl 0 rfl) ?_
  refine lv_iconst (v := 1) hx hb dX12_nearest_56 (by decide +kernel) ?_
  refine lv_iconst (v := 2) hx hb dX12_nearest_57 (by decide +kernel) ?_
  refine lv_iload_n hx hb dX12_nearest_58 rfl (lv_at hl 5 rfl) ?_
  refine jw_imul (v := 4) hx hb dX12_nearest_59 (by decide +kernel) ?_
  refine jw_ishl (v := 16) hx hb dX12_nearest_60 (by decide +kernel) ?_
  refine lv_icmp_ge (tgt := 210) hx hb dX12_nearest_61 (by decide) (fun c9 => absurd c9 (by decide +kernel)) (fun _ => ?_)
  refine lv_iconst (v := 0) hx hb dX12_nearest_64 (by decide +kernel) ?_
  refine lv_istore (lv' := [(7, .int 0), (6, .int 14), (8, .int 2), (4, .long 0), (3, .int 4), (2, .int 2), (0, .ref h0), (1, .int 1)]) hx hb dX12_nearest_65 hl (by decide) rfl (fun ls hl => ?_)
  refine lv_iconst (v := 0) hx hb dX12_nearest_67 (by decide +kernel) ?_
  refine lv_istore (lv' := [(8, .int 0), (7, .int 0), (6, .int 14), (4, .long 0), (3, .int 4), (2, .int 2), (0, .ref h0), (1, .int 1)]) hx hb dX12_nearest_68 hl (by decide) rfl (fun ls hl => ?_)
  refine lv_iload hx hb dX12_nearest_70 (lv_at hl 0 rfl) ?_
  refine lv_iload_n hx hb dX12_nearest_72 rfl (lv_at hl 5 rfl) ?_
  refine lv_icmp_ge (tgt := 105) hx hb dX12_nearest_73 (by decide) (fun c9 => absurd c9 (by decide +kernel)) (fun _ => ?_)
  refine lv_iload hx hb dX12_nearest_76 (lv_at hl 1 rfl) ?_
  refine lv_iload hx hb dX12_nearest_78 (lv_at hl 2 rfl) ?_
  refine lv_iconst (v := 2) hx hb dX12_nearest_80 (by decide +kernel) ?_
  refine lv_iload_n hx hb dX12_nearest_81 rfl (lv_at hl 5 rfl) ?_
  refine lv_iconst (v := 1) hx hb dX12_nearest_82 (by decide +kernel) ?_
  refine jw_isub (v := 1) hx hb dX12_nearest_83 (by decide +kernel) ?_
  refine lv_iload hx hb dX12_nearest_84 (lv_at hl 0 rfl) ?_
  refine jw_isub (v := 1) hx hb dX12_nearest_86 (by decide +kernel) ?_
  refine jw_imul (v := 2) hx hb dX12_nearest_87 (by decide +kernel) ?_
  refine jw_ishr (v := 3) hx hb dX12_nearest_88 (by decide +kernel) ?_
  refine lv_iconst (v := 3) hx hb dX12_nearest_89 (by decide +kernel) ?_
  refine jw_iand (v := 3) hx hb dX12_nearest_90 (by decide +kernel) ?_
  refine lv_iconst (v := 2) hx hb dX12_nearest_91 (by decide +kernel) ?_
  refine lv_iload hx hb dX12_nearest_92 (lv_at hl 0 rfl) ?_
  refine jw_imul (v := 0) hx hb dX12_nearest_94 (by decide +kernel) ?_
  refine jw_ishl (v := 3) hx hb dX12_nearest_95 (by decide +kernel) ?_
  refine jw_ior (v := 3) hx hb dX12_nearest_96 (by decide +kernel) ?_
  refine lv_istore (lv' := [(7, .int 3), (8, .int 0), (6, .int 14), (4, .long 0), (3, .int 4), (2, .int 2), (0, .ref h0), (1, .int 1)]) hx hb dX12_nearest_97 hl (by decide) rfl (fun ls hl => ?_)
  refine lv_iinc (v := 1) (lv' := [(8, .int 1), (7, .int 3), (6, .int 14), (4, .long 0), (3, .int 4), (2, .int 2), (0, .ref h0), (1, .int 1)]) hx hb dX12_nearest_99 hl (k := 1) rfl (by decide +kernel) (by decide) rfl (fun ls hl => ?_)
  refine lv_goto (tgt := 70) hx hb dX12_nearest_102 (by decide) ?_
  refine lv_iload hx hb dX12_nearest_70 (lv_at hl 0 rfl) ?_
  refine lv_iload_n hx hb dX12_nearest_72 rfl (lv_at hl 5 rfl) ?_
  refine lv_icmp_ge (tgt := 105) hx hb dX12_nearest_73 (by decide) (fun c9 => absurd c9 (by decide +kernel)) (fun _ => ?_)
  refine lv_iload hx hb dX12_nearest_76 (lv_at hl 1 rfl) ?_
  refine lv_iload hx hb dX12_nearest_78 (lv_at hl 2 rfl) ?_
  refine lv_iconst (v := 2) hx hb dX12_nearest_80 (by decide +kernel) ?_
  refine lv_iload_n hx hb dX12_nearest_81 rfl (lv_at hl 5 rfl) ?_
  refine lv_iconst (v := 1) hx hb dX12_nearest_82 (by decide +kernel) ?_
  refine jw_isub (v := 1) hx hb dX12_nearest_83 (by decide +kernel) ?_
  refine lv_iload hx hb dX12_nearest_84 (lv_at hl 0 rfl) ?_
  refine jw_isub (v := 0) hx hb dX12_nearest_86 (by decide +kernel) ?_
  refine jw_imul (v := 0) hx hb dX12_nearest_87 (by decide +kernel) ?_
  refine jw_ishr (v := 14) hx hb dX12_nearest_88 (by decide +kernel) ?_
  refine lv_iconst (v := 3) hx hb dX12_nearest_89 (by decide +kernel) ?_
  refine jw_iand (v := 2) hx hb dX12_nearest_90 (by decide +kernel) ?_
  refine lv_iconst (v := 2) hx hb dX12_nearest_91 (by decide +kernel) ?_
  refine lv_iload hx hb dX12_nearest_92 (lv_at hl 0 rfl) ?_
  refine jw_imul (v := 2) hx hb dX12_nearest_94 (by decide +kernel) ?_
  refine jw_ishl (v := 8) hx hb dX12_nearest_95 (by decide +kernel) ?_
  refine jw_ior (v := 11) hx hb dX12_nearest_96 (by decide +kernel) ?_
  refine lv_istore (lv' := [(7, .int 11), (8, .int 1), (6, .int 14), (4, .long 0), (3, .int 4), (2, .int 2), (0, .ref h0), (1, .int 1)]) hx hb dX12_nearest_97 hl (by decide) rfl (fun ls hl => ?_)
  refine lv_iinc (v := 2) (lv' := [(8, .int 2), (7, .int 11), (6, .int 14), (4, .long 0), (3, .int 4), (2, .int 2), (0, .ref h0), (1, .int 1)]) hx hb dX12_nearest_99 hl (k := 1) rfl (by decide +kernel) (by decide) rfl (fun ls hl => ?_)
  refine lv_goto (tgt := 70) hx hb dX12_nearest_102 (by decide) ?_
  refine lv_iload hx hb dX12_nearest_70 (lv_at hl 0 rfl) ?_
  refine lv_iload_n hx hb dX12_nearest_72 rfl (lv_at hl 5 rfl) ?_
  refine lv_icmp_ge (tgt := 105) hx hb dX12_nearest_73 (by decide) (fun _ => ?_) (fun c9 => absurd (by decide +kernel) c9)
  refine lv_iload hx hb dX12_nearest_105 (lv_at hl 1 rfl) ?_
  refine lv_iload_n hx hb dX12_nearest_107 rfl (lv_at hl 5 rfl) ?_
  refine jw_mi (wc := []) (cs := 0) (ss := 0) (va_runS (As := [.int 11, .int 2]) (rest := []) ⟨hx, hb, hml, hown, hts⟩ (k393_X12_isOnce H.size) (va_cwS 2 hts gX12_nearest_X12_isOnce rfl rfl rfl ydS_X12_isOnce ⟨Nat.le_of_ble_eq_true rfl, Nat.le_of_ble_eq_true rfl⟩) (jw_mpreS hP hD hS hA hE [] rfl) rfl rfl hl.1 rfl (lv_room (Nat.le_of_ble_eq_true rfl)) dX12_nearest_108 ⟨Nat.le_of_ble_eq_true rfl, Nat.le_of_ble_eq_true rfl⟩) hP hD hS hA [] rfl rfl rfl (fun r9 w1 H locs hr9 hw9 hP hD hS => ?_)
  subst hr9
  subst hw9
  have hP : va_P D vwCl [(h0, .inr (15, [.ref h14, .int 0, .int 0, .ref h15, .int 0, .int (-1), .int 0, .int 0, .int 0, .int 0, .int 0, .int 2, .int 0, .int 0, .int 0, .ref h16, .ref h17, .ref h18, .ref h19, .int 2, .int 0, .int 0, .int 0, .int 0, .ref h20, .ref h21, .ref h22, .ref h23, .int 2, .ref h1, .int 1, .ref h2, .ref h24, .int 1, .ref h25, .ref h3, .ref h4, .int 0, .ref h26, .ref h27, .ref h5, .ref h6, .ref h7, .ref h8, .ref h9, .ref h10, .ref h11, .int 9, .ref h12, .ref h28, .ref h13, .int (-1), .ref h29, .long 0, .long 0, .int (-1), .int (-1), .long 0, .long 1, .ref h30, .ref h31, .ref h32, .ref h33, .ref h34, .ref h35, .long 0])), (h1, .inl (Y 1, 100, .inl (jw_l 0 [0, 1, 0, 0, 1, 0, 0, 0, 1, 1]))), (h2, .inl (Y 1, 13824, .inl (jw_l 0 [0]))), (h3, .inl (Y 1, 4, .inl (jw_l 0 [0, 1, 2, 3]))), (h4, .inl (Y 1, 4, .inl (jw_l 0 [0, 1, 2, 3]))), (h5, .inl (Y 1, 4, .inl (jw_l 0 [0, 1, 2, 3]))), (h6, .inl (Y 1, 4, .inl (jw_l 0 [1, 0, 2, 3]))), (h7, .inl (Y 1, 6, .inl (jw_l 0 [0, 1]))), (h8, .inl (Y 1, 14425, .inl (jw_l 0 [0]))), (h9, .inl (Y 2, 14425, .inr (.inl (jw_L 0 [1])))), (h10, .inl (Y 1, 13824, .inl (jw_l 0 [0]))), (h11, .inl (Y 1, 16, .inl (jw_l 0 [1, 2, 0, 0, 2, 1, 0, 0, 0, 0, 0, 0, 0, 0, 0, 0]))), (h12, .inl (Y 1, 5, .inl (jw_l 0 [1, 3]))), (h13, .inl (Y 2, 13824, .inr (.inl (jw_L 0 [1]))))] H := hP
  have hD : va_D A [(h0, .inr (15, [.ref h14, .int 0, .int 0, .ref h15, .int 0, .int (-1), .int 0, .int 0, .int 0, .int 0, .int 0, .int 2, .int 0, .int 0, .int 0, .ref h16, .ref h17, .ref h18, .ref h19, .int 2, .int 0, .int 0, .int 0, .int 0, .ref h20, .ref h21, .ref h22, .ref h23, .int 2, .ref h1, .int 1, .ref h2, .ref h24, .int 1, .ref h25, .ref h3, .ref h4, .int 0, .ref h26, .ref h27, .ref h5, .ref h6, .ref h7, .ref h8, .ref h9, .ref h10, .ref h11, .int 9, .ref h12, .ref h28, .ref h13, .int (-1), .ref h29, .long 0, .long 0, .int (-1), .int (-1), .long 0, .long 1, .ref h30, .ref h31, .ref h32, .ref h33, .ref h34, .ref h35, .long 0])), (h1, .inl (Y 1, 100, .inl (jw_l 0 [0, 1, 0, 0, 1, 0, 0, 0, 1, 1]))), (h2, .inl (Y 1, 13824, .inl (jw_l 0 [0]))), (h3, .inl (Y 1, 4, .inl (jw_l 0 [0, 1, 2, 3]))), (h4, .inl (Y 1, 4, .inl (jw_l 0 [0, 1, 2, 3]))), (h5, .inl (Y 1, 4, .inl (jw_l 0 [0, 1, 2, 3]))), (h6, .inl (Y 1, 4, .inl (jw_l 0 [1, 0, 2, 3]))), (h7, .inl (Y 1, 6, .inl (jw_l 0 [0, 1]))), (h8, .inl (Y 1, 14425, .inl (jw_l 0 [0]))), (h9, .inl (Y 2, 14425, .inr (.inl (jw_L 0 [1])))), (h10, .inl (Y 1, 13824, .inl (jw_l 0 [0]))), (h11, .inl (Y 1, 16, .inl (jw_l 0 [1, 2, 0, 0, 2, 1, 0, 0, 0, 0, 0, 0, 0, 0, 0, 0]))), (h12, .inl (Y 1, 5, .inl (jw_l 0 [1, 3]))), (h13, .inl (Y 2, 13824, .inr (.inl (jw_L 0 [1]))))] := hD
  refine lv_if_ne (tgt := 117) hx hb dX12_nearest_111 (by decide) (fun c9 => absurd (by decide +kernel) c9) (fun _ => ?_)
  refine lv_goto (tgt := 204) hx hb dX12_nearest_114 (by decide) ?_
  refine lv_iinc (v := 15) (lv' := [(6, .int 15), (8, .int 2), (7, .int 11), (4, .long 0), (3, .int 4), (2, .int 2), (0, .ref h0), (1, .int 1)]) hx hb dX12_nearest_204 hl (k := 2) rfl (by decide +kernel) (by decide) rfl (fun ls hl => ?_)
  refine lv_goto (tgt := 54) hx hb dX12_nearest_207 (by decide) ?_
  refine lv_iload hx hb dX12_nearest_54 (lv_at hl 0 rfl) ?_
  refine lv_iconst (v := 1) hx hb dX12_nearest_56 (by decide +kernel) ?_
  refine lv_iconst (v := 2) hx hb dX12_nearest_57 (by decide +kernel) ?_
  refine lv_iload_n hx hb dX12_nearest_58 rfl (lv_at hl 5 rfl) ?_
  refine jw_imul (v := 4) hx hb dX12_nearest_59 (by decide +kernel) ?_
  refine jw_ishl (v := 16) hx hb dX12_nearest_60 (by decide +kernel) ?_
  refine lv_icmp_ge (tgt := 210) hx hb dX12_nearest_61 (by decide) (fun c9 => absurd c9 (by decide +kernel)) (fun _ => ?_)
  refine lv_iconst (v := 0) hx hb dX12_nearest_64 (by decide +kernel) ?_
  refine lv_istore (lv' := [(7, .int 0), (6, .int 15), (8, .int 2), (4, .long 0), (3, .int 4), (2, .int 2), (0, .ref h0), (1, .int 1)]) hx hb dX12_nearest_65 hl (by decide) rfl (fun ls hl => ?_)
  refine lv_iconst (v := 0) hx hb dX12_nearest_67 (by decide +kernel) ?_
  refine lv_istore (lv' := [(8, .int 0), (7, .int 0), (6, .int 15), (4, .long 0), (3, .int 4), (2, .int 2), (0, .ref h0), (1, .int 1)]) hx hb dX12_nearest_68 hl (by decide) rfl (fun ls hl => ?_)
  refine lv_iload hx hb dX12_nearest_70 (lv_at hl 0 rfl) ?_
  refine lv_iload_n hx hb dX12_nearest_72 rfl (lv_at hl 5 rfl) ?_
  refine lv_icmp_ge (tgt := 105) hx hb dX12_nearest_73 (by decide) (fun c9 => absurd c9 (by decide +kernel)) (fun _ => ?_)
  refine lv_iload hx hb dX12_nearest_76 (lv_at hl 1 rfl) ?_
  refine lv_iload hx hb dX12_nearest_78 (lv_at hl 2 rfl) ?_
  refine lv_iconst (v := 2) hx hb dX12_nearest_80 (by decide +kernel) ?_
  refine lv_iload_n hx hb dX12_nearest_81 rfl (lv_at hl 5 rfl) ?_
  refine lv_iconst (v := 1) hx hb dX12_nearest_82 (by decide +kernel) ?_
  refine jw_isub (v := 1) hx hb dX12_nearest_83 (by decide +kernel) ?_
  refine lv_iload hx hb dX12_nearest_84 (lv_at hl 0 rfl) ?_
  refine jw_isub (v := 1) hx hb dX12_nearest_86 (by decide +kernel) ?_
  refine jw_imul (v := 2) hx hb dX12_nearest_87 (by decide +kernel) ?_
  refine jw_ishr (v := 3) hx hb dX12_nearest_88 (by decide +kernel) ?_
  refine lv_iconst (v := 3) hx hb dX12_nearest_89 (by decide +kernel) ?_
  refine jw_iand (v := 3) hx hb dX12_nearest_90 (by decide +kernel) ?_
  refine lv_iconst (v := 2) hx hb dX12_nearest_91 (by decide +kernel) ?_
  refine lv_iload hx hb dX12_nearest_92 (lv_at hl 0 rfl) ?_
  refine jw_imul (v := 0) hx hb dX12_nearest_94 (by decide +kernel) ?_
  refine jw_ishl (v := 3) hx hb dX12_nearest_95 (by decide +kernel) ?_
  refine jw_ior (v := 3) hx hb dX12_nearest_96 (by decide +kernel) ?_
  refine lv_istore (lv' := [(7, .int 3), (8, .int 0), (6, .int 15), (4, .long 0), (3, .int 4), (2, .int 2), (0, .ref h0), (1, .int 1)]) hx hb dX12_nearest_97 hl (by decide) rfl (fun ls hl => ?_)
  refine lv_iinc (v := 1) (lv' := [(8, .int 1), (7, .int 3), (6, .int 15), (4, .long 0), (3, .int 4), (2, .int 2), (0, .ref h0), (1, .int 1)]) hx hb dX12_nearest_99 hl (k := 1) rfl (by decide +kernel) (by decide) rfl (fun ls hl => ?_)
  refine lv_goto (tgt := 70) hx hb dX12_nearest_102 (by decide) ?_
  refine lv_iload hx hb dX12_nearest_70 (lv_at hl 0 rfl) ?_
  refine lv_iload_n hx hb dX12_nearest_72 rfl (lv_at hl 5 rfl) ?_
  refine lv_icmp_ge (tgt := 105) hx hb dX12_nearest_73 (by decide) (fun c9 => absurd c9 (by decide +kernel)) (fun _ => ?_)
  refine lv_iload hx hb dX12_nearest_76 (lv_at hl 1 rfl) ?_
  refine lv_iload hx hb dX12_nearest_78 (lv_at hl 2 rfl) ?_
  refine lv_iconst (v := 2) hx hb dX12_nearest_80 (by decide +kernel) ?_
  refine lv_iload_n hx hb dX12_nearest_81 rfl (lv_at hl 5 rfl) ?_
  refine lv_iconst (v := 1) hx hb dX12_nearest_82 (by decide +kernel) ?_
  refine jw_isub (v := 1) hx hb dX12_nearest_83 (by decide +kernel) ?_
  refine lv_iload hx hb dX12_nearest_84 (lv_at hl 0 rfl) ?_
  refine jw_isub (v := 0) hx hb dX12_nearest_86 (by decide +kernel) ?_
  refine jw_imul (v := 0) hx hb dX12_nearest_87 (by decide +kernel) ?_
  refine jw_ishr (v := 15) hx hb dX12_nearest_88 (by decide +kernel) ?_
  refine lv_iconst (v := 3) hx hb dX12_nearest_89 (by decide +kernel) ?_
  refine jw_iand (v := 3) hx hb dX12_nearest_90 (by decide +kernel) ?_
  refine lv_iconst (v := 2) hx hb dX12_nearest_91 (by decide +kernel) ?_
  refine lv_iload hx hb dX12_nearest_92 (lv_at hl 0 rfl) ?_
  refine jw_imul (v := 2) hx hb dX12_nearest_94 (by decide +kernel) ?_
  refine jw_ishl (v := 12) hx hb dX12_nearest_95 (by decide +kernel) ?_
  refine jw_ior (v := 15) hx hb dX12_nearest_96 (by decide +kernel) ?_
  refine lv_istore (lv' := [(7, .int 15), (8, .int 1), (6, .int 15), (4, .long 0), (3, .int 4), (2, .int 2), (0, .ref h0), (1, .int 1)]) hx hb dX12_nearest_97 hl (by decide) rfl (fun ls hl => ?_)
  refine lv_iinc (v := 2) (lv' := [(8, .int 2), (7, .int 15), (6, .int 15), (4, .long 0), (3, .int 4), (2, .int 2), (0, .ref h0), (1, .int 1)]) hx hb dX12_nearest_99 hl (k := 1) rfl (by decide +kernel) (by decide) rfl (fun ls hl => ?_)
  refine lv_goto (tgt := 70) hx hb dX12_nearest_102 (by decide) ?_
  refine lv_iload hx hb dX12_nearest_70 (lv_at hl 0 rfl) ?_
  refine lv_iload_n hx hb dX12_nearest_72 rfl (lv_at hl 5 rfl) ?_
  refine lv_icmp_ge (tgt := 105) hx hb dX12_nearest_73 (by decide) (fun _ => ?_) (fun c9 => absurd (by decide +kernel) c9)
  refine lv_iload hx hb dX12_nearest_105 (lv_at hl 1 rfl) ?_
  refine lv_iload_n hx hb dX12_nearest_107 rfl (lv_at hl 5 rfl) ?_
  refine jw_mi (wc := []) (cs := 0) (ss := 0) (va_runS (As := [.int 15, .int 2]) (rest := []) ⟨hx, hb, hml, hown, hts⟩ (k394_X12_isOnce H.size) (va_cwS 2 hts gX12_nearest_X12_isOnce rfl rfl rfl ydS_X12_isOnce ⟨Nat.le_of_ble_eq_true rfl, Nat.le_of_ble_eq_true rfl⟩) (jw_mpreS hP hD hS hA hE [] rfl) rfl rfl hl.1 rfl (lv_room (Nat.le_of_ble_eq_true rfl)) dX12_nearest_108 ⟨Nat.le_of_ble_eq_true rfl, Nat.le_of_ble_eq_true rfl⟩) hP hD hS hA [] rfl rfl rfl (fun r9 w1 H locs hr9 hw9 hP hD hS => ?_)
  subst hr9
  subst hw9
  have hP : va_P D vwCl [(h0, .inr (15, [.ref h14, .int 0, .int 0, .ref h15, .int 0, .int (-1), .int 0, .int 0, .int 0, .int 0, .int 0, .int 2, .int 0, .int 0, .int 0, .ref h16, .ref h17, .ref h18, .ref h19, .int 2, .int 0, .int 0, .int 0, .int 0, .ref h20, .ref h21, .ref h22, .ref h23, .int 2, .ref h1, .int 1, .ref h2, .ref h24, .int 1, .ref h25, .ref h3, .ref h4, .int 0, .ref h26, .ref h27, .ref h5, .ref h6, .ref h7, .ref h8, .ref h9, .ref h10, .ref h11, .int 9, .ref h12, .ref h28, .ref h13, .int (-1), .ref h29, .long 0, .long 0, .int (-1), .int (-1), .long 0, .long 1, .ref h30, .ref h31, .ref h32, .ref h33, .ref h34, .ref h35, .long 0])), (h1, .inl (Y 1, 100, .inl (jw_l 0 [0, 1, 0, 0, 1, 0, 0, 0, 1, 1]))), (h2, .inl (Y 1, 13824, .inl (jw_l 0 [0]))), (h3, .inl (Y 1, 4, .inl (jw_l 0 [0, 1, 2, 3]))), (h4, .inl (Y 1, 4, .inl (jw_l 0 [0, 1, 2, 3]))), (h5, .inl (Y 1, 4, .inl (jw_l 0 [0, 1, 2, 3]))), (h6, .inl (Y 1, 4, .inl (jw_l 0 [1, 0, 2, 3]))), (h7, .inl (Y 1, 6, .inl (jw_l 0 [0, 1]))), (h8, .inl (Y 1, 14425, .inl (jw_l 0 [0]))), (h9, .inl (Y 2, 14425, .inr (.inl (jw_L 0 [1])))), (h10, .inl (Y 1, 13824, .inl (jw_l 0 [0]))), (h11, .inl (Y 1, 16, .inl (jw_l 0 [1, 2, 0, 0, 2, 1, 0, 0, 0, 0, 0, 0, 0, 0, 0, 0]))), (h12, .inl (Y 1, 5, .inl (jw_l 0 [1, 3]))), (h13, .inl (Y 2, 13824, .inr (.inl (jw_L 0 [1]))))] H := hP
  have hD : va_D A [(h0, .inr (15, [.ref h14, .int 0, .int 0, .ref h15, .int 0, .int (-1), .int 0, .int 0, .int 0, .int 0, .int 0, .int 2, .int 0, .int 0, .int 0, .ref h16, .ref h17, .ref h18, .ref h19, .int 2, .int 0, .int 0, .int 0, .int 0, .ref h20, .ref h21, .ref h22, .ref h23, .int 2, .ref h1, .int 1, .ref h2, .ref h24, .int 1, .ref h25, .ref h3, .ref h4, .int 0, .ref h26, .ref h27, .ref h5, .ref h6, .ref h7, .ref h8, .ref h9, .ref h10, .ref h11, .int 9, .ref h12, .ref h28, .ref h13, .int (-1), .ref h29, .long 0, .long 0, .int (-1), .int (-1), .long 0, .long 1, .ref h30, .ref h31, .ref h32, .ref h33, .ref h34, .ref h35, .long 0])), (h1, .inl (Y 1, 100, .inl (jw_l 0 [0, 1, 0, 0, 1, 0, 0, 0, 1, 1]))), (h2, .inl (Y 1, 13824, .inl (jw_l 0 [0]))), (h3, .inl (Y 1, 4, .inl (jw_l 0 [0, 1, 2, 3]))), (h4, .inl (Y 1, 4, .inl (jw_l 0 [0, 1, 2, 3]))), (h5, .inl (Y 1, 4, .inl (jw_l 0 [0, 1, 2, 3]))), (h6, .inl (Y 1, 4, .inl (jw_l 0 [1, 0, 2, 3]))), (h7, .inl (Y 1, 6, .inl (jw_l 0 [0, 1]))), (h8, .inl (Y 1, 14425, .inl (jw_l 0 [0]))), (h9, .inl (Y 2, 14425, .inr (.inl (jw_L 0 [1])))), (h10, .inl (Y 1, 13824, .inl (jw_l 0 [0]))), (h11, .inl (Y 1, 16, .inl (jw_l 0 [1, 2, 0, 0, 2, 1, 0, 0, 0, 0, 0, 0, 0, 0, 0, 0]))), (h12, .inl (Y 1, 5, .inl (jw_l 0 [1, 3]))), (h13, .inl (Y 2, 13824, .inr (.inl (jw_L 0 [1]))))] := hD
  refine lv_if_ne (tgt := 117) hx hb dX12_nearest_111 (by decide) (fun c9 => absurd (by decide +kernel) c9) (fun _ => ?_)
  refine lv_goto (tgt := 204) hx hb dX12_nearest_114 (by decide) ?_
  refine lv_iinc (v := 16) (lv' := [(6, .int 16), (8, .int 2), (7, .int 15), (4, .long 0), (3, .int 4), (2, .int 2), (0, .ref h0), (1, .int 1)]) hx hb dX12_nearest_204 hl (k := 2) rfl (by decide +kernel) (by decide) rfl (fun ls hl => ?_)
  refine lv_goto (tgt := 54) hx hb dX12_nearest_207 (by decide) ?_
  refine lv_iload hx hb dX12_nearest_54 (lv_at hl 0 rfl) ?_
  refine lv_iconst (v := 1) hx hb dX12_nearest_56 (by decide +kernel) ?_
  refine lv_iconst (v := 2) hx hb dX12_nearest_57 (by decide +kernel) ?_
  refine lv_iload_n hx hb dX12_nearest_58 rfl (lv_at hl 5 rfl) ?_
  refine jw_imul (v := 4) hx hb dX12_nearest_59 (by decide +kernel) ?_
  refine jw_ishl (v := 16) hx hb dX12_nearest_60 (by decide +kernel) ?_
  refine lv_icmp_ge (tgt := 210) hx hb dX12_nearest_61 (by decide) (fun _ => ?_) (fun c9 => absurd (by decide +kernel) c9)
  refine lv_iload_n hx hb dX12_nearest_210 rfl (lv_at hl 4 rfl) ?_
  refine W.widen (k := 0) (n := 0) (Nat.le_of_ble_eq_true rfl) (Nat.le_of_ble_eq_true rfl) ?_
  have hP : va_P D vwCl [] H := hP.sub [] rfl
  have hD : va_D A [] := hD.sub [] rfl rfl
  exact jw_iret hx hb hr hlocks rfl rfl hP hD hS dX12_nearest_211
set_option maxHeartbeats 4000000 in
set_option maxRecDepth 100000 in
theorem k396_X11_nearest {l : Launch} {D : va_G} {Y : Nat → ClassId} {tt : Nat → Nat} (h0 h1 h2 h3 h4 h5 h6 h7 h8 h9 h10 h11 h12 h13 h14 h15 h16 h17 h18 h19 h20 h21 h22 h23 h24 h25 h26 h27 h28 h29 h30 h31 h32 h33 h34 h35 h36 h37 h38 h39 h40 h41 h42 h43 h44 h45 h46 h47 h48 h49 h50 h51 : Nat) (p1 : Int32) (g_p1 : p1.toInt ≤ -1 ∨ 2 ≤ p1.toInt) (sz : Nat) : Met l yX11_nearest wsX11_nearest ({ frames := 4, cells := 0, slots := 0, locals := 114 }) (jw_Pc D Y tt [.ref h0, .int p1] [(h0, .inr (14, [.ref h18, .int 0, .ref h1, .ref h19, .ref h2, .ref h3, .ref h4, .ref h7, .ref h20, .ref h21, .ref h10, .ref h14, .ref h22, .ref h23, .ref h24, .ref h25, .int (-3), .int (-3)])), (h1, .inr (6, [.int 2, .int 0, .int 0, .int 0, .int 0, .ref h26, .ref h27, .ref h28, .ref h29, .ref h30, .int 0])), (h2, .inr (7, [.int 2, .int 2, .int 3, .int 1, .ref h31, .ref h32, .ref h33, .ref h34, .ref h35])), (h3, .inr (5, [.ref h1, .ref h2, .int 1, .int 1, .ref h36, .ref h37, .ref h38, .ref h39, .ref h40, .ref h41])), (h4, .inr (11, [.ref h1, .ref h2, .ref h5, .ref h6, .ref h42, .ref h43, .int 0, .ref h44])), (h5, .inl (Y 1, 4, .inl (jw_l 0 [0, 1, 2, 3]))), (h6, .inl (Y 1, 4, .inl (jw_l 0 [0, 1, 2, 3]))), (h7, .inr (13, [.ref h3, .ref h45, .ref h8, .ref h9, .int 0])), (h8, .inl (Y 1, 5, .inl (jw_l 0 []))), (h9, .inl (Y 1, 4, .inl (jw_l 0 []))), (h10, .inr (9, [.ref h1, .ref h2, .ref h4, .ref h11, .ref h46, .ref h47, .int 0, .int 0, .int 0, .int 0])), (h11, .inr (10, [.ref h2, .int 0, .ref h12, .ref h48, .ref h13, .ref h49])), (h12, .inl (Y 1, 4, .inl (jw_l 0 []))), (h13, .inl (Y 1, 64, .inl (jw_l 0 []))), (h14, .inl (Y 4, 3, .inr (.inr (.inr (.inr (jw_R [some h50, some h15, some h51])))))), (h15, .inr (4, [.ref h16, .ref h17, .long 0, .int 0])), (h16, .inl (Y 2, 144, .inr (.inl (jw_L 0 [])))), (h17, .inl (Y 2, 48, .inr (.inl (jw_L 0 []))))] sz) (jw_Qi D (fun r => r = (-1)) (fun w => w = []) (va_A [(h0, .inr (14, [.ref h18, .int 0, .ref h1, .ref h19, .ref h2, .ref h3, .ref h4, .ref h7, .ref h20, .ref h21, .ref h10, .ref h14, .ref h22, .ref h23, .ref h24, .ref h25, .int (-3), .int (-3)])), (h1, .inr (6, [.int 2, .int 0, .int 0, .int 0, .int 0, .ref h26, .ref h27, .ref h28, .ref h29, .ref h30, .int 0])), (h2, .inr (7, [.int 2, .int 2, .int 3, .int 1, .ref h31, .ref h32, .ref h33, .ref h34, .ref h35])), (h3, .inr (5, [.ref h1, .ref h2, .int 1, .int 1, .ref h36, .ref h37, .ref h38, .ref h39, .ref h40, .ref h41])), (h4, .inr (11, [.ref h1, .ref h2, .ref h5, .ref h6, .ref h42, .ref h43, .int 0, .ref h44])), (h5, .inl (Y 1, 4, .inl (jw_l 0 [0, 1, 2, 3]))), (h6, .inl (Y 1, 4, .inl (jw_l 0 [0, 1, 2, 3]))), (h7, .inr (13, [.ref h3, .ref h45, .ref h8, .ref h9, .int 0])), (h8, .inl (Y 1, 5, .inl (jw_l 0 []))), (h9, .inl (Y 1, 4, .inl (jw_l 0 []))), (h10, .inr (9, [.ref h1, .ref h2, .ref h4, .ref h11, .ref h46, .ref h47, .int 0, .int 0, .int 0, .int 0])), (h11, .inr (10, [.ref h2, .int 0, .ref h12, .ref h48, .ref h13, .ref h49])), (h12, .inl (Y 1, 4, .inl (jw_l 0 []))), (h13, .inl (Y 1, 64, .inl (jw_l 0 []))), (h14, .inl (Y 4, 3, .inr (.inr (.inr (.inr (jw_R [some h50, some h15, some h51])))))), (h15, .inr (4, [.ref h16, .ref h17, .long 0, .int 0])), (h16, .inl (Y 2, 144, .inr (.inl (jw_L 0 [])))), (h17, .inl (Y 2, 48, .inr (.inl (jw_L 0 []))))] sz)) 0 0 (va_A [(h0, .inr (14, [.ref h18, .int 0, .ref h1, .ref h19, .ref h2, .ref h3, .ref h4, .ref h7, .ref h20, .ref h21, .ref h10, .ref h14, .ref h22, .ref h23, .ref h24, .ref h25, .int (-3), .int (-3)])), (h1, .inr (6, [.int 2, .int 0, .int 0, .int 0, .int 0, .ref h26, .ref h27, .ref h28, .ref h29, .ref h30, .int 0])), (h2, .inr (7, [.int 2, .int 2, .int 3, .int 1, .ref h31, .ref h32, .ref h33, .ref h34, .ref h35])), (h3, .inr (5, [.ref h1, .ref h2, .int 1, .int 1, .ref h36, .ref h37, .ref h38, .ref h39, .ref h40, .ref h41])), (h4, .inr (11, [.ref h1, .ref h2, .ref h5, .ref h6, .ref h42, .ref h43, .int 0, .ref h44])), (h5, .inl (Y 1, 4, .inl (jw_l 0 [0, 1, 2, 3]))), (h6, .inl (Y 1, 4, .inl (jw_l 0 [0, 1, 2, 3]))), (h7, .inr (13, [.ref h3, .ref h45, .ref h8, .ref h9, .int 0])), (h8, .inl (Y 1, 5, .inl (jw_l 0 []))), (h9, .inl (Y 1, 4, .inl (jw_l 0 []))), (h10, .inr (9, [.ref h1, .ref h2, .ref h4, .ref h11, .ref h46, .ref h47, .int 0, .int 0, .int 0, .int 0])), (h11, .inr (10, [.ref h2, .int 0, .ref h12, .ref h48, .ref h13, .ref h49])), (h12, .inl (Y 1, 4, .inl (jw_l 0 []))), (h13, .inl (Y 1, 64, .inl (jw_l 0 []))), (h14, .inl (Y 4, 3, .inr (.inr (.inr (.inr (jw_R [some h50, some h15, some h51])))))), (h15, .inr (4, [.ref h16, .ref h17, .long 0, .int 0])), (h16, .inl (Y 2, 144, .inr (.inl (jw_L 0 [])))), (h17, .inl (Y 2, 48, .inr (.inl (jw_L 0 []))))] sz) := by
  refine jw_met (fun A => jw_Qi D (fun r => r = (-1)) (fun w => w = []) A) (cc := cX11_nearest) (maxL := 3) (ret := (some .int)) pn_X11_nearest rfl rfl ?_
  intro p e s m below meth c A H locs ls hx hb hml hr hts hown hlocks hin hP hD hA hS hE hl
  have hown : s.vm.findClass RX11 = some m.cls := hown
  have hl : lv_has ls 3 [(0, .ref h0), (1, .int p1)] := hl
  refine lv_aload_n hx hb dX11_nearest_0 rfl (lv_at hl 0 rfl) ?_
  refine va_get (D := D) (ci := 14) (v := .ref h3) (C := RX11) (T := TX11) (N := 18) hx hb hts iw_X11_nearest__X11 hown hE.1 hP 0 rfl rfl 5 (by decide) (hts _ mw_X11_nearest__1) (fun _ h9 => h9) rfl dX11_nearest_1 ?_
  refine va_getN (D := D) (ci := 5) (v := .int 1) (C := RX2) (T := TX2) (N := 10) hx hb hts iw_X11_nearest__X2 hown hE.1 hP 3 rfl rfl 3 (by decide) (nf_X11_169 hE) (fun _ h9 => h9) rfl dX11_nearest_4 ?_
  refine lv_if_ne (tgt := 13) hx hb dX11_nearest_7 (by decide) (fun _ => ?_) (fun c9 => absurd c9 (by decide +kernel))
  refine lv_aload_n hx hb dX11_nearest_13 rfl (lv_at hl 0 rfl) ?_
  refine lv_iconst (v := 1) hx hb dX11_nearest_14 (by decide +kernel) ?_
  refine jw_mr (wc := [(h0, .inr (14, [.ref h18, .int 0, .ref h1, .ref h19, .ref h2, .ref h3, .ref h4, .ref h7, .ref h20, .ref h21, .ref h10, .ref h14, .ref h22, .ref h23, .ref h24, .ref h25, .int (-3), .int (-3)])), (h1, .inr (6, [.int 2, .int 0, .int 0, .int 0, .int 0, .ref h26, .ref h27, .ref h28, .ref h29, .ref h30, .int 0])), (h2, .inr (7, [.int 2, .int 2, .int 3, .int 1, .ref h31, .ref h32, .ref h33, .ref h34, .ref h35])), (h3, .inr (5, [.ref h1, .ref h2, .int 1, .int 1, .ref h36, .ref h37, .ref h38, .ref h39, .ref h40, .ref h41])), (h4, .inr (11, [.ref h1, .ref h2, .ref h5, .ref h6, .ref h42, .ref h43, .int 0, .ref h44])), (h5, .inl (Y 1, 4, .inl (jw_l 0 [0, 1, 2, 3]))), (h6, .inl (Y 1, 4, .inl (jw_l 0 [0, 1, 2, 3]))), (h7, .inr (13, [.ref h3, .ref h45, .ref h8, .ref h9, .int 0])), (h8, .inl (Y 1, 5, .inl (jw_l 0 []))), (h9, .inl (Y 1, 4, .inl (jw_l 0 []))), (h10, .inr (9, [.ref h1, .ref h2, .ref h4, .ref h11, .ref h46, .ref h47, .int 0, .int 0, .int 0, .int 0])), (h11, .inr (10, [.ref h2, .int 0, .ref h12, .ref h48, .ref h13, .ref h49])), (h12, .inl (Y 1, 4, .inl (jw_l 0 []))), (h13, .inl (Y 1, 64, .inl (jw_l 0 []))), (h14, .inl (Y 4, 3, .inr (.inr (.inr (.inr (jw_R [some h50, some h15, some h51])))))), (h15, .inr (4, [.ref h16, .ref h17, .long 0, .int 0])), (h16, .inl (Y 2, 144, .inr (.inl (jw_L 0 [])))), (h17, .inl (Y 2, 48, .inr (.inl (jw_L 0 []))))]) (cs := 0) (ss := 0) (va_runV (As := [.int 1]) (rest := []) ⟨hx, hb, hml, hown, hts⟩ (k184_X11_chancesAtStart h0 h1 h2 h3 h4 h5 h6 h7 h8 h9 h10 h11 h12 h13 h14 h15 h16 h17 h18 h19 h20 h21 h22 h23 h24 h25 h26 h27 h28 h29 h30 h31 h32 h33 h34 h35 h36 h37 h38 h39 h40 h41 h42 h43 h44 h45 h46 h47 h48 h49 h50 h51 H.size) (cwV 1 hts gX11_nearest_X11_chancesAtStart rfl rfl rfl ydV_X11_chancesAtStart ⟨Nat.le_of_ble_eq_true rfl, Nat.le_of_ble_eq_true rfl⟩) (jw_mpreV (ci := 14) (q0 := 0) hP hD hS hA hE [true, true, true, true, true, true, true, true, true, true, true, true, true, true, true, true, true, true] rfl rfl rfl) rfl rfl hl.1 rfl (lv_room (Nat.le_of_ble_eq_true rfl)) dX11_nearest_15 ⟨Nat.le_of_ble_eq_true rfl, Nat.le_of_ble_eq_true rfl⟩) hP hD hS hA [true, true, true, true, true, true, true, true, true, true, true, true, true, true, true, true, true, true] rfl rfl rfl (fun r9 w1 H locs hr9 hw9 hP hD hS => ?_)
  rw [hr9]
  subst hw9
  have hP : va_P D vwCl [(h0, .inr (14, [.ref h18, .int 0, .ref h1, .ref h19, .ref h2, .ref h3, .ref h4, .ref h7, .ref h20, .ref h21, .ref h10, .ref h14, .ref h22, .ref h23, .ref h24, .ref h25, .int (-3), .int (-3)])), (h1, .inr (6, [.int 2, .int 0, .int 0, .int 0, .int 0, .ref h26, .ref h27, .ref h28, .ref h29, .ref h30, .int 0])), (h2, .inr (7, [.int 2, .int 2, .int 3, .int 1, .ref h31, .ref h32, .ref h33, .ref h34, .ref h35])), (h3, .inr (5, [.ref h1, .ref h2, .int 1, .int 1, .ref h36, .ref h37, .ref h38, .ref h39, .ref h40, .ref h41])), (h4, .inr (11, [.ref h1, .ref h2, .ref h5, .ref h6, .ref h42, .ref h43, .int 0, .ref h44])), (h5, .inl (Y 1, 4, .inl (jw_l 0 [0, 1, 2, 3]))), (h6, .inl (Y 1, 4, .inl (jw_l 0 [0, 1, 2, 3]))), (h7, .inr (13, [.ref h3, .ref h45, .ref h8, .ref h9, .int 1])), (h8, .inl (Y 1, 5, .inl (jw_l 0 [0]))), (h9, .inl (Y 1, 4, .inl (jw_l 0 [0, 1, 2, 3]))), (h10, .inr (9, [.ref h1, .ref h2, .ref h4, .ref h11, .ref h46, .ref h47, .int 0, .int 0, .int 3, .int 3])), (h11, .inr (10, [.ref h2, .int 1, .ref h12, .ref h48, .ref h13, .ref h49])), (h12, .inl (Y 1, 4, .inl (jw_l 0 [0, 1, 2, 3]))), (h13, .inl (Y 1, 64, .inl (jw_l 0 []))), (h14, .inl (Y 4, 3, .inr (.inr (.inr (.inr (jw_R [some h50, some h15, some h51])))))), (h15, .inr (4, [.ref h16, .ref h17, .long 1, .int 1])), (h16, .inl (Y 2, 144, .inr (.inl (jw_L 0 [])))), (h17, .inl (Y 2, 48, .inr (.inl (jw_L 0 []))))] H := hP
  have hD : va_D A [(h0, .inr (14, [.ref h18, .int 0, .ref h1, .ref h19, .ref h2, .ref h3, .ref h4, .ref h7, .ref h20, .ref h21, .ref h10, .ref h14, .ref h22, .ref h23, .ref h24, .ref h25, .int (-3), .int (-3)])), (h1, .inr (6, [.int 2, .int 0, .int 0, .int 0, .int 0, .ref h26, .ref h27, .ref h28, .ref h29, .ref h30, .int 0])), (h2, .inr (7, [.int 2, .int 2, .int 3, .int 1, .ref h31, .ref h32, .ref h33, .ref h34, .ref h35])), (h3, .inr (5, [.ref h1, .ref h2, .int 1, .int 1, .ref h36, .ref h37, .ref h38, .ref h39, .ref h40, .ref h41])), (h4, .inr (11, [.ref h1, .ref h2, .ref h5, .ref h6, .ref h42, .ref h43, .int 0, .ref h44])), (h5, .inl (Y 1, 4, .inl (jw_l 0 [0, 1, 2, 3]))), (h6, .inl (Y 1, 4, .inl (jw_l 0 [0, 1, 2, 3]))), (h7, .inr (13, [.ref h3, .ref h45, .ref h8, .ref h9, .int 1])), (h8, .inl (Y 1, 5, .inl (jw_l 0 [0]))), (h9, .inl (Y 1, 4, .inl (jw_l 0 [0, 1, 2, 3]))), (h10, .inr (9, [.ref h1, .ref h2, .ref h4, .ref h11, .ref h46, .ref h47, .int 0, .int 0, .int 3, .int 3])), (h11, .inr (10, [.ref h2, .int 1, .ref h12, .ref h48, .ref h13, .ref h49])), (h12, .inl (Y 1, 4, .inl (jw_l 0 [0, 1, 2, 3]))), (h13, .inl (Y 1, 64, .inl (jw_l 0 []))), (h14, .inl (Y 4, 3, .inr (.inr (.inr (.inr (jw_R [some h50, some h15, some h51])))))), (h15, .inr (4, [.ref h16, .ref h17, .long 1, .int 1])), (h16, .inl (Y 2, 144, .inr (.inl (jw_L 0 [])))), (h17, .inl (Y 2, 48, .inr (.inl (jw_L 0 []))))] := hD
  refine lv_astore_n (lv' := [(2, .ref h15), (0, .ref h0), (1, .int p1)]) hx hb dX11_nearest_18 rfl hl (by decide) rfl (fun ls hl => ?_)
  refine lv_iload_n hx hb dX11_nearest_19 rfl (lv_at hl 2 rfl) ?_
  refine lv_if_ne (tgt := 61) hx hb dX11_nearest_20 (by decide) (fun c_1 => ?_) (fun c_1 => False.elim (by have := g_p1; have : (0 : Int32).toInt = 0 := (by decide +kernel); have := (jw_feq c_1); omega))
  refine lv_iload_n hx hb dX11_nearest_61 rfl (lv_at hl 2 rfl) ?_
  refine lv_iconst (v := 1) hx hb dX11_nearest_62 (by decide +kernel) ?_
  refine lv_icmp_ne (tgt := 104) hx hb dX11_nearest_63 (by decide) (fun c_2 => ?_) (fun c_2 => False.elim (by have := g_p1; have := (jw_fne c_1); have : (0 : Int32).toInt = 0 := (by decide +kernel); have : (1 : Int32).toInt = 1 := (by decide +kernel); have := (jw_feq c_2); omega))
  refine lv_iconst (v := (-1)) hx hb dX11_nearest_104 (by decide +kernel) ?_
  refine W.widen (k := 0) (n := 0) (Nat.le_of_ble_eq_true rfl) (Nat.le_of_ble_eq_true rfl) ?_
  have hP : va_P D vwCl [] H := hP.sub [] rfl
  have hD : va_D A [] := hD.sub [] rfl rfl
  exact jw_iret hx hb hr hlocks rfl rfl hP hD hS dX11_nearest_105
set_option maxHeartbeats 4000000 in
set_option maxRecDepth 100000 in
theorem k397_X12_nearest {l : Launch} {D : va_G} {Y : Nat → ClassId} {tt : Nat → Nat} (h0 h1 h2 h3 h4 h5 h6 h7 h8 h9 h10 h11 h12 h13 h14 h15 h16 h17 h18 h19 h20 h21 h22 h23 h24 h25 h26 h27 h28 h29 h30 h31 h32 h33 h34 h35 : Nat) (p1 : Int32) (g_p1 : p1.toInt ≤ -1 ∨ 2 ≤ p1.toInt) (sz : Nat) : Met l yX12_nearest wsX12_nearest ({ frames := 1, cells := 0, slots := 0, locals := 22 }) (jw_Pc D Y tt [.ref h0, .int p1] [(h0, .inr (15, [.ref h1, .int 0, .int 0, .ref h2, .int 0, .int (-1), .int 0, .int 0, .int 0, .int 0, .int 0, .int 2, .int 0, .int 0, .int 0, .ref h3, .ref h4, .ref h5, .ref h6, .int 2, .int 0, .int 0, .int 0, .int 0, .ref h7, .ref h8, .ref h9, .ref h10, .int 2, .ref h11, .int 1, .ref h12, .ref h13, .int 1, .ref h14, .ref h15, .ref h16, .int 0, .ref h17, .ref h18, .ref h19, .ref h20, .ref h21, .ref h22, .ref h23, .ref h24, .ref h25, .int 0, .ref h26, .ref h27, .ref h28, .int (-1), .ref h29, .long 0, .long 0, .int 0, .int 0, .long 0, .long 0, .ref h30, .ref h31, .ref h32, .ref h33, .ref h34, .ref h35, .long 0]))] sz) (jw_Qi D (fun r => r = (-1)) (fun w => w = []) (va_A [(h0, .inr (15, [.ref h1, .int 0, .int 0, .ref h2, .int 0, .int (-1), .int 0, .int 0, .int 0, .int 0, .int 0, .int 2, .int 0, .int 0, .int 0, .ref h3, .ref h4, .ref h5, .ref h6, .int 2, .int 0, .int 0, .int 0, .int 0, .ref h7, .ref h8, .ref h9, .ref h10, .int 2, .ref h11, .int 1, .ref h12, .ref h13, .int 1, .ref h14, .ref h15, .ref h16, .int 0, .ref h17, .ref h18, .ref h19, .ref h20, .ref h21, .ref h22, .ref h23, .ref h24, .ref h25, .int 0, .ref h26, .ref h27, .ref h28, .int (-1), .ref h29, .long 0, .long 0, .int 0, .int 0, .long 0, .long 0, .ref h30, .ref h31, .ref h32, .ref h33, .ref h34, .ref h35, .long 0]))] sz)) 0 0 (va_A [(h0, .inr (15, [.ref h1, .int 0, .int 0, .ref h2, .int 0, .int (-1), .int 0, .int 0, .int 0, .int 0, .int 0, .int 2, .int 0, .int 0, .int 0, .ref h3, .ref h4, .ref h5, .ref h6, .int 2, .int 0, .int 0, .int 0, .int 0, .ref h7, .ref h8, .ref h9, .ref h10, .int 2, .ref h11, .int 1, .ref h12, .ref h13, .int 1, .ref h14, .ref h15, .ref h16, .int 0, .ref h17, .ref h18, .ref h19, .ref h20, .ref h21, .ref h22, .ref h23, .ref h24, .ref h25, .int 0, .ref h26, .ref h27, .ref h28, .int (-1), .ref h29, .long 0, .long 0, .int 0, .int 0, .long 0, .long 0, .ref h30, .ref h31, .ref h32, .ref h33, .ref h34, .ref h35, .long 0]))] sz) := by
  refine jw_met (fun A => jw_Qi D (fun r => r = (-1)) (fun w => w = []) A) (cc := cX12_nearest) (maxL := 9) (ret := (some .int)) pn_X12_nearest rfl rfl ?_
  intro p e s m below meth c A H locs ls hx hb hml hr hts hown hlocks hin hP hD hA hS hE hl
  have hown : s.vm.findClass RX12 = some m.cls := hown
  have hl : lv_has ls 9 [(0, .ref h0), (1, .int p1)] := hl
  refine lv_aload_n hx hb dX12_nearest_0 rfl (lv_at hl 0 rfl) ?_
  refine lv_iconst (v := 0) hx hb dX12_nearest_1 (by decide +kernel) ?_
  refine va_put (D := D) (ci := 15) (v := .int 0) (C := RX12) (T := TX12) (N := 66) hx hb hts iw_X12_nearest__X12 tyX12 tyX12_ok nmX12 hown hE.1 hP hD hS 0 rfl rfl 2 (by decide) (hts _ mw_X12_nearest__1) (fun _ h9 => h9) rfl (tyX12_ok 2 (by decide)) rfl rfl (Nat.le_of_ble_eq_true rfl) dX12_nearest_2 (fun H locs hP hD hS => ?_)
  have hP : va_P D vwCl [(h0, .inr (15, [.ref h1, .int 0, .int 0, .ref h2, .int 0, .int (-1), .int 0, .int 0, .int 0, .int 0, .int 0, .int 2, .int 0, .int 0, .int 0, .ref h3, .ref h4, .ref h5, .ref h6, .int 2, .int 0, .int 0, .int 0, .int 0, .ref h7, .ref h8, .ref h9, .ref h10, .int 2, .ref h11, .int 1, .ref h12, .ref h13, .int 1, .ref h14, .ref h15, .ref h16, .int 0, .ref h17, .ref h18, .ref h19, .ref h20, .ref h21, .ref h22, .ref h23, .ref h24, .ref h25, .int 0, .ref h26, .ref h27, .ref h28, .int (-1), .ref h29, .long 0, .long 0, .int 0, .int 0, .long 0, .long 0, .ref h30, .ref h31, .ref h32, .ref h33, .ref h34, .ref h35, .long 0]))] H := hP
  have hD : va_D A [(h0, .inr (15, [.ref h1, .int 0, .int 0, .ref h2, .int 0, .int (-1), .int 0, .int 0, .int 0, .int 0, .int 0, .int 2, .int 0, .int 0, .int 0, .ref h3, .ref h4, .ref h5, .ref h6, .int 2, .int 0, .int 0, .int 0, .int 0, .ref h7, .ref h8, .ref h9, .ref h10, .int 2, .ref h11, .int 1, .ref h12, .ref h13, .int 1, .ref h14, .ref h15, .ref h16, .int 0, .ref h17, .ref h18, .ref h19, .ref h20, .ref h21, .ref h22, .ref h23, .ref h24, .ref h25, .int 0, .ref h26, .ref h27, .ref h28, .int (-1), .ref h29, .long 0, .long 0, .int 0, .int 0, .long 0, .long 0, .ref h30, .ref h31, .ref h32, .ref h33, .ref h34, .ref h35, .long 0]))] := hD
  refine lv_iload_n hx hb dX12_nearest_5 rfl (lv_at hl 1 rfl) ?_
  refine lv_iconst (v := 0) hx hb dX12_nearest_6 (by decide +kernel) ?_
  refine lv_iconst (v := 1) hx hb dX12_nearest_7 (by decide +kernel) ?_
  refine jw_mi (wc := []) (cs := 0) (ss := 0) (va_runS (As := [.int p1, .int 0, .int 1]) (rest := []) ⟨hx, hb, hml, hown, hts⟩ (k107_X12_isIn p1 (by have := g_p1; omega) H.size) (va_cwS 3 hts gX12_nearest_X12_isIn rfl rfl rfl ydS_X12_isIn ⟨Nat.le_of_ble_eq_true rfl, Nat.le_of_ble_eq_true rfl⟩) (jw_mpreS hP hD hS hA hE [] rfl) rfl rfl hl.1 rfl (lv_room (Nat.le_of_ble_eq_true rfl)) dX12_nearest_8 ⟨Nat.le_of_ble_eq_true rfl, Nat.le_of_ble_eq_true rfl⟩) hP hD hS hA [] rfl rfl rfl (fun r9 w1 H locs hr9 hw9 hP hD hS => ?_)
  subst hr9
  subst hw9
  have hP : va_P D vwCl [(h0, .inr (15, [.ref h1, .int 0, .int 0, .ref h2, .int 0, .int (-1), .int 0, .int 0, .int 0, .int 0, .int 0, .int 2, .int 0, .int 0, .int 0, .ref h3, .ref h4, .ref h5, .ref h6, .int 2, .int 0, .int 0, .int 0, .int 0, .ref h7, .ref h8, .ref h9, .ref h10, .int 2, .ref h11, .int 1, .ref h12, .ref h13, .int 1, .ref h14, .ref h15, .ref h16, .int 0, .ref h17, .ref h18, .ref h19, .ref h20, .ref h21, .ref h22, .ref h23, .ref h24, .ref h25, .int 0, .ref h26, .ref h27, .ref h28, .int (-1), .ref h29, .long 0, .long 0, .int 0, .int 0, .long 0, .long 0, .ref h30, .ref h31, .ref h32, .ref h33, .ref h34, .ref h35, .long 0]))] H := hP
  have hD : va_D A [(h0, .inr (15, [.ref h1, .int 0, .int 0, .ref h2, .int 0, .int (-1), .int 0, .int 0, .int 0, .int 0, .int 0, .int 2, .int 0, .int 0, .int 0, .ref h3, .ref h4, .ref h5, .ref h6, .int 2, .int 0, .int 0, .int 0, .int 0, .ref h7, .ref h8, .ref h9, .ref h10, .int 2, .ref h11, .int 1, .ref h12, .ref h13, .int 1, .ref h14, .ref h15, .ref h16, .int 0, .ref h17, .ref h18, .ref h19, .ref h20, .ref h21, .ref h22, .ref h23, .ref h24, .ref h25, .int 0, .ref h26, .ref h27, .ref h28, .int (-1), .ref h29, .long 0, .long 0, .int 0, .int 0, .long 0, .long 0, .ref h30, .ref h31, .ref h32, .ref h33, .ref h34, .ref h35, .long 0]))] := hD
  refine lv_if_ne (tgt := 16) hx hb dX12_nearest_11 (by decide) (fun c9 => absurd (by decide +kernel) c9) (fun _ => ?_)
  refine lv_iconst (v := (-1)) hx hb dX12_nearest_14 (by decide +kernel) ?_
  refine W.widen (k := 0) (n := 0) (Nat.le_of_ble_eq_true rfl) (Nat.le_of_ble_eq_true rfl) ?_
  have hP : va_P D vwCl [] H := hP.sub [] rfl
  have hD : va_D A [] := hD.sub [] rfl rfl
  exact jw_iret hx hb hr hlocks rfl rfl hP hD hS dX12_nearest_15
set_option maxHeartbeats 4000000 in
set_option maxRecDepth 100000 in
theorem k398_X11_leads {l : Launch} {D : va_G} {Y : Nat → ClassId} {tt : Nat → Nat} (h0 h1 h2 h3 h4 h5 h6 h7 h8 h9 h10 h11 h12 h13 h14 h15 h16 h17 h18 h19 h20 h21 h22 h23 h24 h25 h26 h27 h28 h29 h30 h31 h32 h33 h34 : Nat) (sz : Nat) : Met l yX11_leads wsX11_leads ({ frames := 3, cells := 0, slots := 0, locals := 92 }) (jw_Pc D Y tt [.ref h0, .int 0] [(h0, .inr (14, [.ref h8, .int 0, .ref h1, .ref h9, .ref h10, .ref h2, .ref h3, .ref h5, .ref h11, .ref h12, .ref h13, .ref h14, .ref h15, .ref h16, .ref h17, .ref h18, .int (-3), .int (-3)])), (h1, .inr (6, [.int 2, .int 0, .int 0, .int 0, .int 0, .ref h19, .ref h20, .ref h21, .ref h22, .ref h23, .int 0])), (h2, .inr (5, [.ref h1, .ref h10, .int 1, .int 1, .ref h24, .ref h25, .ref h26, .ref h27, .ref h28, .ref h29])), (h3, .inr (11, [.ref h1, .ref h10, .ref h4, .ref h30, .ref h31, .ref h32, .int 0, .ref h33])), (h4, .inl (Y 1, 4, .inl (jw_l 0 [0, 1, 2, 3]))), (h5, .inr (13, [.ref h2, .ref h34, .ref h6, .ref h7, .int 0])), (h6, .inl (Y 1, 5, .inl (jw_l 0 []))), (h7, .inl (Y 1, 4, .inl (jw_l 0 [])))] sz) (jw_Qi D (fun r => r = 0) (fun w => w = []) (va_A [(h0, .inr (14, [.ref h8, .int 0, .ref h1, .ref h9, .ref h10, .ref h2, .ref h3, .ref h5, .ref h11, .ref h12, .ref h13, .ref h14, .ref h15, .ref h16, .ref h17, .ref h18, .int (-3), .int (-3)])), (h1, .inr (6, [.int 2, .int 0, .int 0, .int 0, .int 0, .ref h19, .ref h20, .ref h21, .ref h22, .ref h23, .int 0])), (h2, .inr (5, [.ref h1, .ref h10, .int 1, .int 1, .ref h24, .ref h25, .ref h26, .ref h27, .ref h28, .ref h29])), (h3, .inr (11, [.ref h1, .ref h10, .ref h4, .ref h30, .ref h31, .ref h32, .int 0, .ref h33])), (h4, .inl (Y 1, 4, .inl (jw_l 0 [0, 1, 2, 3]))), (h5, .inr (13, [.ref h2, .ref h34, .ref h6, .ref h7, .int 0])), (h6, .inl (Y 1, 5, .inl (jw_l 0 []))), (h7, .inl (Y 1, 4, .inl (jw_l 0 [])))] sz)) 0 0 (va_A [(h0, .inr (14, [.ref h8, .int 0, .ref h1, .ref h9, .ref h10, .ref h2, .ref h3, .ref h5, .ref h11, .ref h12, .ref h13, .ref h14, .ref h15, .ref h16, .ref h17, .ref h18, .int (-3), .int (-3)])), (h1, .inr (6, [.int 2, .int 0, .int 0, .int 0, .int 0, .ref h19, .ref h20, .ref h21, .ref h22, .ref h23, .int 0])), (h2, .inr (5, [.ref h1, .ref h10, .int 1, .int 1, .ref h24, .ref h25, .ref h26, .ref h27, .ref h28, .ref h29])), (h3, .inr (11, [.ref h1, .ref h10, .ref h4, .ref h30, .ref h31, .ref h32, .int 0, .ref h33])), (h4, .inl (Y 1, 4, .inl (jw_l 0 [0, 1, 2, 3]))), (h5, .inr (13, [.ref h2, .ref h34, .ref h6, .ref h7, .int 0])), (h6, .inl (Y 1, 5, .inl (jw_l 0 []))), (h7, .inl (Y 1, 4, .inl (jw_l 0 [])))] sz) := by
  refine jw_met (fun A => jw_Qi D (fun r => r = 0) (fun w => w = []) A) (cc := cX11_leads) (maxL := 9) (ret := (some .int)) pn_X11_leads rfl rfl ?_
  intro p e s m below meth c A H locs ls hx hb hml hr hts hown hlocks hin hP hD hA hS hE hl
  have hown : s.vm.findClass RX11 = some m.cls := hown
  have hl : lv_has ls 9 [(0, .ref h0), (1, .int 0)] := hl
  refine lv_aload_n hx hb dX11_leads_0 rfl (lv_at hl 0 rfl) ?_
  refine lv_iload_n hx hb dX11_leads_1 rfl (lv_at hl 1 rfl) ?_
  refine jw_mi (wc := [(h0, .inr (14, [.ref h8, .int 0, .ref h1, .ref h9, .ref h10, .ref h2, .ref h3, .ref h5, .ref h11, .ref h12, .ref h13, .ref h14, .ref h15, .ref h16, .ref h17, .ref h18, .int (-3), .int (-3)])), (h2, .inr (5, [.ref h1, .ref h10, .int 1, .int 1, .ref h24, .ref h25, .ref h26, .ref h27, .ref h28, .ref h29]))]) (cs := 0) (ss := 0) (va_runV (As := [.int 0]) (rest := []) ⟨hx, hb, hml, hown, hts⟩ (k124_X11_isCode h0 h2 h8 h1 h9 h10 h3 h5 h11 h12 h13 h14 h15 h16 h17 h18 h24 h25 h26 h27 h28 h29 H.size) (cwV 1 hts gX11_leads_X11_isCode rfl rfl rfl ydV_X11_isCode ⟨Nat.le_of_ble_eq_true rfl, Nat.le_of_ble_eq_true rfl⟩) (jw_mpreV (ci := 14) (q0 := 0) hP hD hS hA hE [true, false, true] rfl rfl rfl) rfl rfl hl.1 rfl (lv_room (Nat.le_of_ble_eq_true rfl)) dX11_leads_2 ⟨Nat.le_of_ble_eq_true rfl, Nat.le_of_ble_eq_true rfl⟩) hP hD hS hA [true, false, true] rfl rfl rfl (fun r9 w1 H locs hr9 hw9 hP hD hS => ?_)
  subst hr9
  subst hw9
  have hP : va_P D vwCl [(h0, .inr (14, [.ref h8, .int 0, .ref h1, .ref h9, .ref h10, .ref h2, .ref h3, .ref h5, .ref h11, .ref h12, .ref h13, .ref h14, .ref h15, .ref h16, .ref h17, .ref h18, .int (-3), .int (-3)])), (h1, .inr (6, [.int 2, .int 0, .int 0, .int 0, .int 0, .ref h19, .ref h20, .ref h21, .ref h22, .ref h23, .int 0])), (h2, .inr (5, [.ref h1, .ref h10, .int 1, .int 1, .ref h24, .ref h25, .ref h26, .ref h27, .ref h28, .ref h29])), (h3, .inr (11, [.ref h1, .ref h10, .ref h4, .ref h30, .ref h31, .ref h32, .int 0, .ref h33])), (h4, .inl (Y 1, 4, .inl (jw_l 0 [0, 1, 2, 3]))), (h5, .inr (13, [.ref h2, .ref h34, .ref h6, .ref h7, .int 0])), (h6, .inl (Y 1, 5, .inl (jw_l 0 []))), (h7, .inl (Y 1, 4, .inl (jw_l 0 [])))] H := hP
  have hD : va_D A [(h0, .inr (14, [.ref h8, .int 0, .ref h1, .ref h9, .ref h10, .ref h2, .ref h3, .ref h5, .ref h11, .ref h12, .ref h13, .ref h14, .ref h15, .ref h16, .ref h17, .ref h18, .int (-3), .int (-3)])), (h1, .inr (6, [.int 2, .int 0, .int 0, .int 0, .int 0, .ref h19, .ref h20, .ref h21, .ref h22, .ref h23, .int 0])), (h2, .inr (5, [.ref h1, .ref h10, .int 1, .int 1, .ref h24, .ref h25, .ref h26, .ref h27, .ref h28, .ref h29])), (h3, .inr (11, [.ref h1, .ref h10, .ref h4, .ref h30, .ref h31, .ref h32, .int 0, .ref h33])), (h4, .inl (Y 1, 4, .inl (jw_l 0 [0, 1, 2, 3]))), (h5, .inr (13, [.ref h2, .ref h34, .ref h6, .ref h7, .int 0])), (h6, .inl (Y 1, 5, .inl (jw_l 0 []))), (h7, .inl (Y 1, 4, .inl (jw_l 0 [])))] := hD
  refine lv_if_eq (tgt := 18) hx hb dX11_leads_5 (by decide) (fun c9 => absurd c9 (by decide +kernel)) (fun _ => ?_)
  refine lv_aload_n hx hb dX11_leads_8 rfl (lv_at hl 0 rfl) ?_
  refine va_get (D := D) (ci := 14) (v := .ref h2) (C := RX11) (T := TX11) (N := 18) hx hb hts iw_X11_leads__X11 hown hE.1 hP 0 rfl rfl 5 (by decide) (hts _ mw_X11_leads__1) (fun _ h9 => h9) rfl dX11_leads_9 ?_
  refine va_getN (D := D) (ci := 5) (v := .int 1) (C := RX2) (T := TX2) (N := 10) hx hb hts iw_X11_leads__X2 hown hE.1 hP 2 rfl rfl 3 (by decide) (nf_X11_169 hE) (fun _ h9 => h9) rfl dX11_leads_12 ?_
  refine lv_if_ne (tgt := 20) hx hb dX11_leads_15 (by decide) (fun _ => ?_) (fun c9 => absurd c9 (by decide +kernel))
  refine lv_aload_n hx hb dX11_leads_20 rfl (lv_at hl 0 rfl) ?_
  refine jw_mr (wc := [(h0, .inr (14, [.ref h8, .int 0, .ref h1, .ref h9, .ref h10, .ref h2, .ref h3, .ref h5, .ref h11, .ref h12, .ref h13, .ref h14, .ref h15, .ref h16, .ref h17, .ref h18, .int (-3), .int (-3)])), (h1, .inr (6, [.int 2, .int 0, .int 0, .int 0, .int 0, .ref h19, .ref h20, .ref h21, .ref h22, .ref h23, .int 0])), (h2, .inr (5, [.ref h1, .ref h10, .int 1, .int 1, .ref h24, .ref h25, .ref h26, .ref h27, .ref h28, .ref h29])), (h3, .inr (11, [.ref h1, .ref h10, .ref h4, .ref h30, .ref h31, .ref h32, .int 0, .ref h33])), (h4, .inl (Y 1, 4, .inl (jw_l 0 [0, 1, 2, 3]))), (h5, .inr (13, [.ref h2, .ref h34, .ref h6, .ref h7, .int 0])), (h6, .inl (Y 1, 5, .inl (jw_l 0 []))), (h7, .inl (Y 1, 4, .inl (jw_l 0 [])))]) (cs := 0) (ss := 0) (va_runV (As := []) (rest := []) ⟨hx, hb, hml, hown, hts⟩ (k180_X11_treeOfNow h0 h1 h2 h3 h4 h5 h6 h7 h8 h9 h10 h11 h12 h13 h14 h15 h16 h17 h18 h19 h20 h21 h22 h23 h24 h25 h26 h27 h28 h29 h30 h31 h32 h33 h34 H.size) (cwV 0 hts gX11_leads_X11_treeOfNow rfl rfl rfl ydV_X11_treeOfNow ⟨Nat.le_of_ble_eq_true rfl, Nat.le_of_ble_eq_true rfl⟩) (jw_mpreV (ci := 14) (q0 := 0) hP hD hS hA hE [true, true, true, true, true, true, true, true] rfl rfl rfl) rfl rfl hl.1 rfl (lv_room (Nat.le_of_ble_eq_true rfl)) dX11_leads_21 ⟨Nat.le_of_ble_eq_true rfl, Nat.le_of_ble_eq_true rfl⟩) hP hD hS hA [true, true, true, true, true, true, true, true] rfl rfl rfl (fun r9 w1 H locs hr9 hw9 hP hD hS => ?_)
  rw [hr9]
  subst hw9
  have hP : va_P D vwCl [(h0, .inr (14, [.ref h8, .int 0, .ref h1, .ref h9, .ref h10, .ref h2, .ref h3, .ref h5, .ref h11, .ref h12, .ref h13, .ref h14, .ref h15, .ref h16, .ref h17, .ref h18, .int (-3), .int (-3)])), (h1, .inr (6, [.int 2, .int 0, .int 0, .int 0, .int 0, .ref h19, .ref h20, .ref h21, .ref h22, .ref h23, .int 0])), (h2, .inr (5, [.ref h1, .ref h10, .int 1, .int 1, .ref h24, .ref h25, .ref h26, .ref h27, .ref h28, .ref h29])), (h3, .inr (11, [.ref h1, .ref h10, .ref h4, .ref h30, .ref h31, .ref h32, .int 0, .ref h33])), (h4, .inl (Y 1, 4, .inl (jw_l 0 [0, 1, 2, 3]))), (h5, .inr (13, [.ref h2, .ref h34, .ref h6, .ref h7, .int 1])), (h6, .inl (Y 1, 5, .inl (jw_l 0 [0]))), (h7, .inl (Y 1, 4, .inl (jw_l 0 [0, 1, 2, 3])))] H := hP
  have hD : va_D A [(h0, .inr (14, [.ref h8, .int 0, .ref h1, .ref h9, .ref h10, .ref h2, .ref h3, .ref h5, .ref h11, .ref h12, .ref h13, .ref h14, .ref h15, .ref h16, .ref h17, .ref h18, .int (-3), .int (-3)])), (h1, .inr (6, [.int 2, .int 0, .int 0, .int 0, .int 0, .ref h19, .ref h20, .ref h21, .ref h22, .ref h23, .int 0])), (h2, .inr (5, [.ref h1, .ref h10, .int 1, .int 1, .ref h24, .ref h25, .ref h26, .ref h27, .ref h28, .ref h29])), (h3, .inr (11, [.ref h1, .ref h10, .ref h4, .ref h30, .ref h31, .ref h32, .int 0, .ref h33])), (h4, .inl (Y 1, 4, .inl (jw_l 0 [0, 1, 2, 3]))), (h5, .inr (13, [.ref h2, .ref h34, .ref h6, .ref h7, .int 1])), (h6, .inl (Y 1, 5, .inl (jw_l 0 [0]))), (h7, .inl (Y 1, 4, .inl (jw_l 0 [0, 1, 2, 3])))] := hD
  refine lv_astore_n (lv' := [(2, .ref h5), (0, .ref h0), (1, .int 0)]) hx hb dX11_leads_24 rfl hl (by decide) rfl (fun ls hl => ?_)
  refine lv_iconst (v := 0) hx hb dX11_leads_25 (by decide +kernel) ?_
  refine lv_istore_n (lv' := [(3, .int 0), (2, .ref h5), (0, .ref h0), (1, .int 0)]) hx hb dX11_leads_26 rfl hl (by decide) rfl (fun ls hl => ?_)
  refine lv_iconst (v := 0) hx hb dX11_leads_27 (by decide +kernel) ?_
  refine lv_istore (lv' := [(4, .int 0), (3, .int 0), (2, .ref h5), (0, .ref h0), (1, .int 0)]) hx hb dX11_leads_28 hl (by decide) rfl (fun ls hl => ?_)
  refine lv_iconst (v := 0) hx hb dX11_leads_30 (by decide +kernel) ?_
  refine lv_istore (lv' := [(5, .int 0), (4, .int 0), (3, .int 0), (2, .ref h5), (0, .ref h0), (1, .int 0)]) hx hb dX11_leads_31 hl (by decide) rfl (fun ls hl => ?_)
  refine lv_iload hx hb dX11_leads_33 (lv_at hl 0 rfl) ?_
  refine lv_aload_n hx hb dX11_leads_35 rfl (lv_at hl 4 rfl) ?_
  refine va_get (D := D) (ci := 14) (v := .ref h1) (C := RX11) (T := TX11) (N := 18) hx hb hts iw_X11_leads__X11 hown hE.1 hP 0 rfl rfl 2 (by decide) (hts _ mw_X11_leads__2) (fun _ h9 => h9) rfl dX11_leads_36 ?_
  refine va_getN (D := D) (ci := 6) (v := .int 0) (C := RX3) (T := TX3) (N := 11) hx hb hts iw_X11_leads__X3 hown hE.1 hP 1 rfl rfl 1 (by decide) (nf_X11_208 hE) (fun _ h9 => h9) rfl dX11_leads_39 ?_
  refine lv_icmp_ge (tgt := 169) hx hb dX11_leads_42 (by decide) (fun _ => ?_) (fun c9 => absurd (by decide +kernel) c9)
  refine lv_iload_n hx hb dX11_leads_169 rfl (lv_at hl 2 rfl) ?_
  refine W.widen (k := 0) (n := 0) (Nat.le_of_ble_eq_true rfl) (Nat.le_of_ble_eq_true rfl) ?_
  have hP : va_P D vwCl [] H := hP.sub [] rfl
  have hD : va_D A [] := hD.sub [] rfl rfl
  exact jw_iret hx hb hr hlocks rfl rfl hP hD hS dX11_leads_170
set_option maxHeartbeats 4000000 in
set_option maxRecDepth 100000 in
theorem k399_X12_leads {l : Launch} {D : va_G} {Y : Nat → ClassId} {tt : Nat → Nat} (h0 h1 h2 h3 h4 h5 h6 h7 h8 h9 h10 h11 h12 h13 h14 h15 h16 h17 h18 h19 h20 h21 h22 h23 h24 h25 h26 h27 h28 h29 h30 h31 h32 h33 h34 h35 : Nat) (sz : Nat) : Met l yX12_leads wsX12_leads ({ frames := 1, cells := 0, slots := 0, locals := 25 }) (jw_Pc D Y tt [.ref h0, .int 0] [(h0, .inr (15, [.ref h12, .int 0, .int 0, .ref h13, .int 0, .int (-1), .int 0, .int 0, .int 0, .int 0, .int 0, .int 2, .int 0, .int 0, .int 0, .ref h14, .ref h15, .ref h16, .ref h17, .int 2, .int 0, .int 0, .int 0, .int 0, .ref h18, .ref h19, .ref h20, .ref h21, .int 2, .ref h1, .int 1, .ref h2, .ref h22, .int 1, .ref h23, .ref h3, .ref h4, .int 0, .ref h24, .ref h25, .ref h5, .ref h6, .ref h7, .ref h8, .ref h26, .ref h9, .ref h10, .int 0, .ref h11, .ref h27, .ref h28, .int (-1), .ref h29, .long 0, .long 0, .int 0, .int 0, .long 0, .long 0, .ref h30, .ref h31, .ref h32, .ref h33, .ref h34, .ref h35, .long 0])), (h1, .inl (Y 1, 100, .inl (jw_l 0 [0, 1, 0, 0, 1, 0, 0, 0, 1, 1]))), (h2, .inl (Y 1, 13824, .inl (jw_l 0 [0]))), (h3, .inl (Y 1, 4, .inl (jw_l 0 [0, 1, 2, 3]))), (h4, .inl (Y 1, 4, .inl (jw_l 0 [0, 1, 2, 3]))), (h5, .inl (Y 1, 4, .inl (jw_l 0 []))), (h6, .inl (Y 1, 4, .inl (jw_l 0 []))), (h7, .inl (Y 1, 6, .inl (jw_l 0 []))), (h8, .inl (Y 1, 14425, .inl (jw_l 0 []))), (h9, .inl (Y 1, 13824, .inl (jw_l 0 []))), (h10, .inl (Y 1, 16, .inl (jw_l 0 []))), (h11, .inl (Y 1, 5, .inl (jw_l 0 [])))] sz) (jw_Qi D (fun r => r = 0) (fun w => w = []) (va_A [(h0, .inr (15, [.ref h12, .int 0, .int 0, .ref h13, .int 0, .int (-1), .int 0, .int 0, .int 0, .int 0, .int 0, .int 2, .int 0, .int 0, .int 0, .ref h14, .ref h15, .ref h16, .ref h17, .int 2, .int 0, .int 0, .int 0, .int 0, .ref h18, .ref h19, .ref h20, .ref h21, .int 2, .ref h1, .int 1, .ref h2, .ref h22, .int 1, .ref h23, .ref h3, .ref h4, .int 0, .ref h24, .ref h25, .ref h5, .ref h6, .ref h7, .ref h8, .ref h26, .ref h9, .ref h10, .int 0, .ref h11, .ref h27, .ref h28, .int (-1), .ref h29, .long 0, .long 0, .int 0, .int 0, .long 0, .long 0, .ref h30, .ref h31, .ref h32, .ref h33, .ref h34, .ref h35, .long 0])), (h1, .inl (Y 1, 100, .inl (jw_l 0 [0, 1, 0, 0, 1, 0, 0, 0, 1, 1]))), (h2, .inl (Y 1, 13824, .inl (jw_l 0 [0]))), (h3, .inl (Y 1, 4, .inl (jw_l 0 [0, 1, 2, 3]))), (h4, .inl (Y 1, 4, .inl (jw_l 0 [0, 1, 2, 3]))), (h5, .inl (Y 1, 4, .inl (jw_l 0 []))), (h6, .inl (Y 1, 4, .inl (jw_l 0 []))), (h7, .inl (Y 1, 6, .inl (jw_l 0 []))), (h8, .inl (Y 1, 14425, .inl (jw_l 0 []))), (h9, .inl (Y 1, 13824, .inl (jw_l 0 []))), (h10, .inl (Y 1, 16, .inl (jw_l 0 []))), (h11, .inl (Y 1, 5, .inl (jw_l 0 [])))] sz)) 0 0 (va_A [(h0, .inr (15, [.ref h12, .int 0, .int 0, .ref h13, .int 0, .int (-1), .int 0, .int 0, .int 0, .int 0, .int 0, .int 2, .int 0, .int 0, .int 0, .ref h14, .ref h15, .ref h16, .ref h17, .int 2, .int 0, .int 0, .int 0, .int 0, .ref h18, .ref h19, .ref h20, .ref h21, .int 2, .ref h1, .int 1, .ref h2, .ref h22, .int 1, .ref h23, .ref h3, .ref h4, .int 0, .ref h24, .ref h25, .ref h5, .ref h6, .ref h7, .ref h8, .ref h26, .ref h9, .ref h10, .int 0, .ref h11, .ref h27, .ref h28, .int (-1), .ref h29, .long 0, .long 0, .int 0, .int 0, .long 0, .long 0, .ref h30, .ref h31, .ref h32, .ref h33, .ref h34, .ref h35, .long 0])), (h1, .inl (Y 1, 100, .inl (jw_l 0 [0, 1, 0, 0, 1, 0, 0, 0, 1, 1]))), (h2, .inl (Y 1, 13824, .inl (jw_l 0 [0]))), (h3, .inl (Y 1, 4, .inl (jw_l 0 [0, 1, 2, 3]))), (h4, .inl (Y 1, 4, .inl (jw_l 0 [0, 1, 2, 3]))), (h5, .inl (Y 1, 4, .inl (jw_l 0 []))), (h6, .inl (Y 1, 4, .inl (jw_l 0 []))), (h7, .inl (Y 1, 6, .inl (jw_l 0 []))), (h8, .inl (Y 1, 14425, .inl (jw_l 0 []))), (h9, .inl (Y 1, 13824, .inl (jw_l 0 []))), (h10, .inl (Y 1, 16, .inl (jw_l 0 []))), (h11, .inl (Y 1, 5, .inl (jw_l 0 [])))] sz) := by
  refine jw_met (fun A => jw_Qi D (fun r => r = 0) (fun w => w = []) A) (cc := cX12_leads) (maxL := 6) (ret := (some .int)) pn_X12_leads rfl rfl ?_
  intro p e s m below meth c A H locs ls hx hb hml hr hts hown hlocks hin hP hD hA hS hE hl
  have hown : s.vm.findClass RX12 = some m.cls := hown
  have hl : lv_has ls 6 [(0, .ref h0), (1, .int 0)] := hl
  refine lv_aload_n hx hb dX12_leads_0 rfl (lv_at hl 0 rfl) ?_
  refine lv_iconst (v := 0) hx hb dX12_leads_1 (by decide +kernel) ?_
  refine va_put (D := D) (ci := 15) (v := .int 0) (C := RX12) (T := TX12) (N := 66) hx hb hts iw_X12_leads__X12 tyX12 tyX12_ok nmX12 hown hE.1 hP hD hS 0 rfl rfl 2 (by decide) (hts _ mw_X12_leads__1) (fun _ h9 => h9) rfl (tyX12_ok 2 (by decide)) rfl rfl (Nat.le_of_ble_eq_true rfl) dX12_leads_2 (fun H locs hP hD hS => ?_)
  have hP : va_P D vwCl [(h0, .inr (15, [.ref h12, .int 0, .int 0, .ref h13, .int 0, .int (-1), .int 0, .int 0, .int 0, .int 0, .int 0, .int 2, .int 0, .int 0, .int 0, .ref h14, .ref h15, .ref h16, .ref h17, .int 2, .int 0, .int 0, .int 0, .int 0, .ref h18, .ref h19, .ref h20, .ref h21, .int 2, .ref h1, .int 1, .ref h2, .ref h22, .int 1, .ref h23, .ref h3, .ref h4, .int 0, .ref h24, .ref h25, .ref h5, .ref h6, .ref h7, .ref h8, .ref h26, .ref h9, .ref h10, .int 0, .ref h11, .ref h27, .ref h28, .int (-1), .ref h29, .long 0, .long 0, .int 0, .int 0, .long 0, .long 0, .ref h30, .ref h31, .ref h32, .ref h33, .ref h34, .ref h35, .long 0])), (h1, .inl (Y 1, 100, .inl (jw_l 0 [0, 1, 0, 0, 1, 0, 0, 0, 1, 1]))), (h2, .inl (Y 1, 13824, .inl (jw_l 0 [0]))), (h3, .inl (Y 1, 4, .inl (jw_l 0 [0, 1, 2, 3]))), (h4, .inl (Y 1, 4, .inl (jw_l 0 [0, 1, 2, 3]))), (h5, .inl (Y 1, 4, .inl (jw_l 0 []))), (h6, .inl (Y 1, 4, .inl (jw_l 0 []))), (h7, .inl (Y 1, 6, .inl (jw_l 0 []))), (h8, .inl (Y 1, 14425, .inl (jw_l 0 []))), (h9, .inl (Y 1, 13824, .inl (jw_l 0 []))), (h10, .inl (Y 1, 16, .inl (jw_l 0 []))), (h11, .inl (Y 1, 5, .inl (jw_l 0 [])))] H := hP
  have hD : va_D A [(h0, .inr (15, [.ref h12, .int 0, .int 0, .ref h13, .int 0, .int (-1), .int 0, .int 0, .int 0, .int 0, .int 0, .int 2, .int 0, .int 0, .int 0, .ref h14, .ref h15, .ref h16, .ref h17, .int 2, .int 0, .int 0, .int 0, .int 0, .ref h18, .ref h19, .ref h20, .ref h21, .int 2, .ref h1, .int 1, .ref h2, .ref h22, .int 1, .ref h23, .ref h3, .ref h4, .int 0, .ref h24, .ref h25, .ref h5, .ref h6, .ref h7, .ref h8, .ref h26, .ref h9, .ref h10, .int 0, .ref h11, .ref h27, .ref h28, .int (-1), .ref h29, .long 0, .long 0, .int 0, .int 0, .long 0, .long 0, .ref h30, .ref h31, .ref h32, .ref h33, .ref h34, .ref h35, .long 0])), (h1, .inl (Y 1, 100, .inl (jw_l 0 [0, 1, 0, 0, 1, 0, 0, 0, 1, 1]))), (h2, .inl (Y 1, 13824, .inl (jw_l 0 [0]))), (h3, .inl (Y 1, 4, .inl (jw_l 0 [0, 1, 2, 3]))), (h4, .inl (Y 1, 4, .inl (jw_l 0 [0, 1, 2, 3]))), (h5, .inl (Y 1, 4, .inl (jw_l 0 []))), (h6, .inl (Y 1, 4, .inl (jw_l 0 []))), (h7, .inl (Y 1, 6, .inl (jw_l 0 []))), (h8, .inl (Y 1, 14425, .inl (jw_l 0 []))), (h9, .inl (Y 1, 13824, .inl (jw_l 0 []))), (h10, .inl (Y 1, 16, .inl (jw_l 0 []))), (h11, .inl (Y 1, 5, .inl (jw_l 0 [])))] := hD
  refine lv_iload_n hx hb dX12_leads_5 rfl (lv_at hl 1 rfl) ?_
  refine lv_if_lt (tgt := 24) hx hb dX12_leads_6 (by decide) (fun c9 => absurd c9 (by decide +kernel)) (fun _ => ?_)
  refine lv_iload_n hx hb dX12_leads_9 rfl (lv_at hl 1 rfl) ?_
  refine lv_aload_n hx hb dX12_leads_10 rfl (lv_at hl 0 rfl) ?_
  refine va_get (D := D) (ci := 15) (v := .int 1) (C := RX12) (T := TX12) (N := 66) hx hb hts iw_X12_leads__X12 hown hE.1 hP 0 rfl rfl 30 (by decide) (hts _ mw_X12_leads__2) (fun _ h9 => h9) rfl dX12_leads_11 ?_
  refine lv_icmp_ge (tgt := 24) hx hb dX12_leads_14 (by decide) (fun c9 => absurd c9 (by decide +kernel)) (fun _ => ?_)
  refine lv_aload_n hx hb dX12_leads_17 rfl (lv_at hl 0 rfl) ?_
  refine va_get (D := D) (ci := 15) (v := .int 1) (C := RX12) (T := TX12) (N := 66) hx hb hts iw_X12_leads__X12 hown hE.1 hP 0 rfl rfl 33 (by decide) (hts _ mw_X12_leads__3) (fun _ h9 => h9) rfl dX12_leads_18 ?_
  refine lv_if_ne (tgt := 26) hx hb dX12_leads_21 (by decide) (fun _ => ?_) (fun c9 => absurd c9 (by decide +kernel))
  refine lv_aload_n hx hb dX12_leads_26 rfl (lv_at hl 0 rfl) ?_
  refine jw_mv (wc := [(h0, .inr (15, [.ref h12, .int 0, .int 0, .ref h13, .int 0, .int (-1), .int 0, .int 0, .int 0, .int 0, .int 0, .int 2, .int 0, .int 0, .int 0, .ref h14, .ref h15, .ref h16, .ref h17, .int 2, .int 0, .int 0, .int 0, .int 0, .ref h18, .ref h19, .ref h20, .ref h21, .int 2, .ref h1, .int 1, .ref h2, .ref h22, .int 1, .ref h23, .ref h3, .ref h4, .int 0, .ref h24, .ref h25, .ref h5, .ref h6, .ref h7, .ref h8, .ref h26, .ref h9, .ref h10, .int 0, .ref h11, .ref h27, .ref h28, .int (-1), .ref h29, .long 0, .long 0, .int 0, .int 0, .long 0, .long 0, .ref h30, .ref h31, .ref h32, .ref h33, .ref h34, .ref h35, .long 0])), (h3, .inl (Y 1, 4, .inl (jw_l 0 [0, 1, 2, 3]))), (h4, .inl (Y 1, 4, .inl (jw_l 0 [0, 1, 2, 3]))), (h5, .inl (Y 1, 4, .inl (jw_l 0 []))), (h6, .inl (Y 1, 4, .inl (jw_l 0 [])))]) (cs := 0) (ss := 0) (va_runV (As := []) (rest := []) ⟨hx, hb, hml, hown, hts⟩ (k170_X12_turnsAs h0 h3 h4 h5 h6 h12 h13 h14 h15 h16 h17 h18 h19 h20 h21 h1 h2 h22 h23 h24 h25 h7 h8 h26 h9 h10 h11 h27 h28 h29 h30 h31 h32 h33 h34 h35 H.size) (cwV 0 hts gX12_leads_X12_turnsAs rfl rfl rfl ydV_X12_turnsAs ⟨Nat.le_of_ble_eq_true rfl, Nat.le_of_ble_eq_true rfl⟩) (jw_mpreV (ci := 15) (q0 := 0) hP hD hS hA hE [true, false, false, true, true, true, true] rfl rfl rfl) rfl rfl hl.1 rfl (lv_room (Nat.le_of_ble_eq_true rfl)) dX12_leads_27 ⟨Nat.le_of_ble_eq_true rfl, Nat.le_of_ble_eq_true rfl⟩) hP hD hS hA [true, false, false, true, true, true, true] rfl rfl rfl (fun w1 H locs hw9 hP hD hS => ?_)
  subst hw9
  have hP : va_P D vwCl [(h0, .inr (15, [.ref h12, .int 0, .int 0, .ref h13, .int 0, .int (-1), .int 0, .int 0, .int 0, .int 0, .int 0, .int 2, .int 0, .int 0, .int 0, .ref h14, .ref h15, .ref h16, .ref h17, .int 2, .int 0, .int 0, .int 0, .int 0, .ref h18, .ref h19, .ref h20, .ref h21, .int 2, .ref h1, .int 1, .ref h2, .ref h22, .int 1, .ref h23, .ref h3, .ref h4, .int 0, .ref h24, .ref h25, .ref h5, .ref h6, .ref h7, .ref h8, .ref h26, .ref h9, .ref h10, .int 0, .ref h11, .ref h27, .ref h28, .int (-1), .ref h29, .long 0, .long 0, .int 0, .int 0, .long 0, .long 0, .ref h30, .ref h31, .ref h32, .ref h33, .ref h34, .ref h35, .long 0])), (h1, .inl (Y 1, 100, .inl (jw_l 0 [0, 1, 0, 0, 1, 0, 0, 0, 1, 1]))), (h2, .inl (Y 1, 13824, .inl (jw_l 0 [0]))), (h3, .inl (Y 1, 4, .inl (jw_l 0 [0, 1, 2, 3]))), (h4, .inl (Y 1, 4, .inl (jw_l 0 [0, 1, 2, 3]))), (h5, .inl (Y 1, 4, .inl (jw_l 0 [0, 1, 2, 3]))), (h6, .inl (Y 1, 4, .inl (jw_l 0 [0, 1, 2, 3]))), (h7, .inl (Y 1, 6, .inl (jw_l 0 []))), (h8, .inl (Y 1, 14425, .inl (jw_l 0 []))), (h9, .inl (Y 1, 13824, .inl (jw_l 0 []))), (h10, .inl (Y 1, 16, .inl (jw_l 0 []))), (h11, .inl (Y 1, 5, .inl (jw_l 0 [])))] H := hP
  have hD : va_D A [(h0, .inr (15, [.ref h12, .int 0, .int 0, .ref h13, .int 0, .int (-1), .int 0, .int 0, .int 0, .int 0, .int 0, .int 2, .int 0, .int 0, .int 0, .ref h14, .ref h15, .ref h16, .ref h17, .int 2, .int 0, .int 0, .int 0, .int 0, .ref h18, .ref h19, .ref h20, .ref h21, .int 2, .ref h1, .int 1, .ref h2, .ref h22, .int 1, .ref h23, .ref h3, .ref h4, .int 0, .ref h24, .ref h25, .ref h5, .ref h6, .ref h7, .ref h8, .ref h26, .ref h9, .ref h10, .int 0, .ref h11, .ref h27, .ref h28, .int (-1), .ref h29, .long 0, .long 0, .int 0, .int 0, .long 0, .long 0, .ref h30, .ref h31, .ref h32, .ref h33, .ref h34, .ref h35, .long 0])), (h1, .inl (Y 1, 100, .inl (jw_l 0 [0, 1, 0, 0, 1, 0, 0, 0, 1, 1]))), (h2, .inl (Y 1, 13824, .inl (jw_l 0 [0]))), (h3, .inl (Y 1, 4, .inl (jw_l 0 [0, 1, 2, 3]))), (h4, .inl (Y 1, 4, .inl (jw_l 0 [0, 1, 2, 3]))), (h5, .inl (Y 1, 4, .inl (jw_l 0 [0, 1, 2, 3]))), (h6, .inl (Y 1, 4, .inl (jw_l 0 [0, 1, 2, 3]))), (h7, .inl (Y 1, 6, .inl (jw_l 0 []))), (h8, .inl (Y 1, 14425, .inl (jw_l 0 []))), (h9, .inl (Y 1, 13824, .inl (jw_l 0 []))), (h10, .inl (Y 1, 16, .inl (jw_l 0 []))), (h11, .inl (Y 1, 5, .inl (jw_l 0 [])))] := hD
  refine lv_aload_n hx hb dX12_leads_30 rfl (lv_at hl 0 rfl) ?_
  refine jw_mv (wc := [(h0, .inr (15, [.ref h12, .int 0, .int 0, .ref h13, .int 0, .int (-1), .int 0, .int 0, .int 0, .int 0, .int 0, .int 2, .int 0, .int 0, .int 0, .ref h14, .ref h15, .ref h16, .ref h17, .int 2, .int 0, .int 0, .int 0, .int 0, .ref h18, .ref h19, .ref h20, .ref h21, .int 2, .ref h1, .int 1, .ref h2, .ref h22, .int 1, .ref h23, .ref h3, .ref h4, .int 0, .ref h24, .ref h25, .ref h5, .ref h6, .ref h7, .ref h8, .ref h26, .ref h9, .ref h10, .int 0, .ref h11, .ref h27, .ref h28, .int (-1), .ref h29, .long 0, .long 0, .int 0, .int 0, .long 0, .long 0, .ref h30, .ref h31, .ref h32, .ref h33, .ref h34, .ref h35, .long 0])), (h1, .inl (Y 1, 100, .inl (jw_l 0 [0, 1, 0, 0, 1, 0, 0, 0, 1, 1]))), (h2, .inl (Y 1, 13824, .inl (jw_l 0 [0]))), (h7, .inl (Y 1, 6, .inl (jw_l 0 []))), (h8, .inl (Y 1, 14425, .inl (jw_l 0 []))), (h9, .inl (Y 1, 13824, .inl (jw_l 0 []))), (h10, .inl (Y 1, 16, .inl (jw_l 0 []))), (h11, .inl (Y 1, 5, .inl (jw_l 0 [])))]) (cs := 0) (ss := 0) (va_runV (As := []) (rest := []) ⟨hx, hb, hml, hown, hts⟩ (k171_X12_layMasks h0 h1 h2 h7 h8 h9 h10 h11 h12 h13 h14 h15 h16 h17 h18 h19 h20 h21 h22 h23 h3 h4 h24 h25 h5 h6 h26 h27 h28 h29 h30 h31 h32 h33 h34 h35 H.size) (cwV 0 hts gX12_leads_X12_layMasks rfl rfl rfl ydV_X12_layMasks ⟨Nat.le_of_ble_eq_true rfl, Nat.le_of_ble_eq_true rfl⟩) (jw_mpreV (ci := 15) (q0 := 0) hP hD hS hA hE [true, true, true, false, false, false, false, true, true, true, true, true] rfl rfl rfl) rfl rfl hl.1 rfl (lv_room (Nat.le_of_ble_eq_true rfl)) dX12_leads_31 ⟨Nat.le_of_ble_eq_true rfl, Nat.le_of_ble_eq_true rfl⟩) hP hD hS hA [true, true, true, false, false, false, false, true, true, true, true, true] rfl rfl rfl (fun w1 H locs hw9 hP hD hS => ?_)
  subst hw9
  have hP : va_P D vwCl [(h0, .inr (15, [.ref h12, .int 0, .int 0, .ref h13, .int 0, .int (-1), .int 0, .int 0, .int 0, .int 0, .int 0, .int 2, .int 0, .int 0, .int 0, .ref h14, .ref h15, .ref h16, .ref h17, .int 2, .int 0, .int 0, .int 0, .int 0, .ref h18, .ref h19, .ref h20, .ref h21, .int 2, .ref h1, .int 1, .ref h2, .ref h22, .int 1, .ref h23, .ref h3, .ref h4, .int 0, .ref h24, .ref h25, .ref h5, .ref h6, .ref h7, .ref h8, .ref h26, .ref h9, .ref h10, .int 9, .ref h11, .ref h27, .ref h28, .int (-1), .ref h29, .long 0, .long 0, .int 0, .int 0, .long 0, .long 0, .ref h30, .ref h31, .ref h32, .ref h33, .ref h34, .ref h35, .long 0])), (h1, .inl (Y 1, 100, .inl (jw_l 0 [0, 1, 0, 0, 1, 0, 0, 0, 1, 1]))), (h2, .inl (Y 1, 13824, .inl (jw_l 0 [0]))), (h3, .inl (Y 1, 4, .inl (jw_l 0 [0, 1, 2, 3]))), (h4, .inl (Y 1, 4, .inl (jw_l 0 [0, 1, 2, 3]))), (h5, .inl (Y 1, 4, .inl (jw_l 0 [0, 1, 2, 3]))), (h6, .inl (Y 1, 4, .inl (jw_l 0 [0, 1, 2, 3]))), (h7, .inl (Y 1, 6, .inl (jw_l 0 [0, 1]))), (h8, .inl (Y 1, 14425, .inl (jw_l 0 [0]))), (h9, .inl (Y 1, 13824, .inl (jw_l 0 [0]))), (h10, .inl (Y 1, 16, .inl (jw_l 0 [1, 2, 0, 0, 2, 1, 0, 0, 0, 0, 0, 0, 0, 0, 0, 0]))), (h11, .inl (Y 1, 5, .inl (jw_l 0 [1, 3])))] H := hP
  have hD : va_D A [(h0, .inr (15, [.ref h12, .int 0, .int 0, .ref h13, .int 0, .int (-1), .int 0, .int 0, .int 0, .int 0, .int 0, .int 2, .int 0, .int 0, .int 0, .ref h14, .ref h15, .ref h16, .ref h17, .int 2, .int 0, .int 0, .int 0, .int 0, .ref h18, .ref h19, .ref h20, .ref h21, .int 2, .ref h1, .int 1, .ref h2, .ref h22, .int 1, .ref h23, .ref h3, .ref h4, .int 0, .ref h24, .ref h25, .ref h5, .ref h6, .ref h7, .ref h8, .ref h26, .ref h9, .ref h10, .int 9, .ref h11, .ref h27, .ref h28, .int (-1), .ref h29, .long 0, .long 0, .int 0, .int 0, .long 0, .long 0, .ref h30, .ref h31, .ref h32, .ref h33, .ref h34, .ref h35, .long 0])), (h1, .inl (Y 1, 100, .inl (jw_l 0 [0, 1, 0, 0, 1, 0, 0, 0, 1, 1]))), (h2, .inl (Y 1, 13824, .inl (jw_l 0 [0]))), (h3, .inl (Y 1, 4, .inl (jw_l 0 [0, 1, 2, 3]))), (h4, .inl (Y 1, 4, .inl (jw_l 0 [0, 1, 2, 3]))), (h5, .inl (Y 1, 4, .inl (jw_l 0 [0, 1, 2, 3]))), (h6, .inl (Y 1, 4, .inl (jw_l 0 [0, 1, 2, 3]))), (h7, .inl (Y 1, 6, .inl (jw_l 0 [0, 1]))), (h8, .inl (Y 1, 14425, .inl (jw_l 0 [0]))), (h9, .inl (Y 1, 13824, .inl (jw_l 0 [0]))), (h10, .inl (Y 1, 16, .inl (jw_l 0 [1, 2, 0, 0, 2, 1, 0, 0, 0, 0, 0, 0, 0, 0, 0, 0]))), (h11, .inl (Y 1, 5, .inl (jw_l 0 [1, 3])))] := hD
  refine lv_iconst (v := 0) hx hb dX12_leads_34 (by decide +kernel) ?_
  refine lv_istore_n (lv' := [(2, .int 0), (0, .ref h0), (1, .int 0)]) hx hb dX12_leads_35 rfl hl (by decide) rfl (fun ls hl => ?_)
  refine lv_iconst (v := 0) hx hb dX12_leads_36 (by decide +kernel) ?_
  refine lv_istore_n (lv' := [(3, .int 0), (2, .int 0), (0, .ref h0), (1, .int 0)]) hx hb dX12_leads_37 rfl hl (by decide) rfl (fun ls hl => ?_)
  refine lv_iload_n hx hb dX12_leads_38 rfl (lv_at hl 0 rfl) ?_
  refine lv_aload_n hx hb dX12_leads_39 rfl (lv_at hl 2 rfl) ?_
  refine va_get (D := D) (ci := 15) (v := .int 0) (C := RX12) (T := TX12) (N := 66) hx hb hts iw_X12_leads__X12 hown hE.1 hP 0 rfl rfl 12 (by decide) (hts _ mw_X12_leads__4) (fun _ h9 => h9) rfl dX12_leads_40 ?_
  refine lv_icmp_ge (tgt := 105) hx hb dX12_leads_43 (by decide) (fun _ => ?_) (fun c9 => absurd (by decide +kernel) c9)
  refine lv_iconst (v := 0) hx hb dX12_leads_105 (by decide +kernel) ?_
  refine lv_istore_n (lv' := [(3, .int 0), (2, .int 0), (0, .ref h0), (1, .int 0)]) hx hb dX12_leads_106 rfl hl (by decide) rfl (fun ls hl => ?_)
  refine lv_iload_n hx hb dX12_leads_107 rfl (lv_at hl 0 rfl) ?_
  refine lv_aload_n hx hb dX12_leads_108 rfl (lv_at hl 2 rfl) ?_
  refine va_get (D := D) (ci := 15) (v := .int 1) (C := RX12) (T := TX12) (N := 66) hx hb hts iw_X12_leads__X12 hown hE.1 hP 0 rfl rfl 30 (by decide) (hts _ mw_X12_leads__2) (fun _ h9 => h9) rfl dX12_leads_109 ?_
  refine lv_icmp_ge (tgt := 142) hx hb dX12_leads_112 (by decide) (fun c9 => absurd c9 (by decide +kernel)) (fun _ => ?_)
  refine lv_aload_n hx hb dX12_leads_115 rfl (lv_at hl 2 rfl) ?_
  refine va_get (D := D) (ci := 15) (v := .ref h2) (C := RX12) (T := TX12) (N := 66) hx hb hts iw_X12_leads__X12 hown hE.1 hP 0 rfl rfl 31 (by decide) (hts _ mw_X12_leads__6) (fun _ h9 => h9) rfl dX12_leads_116 ?_
  refine lv_iload_n hx hb dX12_leads_119 rfl (lv_at hl 0 rfl) ?_
  refine jw_iald (v := 0) hx hb hE hP 2 0 rfl (by decide +kernel) (by decide +kernel) dX12_leads_120 ?_
  refine lv_if_ne (tgt := 136) hx hb dX12_leads_121 (by decide) (fun c9 => absurd (by decide +kernel) c9) (fun _ => ?_)
  refine lv_aload_n hx hb dX12_leads_124 rfl (lv_at hl 2 rfl) ?_
  refine va_get (D := D) (ci := 15) (v := .ref h9) (C := RX12) (T := TX12) (N := 66) hx hb hts iw_X12_leads__X12 hown hE.1 hP 0 rfl rfl 45 (by decide) (hts _ mw_X12_leads__7) (fun _ h9 => h9) rfl dX12_leads_125 ?_
  refine lv_iload_n hx hb dX12_leads_128 rfl (lv_at hl 0 rfl) ?_
  refine jw_iald (v := 0) hx hb hE hP 9 0 rfl (by decide +kernel) (by decide +kernel) dX12_leads_129 ?_
  refine lv_iload_n hx hb dX12_leads_130 rfl (lv_at hl 1 rfl) ?_
  refine lv_icmp_ne (tgt := 136) hx hb dX12_leads_131 (by decide) (fun c9 => absurd (by decide +kernel) c9) (fun _ => ?_)
  refine lv_iload_n hx hb dX12_leads_134 rfl (lv_at hl 0 rfl) ?_
  refine W.widen (k := 0) (n := 0) (Nat.le_of_ble_eq_true rfl) (Nat.le_of_ble_eq_true rfl) ?_
  have hP : va_P D vwCl [] H := hP.sub [] rfl
  have hD : va_D A [] := hD.sub [] rfl rfl
  exact jw_iret hx hb hr hlocks rfl rfl hP hD hS dX12_leads_135
set_option maxHeartbeats 4000000 in
set_option maxRecDepth 100000 in
theorem k400_X11_leads {l : Launch} {D : va_G} {Y : Nat → ClassId} {tt : Nat → Nat} (h0 h1 h2 h3 h4 h5 h6 h7 h8 h9 h10 h11 h12 h13 h14 h15 h16 h17 h18 h19 h20 h21 : Nat) (p1 : Int32) (g_p1 : p1.toInt ≤ -1 ∨ 1 ≤ p1.toInt) (sz : Nat) : Met l yX11_leads wsX11_leads ({ frames := 1, cells := 0, slots := 0, locals := 21 }) (jw_Pc D Y tt [.ref h0, .int p1] [(h0, .inr (14, [.ref h2, .int 0, .ref h3, .ref h4, .ref h5, .ref h1, .ref h6, .ref h7, .ref h8, .ref h9, .ref h10, .ref h11, .ref h12, .ref h13, .ref h14, .ref h15, .int (-3), .int (-3)])), (h1, .inr (5, [.ref h3, .ref h5, .int 1, .int 1, .ref h16, .ref h17, .ref h18, .ref h19, .ref h20, .ref h21]))] sz) (jw_Qi D (fun r => r = (-1)) (fun w => w = []) (va_A [(h0, .inr (14, [.ref h2, .int 0, .ref h3, .ref h4, .ref h5, .ref h1, .ref h6, .ref h7, .ref h8, .ref h9, .ref h10, .ref h11, .ref h12, .ref h13, .ref h14, .ref h15, .int (-3), .int (-3)])), (h1, .inr (5, [.ref h3, .ref h5, .int 1, .int 1, .ref h16, .ref h17, .ref h18, .ref h19, .ref h20, .ref h21]))] sz)) 0 0 (va_A [(h0, .inr (14, [.ref h2, .int 0, .ref h3, .ref h4, .ref h5, .ref h1, .ref h6, .ref h7, .ref h8, .ref h9, .ref h10, .ref h11, .ref h12, .ref h13, .ref h14, .ref h15, .int (-3), .int (-3)])), (h1, .inr (5, [.ref h3, .ref h5, .int 1, .int 1, .ref h16, .ref h17, .ref h18, .ref h19, .ref h20, .ref h21]))] sz) := by
  refine jw_met (fun A => jw_Qi D (fun r => r = (-1)) (fun w => w = []) A) (cc := cX11_leads) (maxL := 9) (ret := (some .int)) pn_X11_leads rfl rfl ?_
  intro p e s m below meth c A H locs ls hx hb hml hr hts hown hlocks hin hP hD hA hS hE hl
  have hown : s.vm.findClass RX11 = some m.cls := hown
  have hl : lv_has ls 9 [(0, .ref h0), (1, .int p1)] := hl
  refine lv_aload_n hx hb dX11_leads_0 rfl (lv_at hl 0 rfl) ?_
  refine lv_iload_n hx hb dX11_leads_1 rfl (lv_at hl 1 rfl) ?_
  refine jw_mi (wc := [(h0, .inr (14, [.ref h2, .int 0, .ref h3, .ref h4, .ref h5, .ref h1, .ref h6, .ref h7, .ref h8, .ref h9, .ref h10, .ref h11, .ref h12, .ref h13, .ref h14, .ref h15, .int (-3), .int (-3)])), (h1, .inr (5, [.ref h3, .ref h5, .int 1, .int 1, .ref h16, .ref h17, .ref h18, .ref h19, .ref h20, .ref h21]))]) (cs := 0) (ss := 0) (va_runV (As := [.int p1]) (rest := []) ⟨hx, hb, hml, hown, hts⟩ (k127_X11_isCode h0 h1 h2 h3 h4 h5 h6 h7 h8 h9 h10 h11 h12 h13 h14 h15 h16 h17 h18 h19 h20 h21 p1 (by have := g_p1; omega) H.size) (cwV 1 hts gX11_leads_X11_isCode rfl rfl rfl ydV_X11_isCode ⟨Nat.le_of_ble_eq_true rfl, Nat.le_of_ble_eq_true rfl⟩) (jw_mpreV (ci := 14) (q0 := 0) hP hD hS hA hE [true, true] rfl rfl rfl) rfl rfl hl.1 rfl (lv_room (Nat.le_of_ble_eq_true rfl)) dX11_leads_2 ⟨Nat.le_of_ble_eq_true rfl, Nat.le_of_ble_eq_true rfl⟩) hP hD hS hA [true, true] rfl rfl rfl (fun r9 w1 H locs hr9 hw9 hP hD hS => ?_)
  subst hr9
  subst hw9
  have hP : va_P D vwCl [(h0, .inr (14, [.ref h2, .int 0, .ref h3, .ref h4, .ref h5, .ref h1, .ref h6, .ref h7, .ref h8, .ref h9, .ref h10, .ref h11, .ref h12, .ref h13, .ref h14, .ref h15, .int (-3), .int (-3)])), (h1, .inr (5, [.ref h3, .ref h5, .int 1, .int 1, .ref h16, .ref h17, .ref h18, .ref h19, .ref h20, .ref h21]))] H := hP
  have hD : va_D A [(h0, .inr (14, [.ref h2, .int 0, .ref h3, .ref h4, .ref h5, .ref h1, .ref h6, .ref h7, .ref h8, .ref h9, .ref h10, .ref h11, .ref h12, .ref h13, .ref h14, .ref h15, .int (-3), .int (-3)])), (h1, .inr (5, [.ref h3, .ref h5, .int 1, .int 1, .ref h16, .ref h17, .ref h18, .ref h19, .ref h20, .ref h21]))] := hD
  refine lv_if_eq (tgt := 18) hx hb dX11_leads_5 (by decide) (fun _ => ?_) (fun c9 => absurd (by decide +kernel) c9)
  refine lv_iconst (v := (-1)) hx hb dX11_leads_18 (by decide +kernel) ?_
  refine W.widen (k := 0) (n := 0) (Nat.le_of_ble_eq_true rfl) (Nat.le_of_ble_eq_true rfl) ?_
  have hP : va_P D vwCl [] H := hP.sub [] rfl
  have hD : va_D A [] := hD.sub [] rfl rfl
  exact jw_iret hx hb hr hlocks rfl rfl hP hD hS dX11_leads_19
set_option maxHeartbeats 4000000 in
set_option maxRecDepth 100000 in
theorem k401_X12_leads {l : Launch} {D : va_G} {Y : Nat → ClassId} {tt : Nat → Nat} (h0 h1 h2 h3 h4 h5 h6 h7 h8 h9 h10 h11 h12 h13 h14 h15 h16 h17 h18 h19 h20 h21 h22 h23 h24 h25 h26 h27 h28 h29 h30 h31 h32 h33 h34 h35 : Nat) (p1 : Int32) (g_p1 : p1.toInt ≤ -1 ∨ 1 ≤ p1.toInt) (sz : Nat) : Met l yX12_leads wsX12_leads ({ frames := 0, cells := 0, slots := 0, locals := 0 }) (jw_Pc D Y tt [.ref h0, .int p1] [(h0, .inr (15, [.ref h1, .int 0, .int 0, .ref h2, .int 0, .int (-1), .int 0, .int 0, .int 0, .int 0, .int 0, .int 2, .int 0, .int 0, .int 0, .ref h3, .ref h4, .ref h5, .ref h6, .int 2, .int 0, .int 0, .int 0, .int 0, .ref h7, .ref h8, .ref h9, .ref h10, .int 2, .ref h11, .int 1, .ref h12, .ref h13, .int 1, .ref h14, .ref h15, .ref h16, .int 0, .ref h17, .ref h18, .ref h19, .ref h20, .ref h21, .ref h22, .ref h23, .ref h24, .ref h25, .int 0, .ref h26, .ref h27, .ref h28, .int (-1), .ref h29, .long 0, .long 0, .int 0, .int 0, .long 0, .long 0, .ref h30, .ref h31, .ref h32, .ref h33, .ref h34, .ref h35, .long 0]))] sz) (jw_Qi D (fun r => r = (-1)) (fun w => w = []) (va_A [(h0, .inr (15, [.ref h1, .int 0, .int 0, .ref h2, .int 0, .int (-1), .int 0, .int 0, .int 0, .int 0, .int 0, .int 2, .int 0, .int 0, .int 0, .ref h3, .ref h4, .ref h5, .ref h6, .int 2, .int 0, .int 0, .int 0, .int 0, .ref h7, .ref h8, .ref h9, .ref h10, .int 2, .ref h11, .int 1, .ref h12, .ref h13, .int 1, .ref h14, .ref h15, .ref h16, .int 0, .ref h17, .ref h18, .ref h19, .ref h20, .ref h21, .ref h22, .ref h23, .ref h24, .ref h25, .int 0, .ref h26, .ref h27, .ref h28, .int (-1), .ref h29, .long 0, .long 0, .int 0, .int 0, .long 0, .long 0, .ref h30, .ref h31, .ref h32, .ref h33, .ref h34, .ref h35, .long 0]))] sz)) 0 0 (va_A [(h0, .inr (15, [.ref h1, .int 0, .int 0, .ref h2, .int 0, .int (-1), .int 0, .int 0, .int 0, .int 0, .int 0, .int 2, .int 0, .int 0, .int 0, .ref h3, .ref h4, .ref h5, .ref h6, .int 2, .int 0, .int 0, .int 0, .int 0, .ref h7, .ref h8, .ref h9, .ref h10, .int 2, .ref h11, .int 1, .ref h12, .ref h13, .int 1, .ref h14, .ref h15, .ref h16, .int 0, .ref h17, .ref h18, .ref h19, .ref h20, .ref h21, .ref h22, .ref h23, .ref h24, .ref h25, .int 0, .ref h26, .ref h27, .ref h28, .int (-1), .ref h29, .long 0, .long 0, .int 0, .int 0, .long 0, .long 0, .ref h30, .ref h31, .ref h32, .ref h33, .ref h34, .ref h35, .long 0]))] sz) := by
  refine jw_met (fun A => jw_Qi D (fun r => r = (-1)) (fun w => w = []) A) (cc := cX12_leads) (maxL := 6) (ret := (some .int)) pn_X12_leads rfl rfl ?_
  intro p e s m below meth c A H locs ls hx hb hml hr hts hown hlocks hin hP hD hA hS hE hl
  have hown : s.vm.findClass RX12 = some m.cls := hown
  have hl : lv_has ls 6 [(0, .ref h0), (1, .int p1)] := hl
  refine lv_aload_n hx hb dX12_leads_0 rfl (lv_at hl 0 rfl) ?_
  refine lv_iconst (v := 0) hx hb dX12_leads_1 (by decide +kernel) ?_
  refine va_put (D := D) (ci := 15) (v := .int 0) (C := RX12) (T := TX12) (N := 66) hx hb hts iw_X12_leads__X12 tyX12 tyX12_ok nmX12 hown hE.1 hP hD hS 0 rfl rfl 2 (by decide) (hts _ mw_X12_leads__1) (fun _ h9 => h9) rfl (tyX12_ok 2 (by decide)) rfl rfl (Nat.le_of_ble_eq_true rfl) dX12_leads_2 (fun H locs hP hD hS => ?_)
  have hP : va_P D vwCl [(h0, .inr (15, [.ref h1, .int 0, .int 0, .ref h2, .int 0, .int (-1), .int 0, .int 0, .int 0, .int 0, .int 0, .int 2, .int 0, .int 0, .int 0, .ref h3, .ref h4, .ref h5, .ref h6, .int 2, .int 0, .int 0, .int 0, .int 0, .ref h7, .ref h8, .ref h9, .ref h10, .int 2, .ref h11, .int 1, .ref h12, .ref h13, .int 1, .ref h14, .ref h15, .ref h16, .int 0, .ref h17, .ref h18, .ref h19, .ref h20, .ref h21, .ref h22, .ref h23, .ref h24, .ref h25, .int 0, .ref h26, .ref h27, .ref h28, .int (-1), .ref h29, .long 0, .long 0, .int 0, .int 0, .long 0, .long 0, .ref h30, .ref h31, .ref h32, .ref h33, .ref h34, .ref h35, .long 0]))] H := hP
  have hD : va_D A [(h0, .inr (15, [.ref h1, .int 0, .int 0, .ref h2, .int 0, .int (-1), .int 0, .int 0, .int 0, .int 0, .int 0, .int 2, .int 0, .int 0, .int 0, .ref h3, .ref h4, .ref h5, .ref h6, .int 2, .int 0, .int 0, .int 0, .int 0, .ref h7, .ref h8, .ref h9, .ref h10, .int 2, .ref h11, .int 1, .ref h12, .ref h13, .int 1, .ref h14, .ref h15, .ref h16, .int 0, .ref h17, .ref h18, .ref h19, .ref h20, .ref h21, .ref h22, .ref h23, .ref h24, .ref h25, .int 0, .ref h26, .ref h27, .ref h28, .int (-1), .ref h29, .long 0, .long 0, .int 0, .int 0, .long 0, .long 0, .ref h30, .ref h31, .ref h32, .ref h33, .ref h34, .ref h35, .long 0]))] := hD
  refine lv_iload_n hx hb dX12_leads_5 rfl (lv_at hl 1 rfl) ?_
  refine lv_if_lt (tgt := 24) hx hb dX12_leads_6 (by decide) (fun c_1 => ?_) (fun c_1 => ?_)
  · refine lv_iconst (v := (-1)) hx hb dX12_leads_24 (by decide +kernel) ?_
    refine W.widen (k := 0) (n := 0) (Nat.le_of_ble_eq_true rfl) (Nat.le_of_ble_eq_true rfl) ?_
    have hP : va_P D vwCl [] H := hP.sub [] rfl
    have hD : va_D A [] := hD.sub [] rfl rfl
    exact jw_iret hx hb hr hlocks rfl rfl hP hD hS dX12_leads_25
  · refine lv_iload_n hx hb dX12_leads_9 rfl (lv_at hl 1 rfl) ?_
    refine lv_aload_n hx hb dX12_leads_10 rfl (lv_at hl 0 rfl) ?_
    refine va_get (D := D) (ci := 15) (v := .int 1) (C := RX12) (T := TX12) (N := 66) hx hb hts iw_X12_leads__X12 hown hE.1 hP 0 rfl rfl 30 (by decide) (hts _ mw_X12_leads__2) (fun _ h9 => h9) rfl dX12_leads_11 ?_
    refine lv_icmp_ge (tgt := 24) hx hb dX12_leads_14 (by decide) (fun c_2 => ?_) (fun c_2 => False.elim (by have := g_p1; have := (jw_fnl c_1); have : (0 : Int32).toInt = 0 := (by decide +kernel); have : (1 : Int32).toInt = 1 := (by decide +kernel); have := (jw_fnle c_2); omega))
    refine lv_iconst (v := (-1)) hx hb dX12_leads_24 (by decide +kernel) ?_
    refine W.widen (k := 0) (n := 0) (Nat.le_of_ble_eq_true rfl) (Nat.le_of_ble_eq_true rfl) ?_
    have hP : va_P D vwCl [] H := hP.sub [] rfl
    have hD : va_D A [] := hD.sub [] rfl rfl
    exact jw_iret hx hb hr hlocks rfl rfl hP hD hS dX12_leads_25
set_option maxHeartbeats 4000000 in
set_option maxRecDepth 100000 in
theorem k402_X11_moves {l : Launch} {D : va_G} {Y : Nat → ClassId} {tt : Nat → Nat} (h0 h1 h2 h3 h4 h5 h6 h7 h8 h9 h10 h11 h12 h13 h14 h15 h16 h17 h18 h19 h20 : Nat) (p1 : Int32) (p2 : Int32) (p3 : Int32) (sz : Nat) : Met l yX11_moves wsX11_moves ({ frames := 1, cells := 0, slots := 0, locals := 21 }) (jw_Pc D Y tt [.ref h0, .int p1, .int p2, .int p3] [(h0, .inr (14, [.ref h2, .int 0, .ref h1, .ref h3, .ref h4, .ref h5, .ref h6, .ref h7, .ref h8, .ref h9, .ref h10, .ref h11, .ref h12, .ref h13, .ref h14, .ref h15, .int (-3), .int (-3)])), (h1, .inr (6, [.int 2, .int 0, .int 0, .int 0, .int 0, .ref h16, .ref h17, .ref h18, .ref h19, .ref h20, .int 0]))] sz) (jw_Ql D (fun r => r = (-9223372036854775808)) (fun w => w = []) (va_A [(h0, .inr (14, [.ref h2, .int 0, .ref h1, .ref h3, .ref h4, .ref h5, .ref h6, .ref h7, .ref h8, .ref h9, .ref h10, .ref h11, .ref h12, .ref h13, .ref h14, .ref h15, .int (-3), .int (-3)])), (h1, .inr (6, [.int 2, .int 0, .int 0, .int 0, .int 0, .ref h16, .ref h17, .ref h18, .ref h19, .ref h20, .int 0]))] sz)) 0 0 (va_A [(h0, .inr (14, [.ref h2, .int 0, .ref h1, .ref h3, .ref h4, .ref h5, .ref h6, .ref h7, .ref h8, .ref h9, .ref h10, .ref h11, .ref h12, .ref h13, .ref h14, .ref h15, .int (-3), .int (-3)])), (h1, .inr (6, [.int 2, .int 0, .int 0, .int 0, .int 0, .ref h16, .ref h17, .ref h18, .ref h19, .ref h20, .int 0]))] sz) := by
  refine jw_met (fun A => jw_Ql D (fun r => r = (-9223372036854775808)) (fun w => w = []) A) (cc := cX11_moves) (maxL := 8) (ret := (some .long)) pn_X11_moves rfl rfl ?_
  intro p e s m below meth c A H locs ls hx hb hml hr hts hown hlocks hin hP hD hA hS hE hl
  have hown : s.vm.findClass RX11 = some m.cls := hown
  have hl : lv_has ls 8 [(0, .ref h0), (1, .int p1), (2, .int p2), (3, .int p3)] := hl
  refine lv_aload_n hx hb dX11_moves_0 rfl (lv_at hl 0 rfl) ?_
  refine lv_iload_n hx hb dX11_moves_1 rfl (lv_at hl 1 rfl) ?_
  refine jw_mi (wc := [(h0, .inr (14, [.ref h2, .int 0, .ref h1, .ref h3, .ref h4, .ref h5, .ref h6, .ref h7, .ref h8, .ref h9, .ref h10, .ref h11, .ref h12, .ref h13, .ref h14, .ref h15, .int (-3), .int (-3)])), (h1, .inr (6, [.int 2, .int 0, .int 0, .int 0, .int 0, .ref h16, .ref h17, .ref h18, .ref h19, .ref h20, .int 0]))]) (cs := 0) (ss := 0) (va_runV (As := [.int p1]) (rest := []) ⟨hx, hb, hml, hown, hts⟩ (k117_X11_isBar h0 h1 h2 h3 h4 h5 h6 h7 h8 h9 h10 h11 h12 h13 h14 h15 h16 h17 h18 h19 h20 p1 H.size) (cwV 1 hts gX11_moves_X11_isBar rfl rfl rfl ydV_X11_isBar ⟨Nat.le_of_ble_eq_true rfl, Nat.le_of_ble_eq_true rfl⟩) (jw_mpreV (ci := 14) (q0 := 0) hP hD hS hA hE [true, true] rfl rfl rfl) rfl rfl hl.1 rfl (lv_room (Nat.le_of_ble_eq_true rfl)) dX11_moves_2 ⟨Nat.le_of_ble_eq_true rfl, Nat.le_of_ble_eq_true rfl⟩) hP hD hS hA [true, true] rfl rfl rfl (fun r9 w1 H locs hr9 hw9 hP hD hS => ?_)
  subst hr9
  subst hw9
  have hP : va_P D vwCl [(h0, .inr (14, [.ref h2, .int 0, .ref h1, .ref h3, .ref h4, .ref h5, .ref h6, .ref h7, .ref h8, .ref h9, .ref h10, .ref h11, .ref h12, .ref h13, .ref h14, .ref h15, .int (-3), .int (-3)])), (h1, .inr (6, [.int 2, .int 0, .int 0, .int 0, .int 0, .ref h16, .ref h17, .ref h18, .ref h19, .ref h20, .int 0]))] H := hP
  have hD : va_D A [(h0, .inr (14, [.ref h2, .int 0, .ref h1, .ref h3, .ref h4, .ref h5, .ref h6, .ref h7, .ref h8, .ref h9, .ref h10, .ref h11, .ref h12, .ref h13, .ref h14, .ref h15, .int (-3), .int (-3)])), (h1, .inr (6, [.int 2, .int 0, .int 0, .int 0, .int 0, .ref h16, .ref h17, .ref h18, .ref h19, .ref h20, .int 0]))] := hD
  refine lv_if_eq (tgt := 29) hx hb dX11_moves_5 (by decide) (fun _ => ?_) (fun c9 => absurd (by decide +kernel) c9)
  refine lv_ldc2 (v := (-9223372036854775808)) hx hb hown (hts _ mw_X11_moves__1) dX11_moves_29 ?_
  refine W.widen (k := 0) (n := 0) (Nat.le_of_ble_eq_true rfl) (Nat.le_of_ble_eq_true rfl) ?_
  have hP : va_P D vwCl [] H := hP.sub [] rfl
  have hD : va_D A [] := hD.sub [] rfl rfl
  exact jw_lret hx hb hr hlocks rfl rfl hP hD hS dX11_moves_32
set_option maxHeartbeats 4000000 in
set_option maxRecDepth 100000 in
theorem k403_X12_moves {l : Launch} {D : va_G} {Y : Nat → ClassId} {tt : Nat → Nat} (h0 h1 h2 h3 h4 h5 h6 h7 h8 h9 h10 h11 h12 h13 h14 h15 h16 h17 h18 h19 h20 h21 h22 h23 h24 h25 h26 h27 h28 h29 h30 h31 h32 h33 h34 h35 : Nat) (p1 : Int32) (p2 : Int32) (p3 : Int32) (sz : Nat) : Met l yX12_moves wsX12_moves ({ frames := 0, cells := 0, slots := 0, locals := 0 }) (jw_Pc D Y tt [.ref h0, .int p1, .int p2, .int p3] [(h0, .inr (15, [.ref h1, .int 0, .int 0, .ref h2, .int 0, .int (-1), .int 0, .int 0, .int 0, .int 0, .int 0, .int 2, .int 0, .int 0, .int 0, .ref h3, .ref h4, .ref h5, .ref h6, .int 2, .int 0, .int 0, .int 0, .int 0, .ref h7, .ref h8, .ref h9, .ref h10, .int 2, .ref h11, .int 1, .ref h12, .ref h13, .int 1, .ref h14, .ref h15, .ref h16, .int 0, .ref h17, .ref h18, .ref h19, .ref h20, .ref h21, .ref h22, .ref h23, .ref h24, .ref h25, .int 0, .ref h26, .ref h27, .ref h28, .int (-1), .ref h29, .long 0, .long 0, .int 0, .int 0, .long 0, .long 0, .ref h30, .ref h31, .ref h32, .ref h33, .ref h34, .ref h35, .long 0]))] sz) (jw_Ql D (fun r => r = (-9223372036854775808)) (fun w => w = []) (va_A [(h0, .inr (15, [.ref h1, .int 0, .int 0, .ref h2, .int 0, .int (-1), .int 0, .int 0, .int 0, .int 0, .int 0, .int 2, .int 0, .int 0, .int 0, .ref h3, .ref h4, .ref h5, .ref h6, .int 2, .int 0, .int 0, .int 0, .int 0, .ref h7, .ref h8, .ref h9, .ref h10, .int 2, .ref h11, .int 1, .ref h12, .ref h13, .int 1, .ref h14, .ref h15, .ref h16, .int 0, .ref h17, .ref h18, .ref h19, .ref h20, .ref h21, .ref h22, .ref h23, .ref h24, .ref h25, .int 0, .ref h26, .ref h27, .ref h28, .int (-1), .ref h29, .long 0, .long 0, .int 0, .int 0, .long 0, .long 0, .ref h30, .ref h31, .ref h32, .ref h33, .ref h34, .ref h35, .long 0]))] sz)) 0 0 (va_A [(h0, .inr (15, [.ref h1, .int 0, .int 0, .ref h2, .int 0, .int (-1), .int 0, .int 0, .int 0, .int 0, .int 0, .int 2, .int 0, .int 0, .int 0, .ref h3, .ref h4, .ref h5, .ref h6, .int 2, .int 0, .int 0, .int 0, .int 0, .ref h7, .ref h8, .ref h9, .ref h10, .int 2, .ref h11, .int 1, .ref h12, .ref h13, .int 1, .ref h14, .ref h15, .ref h16, .int 0, .ref h17, .ref h18, .ref h19, .ref h20, .ref h21, .ref h22, .ref h23, .ref h24, .ref h25, .int 0, .ref h26, .ref h27, .ref h28, .int (-1), .ref h29, .long 0, .long 0, .int 0, .int 0, .long 0, .long 0, .ref h30, .ref h31, .ref h32, .ref h33, .ref h34, .ref h35, .long 0]))] sz) := by
  refine jw_met (fun A => jw_Ql D (fun r => r = (-9223372036854775808)) (fun w => w = []) A) (cc := cX12_moves) (maxL := 9) (ret := (some .long)) pn_X12_moves rfl rfl ?_
  intro p e s m below meth c A H locs ls hx hb hml hr hts hown hlocks hin hP hD hA hS hE hl
  have hown : s.vm.findClass RX12 = some m.cls := hown
  have hl : lv_has ls 9 [(0, .ref h0), (1, .int p1), (2, .int p2), (3, .int p3)] := hl
  refine lv_aload_n hx hb dX12_moves_0 rfl (lv_at hl 0 rfl) ?_
  refine lv_iconst (v := 0) hx hb dX12_moves_1 (by decide +kernel) ?_
  refine va_put (D := D) (ci := 15) (v := .int 0) (C := RX12) (T := TX12) (N := 66) hx hb hts iw_X12_moves__X12 tyX12 tyX12_ok nmX12 hown hE.1 hP hD hS 0 rfl rfl 2 (by decide) (hts _ mw_X12_moves__1) (fun _ h9 => h9) rfl (tyX12_ok 2 (by decide)) rfl rfl (Nat.le_of_ble_eq_true rfl) dX12_moves_2 (fun H locs hP hD hS => ?_)
  have hP : va_P D vwCl [(h0, .inr (15, [.ref h1, .int 0, .int 0, .ref h2, .int 0, .int (-1), .int 0, .int 0, .int 0, .int 0, .int 0, .int 2, .int 0, .int 0, .int 0, .ref h3, .ref h4, .ref h5, .ref h6, .int 2, .int 0, .int 0, .int 0, .int 0, .ref h7, .ref h8, .ref h9, .ref h10, .int 2, .ref h11, .int 1, .ref h12, .ref h13, .int 1, .ref h14, .ref h15, .ref h16, .int 0, .ref h17, .ref h18, .ref h19, .ref h20, .ref h21, .ref h22, .ref h23, .ref h24, .ref h25, .int 0, .ref h26, .ref h27, .ref h28, .int (-1), .ref h29, .long 0, .long 0, .int 0, .int 0, .long 0, .long 0, .ref h30, .ref h31, .ref h32, .ref h33, .ref h34, .ref h35, .long 0]))] H := hP
  have hD : va_D A [(h0, .inr (15, [.ref h1, .int 0, .int 0, .ref h2, .int 0, .int (-1), .int 0, .int 0, .int 0, .int 0, .int 0, .int 2, .int 0, .int 0, .int 0, .ref h3, .ref h4, .ref h5, .ref h6, .int 2, .int 0, .int 0, .int 0, .int 0, .ref h7, .ref h8, .ref h9, .ref h10, .int 2, .ref h11, .int 1, .ref h12, .ref h13, .int 1, .ref h14, .ref h15, .ref h16, .int 0, .ref h17, .ref h18, .ref h19, .ref h20, .ref h21, .ref h22, .ref h23, .ref h24, .ref h25, .int 0, .ref h26, .ref h27, .ref h28, .int (-1), .ref h29, .long 0, .long 0, .int 0, .int 0, .long 0, .long 0, .ref h30, .ref h31, .ref h32, .ref h33, .ref h34, .ref h35, .long 0]))] := hD
  refine lv_iload_n hx hb dX12_moves_5 rfl (lv_at hl 1 rfl) ?_
  refine lv_if_lt (tgt := 38) hx hb dX12_moves_6 (by decide) (fun c_1 => ?_) (fun c_1 => ?_)
  · refine lv_ldc2 (v := (-9223372036854775808)) hx hb hown (hts _ mw_X12_moves__3) dX12_moves_38 ?_
    refine W.widen (k := 0) (n := 0) (Nat.le_of_ble_eq_true rfl) (Nat.le_of_ble_eq_true rfl) ?_
    have hP : va_P D vwCl [] H := hP.sub [] rfl
    have hD : va_D A [] := hD.sub [] rfl rfl
    exact jw_lret hx hb hr hlocks rfl rfl hP hD hS dX12_moves_41
  · refine lv_iload_n hx hb dX12_moves_9 rfl (lv_at hl 1 rfl) ?_
    refine lv_aload_n hx hb dX12_moves_10 rfl (lv_at hl 0 rfl) ?_
    refine va_get (D := D) (ci := 15) (v := .int 0) (C := RX12) (T := TX12) (N := 66) hx hb hts iw_X12_moves__X12 hown hE.1 hP 0 rfl rfl 14 (by decide) (hts _ mw_X12_moves__2) (fun _ h9 => h9) rfl dX12_moves_11 ?_
    refine lv_icmp_ge (tgt := 38) hx hb dX12_moves_14 (by decide) (fun c_2 => ?_) (fun c_2 => False.elim (by have := (jw_fnl c_1); have : (0 : Int32).toInt = 0 := (by decide +kernel); have := (jw_fnle c_2); omega))
    refine lv_ldc2 (v := (-9223372036854775808)) hx hb hown (hts _ mw_X12_moves__3) dX12_moves_38 ?_
    refine W.widen (k := 0) (n := 0) (Nat.le_of_ble_eq_true rfl) (Nat.le_of_ble_eq_true rfl) ?_
    have hP : va_P D vwCl [] H := hP.sub [] rfl
    have hD : va_D A [] := hD.sub [] rfl rfl
    exact jw_lret hx hb hr hlocks rfl rfl hP hD hS dX12_moves_41
set_option maxHeartbeats 4000000 in
set_option maxRecDepth 100000 in
theorem k404_X0_isEvenEnough {l : Launch} {D : va_G} {Y : Nat → ClassId} {tt : Nat → Nat} (h0 h1 h2 h3 h4 h5 h6 h7 h8 h9 h10 h11 h12 h13 h14 h15 : Nat) (p3 : Int32) (g_p3 : (0 ≤ p3.toInt ∧ p3.toInt ≤ 100)) (sz : Nat) : Met l yX0_isEvenEnough wsX0_isEvenEnough ({ frames := 0, cells := 0, slots := 0, locals := 0 }) (jw_Pc D Y tt [.ref h3, .int (-1), .int (-1), .int p3] [(h0, .inr (6, [.int 2, .int 0, .int 0, .int 0, .int 0, .ref h4, .ref h5, .ref h6, .ref h7, .ref h8, .int 0])), (h1, .inr (5, [.ref h0, .ref h9, .int 1, .int 1, .ref h10, .ref h11, .ref h12, .ref h2, .ref h13, .ref h14])), (h2, .inl (Y 1, 1024, .inl (jw_l 0 [1]))), (h3, .inr (3, [.ref h1, .ref h0, .ref h9, .ref h15, .int 0]))] sz) (jw_Qi D (fun r => r = 1) (fun w => w = [(h0, .inr (6, [.int 2, .int 0, .int 0, .int 0, .int 0, .ref h4, .ref h5, .ref h6, .ref h7, .ref h8, .int 0])), (h1, .inr (5, [.ref h0, .ref h9, .int 1, .int 1, .ref h10, .ref h11, .ref h12, .ref h2, .ref h13, .ref h14])), (h2, .inl (Y 1, 1024, .inl (jw_l 0 [1]))), (h3, .inr (3, [.ref h1, .ref h0, .ref h9, .ref h15, .int 0]))]) (va_A [(h0, .inr (6, [.int 2, .int 0, .int 0, .int 0, .int 0, .ref h4, .ref h5, .ref h6, .ref h7, .ref h8, .int 0])), (h1, .inr (5, [.ref h0, .ref h9, .int 1, .int 1, .ref h10, .ref h11, .ref h12, .ref h2, .ref h13, .ref h14])), (h2, .inl (Y 1, 1024, .inl (jw_l 0 [1]))), (h3, .inr (3, [.ref h1, .ref h0, .ref h9, .ref h15, .int 0]))] sz)) 0 0 (va_A [(h0, .inr (6, [.int 2, .int 0, .int 0, .int 0, .int 0, .ref h4, .ref h5, .ref h6, .ref h7, .ref h8, .int 0])), (h1, .inr (5, [.ref h0, .ref h9, .int 1, .int 1, .ref h10, .ref h11, .ref h12, .ref h2, .ref h13, .ref h14])), (h2, .inl (Y 1, 1024, .inl (jw_l 0 [1]))), (h3, .inr (3, [.ref h1, .ref h0, .ref h9, .ref h15, .int 0]))] sz) := by
  refine jw_met (fun A => jw_Qi D (fun r => r = 1) (fun w => w = [(h0, .inr (6, [.int 2, .int 0, .int 0, .int 0, .int 0, .ref h4, .ref h5, .ref h6, .ref h7, .ref h8, .int 0])), (h1, .inr (5, [.ref h0, .ref h9, .int 1, .int 1, .ref h10, .ref h11, .ref h12, .ref h2, .ref h13, .ref h14])), (h2, .inl (Y 1, 1024, .inl (jw_l 0 [1]))), (h3, .inr (3, [.ref h1, .ref h0, .ref h9, .ref h15, .int 0]))]) A) (cc := cX0_isEvenEnough) (maxL := 9) (ret := (some .boolean)) pn_X0_isEvenEnough rfl rfl ?_
  intro p e s m below meth c A H locs ls hx hb hml hr hts hown hlocks hin hP hD hA hS hE hl
  have hown : s.vm.findClass RX0 = some m.cls := hown
  have hl : lv_has ls 9 [(0, .ref h3), (1, .int (-1)), (2, .int (-1)), (3, .int p3)] := hl
  refine lv_iload_n hx hb dX0_isEvenEnough_0 rfl (lv_at hl 1 rfl) ?_
  refine lv_iconst (v := (-1)) hx hb dX0_isEvenEnough_1 (by decide +kernel) ?_
  refine lv_icmp_ne (tgt := 9) hx hb dX0_isEvenEnough_2 (by decide) (fun c9 => absurd (by decide +kernel) c9) (fun _ => ?_)
  refine lv_iconst (v := 0) hx hb dX0_isEvenEnough_5 (by decide +kernel) ?_
  refine lv_goto (tgt := 12) hx hb dX0_isEvenEnough_6 (by decide) ?_
  refine lv_iload_n hx hb dX0_isEvenEnough_12 rfl (lv_at hl 2 rfl) ?_
  refine lv_iconst (v := (-1)) hx hb dX0_isEvenEnough_13 (by decide +kernel) ?_
  refine lv_icmp_ne (tgt := 21) hx hb dX0_isEvenEnough_14 (by decide) (fun c9 => absurd (by decide +kernel) c9) (fun _ => ?_)
  refine lv_iconst (v := 0) hx hb dX0_isEvenEnough_17 (by decide +kernel) ?_
  refine lv_goto (tgt := 24) hx hb dX0_isEvenEnough_18 (by decide) ?_
  refine jw_ior (v := 0) hx hb dX0_isEvenEnough_24 (by decide +kernel) ?_
  refine lv_istore (lv' := [(4, .int 0), (0, .ref h3), (1, .int (-1)), (2, .int (-1)), (3, .int p3)]) hx hb dX0_isEvenEnough_25 hl (by decide) rfl (fun ls hl => ?_)
  refine lv_aload_n hx hb dX0_isEvenEnough_27 rfl (lv_at hl 1 rfl) ?_
  refine va_get (D := D) (ci := 3) (v := .ref h1) (C := RX0) (T := TX0) (N := 5) hx hb hts iw_X0_isEvenEnough__X0 hown hE.1 hP 3 rfl rfl 0 (by decide) (hts _ mw_X0_isEvenEnough__1) (fun _ h9 => h9) rfl dX0_isEvenEnough_28 ?_
  refine va_getN (D := D) (ci := 5) (v := .ref h2) (C := RX2) (T := TX2) (N := 10) hx hb hts iw_X0_isEvenEnough__X2 hown hE.1 hP 1 rfl rfl 7 (by decide) (nf_X0_98 hE) (fun _ h9 => h9) rfl dX0_isEvenEnough_31 ?_
  refine lv_iload hx hb dX0_isEvenEnough_34 (lv_at hl 0 rfl) ?_
  refine jw_iald (v := 1) hx hb hE hP 2 0 rfl (by decide +kernel) (by decide +kernel) dX0_isEvenEnough_36 ?_
  refine lv_i2l (v := 1) hx hb dX0_isEvenEnough_37 (by decide +kernel) ?_
  refine lv_lstore (lv' := [(5, .long 1), (4, .int 0), (0, .ref h3), (1, .int (-1)), (2, .int (-1)), (3, .int p3)]) hx hb dX0_isEvenEnough_38 hl (by decide) rfl (fun ls hl => ?_)
  refine lv_lload hx hb dX0_isEvenEnough_40 (lv_at hl 0 rfl) ?_
  refine lv_lconst (v := 0) hx hb dX0_isEvenEnough_42 (by decide +kernel) ?_
  refine jw_lcmp (v := 1) hx hb dX0_isEvenEnough_43 (by decide +kernel) ?_
  refine lv_if_ne (tgt := 49) hx hb dX0_isEvenEnough_44 (by decide) (fun _ => ?_) (fun c9 => absurd c9 (by decide +kernel))
  refine lv_iconst (v := 0) hx hb dX0_isEvenEnough_49 (by decide +kernel) ?_
  refine lv_istore (lv' := [(7, .int 0), (5, .long 1), (4, .int 0), (0, .ref h3), (1, .int (-1)), (2, .int (-1)), (3, .int p3)]) hx hb dX0_isEvenEnough_50 hl (by decide) rfl (fun ls hl => ?_)
  refine lv_iload hx hb dX0_isEvenEnough_52 (lv_at hl 0 rfl) ?_
  refine lv_aload_n hx hb dX0_isEvenEnough_54 rfl (lv_at hl 3 rfl) ?_
  refine va_get (D := D) (ci := 3) (v := .ref h0) (C := RX0) (T := TX0) (N := 5) hx hb hts iw_X0_isEvenEnough__X0 hown hE.1 hP 3 rfl rfl 1 (by decide) (hts _ mw_X0_isEvenEnough__2) (fun _ h9 => h9) rfl dX0_isEvenEnough_55 ?_
  refine va_getN (D := D) (ci := 6) (v := .int 0) (C := RX3) (T := TX3) (N := 11) hx hb hts iw_X0_isEvenEnough__X3 hown hE.1 hP 0 rfl rfl 2 (by decide) (nf_X0_101 hE) (fun _ h9 => h9) rfl dX0_isEvenEnough_58 ?_
  refine lv_icmp_ge (tgt := 124) hx hb dX0_isEvenEnough_61 (by decide) (fun _ => ?_) (fun c9 => absurd (by decide +kernel) c9)
  refine lv_iconst (v := 1) hx hb dX0_isEvenEnough_124 (by decide +kernel) ?_
  refine W.widen (k := 0) (n := 0) (Nat.le_of_ble_eq_true rfl) (Nat.le_of_ble_eq_true rfl) ?_
  exact jw_zret hx hb hr hlocks rfl rfl rfl hP hD hS dX0_isEvenEnough_125
set_option maxHeartbeats 4000000 in
set_option maxRecDepth 100000 in
theorem k405_X11_leave {l : Launch} {D : va_G} {Y : Nat → ClassId} {tt : Nat → Nat} (h0 h1 h2 h3 h4 h5 h6 h7 h8 h9 h10 h11 h12 h13 h14 h15 h16 h17 h18 h19 h20 h21 h22 h23 h24 h25 h26 h27 : Nat) (p1 : Int32) (g_p1 : (0 ≤ p1.toInt ∧ p1.toInt ≤ 100)) (sz : Nat) : Met l yX11_leave wsX11_leave ({ frames := 1, cells := 0, slots := 0, locals := 28 }) (jw_Pc D Y tt [.ref h0, .int p1] [(h0, .inr (14, [.ref h5, .int 0, .ref h1, .ref h6, .ref h7, .ref h2, .ref h8, .ref h9, .ref h10, .ref h11, .ref h12, .ref h13, .ref h14, .ref h15, .ref h4, .ref h16, .int (-3), .int (-3)])), (h1, .inr (6, [.int 2, .int 0, .int 0, .int 0, .int 0, .ref h17, .ref h18, .ref h19, .ref h20, .ref h21, .int 0])), (h2, .inr (5, [.ref h1, .ref h7, .int 1, .int 1, .ref h22, .ref h23, .ref h24, .ref h3, .ref h25, .ref h26])), (h3, .inl (Y 1, 1024, .inl (jw_l 0 [1]))), (h4, .inr (3, [.ref h2, .ref h1, .ref h7, .ref h27, .int 0]))] sz) (jw_Qi D (fun r => r = 0) (fun w => w = []) (va_A [(h0, .inr (14, [.ref h5, .int 0, .ref h1, .ref h6, .ref h7, .ref h2, .ref h8, .ref h9, .ref h10, .ref h11, .ref h12, .ref h13, .ref h14, .ref h15, .ref h4, .ref h16, .int (-3), .int (-3)])), (h1, .inr (6, [.int 2, .int 0, .int 0, .int 0, .int 0, .ref h17, .ref h18, .ref h19, .ref h20, .ref h21, .int 0])), (h2, .inr (5, [.ref h1, .ref h7, .int 1, .int 1, .ref h22, .ref h23, .ref h24, .ref h3, .ref h25, .ref h26])), (h3, .inl (Y 1, 1024, .inl (jw_l 0 [1]))), (h4, .inr (3, [.ref h2, .ref h1, .ref h7, .ref h27, .int 0]))] sz)) 0 0 (va_A [(h0, .inr (14, [.ref h5, .int 0, .ref h1, .ref h6, .ref h7, .ref h2, .ref h8, .ref h9, .ref h10, .ref h11, .ref h12, .ref h13, .ref h14, .ref h15, .ref h4, .ref h16, .int (-3), .int (-3)])), (h1, .inr (6, [.int 2, .int 0, .int 0, .int 0, .int 0, .ref h17, .ref h18, .ref h19, .ref h20, .ref h21, .int 0])), (h2, .inr (5, [.ref h1, .ref h7, .int 1, .int 1, .ref h22, .ref h23, .ref h24, .ref h3, .ref h25, .ref h26])), (h3, .inl (Y 1, 1024, .inl (jw_l 0 [1]))), (h4, .inr (3, [.ref h2, .ref h1, .ref h7, .ref h27, .int 0]))] sz) := by
  refine jw_met (fun A => jw_Qi D (fun r => r = 0) (fun w => w = []) A) (cc := cX11_leave) (maxL := 4) (ret := (some .int)) pn_X11_leave rfl rfl ?_
  intro p e s m below meth c A H locs ls hx hb hml hr hts hown hlocks hin hP hD hA hS hE hl
  have hown : s.vm.findClass RX11 = some m.cls := hown
  have hl : lv_has ls 4 [(0, .ref h0), (1, .int p1)] := hl
  refine lv_iload_n hx hb dX11_leave_0 rfl (lv_at hl 1 rfl) ?_
  refine lv_if_lt (tgt := 10) hx hb dX11_leave_1 (by decide) (fun c_1 => False.elim (by have := g_p1; have : (0 : Int32).toInt = 0 := (by decide +kernel); have := (jw_flt c_1); omega)) (fun c_1 => ?_)
  refine lv_iload_n hx hb dX11_leave_4 rfl (lv_at hl 1 rfl) ?_
  refine lv_bipush (v := 100) hx hb dX11_leave_5 (by decide +kernel) ?_
  refine lv_icmp_le (tgt := 12) hx hb dX11_leave_7 (by decide) (fun c_2 => ?_) (fun c_2 => False.elim (by have := g_p1; have := (jw_fnl c_1); have : (0 : Int32).toInt = 0 := (by decide +kernel); have : (100 : Int32).toInt = 100 := (by decide +kernel); have := (jw_fnle c_2); omega))
  refine lv_aload_n hx hb dX11_leave_12 rfl (lv_at hl 0 rfl) ?_
  refine va_get (D := D) (ci := 14) (v := .ref h4) (C := RX11) (T := TX11) (N := 18) hx hb hts iw_X11_leave__X11 hown hE.1 hP 0 rfl rfl 14 (by decide) (hts _ mw_X11_leave__1) (fun _ h9 => h9) rfl dX11_leave_13 ?_
  refine lv_iconst (v := (-1)) hx hb dX11_leave_16 (by decide +kernel) ?_
  refine lv_iconst (v := (-1)) hx hb dX11_leave_17 (by decide +kernel) ?_
  refine lv_iload_n hx hb dX11_leave_18 rfl (lv_at hl 1 rfl) ?_
  refine jw_mi (wc := [(h1, .inr (6, [.int 2, .int 0, .int 0, .int 0, .int 0, .ref h17, .ref h18, .ref h19, .ref h20, .ref h21, .int 0])), (h2, .inr (5, [.ref h1, .ref h7, .int 1, .int 1, .ref h22, .ref h23, .ref h24, .ref h3, .ref h25, .ref h26])), (h3, .inl (Y 1, 1024, .inl (jw_l 0 [1]))), (h4, .inr (3, [.ref h2, .ref h1, .ref h7, .ref h27, .int 0]))]) (cs := 0) (ss := 0) (va_runV (As := [.int (-1), .int (-1), .int p1]) (rest := []) ⟨hx, hb, hml, hown, hts⟩ (k404_X0_isEvenEnough h1 h2 h3 h4 h17 h18 h19 h20 h21 h7 h22 h23 h24 h25 h26 h27 p1 (by have := g_p1; have := (jw_fnl c_1); have := (jw_fle c_2); have : (0 : Int32).toInt = 0 := (by decide +kernel); have : (100 : Int32).toInt = 100 := (by decide +kernel); omega) H.size) (cwV 3 hts gX11_leave_X0_isEvenEnough rfl rfl rfl ydV_X0_isEvenEnough ⟨Nat.le_of_ble_eq_true rfl, Nat.le_of_ble_eq_true rfl⟩) (jw_mpreV (ci := 3) (q0 := 4) hP hD hS hA hE [false, true, true, true, true] rfl rfl rfl) rfl rfl hl.1 rfl (lv_room (Nat.le_of_ble_eq_true rfl)) dX11_leave_19 ⟨Nat.le_of_ble_eq_true rfl, Nat.le_of_ble_eq_true rfl⟩) hP hD hS hA [false, true, true, true, true] rfl rfl rfl (fun r9 w1 H locs hr9 hw9 hP hD hS => ?_)
  subst hr9
  subst hw9
  have hP : va_P D vwCl [(h0, .inr (14, [.ref h5, .int 0, .ref h1, .ref h6, .ref h7, .ref h2, .ref h8, .ref h9, .ref h10, .ref h11, .ref h12, .ref h13, .ref h14, .ref h15, .ref h4, .ref h16, .int (-3), .int (-3)])), (h1, .inr (6, [.int 2, .int 0, .int 0, .int 0, .int 0, .ref h17, .ref h18, .ref h19, .ref h20, .ref h21, .int 0])), (h2, .inr (5, [.ref h1, .ref h7, .int 1, .int 1, .ref h22, .ref h23, .ref h24, .ref h3, .ref h25, .ref h26])), (h3, .inl (Y 1, 1024, .inl (jw_l 0 [1]))), (h4, .inr (3, [.ref h2, .ref h1, .ref h7, .ref h27, .int 0]))] H := hP
  have hD : va_D A [(h0, .inr (14, [.ref h5, .int 0, .ref h1, .ref h6, .ref h7, .ref h2, .ref h8, .ref h9, .ref h10, .ref h11, .ref h12, .ref h13, .ref h14, .ref h15, .ref h4, .ref h16, .int (-3), .int (-3)])), (h1, .inr (6, [.int 2, .int 0, .int 0, .int 0, .int 0, .ref h17, .ref h18, .ref h19, .ref h20, .ref h21, .int 0])), (h2, .inr (5, [.ref h1, .ref h7, .int 1, .int 1, .ref h22, .ref h23, .ref h24, .ref h3, .ref h25, .ref h26])), (h3, .inl (Y 1, 1024, .inl (jw_l 0 [1]))), (h4, .inr (3, [.ref h2, .ref h1, .ref h7, .ref h27, .int 0]))] := hD
  refine lv_if_eq (tgt := 27) hx hb dX11_leave_22 (by decide) (fun c9 => absurd c9 (by decide +kernel)) (fun _ => ?_)
  refine lv_iconst (v := 0) hx hb dX11_leave_25 (by decide +kernel) ?_
  refine W.widen (k := 0) (n := 0) (Nat.le_of_ble_eq_true rfl) (Nat.le_of_ble_eq_true rfl) ?_
  have hP : va_P D vwCl [] H := hP.sub [] rfl
  have hD : va_D A [] := hD.sub [] rfl rfl
  exact jw_iret hx hb hr hlocks rfl rfl hP hD hS dX11_leave_26
set_option maxHeartbeats 4000000 in
set_option maxRecDepth 100000 in
theorem k406_X12_isIn {l : Launch} {D : va_G} {Y : Nat → ClassId} {tt : Nat → Nat} (p0 : Int32) (g_p0 : (0 ≤ p0.toInt ∧ p0.toInt ≤ 100)) (sz : Nat) : Met l yX12_isIn wsX12_isIn ({ frames := 0, cells := 0, slots := 0, locals := 0 }) (jw_Pc D Y tt [.int p0, .int 0, .int 100] [] sz) (jw_Qi D (fun r => r = 1) (fun w => w = []) (va_A [] sz)) 0 0 (va_A [] sz) := by
  refine jw_met (fun A => jw_Qi D (fun r => r = 1) (fun w => w = []) A) (cc := cX12_isIn) (maxL := 3) (ret := (some .boolean)) pn_X12_isIn rfl rfl ?_
  intro p e s m below meth c A H locs ls hx hb hml hr hts hown hlocks hin hP hD hA hS hE hl
  have hown : s.vm.findClass RX12 = some m.cls := hown
  have hl : lv_has ls 3 [(0, .int p0), (1, .int 0), (2, .int 100)] := hl
  refine lv_iload_n hx hb dX12_isIn_0 rfl (lv_at hl 0 rfl) ?_
  refine lv_iload_n hx hb dX12_isIn_1 rfl (lv_at hl 1 rfl) ?_
  refine lv_icmp_lt (tgt := 14) hx hb dX12_isIn_2 (by decide) (fun c_1 => False.elim (by have := g_p0; have : (0 : Int32).toInt = 0 := (by decide +kernel); have := (jw_flt c_1); omega)) (fun c_1 => ?_)
  refine lv_iload_n hx hb dX12_isIn_5 rfl (lv_at hl 0 rfl) ?_
  refine lv_iload_n hx hb dX12_isIn_6 rfl (lv_at hl 2 rfl) ?_
  refine lv_icmp_gt (tgt := 14) hx hb dX12_isIn_7 (by decide) (fun c_2 => False.elim (by have := g_p0; have := (jw_fnl c_1); have : (0 : Int32).toInt = 0 := (by decide +kernel); have : (100 : Int32).toInt = 100 := (by decide +kernel); have := (jw_flt c_2); omega)) (fun c_2 => ?_)
  refine lv_iconst (v := 1) hx hb dX12_isIn_10 (by decide +kernel) ?_
  refine lv_goto (tgt := 15) hx hb dX12_isIn_11 (by decide) ?_
  refine W.widen (k := 0) (n := 0) (Nat.le_of_ble_eq_true rfl) (Nat.le_of_ble_eq_true rfl) ?_
  exact jw_zret hx hb hr hlocks rfl rfl rfl hP hD hS dX12_isIn_15
set_option maxHeartbeats 4000000 in
set_option maxRecDepth 100000 in
theorem k407_X12_many {l : Launch} {D : va_G} {Y : Nat → ClassId} {tt : Nat → Nat} (sz : Nat) : Met l yX12_many wsX12_many ({ frames := 0, cells := 0, slots := 0, locals := 0 }) (jw_Pc D Y tt [.int 0] [] sz) (jw_Qi D (fun r => r = 0) (fun w => w = []) (va_A [] sz)) 0 0 (va_A [] sz) := by
  refine jw_met (fun A => jw_Qi D (fun r => r = 0) (fun w => w = []) A) (cc := cX12_many) (maxL := 3) (ret := (some .int)) pn_X12_many rfl rfl ?_
  intro p e s m below meth c A H locs ls hx hb hml hr hts hown hlocks hin hP hD hA hS hE hl
  have hown : s.vm.findClass RX12 = some m.cls := hown
  have hl : lv_has ls 3 [(0, .int 0)] := hl
  refine lv_iconst (v := 0) hx hb dX12_many_0 (by decide +kernel) ?_
  refine lv_istore_n (lv' := [(1, .int 0), (0, .int 0)]) hx hb dX12_many_1 rfl hl (by decide) rfl (fun ls hl => ?_)
  refine lv_iconst (v := 0) hx hb dX12_many_2 (by decide +kernel) ?_
  refine lv_istore_n (lv' := [(2, .int 0), (1, .int 0), (0, .int 0)]) hx hb dX12_many_3 rfl hl (by decide) rfl (fun ls hl => ?_)
  refine lv_iload_n hx hb dX12_many_4 rfl (lv_at hl 0 rfl) ?_
  refine lv_bipush (v := 12) hx hb dX12_many_5 (by decide +kernel) ?_
  refine lv_icmp_ge (tgt := 24) hx hb dX12_many_7 (by decide) (fun c9 => absurd c9 (by decide +kernel)) (fun _ => ?_)
  refine lv_iload_n hx hb dX12_many_10 rfl (lv_at hl 1 rfl) ?_
  refine lv_iload_n hx hb dX12_many_11 rfl (lv_at hl 2 rfl) ?_
  refine lv_iload_n hx hb dX12_many_12 rfl (lv_at hl 0 rfl) ?_
  refine jw_ishr (v := 0) hx hb dX12_many_13 (by decide +kernel) ?_
  refine lv_iconst (v := 1) hx hb dX12_many_14 (by decide +kernel) ?_
  refine jw_iand (v := 0) hx hb dX12_many_15 (by decide +kernel) ?_
  refine jw_iadd (v := 0) hx hb dX12_many_16 (by decide +kernel) ?_
  refine lv_istore_n (lv' := [(1, .int 0), (2, .int 0), (0, .int 0)]) hx hb dX12_many_17 rfl hl (by decide) rfl (fun ls hl => ?_)
  refine lv_iinc (v := 1) (lv' := [(2, .int 1), (1, .int 0), (0, .int 0)]) hx hb dX12_many_18 hl (k := 1) rfl (by decide +kernel) (by decide) rfl (fun ls hl => ?_)
  refine lv_goto (tgt := 4) hx hb dX12_many_21 (by decide) ?_
  refine lv_iload_n hx hb dX12_many_4 rfl (lv_at hl 0 rfl) ?_
  refine lv_bipush (v := 12) hx hb dX12_many_5 (by decide +kernel) ?_
  refine lv_icmp_ge (tgt := 24) hx hb dX12_many_7 (by decide) (fun c9 => absurd c9 (by decide +kernel)) (fun _ => ?_)
  refine lv_iload_n hx hb dX12_many_10 rfl (lv_at hl 1 rfl) ?_
  refine lv_iload_n hx hb dX12_many_11 rfl (lv_at hl 2 rfl) ?_
  refine lv_iload_n hx hb dX12_many_12 rfl (lv_at hl 0 rfl) ?_
  refine jw_ishr (v := 0) hx hb dX12_many_13 (by decide +kernel) ?_
  refine lv_iconst (v := 1) hx hb dX12_many_14 (by decide +kernel) ?_
  refine jw_iand (v := 0) hx hb dX12_many_15 (by decide +kernel) ?_
  refine jw_iadd (v := 0) hx hb dX12_many_16 (by decide +kernel) ?_
  refine lv_istore_n (lv' := [(1, .int 0), (2, .int 1), (0, .int 0)]) hx hb dX12_many_17 rfl hl (by decide) rfl (fun ls hl => ?_)
  refine lv_iinc (v := 2) (lv' := [(2, .int 2), (1, .int 0), (0, .int 0)]) hx hb dX12_many_18 hl (k := 1) rfl (by decide +kernel) (by decide) rfl (fun ls hl => ?_)
  refine lv_goto (tgt := 4) hx hb dX12_many_21 (by decide) ?_
  refine lv_iload_n hx hb dX12_many_4 rfl (lv_at hl 0 rfl) ?_
  refine lv_bipush (v := 12) hx hb dX12_many_5 (by decide +kernel) ?_
  refine lv_icmp_ge (tgt := 24) hx hb dX12_many_7 (by decide) (fun c9 => absurd c9 (by decide +kernel)) (fun _ => ?_)
  refine lv_iload_n hx hb dX12_many_10 rfl (lv_at hl 1 rfl) ?_
  refine lv_iload_n hx hb dX12_many_11 rfl (lv_at hl 2 rfl) ?_
  refine lv_iload_n hx hb dX12_many_12 rfl (lv_at hl 0 rfl) ?_
  refine jw_ishr (v := 0) hx hb dX12_many_13 (by decide +kernel) ?_
  refine lv_iconst (v := 1) hx hb dX12_many_14 (by decide +kernel) ?_
  refine jw_iand (v := 0) hx hb dX12_many_15 (by decide +kernel) ?_
  refine jw_iadd (v := 0) hx hb dX12_many_16 (by decide +kernel) ?_
  refine lv_istore_n (lv' := [(1, .int 0), (2, .int 2), (0, .int 0)]) hx hb dX12_many_17 rfl hl (by decide) rfl (fun ls hl => ?_)
  refine lv_iinc (v := 3) (lv' := [(2, .int 3), (1, .int 0), (0, .int 0)]) hx hb dX12_many_18 hl (k := 1) rfl (by decide +kernel) (by decide) rfl (fun ls hl => ?_)
  refine lv_goto (tgt := 4) hx hb dX12_many_21 (by decide) ?_
  refine lv_iload_n hx hb dX12_many_4 rfl (lv_at hl 0 rfl) ?_
  refine lv_bipush (v := 12) hx hb dX12_many_5 (by decide +kernel) ?_
  refine lv_icmp_ge (tgt := 24) hx hb dX12_many_7 (by decide) (fun c9 => absurd c9 (by decide +kernel)) (fun _ => ?_)
  refine lv_iload_n hx hb dX12_many_10 rfl (lv_at hl 1 rfl) ?_
  refine lv_iload_n hx hb dX12_many_11 rfl (lv_at hl 2 rfl) ?_
  refine lv_iload_n hx hb dX12_many_12 rfl (lv_at hl 0 rfl) ?_
  refine jw_ishr (v := 0) hx hb dX12_many_13 (by decide +kernel) ?_
  refine lv_iconst (v := 1) hx hb dX12_many_14 (by decide +kernel) ?_
  refine jw_iand (v := 0) hx hb dX12_many_15 (by decide +kernel) ?_
  refine jw_iadd (v := 0) hx hb dX12_many_16 (by decide +kernel) ?_
  refine lv_istore_n (lv' := [(1, .int 0), (2, .int 3), (0, .int 0)]) hx hb dX12_many_17 rfl hl (by decide) rfl (fun ls hl => ?_)
  refine lv_iinc (v := 4) (lv' := [(2, .int 4), (1, .int 0), (0, .int 0)]) hx hb dX12_many_18 hl (k := 1) rfl (by decide +kernel) (by decide) rfl (fun ls hl => ?_)
  refine lv_goto (tgt := 4) hx hb dX12_many_21 (by decide) ?_
  refine lv_iload_n hx hb dX12_many_4 rfl (lv_at hl 0 rfl) ?_
  refine lv_bipush (v := 12) hx hb dX12_many_5 (by decide +kernel) ?_
  refine lv_icmp_ge (tgt := 24) hx hb dX12_many_7 (by decide) (fun c9 => absurd c9 (by decide +kernel)) (fun _ => ?_)
  refine lv_iload_n hx hb dX12_many_10 rfl (lv_at hl 1 rfl) ?_
  refine lv_iload_n hx hb dX12_many_11 rfl (lv_at hl 2 rfl) ?_
  refine lv_iload_n hx hb dX12_many_12 rfl (lv_at hl 0 rfl) ?_
  refine jw_ishr (v := 0) hx hb dX12_many_13 (by decide +kernel) ?_
  refine lv_iconst (v := 1) hx hb dX12_many_14 (by decide +kernel) ?_
  refine jw_iand (v := 0) hx hb dX12_many_15 (by decide +kernel) ?_
  refine jw_iadd (v := 0) hx hb dX12_many_16 (by decide +kernel) ?_
  refine lv_istore_n (lv' := [(1, .int 0), (2, .int 4), (0, .int 0)]) hx hb dX12_many_17 rfl hl (by decide) rfl (fun ls hl => ?_)
  refine lv_iinc (v := 5) (lv' := [(2, .int 5), (1, .int 0), (0, .int 0)]) hx hb dX12_many_18 hl (k := 1) rfl (by decide +kernel) (by decide) rfl (fun ls hl => ?_)
  refine lv_goto (tgt := 4) hx hb dX12_many_21 (by decide) ?_
  refine lv_iload_n hx hb dX12_many_4 rfl (lv_at hl 0 rfl) ?_
  refine lv_bipush (v := 12) hx hb dX12_many_5 (by decide +kernel) ?_
  refine lv_icmp_ge (tgt := 24) hx hb dX12_many_7 (by decide) (fun c9 => absurd c9 (by decide +kernel)) (fun _ => ?_)
  refine lv_iload_n hx hb dX12_many_10 rfl (lv_at hl 1 rfl) ?_
  refine lv_iload_n hx hb dX12_many_11 rfl (lv_at hl 2 rfl) ?_
  refine lv_iload_n hx hb dX12_many_12 rfl (lv_at hl 0 rfl) ?_
  refine jw_ishr (v := 0) hx hb dX12_many_13 (by decide +kernel) ?_
  refine lv_iconst (v := 1) hx hb dX12_many_14 (by decide +kernel) ?_
  refine jw_iand (v := 0) hx hb dX12_many_15 (by decide +kernel) ?_
  refine jw_iadd (v := 0) hx hb dX12_many_16 (by decide +kernel) ?_
  refine lv_istore_n (lv' := [(1, .int 0), (2, .int 5), (0, .int 0)]) hx hb dX12_many_17 rfl hl (by decide) rfl (fun ls hl => ?_)
  refine lv_iinc (v := 6) (lv' := [(2, .int 6), (1, .int 0), (0, .int 0)]) hx hb dX12_many_18 hl (k := 1) rfl (by decide +kernel) (by decide) rfl (fun ls hl => ?_)
  refine lv_goto (tgt := 4) hx hb dX12_many_21 (by decide) ?_
  refine lv_iload_n hx hb dX12_many_4 rfl (lv_at hl 0 rfl) ?_
  refine lv_bipush (v := 12) hx hb dX12_many_5 (by decide +kernel) ?_
  refine lv_icmp_ge (tgt := 24) hx hb dX12_many_7 (by decide) (fun c9 => absurd c9 (by decide +kernel)) (fun _ => ?_)
  refine lv_iload_n hx hb dX12_many_10 rfl (lv_at hl 1 rfl) ?_
  refine lv_iload_n hx hb dX12_many_11 rfl (lv_at hl 2 rfl) ?_
  refine lv_iload_n hx hb dX12_many_12 rfl (lv_at hl 0 rfl) ?_
  refine jw_ishr (v := 0) hx hb dX12_many_13 (by decide +kernel) ?_
  refine lv_iconst (v := 1) hx hb dX12_many_14 (by decide +kernel) ?_
  refine jw_iand (v := 0) hx hb dX12_many_15 (by decide +kernel) ?_
  refine jw_iadd (v := 0) hx hb dX12_many_16 (by decide +kernel) ?_
  refine lv_istore_n (lv' := [(1, .int 0), (2, .int 6), (0, .int 0)]) hx hb dX12_many_17 rfl hl (by decide) rfl (fun ls hl => ?_)
  refine lv_iinc (v := 7) (lv' := [(2, .int 7), (1, .int 0), (0, .int 0)]) hx hb dX12_many_18 hl (k := 1) rfl (by decide +kernel) (by decide) rfl (fun ls hl => ?_)
  refine lv_goto (tgt := 4) hx hb dX12_many_21 (by decide) ?_
  refine lv_iload_n hx hb dX12_many_4 rfl (lv_at hl 0 rfl) ?_
  refine lv_bipush (v := 12) hx hb dX12_many_5 (by decide +kernel) ?_
  refine lv_icmp_ge (tgt := 24) hx hb dX12_many_7 (by decide) (fun c9 => absurd c9 (by decide +kernel)) (fun _ => ?_)
  refine lv_iload_n hx hb dX12_many_10 rfl (lv_at hl 1 rfl) ?_
  refine lv_iload_n hx hb dX12_many_11 rfl (lv_at hl 2 rfl) ?_
  refine lv_iload_n hx hb dX12_many_12 rfl (lv_at hl 0 rfl) ?_
  refine jw_ishr (v := 0) hx hb dX12_many_13 (by decide +kernel) ?_
  refine lv_iconst (v := 1) hx hb dX12_many_14 (by decide +kernel) ?_
  refine jw_iand (v := 0) hx hb dX12_many_15 (by decide +kernel) ?_
  refine jw_iadd (v := 0) hx hb dX12_many_16 (by decide +kernel) ?_
  refine lv_istore_n (lv' := [(1, .int 0), (2, .int 7), (0, .int 0)]) hx hb dX12_many_17 rfl hl (by decide) rfl (fun ls hl => ?_)
  refine lv_iinc (v := 8) (lv' := [(2, .int 8), (1, .int 0), (0, .int 0)]) hx hb dX12_many_18 hl (k := 1) rfl (by decide +kernel) (by decide) rfl (fun ls hl => ?_)
  refine lv_goto (tgt := 4) hx hb dX12_many_21 (by decide) ?_
  refine lv_iload_n hx hb dX12_many_4 rfl (lv_at hl 0 rfl) ?_
  refine lv_bipush (v := 12) hx hb dX12_many_5 (by decide +kernel) ?_
  refine lv_icmp_ge (tgt := 24) hx hb dX12_many_7 (by decide) (fun c9 => absurd c9 (by decide +kernel)) (fun _ => ?_)
  refine lv_iload_n hx hb dX12_many_10 rfl (lv_at hl 1 rfl) ?_
  refine lv_iload_n hx hb dX12_many_11 rfl (lv_at hl 2 rfl) ?_
  refine lv_iload_n hx hb dX12_many_12 rfl (lv_at hl 0 rfl) ?_
  refine jw_ishr (v := 0) hx hb dX12_many_13 (by decide +kernel) ?_
  refine lv_iconst (v := 1) hx hb dX12_many_14 (by decide +kernel) ?_
  refine jw_iand (v := 0) hx hb dX12_many_15 (by decide +kernel) ?_
  refine jw_iadd (v := 0) hx hb dX12_many_16 (by decide +kernel) ?_
  refine lv_istore_n (lv' := [(1, .int 0), (2, .int 8), (0, .int 0)]) hx hb dX12_many_17 rfl hl (by decide) rfl (fun ls hl => ?_)
  refine lv_iinc (v := 9) (lv' := [(2, .int 9), (1, .int 0), (0, .int 0)]) hx hb dX12_many_18 hl (k := 1) rfl (by decide +kernel) (by decide) rfl (fun ls hl => ?_)
  refine lv_goto (tgt := 4) hx hb dX12_many_21 (by decide) ?_
  refine lv_iload_n hx hb dX12_many_4 rfl (lv_at hl 0 rfl) ?_
  refine lv_bipush (v := 12) hx hb dX12_many_5 (by decide +kernel) ?_
  refine lv_icmp_ge (tgt := 24) hx hb dX12_many_7 (by decide) (fun c9 => absurd c9 (by decide +kernel)) (fun _ => ?_)
  refine lv_iload_n hx hb dX12_many_10 rfl (lv_at hl 1 rfl) ?_
  refine lv_iload_n hx hb dX12_many_11 rfl (lv_at hl 2 rfl) ?_
  refine lv_iload_n hx hb dX12_many_12 rfl (lv_at hl 0 rfl) ?_
  refine jw_ishr (v := 0) hx hb dX12_many_13 (by decide +kernel) ?_
  refine lv_iconst (v := 1) hx hb dX12_many_14 (by decide +kernel) ?_
  refine jw_iand (v := 0) hx hb dX12_many_15 (by decide +kernel) ?_
  refine jw_iadd (v := 0) hx hb dX12_many_16 (by decide +kernel) ?_
  refine lv_istore_n (lv' := [(1, .int 0), (2, .int 9), (0, .int 0)]) hx hb dX12_many_17 rfl hl (by decide) rfl (fun ls hl => ?_)
  refine lv_iinc (v := 10) (lv' := [(2, .int 10), (1, .int 0), (0, .int 0)]) hx hb dX12_many_18 hl (k := 1) rfl (by decide +kernel) (by decide) rfl (fun ls hl => ?_)
  refine lv_goto (tgt := 4) hx hb dX12_many_21 (by decide) ?_
  refine lv_iload_n hx hb dX12_many_4 rfl (lv_at hl 0 rfl) ?_
  refine lv_bipush (v := 12) hx hb dX12_many_5 (by decide +kernel) ?_
  refine lv_icmp_ge (tgt := 24) hx hb dX12_many_7 (by decide) (fun c9 => absurd c9 (by decide +kernel)) (fun _ => ?_)
  refine lv_iload_n hx hb dX12_many_10 rfl (lv_at hl 1 rfl) ?_
  refine lv_iload_n hx hb dX12_many_11 rfl (lv_at hl 2 rfl) ?_
  refine lv_iload_n hx hb dX12_many_12 rfl (lv_at hl 0 rfl) ?_
  refine jw_ishr (v := 0) hx hb dX12_many_13 (by decide +kernel) ?_
  refine lv_iconst (v := 1) hx hb dX12_many_14 (by decide +kernel) ?_
  refine jw_iand (v := 0) hx hb dX12_many_15 (by decide +kernel) ?_
  refine jw_iadd (v := 0) hx hb dX12_many_16 (by decide +kernel) ?_
  refine lv_istore_n (lv' := [(1, .int 0), (2, .int 10), (0, .int 0)]) hx hb dX12_many_17 rfl hl (by decide) rfl (fun ls hl => ?_)
  refine lv_iinc (v := 11) (lv' := [(2, .int 11), (1, .int 0), (0, .int 0)]) hx hb dX12_many_18 hl (k := 1) rfl (by decide +kernel) (by decide) rfl (fun ls hl => ?_)
  refine lv_goto (tgt := 4) hx hb dX12_many_21 (by decide) ?_
  refine lv_iload_n hx hb dX12_many_4 rfl (lv_at hl 0 rfl) ?_
  refine lv_bipush (v := 12) hx hb dX12_many_5 (by decide +kernel) ?_
  refine lv_icmp_ge (tgt := 24) hx hb dX12_many_7 (by decide) (fun c9 => absurd c9 (by decide +kernel)) (fun _ => ?_)
  refine lv_iload_n hx hb dX12_many_10 rfl (lv_at hl 1 rfl) ?_
  refine lv_iload_n hx hb dX12_many_11 rfl (lv_at hl 2 rfl) ?_
  refine lv_iload_n hx hb dX12_many_12 rfl (lv_at hl 0 rfl) ?_
  refine jw_ishr (v := 0) hx hb dX12_many_13 (by decide +kernel) ?_
  refine lv_iconst (v := 1) hx hb dX12_many_14 (by decide +kernel) ?_
  refine jw_iand (v := 0) hx hb dX12_many_15 (by decide +kernel) ?_
  refine jw_iadd (v := 0) hx hb dX12_many_16 (by decide +kernel) ?_
  refine lv_istore_n (lv' := [(1, .int 0), (2, .int 11), (0, .int 0)]) hx hb dX12_many_17 rfl hl (by decide) rfl (fun ls hl => ?_)
  refine lv_iinc (v := 12) (lv' := [(2, .int 12), (1, .int 0), (0, .int 0)]) hx hb dX12_many_18 hl (k := 1) rfl (by decide +kernel) (by decide) rfl (fun ls hl => ?_)
  refine lv_goto (tgt := 4) hx hb dX12_many_21 (by decide) ?_
  refine lv_iload_n hx hb dX12_many_4 rfl (lv_at hl 0 rfl) ?_
  refine lv_bipush (v := 12) hx hb dX12_many_5 (by decide +kernel) ?_
  refine lv_icmp_ge (tgt := 24) hx hb dX12_many_7 (by decide) (fun _ => ?_) (fun c9 => absurd (by decide +kernel) c9)
  refine lv_iload_n hx hb dX12_many_24 rfl (lv_at hl 1 rfl) ?_
  refine W.widen (k := 0) (n := 0) (Nat.le_of_ble_eq_true rfl) (Nat.le_of_ble_eq_true rfl) ?_
  exact jw_iret hx hb hr hlocks rfl rfl hP hD hS dX12_many_25
set_option maxHeartbeats 4000000 in
set_option maxRecDepth 100000 in
theorem k408_X12_lawfulBut {l : Launch} {D : va_G} {Y : Nat → ClassId} {tt : Nat → Nat} (h0 h1 h2 h3 h4 h5 h6 h7 h8 h9 h10 h11 h12 h13 h14 h15 h16 h17 h18 h19 h20 h21 h22 h23 h24 h25 h26 h27 h28 h29 h30 h31 h32 h33 h34 h35 : Nat) (sz : Nat) : Met l yX12_lawfulBut wsX12_lawfulBut ({ frames := 0, cells := 0, slots := 0, locals := 0 }) (jw_Pc D Y tt [.ref h0, .int 0] [(h0, .inr (15, [.ref h2, .int 0, .int 0, .ref h3, .int 0, .int (-1), .int 0, .int 0, .int 0, .int 0, .int 0, .int 2, .int 0, .int 0, .int 0, .ref h4, .ref h5, .ref h6, .ref h7, .int 2, .int 0, .int 0, .int 0, .int 0, .ref h8, .ref h9, .ref h10, .ref h11, .int 2, .ref h12, .int 1, .ref h1, .ref h13, .int 1, .ref h14, .ref h15, .ref h16, .int 0, .ref h17, .ref h18, .ref h19, .ref h20, .ref h21, .ref h22, .ref h23, .ref h24, .ref h25, .int 0, .ref h26, .ref h27, .ref h28, .int (-1), .ref h29, .long 0, .long 0, .int 0, .int 0, .long 0, .long 0, .ref h30, .ref h31, .ref h32, .ref h33, .ref h34, .ref h35, .long 0])), (h1, .inl (Y 1, 13824, .inl (jw_l 0 [0])))] sz) (jw_Qi D (fun r => r = 1) (fun w => w = [(h0, .inr (15, [.ref h2, .int 0, .int 0, .ref h3, .int 0, .int (-1), .int 0, .int 0, .int 0, .int 0, .int 0, .int 2, .int 0, .int 0, .int 0, .ref h4, .ref h5, .ref h6, .ref h7, .int 2, .int 0, .int 0, .int 0, .int 0, .ref h8, .ref h9, .ref h10, .ref h11, .int 2, .ref h12, .int 1, .ref h1, .ref h13, .int 1, .ref h14, .ref h15, .ref h16, .int 0, .ref h17, .ref h18, .ref h19, .ref h20, .ref h21, .ref h22, .ref h23, .ref h24, .ref h25, .int 0, .ref h26, .ref h27, .ref h28, .int (-1), .ref h29, .long 0, .long 0, .int 0, .int 0, .long 0, .long 0, .ref h30, .ref h31, .ref h32, .ref h33, .ref h34, .ref h35, .long 0])), (h1, .inl (Y 1, 13824, .inl (jw_l 0 [0])))]) (va_A [(h0, .inr (15, [.ref h2, .int 0, .int 0, .ref h3, .int 0, .int (-1), .int 0, .int 0, .int 0, .int 0, .int 0, .int 2, .int 0, .int 0, .int 0, .ref h4, .ref h5, .ref h6, .ref h7, .int 2, .int 0, .int 0, .int 0, .int 0, .ref h8, .ref h9, .ref h10, .ref h11, .int 2, .ref h12, .int 1, .ref h1, .ref h13, .int 1, .ref h14, .ref h15, .ref h16, .int 0, .ref h17, .ref h18, .ref h19, .ref h20, .ref h21, .ref h22, .ref h23, .ref h24, .ref h25, .int 0, .ref h26, .ref h27, .ref h28, .int (-1), .ref h29, .long 0, .long 0, .int 0, .int 0, .long 0, .long 0, .ref h30, .ref h31, .ref h32, .ref h33, .ref h34, .ref h35, .long 0])), (h1, .inl (Y 1, 13824, .inl (jw_l 0 [0])))] sz)) 0 0 (va_A [(h0, .inr (15, [.ref h2, .int 0, .int 0, .ref h3, .int 0, .int (-1), .int 0, .int 0, .int 0, .int 0, .int 0, .int 2, .int 0, .int 0, .int 0, .ref h4, .ref h5, .ref h6, .ref h7, .int 2, .int 0, .int 0, .int 0, .int 0, .ref h8, .ref h9, .ref h10, .ref h11, .int 2, .ref h12, .int 1, .ref h1, .ref h13, .int 1, .ref h14, .ref h15, .ref h16, .int 0, .ref h17, .ref h18, .ref h19, .ref h20, .ref h21, .ref h22, .ref h23, .ref h24, .ref h25, .int 0, .ref h26, .ref h27, .ref h28, .int (-1), .ref h29, .long 0, .long 0, .int 0, .int 0, .long 0, .long 0, .ref h30, .ref h31, .ref h32, .ref h33, .ref h34, .ref h35, .long 0])), (h1, .inl (Y 1, 13824, .inl (jw_l 0 [0])))] sz) := by
  refine jw_met (fun A => jw_Qi D (fun r => r = 1) (fun w => w = [(h0, .inr (15, [.ref h2, .int 0, .int 0, .ref h3, .int 0, .int (-1), .int 0, .int 0, .int 0, .int 0, .int 0, .int 2, .int 0, .int 0, .int 0, .ref h4, .ref h5, .ref h6, .ref h7, .int 2, .int 0, .int 0, .int 0, .int 0, .ref h8, .ref h9, .ref h10, .ref h11, .int 2, .ref h12, .int 1, .ref h1, .ref h13, .int 1, .ref h14, .ref h15, .ref h16, .int 0, .ref h17, .ref h18, .ref h19, .ref h20, .ref h21, .ref h22, .ref h23, .ref h24, .ref h25, .int 0, .ref h26, .ref h27, .ref h28, .int (-1), .ref h29, .long 0, .long 0, .int 0, .int 0, .long 0, .long 0, .ref h30, .ref h31, .ref h32, .ref h33, .ref h34, .ref h35, .long 0])), (h1, .inl (Y 1, 13824, .inl (jw_l 0 [0])))]) A) (cc := cX12_lawfulBut) (maxL := 4) (ret := (some .int)) pn_X12_lawfulBut rfl rfl ?_
  intro p e s m below meth c A H locs ls hx hb hml hr hts hown hlocks hin hP hD hA hS hE hl
  have hown : s.vm.findClass RX12 = some m.cls := hown
  have hl : lv_has ls 4 [(0, .ref h0), (1, .int 0)] := hl
  refine lv_iconst (v := 0) hx hb dX12_lawfulBut_0 (by decide +kernel) ?_
  refine lv_istore_n (lv' := [(2, .int 0), (0, .ref h0), (1, .int 0)]) hx hb dX12_lawfulBut_1 rfl hl (by decide) rfl (fun ls hl => ?_)
  refine lv_iconst (v := 0) hx hb dX12_lawfulBut_2 (by decide +kernel) ?_
  refine lv_istore_n (lv' := [(3, .int 0), (2, .int 0), (0, .ref h0), (1, .int 0)]) hx hb dX12_lawfulBut_3 rfl hl (by decide) rfl (fun ls hl => ?_)
  refine lv_iload_n hx hb dX12_lawfulBut_4 rfl (lv_at hl 0 rfl) ?_
  refine lv_aload_n hx hb dX12_lawfulBut_5 rfl (lv_at hl 2 rfl) ?_
  refine va_get (D := D) (ci := 15) (v := .int 1) (C := RX12) (T := TX12) (N := 66) hx hb hts iw_X12_lawfulBut__X12 hown hE.1 hP 0 rfl rfl 30 (by decide) (hts _ mw_X12_lawfulBut__1) (fun _ h9 => h9) rfl dX12_lawfulBut_6 ?_
  refine lv_icmp_ge (tgt := 39) hx hb dX12_lawfulBut_9 (by decide) (fun c9 => absurd c9 (by decide +kernel)) (fun _ => ?_)
  refine lv_iload_n hx hb dX12_lawfulBut_12 rfl (lv_at hl 1 rfl) ?_
  refine lv_aload_n hx hb dX12_lawfulBut_13 rfl (lv_at hl 2 rfl) ?_
  refine va_get (D := D) (ci := 15) (v := .ref h1) (C := RX12) (T := TX12) (N := 66) hx hb hts iw_X12_lawfulBut__X12 hown hE.1 hP 0 rfl rfl 31 (by decide) (hts _ mw_X12_lawfulBut__2) (fun _ h9 => h9) rfl dX12_lawfulBut_14 ?_
  refine lv_iload_n hx hb dX12_lawfulBut_17 rfl (lv_at hl 0 rfl) ?_
  refine jw_iald (v := 0) hx hb hE hP 1 0 rfl (by decide +kernel) (by decide +kernel) dX12_lawfulBut_18 ?_
  refine lv_iload_n hx hb dX12_lawfulBut_19 rfl (lv_at hl 3 rfl) ?_
  refine lv_iconst (v := (-1)) hx hb dX12_lawfulBut_20 (by decide +kernel) ?_
  refine jw_ixor (v := (-1)) hx hb dX12_lawfulBut_21 (by decide +kernel) ?_
  refine jw_iand (v := 0) hx hb dX12_lawfulBut_22 (by decide +kernel) ?_
  refine lv_if_ne (tgt := 30) hx hb dX12_lawfulBut_23 (by decide) (fun c9 => absurd (by decide +kernel) c9) (fun _ => ?_)
  refine lv_iconst (v := 1) hx hb dX12_lawfulBut_26 (by decide +kernel) ?_
  refine lv_goto (tgt := 31) hx hb dX12_lawfulBut_27 (by decide) ?_
  refine jw_iadd (v := 1) hx hb dX12_lawfulBut_31 (by decide +kernel) ?_
  refine lv_istore_n (lv' := [(2, .int 1), (3, .int 0), (0, .ref h0), (1, .int 0)]) hx hb dX12_lawfulBut_32 rfl hl (by decide) rfl (fun ls hl => ?_)
  refine lv_iinc (v := 1) (lv' := [(3, .int 1), (2, .int 1), (0, .ref h0), (1, .int 0)]) hx hb dX12_lawfulBut_33 hl (k := 1) rfl (by decide +kernel) (by decide) rfl (fun ls hl => ?_)
  refine lv_goto (tgt := 4) hx hb dX12_lawfulBut_36 (by decide) ?_
  refine lv_iload_n hx hb dX12_lawfulBut_4 rfl (lv_at hl 0 rfl) ?_
  refine lv_aload_n hx hb dX12_lawfulBut_5 rfl (lv_at hl 2 rfl) ?_
  refine va_get (D := D) (ci := 15) (v := .int 1) (C := RX12) (T := TX12) (N := 66) hx hb hts iw_X12_lawfulBut__X12 hown hE.1 hP 0 rfl rfl 30 (by decide) (hts _ mw_X12_lawfulBut__1) (fun _ h9 => h9) rfl dX12_lawfulBut_6 ?_
  refine lv_icmp_ge (tgt := 39) hx hb dX12_lawfulBut_9 (by decide) (fun _ => ?_) (fun c9 => absurd (by decide +kernel) c9)
  refine lv_iload_n hx hb dX12_lawfulBut_39 rfl (lv_at hl 1 rfl) ?_
  refine W.widen (k := 0) (n := 0) (Nat.le_of_ble_eq_true rfl) (Nat.le_of_ble_eq_true rfl) ?_
  exact jw_iret hx hb hr hlocks rfl rfl hP hD hS dX12_lawfulBut_40
set_option maxHeartbeats 4000000 in
set_option maxRecDepth 100000 in
theorem k409_X12_isEven {l : Launch} {D : va_G} {Y : Nat → ClassId} {tt : Nat → Nat} (h0 h1 h2 h3 h4 h5 h6 h7 h8 h9 h10 h11 h12 h13 h14 h15 h16 h17 h18 h19 h20 h21 h22 h23 h24 h25 h26 h27 h28 h29 h30 h31 h32 h33 h34 h35 : Nat) (p2 : Int32) (g_p2 : (0 ≤ p2.toInt ∧ p2.toInt ≤ 100)) (sz : Nat) : Met l yX12_isEven wsX12_isEven ({ frames := 1, cells := 0, slots := 0, locals := 23 }) (jw_Pc D Y tt [.ref h0, .int 0, .int p2] [(h0, .inr (15, [.ref h3, .int 0, .int 0, .ref h4, .int 0, .int (-1), .int 0, .int 0, .int 0, .int 0, .int 0, .int 2, .int 0, .int 0, .int 0, .ref h5, .ref h6, .ref h7, .ref h8, .int 2, .int 0, .int 0, .int 0, .int 0, .ref h9, .ref h10, .ref h11, .ref h12, .int 2, .ref h13, .int 1, .ref h1, .ref h14, .int 1, .ref h15, .ref h16, .ref h17, .int 0, .ref h18, .ref h19, .ref h20, .ref h21, .ref h22, .ref h23, .ref h24, .ref h25, .ref h26, .int 0, .ref h27, .ref h28, .ref h2, .int (-1), .ref h29, .long 0, .long 0, .int 0, .int 0, .long 0, .long 0, .ref h30, .ref h31, .ref h32, .ref h33, .ref h34, .ref h35, .long 0])), (h1, .inl (Y 1, 13824, .inl (jw_l 0 [0]))), (h2, .inl (Y 2, 13824, .inr (.inl (jw_L 0 []))))] sz) (jw_Qi D (fun r => r = 1) (fun w => w = [(h0, .inr (15, [.ref h3, .int 0, .int 0, .ref h4, .int 0, .int (-1), .int 0, .int 0, .int 0, .int 0, .int 0, .int 2, .int 0, .int 0, .int 0, .ref h5, .ref h6, .ref h7, .ref h8, .int 2, .int 0, .int 0, .int 0, .int 0, .ref h9, .ref h10, .ref h11, .ref h12, .int 2, .ref h13, .int 1, .ref h1, .ref h14, .int 1, .ref h15, .ref h16, .ref h17, .int 0, .ref h18, .ref h19, .ref h20, .ref h21, .ref h22, .ref h23, .ref h24, .ref h25, .ref h26, .int 0, .ref h27, .ref h28, .ref h2, .int (-1), .ref h29, .long 0, .long 0, .int 0, .int 0, .long 0, .long 0, .ref h30, .ref h31, .ref h32, .ref h33, .ref h34, .ref h35, .long 0])), (h1, .inl (Y 1, 13824, .inl (jw_l 0 [0]))), (h2, .inl (Y 2, 13824, .inr (.inl (jw_L 0 [1]))))]) (va_A [(h0, .inr (15, [.ref h3, .int 0, .int 0, .ref h4, .int 0, .int (-1), .int 0, .int 0, .int 0, .int 0, .int 0, .int 2, .int 0, .int 0, .int 0, .ref h5, .ref h6, .ref h7, .ref h8, .int 2, .int 0, .int 0, .int 0, .int 0, .ref h9, .ref h10, .ref h11, .ref h12, .int 2, .ref h13, .int 1, .ref h1, .ref h14, .int 1, .ref h15, .ref h16, .ref h17, .int 0, .ref h18, .ref h19, .ref h20, .ref h21, .ref h22, .ref h23, .ref h24, .ref h25, .ref h26, .int 0, .ref h27, .ref h28, .ref h2, .int (-1), .ref h29, .long 0, .long 0, .int 0, .int 0, .long 0, .long 0, .ref h30, .ref h31, .ref h32, .ref h33, .ref h34, .ref h35, .long 0])), (h1, .inl (Y 1, 13824, .inl (jw_l 0 [0]))), (h2, .inl (Y 2, 13824, .inr (.inl (jw_L 0 []))))] sz)) 0 0 (va_A [(h0, .inr (15, [.ref h3, .int 0, .int 0, .ref h4, .int 0, .int (-1), .int 0, .int 0, .int 0, .int 0, .int 0, .int 2, .int 0, .int 0, .int 0, .ref h5, .ref h6, .ref h7, .ref h8, .int 2, .int 0, .int 0, .int 0, .int 0, .ref h9, .ref h10, .ref h11, .ref h12, .int 2, .ref h13, .int 1, .ref h1, .ref h14, .int 1, .ref h15, .ref h16, .ref h17, .int 0, .ref h18, .ref h19, .ref h20, .ref h21, .ref h22, .ref h23, .ref h24, .ref h25, .ref h26, .int 0, .ref h27, .ref h28, .ref h2, .int (-1), .ref h29, .long 0, .long 0, .int 0, .int 0, .long 0, .long 0, .ref h30, .ref h31, .ref h32, .ref h33, .ref h34, .ref h35, .long 0])), (h1, .inl (Y 1, 13824, .inl (jw_l 0 [0]))), (h2, .inl (Y 2, 13824, .inr (.inl (jw_L 0 []))))] sz) := by
  refine jw_met (fun A => jw_Qi D (fun r => r = 1) (fun w => w = [(h0, .inr (15, [.ref h3, .int 0, .int 0, .ref h4, .int 0, .int (-1), .int 0, .int 0, .int 0, .int 0, .int 0, .int 2, .int 0, .int 0, .int 0, .ref h5, .ref h6, .ref h7, .ref h8, .int 2, .int 0, .int 0, .int 0, .int 0, .ref h9, .ref h10, .ref h11, .ref h12, .int 2, .ref h13, .int 1, .ref h1, .ref h14, .int 1, .ref h15, .ref h16, .ref h17, .int 0, .ref h18, .ref h19, .ref h20, .ref h21, .ref h22, .ref h23, .ref h24, .ref h25, .ref h26, .int 0, .ref h27, .ref h28, .ref h2, .int (-1), .ref h29, .long 0, .long 0, .int 0, .int 0, .long 0, .long 0, .ref h30, .ref h31, .ref h32, .ref h33, .ref h34, .ref h35, .long 0])), (h1, .inl (Y 1, 13824, .inl (jw_l 0 [0]))), (h2, .inl (Y 2, 13824, .inr (.inl (jw_L 0 [1]))))]) A) (cc := cX12_isEven) (maxL := 7) (ret := (some .boolean)) pn_X12_isEven rfl rfl ?_
  intro p e s m below meth c A H locs ls hx hb hml hr hts hown hlocks hin hP hD hA hS hE hl
  have hown : s.vm.findClass RX12 = some m.cls := hown
  have hl : lv_has ls 7 [(0, .ref h0), (1, .int 0), (2, .int p2)] := hl
  refine lv_aload_n hx hb dX12_isEven_0 rfl (lv_at hl 0 rfl) ?_
  refine lv_iload_n hx hb dX12_isEven_1 rfl (lv_at hl 1 rfl) ?_
  refine jw_mi (wc := [(h0, .inr (15, [.ref h3, .int 0, .int 0, .ref h4, .int 0, .int (-1), .int 0, .int 0, .int 0, .int 0, .int 0, .int 2, .int 0, .int 0, .int 0, .ref h5, .ref h6, .ref h7, .ref h8, .int 2, .int 0, .int 0, .int 0, .int 0, .ref h9, .ref h10, .ref h11, .ref h12, .int 2, .ref h13, .int 1, .ref h1, .ref h14, .int 1, .ref h15, .ref h16, .ref h17, .int 0, .ref h18, .ref h19, .ref h20, .ref h21, .ref h22, .ref h23, .ref h24, .ref h25, .ref h26, .int 0, .ref h27, .ref h28, .ref h2, .int (-1), .ref h29, .long 0, .long 0, .int 0, .int 0, .long 0, .long 0, .ref h30, .ref h31, .ref h32, .ref h33, .ref h34, .ref h35, .long 0])), (h1, .inl (Y 1, 13824, .inl (jw_l 0 [0])))]) (cs := 0) (ss := 0) (va_runV (As := [.int 0]) (rest := []) ⟨hx, hb, hml, hown, hts⟩ (k408_X12_lawfulBut h0 h1 h3 h4 h5 h6 h7 h8 h9 h10 h11 h12 h13 h14 h15 h16 h17 h18 h19 h20 h21 h22 h23 h24 h25 h26 h27 h28 h2 h29 h30 h31 h32 h33 h34 h35 H.size) (cwV 1 hts gX12_isEven_X12_lawfulBut rfl rfl rfl ydV_X12_lawfulBut ⟨Nat.le_of_ble_eq_true rfl, Nat.le_of_ble_eq_true rfl⟩) (jw_mpreV (ci := 15) (q0 := 0) hP hD hS hA hE [true, true] rfl rfl rfl) rfl rfl hl.1 rfl (lv_room (Nat.le_of_ble_eq_true rfl)) dX12_isEven_2 ⟨Nat.le_of_ble_eq_true rfl, Nat.le_of_ble_eq_true rfl⟩) hP hD hS hA [true, true] rfl rfl rfl (fun r9 w1 H locs hr9 hw9 hP hD hS => ?_)
  subst hr9
  subst hw9
  have hP : va_P D vwCl [(h0, .inr (15, [.ref h3, .int 0, .int 0, .ref h4, .int 0, .int (-1), .int 0, .int 0, .int 0, .int 0, .int 0, .int 2, .int 0, .int 0, .int 0, .ref h5, .ref h6, .ref h7, .ref h8, .int 2, .int 0, .int 0, .int 0, .int 0, .ref h9, .ref h10, .ref h11, .ref h12, .int 2, .ref h13, .int 1, .ref h1, .ref h14, .int 1, .ref h15, .ref h16, .ref h17, .int 0, .ref h18, .ref h19, .ref h20, .ref h21, .ref h22, .ref h23, .ref h24, .ref h25, .ref h26, .int 0, .ref h27, .ref h28, .ref h2, .int (-1), .ref h29, .long 0, .long 0, .int 0, .int 0, .long 0, .long 0, .ref h30, .ref h31, .ref h32, .ref h33, .ref h34, .ref h35, .long 0])), (h1, .inl (Y 1, 13824, .inl (jw_l 0 [0]))), (h2, .inl (Y 2, 13824, .inr (.inl (jw_L 0 []))))] H := hP
  have hD : va_D A [(h0, .inr (15, [.ref h3, .int 0, .int 0, .ref h4, .int 0, .int (-1), .int 0, .int 0, .int 0, .int 0, .int 0, .int 2, .int 0, .int 0, .int 0, .ref h5, .ref h6, .ref h7, .ref h8, .int 2, .int 0, .int 0, .int 0, .int 0, .ref h9, .ref h10, .ref h11, .ref h12, .int 2, .ref h13, .int 1, .ref h1, .ref h14, .int 1, .ref h15, .ref h16, .ref h17, .int 0, .ref h18, .ref h19, .ref h20, .ref h21, .ref h22, .ref h23, .ref h24, .ref h25, .ref h26, .int 0, .ref h27, .ref h28, .ref h2, .int (-1), .ref h29, .long 0, .long 0, .int 0, .int 0, .long 0, .long 0, .ref h30, .ref h31, .ref h32, .ref h33, .ref h34, .ref h35, .long 0])), (h1, .inl (Y 1, 13824, .inl (jw_l 0 [0]))), (h2, .inl (Y 2, 13824, .inr (.inl (jw_L 0 []))))] := hD
  refine lv_i2l (v := 1) hx hb dX12_isEven_5 (by decide +kernel) ?_
  refine lv_lstore_n (lv' := [(3, .long 1), (0, .ref h0), (1, .int 0), (2, .int p2)]) hx hb dX12_isEven_6 rfl hl (by decide) rfl (fun ls hl => ?_)
  refine lv_lload_n hx hb dX12_isEven_7 rfl (lv_at hl 0 rfl) ?_
  refine lv_lconst (v := 0) hx hb dX12_isEven_8 (by decide +kernel) ?_
  refine jw_lcmp (v := 1) hx hb dX12_isEven_9 (by decide +kernel) ?_
  refine lv_if_ne (tgt := 15) hx hb dX12_isEven_10 (by decide) (fun _ => ?_) (fun c9 => absurd c9 (by decide +kernel))
  refine lv_aload_n hx hb dX12_isEven_15 rfl (lv_at hl 1 rfl) ?_
  refine lv_iconst (v := (-1)) hx hb dX12_isEven_16 (by decide +kernel) ?_
  refine va_put (D := D) (ci := 15) (v := .int (-1)) (C := RX12) (T := TX12) (N := 66) hx hb hts iw_X12_isEven__X12 tyX12 tyX12_ok nmX12 hown hE.1 hP hD hS 0 rfl rfl 51 (by decide) (hts _ mw_X12_isEven__1) (fun _ h9 => h9) rfl (tyX12_ok 51 (by decide)) rfl rfl (Nat.le_of_ble_eq_true rfl) dX12_isEven_17 (fun H locs hP hD hS => ?_)
  have hP : va_P D vwCl [(h0, .inr (15, [.ref h3, .int 0, .int 0, .ref h4, .int 0, .int (-1), .int 0, .int 0, .int 0, .int 0, .int 0, .int 2, .int 0, .int 0, .int 0, .ref h5, .ref h6, .ref h7, .ref h8, .int 2, .int 0, .int 0, .int 0, .int 0, .ref h9, .ref h10, .ref h11, .ref h12, .int 2, .ref h13, .int 1, .ref h1, .ref h14, .int 1, .ref h15, .ref h16, .ref h17, .int 0, .ref h18, .ref h19, .ref h20, .ref h21, .ref h22, .ref h23, .ref h24, .ref h25, .ref h26, .int 0, .ref h27, .ref h28, .ref h2, .int (-1), .ref h29, .long 0, .long 0, .int 0, .int 0, .long 0, .long 0, .ref h30, .ref h31, .ref h32, .ref h33, .ref h34, .ref h35, .long 0])), (h1, .inl (Y 1, 13824, .inl (jw_l 0 [0]))), (h2, .inl (Y 2, 13824, .inr (.inl (jw_L 0 []))))] H := hP
  have hD : va_D A [(h0, .inr (15, [.ref h3, .int 0, .int 0, .ref h4, .int 0, .int (-1), .int 0, .int 0, .int 0, .int 0, .int 0, .int 2, .int 0, .int 0, .int 0, .ref h5, .ref h6, .ref h7, .ref h8, .int 2, .int 0, .int 0, .int 0, .int 0, .ref h9, .ref h10, .ref h11, .ref h12, .int 2, .ref h13, .int 1, .ref h1, .ref h14, .int 1, .ref h15, .ref h16, .ref h17, .int 0, .ref h18, .ref h19, .ref h20, .ref h21, .ref h22, .ref h23, .ref h24, .ref h25, .ref h26, .int 0, .ref h27, .ref h28, .ref h2, .int (-1), .ref h29, .long 0, .long 0, .int 0, .int 0, .long 0, .long 0, .ref h30, .ref h31, .ref h32, .ref h33, .ref h34, .ref h35, .long 0])), (h1, .inl (Y 1, 13824, .inl (jw_l 0 [0]))), (h2, .inl (Y 2, 13824, .inr (.inl (jw_L 0 []))))] := hD
  refine lv_iconst (v := 0) hx hb dX12_isEven_20 (by decide +kernel) ?_
  refine lv_istore (lv' := [(5, .int 0), (3, .long 1), (0, .ref h0), (1, .int 0), (2, .int p2)]) hx hb dX12_isEven_21 hl (by decide) rfl (fun ls hl => ?_)
  refine lv_iload hx hb dX12_isEven_23 (lv_at hl 0 rfl) ?_
  refine lv_aload_n hx hb dX12_isEven_25 rfl (lv_at hl 2 rfl) ?_
  refine va_get (D := D) (ci := 15) (v := .int 1) (C := RX12) (T := TX12) (N := 66) hx hb hts iw_X12_isEven__X12 hown hE.1 hP 0 rfl rfl 30 (by decide) (hts _ mw_X12_isEven__2) (fun _ h9 => h9) rfl dX12_isEven_26 ?_
  refine lv_icmp_ge (tgt := 64) hx hb dX12_isEven_29 (by decide) (fun c9 => absurd c9 (by decide +kernel)) (fun _ => ?_)
  refine lv_aload_n hx hb dX12_isEven_32 rfl (lv_at hl 2 rfl) ?_
  refine va_get (D := D) (ci := 15) (v := .ref h2) (C := RX12) (T := TX12) (N := 66) hx hb hts iw_X12_isEven__X12 hown hE.1 hP 0 rfl rfl 50 (by decide) (hts _ mw_X12_isEven__3) (fun _ h9 => h9) rfl dX12_isEven_33 ?_
  refine lv_iload hx hb dX12_isEven_36 (lv_at hl 0 rfl) ?_
  refine lv_aload_n hx hb dX12_isEven_38 rfl (lv_at hl 2 rfl) ?_
  refine va_get (D := D) (ci := 15) (v := .ref h1) (C := RX12) (T := TX12) (N := 66) hx hb hts iw_X12_isEven__X12 hown hE.1 hP 0 rfl rfl 31 (by decide) (hts _ mw_X12_isEven__4) (fun _ h9 => h9) rfl dX12_isEven_39 ?_
  refine lv_iload hx hb dX12_isEven_42 (lv_at hl 0 rfl) ?_
  refine jw_iald (v := 0) hx hb hE hP 1 0 rfl (by decide +kernel) (by decide +kernel) dX12_isEven_44 ?_
  refine lv_iload_n hx hb dX12_isEven_45 rfl (lv_at hl 3 rfl) ?_
  refine lv_iconst (v := (-1)) hx hb dX12_isEven_46 (by decide +kernel) ?_
  refine jw_ixor (v := (-1)) hx hb dX12_isEven_47 (by decide +kernel) ?_
  refine jw_iand (v := 0) hx hb dX12_isEven_48 (by decide +kernel) ?_
  refine lv_if_ne (tgt := 56) hx hb dX12_isEven_49 (by decide) (fun c9 => absurd (by decide +kernel) c9) (fun _ => ?_)
  refine lv_lconst (v := 1) hx hb dX12_isEven_52 (by decide +kernel) ?_
  refine lv_goto (tgt := 57) hx hb dX12_isEven_53 (by decide) ?_
  refine jw_last (ws' := [(h0, .inr (15, [.ref h3, .int 0, .int 0, .ref h4, .int 0, .int (-1), .int 0, .int 0, .int 0, .int 0, .int 0, .int 2, .int 0, .int 0, .int 0, .ref h5, .ref h6, .ref h7, .ref h8, .int 2, .int 0, .int 0, .int 0, .int 0, .ref h9, .ref h10, .ref h11, .ref h12, .int 2, .ref h13, .int 1, .ref h1, .ref h14, .int 1, .ref h15, .ref h16, .ref h17, .int 0, .ref h18, .ref h19, .ref h20, .ref h21, .ref h22, .ref h23, .ref h24, .ref h25, .ref h26, .int 0, .ref h27, .ref h28, .ref h2, .int (-1), .ref h29, .long 0, .long 0, .int 0, .int 0, .long 0, .long 0, .ref h30, .ref h31, .ref h32, .ref h33, .ref h34, .ref h35, .long 0])), (h1, .inl (Y 1, 13824, .inl (jw_l 0 [0]))), (h2, .inl (Y 2, 13824, .inr (.inl (jw_L 0 [1]))))]) hx hb hE hP hD hS 2 0 [1] rfl (by decide +kernel) (by decide +kernel) rfl dX12_isEven_57 (fun H locs hP hD hS => ?_)
  refine lv_iinc (v := 1) (lv' := [(5, .int 1), (3, .long 1), (0, .ref h0), (1, .int 0), (2, .int p2)]) hx hb dX12_isEven_58 hl (k := 0) rfl (by decide +kernel) (by decide) rfl (fun ls hl => ?_)
  refine lv_goto (tgt := 23) hx hb dX12_isEven_61 (by decide) ?_
  refine lv_iload hx hb dX12_isEven_23 (lv_at hl 0 rfl) ?_
  refine lv_aload_n hx hb dX12_isEven_25 rfl (lv_at hl 2 rfl) ?_
  refine va_get (D := D) (ci := 15) (v := .int 1) (C := RX12) (T := TX12) (N := 66) hx hb hts iw_X12_isEven__X12 hown hE.1 hP 0 rfl rfl 30 (by decide) (hts _ mw_X12_isEven__2) (fun _ h9 => h9) rfl dX12_isEven_26 ?_
  refine lv_icmp_ge (tgt := 64) hx hb dX12_isEven_29 (by decide) (fun _ => ?_) (fun c9 => absurd (by decide +kernel) c9)
  refine lv_iconst (v := 0) hx hb dX12_isEven_64 (by decide +kernel) ?_
  refine lv_istore (lv' := [(5, .int 0), (3, .long 1), (0, .ref h0), (1, .int 0), (2, .int p2)]) hx hb dX12_isEven_65 hl (by decide) rfl (fun ls hl => ?_)
  refine lv_iload hx hb dX12_isEven_67 (lv_at hl 0 rfl) ?_
  refine lv_aload_n hx hb dX12_isEven_69 rfl (lv_at hl 2 rfl) ?_
  refine jw_mi (wc := [(h0, .inr (15, [.ref h3, .int 0, .int 0, .ref h4, .int 0, .int (-1), .int 0, .int 0, .int 0, .int 0, .int 0, .int 2, .int 0, .int 0, .int 0, .ref h5, .ref h6, .ref h7, .ref h8, .int 2, .int 0, .int 0, .int 0, .int 0, .ref h9, .ref h10, .ref h11, .ref h12, .int 2, .ref h13, .int 1, .ref h1, .ref h14, .int 1, .ref h15, .ref h16, .ref h17, .int 0, .ref h18, .ref h19, .ref h20, .ref h21, .ref h22, .ref h23, .ref h24, .ref h25, .ref h26, .int 0, .ref h27, .ref h28, .ref h2, .int (-1), .ref h29, .long 0, .long 0, .int 0, .int 0, .long 0, .long 0, .ref h30, .ref h31, .ref h32, .ref h33, .ref h34, .ref h35, .long 0]))]) (cs := 0) (ss := 0) (va_runV (As := []) (rest := [.int 0]) ⟨hx, hb, hml, hown, hts⟩ (k100_X12_teams h0 h3 h4 h5 h6 h7 h8 h9 h10 h11 h12 h13 h1 h14 h15 h16 h17 h18 h19 h20 h21 h22 h23 h24 h25 h26 h27 h28 h2 h29 h30 h31 h32 h33 h34 h35 H.size) (cwV 0 hts gX12_isEven_X12_teams rfl rfl rfl ydV_X12_teams ⟨Nat.le_of_ble_eq_true rfl, Nat.le_of_ble_eq_true rfl⟩) (jw_mpreV (ci := 15) (q0 := 0) hP hD hS hA hE [true] rfl rfl rfl) rfl rfl hl.1 rfl (lv_room (Nat.le_of_ble_eq_true rfl)) dX12_isEven_70 ⟨Nat.le_of_ble_eq_true rfl, Nat.le_of_ble_eq_true rfl⟩) hP hD hS hA [true] rfl rfl rfl (fun r9 w1 H locs hr9 hw9 hP hD hS => ?_)
  subst hr9
  subst hw9
  have hP : va_P D vwCl [(h0, .inr (15, [.ref h3, .int 0, .int 0, .ref h4, .int 0, .int (-1), .int 0, .int 0, .int 0, .int 0, .int 0, .int 2, .int 0, .int 0, .int 0, .ref h5, .ref h6, .ref h7, .ref h8, .int 2, .int 0, .int 0, .int 0, .int 0, .ref h9, .ref h10, .ref h11, .ref h12, .int 2, .ref h13, .int 1, .ref h1, .ref h14, .int 1, .ref h15, .ref h16, .ref h17, .int 0, .ref h18, .ref h19, .ref h20, .ref h21, .ref h22, .ref h23, .ref h24, .ref h25, .ref h26, .int 0, .ref h27, .ref h28, .ref h2, .int (-1), .ref h29, .long 0, .long 0, .int 0, .int 0, .long 0, .long 0, .ref h30, .ref h31, .ref h32, .ref h33, .ref h34, .ref h35, .long 0])), (h1, .inl (Y 1, 13824, .inl (jw_l 0 [0]))), (h2, .inl (Y 2, 13824, .inr (.inl (jw_L 0 [1]))))] H := hP
  have hD : va_D A [(h0, .inr (15, [.ref h3, .int 0, .int 0, .ref h4, .int 0, .int (-1), .int 0, .int 0, .int 0, .int 0, .int 0, .int 2, .int 0, .int 0, .int 0, .ref h5, .ref h6, .ref h7, .ref h8, .int 2, .int 0, .int 0, .int 0, .int 0, .ref h9, .ref h10, .ref h11, .ref h12, .int 2, .ref h13, .int 1, .ref h1, .ref h14, .int 1, .ref h15, .ref h16, .ref h17, .int 0, .ref h18, .ref h19, .ref h20, .ref h21, .ref h22, .ref h23, .ref h24, .ref h25, .ref h26, .int 0, .ref h27, .ref h28, .ref h2, .int (-1), .ref h29, .long 0, .long 0, .int 0, .int 0, .long 0, .long 0, .ref h30, .ref h31, .ref h32, .ref h33, .ref h34, .ref h35, .long 0])), (h1, .inl (Y 1, 13824, .inl (jw_l 0 [0]))), (h2, .inl (Y 2, 13824, .inr (.inl (jw_L 0 [1]))))] := hD
  refine lv_icmp_ge (tgt := 142) hx hb dX12_isEven_73 (by decide) (fun _ => ?_) (fun c9 => absurd (by decide +kernel) c9)
  refine lv_iconst (v := 1) hx hb dX12_isEven_142 (by decide +kernel) ?_
  refine W.widen (k := 0) (n := 0) (Nat.le_of_ble_eq_true rfl) (Nat.le_of_ble_eq_true rfl) ?_
  exact jw_zret hx hb hr hlocks rfl rfl rfl hP hD hS dX12_isEven_143
set_option maxHeartbeats 4000000 in
set_option maxRecDepth 100000 in
theorem k410_X12_leave {l : Launch} {D : va_G} {Y : Nat → ClassId} {tt : Nat → Nat} (h0 h1 h2 h3 h4 h5 h6 h7 h8 h9 h10 h11 h12 h13 h14 h15 h16 h17 h18 h19 h20 h21 h22 h23 h24 h25 h26 h27 h28 h29 h30 h31 h32 h33 h34 h35 : Nat) (p1 : Int32) (g_p1 : (0 ≤ p1.toInt ∧ p1.toInt ≤ 100)) (sz : Nat) : Met l yX12_leave wsX12_leave ({ frames := 2, cells := 0, slots := 0, locals := 49 }) (jw_Pc D Y tt [.ref h0, .int p1] [(h0, .inr (15, [.ref h3, .int 0, .int 0, .ref h4, .int 0, .int (-1), .int 0, .int 0, .int 0, .int 0, .int 0, .int 2, .int 0, .int 0, .int 0, .ref h5, .ref h6, .ref h7, .ref h8, .int 2, .int 0, .int 0, .int 0, .int 0, .ref h9, .ref h10, .ref h11, .ref h12, .int 2, .ref h13, .int 1, .ref h1, .ref h14, .int 1, .ref h15, .ref h16, .ref h17, .int 0, .ref h18, .ref h19, .ref h20, .ref h21, .ref h22, .ref h23, .ref h24, .ref h25, .ref h26, .int 0, .ref h27, .ref h28, .ref h2, .int (-1), .ref h29, .long 0, .long 0, .int 0, .int 0, .long 0, .long 0, .ref h30, .ref h31, .ref h32, .ref h33, .ref h34, .ref h35, .long 0])), (h1, .inl (Y 1, 13824, .inl (jw_l 0 [0]))), (h2, .inl (Y 2, 13824, .inr (.inl (jw_L 0 []))))] sz) (jw_Qi D (fun r => r = 0) (fun w => w = []) (va_A [(h0, .inr (15, [.ref h3, .int 0, .int 0, .ref h4, .int 0, .int (-1), .int 0, .int 0, .int 0, .int 0, .int 0, .int 2, .int 0, .int 0, .int 0, .ref h5, .ref h6, .ref h7, .ref h8, .int 2, .int 0, .int 0, .int 0, .int 0, .ref h9, .ref h10, .ref h11, .ref h12, .int 2, .ref h13, .int 1, .ref h1, .ref h14, .int 1, .ref h15, .ref h16, .ref h17, .int 0, .ref h18, .ref h19, .ref h20, .ref h21, .ref h22, .ref h23, .ref h24, .ref h25, .ref h26, .int 0, .ref h27, .ref h28, .ref h2, .int (-1), .ref h29, .long 0, .long 0, .int 0, .int 0, .long 0, .long 0, .ref h30, .ref h31, .ref h32, .ref h33, .ref h34, .ref h35, .long 0])), (h1, .inl (Y 1, 13824, .inl (jw_l 0 [0]))), (h2, .inl (Y 2, 13824, .inr (.inl (jw_L 0 []))))] sz)) 0 0 (va_A [(h0, .inr (15, [.ref h3, .int 0, .int 0, .ref h4, .int 0, .int (-1), .int 0, .int 0, .int 0, .int 0, .int 0, .int 2, .int 0, .int 0, .int 0, .ref h5, .ref h6, .ref h7, .ref h8, .int 2, .int 0, .int 0, .int 0, .int 0, .ref h9, .ref h10, .ref h11, .ref h12, .int 2, .ref h13, .int 1, .ref h1, .ref h14, .int 1, .ref h15, .ref h16, .ref h17, .int 0, .ref h18, .ref h19, .ref h20, .ref h21, .ref h22, .ref h23, .ref h24, .ref h25, .ref h26, .int 0, .ref h27, .ref h28, .ref h2, .int (-1), .ref h29, .long 0, .long 0, .int 0, .int 0, .long 0, .long 0, .ref h30, .ref h31, .ref h32, .ref h33, .ref h34, .ref h35, .long 0])), (h1, .inl (Y 1, 13824, .inl (jw_l 0 [0]))), (h2, .inl (Y 2, 13824, .inr (.inl (jw_L 0 []))))] sz) := by
  refine jw_met (fun A => jw_Qi D (fun r => r = 0) (fun w => w = []) A) (cc := cX12_leave) (maxL := 4) (ret := (some .int)) pn_X12_leave rfl rfl ?_
  intro p e s m below meth c A H locs ls hx hb hml hr hts hown hlocks hin hP hD hA hS hE hl
  have hown : s.vm.findClass RX12 = some m.cls := hown
  have hl : lv_has ls 4 [(0, .ref h0), (1, .int p1)] := hl
  refine lv_aload_n hx hb dX12_leave_0 rfl (lv_at hl 0 rfl) ?_
  refine lv_iconst (v := 0) hx hb dX12_leave_1 (by decide +kernel) ?_
  refine va_put (D := D) (ci := 15) (v := .int 0) (C := RX12) (T := TX12) (N := 66) hx hb hts iw_X12_leave__X12 tyX12 tyX12_ok nmX12 hown hE.1 hP hD hS 0 rfl rfl 2 (by decide) (hts _ mw_X12_leave__1) (fun _ h9 => h9) rfl (tyX12_ok 2 (by decide)) rfl rfl (Nat.le_of_ble_eq_true rfl) dX12_leave_2 (fun H locs hP hD hS => ?_)
  have hP : va_P D vwCl [(h0, .inr (15, [.ref h3, .int 0, .int 0, .ref h4, .int 0, .int (-1), .int 0, .int 0, .int 0, .int 0, .int 0, .int 2, .int 0, .int 0, .int 0, .ref h5, .ref h6, .ref h7, .ref h8, .int 2, .int 0, .int 0, .int 0, .int 0, .ref h9, .ref h10, .ref h11, .ref h12, .int 2, .ref h13, .int 1, .ref h1, .ref h14, .int 1, .ref h15, .ref h16, .ref h17, .int 0, .ref h18, .ref h19, .ref h20, .ref h21, .ref h22, .ref h23, .ref h24, .ref h25, .ref h26, .int 0, .ref h27, .ref h28, .ref h2, .int (-1), .ref h29, .long 0, .long 0, .int 0, .int 0, .long 0, .long 0, .ref h30, .ref h31, .ref h32, .ref h33, .ref h34, .ref h35, .long 0])), (h1, .inl (Y 1, 13824, .inl (jw_l 0 [0]))), (h2, .inl (Y 2, 13824, .inr (.inl (jw_L 0 []))))] H := hP
  have hD : va_D A [(h0, .inr (15, [.ref h3, .int 0, .int 0, .ref h4, .int 0, .int (-1), .int 0, .int 0, .int 0, .int 0, .int 0, .int 2, .int 0, .int 0, .int 0, .ref h5, .ref h6, .ref h7, .ref h8, .int 2, .int 0, .int 0, .int 0, .int 0, .ref h9, .ref h10, .ref h11, .ref h12, .int 2, .ref h13, .int 1, .ref h1, .ref h14, .int 1, .ref h15, .ref h16, .ref h17, .int 0, .ref h18, .ref h19, .ref h20, .ref h21, .ref h22, .ref h23, .ref h24, .ref h25, .ref h26, .int 0, .ref h27, .ref h28, .ref h2, .int (-1), .ref h29, .long 0, .long 0, .int 0, .int 0, .long 0, .long 0, .ref h30, .ref h31, .ref h32, .ref h33, .ref h34, .ref h35, .long 0])), (h1, .inl (Y 1, 13824, .inl (jw_l 0 [0]))), (h2, .inl (Y 2, 13824, .inr (.inl (jw_L 0 []))))] := hD
  refine lv_iload_n hx hb dX12_leave_5 rfl (lv_at hl 1 rfl) ?_
  refine lv_iconst (v := 0) hx hb dX12_leave_6 (by decide +kernel) ?_
  refine lv_bipush (v := 100) hx hb dX12_leave_7 (by decide +kernel) ?_
  refine jw_mi (wc := []) (cs := 0) (ss := 0) (va_runS (As := [.int p1, .int 0, .int 100]) (rest := []) ⟨hx, hb, hml, hown, hts⟩ (k406_X12_isIn p1 (by have := g_p1; omega) H.size) (va_cwS 3 hts gX12_leave_X12_isIn rfl rfl rfl ydS_X12_isIn ⟨Nat.le_of_ble_eq_true rfl, Nat.le_of_ble_eq_true rfl⟩) (jw_mpreS hP hD hS hA hE [] rfl) rfl rfl hl.1 rfl (lv_room (Nat.le_of_ble_eq_true rfl)) dX12_leave_9 ⟨Nat.le_of_ble_eq_true rfl, Nat.le_of_ble_eq_true rfl⟩) hP hD hS hA [] rfl rfl rfl (fun r9 w1 H locs hr9 hw9 hP hD hS => ?_)
  subst hr9
  subst hw9
  have hP : va_P D vwCl [(h0, .inr (15, [.ref h3, .int 0, .int 0, .ref h4, .int 0, .int (-1), .int 0, .int 0, .int 0, .int 0, .int 0, .int 2, .int 0, .int 0, .int 0, .ref h5, .ref h6, .ref h7, .ref h8, .int 2, .int 0, .int 0, .int 0, .int 0, .ref h9, .ref h10, .ref h11, .ref h12, .int 2, .ref h13, .int 1, .ref h1, .ref h14, .int 1, .ref h15, .ref h16, .ref h17, .int 0, .ref h18, .ref h19, .ref h20, .ref h21, .ref h22, .ref h23, .ref h24, .ref h25, .ref h26, .int 0, .ref h27, .ref h28, .ref h2, .int (-1), .ref h29, .long 0, .long 0, .int 0, .int 0, .long 0, .long 0, .ref h30, .ref h31, .ref h32, .ref h33, .ref h34, .ref h35, .long 0])), (h1, .inl (Y 1, 13824, .inl (jw_l 0 [0]))), (h2, .inl (Y 2, 13824, .inr (.inl (jw_L 0 []))))] H := hP
  have hD : va_D A [(h0, .inr (15, [.ref h3, .int 0, .int 0, .ref h4, .int 0, .int (-1), .int 0, .int 0, .int 0, .int 0, .int 0, .int 2, .int 0, .int 0, .int 0, .ref h5, .ref h6, .ref h7, .ref h8, .int 2, .int 0, .int 0, .int 0, .int 0, .ref h9, .ref h10, .ref h11, .ref h12, .int 2, .ref h13, .int 1, .ref h1, .ref h14, .int 1, .ref h15, .ref h16, .ref h17, .int 0, .ref h18, .ref h19, .ref h20, .ref h21, .ref h22, .ref h23, .ref h24, .ref h25, .ref h26, .int 0, .ref h27, .ref h28, .ref h2, .int (-1), .ref h29, .long 0, .long 0, .int 0, .int 0, .long 0, .long 0, .ref h30, .ref h31, .ref h32, .ref h33, .ref h34, .ref h35, .long 0])), (h1, .inl (Y 1, 13824, .inl (jw_l 0 [0]))), (h2, .inl (Y 2, 13824, .inr (.inl (jw_L 0 []))))] := hD
  refine lv_if_ne (tgt := 17) hx hb dX12_leave_12 (by decide) (fun _ => ?_) (fun c9 => absurd c9 (by decide +kernel))
  refine lv_iconst (v := 0) hx hb dX12_leave_17 (by decide +kernel) ?_
  refine lv_istore_n (lv' := [(2, .int 0), (0, .ref h0), (1, .int p1)]) hx hb dX12_leave_18 rfl hl (by decide) rfl (fun ls hl => ?_)
  refine lv_iload_n hx hb dX12_leave_19 rfl (lv_at hl 0 rfl) ?_
  refine lv_iconst (v := 3) hx hb dX12_leave_20 (by decide +kernel) ?_
  refine lv_icmp_ge (tgt := 67) hx hb dX12_leave_21 (by decide) (fun c9 => absurd c9 (by decide +kernel)) (fun _ => ?_)
  refine lv_iconst (v := 0) hx hb dX12_leave_24 (by decide +kernel) ?_
  refine lv_istore_n (lv' := [(3, .int 0), (2, .int 0), (0, .ref h0), (1, .int p1)]) hx hb dX12_leave_25 rfl hl (by decide) rfl (fun ls hl => ?_)
  refine lv_iload_n hx hb dX12_leave_26 rfl (lv_at hl 0 rfl) ?_
  refine lv_iconst (v := 1) hx hb dX12_leave_27 (by decide +kernel) ?_
  refine lv_aload_n hx hb dX12_leave_28 rfl (lv_at hl 2 rfl) ?_
  refine va_get (D := D) (ci := 15) (v := .int 0) (C := RX12) (T := TX12) (N := 66) hx hb hts iw_X12_leave__X12 hown hE.1 hP 0 rfl rfl 14 (by decide) (hts _ mw_X12_leave__2) (fun _ h9 => h9) rfl dX12_leave_29 ?_
  refine jw_ishl (v := 1) hx hb dX12_leave_32 (by decide +kernel) ?_
  refine lv_icmp_ge (tgt := 61) hx hb dX12_leave_33 (by decide) (fun c9 => absurd c9 (by decide +kernel)) (fun _ => ?_)
  refine lv_iload_n hx hb dX12_leave_36 rfl (lv_at hl 0 rfl) ?_
  refine jw_mi (wc := []) (cs := 0) (ss := 0) (va_runS (As := [.int 0]) (rest := []) ⟨hx, hb, hml, hown, hts⟩ (k407_X12_many H.size) (va_cwS 1 hts gX12_leave_X12_many rfl rfl rfl ydS_X12_many ⟨Nat.le_of_ble_eq_true rfl, Nat.le_of_ble_eq_true rfl⟩) (jw_mpreS hP hD hS hA hE [] rfl) rfl rfl hl.1 rfl (lv_room (Nat.le_of_ble_eq_true rfl)) dX12_leave_37 ⟨Nat.le_of_ble_eq_true rfl, Nat.le_of_ble_eq_true rfl⟩) hP hD hS hA [] rfl rfl rfl (fun r9 w1 H locs hr9 hw9 hP hD hS => ?_)
  subst hr9
  subst hw9
  have hP : va_P D vwCl [(h0, .inr (15, [.ref h3, .int 0, .int 0, .ref h4, .int 0, .int (-1), .int 0, .int 0, .int 0, .int 0, .int 0, .int 2, .int 0, .int 0, .int 0, .ref h5, .ref h6, .ref h7, .ref h8, .int 2, .int 0, .int 0, .int 0, .int 0, .ref h9, .ref h10, .ref h11, .ref h12, .int 2, .ref h13, .int 1, .ref h1, .ref h14, .int 1, .ref h15, .ref h16, .ref h17, .int 0, .ref h18, .ref h19, .ref h20, .ref h21, .ref h22, .ref h23, .ref h24, .ref h25, .ref h26, .int 0, .ref h27, .ref h28, .ref h2, .int (-1), .ref h29, .long 0, .long 0, .int 0, .int 0, .long 0, .long 0, .ref h30, .ref h31, .ref h32, .ref h33, .ref h34, .ref h35, .long 0])), (h1, .inl (Y 1, 13824, .inl (jw_l 0 [0]))), (h2, .inl (Y 2, 13824, .inr (.inl (jw_L 0 []))))] H := hP
  have hD : va_D A [(h0, .inr (15, [.ref h3, .int 0, .int 0, .ref h4, .int 0, .int (-1), .int 0, .int 0, .int 0, .int 0, .int 0, .int 2, .int 0, .int 0, .int 0, .ref h5, .ref h6, .ref h7, .ref h8, .int 2, .int 0, .int 0, .int 0, .int 0, .ref h9, .ref h10, .ref h11, .ref h12, .int 2, .ref h13, .int 1, .ref h1, .ref h14, .int 1, .ref h15, .ref h16, .ref h17, .int 0, .ref h18, .ref h19, .ref h20, .ref h21, .ref h22, .ref h23, .ref h24, .ref h25, .ref h26, .int 0, .ref h27, .ref h28, .ref h2, .int (-1), .ref h29, .long 0, .long 0, .int 0, .int 0, .long 0, .long 0, .ref h30, .ref h31, .ref h32, .ref h33, .ref h34, .ref h35, .long 0])), (h1, .inl (Y 1, 13824, .inl (jw_l 0 [0]))), (h2, .inl (Y 2, 13824, .inr (.inl (jw_L 0 []))))] := hD
  refine lv_iload_n hx hb dX12_leave_40 rfl (lv_at hl 1 rfl) ?_
  refine lv_icmp_ne (tgt := 55) hx hb dX12_leave_41 (by decide) (fun c9 => absurd (by decide +kernel) c9) (fun _ => ?_)
  refine lv_aload_n hx hb dX12_leave_44 rfl (lv_at hl 2 rfl) ?_
  refine lv_iload_n hx hb dX12_leave_45 rfl (lv_at hl 0 rfl) ?_
  refine lv_iload_n hx hb dX12_leave_46 rfl (lv_at hl 3 rfl) ?_
  refine jw_mi (wc := [(h0, .inr (15, [.ref h3, .int 0, .int 0, .ref h4, .int 0, .int (-1), .int 0, .int 0, .int 0, .int 0, .int 0, .int 2, .int 0, .int 0, .int 0, .ref h5, .ref h6, .ref h7, .ref h8, .int 2, .int 0, .int 0, .int 0, .int 0, .ref h9, .ref h10, .ref h11, .ref h12, .int 2, .ref h13, .int 1, .ref h1, .ref h14, .int 1, .ref h15, .ref h16, .ref h17, .int 0, .ref h18, .ref h19, .ref h20, .ref h21, .ref h22, .ref h23, .ref h24, .ref h25, .ref h26, .int 0, .ref h27, .ref h28, .ref h2, .int (-1), .ref h29, .long 0, .long 0, .int 0, .int 0, .long 0, .long 0, .ref h30, .ref h31, .ref h32, .ref h33, .ref h34, .ref h35, .long 0])), (h1, .inl (Y 1, 13824, .inl (jw_l 0 [0]))), (h2, .inl (Y 2, 13824, .inr (.inl (jw_L 0 []))))]) (cs := 0) (ss := 0) (va_runV (As := [.int 0, .int p1]) (rest := []) ⟨hx, hb, hml, hown, hts⟩ (k409_X12_isEven h0 h1 h2 h3 h4 h5 h6 h7 h8 h9 h10 h11 h12 h13 h14 h15 h16 h17 h18 h19 h20 h21 h22 h23 h24 h25 h26 h27 h28 h29 h30 h31 h32 h33 h34 h35 p1 (by have := g_p1; omega) H.size) (cwV 2 hts gX12_leave_X12_isEven rfl rfl rfl ydV_X12_isEven ⟨Nat.le_of_ble_eq_true rfl, Nat.le_of_ble_eq_true rfl⟩) (jw_mpreV (ci := 15) (q0 := 0) hP hD hS hA hE [true, true, true] rfl rfl rfl) rfl rfl hl.1 rfl (lv_room (Nat.le_of_ble_eq_true rfl)) dX12_leave_47 ⟨Nat.le_of_ble_eq_true rfl, Nat.le_of_ble_eq_true rfl⟩) hP hD hS hA [true, true, true] rfl rfl rfl (fun r9 w1 H locs hr9 hw9 hP hD hS => ?_)
  subst hr9
  subst hw9
  have hP : va_P D vwCl [(h0, .inr (15, [.ref h3, .int 0, .int 0, .ref h4, .int 0, .int (-1), .int 0, .int 0, .int 0, .int 0, .int 0, .int 2, .int 0, .int 0, .int 0, .ref h5, .ref h6, .ref h7, .ref h8, .int 2, .int 0, .int 0, .int 0, .int 0, .ref h9, .ref h10, .ref h11, .ref h12, .int 2, .ref h13, .int 1, .ref h1, .ref h14, .int 1, .ref h15, .ref h16, .ref h17, .int 0, .ref h18, .ref h19, .ref h20, .ref h21, .ref h22, .ref h23, .ref h24, .ref h25, .ref h26, .int 0, .ref h27, .ref h28, .ref h2, .int (-1), .ref h29, .long 0, .long 0, .int 0, .int 0, .long 0, .long 0, .ref h30, .ref h31, .ref h32, .ref h33, .ref h34, .ref h35, .long 0])), (h1, .inl (Y 1, 13824, .inl (jw_l 0 [0]))), (h2, .inl (Y 2, 13824, .inr (.inl (jw_L 0 [1]))))] H := hP
  have hD : va_D A [(h0, .inr (15, [.ref h3, .int 0, .int 0, .ref h4, .int 0, .int (-1), .int 0, .int 0, .int 0, .int 0, .int 0, .int 2, .int 0, .int 0, .int 0, .ref h5, .ref h6, .ref h7, .ref h8, .int 2, .int 0, .int 0, .int 0, .int 0, .ref h9, .ref h10, .ref h11, .ref h12, .int 2, .ref h13, .int 1, .ref h1, .ref h14, .int 1, .ref h15, .ref h16, .ref h17, .int 0, .ref h18, .ref h19, .ref h20, .ref h21, .ref h22, .ref h23, .ref h24, .ref h25, .ref h26, .int 0, .ref h27, .ref h28, .ref h2, .int (-1), .ref h29, .long 0, .long 0, .int 0, .int 0, .long 0, .long 0, .ref h30, .ref h31, .ref h32, .ref h33, .ref h34, .ref h35, .long 0])), (h1, .inl (Y 1, 13824, .inl (jw_l 0 [0]))), (h2, .inl (Y 2, 13824, .inr (.inl (jw_L 0 [1]))))] := hD
  refine lv_if_eq (tgt := 55) hx hb dX12_leave_50 (by decide) (fun c9 => absurd c9 (by decide +kernel)) (fun _ => ?_)
  refine lv_iload_n hx hb dX12_leave_53 rfl (lv_at hl 0 rfl) ?_
  refine W.widen (k := 0) (n := 0) (Nat.le_of_ble_eq_true rfl) (Nat.le_of_ble_eq_true rfl) ?_
  have hP : va_P D vwCl [] H := hP.sub [] rfl
  have hD : va_D A [] := hD.sub [] rfl rfl
  exact jw_iret hx hb hr hlocks rfl rfl hP hD hS dX12_leave_54
set_option maxHeartbeats 4000000 in
set_option maxRecDepth 100000 in
theorem k411_X11_leave {l : Launch} {D : va_G} {Y : Nat → ClassId} {tt : Nat → Nat} (h0 h1 h2 h3 h4 h5 h6 h7 h8 h9 h10 h11 h12 h13 h14 h15 : Nat) (p1 : Int32) (g_p1 : p1.toInt ≤ -1 ∨ 101 ≤ p1.toInt) (sz : Nat) : Met l yX11_leave wsX11_leave ({ frames := 0, cells := 0, slots := 0, locals := 0 }) (jw_Pc D Y tt [.ref h0, .int p1] [(h0, .inr (14, [.ref h1, .int 0, .ref h2, .ref h3, .ref h4, .ref h5, .ref h6, .ref h7, .ref h8, .ref h9, .ref h10, .ref h11, .ref h12, .ref h13, .ref h14, .ref h15, .int (-3), .int (-3)]))] sz) (jw_Qi D (fun r => r = (-1)) (fun w => w = []) (va_A [(h0, .inr (14, [.ref h1, .int 0, .ref h2, .ref h3, .ref h4, .ref h5, .ref h6, .ref h7, .ref h8, .ref h9, .ref h10, .ref h11, .ref h12, .ref h13, .ref h14, .ref h15, .int (-3), .int (-3)]))] sz)) 0 0 (va_A [(h0, .inr (14, [.ref h1, .int 0, .ref h2, .ref h3, .ref h4, .ref h5, .ref h6, .ref h7, .ref h8, .ref h9, .ref h10, .ref h11, .ref h12, .ref h13, .ref h14, .ref h15, .int (-3), .int (-3)]))] sz) := by
  refine jw_met (fun A => jw_Qi D (fun r => r = (-1)) (fun w => w = []) A) (cc := cX11_leave) (maxL := 4) (ret := (some .int)) pn_X11_leave rfl rfl ?_
  intro p e s m below meth c A H locs ls hx hb hml hr hts hown hlocks hin hP hD hA hS hE hl
  have hown : s.vm.findClass RX11 = some m.cls := hown
  have hl : lv_has ls 4 [(0, .ref h0), (1, .int p1)] := hl
  refine lv_iload_n hx hb dX11_leave_0 rfl (lv_at hl 1 rfl) ?_
  refine lv_if_lt (tgt := 10) hx hb dX11_leave_1 (by decide) (fun c_1 => ?_) (fun c_1 => ?_)
  · refine lv_iconst (v := (-1)) hx hb dX11_leave_10 (by decide +kernel) ?_
    refine W.widen (k := 0) (n := 0) (Nat.le_of_ble_eq_true rfl) (Nat.le_of_ble_eq_true rfl) ?_
    have hP : va_P D vwCl [] H := hP.sub [] rfl
    have hD : va_D A [] := hD.sub [] rfl rfl
    exact jw_iret hx hb hr hlocks rfl rfl hP hD hS dX11_leave_11
  · refine lv_iload_n hx hb dX11_leave_4 rfl (lv_at hl 1 rfl) ?_
    refine lv_bipush (v := 100) hx hb dX11_leave_5 (by decide +kernel) ?_
    refine lv_icmp_le (tgt := 12) hx hb dX11_leave_7 (by decide) (fun c_2 => False.elim (by have := g_p1; have := (jw_fnl c_1); have : (0 : Int32).toInt = 0 := (by decide +kernel); have : (100 : Int32).toInt = 100 := (by decide +kernel); have := (jw_fle c_2); omega)) (fun c_2 => ?_)
    refine lv_iconst (v := (-1)) hx hb dX11_leave_10 (by decide +kernel) ?_
    refine W.widen (k := 0) (n := 0) (Nat.le_of_ble_eq_true rfl) (Nat.le_of_ble_eq_true rfl) ?_
    have hP : va_P D vwCl [] H := hP.sub [] rfl
    have hD : va_D A [] := hD.sub [] rfl rfl
    exact jw_iret hx hb hr hlocks rfl rfl hP hD hS dX11_leave_11
set_option maxHeartbeats 4000000 in
set_option maxRecDepth 100000 in
theorem k412_X12_isIn {l : Launch} {D : va_G} {Y : Nat → ClassId} {tt : Nat → Nat} (p0 : Int32) (g_p0 : p0.toInt ≤ -1 ∨ 101 ≤ p0.toInt) (sz : Nat) : Met l yX12_isIn wsX12_isIn ({ frames := 0, cells := 0, slots := 0, locals := 0 }) (jw_Pc D Y tt [.int p0, .int 0, .int 100] [] sz) (jw_Qi D (fun r => r = 0) (fun w => w = []) (va_A [] sz)) 0 0 (va_A [] sz) := by
  refine jw_met (fun A => jw_Qi D (fun r => r = 0) (fun w => w = []) A) (cc := cX12_isIn) (maxL := 3) (ret := (some .boolean)) pn_X12_isIn rfl rfl ?_
  intro p e s m below meth c A H locs ls hx hb hml hr hts hown hlocks hin hP hD hA hS hE hl
  have hown : s.vm.findClass RX12 = some m.cls := hown
  have hl : lv_has ls 3 [(0, .int p0), (1, .int 0), (2, .int 100)] := hl
  refine lv_iload_n hx hb dX12_isIn_0 rfl (lv_at hl 0 rfl) ?_
  refine lv_iload_n hx hb dX12_isIn_1 rfl (lv_at hl 1 rfl) ?_
  refine lv_icmp_lt (tgt := 14) hx hb dX12_isIn_2 (by decide) (fun c_1 => ?_) (fun c_1 => ?_)
  · refine lv_iconst (v := 0) hx hb dX12_isIn_14 (by decide +kernel) ?_
    refine W.widen (k := 0) (n := 0) (Nat.le_of_ble_eq_true rfl) (Nat.le_of_ble_eq_true rfl) ?_
    exact jw_zret hx hb hr hlocks rfl rfl rfl hP hD hS dX12_isIn_15
  · refine lv_iload_n hx hb dX12_isIn_5 rfl (lv_at hl 0 rfl) ?_
    refine lv_iload_n hx hb dX12_isIn_6 rfl (lv_at hl 2 rfl) ?_
    refine lv_icmp_gt (tgt := 14) hx hb dX12_isIn_7 (by decide) (fun c_2 => ?_) (fun c_2 => False.elim (by have := g_p0; have := (jw_fnl c_1); have : (0 : Int32).toInt = 0 := (by decide +kernel); have : (100 : Int32).toInt = 100 := (by decide +kernel); have := (jw_fnl c_2); omega))
    refine lv_iconst (v := 0) hx hb dX12_isIn_14 (by decide +kernel) ?_
    refine W.widen (k := 0) (n := 0) (Nat.le_of_ble_eq_true rfl) (Nat.le_of_ble_eq_true rfl) ?_
    exact jw_zret hx hb hr hlocks rfl rfl rfl hP hD hS dX12_isIn_15
set_option maxHeartbeats 4000000 in
set_option maxRecDepth 100000 in
theorem k413_X12_leave {l : Launch} {D : va_G} {Y : Nat → ClassId} {tt : Nat → Nat} (h0 h1 h2 h3 h4 h5 h6 h7 h8 h9 h10 h11 h12 h13 h14 h15 h16 h17 h18 h19 h20 h21 h22 h23 h24 h25 h26 h27 h28 h29 h30 h31 h32 h33 h34 h35 : Nat) (p1 : Int32) (g_p1 : p1.toInt ≤ -1 ∨ 101 ≤ p1.toInt) (sz : Nat) : Met l yX12_leave wsX12_leave ({ frames := 1, cells := 0, slots := 0, locals := 22 }) (jw_Pc D Y tt [.ref h0, .int p1] [(h0, .inr (15, [.ref h1, .int 0, .int 0, .ref h2, .int 0, .int (-1), .int 0, .int 0, .int 0, .int 0, .int 0, .int 2, .int 0, .int 0, .int 0, .ref h3, .ref h4, .ref h5, .ref h6, .int 2, .int 0, .int 0, .int 0, .int 0, .ref h7, .ref h8, .ref h9, .ref h10, .int 2, .ref h11, .int 1, .ref h12, .ref h13, .int 1, .ref h14, .ref h15, .ref h16, .int 0, .ref h17, .ref h18, .ref h19, .ref h20, .ref h21, .ref h22, .ref h23, .ref h24, .ref h25, .int 0, .ref h26, .ref h27, .ref h28, .int (-1), .ref h29, .long 0, .long 0, .int 0, .int 0, .long 0, .long 0, .ref h30, .ref h31, .ref h32, .ref h33, .ref h34, .ref h35, .long 0]))] sz) (jw_Qi D (fun r => r = (-1)) (fun w => w = []) (va_A [(h0, .inr (15, [.ref h1, .int 0, .int 0, .ref h2, .int 0, .int (-1), .int 0, .int 0, .int 0, .int 0, .int 0, .int 2, .int 0, .int 0, .int 0, .ref h3, .ref h4, .ref h5, .ref h6, .int 2, .int 0, .int 0, .int 0, .int 0, .ref h7, .ref h8, .ref h9, .ref h10, .int 2, .ref h11, .int 1, .ref h12, .ref h13, .int 1, .ref h14, .ref h15, .ref h16, .int 0, .ref h17, .ref h18, .ref h19, .ref h20, .ref h21, .ref h22, .ref h23, .ref h24, .ref h25, .int 0, .ref h26, .ref h27, .ref h28, .int (-1), .ref h29, .long 0, .long 0, .int 0, .int 0, .long 0, .long 0, .ref h30, .ref h31, .ref h32, .ref h33, .ref h34, .ref h35, .long 0]))] sz)) 0 0 (va_A [(h0, .inr (15, [.ref h1, .int 0, .int 0, .ref h2, .int 0, .int (-1), .int 0, .int 0, .int 0, .int 0, .int 0, .int 2, .int 0, .int 0, .int 0, .ref h3, .ref h4, .ref h5, .ref h6, .int 2, .int 0, .int 0, .int 0, .int 0, .ref h7, .ref h8, .ref h9, .ref h10, .int 2, .ref h11, .int 1, .ref h12, .ref h13, .int 1, .ref h14, .ref h15, .ref h16, .int 0, .ref h17, .ref h18, .ref h19, .ref h20, .ref h21, .ref h22, .ref h23, .ref h24, .ref h25, .int 0, .ref h26, .ref h27, .ref h28, .int (-1), .ref h29, .long 0, .long 0, .int 0, .int 0, .long 0, .long 0, .ref h30, .ref h31, .ref h32, .ref h33, .ref h34, .ref h35, .long 0]))] sz) := by
  refine jw_met (fun A => jw_Qi D (fun r => r = (-1)) (fun w => w = []) A) (cc := cX12_leave) (maxL := 4) (ret := (some .int)) pn_X12_leave rfl rfl ?_
  intro p e s m below meth c A H locs ls hx hb hml hr hts hown hlocks hin hP hD hA hS hE hl
  have hown : s.vm.findClass RX12 = some m.cls := hown
  have hl : lv_has ls 4 [(0, .ref h0), (1, .int p1)] := hl
  refine lv_aload_n hx hb dX12_leave_0 rfl (lv_at hl 0 rfl) ?_
  refine lv_iconst (v := 0) hx hb dX12_leave_1 (by decide +kernel) ?_
  refine va_put (D := D) (ci := 15) (v := .int 0) (C := RX12) (T := TX12) (N := 66) hx hb hts iw_X12_leave__X12 tyX12 tyX12_ok nmX12 hown hE.1 hP hD hS 0 rfl rfl 2 (by decide) (hts _ mw_X12_leave__1) (fun _ h9 => h9) rfl (tyX12_ok 2 (by decide)) rfl rfl (Nat.le_of_ble_eq_true rfl) dX12_leave_2 (fun H locs hP hD hS => ?_)
  have hP : va_P D vwCl [(h0, .inr (15, [.ref h1, .int 0, .int 0, .ref h2, .int 0, .int (-1), .int 0, .int 0, .int 0, .int 0, .int 0, .int 2, .int 0, .int 0, .int 0, .ref h3, .ref h4, .ref h5, .ref h6, .int 2, .int 0, .int 0, .int 0, .int 0, .ref h7, .ref h8, .ref h9, .ref h10, .int 2, .ref h11, .int 1, .ref h12, .ref h13, .int 1, .ref h14, .ref h15, .ref h16, .int 0, .ref h17, .ref h18, .ref h19, .ref h20, .ref h21, .ref h22, .ref h23, .ref h24, .ref h25, .int 0, .ref h26, .ref h27, .ref h28, .int (-1), .ref h29, .long 0, .long 0, .int 0, .int 0, .long 0, .long 0, .ref h30, .ref h31, .ref h32, .ref h33, .ref h34, .ref h35, .long 0]))] H := hP
  have hD : va_D A [(h0, .inr (15, [.ref h1, .int 0, .int 0, .ref h2, .int 0, .int (-1), .int 0, .int 0, .int 0, .int 0, .int 0, .int 2, .int 0, .int 0, .int 0, .ref h3, .ref h4, .ref h5, .ref h6, .int 2, .int 0, .int 0, .int 0, .int 0, .ref h7, .ref h8, .ref h9, .ref h10, .int 2, .ref h11, .int 1, .ref h12, .ref h13, .int 1, .ref h14, .ref h15, .ref h16, .int 0, .ref h17, .ref h18, .ref h19, .ref h20, .ref h21, .ref h22, .ref h23, .ref h24, .ref h25, .int 0, .ref h26, .ref h27, .ref h28, .int (-1), .ref h29, .long 0, .long 0, .int 0, .int 0, .long 0, .long 0, .ref h30, .ref h31, .ref h32, .ref h33, .ref h34, .ref h35, .long 0]))] := hD
  refine lv_iload_n hx hb dX12_leave_5 rfl (lv_at hl 1 rfl) ?_
  refine lv_iconst (v := 0) hx hb dX12_leave_6 (by decide +kernel) ?_
  refine lv_bipush (v := 100) hx hb dX12_leave_7 (by decide +kernel) ?_
  refine jw_mi (wc := []) (cs := 0) (ss := 0) (va_runS (As := [.int p1, .int 0, .int 100]) (rest := []) ⟨hx, hb, hml, hown, hts⟩ (k412_X12_isIn p1 (by have := g_p1; omega) H.size) (va_cwS 3 hts gX12_leave_X12_isIn rfl rfl rfl ydS_X12_isIn ⟨Nat.le_of_ble_eq_true rfl, Nat.le_of_ble_eq_true rfl⟩) (jw_mpreS hP hD hS hA hE [] rfl) rfl rfl hl.1 rfl (lv_room (Nat.le_of_ble_eq_true rfl)) dX12_leave_9 ⟨Nat.le_of_ble_eq_true rfl, Nat.le_of_ble_eq_true rfl⟩) hP hD hS hA [] rfl rfl rfl (fun r9 w1 H locs hr9 hw9 hP hD hS => ?_)
  subst hr9
  subst hw9
  have hP : va_P D vwCl [(h0, .inr (15, [.ref h1, .int 0, .int 0, .ref h2, .int 0, .int (-1), .int 0, .int 0, .int 0, .int 0, .int 0, .int 2, .int 0, .int 0, .int 0, .ref h3, .ref h4, .ref h5, .ref h6, .int 2, .int 0, .int 0, .int 0, .int 0, .ref h7, .ref h8, .ref h9, .ref h10, .int 2, .ref h11, .int 1, .ref h12, .ref h13, .int 1, .ref h14, .ref h15, .ref h16, .int 0, .ref h17, .ref h18, .ref h19, .ref h20, .ref h21, .ref h22, .ref h23, .ref h24, .ref h25, .int 0, .ref h26, .ref h27, .ref h28, .int (-1), .ref h29, .long 0, .long 0, .int 0, .int 0, .long 0, .long 0, .ref h30, .ref h31, .ref h32, .ref h33, .ref h34, .ref h35, .long 0]))] H := hP
  have hD : va_D A [(h0, .inr (15, [.ref h1, .int 0, .int 0, .ref h2, .int 0, .int (-1), .int 0, .int 0, .int 0, .int 0, .int 0, .int 2, .int 0, .int 0, .int 0, .ref h3, .ref h4, .ref h5, .ref h6, .int 2, .int 0, .int 0, .int 0, .int 0, .ref h7, .ref h8, .ref h9, .ref h10, .int 2, .ref h11, .int 1, .ref h12, .ref h13, .int 1, .ref h14, .ref h15, .ref h16, .int 0, .ref h17, .ref h18, .ref h19, .ref h20, .ref h21, .ref h22, .ref h23, .ref h24, .ref h25, .int 0, .ref h26, .ref h27, .ref h28, .int (-1), .ref h29, .long 0, .long 0, .int 0, .int 0, .long 0, .long 0, .ref h30, .ref h31, .ref h32, .ref h33, .ref h34, .ref h35, .long 0]))] := hD
  refine lv_if_ne (tgt := 17) hx hb dX12_leave_12 (by decide) (fun c9 => absurd (by decide +kernel) c9) (fun _ => ?_)
  refine lv_iconst (v := (-1)) hx hb dX12_leave_15 (by decide +kernel) ?_
  refine W.widen (k := 0) (n := 0) (Nat.le_of_ble_eq_true rfl) (Nat.le_of_ble_eq_true rfl) ?_
  have hP : va_P D vwCl [] H := hP.sub [] rfl
  have hD : va_D A [] := hD.sub [] rfl rfl
  exact jw_iret hx hb hr hlocks rfl rfl hP hD hS dX12_leave_16
set_option maxHeartbeats 4000000 in
set_option maxRecDepth 100000 in
theorem k414_X9_clearRows {l : Launch} {D : va_G} {Y : Nat → ClassId} {tt : Nat → Nat} (h0 h1 h2 h3 h4 h5 h6 h7 h8 h9 h10 h11 : Nat) (sz : Nat) : Met l yX9_clearRows wsX9_clearRows ({ frames := 2, cells := 0, slots := 0, locals := 46 }) (jw_Pc D Y tt [.ref h1] [(h0, .inr (5, [.ref h3, .ref h4, .int 1, .int 1, .ref h5, .ref h6, .ref h7, .ref h8, .ref h9, .ref h10])), (h1, .inr (12, [.ref h0, .ref h4, .ref h2, .ref h11, .int (-1), .int 0, .int 0, .int 0, .int 0, .int 0])), (h2, .inl (Y 1, 1, .inl (jw_l 0 [])))] sz) (jw_Qv D (fun w => w = [(h0, .inr (5, [.ref h3, .ref h4, .int 1, .int 1, .ref h5, .ref h6, .ref h7, .ref h8, .ref h9, .ref h10])), (h1, .inr (12, [.ref h0, .ref h4, .ref h2, .ref h11, .int (-1), .int 0, .int 0, .int 0, .int 0, .int 0])), (h2, .inl (Y 1, 1, .inl (jw_l 0 [0])))]) (va_A [(h0, .inr (5, [.ref h3, .ref h4, .int 1, .int 1, .ref h5, .ref h6, .ref h7, .ref h8, .ref h9, .ref h10])), (h1, .inr (12, [.ref h0, .ref h4, .ref h2, .ref h11, .int (-1), .int 0, .int 0, .int 0, .int 0, .int 0])), (h2, .inl (Y 1, 1, .inl (jw_l 0 [])))] sz)) 0 0 (va_A [(h0, .inr (5, [.ref h3, .ref h4, .int 1, .int 1, .ref h5, .ref h6, .ref h7, .ref h8, .ref h9, .ref h10])), (h1, .inr (12, [.ref h0, .ref h4, .ref h2, .ref h11, .int (-1), .int 0, .int 0, .int 0, .int 0, .int 0])), (h2, .inl (Y 1, 1, .inl (jw_l 0 [])))] sz) := by
  refine jw_met (fun A => jw_Qv D (fun w => w = [(h0, .inr (5, [.ref h3, .ref h4, .int 1, .int 1, .ref h5, .ref h6, .ref h7, .ref h8, .ref h9, .ref h10])), (h1, .inr (12, [.ref h0, .ref h4, .ref h2, .ref h11, .int (-1), .int 0, .int 0, .int 0, .int 0, .int 0])), (h2, .inl (Y 1, 1, .inl (jw_l 0 [0])))]) A) (cc := cX9_clearRows) (maxL := 1) (ret := none) pn_X9_clearRows rfl rfl ?_
  intro p e s m below meth c A H locs ls hx hb hml hr hts hown hlocks hin hP hD hA hS hE hl
  have hown : s.vm.findClass RX9 = some m.cls := hown
  have hl : lv_has ls 1 [(0, .ref h1)] := hl
  refine lv_aload_n hx hb dX9_clearRows_0 rfl (lv_at hl 0 rfl) ?_
  refine va_get (D := D) (ci := 12) (v := .ref h2) (C := RX9) (T := TX9) (N := 10) hx hb hts iw_X9_clearRows__X9 hown hE.1 hP 1 rfl rfl 2 (by decide) (hts _ mw_X9_clearRows__1) (fun _ h9 => h9) rfl dX9_clearRows_1 ?_
  refine jw_alen (v := 1) hx hb hE hP 2 1 rfl rfl (by decide +kernel) dX9_clearRows_4 ?_
  refine lv_aload_n hx hb dX9_clearRows_5 rfl (lv_at hl 0 rfl) ?_
  refine va_get (D := D) (ci := 12) (v := .ref h0) (C := RX9) (T := TX9) (N := 10) hx hb hts iw_X9_clearRows__X9 hown hE.1 hP 1 rfl rfl 0 (by decide) (hts _ mw_X9_clearRows__2) (fun _ h9 => h9) rfl dX9_clearRows_6 ?_
  refine va_getN (D := D) (ci := 5) (v := .int 1) (C := RX2) (T := TX2) (N := 10) hx hb hts iw_X9_clearRows__X2 hown hE.1 hP 0 rfl rfl 2 (by decide) (nf_X9_49 hE) (fun _ h9 => h9) rfl dX9_clearRows_9 ?_
  refine lv_icmp_ge (tgt := 41) hx hb dX9_clearRows_12 (by decide) (fun _ => ?_) (fun c9 => absurd (by decide +kernel) c9)
  refine lv_aload_n hx hb dX9_clearRows_41 rfl (lv_at hl 0 rfl) ?_
  refine va_get (D := D) (ci := 12) (v := .ref h2) (C := RX9) (T := TX9) (N := 10) hx hb hts iw_X9_clearRows__X9 hown hE.1 hP 1 rfl rfl 2 (by decide) (hts _ mw_X9_clearRows__1) (fun _ h9 => h9) rfl dX9_clearRows_42 ?_
  refine lv_iconst (v := 0) hx hb dX9_clearRows_45 (by decide +kernel) ?_
  refine lv_aload_n hx hb dX9_clearRows_46 rfl (lv_at hl 0 rfl) ?_
  refine va_get (D := D) (ci := 12) (v := .ref h0) (C := RX9) (T := TX9) (N := 10) hx hb hts iw_X9_clearRows__X9 hown hE.1 hP 1 rfl rfl 0 (by decide) (hts _ mw_X9_clearRows__2) (fun _ h9 => h9) rfl dX9_clearRows_47 ?_
  refine va_getN (D := D) (ci := 5) (v := .int 1) (C := RX2) (T := TX2) (N := 10) hx hb hts iw_X9_clearRows__X2 hown hE.1 hP 0 rfl rfl 2 (by decide) (nf_X9_49 hE) (fun _ h9 => h9) rfl dX9_clearRows_50 ?_
  refine lv_iconst (v := 0) hx hb dX9_clearRows_53 (by decide +kernel) ?_
  refine jw_mv (wc := [(h2, .inl (Y 1, 1, .inl (jw_l 0 [])))]) (cs := 0) (ss := 0) (va_runS (As := [.ref h2, .int 0, .int 1, .int 0]) (rest := []) ⟨hx, hb, hml, hown, hts⟩ (k43_J7_fill_fda19 h2 H.size) (va_cwS 4 hts gX9_clearRows_J7_fill_fda19 rfl rfl rfl ydS_J7_fill_fda19 ⟨Nat.le_of_ble_eq_true rfl, Nat.le_of_ble_eq_true rfl⟩) (jw_mpreS hP hD hS hA hE [false, false, true] rfl) rfl rfl hl.1 rfl (lv_room (Nat.le_of_ble_eq_true rfl)) dX9_clearRows_54 ⟨Nat.le_of_ble_eq_true rfl, Nat.le_of_ble_eq_true rfl⟩) hP hD hS hA [false, false, true] rfl rfl rfl (fun w1 H locs hw9 hP hD hS => ?_)
  subst hw9
  have hP : va_P D vwCl [(h0, .inr (5, [.ref h3, .ref h4, .int 1, .int 1, .ref h5, .ref h6, .ref h7, .ref h8, .ref h9, .ref h10])), (h1, .inr (12, [.ref h0, .ref h4, .ref h2, .ref h11, .int (-1), .int 0, .int 0, .int 0, .int 0, .int 0])), (h2, .inl (Y 1, 1, .inl (jw_l 0 [0])))] H := hP
  have hD : va_D A [(h0, .inr (5, [.ref h3, .ref h4, .int 1, .int 1, .ref h5, .ref h6, .ref h7, .ref h8, .ref h9, .ref h10])), (h1, .inr (12, [.ref h0, .ref h4, .ref h2, .ref h11, .int (-1), .int 0, .int 0, .int 0, .int 0, .int 0])), (h2, .inl (Y 1, 1, .inl (jw_l 0 [0])))] := hD
  refine lv_aload_n hx hb dX9_clearRows_57 rfl (lv_at hl 0 rfl) ?_
  refine lv_iconst (v := (-1)) hx hb dX9_clearRows_58 (by decide +kernel) ?_
  refine va_put (D := D) (ci := 12) (v := .int (-1)) (C := RX9) (T := TX9) (N := 10) hx hb hts iw_X9_clearRows__X9 tyX9 tyX9_ok nmX9 hown hE.1 hP hD hS 1 rfl rfl 4 (by decide) (hts _ mw_X9_clearRows__5) (fun _ h9 => h9) rfl (tyX9_ok 4 (by decide)) rfl rfl (Nat.le_of_ble_eq_true rfl) dX9_clearRows_59 (fun H locs hP hD hS => ?_)
  have hP : va_P D vwCl [(h0, .inr (5, [.ref h3, .ref h4, .int 1, .int 1, .ref h5, .ref h6, .ref h7, .ref h8, .ref h9, .ref h10])), (h1, .inr (12, [.ref h0, .ref h4, .ref h2, .ref h11, .int (-1), .int 0, .int 0, .int 0, .int 0, .int 0])), (h2, .inl (Y 1, 1, .inl (jw_l 0 [0])))] H := hP
  have hD : va_D A [(h0, .inr (5, [.ref h3, .ref h4, .int 1, .int 1, .ref h5, .ref h6, .ref h7, .ref h8, .ref h9, .ref h10])), (h1, .inr (12, [.ref h0, .ref h4, .ref h2, .ref h11, .int (-1), .int 0, .int 0, .int 0, .int 0, .int 0])), (h2, .inl (Y 1, 1, .inl (jw_l 0 [0])))] := hD
  refine W.widen (k := 0) (n := 0) (Nat.le_of_ble_eq_true rfl) (Nat.le_of_ble_eq_true rfl) ?_
  exact jw_vret hx hb hr hlocks rfl hP hD hS dX9_clearRows_62
set_option maxHeartbeats 4000000 in
set_option maxRecDepth 100000 in
theorem k415_X9_meet {l : Launch} {D : va_G} {Y : Nat → ClassId} {tt : Nat → Nat} (h0 h1 h2 h3 h4 : Nat) (sz : Nat) : Met l yX9_meet wsX9_meet ({ frames := 0, cells := 0, slots := 0, locals := 0 }) (jw_Pc D Y tt [.ref h0, .int 0] [(h0, .inr (12, [.ref h3, .ref h4, .ref h1, .ref h2, .int (-1), .int 0, .int 0, .int 0, .int 0, .int 0])), (h1, .inl (Y 1, 1, .inl (jw_l 0 [0]))), (h2, .inl (Y 1, 1, .inl (jw_l 0 [])))] sz) (jw_Qv D (fun w => w = [(h0, .inr (12, [.ref h3, .ref h4, .ref h1, .ref h2, .int (-1), .int 0, .int 0, .int 0, .int 0, .int 1])), (h1, .inl (Y 1, 1, .inl (jw_l 0 [1]))), (h2, .inl (Y 1, 1, .inl (jw_l 0 [0])))]) (va_A [(h0, .inr (12, [.ref h3, .ref h4, .ref h1, .ref h2, .int (-1), .int 0, .int 0, .int 0, .int 0, .int 0])), (h1, .inl (Y 1, 1, .inl (jw_l 0 [0]))), (h2, .inl (Y 1, 1, .inl (jw_l 0 [])))] sz)) 0 0 (va_A [(h0, .inr (12, [.ref h3, .ref h4, .ref h1, .ref h2, .int (-1), .int 0, .int 0, .int 0, .int 0, .int 0])), (h1, .inl (Y 1, 1, .inl (jw_l 0 [0]))), (h2, .inl (Y 1, 1, .inl (jw_l 0 [])))] sz) := by
  refine jw_met (fun A => jw_Qv D (fun w => w = [(h0, .inr (12, [.ref h3, .ref h4, .ref h1, .ref h2, .int (-1), .int 0, .int 0, .int 0, .int 0, .int 1])), (h1, .inl (Y 1, 1, .inl (jw_l 0 [1]))), (h2, .inl (Y 1, 1, .inl (jw_l 0 [0])))]) A) (cc := cX9_meet) (maxL := 2) (ret := none) pn_X9_meet rfl rfl ?_
  intro p e s m below meth c A H locs ls hx hb hml hr hts hown hlocks hin hP hD hA hS hE hl
  have hown : s.vm.findClass RX9 = some m.cls := hown
  have hl : lv_has ls 2 [(0, .ref h0), (1, .int 0)] := hl
  refine lv_aload_n hx hb dX9_meet_0 rfl (lv_at hl 0 rfl) ?_
  refine va_get (D := D) (ci := 12) (v := .ref h1) (C := RX9) (T := TX9) (N := 10) hx hb hts iw_X9_meet__X9 hown hE.1 hP 0 rfl rfl 2 (by decide) (hts _ mw_X9_meet__1) (fun _ h9 => h9) rfl dX9_meet_1 ?_
  refine lv_iload_n hx hb dX9_meet_4 rfl (lv_at hl 1 rfl) ?_
  refine jw_iald (v := 0) hx hb hE hP 1 0 rfl (by decide +kernel) (by decide +kernel) dX9_meet_5 ?_
  refine lv_if_ne (tgt := 48) hx hb dX9_meet_6 (by decide) (fun c9 => absurd (by decide +kernel) c9) (fun _ => ?_)
  refine lv_aload_n hx hb dX9_meet_9 rfl (lv_at hl 0 rfl) ?_
  refine va_get (D := D) (ci := 12) (v := .int 0) (C := RX9) (T := TX9) (N := 10) hx hb hts iw_X9_meet__X9 hown hE.1 hP 0 rfl rfl 9 (by decide) (hts _ mw_X9_meet__2) (fun _ h9 => h9) rfl dX9_meet_10 ?_
  refine lv_aload_n hx hb dX9_meet_13 rfl (lv_at hl 0 rfl) ?_
  refine va_get (D := D) (ci := 12) (v := .ref h2) (C := RX9) (T := TX9) (N := 10) hx hb hts iw_X9_meet__X9 hown hE.1 hP 0 rfl rfl 3 (by decide) (hts _ mw_X9_meet__3) (fun _ h9 => h9) rfl dX9_meet_14 ?_
  refine jw_alen (v := 1) hx hb hE hP 2 1 rfl rfl (by decide +kernel) dX9_meet_17 ?_
  refine lv_icmp_ge (tgt := 48) hx hb dX9_meet_18 (by decide) (fun c9 => absurd c9 (by decide +kernel)) (fun _ => ?_)
  refine lv_aload_n hx hb dX9_meet_21 rfl (lv_at hl 0 rfl) ?_
  refine va_get (D := D) (ci := 12) (v := .ref h1) (C := RX9) (T := TX9) (N := 10) hx hb hts iw_X9_meet__X9 hown hE.1 hP 0 rfl rfl 2 (by decide) (hts _ mw_X9_meet__1) (fun _ h9 => h9) rfl dX9_meet_22 ?_
  refine lv_iload_n hx hb dX9_meet_25 rfl (lv_at hl 1 rfl) ?_
  refine lv_iconst (v := 1) hx hb dX9_meet_26 (by decide +kernel) ?_
  refine jw_iast (ws' := [(h0, .inr (12, [.ref h3, .ref h4, .ref h1, .ref h2, .int (-1), .int 0, .int 0, .int 0, .int 0, .int 0])), (h1, .inl (Y 1, 1, .inl (jw_l 0 [1]))), (h2, .inl (Y 1, 1, .inl (jw_l 0 [])))]) hx hb hE hP hD hS 1 0 [1] rfl (by decide +kernel) (by decide +kernel) rfl dX9_meet_27 (fun H locs hP hD hS => ?_)
  refine lv_aload_n hx hb dX9_meet_28 rfl (lv_at hl 0 rfl) ?_
  refine va_get (D := D) (ci := 12) (v := .ref h2) (C := RX9) (T := TX9) (N := 10) hx hb hts iw_X9_meet__X9 hown hE.1 hP 0 rfl rfl 3 (by decide) (hts _ mw_X9_meet__3) (fun _ h9 => h9) rfl dX9_meet_29 ?_
  refine lv_aload_n hx hb dX9_meet_32 rfl (lv_at hl 0 rfl) ?_
  refine va_get (D := D) (ci := 12) (v := .int 0) (C := RX9) (T := TX9) (N := 10) hx hb hts iw_X9_meet__X9 hown hE.1 hP 0 rfl rfl 9 (by decide) (hts _ mw_X9_meet__2) (fun _ h9 => h9) rfl dX9_meet_33 ?_
  refine lv_iload_n hx hb dX9_meet_36 rfl (lv_at hl 1 rfl) ?_
  refine jw_iast (ws' := [(h0, .inr (12, [.ref h3, .ref h4, .ref h1, .ref h2, .int (-1), .int 0, .int 0, .int 0, .int 0, .int 0])), (h1, .inl (Y 1, 1, .inl (jw_l 0 [1]))), (h2, .inl (Y 1, 1, .inl (jw_l 0 [0])))]) hx hb hE hP hD hS 2 0 [0] rfl (by decide +kernel) (by decide +kernel) rfl dX9_meet_37 (fun H locs hP hD hS => ?_)
  refine lv_aload_n hx hb dX9_meet_38 rfl (lv_at hl 0 rfl) ?_
  refine lv_dup hx hb dX9_meet_39 rfl ?_
  refine va_get (D := D) (ci := 12) (v := .int 0) (C := RX9) (T := TX9) (N := 10) hx hb hts iw_X9_meet__X9 hown hE.1 hP 0 rfl rfl 9 (by decide) (hts _ mw_X9_meet__2) (fun _ h9 => h9) rfl dX9_meet_40 ?_
  refine lv_iconst (v := 1) hx hb dX9_meet_43 (by decide +kernel) ?_
  refine jw_iadd (v := 1) hx hb dX9_meet_44 (by decide +kernel) ?_
  refine va_put (D := D) (ci := 12) (v := .int 1) (C := RX9) (T := TX9) (N := 10) hx hb hts iw_X9_meet__X9 tyX9 tyX9_ok nmX9 hown hE.1 hP hD hS 0 rfl rfl 9 (by decide) (hts _ mw_X9_meet__2) (fun _ h9 => h9) rfl (tyX9_ok 9 (by decide)) rfl rfl (Nat.le_of_ble_eq_true rfl) dX9_meet_45 (fun H locs hP hD hS => ?_)
  have hP : va_P D vwCl [(h0, .inr (12, [.ref h3, .ref h4, .ref h1, .ref h2, .int (-1), .int 0, .int 0, .int 0, .int 0, .int 1])), (h1, .inl (Y 1, 1, .inl (jw_l 0 [1]))), (h2, .inl (Y 1, 1, .inl (jw_l 0 [0])))] H := hP
  have hD : va_D A [(h0, .inr (12, [.ref h3, .ref h4, .ref h1, .ref h2, .int (-1), .int 0, .int 0, .int 0, .int 0, .int 1])), (h1, .inl (Y 1, 1, .inl (jw_l 0 [1]))), (h2, .inl (Y 1, 1, .inl (jw_l 0 [0])))] := hD
  refine W.widen (k := 0) (n := 0) (Nat.le_of_ble_eq_true rfl) (Nat.le_of_ble_eq_true rfl) ?_
  exact jw_vret hx hb hr hlocks rfl hP hD hS dX9_meet_48
set_option maxHeartbeats 4000000 in
set_option maxRecDepth 100000 in
theorem k416_X9_meetSwapped {l : Launch} {D : va_G} {Y : Nat → ClassId} {tt : Nat → Nat} (h0 h1 h2 h3 h4 h5 h6 h7 h8 h9 h10 h11 h12 h13 h14 h15 h16 : Nat) (sz : Nat) : Met l yX9_meetSwapped wsX9_meetSwapped ({ frames := 0, cells := 0, slots := 0, locals := 0 }) (jw_Pc D Y tt [.ref h2, .int 0] [(h0, .inr (6, [.int 2, .int 0, .int 0, .int 0, .int 0, .ref h3, .ref h4, .ref h5, .ref h6, .ref h7, .int 0])), (h1, .inr (5, [.ref h0, .ref h8, .int 1, .int 1, .ref h9, .ref h10, .ref h11, .ref h12, .ref h13, .ref h14])), (h2, .inr (12, [.ref h1, .ref h8, .ref h15, .ref h16, .int (-1), .int 0, .int 0, .int 0, .int 0, .int 1]))] sz) (jw_Qv D (fun w => w = [(h0, .inr (6, [.int 2, .int 0, .int 0, .int 0, .int 0, .ref h3, .ref h4, .ref h5, .ref h6, .ref h7, .int 0])), (h1, .inr (5, [.ref h0, .ref h8, .int 1, .int 1, .ref h9, .ref h10, .ref h11, .ref h12, .ref h13, .ref h14])), (h2, .inr (12, [.ref h1, .ref h8, .ref h15, .ref h16, .int (-1), .int 0, .int 0, .int 0, .int 0, .int 1]))]) (va_A [(h0, .inr (6, [.int 2, .int 0, .int 0, .int 0, .int 0, .ref h3, .ref h4, .ref h5, .ref h6, .ref h7, .int 0])), (h1, .inr (5, [.ref h0, .ref h8, .int 1, .int 1, .ref h9, .ref h10, .ref h11, .ref h12, .ref h13, .ref h14])), (h2, .inr (12, [.ref h1, .ref h8, .ref h15, .ref h16, .int (-1), .int 0, .int 0, .int 0, .int 0, .int 1]))] sz)) 0 0 (va_A [(h0, .inr (6, [.int 2, .int 0, .int 0, .int 0, .int 0, .ref h3, .ref h4, .ref h5, .ref h6, .ref h7, .int 0])), (h1, .inr (5, [.ref h0, .ref h8, .int 1, .int 1, .ref h9, .ref h10, .ref h11, .ref h12, .ref h13, .ref h14])), (h2, .inr (12, [.ref h1, .ref h8, .ref h15, .ref h16, .int (-1), .int 0, .int 0, .int 0, .int 0, .int 1]))] sz) := by
  refine jw_met (fun A => jw_Qv D (fun w => w = [(h0, .inr (6, [.int 2, .int 0, .int 0, .int 0, .int 0, .ref h3, .ref h4, .ref h5, .ref h6, .ref h7, .int 0])), (h1, .inr (5, [.ref h0, .ref h8, .int 1, .int 1, .ref h9, .ref h10, .ref h11, .ref h12, .ref h13, .ref h14])), (h2, .inr (12, [.ref h1, .ref h8, .ref h15, .ref h16, .int (-1), .int 0, .int 0, .int 0, .int 0, .int 1]))]) A) (cc := cX9_meetSwapped) (maxL := 8) (ret := none) pn_X9_meetSwapped rfl rfl ?_
  intro p e s m below meth c A H locs ls hx hb hml hr hts hown hlocks hin hP hD hA hS hE hl
  have hown : s.vm.findClass RX9 = some m.cls := hown
  have hl : lv_has ls 8 [(0, .ref h2), (1, .int 0)] := hl
  refine lv_iconst (v := 0) hx hb dX9_meetSwapped_0 (by decide +kernel) ?_
  refine lv_istore_n (lv' := [(2, .int 0), (0, .ref h2), (1, .int 0)]) hx hb dX9_meetSwapped_1 rfl hl (by decide) rfl (fun ls hl => ?_)
  refine lv_iload_n hx hb dX9_meetSwapped_2 rfl (lv_at hl 0 rfl) ?_
  refine lv_aload_n hx hb dX9_meetSwapped_3 rfl (lv_at hl 1 rfl) ?_
  refine va_get (D := D) (ci := 12) (v := .ref h1) (C := RX9) (T := TX9) (N := 10) hx hb hts iw_X9_meetSwapped__X9 hown hE.1 hP 2 rfl rfl 0 (by decide) (hts _ mw_X9_meetSwapped__1) (fun _ h9 => h9) rfl dX9_meetSwapped_4 ?_
  refine va_getN (D := D) (ci := 5) (v := .ref h0) (C := RX2) (T := TX2) (N := 10) hx hb hts iw_X9_meetSwapped__X2 hown hE.1 hP 1 rfl rfl 0 (by decide) (nf_X9_87 hE) (fun _ h9 => h9) rfl dX9_meetSwapped_7 ?_
  refine va_getN (D := D) (ci := 6) (v := .int 0) (C := RX3) (T := TX3) (N := 11) hx hb hts iw_X9_meetSwapped__X3 hown hE.1 hP 0 rfl rfl 1 (by decide) (nf_X9_91 hE) (fun _ h9 => h9) rfl dX9_meetSwapped_10 ?_
  refine lv_icmp_ge (tgt := 114) hx hb dX9_meetSwapped_13 (by decide) (fun _ => ?_) (fun c9 => absurd (by decide +kernel) c9)
  refine W.widen (k := 0) (n := 0) (Nat.le_of_ble_eq_true rfl) (Nat.le_of_ble_eq_true rfl) ?_
  exact jw_vret hx hb hr hlocks rfl hP hD hS dX9_meetSwapped_114
set_option maxHeartbeats 4000000 in
set_option maxRecDepth 100000 in
theorem k417_X9_sizeOfPart {l : Launch} {D : va_G} {Y : Nat → ClassId} {tt : Nat → Nat} (h0 h1 h2 h3 h4 h5 h6 h7 h8 h9 h10 h11 h12 h13 h14 h15 h16 : Nat) (sz : Nat) : Met l yX9_sizeOfPart wsX9_sizeOfPart ({ frames := 1, cells := 0, slots := 0, locals := 27 }) (jw_Pc D Y tt [.ref h2, .int 0] [(h0, .inr (6, [.int 2, .int 0, .int 0, .int 0, .int 0, .ref h5, .ref h6, .ref h7, .ref h8, .ref h9, .int 0])), (h1, .inr (5, [.ref h0, .ref h10, .int 1, .int 1, .ref h11, .ref h12, .ref h13, .ref h14, .ref h15, .ref h16])), (h2, .inr (12, [.ref h1, .ref h10, .ref h3, .ref h4, .int (-1), .int 0, .int 0, .int 0, .int 0, .int 0])), (h3, .inl (Y 1, 1, .inl (jw_l 0 [0]))), (h4, .inl (Y 1, 1, .inl (jw_l 0 [])))] sz) (jw_Qi D (fun r => r = 1) (fun w => w = [(h0, .inr (6, [.int 2, .int 0, .int 0, .int 0, .int 0, .ref h5, .ref h6, .ref h7, .ref h8, .ref h9, .int 0])), (h1, .inr (5, [.ref h0, .ref h10, .int 1, .int 1, .ref h11, .ref h12, .ref h13, .ref h14, .ref h15, .ref h16])), (h2, .inr (12, [.ref h1, .ref h10, .ref h3, .ref h4, .int (-1), .int 0, .int 0, .int 0, .int 0, .int 1])), (h3, .inl (Y 1, 1, .inl (jw_l 0 [1]))), (h4, .inl (Y 1, 1, .inl (jw_l 0 [0])))]) (va_A [(h0, .inr (6, [.int 2, .int 0, .int 0, .int 0, .int 0, .ref h5, .ref h6, .ref h7, .ref h8, .ref h9, .int 0])), (h1, .inr (5, [.ref h0, .ref h10, .int 1, .int 1, .ref h11, .ref h12, .ref h13, .ref h14, .ref h15, .ref h16])), (h2, .inr (12, [.ref h1, .ref h10, .ref h3, .ref h4, .int (-1), .int 0, .int 0, .int 0, .int 0, .int 0])), (h3, .inl (Y 1, 1, .inl (jw_l 0 [0]))), (h4, .inl (Y 1, 1, .inl (jw_l 0 [])))] sz)) 0 0 (va_A [(h0, .inr (6, [.int 2, .int 0, .int 0, .int 0, .int 0, .ref h5, .ref h6, .ref h7, .ref h8, .ref h9, .int 0])), (h1, .inr (5, [.ref h0, .ref h10, .int 1, .int 1, .ref h11, .ref h12, .ref h13, .ref h14, .ref h15, .ref h16])), (h2, .inr (12, [.ref h1, .ref h10, .ref h3, .ref h4, .int (-1), .int 0, .int 0, .int 0, .int 0, .int 0])), (h3, .inl (Y 1, 1, .inl (jw_l 0 [0]))), (h4, .inl (Y 1, 1, .inl (jw_l 0 [])))] sz) := by
  refine jw_met (fun A => jw_Qi D (fun r => r = 1) (fun w => w = [(h0, .inr (6, [.int 2, .int 0, .int 0, .int 0, .int 0, .ref h5, .ref h6, .ref h7, .ref h8, .ref h9, .int 0])), (h1, .inr (5, [.ref h0, .ref h10, .int 1, .int 1, .ref h11, .ref h12, .ref h13, .ref h14, .ref h15, .ref h16])), (h2, .inr (12, [.ref h1, .ref h10, .ref h3, .ref h4, .int (-1), .int 0, .int 0, .int 0, .int 0, .int 1])), (h3, .inl (Y 1, 1, .inl (jw_l 0 [1]))), (h4, .inl (Y 1, 1, .inl (jw_l 0 [0])))]) A) (cc := cX9_sizeOfPart) (maxL := 4) (ret := (some .int)) pn_X9_sizeOfPart rfl rfl ?_
  intro p e s m below meth c A H locs ls hx hb hml hr hts hown hlocks hin hP hD hA hS hE hl
  have hown : s.vm.findClass RX9 = some m.cls := hown
  have hl : lv_has ls 4 [(0, .ref h2), (1, .int 0)] := hl
  refine lv_aload_n hx hb dX9_sizeOfPart_0 rfl (lv_at hl 0 rfl) ?_
  refine va_get (D := D) (ci := 12) (v := .int 0) (C := RX9) (T := TX9) (N := 10) hx hb hts iw_X9_sizeOfPart__X9 hown hE.1 hP 2 rfl rfl 9 (by decide) (hts _ mw_X9_sizeOfPart__1) (fun _ h9 => h9) rfl dX9_sizeOfPart_1 ?_
  refine lv_istore_n (lv' := [(2, .int 0), (0, .ref h2), (1, .int 0)]) hx hb dX9_sizeOfPart_4 rfl hl (by decide) rfl (fun ls hl => ?_)
  refine lv_aload_n hx hb dX9_sizeOfPart_5 rfl (lv_at hl 1 rfl) ?_
  refine lv_iload_n hx hb dX9_sizeOfPart_6 rfl (lv_at hl 2 rfl) ?_
  refine jw_mv (wc := [(h2, .inr (12, [.ref h1, .ref h10, .ref h3, .ref h4, .int (-1), .int 0, .int 0, .int 0, .int 0, .int 0])), (h3, .inl (Y 1, 1, .inl (jw_l 0 [0]))), (h4, .inl (Y 1, 1, .inl (jw_l 0 [])))]) (cs := 0) (ss := 0) (va_runV (As := [.int 0]) (rest := []) ⟨hx, hb, hml, hown, hts⟩ (k415_X9_meet h2 h3 h4 h1 h10 H.size) (cwV 1 hts gX9_sizeOfPart_X9_meet rfl rfl rfl ydV_X9_meet ⟨Nat.le_of_ble_eq_true rfl, Nat.le_of_ble_eq_true rfl⟩) (jw_mpreV (ci := 12) (q0 := 2) hP hD hS hA hE [false, false, true, true, true] rfl rfl rfl) rfl rfl hl.1 rfl (lv_room (Nat.le_of_ble_eq_true rfl)) dX9_sizeOfPart_7 ⟨Nat.le_of_ble_eq_true rfl, Nat.le_of_ble_eq_true rfl⟩) hP hD hS hA [false, false, true, true, true] rfl rfl rfl (fun w1 H locs hw9 hP hD hS => ?_)
  subst hw9
  have hP : va_P D vwCl [(h0, .inr (6, [.int 2, .int 0, .int 0, .int 0, .int 0, .ref h5, .ref h6, .ref h7, .ref h8, .ref h9, .int 0])), (h1, .inr (5, [.ref h0, .ref h10, .int 1, .int 1, .ref h11, .ref h12, .ref h13, .ref h14, .ref h15, .ref h16])), (h2, .inr (12, [.ref h1, .ref h10, .ref h3, .ref h4, .int (-1), .int 0, .int 0, .int 0, .int 0, .int 1])), (h3, .inl (Y 1, 1, .inl (jw_l 0 [1]))), (h4, .inl (Y 1, 1, .inl (jw_l 0 [0])))] H := hP
  have hD : va_D A [(h0, .inr (6, [.int 2, .int 0, .int 0, .int 0, .int 0, .ref h5, .ref h6, .ref h7, .ref h8, .ref h9, .int 0])), (h1, .inr (5, [.ref h0, .ref h10, .int 1, .int 1, .ref h11, .ref h12, .ref h13, .ref h14, .ref h15, .ref h16])), (h2, .inr (12, [.ref h1, .ref h10, .ref h3, .ref h4, .int (-1), .int 0, .int 0, .int 0, .int 0, .int 1])), (h3, .inl (Y 1, 1, .inl (jw_l 0 [1]))), (h4, .inl (Y 1, 1, .inl (jw_l 0 [0])))] := hD
  refine lv_iload_n hx hb dX9_sizeOfPart_10 rfl (lv_at hl 0 rfl) ?_
  refine lv_istore_n (lv' := [(3, .int 0), (2, .int 0), (0, .ref h2), (1, .int 0)]) hx hb dX9_sizeOfPart_11 rfl hl (by decide) rfl (fun ls hl => ?_)
  refine lv_iload_n hx hb dX9_sizeOfPart_12 rfl (lv_at hl 0 rfl) ?_
  refine lv_aload_n hx hb dX9_sizeOfPart_13 rfl (lv_at hl 2 rfl) ?_
  refine va_get (D := D) (ci := 12) (v := .int 1) (C := RX9) (T := TX9) (N := 10) hx hb hts iw_X9_sizeOfPart__X9 hown hE.1 hP 2 rfl rfl 9 (by decide) (hts _ mw_X9_sizeOfPart__1) (fun _ h9 => h9) rfl dX9_sizeOfPart_14 ?_
  refine lv_icmp_ge (tgt := 47) hx hb dX9_sizeOfPart_17 (by decide) (fun c9 => absurd c9 (by decide +kernel)) (fun _ => ?_)
  refine lv_iload_n hx hb dX9_sizeOfPart_20 rfl (lv_at hl 0 rfl) ?_
  refine lv_aload_n hx hb dX9_sizeOfPart_21 rfl (lv_at hl 2 rfl) ?_
  refine va_get (D := D) (ci := 12) (v := .ref h1) (C := RX9) (T := TX9) (N := 10) hx hb hts iw_X9_sizeOfPart__X9 hown hE.1 hP 2 rfl rfl 0 (by decide) (hts _ mw_X9_sizeOfPart__2) (fun _ h9 => h9) rfl dX9_sizeOfPart_22 ?_
  refine va_getN (D := D) (ci := 5) (v := .int 1) (C := RX2) (T := TX2) (N := 10) hx hb hts iw_X9_sizeOfPart__X2 hown hE.1 hP 1 rfl rfl 2 (by decide) (nf_X9_49 hE) (fun _ h9 => h9) rfl dX9_sizeOfPart_25 ?_
  refine lv_icmp_ge (tgt := 47) hx hb dX9_sizeOfPart_28 (by decide) (fun c9 => absurd c9 (by decide +kernel)) (fun _ => ?_)
  refine lv_aload_n hx hb dX9_sizeOfPart_31 rfl (lv_at hl 2 rfl) ?_
  refine lv_aload_n hx hb dX9_sizeOfPart_32 rfl (lv_at hl 2 rfl) ?_
  refine va_get (D := D) (ci := 12) (v := .ref h4) (C := RX9) (T := TX9) (N := 10) hx hb hts iw_X9_sizeOfPart__X9 hown hE.1 hP 2 rfl rfl 3 (by decide) (hts _ mw_X9_sizeOfPart__3) (fun _ h9 => h9) rfl dX9_sizeOfPart_33 ?_
  refine lv_iload_n hx hb dX9_sizeOfPart_36 rfl (lv_at hl 0 rfl) ?_
  refine jw_iald (v := 0) hx hb hE hP 4 0 rfl (by decide +kernel) (by decide +kernel) dX9_sizeOfPart_37 ?_
  refine jw_mv (wc := [(h0, .inr (6, [.int 2, .int 0, .int 0, .int 0, .int 0, .ref h5, .ref h6, .ref h7, .ref h8, .ref h9, .int 0])), (h1, .inr (5, [.ref h0, .ref h10, .int 1, .int 1, .ref h11, .ref h12, .ref h13, .ref h14, .ref h15, .ref h16])), (h2, .inr (12, [.ref h1, .ref h10, .ref h3, .ref h4, .int (-1), .int 0, .int 0, .int 0, .int 0, .int 1]))]) (cs := 0) (ss := 0) (va_runV (As := [.int 0]) (rest := []) ⟨hx, hb, hml, hown, hts⟩ (k416_X9_meetSwapped h0 h1 h2 h5 h6 h7 h8 h9 h10 h11 h12 h13 h14 h15 h16 h3 h4 H.size) (cwV 1 hts gX9_sizeOfPart_X9_meetSwapped rfl rfl rfl ydV_X9_meetSwapped ⟨Nat.le_of_ble_eq_true rfl, Nat.le_of_ble_eq_true rfl⟩) (jw_mpreV (ci := 12) (q0 := 2) hP hD hS hA hE [true, true, true] rfl rfl rfl) rfl rfl hl.1 rfl (lv_room (Nat.le_of_ble_eq_true rfl)) dX9_sizeOfPart_38 ⟨Nat.le_of_ble_eq_true rfl, Nat.le_of_ble_eq_true rfl⟩) hP hD hS hA [true, true, true] rfl rfl rfl (fun w1 H locs hw9 hP hD hS => ?_)
  subst hw9
  have hP : va_P D vwCl [(h0, .inr (6, [.int 2, .int 0, .int 0, .int 0, .int 0, .ref h5, .ref h6, .ref h7, .ref h8, .ref h9, .int 0])), (h1, .inr (5, [.ref h0, .ref h10, .int 1, .int 1, .ref h11, .ref h12, .ref h13, .ref h14, .ref h15, .ref h16])), (h2, .inr (12, [.ref h1, .ref h10, .ref h3, .ref h4, .int (-1), .int 0, .int 0, .int 0, .int 0, .int 1])), (h3, .inl (Y 1, 1, .inl (jw_l 0 [1]))), (h4, .inl (Y 1, 1, .inl (jw_l 0 [0])))] H := hP
  have hD : va_D A [(h0, .inr (6, [.int 2, .int 0, .int 0, .int 0, .int 0, .ref h5, .ref h6, .ref h7, .ref h8, .ref h9, .int 0])), (h1, .inr (5, [.ref h0, .ref h10, .int 1, .int 1, .ref h11, .ref h12, .ref h13, .ref h14, .ref h15, .ref h16])), (h2, .inr (12, [.ref h1, .ref h10, .ref h3, .ref h4, .int (-1), .int 0, .int 0, .int 0, .int 0, .int 1])), (h3, .inl (Y 1, 1, .inl (jw_l 0 [1]))), (h4, .inl (Y 1, 1, .inl (jw_l 0 [0])))] := hD
  refine lv_iinc (v := 1) (lv' := [(3, .int 1), (2, .int 0), (0, .ref h2), (1, .int 0)]) hx hb dX9_sizeOfPart_41 hl (k := 0) rfl (by decide +kernel) (by decide) rfl (fun ls hl => ?_)
  refine lv_goto (tgt := 12) hx hb dX9_sizeOfPart_44 (by decide) ?_
  refine lv_iload_n hx hb dX9_sizeOfPart_12 rfl (lv_at hl 0 rfl) ?_
  refine lv_aload_n hx hb dX9_sizeOfPart_13 rfl (lv_at hl 2 rfl) ?_
  refine va_get (D := D) (ci := 12) (v := .int 1) (C := RX9) (T := TX9) (N := 10) hx hb hts iw_X9_sizeOfPart__X9 hown hE.1 hP 2 rfl rfl 9 (by decide) (hts _ mw_X9_sizeOfPart__1) (fun _ h9 => h9) rfl dX9_sizeOfPart_14 ?_
  refine lv_icmp_ge (tgt := 47) hx hb dX9_sizeOfPart_17 (by decide) (fun _ => ?_) (fun c9 => absurd (by decide +kernel) c9)
  refine lv_aload_n hx hb dX9_sizeOfPart_47 rfl (lv_at hl 2 rfl) ?_
  refine va_get (D := D) (ci := 12) (v := .int 1) (C := RX9) (T := TX9) (N := 10) hx hb hts iw_X9_sizeOfPart__X9 hown hE.1 hP 2 rfl rfl 9 (by decide) (hts _ mw_X9_sizeOfPart__1) (fun _ h9 => h9) rfl dX9_sizeOfPart_48 ?_
  refine lv_iload_n hx hb dX9_sizeOfPart_51 rfl (lv_at hl 1 rfl) ?_
  refine jw_isub (v := 1) hx hb dX9_sizeOfPart_52 (by decide +kernel) ?_
  refine W.widen (k := 0) (n := 0) (Nat.le_of_ble_eq_true rfl) (Nat.le_of_ble_eq_true rfl) ?_
  exact jw_iret hx hb hr hlocks rfl rfl hP hD hS dX9_sizeOfPart_53
set_option maxHeartbeats 4000000 in
set_option maxRecDepth 100000 in
theorem k418_X9_findParts {l : Launch} {D : va_G} {Y : Nat → ClassId} {tt : Nat → Nat} (h0 h1 h2 h3 h4 h5 h6 h7 h8 h9 h10 h11 h12 h13 h14 h15 h16 : Nat) (sz : Nat) : Met l yX9_findParts wsX9_findParts ({ frames := 3, cells := 0, slots := 0, locals := 66 }) (jw_Pc D Y tt [.ref h3] [(h0, .inr (6, [.int 2, .int 0, .int 0, .int 0, .int 0, .ref h6, .ref h7, .ref h8, .ref h9, .ref h10, .int 0])), (h1, .inr (5, [.ref h0, .ref h11, .int 1, .int 1, .ref h12, .ref h13, .ref h2, .ref h14, .ref h15, .ref h16])), (h2, .inl (Y 1, 1, .inl (jw_l 0 [0]))), (h3, .inr (12, [.ref h1, .ref h11, .ref h4, .ref h5, .int (-1), .int 0, .int 0, .int 0, .int 0, .int 0])), (h4, .inl (Y 1, 1, .inl (jw_l 0 []))), (h5, .inl (Y 1, 1, .inl (jw_l 0 [])))] sz) (jw_Qv D (fun w => w = [(h0, .inr (6, [.int 2, .int 0, .int 0, .int 0, .int 0, .ref h6, .ref h7, .ref h8, .ref h9, .ref h10, .int 0])), (h1, .inr (5, [.ref h0, .ref h11, .int 1, .int 1, .ref h12, .ref h13, .ref h2, .ref h14, .ref h15, .ref h16])), (h2, .inl (Y 1, 1, .inl (jw_l 0 [0]))), (h3, .inr (12, [.ref h1, .ref h11, .ref h4, .ref h5, .int (-1), .int 1, .int 1, .int 1, .int 1, .int 1])), (h4, .inl (Y 1, 1, .inl (jw_l 0 [1]))), (h5, .inl (Y 1, 1, .inl (jw_l 0 [0])))]) (va_A [(h0, .inr (6, [.int 2, .int 0, .int 0, .int 0, .int 0, .ref h6, .ref h7, .ref h8, .ref h9, .ref h10, .int 0])), (h1, .inr (5, [.ref h0, .ref h11, .int 1, .int 1, .ref h12, .ref h13, .ref h2, .ref h14, .ref h15, .ref h16])), (h2, .inl (Y 1, 1, .inl (jw_l 0 [0]))), (h3, .inr (12, [.ref h1, .ref h11, .ref h4, .ref h5, .int (-1), .int 0, .int 0, .int 0, .int 0, .int 0])), (h4, .inl (Y 1, 1, .inl (jw_l 0 []))), (h5, .inl (Y 1, 1, .inl (jw_l 0 [])))] sz)) 0 0 (va_A [(h0, .inr (6, [.int 2, .int 0, .int 0, .int 0, .int 0, .ref h6, .ref h7, .ref h8, .ref h9, .ref h10, .int 0])), (h1, .inr (5, [.ref h0, .ref h11, .int 1, .int 1, .ref h12, .ref h13, .ref h2, .ref h14, .ref h15, .ref h16])), (h2, .inl (Y 1, 1, .inl (jw_l 0 [0]))), (h3, .inr (12, [.ref h1, .ref h11, .ref h4, .ref h5, .int (-1), .int 0, .int 0, .int 0, .int 0, .int 0])), (h4, .inl (Y 1, 1, .inl (jw_l 0 []))), (h5, .inl (Y 1, 1, .inl (jw_l 0 [])))] sz) := by
  refine jw_met (fun A => jw_Qv D (fun w => w = [(h0, .inr (6, [.int 2, .int 0, .int 0, .int 0, .int 0, .ref h6, .ref h7, .ref h8, .ref h9, .ref h10, .int 0])), (h1, .inr (5, [.ref h0, .ref h11, .int 1, .int 1, .ref h12, .ref h13, .ref h2, .ref h14, .ref h15, .ref h16])), (h2, .inl (Y 1, 1, .inl (jw_l 0 [0]))), (h3, .inr (12, [.ref h1, .ref h11, .ref h4, .ref h5, .int (-1), .int 1, .int 1, .int 1, .int 1, .int 1])), (h4, .inl (Y 1, 1, .inl (jw_l 0 [1]))), (h5, .inl (Y 1, 1, .inl (jw_l 0 [0])))]) A) (cc := cX9_findParts) (maxL := 3) (ret := none) pn_X9_findParts rfl rfl ?_
  intro p e s m below meth c A H locs ls hx hb hml hr hts hown hlocks hin hP hD hA hS hE hl
  have hown : s.vm.findClass RX9 = some m.cls := hown
  have hl : lv_has ls 3 [(0, .ref h3)] := hl
  refine lv_aload_n hx hb dX9_findParts_0 rfl (lv_at hl 0 rfl) ?_
  refine va_get (D := D) (ci := 12) (v := .int 0) (C := RX9) (T := TX9) (N := 10) hx hb hts iw_X9_findParts__X9 hown hE.1 hP 3 rfl rfl 5 (by decide) (hts _ mw_X9_findParts__1) (fun _ h9 => h9) rfl dX9_findParts_1 ?_
  refine lv_if_eq (tgt := 8) hx hb dX9_findParts_4 (by decide) (fun _ => ?_) (fun c9 => absurd (by decide +kernel) c9)
  refine lv_aload_n hx hb dX9_findParts_8 rfl (lv_at hl 0 rfl) ?_
  refine jw_mv (wc := [(h1, .inr (5, [.ref h0, .ref h11, .int 1, .int 1, .ref h12, .ref h13, .ref h2, .ref h14, .ref h15, .ref h16])), (h3, .inr (12, [.ref h1, .ref h11, .ref h4, .ref h5, .int (-1), .int 0, .int 0, .int 0, .int 0, .int 0])), (h4, .inl (Y 1, 1, .inl (jw_l 0 [])))]) (cs := 0) (ss := 0) (va_runV (As := []) (rest := []) ⟨hx, hb, hml, hown, hts⟩ (k414_X9_clearRows h1 h3 h4 h0 h11 h12 h13 h2 h14 h15 h16 h5 H.size) (cwV 0 hts gX9_findParts_X9_clearRows rfl rfl rfl ydV_X9_clearRows ⟨Nat.le_of_ble_eq_true rfl, Nat.le_of_ble_eq_true rfl⟩) (jw_mpreV (ci := 12) (q0 := 3) hP hD hS hA hE [false, true, false, true, true] rfl rfl rfl) rfl rfl hl.1 rfl (lv_room (Nat.le_of_ble_eq_true rfl)) dX9_findParts_9 ⟨Nat.le_of_ble_eq_true rfl, Nat.le_of_ble_eq_true rfl⟩) hP hD hS hA [false, true, false, true, true] rfl rfl rfl (fun w1 H locs hw9 hP hD hS => ?_)
  subst hw9
  have hP : va_P D vwCl [(h0, .inr (6, [.int 2, .int 0, .int 0, .int 0, .int 0, .ref h6, .ref h7, .ref h8, .ref h9, .ref h10, .int 0])), (h1, .inr (5, [.ref h0, .ref h11, .int 1, .int 1, .ref h12, .ref h13, .ref h2, .ref h14, .ref h15, .ref h16])), (h2, .inl (Y 1, 1, .inl (jw_l 0 [0]))), (h3, .inr (12, [.ref h1, .ref h11, .ref h4, .ref h5, .int (-1), .int 0, .int 0, .int 0, .int 0, .int 0])), (h4, .inl (Y 1, 1, .inl (jw_l 0 [0]))), (h5, .inl (Y 1, 1, .inl (jw_l 0 [])))] H := hP
  have hD : va_D A [(h0, .inr (6, [.int 2, .int 0, .int 0, .int 0, .int 0, .ref h6, .ref h7, .ref h8, .ref h9, .ref h10, .int 0])), (h1, .inr (5, [.ref h0, .ref h11, .int 1, .int 1, .ref h12, .ref h13, .ref h2, .ref h14, .ref h15, .ref h16])), (h2, .inl (Y 1, 1, .inl (jw_l 0 [0]))), (h3, .inr (12, [.ref h1, .ref h11, .ref h4, .ref h5, .int (-1), .int 0, .int 0, .int 0, .int 0, .int 0])), (h4, .inl (Y 1, 1, .inl (jw_l 0 [0]))), (h5, .inl (Y 1, 1, .inl (jw_l 0 [])))] := hD
  refine lv_aload_n hx hb dX9_findParts_12 rfl (lv_at hl 0 rfl) ?_
  refine lv_iconst (v := 0) hx hb dX9_findParts_13 (by decide +kernel) ?_
  refine va_put (D := D) (ci := 12) (v := .int 0) (C := RX9) (T := TX9) (N := 10) hx hb hts iw_X9_findParts__X9 tyX9 tyX9_ok nmX9 hown hE.1 hP hD hS 3 rfl rfl 6 (by decide) (hts _ mw_X9_findParts__2) (fun _ h9 => h9) rfl (tyX9_ok 6 (by decide)) rfl rfl (Nat.le_of_ble_eq_true rfl) dX9_findParts_14 (fun H locs hP hD hS => ?_)
  have hP : va_P D vwCl [(h0, .inr (6, [.int 2, .int 0, .int 0, .int 0, .int 0, .ref h6, .ref h7, .ref h8, .ref h9, .ref h10, .int 0])), (h1, .inr (5, [.ref h0, .ref h11, .int 1, .int 1, .ref h12, .ref h13, .ref h2, .ref h14, .ref h15, .ref h16])), (h2, .inl (Y 1, 1, .inl (jw_l 0 [0]))), (h3, .inr (12, [.ref h1, .ref h11, .ref h4, .ref h5, .int (-1), .int 0, .int 0, .int 0, .int 0, .int 0])), (h4, .inl (Y 1, 1, .inl (jw_l 0 [0]))), (h5, .inl (Y 1, 1, .inl (jw_l 0 [])))] H := hP
  have hD : va_D A [(h0, .inr (6, [.int 2, .int 0, .int 0, .int 0, .int 0, .ref h6, .ref h7, .ref h8, .ref h9, .ref h10, .int 0])), (h1, .inr (5, [.ref h0, .ref h11, .int 1, .int 1, .ref h12, .ref h13, .ref h2, .ref h14, .ref h15, .ref h16])), (h2, .inl (Y 1, 1, .inl (jw_l 0 [0]))), (h3, .inr (12, [.ref h1, .ref h11, .ref h4, .ref h5, .int (-1), .int 0, .int 0, .int 0, .int 0, .int 0])), (h4, .inl (Y 1, 1, .inl (jw_l 0 [0]))), (h5, .inl (Y 1, 1, .inl (jw_l 0 [])))] := hD
  refine lv_aload_n hx hb dX9_findParts_17 rfl (lv_at hl 0 rfl) ?_
  refine lv_iconst (v := 0) hx hb dX9_findParts_18 (by decide +kernel) ?_
  refine va_put (D := D) (ci := 12) (v := .int 0) (C := RX9) (T := TX9) (N := 10) hx hb hts iw_X9_findParts__X9 tyX9 tyX9_ok nmX9 hown hE.1 hP hD hS 3 rfl rfl 7 (by decide) (hts _ mw_X9_findParts__3) (fun _ h9 => h9) rfl (tyX9_ok 7 (by decide)) rfl rfl (Nat.le_of_ble_eq_true rfl) dX9_findParts_19 (fun H locs hP hD hS => ?_)
  have hP : va_P D vwCl [(h0, .inr (6, [.int 2, .int 0, .int 0, .int 0, .int 0, .ref h6, .ref h7, .ref h8, .ref h9, .ref h10, .int 0])), (h1, .inr (5, [.ref h0, .ref h11, .int 1, .int 1, .ref h12, .ref h13, .ref h2, .ref h14, .ref h15, .ref h16])), (h2, .inl (Y 1, 1, .inl (jw_l 0 [0]))), (h3, .inr (12, [.ref h1, .ref h11, .ref h4, .ref h5, .int (-1), .int 0, .int 0, .int 0, .int 0, .int 0])), (h4, .inl (Y 1, 1, .inl (jw_l 0 [0]))), (h5, .inl (Y 1, 1, .inl (jw_l 0 [])))] H := hP
  have hD : va_D A [(h0, .inr (6, [.int 2, .int 0, .int 0, .int 0, .int 0, .ref h6, .ref h7, .ref h8, .ref h9, .ref h10, .int 0])), (h1, .inr (5, [.ref h0, .ref h11, .int 1, .int 1, .ref h12, .ref h13, .ref h2, .ref h14, .ref h15, .ref h16])), (h2, .inl (Y 1, 1, .inl (jw_l 0 [0]))), (h3, .inr (12, [.ref h1, .ref h11, .ref h4, .ref h5, .int (-1), .int 0, .int 0, .int 0, .int 0, .int 0])), (h4, .inl (Y 1, 1, .inl (jw_l 0 [0]))), (h5, .inl (Y 1, 1, .inl (jw_l 0 [])))] := hD
  refine lv_aload_n hx hb dX9_findParts_22 rfl (lv_at hl 0 rfl) ?_
  refine lv_iconst (v := 0) hx hb dX9_findParts_23 (by decide +kernel) ?_
  refine va_put (D := D) (ci := 12) (v := .int 0) (C := RX9) (T := TX9) (N := 10) hx hb hts iw_X9_findParts__X9 tyX9 tyX9_ok nmX9 hown hE.1 hP hD hS 3 rfl rfl 8 (by decide) (hts _ mw_X9_findParts__4) (fun _ h9 => h9) rfl (tyX9_ok 8 (by decide)) rfl rfl (Nat.le_of_ble_eq_true rfl) dX9_findParts_24 (fun H locs hP hD hS => ?_)
  have hP : va_P D vwCl [(h0, .inr (6, [.int 2, .int 0, .int 0, .int 0, .int 0, .ref h6, .ref h7, .ref h8, .ref h9, .ref h10, .int 0])), (h1, .inr (5, [.ref h0, .ref h11, .int 1, .int 1, .ref h12, .ref h13, .ref h2, .ref h14, .ref h15, .ref h16])), (h2, .inl (Y 1, 1, .inl (jw_l 0 [0]))), (h3, .inr (12, [.ref h1, .ref h11, .ref h4, .ref h5, .int (-1), .int 0, .int 0, .int 0, .int 0, .int 0])), (h4, .inl (Y 1, 1, .inl (jw_l 0 [0]))), (h5, .inl (Y 1, 1, .inl (jw_l 0 [])))] H := hP
  have hD : va_D A [(h0, .inr (6, [.int 2, .int 0, .int 0, .int 0, .int 0, .ref h6, .ref h7, .ref h8, .ref h9, .ref h10, .int 0])), (h1, .inr (5, [.ref h0, .ref h11, .int 1, .int 1, .ref h12, .ref h13, .ref h2, .ref h14, .ref h15, .ref h16])), (h2, .inl (Y 1, 1, .inl (jw_l 0 [0]))), (h3, .inr (12, [.ref h1, .ref h11, .ref h4, .ref h5, .int (-1), .int 0, .int 0, .int 0, .int 0, .int 0])), (h4, .inl (Y 1, 1, .inl (jw_l 0 [0]))), (h5, .inl (Y 1, 1, .inl (jw_l 0 [])))] := hD
  refine lv_aload_n hx hb dX9_findParts_27 rfl (lv_at hl 0 rfl) ?_
  refine lv_iconst (v := 0) hx hb dX9_findParts_28 (by decide +kernel) ?_
  refine va_put (D := D) (ci := 12) (v := .int 0) (C := RX9) (T := TX9) (N := 10) hx hb hts iw_X9_findParts__X9 tyX9 tyX9_ok nmX9 hown hE.1 hP hD hS 3 rfl rfl 9 (by decide) (hts _ mw_X9_findParts__5) (fun _ h9 => h9) rfl (tyX9_ok 9 (by decide)) rfl rfl (Nat.le_of_ble_eq_true rfl) dX9_findParts_29 (fun H locs hP hD hS => ?_)
  have hP : va_P D vwCl [(h0, .inr (6, [.int 2, .int 0, .int 0, .int 0, .int 0, .ref h6, .ref h7, .ref h8, .ref h9, .ref h10, .int 0])), (h1, .inr (5, [.ref h0, .ref h11, .int 1, .int 1, .ref h12, .ref h13, .ref h2, .ref h14, .ref h15, .ref h16])), (h2, .inl (Y 1, 1, .inl (jw_l 0 [0]))), (h3, .inr (12, [.ref h1, .ref h11, .ref h4, .ref h5, .int (-1), .int 0, .int 0, .int 0, .int 0, .int 0])), (h4, .inl (Y 1, 1, .inl (jw_l 0 [0]))), (h5, .inl (Y 1, 1, .inl (jw_l 0 [])))] H := hP
  have hD : va_D A [(h0, .inr (6, [.int 2, .int 0, .int 0, .int 0, .int 0, .ref h6, .ref h7, .ref h8, .ref h9, .ref h10, .int 0])), (h1, .inr (5, [.ref h0, .ref h11, .int 1, .int 1, .ref h12, .ref h13, .ref h2, .ref h14, .ref h15, .ref h16])), (h2, .inl (Y 1, 1, .inl (jw_l 0 [0]))), (h3, .inr (12, [.ref h1, .ref h11, .ref h4, .ref h5, .int (-1), .int 0, .int 0, .int 0, .int 0, .int 0])), (h4, .inl (Y 1, 1, .inl (jw_l 0 [0]))), (h5, .inl (Y 1, 1, .inl (jw_l 0 [])))] := hD
  refine lv_iconst (v := 0) hx hb dX9_findParts_32 (by decide +kernel) ?_
  refine lv_istore_n (lv' := [(1, .int 0), (0, .ref h3)]) hx hb dX9_findParts_33 rfl hl (by decide) rfl (fun ls hl => ?_)
  refine lv_iload_n hx hb dX9_findParts_34 rfl (lv_at hl 0 rfl) ?_
  refine lv_aload_n hx hb dX9_findParts_35 rfl (lv_at hl 1 rfl) ?_
  refine va_get (D := D) (ci := 12) (v := .ref h1) (C := RX9) (T := TX9) (N := 10) hx hb hts iw_X9_findParts__X9 hown hE.1 hP 3 rfl rfl 0 (by decide) (hts _ mw_X9_findParts__6) (fun _ h9 => h9) rfl dX9_findParts_36 ?_
  refine va_getN (D := D) (ci := 5) (v := .int 1) (C := RX2) (T := TX2) (N := 10) hx hb hts iw_X9_findParts__X2 hown hE.1 hP 1 rfl rfl 3 (by decide) (nf_X9_64 hE) (fun _ h9 => h9) rfl dX9_findParts_39 ?_
  refine lv_icmp_ge (tgt := 123) hx hb dX9_findParts_42 (by decide) (fun c9 => absurd c9 (by decide +kernel)) (fun _ => ?_)
  refine lv_aload_n hx hb dX9_findParts_45 rfl (lv_at hl 1 rfl) ?_
  refine va_get (D := D) (ci := 12) (v := .ref h4) (C := RX9) (T := TX9) (N := 10) hx hb hts iw_X9_findParts__X9 hown hE.1 hP 3 rfl rfl 2 (by decide) (hts _ mw_X9_findParts__7) (fun _ h9 => h9) rfl dX9_findParts_46 ?_
  refine lv_aload_n hx hb dX9_findParts_49 rfl (lv_at hl 1 rfl) ?_
  refine va_get (D := D) (ci := 12) (v := .ref h1) (C := RX9) (T := TX9) (N := 10) hx hb hts iw_X9_findParts__X9 hown hE.1 hP 3 rfl rfl 0 (by decide) (hts _ mw_X9_findParts__6) (fun _ h9 => h9) rfl dX9_findParts_50 ?_
  refine va_getN (D := D) (ci := 5) (v := .ref h2) (C := RX2) (T := TX2) (N := 10) hx hb hts iw_X9_findParts__X2 hown hE.1 hP 1 rfl rfl 6 (by decide) (nf_X9_67 hE) (fun _ h9 => h9) rfl dX9_findParts_53 ?_
  refine lv_iload_n hx hb dX9_findParts_56 rfl (lv_at hl 0 rfl) ?_
  refine jw_iald (v := 0) hx hb hE hP 2 0 rfl (by decide +kernel) (by decide +kernel) dX9_findParts_57 ?_
  refine jw_iald (v := 0) hx hb hE hP 4 0 rfl (by decide +kernel) (by decide +kernel) dX9_findParts_58 ?_
  refine lv_if_ne (tgt := 117) hx hb dX9_findParts_59 (by decide) (fun c9 => absurd (by decide +kernel) c9) (fun _ => ?_)
  refine lv_aload_n hx hb dX9_findParts_62 rfl (lv_at hl 1 rfl) ?_
  refine lv_aload_n hx hb dX9_findParts_63 rfl (lv_at hl 1 rfl) ?_
  refine va_get (D := D) (ci := 12) (v := .ref h1) (C := RX9) (T := TX9) (N := 10) hx hb hts iw_X9_findParts__X9 hown hE.1 hP 3 rfl rfl 0 (by decide) (hts _ mw_X9_findParts__6) (fun _ h9 => h9) rfl dX9_findParts_64 ?_
  refine va_getN (D := D) (ci := 5) (v := .ref h2) (C := RX2) (T := TX2) (N := 10) hx hb hts iw_X9_findParts__X2 hown hE.1 hP 1 rfl rfl 6 (by decide) (nf_X9_67 hE) (fun _ h9 => h9) rfl dX9_findParts_67 ?_
  refine lv_iload_n hx hb dX9_findParts_70 rfl (lv_at hl 0 rfl) ?_
  refine jw_iald (v := 0) hx hb hE hP 2 0 rfl (by decide +kernel) (by decide +kernel) dX9_findParts_71 ?_
  refine jw_mi (wc := [(h0, .inr (6, [.int 2, .int 0, .int 0, .int 0, .int 0, .ref h6, .ref h7, .ref h8, .ref h9, .ref h10, .int 0])), (h1, .inr (5, [.ref h0, .ref h11, .int 1, .int 1, .ref h12, .ref h13, .ref h2, .ref h14, .ref h15, .ref h16])), (h3, .inr (12, [.ref h1, .ref h11, .ref h4, .ref h5, .int (-1), .int 0, .int 0, .int 0, .int 0, .int 0])), (h4, .inl (Y 1, 1, .inl (jw_l 0 [0]))), (h5, .inl (Y 1, 1, .inl (jw_l 0 [])))]) (cs := 0) (ss := 0) (va_runV (As := [.int 0]) (rest := []) ⟨hx, hb, hml, hown, hts⟩ (k417_X9_sizeOfPart h0 h1 h3 h4 h5 h6 h7 h8 h9 h10 h11 h12 h13 h2 h14 h15 h16 H.size) (cwV 1 hts gX9_findParts_X9_sizeOfPart rfl rfl rfl ydV_X9_sizeOfPart ⟨Nat.le_of_ble_eq_true rfl, Nat.le_of_ble_eq_true rfl⟩) (jw_mpreV (ci := 12) (q0 := 3) hP hD hS hA hE [true, true, false, true, true, true] rfl rfl rfl) rfl rfl hl.1 rfl (lv_room (Nat.le_of_ble_eq_true rfl)) dX9_findParts_72 ⟨Nat.le_of_ble_eq_true rfl, Nat.le_of_ble_eq_true rfl⟩) hP hD hS hA [true, true, false, true, true, true] rfl rfl rfl (fun r9 w1 H locs hr9 hw9 hP hD hS => ?_)
  subst hr9
  subst hw9
  have hP : va_P D vwCl [(h0, .inr (6, [.int 2, .int 0, .int 0, .int 0, .int 0, .ref h6, .ref h7, .ref h8, .ref h9, .ref h10, .int 0])), (h1, .inr (5, [.ref h0, .ref h11, .int 1, .int 1, .ref h12, .ref h13, .ref h2, .ref h14, .ref h15, .ref h16])), (h2, .inl (Y 1, 1, .inl (jw_l 0 [0]))), (h3, .inr (12, [.ref h1, .ref h11, .ref h4, .ref h5, .int (-1), .int 0, .int 0, .int 0, .int 0, .int 1])), (h4, .inl (Y 1, 1, .inl (jw_l 0 [1]))), (h5, .inl (Y 1, 1, .inl (jw_l 0 [0])))] H := hP
  have hD : va_D A [(h0, .inr (6, [.int 2, .int 0, .int 0, .int 0, .int 0, .ref h6, .ref h7, .ref h8, .ref h9, .ref h10, .int 0])), (h1, .inr (5, [.ref h0, .ref h11, .int 1, .int 1, .ref h12, .ref h13, .ref h2, .ref h14, .ref h15, .ref h16])), (h2, .inl (Y 1, 1, .inl (jw_l 0 [0]))), (h3, .inr (12, [.ref h1, .ref h11, .ref h4, .ref h5, .int (-1), .int 0, .int 0, .int 0, .int 0, .int 1])), (h4, .inl (Y 1, 1, .inl (jw_l 0 [1]))), (h5, .inl (Y 1, 1, .inl (jw_l 0 [0])))] := hD
  refine lv_istore_n (lv' := [(2, .int 1), (1, .int 0), (0, .ref h3)]) hx hb dX9_findParts_75 rfl hl (by decide) rfl (fun ls hl => ?_)
  refine lv_aload_n hx hb dX9_findParts_76 rfl (lv_at hl 2 rfl) ?_
  refine lv_aload_n hx hb dX9_findParts_77 rfl (lv_at hl 2 rfl) ?_
  refine va_get (D := D) (ci := 12) (v := .int 0) (C := RX9) (T := TX9) (N := 10) hx hb hts iw_X9_findParts__X9 hown hE.1 hP 3 rfl rfl 6 (by decide) (hts _ mw_X9_findParts__2) (fun _ h9 => h9) rfl dX9_findParts_78 ?_
  refine lv_if_ne (tgt := 88) hx hb dX9_findParts_81 (by decide) (fun c9 => absurd (by decide +kernel) c9) (fun _ => ?_)
  refine lv_iload_n hx hb dX9_findParts_84 rfl (lv_at hl 0 rfl) ?_
  refine lv_goto (tgt := 92) hx hb dX9_findParts_85 (by decide) ?_
  refine va_put (D := D) (ci := 12) (v := .int 1) (C := RX9) (T := TX9) (N := 10) hx hb hts iw_X9_findParts__X9 tyX9 tyX9_ok nmX9 hown hE.1 hP hD hS 3 rfl rfl 7 (by decide) (hts _ mw_X9_findParts__3) (fun _ h9 => h9) rfl (tyX9_ok 7 (by decide)) rfl rfl (Nat.le_of_ble_eq_true rfl) dX9_findParts_92 (fun H locs hP hD hS => ?_)
  have hP : va_P D vwCl [(h0, .inr (6, [.int 2, .int 0, .int 0, .int 0, .int 0, .ref h6, .ref h7, .ref h8, .ref h9, .ref h10, .int 0])), (h1, .inr (5, [.ref h0, .ref h11, .int 1, .int 1, .ref h12, .ref h13, .ref h2, .ref h14, .ref h15, .ref h16])), (h2, .inl (Y 1, 1, .inl (jw_l 0 [0]))), (h3, .inr (12, [.ref h1, .ref h11, .ref h4, .ref h5, .int (-1), .int 0, .int 0, .int 1, .int 0, .int 1])), (h4, .inl (Y 1, 1, .inl (jw_l 0 [1]))), (h5, .inl (Y 1, 1, .inl (jw_l 0 [0])))] H := hP
  have hD : va_D A [(h0, .inr (6, [.int 2, .int 0, .int 0, .int 0, .int 0, .ref h6, .ref h7, .ref h8, .ref h9, .ref h10, .int 0])), (h1, .inr (5, [.ref h0, .ref h11, .int 1, .int 1, .ref h12, .ref h13, .ref h2, .ref h14, .ref h15, .ref h16])), (h2, .inl (Y 1, 1, .inl (jw_l 0 [0]))), (h3, .inr (12, [.ref h1, .ref h11, .ref h4, .ref h5, .int (-1), .int 0, .int 0, .int 1, .int 0, .int 1])), (h4, .inl (Y 1, 1, .inl (jw_l 0 [1]))), (h5, .inl (Y 1, 1, .inl (jw_l 0 [0])))] := hD
  refine lv_aload_n hx hb dX9_findParts_95 rfl (lv_at hl 2 rfl) ?_
  refine lv_aload_n hx hb dX9_findParts_96 rfl (lv_at hl 2 rfl) ?_
  refine va_get (D := D) (ci := 12) (v := .int 0) (C := RX9) (T := TX9) (N := 10) hx hb hts iw_X9_findParts__X9 hown hE.1 hP 3 rfl rfl 8 (by decide) (hts _ mw_X9_findParts__4) (fun _ h9 => h9) rfl dX9_findParts_97 ?_
  refine lv_iload_n hx hb dX9_findParts_100 rfl (lv_at hl 0 rfl) ?_
  refine va_mmax hx hb (by rw [hml]; exact hl.1.symm) hown (hts _ mw_X9_findParts__8) (hts _ mw_X9_findParts__9) (hts _ mw_X9_findParts__10) (hts _ mw_X9_findParts__11) (Nat.le_of_ble_eq_true rfl) (Nat.le_of_ble_eq_true rfl) (Nat.le_of_ble_eq_true rfl) (Nat.le_of_ble_eq_true rfl) dX9_findParts_101 ?_
  refine jw_n (v := 1) (by decide +kernel) ?_
  refine va_put (D := D) (ci := 12) (v := .int 1) (C := RX9) (T := TX9) (N := 10) hx hb hts iw_X9_findParts__X9 tyX9 tyX9_ok nmX9 hown hE.1 hP hD hS 3 rfl rfl 8 (by decide) (hts _ mw_X9_findParts__4) (fun _ h9 => h9) rfl (tyX9_ok 8 (by decide)) rfl rfl (Nat.le_of_ble_eq_true rfl) dX9_findParts_104 (fun H locs hP hD hS => ?_)
  have hP : va_P D vwCl [(h0, .inr (6, [.int 2, .int 0, .int 0, .int 0, .int 0, .ref h6, .ref h7, .ref h8, .ref h9, .ref h10, .int 0])), (h1, .inr (5, [.ref h0, .ref h11, .int 1, .int 1, .ref h12, .ref h13, .ref h2, .ref h14, .ref h15, .ref h16])), (h2, .inl (Y 1, 1, .inl (jw_l 0 [0]))), (h3, .inr (12, [.ref h1, .ref h11, .ref h4, .ref h5, .int (-1), .int 0, .int 0, .int 1, .int 1, .int 1])), (h4, .inl (Y 1, 1, .inl (jw_l 0 [1]))), (h5, .inl (Y 1, 1, .inl (jw_l 0 [0])))] H := hP
  have hD : va_D A [(h0, .inr (6, [.int 2, .int 0, .int 0, .int 0, .int 0, .ref h6, .ref h7, .ref h8, .ref h9, .ref h10, .int 0])), (h1, .inr (5, [.ref h0, .ref h11, .int 1, .int 1, .ref h12, .ref h13, .ref h2, .ref h14, .ref h15, .ref h16])), (h2, .inl (Y 1, 1, .inl (jw_l 0 [0]))), (h3, .inr (12, [.ref h1, .ref h11, .ref h4, .ref h5, .int (-1), .int 0, .int 0, .int 1, .int 1, .int 1])), (h4, .inl (Y 1, 1, .inl (jw_l 0 [1]))), (h5, .inl (Y 1, 1, .inl (jw_l 0 [0])))] := hD
  refine lv_aload_n hx hb dX9_findParts_107 rfl (lv_at hl 2 rfl) ?_
  refine lv_dup hx hb dX9_findParts_108 rfl ?_
  refine va_get (D := D) (ci := 12) (v := .int 0) (C := RX9) (T := TX9) (N := 10) hx hb hts iw_X9_findParts__X9 hown hE.1 hP 3 rfl rfl 6 (by decide) (hts _ mw_X9_findParts__2) (fun _ h9 => h9) rfl dX9_findParts_109 ?_
  refine lv_iconst (v := 1) hx hb dX9_findParts_112 (by decide +kernel) ?_
  refine jw_iadd (v := 1) hx hb dX9_findParts_113 (by decide +kernel) ?_
  refine va_put (D := D) (ci := 12) (v := .int 1) (C := RX9) (T := TX9) (N := 10) hx hb hts iw_X9_findParts__X9 tyX9 tyX9_ok nmX9 hown hE.1 hP hD hS 3 rfl rfl 6 (by decide) (hts _ mw_X9_findParts__2) (fun _ h9 => h9) rfl (tyX9_ok 6 (by decide)) rfl rfl (Nat.le_of_ble_eq_true rfl) dX9_findParts_114 (fun H locs hP hD hS => ?_)
  have hP : va_P D vwCl [(h0, .inr (6, [.int 2, .int 0, .int 0, .int 0, .int 0, .ref h6, .ref h7, .ref h8, .ref h9, .ref h10, .int 0])), (h1, .inr (5, [.ref h0, .ref h11, .int 1, .int 1, .ref h12, .ref h13, .ref h2, .ref h14, .ref h15, .ref h16])), (h2, .inl (Y 1, 1, .inl (jw_l 0 [0]))), (h3, .inr (12, [.ref h1, .ref h11, .ref h4, .ref h5, .int (-1), .int 0, .int 1, .int 1, .int 1, .int 1])), (h4, .inl (Y 1, 1, .inl (jw_l 0 [1]))), (h5, .inl (Y 1, 1, .inl (jw_l 0 [0])))] H := hP
  have hD : va_D A [(h0, .inr (6, [.int 2, .int 0, .int 0, .int 0, .int 0, .ref h6, .ref h7, .ref h8, .ref h9, .ref h10, .int 0])), (h1, .inr (5, [.ref h0, .ref h11, .int 1, .int 1, .ref h12, .ref h13, .ref h2, .ref h14, .ref h15, .ref h16])), (h2, .inl (Y 1, 1, .inl (jw_l 0 [0]))), (h3, .inr (12, [.ref h1, .ref h11, .ref h4, .ref h5, .int (-1), .int 0, .int 1, .int 1, .int 1, .int 1])), (h4, .inl (Y 1, 1, .inl (jw_l 0 [1]))), (h5, .inl (Y 1, 1, .inl (jw_l 0 [0])))] := hD
  refine lv_iinc (v := 1) (lv' := [(1, .int 1), (2, .int 1), (0, .ref h3)]) hx hb dX9_findParts_117 hl (k := 1) rfl (by decide +kernel) (by decide) rfl (fun ls hl => ?_)
  refine lv_goto (tgt := 34) hx hb dX9_findParts_120 (by decide) ?_
  refine lv_iload_n hx hb dX9_findParts_34 rfl (lv_at hl 0 rfl) ?_
  refine lv_aload_n hx hb dX9_findParts_35 rfl (lv_at hl 2 rfl) ?_
  refine va_get (D := D) (ci := 12) (v := .ref h1) (C := RX9) (T := TX9) (N := 10) hx hb hts iw_X9_findParts__X9 hown hE.1 hP 3 rfl rfl 0 (by decide) (hts _ mw_X9_findParts__6) (fun _ h9 => h9) rfl dX9_findParts_36 ?_
  refine va_getN (D := D) (ci := 5) (v := .int 1) (C := RX2) (T := TX2) (N := 10) hx hb hts iw_X9_findParts__X2 hown hE.1 hP 1 rfl rfl 3 (by decide) (nf_X9_64 hE) (fun _ h9 => h9) rfl dX9_findParts_39 ?_
  refine lv_icmp_ge (tgt := 123) hx hb dX9_findParts_42 (by decide) (fun _ => ?_) (fun c9 => absurd (by decide +kernel) c9)
  refine lv_aload_n hx hb dX9_findParts_123 rfl (lv_at hl 2 rfl) ?_
  refine lv_iconst (v := 1) hx hb dX9_findParts_124 (by decide +kernel) ?_
  refine va_put (D := D) (ci := 12) (v := .int 1) (C := RX9) (T := TX9) (N := 10) hx hb hts iw_X9_findParts__X9 tyX9 tyX9_ok nmX9 hown hE.1 hP hD hS 3 rfl rfl 5 (by decide) (hts _ mw_X9_findParts__1) (fun _ h9 => h9) rfl (tyX9_ok 5 (by decide)) rfl rfl (Nat.le_of_ble_eq_true rfl) dX9_findParts_125 (fun H locs hP hD hS => ?_)
  have hP : va_P D vwCl [(h0, .inr (6, [.int 2, .int 0, .int 0, .int 0, .int 0, .ref h6, .ref h7, .ref h8, .ref h9, .ref h10, .int 0])), (h1, .inr (5, [.ref h0, .ref h11, .int 1, .int 1, .ref h12, .ref h13, .ref h2, .ref h14, .ref h15, .ref h16])), (h2, .inl (Y 1, 1, .inl (jw_l 0 [0]))), (h3, .inr (12, [.ref h1, .ref h11, .ref h4, .ref h5, .int (-1), .int 1, .int 1, .int 1, .int 1, .int 1])), (h4, .inl (Y 1, 1, .inl (jw_l 0 [1]))), (h5, .inl (Y 1, 1, .inl (jw_l 0 [0])))] H := hP
  have hD : va_D A [(h0, .inr (6, [.int 2, .int 0, .int 0, .int 0, .int 0, .ref h6, .ref h7, .ref h8, .ref h9, .ref h10, .int 0])), (h1, .inr (5, [.ref h0, .ref h11, .int 1, .int 1, .ref h12, .ref h13, .ref h2, .ref h14, .ref h15, .ref h16])), (h2, .inl (Y 1, 1, .inl (jw_l 0 [0]))), (h3, .inr (12, [.ref h1, .ref h11, .ref h4, .ref h5, .int (-1), .int 1, .int 1, .int 1, .int 1, .int 1])), (h4, .inl (Y 1, 1, .inl (jw_l 0 [1]))), (h5, .inl (Y 1, 1, .inl (jw_l 0 [0])))] := hD
  refine W.widen (k := 0) (n := 0) (Nat.le_of_ble_eq_true rfl) (Nat.le_of_ble_eq_true rfl) ?_
  exact jw_vret hx hb hr hlocks rfl hP hD hS dX9_findParts_128
set_option maxHeartbeats 4000000 in
set_option maxRecDepth 100000 in
theorem k419_X9_howManyParts {l : Launch} {D : va_G} {Y : Nat → ClassId} {tt : Nat → Nat} (h0 h1 h2 h3 h4 h5 h6 h7 h8 h9 h10 h11 h12 h13 h14 h15 h16 : Nat) (sz : Nat) : Met l yX9_howManyParts wsX9_howManyParts ({ frames := 4, cells := 0, slots := 0, locals := 88 }) (jw_Pc D Y tt [.ref h3] [(h0, .inr (6, [.int 2, .int 0, .int 0, .int 0, .int 0, .ref h6, .ref h7, .ref h8, .ref h9, .ref h10, .int 0])), (h1, .inr (5, [.ref h0, .ref h11, .int 1, .int 1, .ref h12, .ref h13, .ref h2, .ref h14, .ref h15, .ref h16])), (h2, .inl (Y 1, 1, .inl (jw_l 0 [0]))), (h3, .inr (12, [.ref h1, .ref h11, .ref h4, .ref h5, .int (-1), .int 0, .int 0, .int 0, .int 0, .int 0])), (h4, .inl (Y 1, 1, .inl (jw_l 0 []))), (h5, .inl (Y 1, 1, .inl (jw_l 0 [])))] sz) (jw_Qi D (fun r => r = 1) (fun w => w = [(h0, .inr (6, [.int 2, .int 0, .int 0, .int 0, .int 0, .ref h6, .ref h7, .ref h8, .ref h9, .ref h10, .int 0])), (h1, .inr (5, [.ref h0, .ref h11, .int 1, .int 1, .ref h12, .ref h13, .ref h2, .ref h14, .ref h15, .ref h16])), (h2, .inl (Y 1, 1, .inl (jw_l 0 [0]))), (h3, .inr (12, [.ref h1, .ref h11, .ref h4, .ref h5, .int (-1), .int 1, .int 1, .int 1, .int 1, .int 1])), (h4, .inl (Y 1, 1, .inl (jw_l 0 [1]))), (h5, .inl (Y 1, 1, .inl (jw_l 0 [0])))]) (va_A [(h0, .inr (6, [.int 2, .int 0, .int 0, .int 0, .int 0, .ref h6, .ref h7, .ref h8, .ref h9, .ref h10, .int 0])), (h1, .inr (5, [.ref h0, .ref h11, .int 1, .int 1, .ref h12, .ref h13, .ref h2, .ref h14, .ref h15, .ref h16])), (h2, .inl (Y 1, 1, .inl (jw_l 0 [0]))), (h3, .inr (12, [.ref h1, .ref h11, .ref h4, .ref h5, .int (-1), .int 0, .int 0, .int 0, .int 0, .int 0])), (h4, .inl (Y 1, 1, .inl (jw_l 0 []))), (h5, .inl (Y 1, 1, .inl (jw_l 0 [])))] sz)) 0 0 (va_A [(h0, .inr (6, [.int 2, .int 0, .int 0, .int 0, .int 0, .ref h6, .ref h7, .ref h8, .ref h9, .ref h10, .int 0])), (h1, .inr (5, [.ref h0, .ref h11, .int 1, .int 1, .ref h12, .ref h13, .ref h2, .ref h14, .ref h15, .ref h16])), (h2, .inl (Y 1, 1, .inl (jw_l 0 [0]))), (h3, .inr (12, [.ref h1, .ref h11, .ref h4, .ref h5, .int (-1), .int 0, .int 0, .int 0, .int 0, .int 0])), (h4, .inl (Y 1, 1, .inl (jw_l 0 []))), (h5, .inl (Y 1, 1, .inl (jw_l 0 [])))] sz) := by
  refine jw_met (fun A => jw_Qi D (fun r => r = 1) (fun w => w = [(h0, .inr (6, [.int 2, .int 0, .int 0, .int 0, .int 0, .ref h6, .ref h7, .ref h8, .ref h9, .ref h10, .int 0])), (h1, .inr (5, [.ref h0, .ref h11, .int 1, .int 1, .ref h12, .ref h13, .ref h2, .ref h14, .ref h15, .ref h16])), (h2, .inl (Y 1, 1, .inl (jw_l 0 [0]))), (h3, .inr (12, [.ref h1, .ref h11, .ref h4, .ref h5, .int (-1), .int 1, .int 1, .int 1, .int 1, .int 1])), (h4, .inl (Y 1, 1, .inl (jw_l 0 [1]))), (h5, .inl (Y 1, 1, .inl (jw_l 0 [0])))]) A) (cc := cX9_howManyParts) (maxL := 1) (ret := (some .int)) pn_X9_howManyParts rfl rfl ?_
  intro p e s m below meth c A H locs ls hx hb hml hr hts hown hlocks hin hP hD hA hS hE hl
  have hown : s.vm.findClass RX9 = some m.cls := hown
  have hl : lv_has ls 1 [(0, .ref h3)] := hl
  refine lv_aload_n hx hb dX9_howManyParts_0 rfl (lv_at hl 0 rfl) ?_
  refine jw_mv (wc := [(h0, .inr (6, [.int 2, .int 0, .int 0, .int 0, .int 0, .ref h6, .ref h7, .ref h8, .ref h9, .ref h10, .int 0])), (h1, .inr (5, [.ref h0, .ref h11, .int 1, .int 1, .ref h12, .ref h13, .ref h2, .ref h14, .ref h15, .ref h16])), (h2, .inl (Y 1, 1, .inl (jw_l 0 [0]))), (h3, .inr (12, [.ref h1, .ref h11, .ref h4, .ref h5, .int (-1), .int 0, .int 0, .int 0, .int 0, .int 0])), (h4, .inl (Y 1, 1, .inl (jw_l 0 []))), (h5, .inl (Y 1, 1, .inl (jw_l 0 [])))]) (cs := 0) (ss := 0) (va_runV (As := []) (rest := []) ⟨hx, hb, hml, hown, hts⟩ (k418_X9_findParts h0 h1 h2 h3 h4 h5 h6 h7 h8 h9 h10 h11 h12 h13 h14 h15 h16 H.size) (cwV 0 hts gX9_howManyParts_X9_findParts rfl rfl rfl ydV_X9_findParts ⟨Nat.le_of_ble_eq_true rfl, Nat.le_of_ble_eq_true rfl⟩) (jw_mpreV (ci := 12) (q0 := 3) hP hD hS hA hE [true, true, true, true, true, true] rfl rfl rfl) rfl rfl hl.1 rfl (lv_room (Nat.le_of_ble_eq_true rfl)) dX9_howManyParts_1 ⟨Nat.le_of_ble_eq_true rfl, Nat.le_of_ble_eq_true rfl⟩) hP hD hS hA [true, true, true, true, true, true] rfl rfl rfl (fun w1 H locs hw9 hP hD hS => ?_)
  subst hw9
  have hP : va_P D vwCl [(h0, .inr (6, [.int 2, .int 0, .int 0, .int 0, .int 0, .ref h6, .ref h7, .ref h8, .ref h9, .ref h10, .int 0])), (h1, .inr (5, [.ref h0, .ref h11, .int 1, .int 1, .ref h12, .ref h13, .ref h2, .ref h14, .ref h15, .ref h16])), (h2, .inl (Y 1, 1, .inl (jw_l 0 [0]))), (h3, .inr (12, [.ref h1, .ref h11, .ref h4, .ref h5, .int (-1), .int 1, .int 1, .int 1, .int 1, .int 1])), (h4, .inl (Y 1, 1, .inl (jw_l 0 [1]))), (h5, .inl (Y 1, 1, .inl (jw_l 0 [0])))] H := hP
  have hD : va_D A [(h0, .inr (6, [.int 2, .int 0, .int 0, .int 0, .int 0, .ref h6, .ref h7, .ref h8, .ref h9, .ref h10, .int 0])), (h1, .inr (5, [.ref h0, .ref h11, .int 1, .int 1, .ref h12, .ref h13, .ref h2, .ref h14, .ref h15, .ref h16])), (h2, .inl (Y 1, 1, .inl (jw_l 0 [0]))), (h3, .inr (12, [.ref h1, .ref h11, .ref h4, .ref h5, .int (-1), .int 1, .int 1, .int 1, .int 1, .int 1])), (h4, .inl (Y 1, 1, .inl (jw_l 0 [1]))), (h5, .inl (Y 1, 1, .inl (jw_l 0 [0])))] := hD
  refine lv_aload_n hx hb dX9_howManyParts_4 rfl (lv_at hl 0 rfl) ?_
  refine va_get (D := D) (ci := 12) (v := .int 1) (C := RX9) (T := TX9) (N := 10) hx hb hts iw_X9_howManyParts__X9 hown hE.1 hP 3 rfl rfl 6 (by decide) (hts _ mw_X9_howManyParts__1) (fun _ h9 => h9) rfl dX9_howManyParts_5 ?_
  refine W.widen (k := 0) (n := 0) (Nat.le_of_ble_eq_true rfl) (Nat.le_of_ble_eq_true rfl) ?_
  exact jw_iret hx hb hr hlocks rfl rfl hP hD hS dX9_howManyParts_8
set_option maxHeartbeats 4000000 in
set_option maxRecDepth 100000 in
theorem k420_X11_parts {l : Launch} {D : va_G} {Y : Nat → ClassId} {tt : Nat → Nat} (h0 h1 h2 h3 h4 h5 h6 h7 h8 h9 h10 h11 h12 h13 h14 h15 h16 h17 h18 h19 h20 h21 h22 h23 h24 h25 h26 h27 h28 : Nat) (sz : Nat) : Met l yX11_parts wsX11_parts ({ frames := 5, cells := 0, slots := 0, locals := 108 }) (jw_Pc D Y tt [.ref h0, .int 0] [(h0, .inr (14, [.ref h7, .int 0, .ref h1, .ref h8, .ref h9, .ref h2, .ref h10, .ref h11, .ref h12, .ref h13, .ref h14, .ref h15, .ref h16, .ref h17, .ref h18, .ref h4, .int (-3), .int (-3)])), (h1, .inr (6, [.int 2, .int 0, .int 0, .int 0, .int 0, .ref h19, .ref h20, .ref h21, .ref h22, .ref h23, .int 0])), (h2, .inr (5, [.ref h1, .ref h9, .int 1, .int 1, .ref h24, .ref h25, .ref h3, .ref h26, .ref h27, .ref h28])), (h3, .inl (Y 1, 1, .inl (jw_l 0 [0]))), (h4, .inr (12, [.ref h2, .ref h9, .ref h5, .ref h6, .int (-1), .int 0, .int 0, .int 0, .int 0, .int 0])), (h5, .inl (Y 1, 1, .inl (jw_l 0 []))), (h6, .inl (Y 1, 1, .inl (jw_l 0 [])))] sz) (jw_Qi D (fun r => r = 1) (fun w => w = []) (va_A [(h0, .inr (14, [.ref h7, .int 0, .ref h1, .ref h8, .ref h9, .ref h2, .ref h10, .ref h11, .ref h12, .ref h13, .ref h14, .ref h15, .ref h16, .ref h17, .ref h18, .ref h4, .int (-3), .int (-3)])), (h1, .inr (6, [.int 2, .int 0, .int 0, .int 0, .int 0, .ref h19, .ref h20, .ref h21, .ref h22, .ref h23, .int 0])), (h2, .inr (5, [.ref h1, .ref h9, .int 1, .int 1, .ref h24, .ref h25, .ref h3, .ref h26, .ref h27, .ref h28])), (h3, .inl (Y 1, 1, .inl (jw_l 0 [0]))), (h4, .inr (12, [.ref h2, .ref h9, .ref h5, .ref h6, .int (-1), .int 0, .int 0, .int 0, .int 0, .int 0])), (h5, .inl (Y 1, 1, .inl (jw_l 0 []))), (h6, .inl (Y 1, 1, .inl (jw_l 0 [])))] sz)) 0 0 (va_A [(h0, .inr (14, [.ref h7, .int 0, .ref h1, .ref h8, .ref h9, .ref h2, .ref h10, .ref h11, .ref h12, .ref h13, .ref h14, .ref h15, .ref h16, .ref h17, .ref h18, .ref h4, .int (-3), .int (-3)])), (h1, .inr (6, [.int 2, .int 0, .int 0, .int 0, .int 0, .ref h19, .ref h20, .ref h21, .ref h22, .ref h23, .int 0])), (h2, .inr (5, [.ref h1, .ref h9, .int 1, .int 1, .ref h24, .ref h25, .ref h3, .ref h26, .ref h27, .ref h28])), (h3, .inl (Y 1, 1, .inl (jw_l 0 [0]))), (h4, .inr (12, [.ref h2, .ref h9, .ref h5, .ref h6, .int (-1), .int 0, .int 0, .int 0, .int 0, .int 0])), (h5, .inl (Y 1, 1, .inl (jw_l 0 []))), (h6, .inl (Y 1, 1, .inl (jw_l 0 [])))] sz) := by
  refine jw_met (fun A => jw_Qi D (fun r => r = 1) (fun w => w = []) A) (cc := cX11_parts) (maxL := 2) (ret := (some .int)) pn_X11_parts rfl rfl ?_
  intro p e s m below meth c A H locs ls hx hb hml hr hts hown hlocks hin hP hD hA hS hE hl
  have hown : s.vm.findClass RX11 = some m.cls := hown
  have hl : lv_has ls 2 [(0, .ref h0), (1, .int 0)] := hl
  refine lv_iload_n hx hb dX11_parts_0 rfl (lv_at hl 1 rfl) ?_
  refine lv_tableIn (off := 27) (tgt := 28) hx hb dX11_parts_1 (by decide +kernel) (by decide +kernel) (by decide +kernel) (by decide) ?_
  refine lv_aload_n hx hb dX11_parts_28 rfl (lv_at hl 0 rfl) ?_
  refine va_get (D := D) (ci := 14) (v := .ref h4) (C := RX11) (T := TX11) (N := 18) hx hb hts iw_X11_parts__X11 hown hE.1 hP 0 rfl rfl 15 (by decide) (hts _ mw_X11_parts__1) (fun _ h9 => h9) rfl dX11_parts_29 ?_
  refine jw_mi (wc := [(h1, .inr (6, [.int 2, .int 0, .int 0, .int 0, .int 0, .ref h19, .ref h20, .ref h21, .ref h22, .ref h23, .int 0])), (h2, .inr (5, [.ref h1, .ref h9, .int 1, .int 1, .ref h24, .ref h25, .ref h3, .ref h26, .ref h27, .ref h28])), (h3, .inl (Y 1, 1, .inl (jw_l 0 [0]))), (h4, .inr (12, [.ref h2, .ref h9, .ref h5, .ref h6, .int (-1), .int 0, .int 0, .int 0, .int 0, .int 0])), (h5, .inl (Y 1, 1, .inl (jw_l 0 []))), (h6, .inl (Y 1, 1, .inl (jw_l 0 [])))]) (cs := 0) (ss := 0) (va_runV (As := []) (rest := []) ⟨hx, hb, hml, hown, hts⟩ (k419_X9_howManyParts h1 h2 h3 h4 h5 h6 h19 h20 h21 h22 h23 h9 h24 h25 h26 h27 h28 H.size) (cwV 0 hts gX11_parts_X9_howManyParts rfl rfl rfl ydV_X9_howManyParts ⟨Nat.le_of_ble_eq_true rfl, Nat.le_of_ble_eq_true rfl⟩) (jw_mpreV (ci := 12) (q0 := 4) hP hD hS hA hE [false, true, true, true, true, true, true] rfl rfl rfl) rfl rfl hl.1 rfl (lv_room (Nat.le_of_ble_eq_true rfl)) dX11_parts_32 ⟨Nat.le_of_ble_eq_true rfl, Nat.le_of_ble_eq_true rfl⟩) hP hD hS hA [false, true, true, true, true, true, true] rfl rfl rfl (fun r9 w1 H locs hr9 hw9 hP hD hS => ?_)
  subst hr9
  subst hw9
  have hP : va_P D vwCl [(h0, .inr (14, [.ref h7, .int 0, .ref h1, .ref h8, .ref h9, .ref h2, .ref h10, .ref h11, .ref h12, .ref h13, .ref h14, .ref h15, .ref h16, .ref h17, .ref h18, .ref h4, .int (-3), .int (-3)])), (h1, .inr (6, [.int 2, .int 0, .int 0, .int 0, .int 0, .ref h19, .ref h20, .ref h21, .ref h22, .ref h23, .int 0])), (h2, .inr (5, [.ref h1, .ref h9, .int 1, .int 1, .ref h24, .ref h25, .ref h3, .ref h26, .ref h27, .ref h28])), (h3, .inl (Y 1, 1, .inl (jw_l 0 [0]))), (h4, .inr (12, [.ref h2, .ref h9, .ref h5, .ref h6, .int (-1), .int 1, .int 1, .int 1, .int 1, .int 1])), (h5, .inl (Y 1, 1, .inl (jw_l 0 [1]))), (h6, .inl (Y 1, 1, .inl (jw_l 0 [0])))] H := hP
  have hD : va_D A [(h0, .inr (14, [.ref h7, .int 0, .ref h1, .ref h8, .ref h9, .ref h2, .ref h10, .ref h11, .ref h12, .ref h13, .ref h14, .ref h15, .ref h16, .ref h17, .ref h18, .ref h4, .int (-3), .int (-3)])), (h1, .inr (6, [.int 2, .int 0, .int 0, .int 0, .int 0, .ref h19, .ref h20, .ref h21, .ref h22, .ref h23, .int 0])), (h2, .inr (5, [.ref h1, .ref h9, .int 1, .int 1, .ref h24, .ref h25, .ref h3, .ref h26, .ref h27, .ref h28])), (h3, .inl (Y 1, 1, .inl (jw_l 0 [0]))), (h4, .inr (12, [.ref h2, .ref h9, .ref h5, .ref h6, .int (-1), .int 1, .int 1, .int 1, .int 1, .int 1])), (h5, .inl (Y 1, 1, .inl (jw_l 0 [1]))), (h6, .inl (Y 1, 1, .inl (jw_l 0 [0])))] := hD
  refine W.widen (k := 0) (n := 0) (Nat.le_of_ble_eq_true rfl) (Nat.le_of_ble_eq_true rfl) ?_
  have hP : va_P D vwCl [] H := hP.sub [] rfl
  have hD : va_D A [] := hD.sub [] rfl rfl
  exact jw_iret hx hb hr hlocks rfl rfl hP hD hS dX11_parts_35
set_option maxHeartbeats 4000000 in
set_option maxRecDepth 100000 in
theorem k421_X12_isIn {l : Launch} {D : va_G} {Y : Nat → ClassId} {tt : Nat → Nat} (sz : Nat) : Met l yX12_isIn wsX12_isIn ({ frames := 0, cells := 0, slots := 0, locals := 0 }) (jw_Pc D Y tt [.int 0, .int 0, .int 2] [] sz) (jw_Qi D (fun r => r = 1) (fun w => w = []) (va_A [] sz)) 0 0 (va_A [] sz) := by
  refine jw_met (fun A => jw_Qi D (fun r => r = 1) (fun w => w = []) A) (cc := cX12_isIn) (maxL := 3) (ret := (some .boolean)) pn_X12_isIn rfl rfl ?_
  intro p e s m below meth c A H locs ls hx hb hml hr hts hown hlocks hin hP hD hA hS hE hl
  have hown : s.vm.findClass RX12 = some m.cls := hown
  have hl : lv_has ls 3 [(0, .int 0), (1, .int 0), (2, .int 2)] := hl
  refine lv_iload_n hx hb dX12_isIn_0 rfl (lv_at hl 0 rfl) ?_
  refine lv_iload_n hx hb dX12_isIn_1 rfl (lv_at hl 1 rfl) ?_
  refine lv_icmp_lt (tgt := 14) hx hb dX12_isIn_2 (by decide) (fun c9 => absurd c9 (by decide +kernel)) (fun _ => ?_)
  refine lv_iload_n hx hb dX12_isIn_5 rfl (lv_at hl 0 rfl) ?_
  refine lv_iload_n hx hb dX12_isIn_6 rfl (lv_at hl 2 rfl) ?_
  refine lv_icmp_gt (tgt := 14) hx hb dX12_isIn_7 (by decide) (fun c9 => absurd c9 (by decide +kernel)) (fun _ => ?_)
  refine lv_iconst (v := 1) hx hb dX12_isIn_10 (by decide +kernel) ?_
  refine lv_goto (tgt := 15) hx hb dX12_isIn_11 (by decide) ?_
  refine W.widen (k := 0) (n := 0) (Nat.le_of_ble_eq_true rfl) (Nat.le_of_ble_eq_true rfl) ?_
  exact jw_zret hx hb hr hlocks rfl rfl rfl hP hD hS dX12_isIn_15
