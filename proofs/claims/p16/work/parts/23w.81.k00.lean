set_option maxHeartbeats 4000000 in
set_option maxRecDepth 100000 in
theorem k0_X12_plain {l : Launch} {D : va_G} {Y : Nat → ClassId} {tt : Nat → Nat} (h0 h1 h2 h3 h4 h5 h6 h7 h8 h9 h10 h11 h12 h13 h14 h15 h16 h17 h18 h19 h20 h21 h22 h23 h24 h25 h26 h27 h28 h29 h30 h31 h32 h33 h34 h35 : Nat) (sz : Nat) : Met l yX12_plain wsX12_plain ({ frames := 0, cells := 0, slots := 0, locals := 0 }) (jw_Pc D Y tt [.ref h0] [(h0, .inr (15, [.ref h1, .int 0, .int 0, .ref h2, .int 0, .int (-1), .int 0, .int 0, .int 0, .int 0, .int 0, .int 0, .int 0, .int 0, .int 0, .ref h3, .ref h4, .ref h5, .ref h6, .int 0, .int 0, .int 0, .int 0, .int 0, .ref h7, .ref h8, .ref h9, .ref h10, .int 0, .ref h11, .int 0, .ref h12, .ref h13, .int 0, .ref h14, .ref h15, .ref h16, .int 0, .ref h17, .ref h18, .ref h19, .ref h20, .ref h21, .ref h22, .ref h23, .ref h24, .ref h25, .int 0, .ref h26, .ref h27, .ref h28, .int (-1), .ref h29, .long 0, .long 0, .int 0, .int 0, .long 0, .long 0, .ref h30, .ref h31, .ref h32, .ref h33, .ref h34, .ref h35, .long 0]))] sz) (jw_Qv D (fun w => w = [(h0, .inr (15, [.ref h1, .int 0, .int 0, .ref h2, .int 0, .int (-1), .int 0, .int 0, .int 0, .int 0, .int 0, .int 0, .int 0, .int 0, .int 0, .ref h3, .ref h4, .ref h5, .ref h6, .int 2, .int 0, .int 0, .int 0, .int 0, .ref h7, .ref h8, .ref h9, .ref h10, .int 0, .ref h11, .int 0, .ref h12, .ref h13, .int 0, .ref h14, .ref h15, .ref h16, .int 0, .ref h17, .ref h18, .ref h19, .ref h20, .ref h21, .ref h22, .ref h23, .ref h24, .ref h25, .int 0, .ref h26, .ref h27, .ref h28, .int (-1), .ref h29, .long 0, .long 0, .int 0, .int 0, .long 0, .long 0, .ref h30, .ref h31, .ref h32, .ref h33, .ref h34, .ref h35, .long 0]))]) (va_A [(h0, .inr (15, [.ref h1, .int 0, .int 0, .ref h2, .int 0, .int (-1), .int 0, .int 0, .int 0, .int 0, .int 0, .int 0, .int 0, .int 0, .int 0, .ref h3, .ref h4, .ref h5, .ref h6, .int 0, .int 0, .int 0, .int 0, .int 0, .ref h7, .ref h8, .ref h9, .ref h10, .int 0, .ref h11, .int 0, .ref h12, .ref h13, .int 0, .ref h14, .ref h15, .ref h16, .int 0, .ref h17, .ref h18, .ref h19, .ref h20, .ref h21, .ref h22, .ref h23, .ref h24, .ref h25, .int 0, .ref h26, .ref h27, .ref h28, .int (-1), .ref h29, .long 0, .long 0, .int 0, .int 0, .long 0, .long 0, .ref h30, .ref h31, .ref h32, .ref h33, .ref h34, .ref h35, .long 0]))] sz)) 0 0 (va_A [(h0, .inr (15, [.ref h1, .int 0, .int 0, .ref h2, .int 0, .int (-1), .int 0, .int 0, .int 0, .int 0, .int 0, .int 0, .int 0, .int 0, .int 0, .ref h3, .ref h4, .ref h5, .ref h6, .int 0, .int 0, .int 0, .int 0, .int 0, .ref h7, .ref h8, .ref h9, .ref h10, .int 0, .ref h11, .int 0, .ref h12, .ref h13, .int 0, .ref h14, .ref h15, .ref h16, .int 0, .ref h17, .ref h18, .ref h19, .ref h20, .ref h21, .ref h22, .ref h23, .ref h24, .ref h25, .int 0, .ref h26, .ref h27, .ref h28, .int (-1), .ref h29, .long 0, .long 0, .int 0, .int 0, .long 0, .long 0, .ref h30, .ref h31, .ref h32, .ref h33, .ref h34, .ref h35, .long 0]))] sz) := by
  refine jw_met (fun A => jw_Qv D (fun w => w = [(h0, .inr (15, [.ref h1, .int 0, .int 0, .ref h2, .int 0, .int (-1), .int 0, .int 0, .int 0, .int 0, .int 0, .int 0, .int 0, .int 0, .int 0, .ref h3, .ref h4, .ref h5, .ref h6, .int 2, .int 0, .int 0, .int 0, .int 0, .ref h7, .ref h8, .ref h9, .ref h10, .int 0, .ref h11, .int 0, .ref h12, .ref h13, .int 0, .ref h14, .ref h15, .ref h16, .int 0, .ref h17, .ref h18, .ref h19, .ref h20, .ref h21, .ref h22, .ref h23, .ref h24, .ref h25, .int 0, .ref h26, .ref h27, .ref h28, .int (-1), .ref h29, .long 0, .long 0, .int 0, .int 0, .long 0, .long 0, .ref h30, .ref h31, .ref h32, .ref h33, .ref h34, .ref h35, .long 0]))]) A) (cc := cX12_plain) (maxL := 1) (ret := none) pn_X12_plain rfl rfl ?_
  intro p e s m below meth c A H locs ls hx hb hml hr hts hown hlocks hin hP hD hA hS hE hl
  have hown : s.vm.findClass RX12 = some m.cls := hown
  have hl : lv_has ls 1 [(0, .ref h0)] := hl
  refine lv_aload_n hx hb dX12_plain_0 rfl (lv_at hl 0 rfl) ?_
  refine lv_iconst (v := 2) hx hb dX12_plain_1 (by decide +kernel) ?_
  refine va_put (D := D) (ci := 15) (v := .int 2) (C := RX12) (T := TX12) (N := 66) hx hb hts iw_X12_plain__X12 tyX12 tyX12_ok nmX12 hown hE.1 hP hD hS 0 rfl rfl 19 (by decide) (hts _ mw_X12_plain__1) (fun _ h9 => h9) rfl (tyX12_ok 19 (by decide)) rfl rfl (Nat.le_of_ble_eq_true rfl) dX12_plain_2 (fun H locs hP hD hS => ?_)
  have hP : va_P D vwCl [(h0, .inr (15, [.ref h1, .int 0, .int 0, .ref h2, .int 0, .int (-1), .int 0, .int 0, .int 0, .int 0, .int 0, .int 0, .int 0, .int 0, .int 0, .ref h3, .ref h4, .ref h5, .ref h6, .int 2, .int 0, .int 0, .int 0, .int 0, .ref h7, .ref h8, .ref h9, .ref h10, .int 0, .ref h11, .int 0, .ref h12, .ref h13, .int 0, .ref h14, .ref h15, .ref h16, .int 0, .ref h17, .ref h18, .ref h19, .ref h20, .ref h21, .ref h22, .ref h23, .ref h24, .ref h25, .int 0, .ref h26, .ref h27, .ref h28, .int (-1), .ref h29, .long 0, .long 0, .int 0, .int 0, .long 0, .long 0, .ref h30, .ref h31, .ref h32, .ref h33, .ref h34, .ref h35, .long 0]))] H := hP
  have hD : va_D A [(h0, .inr (15, [.ref h1, .int 0, .int 0, .ref h2, .int 0, .int (-1), .int 0, .int 0, .int 0, .int 0, .int 0, .int 0, .int 0, .int 0, .int 0, .ref h3, .ref h4, .ref h5, .ref h6, .int 2, .int 0, .int 0, .int 0, .int 0, .ref h7, .ref h8, .ref h9, .ref h10, .int 0, .ref h11, .int 0, .ref h12, .ref h13, .int 0, .ref h14, .ref h15, .ref h16, .int 0, .ref h17, .ref h18, .ref h19, .ref h20, .ref h21, .ref h22, .ref h23, .ref h24, .ref h25, .int 0, .ref h26, .ref h27, .ref h28, .int (-1), .ref h29, .long 0, .long 0, .int 0, .int 0, .long 0, .long 0, .ref h30, .ref h31, .ref h32, .ref h33, .ref h34, .ref h35, .long 0]))] := hD
  refine lv_aload_n hx hb dX12_plain_5 rfl (lv_at hl 0 rfl) ?_
  refine lv_iconst (v := 0) hx hb dX12_plain_6 (by decide +kernel) ?_
  refine va_put (D := D) (ci := 15) (v := .int 0) (C := RX12) (T := TX12) (N := 66) hx hb hts iw_X12_plain__X12 tyX12 tyX12_ok nmX12 hown hE.1 hP hD hS 0 rfl rfl 20 (by decide) (hts _ mw_X12_plain__2) (fun _ h9 => h9) rfl (tyX12_ok 20 (by decide)) rfl rfl (Nat.le_of_ble_eq_true rfl) dX12_plain_7 (fun H locs hP hD hS => ?_)
  have hP : va_P D vwCl [(h0, .inr (15, [.ref h1, .int 0, .int 0, .ref h2, .int 0, .int (-1), .int 0, .int 0, .int 0, .int 0, .int 0, .int 0, .int 0, .int 0, .int 0, .ref h3, .ref h4, .ref h5, .ref h6, .int 2, .int 0, .int 0, .int 0, .int 0, .ref h7, .ref h8, .ref h9, .ref h10, .int 0, .ref h11, .int 0, .ref h12, .ref h13, .int 0, .ref h14, .ref h15, .ref h16, .int 0, .ref h17, .ref h18, .ref h19, .ref h20, .ref h21, .ref h22, .ref h23, .ref h24, .ref h25, .int 0, .ref h26, .ref h27, .ref h28, .int (-1), .ref h29, .long 0, .long 0, .int 0, .int 0, .long 0, .long 0, .ref h30, .ref h31, .ref h32, .ref h33, .ref h34, .ref h35, .long 0]))] H := hP
  have hD : va_D A [(h0, .inr (15, [.ref h1, .int 0, .int 0, .ref h2, .int 0, .int (-1), .int 0, .int 0, .int 0, .int 0, .int 0, .int 0, .int 0, .int 0, .int 0, .ref h3, .ref h4, .ref h5, .ref h6, .int 2, .int 0, .int 0, .int 0, .int 0, .ref h7, .ref h8, .ref h9, .ref h10, .int 0, .ref h11, .int 0, .ref h12, .ref h13, .int 0, .ref h14, .ref h15, .ref h16, .int 0, .ref h17, .ref h18, .ref h19, .ref h20, .ref h21, .ref h22, .ref h23, .ref h24, .ref h25, .int 0, .ref h26, .ref h27, .ref h28, .int (-1), .ref h29, .long 0, .long 0, .int 0, .int 0, .long 0, .long 0, .ref h30, .ref h31, .ref h32, .ref h33, .ref h34, .ref h35, .long 0]))] := hD
  refine lv_aload_n hx hb dX12_plain_10 rfl (lv_at hl 0 rfl) ?_
  refine lv_iconst (v := 0) hx hb dX12_plain_11 (by decide +kernel) ?_
  refine va_put (D := D) (ci := 15) (v := .int 0) (C := RX12) (T := TX12) (N := 66) hx hb hts iw_X12_plain__X12 tyX12 tyX12_ok nmX12 hown hE.1 hP hD hS 0 rfl rfl 21 (by decide) (hts _ mw_X12_plain__3) (fun _ h9 => h9) rfl (tyX12_ok 21 (by decide)) rfl rfl (Nat.le_of_ble_eq_true rfl) dX12_plain_12 (fun H locs hP hD hS => ?_)
  have hP : va_P D vwCl [(h0, .inr (15, [.ref h1, .int 0, .int 0, .ref h2, .int 0, .int (-1), .int 0, .int 0, .int 0, .int 0, .int 0, .int 0, .int 0, .int 0, .int 0, .ref h3, .ref h4, .ref h5, .ref h6, .int 2, .int 0, .int 0, .int 0, .int 0, .ref h7, .ref h8, .ref h9, .ref h10, .int 0, .ref h11, .int 0, .ref h12, .ref h13, .int 0, .ref h14, .ref h15, .ref h16, .int 0, .ref h17, .ref h18, .ref h19, .ref h20, .ref h21, .ref h22, .ref h23, .ref h24, .ref h25, .int 0, .ref h26, .ref h27, .ref h28, .int (-1), .ref h29, .long 0, .long 0, .int 0, .int 0, .long 0, .long 0, .ref h30, .ref h31, .ref h32, .ref h33, .ref h34, .ref h35, .long 0]))] H := hP
  have hD : va_D A [(h0, .inr (15, [.ref h1, .int 0, .int 0, .ref h2, .int 0, .int (-1), .int 0, .int 0, .int 0, .int 0, .int 0, .int 0, .int 0, .int 0, .int 0, .ref h3, .ref h4, .ref h5, .ref h6, .int 2, .int 0, .int 0, .int 0, .int 0, .ref h7, .ref h8, .ref h9, .ref h10, .int 0, .ref h11, .int 0, .ref h12, .ref h13, .int 0, .ref h14, .ref h15, .ref h16, .int 0, .ref h17, .ref h18, .ref h19, .ref h20, .ref h21, .ref h22, .ref h23, .ref h24, .ref h25, .int 0, .ref h26, .ref h27, .ref h28, .int (-1), .ref h29, .long 0, .long 0, .int 0, .int 0, .long 0, .long 0, .ref h30, .ref h31, .ref h32, .ref h33, .ref h34, .ref h35, .long 0]))] := hD
  refine lv_aload_n hx hb dX12_plain_15 rfl (lv_at hl 0 rfl) ?_
  refine lv_iconst (v := 0) hx hb dX12_plain_16 (by decide +kernel) ?_
  refine va_put (D := D) (ci := 15) (v := .int 0) (C := RX12) (T := TX12) (N := 66) hx hb hts iw_X12_plain__X12 tyX12 tyX12_ok nmX12 hown hE.1 hP hD hS 0 rfl rfl 22 (by decide) (hts _ mw_X12_plain__4) (fun _ h9 => h9) rfl (tyX12_ok 22 (by decide)) rfl rfl (Nat.le_of_ble_eq_true rfl) dX12_plain_17 (fun H locs hP hD hS => ?_)
  have hP : va_P D vwCl [(h0, .inr (15, [.ref h1, .int 0, .int 0, .ref h2, .int 0, .int (-1), .int 0, .int 0, .int 0, .int 0, .int 0, .int 0, .int 0, .int 0, .int 0, .ref h3, .ref h4, .ref h5, .ref h6, .int 2, .int 0, .int 0, .int 0, .int 0, .ref h7, .ref h8, .ref h9, .ref h10, .int 0, .ref h11, .int 0, .ref h12, .ref h13, .int 0, .ref h14, .ref h15, .ref h16, .int 0, .ref h17, .ref h18, .ref h19, .ref h20, .ref h21, .ref h22, .ref h23, .ref h24, .ref h25, .int 0, .ref h26, .ref h27, .ref h28, .int (-1), .ref h29, .long 0, .long 0, .int 0, .int 0, .long 0, .long 0, .ref h30, .ref h31, .ref h32, .ref h33, .ref h34, .ref h35, .long 0]))] H := hP
  have hD : va_D A [(h0, .inr (15, [.ref h1, .int 0, .int 0, .ref h2, .int 0, .int (-1), .int 0, .int 0, .int 0, .int 0, .int 0, .int 0, .int 0, .int 0, .int 0, .ref h3, .ref h4, .ref h5, .ref h6, .int 2, .int 0, .int 0, .int 0, .int 0, .ref h7, .ref h8, .ref h9, .ref h10, .int 0, .ref h11, .int 0, .ref h12, .ref h13, .int 0, .ref h14, .ref h15, .ref h16, .int 0, .ref h17, .ref h18, .ref h19, .ref h20, .ref h21, .ref h22, .ref h23, .ref h24, .ref h25, .int 0, .ref h26, .ref h27, .ref h28, .int (-1), .ref h29, .long 0, .long 0, .int 0, .int 0, .long 0, .long 0, .ref h30, .ref h31, .ref h32, .ref h33, .ref h34, .ref h35, .long 0]))] := hD
  refine lv_aload_n hx hb dX12_plain_20 rfl (lv_at hl 0 rfl) ?_
  refine lv_iconst (v := 0) hx hb dX12_plain_21 (by decide +kernel) ?_
  refine va_put (D := D) (ci := 15) (v := .int 0) (C := RX12) (T := TX12) (N := 66) hx hb hts iw_X12_plain__X12 tyX12 tyX12_ok nmX12 hown hE.1 hP hD hS 0 rfl rfl 23 (by decide) (hts _ mw_X12_plain__5) (fun _ h9 => h9) rfl (tyX12_ok 23 (by decide)) rfl rfl (Nat.le_of_ble_eq_true rfl) dX12_plain_22 (fun H locs hP hD hS => ?_)
  have hP : va_P D vwCl [(h0, .inr (15, [.ref h1, .int 0, .int 0, .ref h2, .int 0, .int (-1), .int 0, .int 0, .int 0, .int 0, .int 0, .int 0, .int 0, .int 0, .int 0, .ref h3, .ref h4, .ref h5, .ref h6, .int 2, .int 0, .int 0, .int 0, .int 0, .ref h7, .ref h8, .ref h9, .ref h10, .int 0, .ref h11, .int 0, .ref h12, .ref h13, .int 0, .ref h14, .ref h15, .ref h16, .int 0, .ref h17, .ref h18, .ref h19, .ref h20, .ref h21, .ref h22, .ref h23, .ref h24, .ref h25, .int 0, .ref h26, .ref h27, .ref h28, .int (-1), .ref h29, .long 0, .long 0, .int 0, .int 0, .long 0, .long 0, .ref h30, .ref h31, .ref h32, .ref h33, .ref h34, .ref h35, .long 0]))] H := hP
  have hD : va_D A [(h0, .inr (15, [.ref h1, .int 0, .int 0, .ref h2, .int 0, .int (-1), .int 0, .int 0, .int 0, .int 0, .int 0, .int 0, .int 0, .int 0, .int 0, .ref h3, .ref h4, .ref h5, .ref h6, .int 2, .int 0, .int 0, .int 0, .int 0, .ref h7, .ref h8, .ref h9, .ref h10, .int 0, .ref h11, .int 0, .ref h12, .ref h13, .int 0, .ref h14, .ref h15, .ref h16, .int 0, .ref h17, .ref h18, .ref h19, .ref h20, .ref h21, .ref h22, .ref h23, .ref h24, .ref h25, .int 0, .ref h26, .ref h27, .ref h28, .int (-1), .ref h29, .long 0, .long 0, .int 0, .int 0, .long 0, .long 0, .ref h30, .ref h31, .ref h32, .ref h33, .ref h34, .ref h35, .long 0]))] := hD
  refine W.widen (k := 0) (n := 0) (Nat.le_of_ble_eq_true rfl) (Nat.le_of_ble_eq_true rfl) ?_
  exact jw_vret hx hb hr hlocks rfl hP hD hS dX12_plain_25
set_option maxHeartbeats 4000000 in
set_option maxRecDepth 100000 in
theorem k1_X12_layRows {l : Launch} {D : va_G} {Y : Nat → ClassId} {tt : Nat → Nat} (h0 h1 h2 h3 h4 h5 h6 h7 h8 h9 h10 h11 h12 h13 h14 h15 h16 h17 h18 h19 h20 h21 h22 h23 h24 h25 h26 h27 h28 h29 h30 h31 h32 h33 h34 h35 : Nat) (sz : Nat) : Met l yX12_layRows wsX12_layRows ({ frames := 0, cells := 0, slots := 0, locals := 0 }) (jw_Pc D Y tt [.ref h0] [(h0, .inr (15, [.ref h2, .int 0, .int 0, .ref h3, .int 0, .int (-1), .int 0, .int 0, .int 0, .int 0, .int 0, .int 2, .int 0, .int 0, .int 0, .ref h4, .ref h5, .ref h6, .ref h7, .int 2, .int 0, .int 0, .int 0, .int 0, .ref h8, .ref h9, .ref h10, .ref h11, .int 0, .ref h1, .int 0, .ref h12, .ref h13, .int 0, .ref h14, .ref h15, .ref h16, .int 0, .ref h17, .ref h18, .ref h19, .ref h20, .ref h21, .ref h22, .ref h23, .ref h24, .ref h25, .int 0, .ref h26, .ref h27, .ref h28, .int (-1), .ref h29, .long 0, .long 0, .int 0, .int 0, .long 0, .long 0, .ref h30, .ref h31, .ref h32, .ref h33, .ref h34, .ref h35, .long 0])), (h1, .inl (Y 1, 100, .inl (jw_l 0 [])))] sz) (jw_Qv D (fun w => w = [(h0, .inr (15, [.ref h2, .int 0, .int 0, .ref h3, .int 0, .int (-1), .int 0, .int 0, .int 0, .int 0, .int 0, .int 2, .int 0, .int 0, .int 0, .ref h4, .ref h5, .ref h6, .ref h7, .int 2, .int 0, .int 0, .int 0, .int 0, .ref h8, .ref h9, .ref h10, .ref h11, .int 2, .ref h1, .int 0, .ref h12, .ref h13, .int 0, .ref h14, .ref h15, .ref h16, .int 0, .ref h17, .ref h18, .ref h19, .ref h20, .ref h21, .ref h22, .ref h23, .ref h24, .ref h25, .int 0, .ref h26, .ref h27, .ref h28, .int (-1), .ref h29, .long 0, .long 0, .int 0, .int 0, .long 0, .long 0, .ref h30, .ref h31, .ref h32, .ref h33, .ref h34, .ref h35, .long 0])), (h1, .inl (Y 1, 100, .inl (jw_l 0 [0, 1, 0, 0, 1, 0, 0, 0, 1, 1])))]) (va_A [(h0, .inr (15, [.ref h2, .int 0, .int 0, .ref h3, .int 0, .int (-1), .int 0, .int 0, .int 0, .int 0, .int 0, .int 2, .int 0, .int 0, .int 0, .ref h4, .ref h5, .ref h6, .ref h7, .int 2, .int 0, .int 0, .int 0, .int 0, .ref h8, .ref h9, .ref h10, .ref h11, .int 0, .ref h1, .int 0, .ref h12, .ref h13, .int 0, .ref h14, .ref h15, .ref h16, .int 0, .ref h17, .ref h18, .ref h19, .ref h20, .ref h21, .ref h22, .ref h23, .ref h24, .ref h25, .int 0, .ref h26, .ref h27, .ref h28, .int (-1), .ref h29, .long 0, .long 0, .int 0, .int 0, .long 0, .long 0, .ref h30, .ref h31, .ref h32, .ref h33, .ref h34, .ref h35, .long 0])), (h1, .inl (Y 1, 100, .inl (jw_l 0 [])))] sz)) 0 0 (va_A [(h0, .inr (15, [.ref h2, .int 0, .int 0, .ref h3, .int 0, .int (-1), .int 0, .int 0, .int 0, .int 0, .int 0, .int 2, .int 0, .int 0, .int 0, .ref h4, .ref h5, .ref h6, .ref h7, .int 2, .int 0, .int 0, .int 0, .int 0, .ref h8, .ref h9, .ref h10, .ref h11, .int 0, .ref h1, .int 0, .ref h12, .ref h13, .int 0, .ref h14, .ref h15, .ref h16, .int 0, .ref h17, .ref h18, .ref h19, .ref h20, .ref h21, .ref h22, .ref h23, .ref h24, .ref h25, .int 0, .ref h26, .ref h27, .ref h28, .int (-1), .ref h29, .long 0, .long 0, .int 0, .int 0, .long 0, .long 0, .ref h30, .ref h31, .ref h32, .ref h33, .ref h34, .ref h35, .long 0])), (h1, .inl (Y 1, 100, .inl (jw_l 0 [])))] sz) := by
  refine jw_met (fun A => jw_Qv D (fun w => w = [(h0, .inr (15, [.ref h2, .int 0, .int 0, .ref h3, .int 0, .int (-1), .int 0, .int 0, .int 0, .int 0, .int 0, .int 2, .int 0, .int 0, .int 0, .ref h4, .ref h5, .ref h6, .ref h7, .int 2, .int 0, .int 0, .int 0, .int 0, .ref h8, .ref h9, .ref h10, .ref h11, .int 2, .ref h1, .int 0, .ref h12, .ref h13, .int 0, .ref h14, .ref h15, .ref h16, .int 0, .ref h17, .ref h18, .ref h19, .ref h20, .ref h21, .ref h22, .ref h23, .ref h24, .ref h25, .int 0, .ref h26, .ref h27, .ref h28, .int (-1), .ref h29, .long 0, .long 0, .int 0, .int 0, .long 0, .long 0, .ref h30, .ref h31, .ref h32, .ref h33, .ref h34, .ref h35, .long 0])), (h1, .inl (Y 1, 100, .inl (jw_l 0 [0, 1, 0, 0, 1, 0, 0, 0, 1, 1])))]) A) (cc := cX12_layRows) (maxL := 6) (ret := none) pn_X12_layRows rfl rfl ?_
  intro p e s m below meth c A H locs ls hx hb hml hr hts hown hlocks hin hP hD hA hS hE hl
  have hown : s.vm.findClass RX12 = some m.cls := hown
  have hl : lv_has ls 6 [(0, .ref h0)] := hl
  refine lv_aload_n hx hb dX12_layRows_0 rfl (lv_at hl 0 rfl) ?_
  refine lv_iconst (v := 0) hx hb dX12_layRows_1 (by decide +kernel) ?_
  refine va_put (D := D) (ci := 15) (v := .int 0) (C := RX12) (T := TX12) (N := 66) hx hb hts iw_X12_layRows__X12 tyX12 tyX12_ok nmX12 hown hE.1 hP hD hS 0 rfl rfl 28 (by decide) (hts _ mw_X12_layRows__1) (fun _ h9 => h9) rfl (tyX12_ok 28 (by decide)) rfl rfl (Nat.le_of_ble_eq_true rfl) dX12_layRows_2 (fun H locs hP hD hS => ?_)
  have hP : va_P D vwCl [(h0, .inr (15, [.ref h2, .int 0, .int 0, .ref h3, .int 0, .int (-1), .int 0, .int 0, .int 0, .int 0, .int 0, .int 2, .int 0, .int 0, .int 0, .ref h4, .ref h5, .ref h6, .ref h7, .int 2, .int 0, .int 0, .int 0, .int 0, .ref h8, .ref h9, .ref h10, .ref h11, .int 0, .ref h1, .int 0, .ref h12, .ref h13, .int 0, .ref h14, .ref h15, .ref h16, .int 0, .ref h17, .ref h18, .ref h19, .ref h20, .ref h21, .ref h22, .ref h23, .ref h24, .ref h25, .int 0, .ref h26, .ref h27, .ref h28, .int (-1), .ref h29, .long 0, .long 0, .int 0, .int 0, .long 0, .long 0, .ref h30, .ref h31, .ref h32, .ref h33, .ref h34, .ref h35, .long 0])), (h1, .inl (Y 1, 100, .inl (jw_l 0 [])))] H := hP
  have hD : va_D A [(h0, .inr (15, [.ref h2, .int 0, .int 0, .ref h3, .int 0, .int (-1), .int 0, .int 0, .int 0, .int 0, .int 0, .int 2, .int 0, .int 0, .int 0, .ref h4, .ref h5, .ref h6, .ref h7, .int 2, .int 0, .int 0, .int 0, .int 0, .ref h8, .ref h9, .ref h10, .ref h11, .int 0, .ref h1, .int 0, .ref h12, .ref h13, .int 0, .ref h14, .ref h15, .ref h16, .int 0, .ref h17, .ref h18, .ref h19, .ref h20, .ref h21, .ref h22, .ref h23, .ref h24, .ref h25, .int 0, .ref h26, .ref h27, .ref h28, .int (-1), .ref h29, .long 0, .long 0, .int 0, .int 0, .long 0, .long 0, .ref h30, .ref h31, .ref h32, .ref h33, .ref h34, .ref h35, .long 0])), (h1, .inl (Y 1, 100, .inl (jw_l 0 [])))] := hD
  refine lv_iconst (v := 1) hx hb dX12_layRows_5 (by decide +kernel) ?_
  refine lv_istore_n (lv' := [(1, .int 1), (0, .ref h0)]) hx hb dX12_layRows_6 rfl hl (by decide) rfl (fun ls hl => ?_)
  refine lv_iconst (v := 0) hx hb dX12_layRows_7 (by decide +kernel) ?_
  refine lv_istore_n (lv' := [(2, .int 0), (1, .int 1), (0, .ref h0)]) hx hb dX12_layRows_8 rfl hl (by decide) rfl (fun ls hl => ?_)
  refine lv_iload_n hx hb dX12_layRows_9 rfl (lv_at hl 0 rfl) ?_
  refine lv_aload_n hx hb dX12_layRows_10 rfl (lv_at hl 2 rfl) ?_
  refine va_get (D := D) (ci := 15) (v := .int 2) (C := RX12) (T := TX12) (N := 66) hx hb hts iw_X12_layRows__X12 hown hE.1 hP 0 rfl rfl 11 (by decide) (hts _ mw_X12_layRows__2) (fun _ h9 => h9) rfl dX12_layRows_11 ?_
  refine lv_icmp_ge (tgt := 30) hx hb dX12_layRows_14 (by decide) (fun c9 => absurd c9 (by decide +kernel)) (fun _ => ?_)
  refine lv_iload_n hx hb dX12_layRows_17 rfl (lv_at hl 1 rfl) ?_
  refine lv_aload_n hx hb dX12_layRows_18 rfl (lv_at hl 2 rfl) ?_
  refine va_get (D := D) (ci := 15) (v := .int 2) (C := RX12) (T := TX12) (N := 66) hx hb hts iw_X12_layRows__X12 hown hE.1 hP 0 rfl rfl 11 (by decide) (hts _ mw_X12_layRows__2) (fun _ h9 => h9) rfl dX12_layRows_19 ?_
  refine jw_imul (v := 2) hx hb dX12_layRows_22 (by decide +kernel) ?_
  refine lv_istore_n (lv' := [(1, .int 2), (2, .int 0), (0, .ref h0)]) hx hb dX12_layRows_23 rfl hl (by decide) rfl (fun ls hl => ?_)
  refine lv_iinc (v := 1) (lv' := [(2, .int 1), (1, .int 2), (0, .ref h0)]) hx hb dX12_layRows_24 hl (k := 1) rfl (by decide +kernel) (by decide) rfl (fun ls hl => ?_)
  refine lv_goto (tgt := 9) hx hb dX12_layRows_27 (by decide) ?_
  refine lv_iload_n hx hb dX12_layRows_9 rfl (lv_at hl 0 rfl) ?_
  refine lv_aload_n hx hb dX12_layRows_10 rfl (lv_at hl 2 rfl) ?_
  refine va_get (D := D) (ci := 15) (v := .int 2) (C := RX12) (T := TX12) (N := 66) hx hb hts iw_X12_layRows__X12 hown hE.1 hP 0 rfl rfl 11 (by decide) (hts _ mw_X12_layRows__2) (fun _ h9 => h9) rfl dX12_layRows_11 ?_
  refine lv_icmp_ge (tgt := 30) hx hb dX12_layRows_14 (by decide) (fun c9 => absurd c9 (by decide +kernel)) (fun _ => ?_)
  refine lv_iload_n hx hb dX12_layRows_17 rfl (lv_at hl 1 rfl) ?_
  refine lv_aload_n hx hb dX12_layRows_18 rfl (lv_at hl 2 rfl) ?_
  refine va_get (D := D) (ci := 15) (v := .int 2) (C := RX12) (T := TX12) (N := 66) hx hb hts iw_X12_layRows__X12 hown hE.1 hP 0 rfl rfl 11 (by decide) (hts _ mw_X12_layRows__2) (fun _ h9 => h9) rfl dX12_layRows_19 ?_
  refine jw_imul (v := 4) hx hb dX12_layRows_22 (by decide +kernel) ?_
  refine lv_istore_n (lv' := [(1, .int 4), (2, .int 1), (0, .ref h0)]) hx hb dX12_layRows_23 rfl hl (by decide) rfl (fun ls hl => ?_)
  refine lv_iinc (v := 2) (lv' := [(2, .int 2), (1, .int 4), (0, .ref h0)]) hx hb dX12_layRows_24 hl (k := 1) rfl (by decide +kernel) (by decide) rfl (fun ls hl => ?_)
  refine lv_goto (tgt := 9) hx hb dX12_layRows_27 (by decide) ?_
  refine lv_iload_n hx hb dX12_layRows_9 rfl (lv_at hl 0 rfl) ?_
  refine lv_aload_n hx hb dX12_layRows_10 rfl (lv_at hl 2 rfl) ?_
  refine va_get (D := D) (ci := 15) (v := .int 2) (C := RX12) (T := TX12) (N := 66) hx hb hts iw_X12_layRows__X12 hown hE.1 hP 0 rfl rfl 11 (by decide) (hts _ mw_X12_layRows__2) (fun _ h9 => h9) rfl dX12_layRows_11 ?_
  refine lv_icmp_ge (tgt := 30) hx hb dX12_layRows_14 (by decide) (fun _ => ?_) (fun c9 => absurd (by decide +kernel) c9)
  refine lv_iconst (v := 0) hx hb dX12_layRows_30 (by decide +kernel) ?_
  refine lv_istore_n (lv' := [(2, .int 0), (1, .int 4), (0, .ref h0)]) hx hb dX12_layRows_31 rfl hl (by decide) rfl (fun ls hl => ?_)
  refine lv_iload_n hx hb dX12_layRows_32 rfl (lv_at hl 0 rfl) ?_
  refine lv_iload_n hx hb dX12_layRows_33 rfl (lv_at hl 1 rfl) ?_
  refine lv_icmp_ge (tgt := 131) hx hb dX12_layRows_34 (by decide) (fun c9 => absurd c9 (by decide +kernel)) (fun _ => ?_)
  refine lv_iconst (v := 0) hx hb dX12_layRows_37 (by decide +kernel) ?_
  refine lv_istore_n (lv' := [(3, .int 0), (2, .int 0), (1, .int 4), (0, .ref h0)]) hx hb dX12_layRows_38 rfl hl (by decide) rfl (fun ls hl => ?_)
  refine lv_iload_n hx hb dX12_layRows_39 rfl (lv_at hl 1 rfl) ?_
  refine lv_istore (lv' := [(4, .int 0), (3, .int 0), (2, .int 0), (1, .int 4), (0, .ref h0)]) hx hb dX12_layRows_40 hl (by decide) rfl (fun ls hl => ?_)
  refine lv_aload_n hx hb dX12_layRows_42 rfl (lv_at hl 4 rfl) ?_
  refine va_get (D := D) (ci := 15) (v := .int 2) (C := RX12) (T := TX12) (N := 66) hx hb hts iw_X12_layRows__X12 hown hE.1 hP 0 rfl rfl 11 (by decide) (hts _ mw_X12_layRows__2) (fun _ h9 => h9) rfl dX12_layRows_43 ?_
  refine lv_iconst (v := 1) hx hb dX12_layRows_46 (by decide +kernel) ?_
  refine jw_isub (v := 1) hx hb dX12_layRows_47 (by decide +kernel) ?_
  refine lv_istore (lv' := [(5, .int 1), (4, .int 0), (3, .int 0), (2, .int 0), (1, .int 4), (0, .ref h0)]) hx hb dX12_layRows_48 hl (by decide) rfl (fun ls hl => ?_)
  refine lv_iload hx hb dX12_layRows_50 (lv_at hl 0 rfl) ?_
  refine lv_if_lt (tgt := 103) hx hb dX12_layRows_52 (by decide) (fun c9 => absurd c9 (by decide +kernel)) (fun _ => ?_)
  refine lv_aload_n hx hb dX12_layRows_55 rfl (lv_at hl 5 rfl) ?_
  refine va_get (D := D) (ci := 15) (v := .ref h1) (C := RX12) (T := TX12) (N := 66) hx hb hts iw_X12_layRows__X12 hown hE.1 hP 0 rfl rfl 29 (by decide) (hts _ mw_X12_layRows__3) (fun _ h9 => h9) rfl dX12_layRows_56 ?_
  refine lv_iconst (v := 4) hx hb dX12_layRows_59 (by decide +kernel) ?_
  refine lv_aload_n hx hb dX12_layRows_60 rfl (lv_at hl 5 rfl) ?_
  refine va_get (D := D) (ci := 15) (v := .int 0) (C := RX12) (T := TX12) (N := 66) hx hb hts iw_X12_layRows__X12 hown hE.1 hP 0 rfl rfl 28 (by decide) (hts _ mw_X12_layRows__1) (fun _ h9 => h9) rfl dX12_layRows_61 ?_
  refine jw_imul (v := 0) hx hb dX12_layRows_64 (by decide +kernel) ?_
  refine lv_iload hx hb dX12_layRows_65 (lv_at hl 0 rfl) ?_
  refine jw_iadd (v := 1) hx hb dX12_layRows_67 (by decide +kernel) ?_
  refine lv_iload hx hb dX12_layRows_68 (lv_at hl 1 rfl) ?_
  refine lv_aload_n hx hb dX12_layRows_70 rfl (lv_at hl 5 rfl) ?_
  refine va_get (D := D) (ci := 15) (v := .int 2) (C := RX12) (T := TX12) (N := 66) hx hb hts iw_X12_layRows__X12 hown hE.1 hP 0 rfl rfl 11 (by decide) (hts _ mw_X12_layRows__2) (fun _ h9 => h9) rfl dX12_layRows_71 ?_
  refine jw_irem (v := 0) hx hb dX12_layRows_74 (by decide +kernel) (by decide +kernel) ?_
  refine jw_iast (ws' := [(h0, .inr (15, [.ref h2, .int 0, .int 0, .ref h3, .int 0, .int (-1), .int 0, .int 0, .int 0, .int 0, .int 0, .int 2, .int 0, .int 0, .int 0, .ref h4, .ref h5, .ref h6, .ref h7, .int 2, .int 0, .int 0, .int 0, .int 0, .ref h8, .ref h9, .ref h10, .ref h11, .int 0, .ref h1, .int 0, .ref h12, .ref h13, .int 0, .ref h14, .ref h15, .ref h16, .int 0, .ref h17, .ref h18, .ref h19, .ref h20, .ref h21, .ref h22, .ref h23, .ref h24, .ref h25, .int 0, .ref h26, .ref h27, .ref h28, .int (-1), .ref h29, .long 0, .long 0, .int 0, .int 0, .long 0, .long 0, .ref h30, .ref h31, .ref h32, .ref h33, .ref h34, .ref h35, .long 0])), (h1, .inl (Y 1, 100, .inl (jw_l 0 [0, 0])))]) hx hb hE hP hD hS 1 1 [0, 0] rfl (by decide +kernel) (by decide +kernel) rfl dX12_layRows_75 (fun H locs hP hD hS => ?_)
  refine lv_iload_n hx hb dX12_layRows_76 rfl (lv_at hl 2 rfl) ?_
  refine lv_iconst (v := 1) hx hb dX12_layRows_77 (by decide +kernel) ?_
  refine lv_iload hx hb dX12_layRows_78 (lv_at hl 1 rfl) ?_
  refine lv_aload_n hx hb dX12_layRows_80 rfl (lv_at hl 5 rfl) ?_
  refine va_get (D := D) (ci := 15) (v := .int 2) (C := RX12) (T := TX12) (N := 66) hx hb hts iw_X12_layRows__X12 hown hE.1 hP 0 rfl rfl 11 (by decide) (hts _ mw_X12_layRows__2) (fun _ h9 => h9) rfl dX12_layRows_81 ?_
  refine jw_irem (v := 0) hx hb dX12_layRows_84 (by decide +kernel) (by decide +kernel) ?_
  refine jw_ishl (v := 1) hx hb dX12_layRows_85 (by decide +kernel) ?_
  refine jw_ior (v := 1) hx hb dX12_layRows_86 (by decide +kernel) ?_
  refine lv_istore_n (lv' := [(3, .int 1), (5, .int 1), (4, .int 0), (2, .int 0), (1, .int 4), (0, .ref h0)]) hx hb dX12_layRows_87 rfl hl (by decide) rfl (fun ls hl => ?_)
  refine lv_iload hx hb dX12_layRows_88 (lv_at hl 2 rfl) ?_
  refine lv_aload_n hx hb dX12_layRows_90 rfl (lv_at hl 5 rfl) ?_
  refine va_get (D := D) (ci := 15) (v := .int 2) (C := RX12) (T := TX12) (N := 66) hx hb hts iw_X12_layRows__X12 hown hE.1 hP 0 rfl rfl 11 (by decide) (hts _ mw_X12_layRows__2) (fun _ h9 => h9) rfl dX12_layRows_91 ?_
  refine jw_idiv (v := 0) hx hb dX12_layRows_94 (by decide +kernel) (by decide +kernel) ?_
  refine lv_istore (lv' := [(4, .int 0), (3, .int 1), (5, .int 1), (2, .int 0), (1, .int 4), (0, .ref h0)]) hx hb dX12_layRows_95 hl (by decide) rfl (fun ls hl => ?_)
  refine lv_iinc (v := 0) (lv' := [(5, .int 0), (4, .int 0), (3, .int 1), (2, .int 0), (1, .int 4), (0, .ref h0)]) hx hb dX12_layRows_97 hl (k := 2) rfl (by decide +kernel) (by decide) rfl (fun ls hl => ?_)
  refine lv_goto (tgt := 50) hx hb dX12_layRows_100 (by decide) ?_
  refine lv_iload hx hb dX12_layRows_50 (lv_at hl 0 rfl) ?_
  refine lv_if_lt (tgt := 103) hx hb dX12_layRows_52 (by decide) (fun c9 => absurd c9 (by decide +kernel)) (fun _ => ?_)
  refine lv_aload_n hx hb dX12_layRows_55 rfl (lv_at hl 5 rfl) ?_
  refine va_get (D := D) (ci := 15) (v := .ref h1) (C := RX12) (T := TX12) (N := 66) hx hb hts iw_X12_layRows__X12 hown hE.1 hP 0 rfl rfl 29 (by decide) (hts _ mw_X12_layRows__3) (fun _ h9 => h9) rfl dX12_layRows_56 ?_
  refine lv_iconst (v := 4) hx hb dX12_layRows_59 (by decide +kernel) ?_
  refine lv_aload_n hx hb dX12_layRows_60 rfl (lv_at hl 5 rfl) ?_
  refine va_get (D := D) (ci := 15) (v := .int 0) (C := RX12) (T := TX12) (N := 66) hx hb hts iw_X12_layRows__X12 hown hE.1 hP 0 rfl rfl 28 (by decide) (hts _ mw_X12_layRows__1) (fun _ h9 => h9) rfl dX12_layRows_61 ?_
  refine jw_imul (v := 0) hx hb dX12_layRows_64 (by decide +kernel) ?_
  refine lv_iload hx hb dX12_layRows_65 (lv_at hl 0 rfl) ?_
  refine jw_iadd (v := 0) hx hb dX12_layRows_67 (by decide +kernel) ?_
  refine lv_iload hx hb dX12_layRows_68 (lv_at hl 1 rfl) ?_
  refine lv_aload_n hx hb dX12_layRows_70 rfl (lv_at hl 5 rfl) ?_
  refine va_get (D := D) (ci := 15) (v := .int 2) (C := RX12) (T := TX12) (N := 66) hx hb hts iw_X12_layRows__X12 hown hE.1 hP 0 rfl rfl 11 (by decide) (hts _ mw_X12_layRows__2) (fun _ h9 => h9) rfl dX12_layRows_71 ?_
  refine jw_irem (v := 0) hx hb dX12_layRows_74 (by decide +kernel) (by decide +kernel) ?_
  refine jw_iast (ws' := [(h0, .inr (15, [.ref h2, .int 0, .int 0, .ref h3, .int 0, .int (-1), .int 0, .int 0, .int 0, .int 0, .int 0, .int 2, .int 0, .int 0, .int 0, .ref h4, .ref h5, .ref h6, .ref h7, .int 2, .int 0, .int 0, .int 0, .int 0, .ref h8, .ref h9, .ref h10, .ref h11, .int 0, .ref h1, .int 0, .ref h12, .ref h13, .int 0, .ref h14, .ref h15, .ref h16, .int 0, .ref h17, .ref h18, .ref h19, .ref h20, .ref h21, .ref h22, .ref h23, .ref h24, .ref h25, .int 0, .ref h26, .ref h27, .ref h28, .int (-1), .ref h29, .long 0, .long 0, .int 0, .int 0, .long 0, .long 0, .ref h30, .ref h31, .ref h32, .ref h33, .ref h34, .ref h35, .long 0])), (h1, .inl (Y 1, 100, .inl (jw_l 0 [0, 0])))]) hx hb hE hP hD hS 1 0 [0, 0] rfl (by decide +kernel) (by decide +kernel) rfl dX12_layRows_75 (fun H locs hP hD hS => ?_)
  refine lv_iload_n hx hb dX12_layRows_76 rfl (lv_at hl 2 rfl) ?_
  refine lv_iconst (v := 1) hx hb dX12_layRows_77 (by decide +kernel) ?_
  refine lv_iload hx hb dX12_layRows_78 (lv_at hl 1 rfl) ?_
  refine lv_aload_n hx hb dX12_layRows_80 rfl (lv_at hl 5 rfl) ?_
  refine va_get (D := D) (ci := 15) (v := .int 2) (C := RX12) (T := TX12) (N := 66) hx hb hts iw_X12_layRows__X12 hown hE.1 hP 0 rfl rfl 11 (by decide) (hts _ mw_X12_layRows__2) (fun _ h9 => h9) rfl dX12_layRows_81 ?_
  refine jw_irem (v := 0) hx hb dX12_layRows_84 (by decide +kernel) (by decide +kernel) ?_
  refine jw_ishl (v := 1) hx hb dX12_layRows_85 (by decide +kernel) ?_
  refine jw_ior (v := 1) hx hb dX12_layRows_86 (by decide +kernel) ?_
  refine lv_istore_n (lv' := [(3, .int 1), (5, .int 0), (4, .int 0), (2, .int 0), (1, .int 4), (0, .ref h0)]) hx hb dX12_layRows_87 rfl hl (by decide) rfl (fun ls hl => ?_)
  refine lv_iload hx hb dX12_layRows_88 (lv_at hl 2 rfl) ?_
  refine lv_aload_n hx hb dX12_layRows_90 rfl (lv_at hl 5 rfl) ?_
  refine va_get (D := D) (ci := 15) (v := .int 2) (C := RX12) (T := TX12) (N := 66) hx hb hts iw_X12_layRows__X12 hown hE.1 hP 0 rfl rfl 11 (by decide) (hts _ mw_X12_layRows__2) (fun _ h9 => h9) rfl dX12_layRows_91 ?_
  refine jw_idiv (v := 0) hx hb dX12_layRows_94 (by decide +kernel) (by decide +kernel) ?_
  refine lv_istore (lv' := [(4, .int 0), (3, .int 1), (5, .int 0), (2, .int 0), (1, .int 4), (0, .ref h0)]) hx hb dX12_layRows_95 hl (by decide) rfl (fun ls hl => ?_)
  refine lv_iinc (v := (-1)) (lv' := [(5, .int (-1)), (4, .int 0), (3, .int 1), (2, .int 0), (1, .int 4), (0, .ref h0)]) hx hb dX12_layRows_97 hl (k := 2) rfl (by decide +kernel) (by decide) rfl (fun ls hl => ?_)
  refine lv_goto (tgt := 50) hx hb dX12_layRows_100 (by decide) ?_
  refine lv_iload hx hb dX12_layRows_50 (lv_at hl 0 rfl) ?_
  refine lv_if_lt (tgt := 103) hx hb dX12_layRows_52 (by decide) (fun _ => ?_) (fun c9 => absurd (by decide +kernel) c9)
  refine lv_iload_n hx hb dX12_layRows_103 rfl (lv_at hl 2 rfl) ?_
  refine lv_iconst (v := 1) hx hb dX12_layRows_104 (by decide +kernel) ?_
  refine lv_aload_n hx hb dX12_layRows_105 rfl (lv_at hl 5 rfl) ?_
  refine va_get (D := D) (ci := 15) (v := .int 2) (C := RX12) (T := TX12) (N := 66) hx hb hts iw_X12_layRows__X12 hown hE.1 hP 0 rfl rfl 11 (by decide) (hts _ mw_X12_layRows__2) (fun _ h9 => h9) rfl dX12_layRows_106 ?_
  refine jw_ishl (v := 4) hx hb dX12_layRows_109 (by decide +kernel) ?_
  refine lv_iconst (v := 1) hx hb dX12_layRows_110 (by decide +kernel) ?_
  refine jw_isub (v := 3) hx hb dX12_layRows_111 (by decide +kernel) ?_
  refine lv_icmp_ne (tgt := 125) hx hb dX12_layRows_112 (by decide) (fun _ => ?_) (fun c9 => absurd c9 (by decide +kernel))
  refine lv_iinc (v := 1) (lv' := [(2, .int 1), (5, .int (-1)), (4, .int 0), (3, .int 1), (1, .int 4), (0, .ref h0)]) hx hb dX12_layRows_125 hl (k := 3) rfl (by decide +kernel) (by decide) rfl (fun ls hl => ?_)
  refine lv_goto (tgt := 32) hx hb dX12_layRows_128 (by decide) ?_
  refine lv_iload_n hx hb dX12_layRows_32 rfl (lv_at hl 0 rfl) ?_
  refine lv_iload_n hx hb dX12_layRows_33 rfl (lv_at hl 4 rfl) ?_
  refine lv_icmp_ge (tgt := 131) hx hb dX12_layRows_34 (by decide) (fun c9 => absurd c9 (by decide +kernel)) (fun _ => ?_)
  refine lv_iconst (v := 0) hx hb dX12_layRows_37 (by decide +kernel) ?_
  refine lv_istore_n (lv' := [(3, .int 0), (2, .int 1), (5, .int (-1)), (4, .int 0), (1, .int 4), (0, .ref h0)]) hx hb dX12_layRows_38 rfl hl (by decide) rfl (fun ls hl => ?_)
  refine lv_iload_n hx hb dX12_layRows_39 rfl (lv_at hl 1 rfl) ?_
  refine lv_istore (lv' := [(4, .int 1), (3, .int 0), (2, .int 1), (5, .int (-1)), (1, .int 4), (0, .ref h0)]) hx hb dX12_layRows_40 hl (by decide) rfl (fun ls hl => ?_)
  refine lv_aload_n hx hb dX12_layRows_42 rfl (lv_at hl 5 rfl) ?_
  refine va_get (D := D) (ci := 15) (v := .int 2) (C := RX12) (T := TX12) (N := 66) hx hb hts iw_X12_layRows__X12 hown hE.1 hP 0 rfl rfl 11 (by decide) (hts _ mw_X12_layRows__2) (fun _ h9 => h9) rfl dX12_layRows_43 ?_
  refine lv_iconst (v := 1) hx hb dX12_layRows_46 (by decide +kernel) ?_
  refine jw_isub (v := 1) hx hb dX12_layRows_47 (by decide +kernel) ?_
  refine lv_istore (lv' := [(5, .int 1), (4, .int 1), (3, .int 0), (2, .int 1), (1, .int 4), (0, .ref h0)]) hx hb dX12_layRows_48 hl (by decide) rfl (fun ls hl => ?_)
  refine lv_iload hx hb dX12_layRows_50 (lv_at hl 0 rfl) ?_
  refine lv_if_lt (tgt := 103) hx hb dX12_layRows_52 (by decide) (fun c9 => absurd c9 (by decide +kernel)) (fun _ => ?_)
  refine lv_aload_n hx hb dX12_layRows_55 rfl (lv_at hl 5 rfl) ?_
  refine va_get (D := D) (ci := 15) (v := .ref h1) (C := RX12) (T := TX12) (N := 66) hx hb hts iw_X12_layRows__X12 hown hE.1 hP 0 rfl rfl 29 (by decide) (hts _ mw_X12_layRows__3) (fun _ h9 => h9) rfl dX12_layRows_56 ?_
  refine lv_iconst (v := 4) hx hb dX12_layRows_59 (by decide +kernel) ?_
  refine lv_aload_n hx hb dX12_layRows_60 rfl (lv_at hl 5 rfl) ?_
  refine va_get (D := D) (ci := 15) (v := .int 0) (C := RX12) (T := TX12) (N := 66) hx hb hts iw_X12_layRows__X12 hown hE.1 hP 0 rfl rfl 28 (by decide) (hts _ mw_X12_layRows__1) (fun _ h9 => h9) rfl dX12_layRows_61 ?_
  refine jw_imul (v := 0) hx hb dX12_layRows_64 (by decide +kernel) ?_
  refine lv_iload hx hb dX12_layRows_65 (lv_at hl 0 rfl) ?_
  refine jw_iadd (v := 1) hx hb dX12_layRows_67 (by decide +kernel) ?_
  refine lv_iload hx hb dX12_layRows_68 (lv_at hl 1 rfl) ?_
  refine lv_aload_n hx hb dX12_layRows_70 rfl (lv_at hl 5 rfl) ?_
  refine va_get (D := D) (ci := 15) (v := .int 2) (C := RX12) (T := TX12) (N := 66) hx hb hts iw_X12_layRows__X12 hown hE.1 hP 0 rfl rfl 11 (by decide) (hts _ mw_X12_layRows__2) (fun _ h9 => h9) rfl dX12_layRows_71 ?_
  refine jw_irem (v := 1) hx hb dX12_layRows_74 (by decide +kernel) (by decide +kernel) ?_
  refine jw_iast (ws' := [(h0, .inr (15, [.ref h2, .int 0, .int 0, .ref h3, .int 0, .int (-1), .int 0, .int 0, .int 0, .int 0, .int 0, .int 2, .int 0, .int 0, .int 0, .ref h4, .ref h5, .ref h6, .ref h7, .int 2, .int 0, .int 0, .int 0, .int 0, .ref h8, .ref h9, .ref h10, .ref h11, .int 0, .ref h1, .int 0, .ref h12, .ref h13, .int 0, .ref h14, .ref h15, .ref h16, .int 0, .ref h17, .ref h18, .ref h19, .ref h20, .ref h21, .ref h22, .ref h23, .ref h24, .ref h25, .int 0, .ref h26, .ref h27, .ref h28, .int (-1), .ref h29, .long 0, .long 0, .int 0, .int 0, .long 0, .long 0, .ref h30, .ref h31, .ref h32, .ref h33, .ref h34, .ref h35, .long 0])), (h1, .inl (Y 1, 100, .inl (jw_l 0 [0, 1])))]) hx hb hE hP hD hS 1 1 [0, 1] rfl (by decide +kernel) (by decide +kernel) rfl dX12_layRows_75 (fun H locs hP hD hS => ?_)
  refine lv_iload_n hx hb dX12_layRows_76 rfl (lv_at hl 2 rfl) ?_
  refine lv_iconst (v := 1) hx hb dX12_layRows_77 (by decide +kernel) ?_
  refine lv_iload hx hb dX12_layRows_78 (lv_at hl 1 rfl) ?_
  refine lv_aload_n hx hb dX12_layRows_80 rfl (lv_at hl 5 rfl) ?_
  refine va_get (D := D) (ci := 15) (v := .int 2) (C := RX12) (T := TX12) (N := 66) hx hb hts iw_X12_layRows__X12 hown hE.1 hP 0 rfl rfl 11 (by decide) (hts _ mw_X12_layRows__2) (fun _ h9 => h9) rfl dX12_layRows_81 ?_
  refine jw_irem (v := 1) hx hb dX12_layRows_84 (by decide +kernel) (by decide +kernel) ?_
  refine jw_ishl (v := 2) hx hb dX12_layRows_85 (by decide +kernel) ?_
  refine jw_ior (v := 2) hx hb dX12_layRows_86 (by decide +kernel) ?_
  refine lv_istore_n (lv' := [(3, .int 2), (5, .int 1), (4, .int 1), (2, .int 1), (1, .int 4), (0, .ref h0)]) hx hb dX12_layRows_87 rfl hl (by decide) rfl (fun ls hl => ?_)
  refine lv_iload hx hb dX12_layRows_88 (lv_at hl 2 rfl) ?_
  refine lv_aload_n hx hb dX12_layRows_90 rfl (lv_at hl 5 rfl) ?_
  refine va_get (D := D) (ci := 15) (v := .int 2) (C := RX12) (T := TX12) (N := 66) hx hb hts iw_X12_layRows__X12 hown hE.1 hP 0 rfl rfl 11 (by decide) (hts _ mw_X12_layRows__2) (fun _ h9 => h9) rfl dX12_layRows_91 ?_
  refine jw_idiv (v := 0) hx hb dX12_layRows_94 (by decide +kernel) (by decide +kernel) ?_
  refine lv_istore (lv' := [(4, .int 0), (3, .int 2), (5, .int 1), (2, .int 1), (1, .int 4), (0, .ref h0)]) hx hb dX12_layRows_95 hl (by decide) rfl (fun ls hl => ?_)
  refine lv_iinc (v := 0) (lv' := [(5, .int 0), (4, .int 0), (3, .int 2), (2, .int 1), (1, .int 4), (0, .ref h0)]) hx hb dX12_layRows_97 hl (k := 2) rfl (by decide +kernel) (by decide) rfl (fun ls hl => ?_)
  refine lv_goto (tgt := 50) hx hb dX12_layRows_100 (by decide) ?_
  refine lv_iload hx hb dX12_layRows_50 (lv_at hl 0 rfl) ?_
  refine lv_if_lt (tgt := 103) hx hb dX12_layRows_52 (by decide) (fun c9 => absurd c9 (by decide +kernel)) (fun _ => ?_)
  refine lv_aload_n hx hb dX12_layRows_55 rfl (lv_at hl 5 rfl) ?_
  refine va_get (D := D) (ci := 15) (v := .ref h1) (C := RX12) (T := TX12) (N := 66) hx hb hts iw_X12_layRows__X12 hown hE.1 hP 0 rfl rfl 29 (by decide) (hts _ mw_X12_layRows__3) (fun _ h9 => h9) rfl dX12_layRows_56 ?_
  refine lv_iconst (v := 4) hx hb dX12_layRows_59 (by decide +kernel) ?_
  refine lv_aload_n hx hb dX12_layRows_60 rfl (lv_at hl 5 rfl) ?_
  refine va_get (D := D) (ci := 15) (v := .int 0) (C := RX12) (T := TX12) (N := 66) hx hb hts iw_X12_layRows__X12 hown hE.1 hP 0 rfl rfl 28 (by decide) (hts _ mw_X12_layRows__1) (fun _ h9 => h9) rfl dX12_layRows_61 ?_
  refine jw_imul (v := 0) hx hb dX12_layRows_64 (by decide +kernel) ?_
  refine lv_iload hx hb dX12_layRows_65 (lv_at hl 0 rfl) ?_
  refine jw_iadd (v := 0) hx hb dX12_layRows_67 (by decide +kernel) ?_
  refine lv_iload hx hb dX12_layRows_68 (lv_at hl 1 rfl) ?_
  refine lv_aload_n hx hb dX12_layRows_70 rfl (lv_at hl 5 rfl) ?_
  refine va_get (D := D) (ci := 15) (v := .int 2) (C := RX12) (T := TX12) (N := 66) hx hb hts iw_X12_layRows__X12 hown hE.1 hP 0 rfl rfl 11 (by decide) (hts _ mw_X12_layRows__2) (fun _ h9 => h9) rfl dX12_layRows_71 ?_
  refine jw_irem (v := 0) hx hb dX12_layRows_74 (by decide +kernel) (by decide +kernel) ?_
  refine jw_iast (ws' := [(h0, .inr (15, [.ref h2, .int 0, .int 0, .ref h3, .int 0, .int (-1), .int 0, .int 0, .int 0, .int 0, .int 0, .int 2, .int 0, .int 0, .int 0, .ref h4, .ref h5, .ref h6, .ref h7, .int 2, .int 0, .int 0, .int 0, .int 0, .ref h8, .ref h9, .ref h10, .ref h11, .int 0, .ref h1, .int 0, .ref h12, .ref h13, .int 0, .ref h14, .ref h15, .ref h16, .int 0, .ref h17, .ref h18, .ref h19, .ref h20, .ref h21, .ref h22, .ref h23, .ref h24, .ref h25, .int 0, .ref h26, .ref h27, .ref h28, .int (-1), .ref h29, .long 0, .long 0, .int 0, .int 0, .long 0, .long 0, .ref h30, .ref h31, .ref h32, .ref h33, .ref h34, .ref h35, .long 0])), (h1, .inl (Y 1, 100, .inl (jw_l 0 [0, 1])))]) hx hb hE hP hD hS 1 0 [0, 1] rfl (by decide +kernel) (by decide +kernel) rfl dX12_layRows_75 (fun H locs hP hD hS => ?_)
  refine lv_iload_n hx hb dX12_layRows_76 rfl (lv_at hl 2 rfl) ?_
  refine lv_iconst (v := 1) hx hb dX12_layRows_77 (by decide +kernel) ?_
  refine lv_iload hx hb dX12_layRows_78 (lv_at hl 1 rfl) ?_
  refine lv_aload_n hx hb dX12_layRows_80 rfl (lv_at hl 5 rfl) ?_
  refine va_get (D := D) (ci := 15) (v := .int 2) (C := RX12) (T := TX12) (N := 66) hx hb hts iw_X12_layRows__X12 hown hE.1 hP 0 rfl rfl 11 (by decide) (hts _ mw_X12_layRows__2) (fun _ h9 => h9) rfl dX12_layRows_81 ?_
  refine jw_irem (v := 0) hx hb dX12_layRows_84 (by decide +kernel) (by decide +kernel) ?_
  refine jw_ishl (v := 1) hx hb dX12_layRows_85 (by decide +kernel) ?_
  refine jw_ior (v := 3) hx hb dX12_layRows_86 (by decide +kernel) ?_
  refine lv_istore_n (lv' := [(3, .int 3), (5, .int 0), (4, .int 0), (2, .int 1), (1, .int 4), (0, .ref h0)]) hx hb dX12_layRows_87 rfl hl (by decide) rfl (fun ls hl => ?_)
  refine lv_iload hx hb dX12_layRows_88 (lv_at hl 2 rfl) ?_
  refine lv_aload_n hx hb dX12_layRows_90 rfl (lv_at hl 5 rfl) ?_
  refine va_get (D := D) (ci := 15) (v := .int 2) (C := RX12) (T := TX12) (N := 66) hx hb hts iw_X12_layRows__X12 hown hE.1 hP 0 rfl rfl 11 (by decide) (hts _ mw_X12_layRows__2) (fun _ h9 => h9) rfl dX12_layRows_91 ?_
  refine jw_idiv (v := 0) hx hb dX12_layRows_94 (by decide +kernel) (by decide +kernel) ?_
  refine lv_istore (lv' := [(4, .int 0), (3, .int 3), (5, .int 0), (2, .int 1), (1, .int 4), (0, .ref h0)]) hx hb dX12_layRows_95 hl (by decide) rfl (fun ls hl => ?_)
  refine lv_iinc (v := (-1)) (lv' := [(5, .int (-1)), (4, .int 0), (3, .int 3), (2, .int 1), (1, .int 4), (0, .ref h0)]) hx hb dX12_layRows_97 hl (k := 2) rfl (by decide +kernel) (by decide) rfl (fun ls hl => ?_)
  refine lv_goto (tgt := 50) hx hb dX12_layRows_100 (by decide) ?_
  refine lv_iload hx hb dX12_layRows_50 (lv_at hl 0 rfl) ?_
  refine lv_if_lt (tgt := 103) hx hb dX12_layRows_52 (by decide) (fun _ => ?_) (fun c9 => absurd (by decide +kernel) c9)
  refine lv_iload_n hx hb dX12_layRows_103 rfl (lv_at hl 2 rfl) ?_
  refine lv_iconst (v := 1) hx hb dX12_layRows_104 (by decide +kernel) ?_
  refine lv_aload_n hx hb dX12_layRows_105 rfl (lv_at hl 5 rfl) ?_
  refine va_get (D := D) (ci := 15) (v := .int 2) (C := RX12) (T := TX12) (N := 66) hx hb hts iw_X12_layRows__X12 hown hE.1 hP 0 rfl rfl 11 (by decide) (hts _ mw_X12_layRows__2) (fun _ h9 => h9) rfl dX12_layRows_106 ?_
  refine jw_ishl (v := 4) hx hb dX12_layRows_109 (by decide +kernel) ?_
  refine lv_iconst (v := 1) hx hb dX12_layRows_110 (by decide +kernel) ?_
  refine jw_isub (v := 3) hx hb dX12_layRows_111 (by decide +kernel) ?_
  refine lv_icmp_ne (tgt := 125) hx hb dX12_layRows_112 (by decide) (fun c9 => absurd (by decide +kernel) c9) (fun _ => ?_)
  refine lv_aload_n hx hb dX12_layRows_115 rfl (lv_at hl 5 rfl) ?_
  refine lv_dup hx hb dX12_layRows_116 rfl ?_
  refine va_get (D := D) (ci := 15) (v := .int 0) (C := RX12) (T := TX12) (N := 66) hx hb hts iw_X12_layRows__X12 hown hE.1 hP 0 rfl rfl 28 (by decide) (hts _ mw_X12_layRows__1) (fun _ h9 => h9) rfl dX12_layRows_117 ?_
  refine lv_iconst (v := 1) hx hb dX12_layRows_120 (by decide +kernel) ?_
  refine jw_iadd (v := 1) hx hb dX12_layRows_121 (by decide +kernel) ?_
  refine va_put (D := D) (ci := 15) (v := .int 1) (C := RX12) (T := TX12) (N := 66) hx hb hts iw_X12_layRows__X12 tyX12 tyX12_ok nmX12 hown hE.1 hP hD hS 0 rfl rfl 28 (by decide) (hts _ mw_X12_layRows__1) (fun _ h9 => h9) rfl (tyX12_ok 28 (by decide)) rfl rfl (Nat.le_of_ble_eq_true rfl) dX12_layRows_122 (fun H locs hP hD hS => ?_)
  have hP : va_P D vwCl [(h0, .inr (15, [.ref h2, .int 0, .int 0, .ref h3, .int 0, .int (-1), .int 0, .int 0, .int 0, .int 0, .int 0, .int 2, .int 0, .int 0, .int 0, .ref h4, .ref h5, .ref h6, .ref h7, .int 2, .int 0, .int 0, .int 0, .int 0, .ref h8, .ref h9, .ref h10, .ref h11, .int 1, .ref h1, .int 0, .ref h12, .ref h13, .int 0, .ref h14, .ref h15, .ref h16, .int 0, .ref h17, .ref h18, .ref h19, .ref h20, .ref h21, .ref h22, .ref h23, .ref h24, .ref h25, .int 0, .ref h26, .ref h27, .ref h28, .int (-1), .ref h29, .long 0, .long 0, .int 0, .int 0, .long 0, .long 0, .ref h30, .ref h31, .ref h32, .ref h33, .ref h34, .ref h35, .long 0])), (h1, .inl (Y 1, 100, .inl (jw_l 0 [0, 1])))] H := hP
  have hD : va_D A [(h0, .inr (15, [.ref h2, .int 0, .int 0, .ref h3, .int 0, .int (-1), .int 0, .int 0, .int 0, .int 0, .int 0, .int 2, .int 0, .int 0, .int 0, .ref h4, .ref h5, .ref h6, .ref h7, .int 2, .int 0, .int 0, .int 0, .int 0, .ref h8, .ref h9, .ref h10, .ref h11, .int 1, .ref h1, .int 0, .ref h12, .ref h13, .int 0, .ref h14, .ref h15, .ref h16, .int 0, .ref h17, .ref h18, .ref h19, .ref h20, .ref h21, .ref h22, .ref h23, .ref h24, .ref h25, .int 0, .ref h26, .ref h27, .ref h28, .int (-1), .ref h29, .long 0, .long 0, .int 0, .int 0, .long 0, .long 0, .ref h30, .ref h31, .ref h32, .ref h33, .ref h34, .ref h35, .long 0])), (h1, .inl (Y 1, 100, .inl (jw_l 0 [0, 1])))] := hD
  refine lv_iinc (v := 2) (lv' := [(2, .int 2), (5, .int (-1)), (4, .int 0), (3, .int 3), (1, .int 4), (0, .ref h0)]) hx hb dX12_layRows_125 hl (k := 3) rfl (by decide +kernel) (by decide) rfl (fun ls hl => ?_)
  refine lv_goto (tgt := 32) hx hb dX12_layRows_128 (by decide) ?_
  refine lv_iload_n hx hb dX12_layRows_32 rfl (lv_at hl 0 rfl) ?_
  refine lv_iload_n hx hb dX12_layRows_33 rfl (lv_at hl 4 rfl) ?_
  refine lv_icmp_ge (tgt := 131) hx hb dX12_layRows_34 (by decide) (fun c9 => absurd c9 (by decide +kernel)) (fun _ => ?_)
  refine lv_iconst (v := 0) hx hb dX12_layRows_37 (by decide +kernel) ?_
  refine lv_istore_n (lv' := [(3, .int 0), (2, .int 2), (5, .int (-1)), (4, .int 0), (1, .int 4), (0, .ref h0)]) hx hb dX12_layRows_38 rfl hl (by decide) rfl (fun ls hl => ?_)
  refine lv_iload_n hx hb dX12_layRows_39 rfl (lv_at hl 1 rfl) ?_
  refine lv_istore (lv' := [(4, .int 2), (3, .int 0), (2, .int 2), (5, .int (-1)), (1, .int 4), (0, .ref h0)]) hx hb dX12_layRows_40 hl (by decide) rfl (fun ls hl => ?_)
  refine lv_aload_n hx hb dX12_layRows_42 rfl (lv_at hl 5 rfl) ?_
  refine va_get (D := D) (ci := 15) (v := .int 2) (C := RX12) (T := TX12) (N := 66) hx hb hts iw_X12_layRows__X12 hown hE.1 hP 0 rfl rfl 11 (by decide) (hts _ mw_X12_layRows__2) (fun _ h9 => h9) rfl dX12_layRows_43 ?_
  refine lv_iconst (v := 1) hx hb dX12_layRows_46 (by decide +kernel) ?_
  refine jw_isub (v := 1) hx hb dX12_layRows_47 (by decide +kernel) ?_
  refine lv_istore (lv' := [(5, .int 1), (4, .int 2), (3, .int 0), (2, .int 2), (1, .int 4), (0, .ref h0)]) hx hb dX12_layRows_48 hl (by decide) rfl (fun ls hl => ?_)
  refine lv_iload hx hb dX12_layRows_50 (lv_at hl 0 rfl) ?_
  refine lv_if_lt (tgt := 103) hx hb dX12_layRows_52 (by decide) (fun c9 => absurd c9 (by decide +kernel)) (fun _ => ?_)
  refine lv_aload_n hx hb dX12_layRows_55 rfl (lv_at hl 5 rfl) ?_
  refine va_get (D := D) (ci := 15) (v := .ref h1) (C := RX12) (T := TX12) (N := 66) hx hb hts iw_X12_layRows__X12 hown hE.1 hP 0 rfl rfl 29 (by decide) (hts _ mw_X12_layRows__3) (fun _ h9 => h9) rfl dX12_layRows_56 ?_
  refine lv_iconst (v := 4) hx hb dX12_layRows_59 (by decide +kernel) ?_
  refine lv_aload_n hx hb dX12_layRows_60 rfl (lv_at hl 5 rfl) ?_
  refine va_get (D := D) (ci := 15) (v := .int 1) (C := RX12) (T := TX12) (N := 66) hx hb hts iw_X12_layRows__X12 hown hE.1 hP 0 rfl rfl 28 (by decide) (hts _ mw_X12_layRows__1) (fun _ h9 => h9) rfl dX12_layRows_61 ?_
  refine jw_imul (v := 4) hx hb dX12_layRows_64 (by decide +kernel) ?_
  refine lv_iload hx hb dX12_layRows_65 (lv_at hl 0 rfl) ?_
  refine jw_iadd (v := 5) hx hb dX12_layRows_67 (by decide +kernel) ?_
  refine lv_iload hx hb dX12_layRows_68 (lv_at hl 1 rfl) ?_
  refine lv_aload_n hx hb dX12_layRows_70 rfl (lv_at hl 5 rfl) ?_
  refine va_get (D := D) (ci := 15) (v := .int 2) (C := RX12) (T := TX12) (N := 66) hx hb hts iw_X12_layRows__X12 hown hE.1 hP 0 rfl rfl 11 (by decide) (hts _ mw_X12_layRows__2) (fun _ h9 => h9) rfl dX12_layRows_71 ?_
  refine jw_irem (v := 0) hx hb dX12_layRows_74 (by decide +kernel) (by decide +kernel) ?_
  refine jw_iast (ws' := [(h0, .inr (15, [.ref h2, .int 0, .int 0, .ref h3, .int 0, .int (-1), .int 0, .int 0, .int 0, .int 0, .int 0, .int 2, .int 0, .int 0, .int 0, .ref h4, .ref h5, .ref h6, .ref h7, .int 2, .int 0, .int 0, .int 0, .int 0, .ref h8, .ref h9, .ref h10, .ref h11, .int 1, .ref h1, .int 0, .ref h12, .ref h13, .int 0, .ref h14, .ref h15, .ref h16, .int 0, .ref h17, .ref h18, .ref h19, .ref h20, .ref h21, .ref h22, .ref h23, .ref h24, .ref h25, .int 0, .ref h26, .ref h27, .ref h28, .int (-1), .ref h29, .long 0, .long 0, .int 0, .int 0, .long 0, .long 0, .ref h30, .ref h31, .ref h32, .ref h33, .ref h34, .ref h35, .long 0])), (h1, .inl (Y 1, 100, .inl (jw_l 0 [0, 1, 0, 0, 0, 0])))]) hx hb hE hP hD hS 1 5 [0, 1, 0, 0, 0, 0] rfl (by decide +kernel) (by decide +kernel) rfl dX12_layRows_75 (fun H locs hP hD hS => ?_)
  refine lv_iload_n hx hb dX12_layRows_76 rfl (lv_at hl 2 rfl) ?_
  refine lv_iconst (v := 1) hx hb dX12_layRows_77 (by decide +kernel) ?_
  refine lv_iload hx hb dX12_layRows_78 (lv_at hl 1 rfl) ?_
  refine lv_aload_n hx hb dX12_layRows_80 rfl (lv_at hl 5 rfl) ?_
  refine va_get (D := D) (ci := 15) (v := .int 2) (C := RX12) (T := TX12) (N := 66) hx hb hts iw_X12_layRows__X12 hown hE.1 hP 0 rfl rfl 11 (by decide) (hts _ mw_X12_layRows__2) (fun _ h9 => h9) rfl dX12_layRows_81 ?_
  refine jw_irem (v := 0) hx hb dX12_layRows_84 (by decide +kernel) (by decide +kernel) ?_
  refine jw_ishl (v := 1) hx hb dX12_layRows_85 (by decide +kernel) ?_
  refine jw_ior (v := 1) hx hb dX12_layRows_86 (by decide +kernel) ?_
  refine lv_istore_n (lv' := [(3, .int 1), (5, .int 1), (4, .int 2), (2, .int 2), (1, .int 4), (0, .ref h0)]) hx hb dX12_layRows_87 rfl hl (by decide) rfl (fun ls hl => ?_)
  refine lv_iload hx hb dX12_layRows_88 (lv_at hl 2 rfl) ?_
  refine lv_aload_n hx hb dX12_layRows_90 rfl (lv_at hl 5 rfl) ?_
  refine va_get (D := D) (ci := 15) (v := .int 2) (C := RX12) (T := TX12) (N := 66) hx hb hts iw_X12_layRows__X12 hown hE.1 hP 0 rfl rfl 11 (by decide) (hts _ mw_X12_layRows__2) (fun _ h9 => h9) rfl dX12_layRows_91 ?_
  refine jw_idiv (v := 1) hx hb dX12_layRows_94 (by decide +kernel) (by decide +kernel) ?_
  refine lv_istore (lv' := [(4, .int 1), (3, .int 1), (5, .int 1), (2, .int 2), (1, .int 4), (0, .ref h0)]) hx hb dX12_layRows_95 hl (by decide) rfl (fun ls hl => ?_)
  refine lv_iinc (v := 0) (lv' := [(5, .int 0), (4, .int 1), (3, .int 1), (2, .int 2), (1, .int 4), (0, .ref h0)]) hx hb dX12_layRows_97 hl (k := 2) rfl (by decide +kernel) (by decide) rfl (fun ls hl => ?_)
  refine lv_goto (tgt := 50) hx hb dX12_layRows_100 (by decide) ?_
  refine lv_iload hx hb dX12_layRows_50 (lv_at hl 0 rfl) ?_
  refine lv_if_lt (tgt := 103) hx hb dX12_layRows_52 (by decide) (fun c9 => absurd c9 (by decide +kernel)) (fun _ => ?_)
  refine lv_aload_n hx hb dX12_layRows_55 rfl (lv_at hl 5 rfl) ?_
  refine va_get (D := D) (ci := 15) (v := .ref h1) (C := RX12) (T := TX12) (N := 66) hx hb hts iw_X12_layRows__X12 hown hE.1 hP 0 rfl rfl 29 (by decide) (hts _ mw_X12_layRows__3) (fun _ h9 => h9) rfl dX12_layRows_56 ?_
  refine lv_iconst (v := 4) hx hb dX12_layRows_59 (by decide +kernel) ?_
  refine lv_aload_n hx hb dX12_layRows_60 rfl (lv_at hl 5 rfl) ?_
  refine va_get (D := D) (ci := 15) (v := .int 1) (C := RX12) (T := TX12) (N := 66) hx hb hts iw_X12_layRows__X12 hown hE.1 hP 0 rfl rfl 28 (by decide) (hts _ mw_X12_layRows__1) (fun _ h9 => h9) rfl dX12_layRows_61 ?_
  refine jw_imul (v := 4) hx hb dX12_layRows_64 (by decide +kernel) ?_
  refine lv_iload hx hb dX12_layRows_65 (lv_at hl 0 rfl) ?_
  refine jw_iadd (v := 4) hx hb dX12_layRows_67 (by decide +kernel) ?_
  refine lv_iload hx hb dX12_layRows_68 (lv_at hl 1 rfl) ?_
  refine lv_aload_n hx hb dX12_layRows_70 rfl (lv_at hl 5 rfl) ?_
  refine va_get (D := D) (ci := 15) (v := .int 2) (C := RX12) (T := TX12) (N := 66) hx hb hts iw_X12_layRows__X12 hown hE.1 hP 0 rfl rfl 11 (by decide) (hts _ mw_X12_layRows__2) (fun _ h9 => h9) rfl dX12_layRows_71 ?_
  refine jw_irem (v := 1) hx hb dX12_layRows_74 (by decide +kernel) (by decide +kernel) ?_
  refine jw_iast (ws' := [(h0, .inr (15, [.ref h2, .int 0, .int 0, .ref h3, .int 0, .int (-1), .int 0, .int 0, .int 0, .int 0, .int 0, .int 2, .int 0, .int 0, .int 0, .ref h4, .ref h5, .ref h6, .ref h7, .int 2, .int 0, .int 0, .int 0, .int 0, .ref h8, .ref h9, .ref h10, .ref h11, .int 1, .ref h1, .int 0, .ref h12, .ref h13, .int 0, .ref h14, .ref h15, .ref h16, .int 0, .ref h17, .ref h18, .ref h19, .ref h20, .ref h21, .ref h22, .ref h23, .ref h24, .ref h25, .int 0, .ref h26, .ref h27, .ref h28, .int (-1), .ref h29, .long 0, .long 0, .int 0, .int 0, .long 0, .long 0, .ref h30, .ref h31, .ref h32, .ref h33, .ref h34, .ref h35, .long 0])), (h1, .inl (Y 1, 100, .inl (jw_l 0 [0, 1, 0, 0, 1, 0])))]) hx hb hE hP hD hS 1 4 [0, 1, 0, 0, 1, 0] rfl (by decide +kernel) (by decide +kernel) rfl dX12_layRows_75 (fun H locs hP hD hS => ?_)
  refine lv_iload_n hx hb dX12_layRows_76 rfl (lv_at hl 2 rfl) ?_
  refine lv_iconst (v := 1) hx hb dX12_layRows_77 (by decide +kernel) ?_
  refine lv_iload hx hb dX12_layRows_78 (lv_at hl 1 rfl) ?_
  refine lv_aload_n hx hb dX12_layRows_80 rfl (lv_at hl 5 rfl) ?_
  refine va_get (D := D) (ci := 15) (v := .int 2) (C := RX12) (T := TX12) (N := 66) hx hb hts iw_X12_layRows__X12 hown hE.1 hP 0 rfl rfl 11 (by decide) (hts _ mw_X12_layRows__2) (fun _ h9 => h9) rfl dX12_layRows_81 ?_
  refine jw_irem (v := 1) hx hb dX12_layRows_84 (by decide +kernel) (by decide +kernel) ?_
  refine jw_ishl (v := 2) hx hb dX12_layRows_85 (by decide +kernel) ?_
  refine jw_ior (v := 3) hx hb dX12_layRows_86 (by decide +kernel) ?_
  refine lv_istore_n (lv' := [(3, .int 3), (5, .int 0), (4, .int 1), (2, .int 2), (1, .int 4), (0, .ref h0)]) hx hb dX12_layRows_87 rfl hl (by decide) rfl (fun ls hl => ?_)
  refine lv_iload hx hb dX12_layRows_88 (lv_at hl 2 rfl) ?_
  refine lv_aload_n hx hb dX12_layRows_90 rfl (lv_at hl 5 rfl) ?_
  refine va_get (D := D) (ci := 15) (v := .int 2) (C := RX12) (T := TX12) (N := 66) hx hb hts iw_X12_layRows__X12 hown hE.1 hP 0 rfl rfl 11 (by decide) (hts _ mw_X12_layRows__2) (fun _ h9 => h9) rfl dX12_layRows_91 ?_
  refine jw_idiv (v := 0) hx hb dX12_layRows_94 (by decide +kernel) (by decide +kernel) ?_
  refine lv_istore (lv' := [(4, .int 0), (3, .int 3), (5, .int 0), (2, .int 2), (1, .int 4), (0, .ref h0)]) hx hb dX12_layRows_95 hl (by decide) rfl (fun ls hl => ?_)
  refine lv_iinc (v := (-1)) (lv' := [(5, .int (-1)), (4, .int 0), (3, .int 3), (2, .int 2), (1, .int 4), (0, .ref h0)]) hx hb dX12_layRows_97 hl (k := 2) rfl (by decide +kernel) (by decide) rfl (fun ls hl => ?_)
  refine lv_goto (tgt := 50) hx hb dX12_layRows_100 (by decide) ?_
  refine lv_iload hx hb dX12_layRows_50 (lv_at hl 0 rfl) ?_
  refine lv_if_lt (tgt := 103) hx hb dX12_layRows_52 (by decide) (fun _ => ?_) (fun c9 => absurd (by decide +kernel) c9)
  refine lv_iload_n hx hb dX12_layRows_103 rfl (lv_at hl 2 rfl) ?_
  refine lv_iconst (v := 1) hx hb dX12_layRows_104 (by decide +kernel) ?_
  refine lv_aload_n hx hb dX12_layRows_105 rfl (lv_at hl 5 rfl) ?_
  refine va_get (D := D) (ci := 15) (v := .int 2) (C := RX12) (T := TX12) (N := 66) hx hb hts iw_X12_layRows__X12 hown hE.1 hP 0 rfl rfl 11 (by decide) (hts _ mw_X12_layRows__2) (fun _ h9 => h9) rfl dX12_layRows_106 ?_
  refine jw_ishl (v := 4) hx hb dX12_layRows_109 (by decide +kernel) ?_
  refine lv_iconst (v := 1) hx hb dX12_layRows_110 (by decide +kernel) ?_
  refine jw_isub (v := 3) hx hb dX12_layRows_111 (by decide +kernel) ?_
  refine lv_icmp_ne (tgt := 125) hx hb dX12_layRows_112 (by decide) (fun c9 => absurd (by decide +kernel) c9) (fun _ => ?_)
  refine lv_aload_n hx hb dX12_layRows_115 rfl (lv_at hl 5 rfl) ?_
  refine lv_dup hx hb dX12_layRows_116 rfl ?_
  refine va_get (D := D) (ci := 15) (v := .int 1) (C := RX12) (T := TX12) (N := 66) hx hb hts iw_X12_layRows__X12 hown hE.1 hP 0 rfl rfl 28 (by decide) (hts _ mw_X12_layRows__1) (fun _ h9 => h9) rfl dX12_layRows_117 ?_
  refine lv_iconst (v := 1) hx hb dX12_layRows_120 (by decide +kernel) ?_
  refine jw_iadd (v := 2) hx hb dX12_layRows_121 (by decide +kernel) ?_
  refine va_put (D := D) (ci := 15) (v := .int 2) (C := RX12) (T := TX12) (N := 66) hx hb hts iw_X12_layRows__X12 tyX12 tyX12_ok nmX12 hown hE.1 hP hD hS 0 rfl rfl 28 (by decide) (hts _ mw_X12_layRows__1) (fun _ h9 => h9) rfl (tyX12_ok 28 (by decide)) rfl rfl (Nat.le_of_ble_eq_true rfl) dX12_layRows_122 (fun H locs hP hD hS => ?_)
  have hP : va_P D vwCl [(h0, .inr (15, [.ref h2, .int 0, .int 0, .ref h3, .int 0, .int (-1), .int 0, .int 0, .int 0, .int 0, .int 0, .int 2, .int 0, .int 0, .int 0, .ref h4, .ref h5, .ref h6, .ref h7, .int 2, .int 0, .int 0, .int 0, .int 0, .ref h8, .ref h9, .ref h10, .ref h11, .int 2, .ref h1, .int 0, .ref h12, .ref h13, .int 0, .ref h14, .ref h15, .ref h16, .int 0, .ref h17, .ref h18, .ref h19, .ref h20, .ref h21, .ref h22, .ref h23, .ref h24, .ref h25, .int 0, .ref h26, .ref h27, .ref h28, .int (-1), .ref h29, .long 0, .long 0, .int 0, .int 0, .long 0, .long 0, .ref h30, .ref h31, .ref h32, .ref h33, .ref h34, .ref h35, .long 0])), (h1, .inl (Y 1, 100, .inl (jw_l 0 [0, 1, 0, 0, 1, 0])))] H := hP
  have hD : va_D A [(h0, .inr (15, [.ref h2, .int 0, .int 0, .ref h3, .int 0, .int (-1), .int 0, .int 0, .int 0, .int 0, .int 0, .int 2, .int 0, .int 0, .int 0, .ref h4, .ref h5, .ref h6, .ref h7, .int 2, .int 0, .int 0, .int 0, .int 0, .ref h8, .ref h9, .ref h10, .ref h11, .int 2, .ref h1, .int 0, .ref h12, .ref h13, .int 0, .ref h14, .ref h15, .ref h16, .int 0, .ref h17, .ref h18, .ref h19, .ref h20, .ref h21, .ref h22, .ref h23, .ref h24, .ref h25, .int 0, .ref h26, .ref h27, .ref h28, .int (-1), .ref h29, .long 0, .long 0, .int 0, .int 0, .long 0, .long 0, .ref h30, .ref h31, .ref h32, .ref h33, .ref h34, .ref h35, .long 0])), (h1, .inl (Y 1, 100, .inl (jw_l 0 [0, 1, 0, 0, 1, 0])))] := hD
  refine lv_iinc (v := 3) (lv' := [(2, .int 3), (5, .int (-1)), (4, .int 0), (3, .int 3), (1, .int 4), (0, .ref h0)]) hx hb dX12_layRows_125 hl (k := 3) rfl (by decide +kernel) (by decide) rfl (fun ls hl => ?_)
  refine lv_goto (tgt := 32) hx hb dX12_layRows_128 (by decide) ?_
  refine lv_iload_n hx hb dX12_layRows_32 rfl (lv_at hl 0 rfl) ?_
  refine lv_iload_n hx hb dX12_layRows_33 rfl (lv_at hl 4 rfl) ?_
  refine lv_icmp_ge (tgt := 131) hx hb dX12_layRows_34 (by decide) (fun c9 => absurd c9 (by decide +kernel)) (fun _ => ?_)
  refine lv_iconst (v := 0) hx hb dX12_layRows_37 (by decide +kernel) ?_
  refine lv_istore_n (lv' := [(3, .int 0), (2, .int 3), (5, .int (-1)), (4, .int 0), (1, .int 4), (0, .ref h0)]) hx hb dX12_layRows_38 rfl hl (by decide) rfl (fun ls hl => ?_)
  refine lv_iload_n hx hb dX12_layRows_39 rfl (lv_at hl 1 rfl) ?_
  refine lv_istore (lv' := [(4, .int 3), (3, .int 0), (2, .int 3), (5, .int (-1)), (1, .int 4), (0, .ref h0)]) hx hb dX12_layRows_40 hl (by decide) rfl (fun ls hl => ?_)
  refine lv_aload_n hx hb dX12_layRows_42 rfl (lv_at hl 5 rfl) ?_
  refine va_get (D := D) (ci := 15) (v := .int 2) (C := RX12) (T := TX12) (N := 66) hx hb hts iw_X12_layRows__X12 hown hE.1 hP 0 rfl rfl 11 (by decide) (hts _ mw_X12_layRows__2) (fun _ h9 => h9) rfl dX12_layRows_43 ?_
  refine lv_iconst (v := 1) hx hb dX12_layRows_46 (by decide +kernel) ?_
  refine jw_isub (v := 1) hx hb dX12_layRows_47 (by decide +kernel) ?_
  refine lv_istore (lv' := [(5, .int 1), (4, .int 3), (3, .int 0), (2, .int 3), (1, .int 4), (0, .ref h0)]) hx hb dX12_layRows_48 hl (by decide) rfl (fun ls hl => ?_)
  refine lv_iload hx hb dX12_layRows_50 (lv_at hl 0 rfl) ?_
  refine lv_if_lt (tgt := 103) hx hb dX12_layRows_52 (by decide) (fun c9 => absurd c9 (by decide +kernel)) (fun _ => ?_)
  refine lv_aload_n hx hb dX12_layRows_55 rfl (lv_at hl 5 rfl) ?_
  refine va_get (D := D) (ci := 15) (v := .ref h1) (C := RX12) (T := TX12) (N := 66) hx hb hts iw_X12_layRows__X12 hown hE.1 hP 0 rfl rfl 29 (by decide) (hts _ mw_X12_layRows__3) (fun _ h9 => h9) rfl dX12_layRows_56 ?_
  refine lv_iconst (v := 4) hx hb dX12_layRows_59 (by decide +kernel) ?_
  refine lv_aload_n hx hb dX12_layRows_60 rfl (lv_at hl 5 rfl) ?_
  refine va_get (D := D) (ci := 15) (v := .int 2) (C := RX12) (T := TX12) (N := 66) hx hb hts iw_X12_layRows__X12 hown hE.1 hP 0 rfl rfl 28 (by decide) (hts _ mw_X12_layRows__1) (fun _ h9 => h9) rfl dX12_layRows_61 ?_
  refine jw_imul (v := 8) hx hb dX12_layRows_64 (by decide +kernel) ?_
  refine lv_iload hx hb dX12_layRows_65 (lv_at hl 0 rfl) ?_
  refine jw_iadd (v := 9) hx hb dX12_layRows_67 (by decide +kernel) ?_
  refine lv_iload hx hb dX12_layRows_68 (lv_at hl 1 rfl) ?_
  refine lv_aload_n hx hb dX12_layRows_70 rfl (lv_at hl 5 rfl) ?_
  refine va_get (D := D) (ci := 15) (v := .int 2) (C := RX12) (T := TX12) (N := 66) hx hb hts iw_X12_layRows__X12 hown hE.1 hP 0 rfl rfl 11 (by decide) (hts _ mw_X12_layRows__2) (fun _ h9 => h9) rfl dX12_layRows_71 ?_
  refine jw_irem (v := 1) hx hb dX12_layRows_74 (by decide +kernel) (by decide +kernel) ?_
  refine jw_iast (ws' := [(h0, .inr (15, [.ref h2, .int 0, .int 0, .ref h3, .int 0, .int (-1), .int 0, .int 0, .int 0, .int 0, .int 0, .int 2, .int 0, .int 0, .int 0, .ref h4, .ref h5, .ref h6, .ref h7, .int 2, .int 0, .int 0, .int 0, .int 0, .ref h8, .ref h9, .ref h10, .ref h11, .int 2, .ref h1, .int 0, .ref h12, .ref h13, .int 0, .ref h14, .ref h15, .ref h16, .int 0, .ref h17, .ref h18, .ref h19, .ref h20, .ref h21, .ref h22, .ref h23, .ref h24, .ref h25, .int 0, .ref h26, .ref h27, .ref h28, .int (-1), .ref h29, .long 0, .long 0, .int 0, .int 0, .long 0, .long 0, .ref h30, .ref h31, .ref h32, .ref h33, .ref h34, .ref h35, .long 0])), (h1, .inl (Y 1, 100, .inl (jw_l 0 [0, 1, 0, 0, 1, 0, 0, 0, 0, 1])))]) hx hb hE hP hD hS 1 9 [0, 1, 0, 0, 1, 0, 0, 0, 0, 1] rfl (by decide +kernel) (by decide +kernel) rfl dX12_layRows_75 (fun H locs hP hD hS => ?_)
  refine lv_iload_n hx hb dX12_layRows_76 rfl (lv_at hl 2 rfl) ?_
  refine lv_iconst (v := 1) hx hb dX12_layRows_77 (by decide +kernel) ?_
  refine lv_iload hx hb dX12_layRows_78 (lv_at hl 1 rfl) ?_
  refine lv_aload_n hx hb dX12_layRows_80 rfl (lv_at hl 5 rfl) ?_
  refine va_get (D := D) (ci := 15) (v := .int 2) (C := RX12) (T := TX12) (N := 66) hx hb hts iw_X12_layRows__X12 hown hE.1 hP 0 rfl rfl 11 (by decide) (hts _ mw_X12_layRows__2) (fun _ h9 => h9) rfl dX12_layRows_81 ?_
  refine jw_irem (v := 1) hx hb dX12_layRows_84 (by decide +kernel) (by decide +kernel) ?_
  refine jw_ishl (v := 2) hx hb dX12_layRows_85 (by decide +kernel) ?_
  refine jw_ior (v := 2) hx hb dX12_layRows_86 (by decide +kernel) ?_
  refine lv_istore_n (lv' := [(3, .int 2), (5, .int 1), (4, .int 3), (2, .int 3), (1, .int 4), (0, .ref h0)]) hx hb dX12_layRows_87 rfl hl (by decide) rfl (fun ls hl => ?_)
  refine lv_iload hx hb dX12_layRows_88 (lv_at hl 2 rfl) ?_
  refine lv_aload_n hx hb dX12_layRows_90 rfl (lv_at hl 5 rfl) ?_
  refine va_get (D := D) (ci := 15) (v := .int 2) (C := RX12) (T := TX12) (N := 66) hx hb hts iw_X12_layRows__X12 hown hE.1 hP 0 rfl rfl 11 (by decide) (hts _ mw_X12_layRows__2) (fun _ h9 => h9) rfl dX12_layRows_91 ?_
  refine jw_idiv (v := 1) hx hb dX12_layRows_94 (by decide +kernel) (by decide +kernel) ?_
  refine lv_istore (lv' := [(4, .int 1), (3, .int 2), (5, .int 1), (2, .int 3), (1, .int 4), (0, .ref h0)]) hx hb dX12_layRows_95 hl (by decide) rfl (fun ls hl => ?_)
  refine lv_iinc (v := 0) (lv' := [(5, .int 0), (4, .int 1), (3, .int 2), (2, .int 3), (1, .int 4), (0, .ref h0)]) hx hb dX12_layRows_97 hl (k := 2) rfl (by decide +kernel) (by decide) rfl (fun ls hl => ?_)
  refine lv_goto (tgt := 50) hx hb dX12_layRows_100 (by decide) ?_
  refine lv_iload hx hb dX12_layRows_50 (lv_at hl 0 rfl) ?_
  refine lv_if_lt (tgt := 103) hx hb dX12_layRows_52 (by decide) (fun c9 => absurd c9 (by decide +kernel)) (fun _ => ?_)
  refine lv_aload_n hx hb dX12_layRows_55 rfl (lv_at hl 5 rfl) ?_
  refine va_get (D := D) (ci := 15) (v := .ref h1) (C := RX12) (T := TX12) (N := 66) hx hb hts iw_X12_layRows__X12 hown hE.1 hP 0 rfl rfl 29 (by decide) (hts _ mw_X12_layRows__3) (fun _ h9 => h9) rfl dX12_layRows_56 ?_
  refine lv_iconst (v := 4) hx hb dX12_layRows_59 (by decide +kernel) ?_
  refine lv_aload_n hx hb dX12_layRows_60 rfl (lv_at hl 5 rfl) ?_
  refine va_get (D := D) (ci := 15) (v := .int 2) (C := RX12) (T := TX12) (N := 66) hx hb hts iw_X12_layRows__X12 hown hE.1 hP 0 rfl rfl 28 (by decide) (hts _ mw_X12_layRows__1) (fun _ h9 => h9) rfl dX12_layRows_61 ?_
  refine jw_imul (v := 8) hx hb dX12_layRows_64 (by decide +kernel) ?_
  refine lv_iload hx hb dX12_layRows_65 (lv_at hl 0 rfl) ?_
  refine jw_iadd (v := 8) hx hb dX12_layRows_67 (by decide +kernel) ?_
  refine lv_iload hx hb dX12_layRows_68 (lv_at hl 1 rfl) ?_
  refine lv_aload_n hx hb dX12_layRows_70 rfl (lv_at hl 5 rfl) ?_
  refine va_get (D := D) (ci := 15) (v := .int 2) (C := RX12) (T := TX12) (N := 66) hx hb hts iw_X12_layRows__X12 hown hE.1 hP 0 rfl rfl 11 (by decide) (hts _ mw_X12_layRows__2) (fun _ h9 => h9) rfl dX12_layRows_71 ?_
  refine jw_irem (v := 1) hx hb dX12_layRows_74 (by decide +kernel) (by decide +kernel) ?_
  refine jw_iast (ws' := [(h0, .inr (15, [.ref h2, .int 0, .int 0, .ref h3, .int 0, .int (-1), .int 0, .int 0, .int 0, .int 0, .int 0, .int 2, .int 0, .int 0, .int 0, .ref h4, .ref h5, .ref h6, .ref h7, .int 2, .int 0, .int 0, .int 0, .int 0, .ref h8, .ref h9, .ref h10, .ref h11, .int 2, .ref h1, .int 0, .ref h12, .ref h13, .int 0, .ref h14, .ref h15, .ref h16, .int 0, .ref h17, .ref h18, .ref h19, .ref h20, .ref h21, .ref h22, .ref h23, .ref h24, .ref h25, .int 0, .ref h26, .ref h27, .ref h28, .int (-1), .ref h29, .long 0, .long 0, .int 0, .int 0, .long 0, .long 0, .ref h30, .ref h31, .ref h32, .ref h33, .ref h34, .ref h35, .long 0])), (h1, .inl (Y 1, 100, .inl (jw_l 0 [0, 1, 0, 0, 1, 0, 0, 0, 1, 1])))]) hx hb hE hP hD hS 1 8 [0, 1, 0, 0, 1, 0, 0, 0, 1, 1] rfl (by decide +kernel) (by decide +kernel) rfl dX12_layRows_75 (fun H locs hP hD hS => ?_)
  refine lv_iload_n hx hb dX12_layRows_76 rfl (lv_at hl 2 rfl) ?_
  refine lv_iconst (v := 1) hx hb dX12_layRows_77 (by decide +kernel) ?_
  refine lv_iload hx hb dX12_layRows_78 (lv_at hl 1 rfl) ?_
  refine lv_aload_n hx hb dX12_layRows_80 rfl (lv_at hl 5 rfl) ?_
  refine va_get (D := D) (ci := 15) (v := .int 2) (C := RX12) (T := TX12) (N := 66) hx hb hts iw_X12_layRows__X12 hown hE.1 hP 0 rfl rfl 11 (by decide) (hts _ mw_X12_layRows__2) (fun _ h9 => h9) rfl dX12_layRows_81 ?_
  refine jw_irem (v := 1) hx hb dX12_layRows_84 (by decide +kernel) (by decide +kernel) ?_
  refine jw_ishl (v := 2) hx hb dX12_layRows_85 (by decide +kernel) ?_
  refine jw_ior (v := 2) hx hb dX12_layRows_86 (by decide +kernel) ?_
  refine lv_istore_n (lv' := [(3, .int 2), (5, .int 0), (4, .int 1), (2, .int 3), (1, .int 4), (0, .ref h0)]) hx hb dX12_layRows_87 rfl hl (by decide) rfl (fun ls hl => ?_)
  refine lv_iload hx hb dX12_layRows_88 (lv_at hl 2 rfl) ?_
  refine lv_aload_n hx hb dX12_layRows_90 rfl (lv_at hl 5 rfl) ?_
  refine va_get (D := D) (ci := 15) (v := .int 2) (C := RX12) (T := TX12) (N := 66) hx hb hts iw_X12_layRows__X12 hown hE.1 hP 0 rfl rfl 11 (by decide) (hts _ mw_X12_layRows__2) (fun _ h9 => h9) rfl dX12_layRows_91 ?_
  refine jw_idiv (v := 0) hx hb dX12_layRows_94 (by decide +kernel) (by decide +kernel) ?_
  refine lv_istore (lv' := [(4, .int 0), (3, .int 2), (5, .int 0), (2, .int 3), (1, .int 4), (0, .ref h0)]) hx hb dX12_layRows_95 hl (by decide) rfl (fun ls hl => ?_)
  refine lv_iinc (v := (-1)) (lv' := [(5, .int (-1)), (4, .int 0), (3, .int 2), (2, .int 3), (1, .int 4), (0, .ref h0)]) hx hb dX12_layRows_97 hl (k := 2) rfl (by decide +kernel) (by decide) rfl (fun ls hl => ?_)
  refine lv_goto (tgt := 50) hx hb dX12_layRows_100 (by decide) ?_
  refine lv_iload hx hb dX12_layRows_50 (lv_at hl 0 rfl) ?_
  refine lv_if_lt (tgt := 103) hx hb dX12_layRows_52 (by decide) (fun _ => ?_) (fun c9 => absurd (by decide +kernel) c9)
  refine lv_iload_n hx hb dX12_layRows_103 rfl (lv_at hl 2 rfl) ?_
  refine lv_iconst (v := 1) hx hb dX12_layRows_104 (by decide +kernel) ?_
  refine lv_aload_n hx hb dX12_layRows_105 rfl (lv_at hl 5 rfl) ?_
  refine va_get (D := D) (ci := 15) (v := .int 2) (C := RX12) (T := TX12) (N := 66) hx hb hts iw_X12_layRows__X12 hown hE.1 hP 0 rfl rfl 11 (by decide) (hts _ mw_X12_layRows__2) (fun _ h9 => h9) rfl dX12_layRows_106 ?_
  refine jw_ishl (v := 4) hx hb dX12_layRows_109 (by decide +kernel) ?_
  refine lv_iconst (v := 1) hx hb dX12_layRows_110 (by decide +kernel) ?_
  refine jw_isub (v := 3) hx hb dX12_layRows_111 (by decide +kernel) ?_
  refine lv_icmp_ne (tgt := 125) hx hb dX12_layRows_112 (by decide) (fun _ => ?_) (fun c9 => absurd c9 (by decide +kernel))
  refine lv_iinc (v := 4) (lv' := [(2, .int 4), (5, .int (-1)), (4, .int 0), (3, .int 2), (1, .int 4), (0, .ref h0)]) hx hb dX12_layRows_125 hl (k := 3) rfl (by decide +kernel) (by decide) rfl (fun ls hl => ?_)
  refine lv_goto (tgt := 32) hx hb dX12_layRows_128 (by decide) ?_
  refine lv_iload_n hx hb dX12_layRows_32 rfl (lv_at hl 0 rfl) ?_
  refine lv_iload_n hx hb dX12_layRows_33 rfl (lv_at hl 4 rfl) ?_
  refine lv_icmp_ge (tgt := 131) hx hb dX12_layRows_34 (by decide) (fun _ => ?_) (fun c9 => absurd (by decide +kernel) c9)
  refine W.widen (k := 0) (n := 0) (Nat.le_of_ble_eq_true rfl) (Nat.le_of_ble_eq_true rfl) ?_
  exact jw_vret hx hb hr hlocks rfl hP hD hS dX12_layRows_131
set_option maxHeartbeats 4000000 in
set_option maxRecDepth 100000 in
theorem k2_X12_layDraws {l : Launch} {D : va_G} {Y : Nat → ClassId} {tt : Nat → Nat} (h0 h1 h2 h3 h4 h5 h6 h7 h8 h9 h10 h11 h12 h13 h14 h15 h16 h17 h18 h19 h20 h21 h22 h23 h24 h25 h26 h27 h28 h29 h30 h31 h32 h33 h34 h35 : Nat) (sz : Nat) : Met l yX12_layDraws wsX12_layDraws ({ frames := 0, cells := 0, slots := 0, locals := 0 }) (jw_Pc D Y tt [.ref h0] [(h0, .inr (15, [.ref h2, .int 0, .int 0, .ref h3, .int 0, .int (-1), .int 0, .int 0, .int 0, .int 0, .int 0, .int 2, .int 0, .int 0, .int 0, .ref h4, .ref h5, .ref h6, .ref h7, .int 2, .int 0, .int 0, .int 0, .int 0, .ref h8, .ref h9, .ref h10, .ref h11, .int 2, .ref h12, .int 0, .ref h1, .ref h13, .int 0, .ref h14, .ref h15, .ref h16, .int 0, .ref h17, .ref h18, .ref h19, .ref h20, .ref h21, .ref h22, .ref h23, .ref h24, .ref h25, .int 0, .ref h26, .ref h27, .ref h28, .int (-1), .ref h29, .long 0, .long 0, .int 0, .int 0, .long 0, .long 0, .ref h30, .ref h31, .ref h32, .ref h33, .ref h34, .ref h35, .long 0])), (h1, .inl (Y 1, 13824, .inl (jw_l 0 [])))] sz) (jw_Qv D (fun w => w = [(h0, .inr (15, [.ref h2, .int 0, .int 0, .ref h3, .int 0, .int (-1), .int 0, .int 0, .int 0, .int 0, .int 0, .int 2, .int 0, .int 0, .int 0, .ref h4, .ref h5, .ref h6, .ref h7, .int 2, .int 0, .int 0, .int 0, .int 0, .ref h8, .ref h9, .ref h10, .ref h11, .int 2, .ref h12, .int 1, .ref h1, .ref h13, .int 1, .ref h14, .ref h15, .ref h16, .int 0, .ref h17, .ref h18, .ref h19, .ref h20, .ref h21, .ref h22, .ref h23, .ref h24, .ref h25, .int 0, .ref h26, .ref h27, .ref h28, .int (-1), .ref h29, .long 0, .long 0, .int 0, .int 0, .long 0, .long 0, .ref h30, .ref h31, .ref h32, .ref h33, .ref h34, .ref h35, .long 0])), (h1, .inl (Y 1, 13824, .inl (jw_l 0 [0])))]) (va_A [(h0, .inr (15, [.ref h2, .int 0, .int 0, .ref h3, .int 0, .int (-1), .int 0, .int 0, .int 0, .int 0, .int 0, .int 2, .int 0, .int 0, .int 0, .ref h4, .ref h5, .ref h6, .ref h7, .int 2, .int 0, .int 0, .int 0, .int 0, .ref h8, .ref h9, .ref h10, .ref h11, .int 2, .ref h12, .int 0, .ref h1, .ref h13, .int 0, .ref h14, .ref h15, .ref h16, .int 0, .ref h17, .ref h18, .ref h19, .ref h20, .ref h21, .ref h22, .ref h23, .ref h24, .ref h25, .int 0, .ref h26, .ref h27, .ref h28, .int (-1), .ref h29, .long 0, .long 0, .int 0, .int 0, .long 0, .long 0, .ref h30, .ref h31, .ref h32, .ref h33, .ref h34, .ref h35, .long 0])), (h1, .inl (Y 1, 13824, .inl (jw_l 0 [])))] sz)) 0 0 (va_A [(h0, .inr (15, [.ref h2, .int 0, .int 0, .ref h3, .int 0, .int (-1), .int 0, .int 0, .int 0, .int 0, .int 0, .int 2, .int 0, .int 0, .int 0, .ref h4, .ref h5, .ref h6, .ref h7, .int 2, .int 0, .int 0, .int 0, .int 0, .ref h8, .ref h9, .ref h10, .ref h11, .int 2, .ref h12, .int 0, .ref h1, .ref h13, .int 0, .ref h14, .ref h15, .ref h16, .int 0, .ref h17, .ref h18, .ref h19, .ref h20, .ref h21, .ref h22, .ref h23, .ref h24, .ref h25, .int 0, .ref h26, .ref h27, .ref h28, .int (-1), .ref h29, .long 0, .long 0, .int 0, .int 0, .long 0, .long 0, .ref h30, .ref h31, .ref h32, .ref h33, .ref h34, .ref h35, .long 0])), (h1, .inl (Y 1, 13824, .inl (jw_l 0 [])))] sz) := by
  refine jw_met (fun A => jw_Qv D (fun w => w = [(h0, .inr (15, [.ref h2, .int 0, .int 0, .ref h3, .int 0, .int (-1), .int 0, .int 0, .int 0, .int 0, .int 0, .int 2, .int 0, .int 0, .int 0, .ref h4, .ref h5, .ref h6, .ref h7, .int 2, .int 0, .int 0, .int 0, .int 0, .ref h8, .ref h9, .ref h10, .ref h11, .int 2, .ref h12, .int 1, .ref h1, .ref h13, .int 1, .ref h14, .ref h15, .ref h16, .int 0, .ref h17, .ref h18, .ref h19, .ref h20, .ref h21, .ref h22, .ref h23, .ref h24, .ref h25, .int 0, .ref h26, .ref h27, .ref h28, .int (-1), .ref h29, .long 0, .long 0, .int 0, .int 0, .long 0, .long 0, .ref h30, .ref h31, .ref h32, .ref h33, .ref h34, .ref h35, .long 0])), (h1, .inl (Y 1, 13824, .inl (jw_l 0 [0])))]) A) (cc := cX12_layDraws) (maxL := 5) (ret := none) pn_X12_layDraws rfl rfl ?_
  intro p e s m below meth c A H locs ls hx hb hml hr hts hown hlocks hin hP hD hA hS hE hl
  have hown : s.vm.findClass RX12 = some m.cls := hown
  have hl : lv_has ls 5 [(0, .ref h0)] := hl
  refine lv_aload_n hx hb dX12_layDraws_0 rfl (lv_at hl 0 rfl) ?_
  refine lv_iconst (v := 1) hx hb dX12_layDraws_1 (by decide +kernel) ?_
  refine va_put (D := D) (ci := 15) (v := .int 1) (C := RX12) (T := TX12) (N := 66) hx hb hts iw_X12_layDraws__X12 tyX12 tyX12_ok nmX12 hown hE.1 hP hD hS 0 rfl rfl 30 (by decide) (hts _ mw_X12_layDraws__1) (fun _ h9 => h9) rfl (tyX12_ok 30 (by decide)) rfl rfl (Nat.le_of_ble_eq_true rfl) dX12_layDraws_2 (fun H locs hP hD hS => ?_)
  have hP : va_P D vwCl [(h0, .inr (15, [.ref h2, .int 0, .int 0, .ref h3, .int 0, .int (-1), .int 0, .int 0, .int 0, .int 0, .int 0, .int 2, .int 0, .int 0, .int 0, .ref h4, .ref h5, .ref h6, .ref h7, .int 2, .int 0, .int 0, .int 0, .int 0, .ref h8, .ref h9, .ref h10, .ref h11, .int 2, .ref h12, .int 1, .ref h1, .ref h13, .int 0, .ref h14, .ref h15, .ref h16, .int 0, .ref h17, .ref h18, .ref h19, .ref h20, .ref h21, .ref h22, .ref h23, .ref h24, .ref h25, .int 0, .ref h26, .ref h27, .ref h28, .int (-1), .ref h29, .long 0, .long 0, .int 0, .int 0, .long 0, .long 0, .ref h30, .ref h31, .ref h32, .ref h33, .ref h34, .ref h35, .long 0])), (h1, .inl (Y 1, 13824, .inl (jw_l 0 [])))] H := hP
  have hD : va_D A [(h0, .inr (15, [.ref h2, .int 0, .int 0, .ref h3, .int 0, .int (-1), .int 0, .int 0, .int 0, .int 0, .int 0, .int 2, .int 0, .int 0, .int 0, .ref h4, .ref h5, .ref h6, .ref h7, .int 2, .int 0, .int 0, .int 0, .int 0, .ref h8, .ref h9, .ref h10, .ref h11, .int 2, .ref h12, .int 1, .ref h1, .ref h13, .int 0, .ref h14, .ref h15, .ref h16, .int 0, .ref h17, .ref h18, .ref h19, .ref h20, .ref h21, .ref h22, .ref h23, .ref h24, .ref h25, .int 0, .ref h26, .ref h27, .ref h28, .int (-1), .ref h29, .long 0, .long 0, .int 0, .int 0, .long 0, .long 0, .ref h30, .ref h31, .ref h32, .ref h33, .ref h34, .ref h35, .long 0])), (h1, .inl (Y 1, 13824, .inl (jw_l 0 [])))] := hD
  refine lv_iconst (v := 0) hx hb dX12_layDraws_5 (by decide +kernel) ?_
  refine lv_istore_n (lv' := [(1, .int 0), (0, .ref h0)]) hx hb dX12_layDraws_6 rfl hl (by decide) rfl (fun ls hl => ?_)
  refine lv_iload_n hx hb dX12_layDraws_7 rfl (lv_at hl 0 rfl) ?_
  refine lv_aload_n hx hb dX12_layDraws_8 rfl (lv_at hl 1 rfl) ?_
  refine va_get (D := D) (ci := 15) (v := .int 0) (C := RX12) (T := TX12) (N := 66) hx hb hts iw_X12_layDraws__X12 hown hE.1 hP 0 rfl rfl 12 (by decide) (hts _ mw_X12_layDraws__2) (fun _ h9 => h9) rfl dX12_layDraws_9 ?_
  refine lv_icmp_ge (tgt := 34) hx hb dX12_layDraws_12 (by decide) (fun _ => ?_) (fun c9 => absurd (by decide +kernel) c9)
  refine lv_aload_n hx hb dX12_layDraws_34 rfl (lv_at hl 1 rfl) ?_
  refine lv_iconst (v := 0) hx hb dX12_layDraws_35 (by decide +kernel) ?_
  refine va_put (D := D) (ci := 15) (v := .int 0) (C := RX12) (T := TX12) (N := 66) hx hb hts iw_X12_layDraws__X12 tyX12 tyX12_ok nmX12 hown hE.1 hP hD hS 0 rfl rfl 33 (by decide) (hts _ mw_X12_layDraws__4) (fun _ h9 => h9) rfl (tyX12_ok 33 (by decide)) rfl rfl (Nat.le_of_ble_eq_true rfl) dX12_layDraws_36 (fun H locs hP hD hS => ?_)
  have hP : va_P D vwCl [(h0, .inr (15, [.ref h2, .int 0, .int 0, .ref h3, .int 0, .int (-1), .int 0, .int 0, .int 0, .int 0, .int 0, .int 2, .int 0, .int 0, .int 0, .ref h4, .ref h5, .ref h6, .ref h7, .int 2, .int 0, .int 0, .int 0, .int 0, .ref h8, .ref h9, .ref h10, .ref h11, .int 2, .ref h12, .int 1, .ref h1, .ref h13, .int 0, .ref h14, .ref h15, .ref h16, .int 0, .ref h17, .ref h18, .ref h19, .ref h20, .ref h21, .ref h22, .ref h23, .ref h24, .ref h25, .int 0, .ref h26, .ref h27, .ref h28, .int (-1), .ref h29, .long 0, .long 0, .int 0, .int 0, .long 0, .long 0, .ref h30, .ref h31, .ref h32, .ref h33, .ref h34, .ref h35, .long 0])), (h1, .inl (Y 1, 13824, .inl (jw_l 0 [])))] H := hP
  have hD : va_D A [(h0, .inr (15, [.ref h2, .int 0, .int 0, .ref h3, .int 0, .int (-1), .int 0, .int 0, .int 0, .int 0, .int 0, .int 2, .int 0, .int 0, .int 0, .ref h4, .ref h5, .ref h6, .ref h7, .int 2, .int 0, .int 0, .int 0, .int 0, .ref h8, .ref h9, .ref h10, .ref h11, .int 2, .ref h12, .int 1, .ref h1, .ref h13, .int 0, .ref h14, .ref h15, .ref h16, .int 0, .ref h17, .ref h18, .ref h19, .ref h20, .ref h21, .ref h22, .ref h23, .ref h24, .ref h25, .int 0, .ref h26, .ref h27, .ref h28, .int (-1), .ref h29, .long 0, .long 0, .int 0, .int 0, .long 0, .long 0, .ref h30, .ref h31, .ref h32, .ref h33, .ref h34, .ref h35, .long 0])), (h1, .inl (Y 1, 13824, .inl (jw_l 0 [])))] := hD
  refine lv_iconst (v := 0) hx hb dX12_layDraws_39 (by decide +kernel) ?_
  refine lv_istore_n (lv' := [(1, .int 0), (0, .ref h0)]) hx hb dX12_layDraws_40 rfl hl (by decide) rfl (fun ls hl => ?_)
  refine lv_iload_n hx hb dX12_layDraws_41 rfl (lv_at hl 0 rfl) ?_
  refine lv_aload_n hx hb dX12_layDraws_42 rfl (lv_at hl 1 rfl) ?_
  refine va_get (D := D) (ci := 15) (v := .int 1) (C := RX12) (T := TX12) (N := 66) hx hb hts iw_X12_layDraws__X12 hown hE.1 hP 0 rfl rfl 30 (by decide) (hts _ mw_X12_layDraws__1) (fun _ h9 => h9) rfl dX12_layDraws_43 ?_
  refine lv_icmp_ge (tgt := 197) hx hb dX12_layDraws_46 (by decide) (fun c9 => absurd c9 (by decide +kernel)) (fun _ => ?_)
  refine lv_iconst (v := 0) hx hb dX12_layDraws_49 (by decide +kernel) ?_
  refine lv_istore_n (lv' := [(2, .int 0), (1, .int 0), (0, .ref h0)]) hx hb dX12_layDraws_50 rfl hl (by decide) rfl (fun ls hl => ?_)
  refine lv_iload_n hx hb dX12_layDraws_51 rfl (lv_at hl 0 rfl) ?_
  refine lv_aload_n hx hb dX12_layDraws_52 rfl (lv_at hl 2 rfl) ?_
  refine va_get (D := D) (ci := 15) (v := .int 0) (C := RX12) (T := TX12) (N := 66) hx hb hts iw_X12_layDraws__X12 hown hE.1 hP 0 rfl rfl 12 (by decide) (hts _ mw_X12_layDraws__2) (fun _ h9 => h9) rfl dX12_layDraws_53 ?_
  refine lv_icmp_ge (tgt := 121) hx hb dX12_layDraws_56 (by decide) (fun _ => ?_) (fun c9 => absurd (by decide +kernel) c9)
  refine lv_aload_n hx hb dX12_layDraws_121 rfl (lv_at hl 2 rfl) ?_
  refine va_get (D := D) (ci := 15) (v := .ref h1) (C := RX12) (T := TX12) (N := 66) hx hb hts iw_X12_layDraws__X12 hown hE.1 hP 0 rfl rfl 31 (by decide) (hts _ mw_X12_layDraws__8) (fun _ h9 => h9) rfl dX12_layDraws_122 ?_
  refine lv_iload_n hx hb dX12_layDraws_125 rfl (lv_at hl 1 rfl) ?_
  refine lv_iconst (v := 0) hx hb dX12_layDraws_126 (by decide +kernel) ?_
  refine jw_iast (ws' := [(h0, .inr (15, [.ref h2, .int 0, .int 0, .ref h3, .int 0, .int (-1), .int 0, .int 0, .int 0, .int 0, .int 0, .int 2, .int 0, .int 0, .int 0, .ref h4, .ref h5, .ref h6, .ref h7, .int 2, .int 0, .int 0, .int 0, .int 0, .ref h8, .ref h9, .ref h10, .ref h11, .int 2, .ref h12, .int 1, .ref h1, .ref h13, .int 0, .ref h14, .ref h15, .ref h16, .int 0, .ref h17, .ref h18, .ref h19, .ref h20, .ref h21, .ref h22, .ref h23, .ref h24, .ref h25, .int 0, .ref h26, .ref h27, .ref h28, .int (-1), .ref h29, .long 0, .long 0, .int 0, .int 0, .long 0, .long 0, .ref h30, .ref h31, .ref h32, .ref h33, .ref h34, .ref h35, .long 0])), (h1, .inl (Y 1, 13824, .inl (jw_l 0 [0])))]) hx hb hE hP hD hS 1 0 [0] rfl (by decide +kernel) (by decide +kernel) rfl dX12_layDraws_127 (fun H locs hP hD hS => ?_)
  refine lv_iconst (v := 0) hx hb dX12_layDraws_128 (by decide +kernel) ?_
  refine lv_istore_n (lv' := [(2, .int 0), (1, .int 0), (0, .ref h0)]) hx hb dX12_layDraws_129 rfl hl (by decide) rfl (fun ls hl => ?_)
  refine lv_iload_n hx hb dX12_layDraws_130 rfl (lv_at hl 0 rfl) ?_
  refine lv_aload_n hx hb dX12_layDraws_131 rfl (lv_at hl 2 rfl) ?_
  refine va_get (D := D) (ci := 15) (v := .int 0) (C := RX12) (T := TX12) (N := 66) hx hb hts iw_X12_layDraws__X12 hown hE.1 hP 0 rfl rfl 14 (by decide) (hts _ mw_X12_layDraws__9) (fun _ h9 => h9) rfl dX12_layDraws_132 ?_
  refine lv_icmp_ge (tgt := 168) hx hb dX12_layDraws_135 (by decide) (fun _ => ?_) (fun c9 => absurd (by decide +kernel) c9)
  refine lv_aload_n hx hb dX12_layDraws_168 rfl (lv_at hl 2 rfl) ?_
  refine lv_dup hx hb dX12_layDraws_169 rfl ?_
  refine va_get (D := D) (ci := 15) (v := .int 0) (C := RX12) (T := TX12) (N := 66) hx hb hts iw_X12_layDraws__X12 hown hE.1 hP 0 rfl rfl 33 (by decide) (hts _ mw_X12_layDraws__4) (fun _ h9 => h9) rfl dX12_layDraws_170 ?_
  refine lv_aload_n hx hb dX12_layDraws_173 rfl (lv_at hl 2 rfl) ?_
  refine va_get (D := D) (ci := 15) (v := .ref h1) (C := RX12) (T := TX12) (N := 66) hx hb hts iw_X12_layDraws__X12 hown hE.1 hP 0 rfl rfl 31 (by decide) (hts _ mw_X12_layDraws__8) (fun _ h9 => h9) rfl dX12_layDraws_174 ?_
  refine lv_iload_n hx hb dX12_layDraws_177 rfl (lv_at hl 1 rfl) ?_
  refine jw_iald (v := 0) hx hb hE hP 1 0 rfl (by decide +kernel) (by decide +kernel) dX12_layDraws_178 ?_
  refine lv_if_ne (tgt := 186) hx hb dX12_layDraws_179 (by decide) (fun c9 => absurd (by decide +kernel) c9) (fun _ => ?_)
  refine lv_iconst (v := 1) hx hb dX12_layDraws_182 (by decide +kernel) ?_
  refine lv_goto (tgt := 187) hx hb dX12_layDraws_183 (by decide) ?_
  refine jw_iadd (v := 1) hx hb dX12_layDraws_187 (by decide +kernel) ?_
  refine va_put (D := D) (ci := 15) (v := .int 1) (C := RX12) (T := TX12) (N := 66) hx hb hts iw_X12_layDraws__X12 tyX12 tyX12_ok nmX12 hown hE.1 hP hD hS 0 rfl rfl 33 (by decide) (hts _ mw_X12_layDraws__4) (fun _ h9 => h9) rfl (tyX12_ok 33 (by decide)) rfl rfl (Nat.le_of_ble_eq_true rfl) dX12_layDraws_188 (fun H locs hP hD hS => ?_)
  have hP : va_P D vwCl [(h0, .inr (15, [.ref h2, .int 0, .int 0, .ref h3, .int 0, .int (-1), .int 0, .int 0, .int 0, .int 0, .int 0, .int 2, .int 0, .int 0, .int 0, .ref h4, .ref h5, .ref h6, .ref h7, .int 2, .int 0, .int 0, .int 0, .int 0, .ref h8, .ref h9, .ref h10, .ref h11, .int 2, .ref h12, .int 1, .ref h1, .ref h13, .int 1, .ref h14, .ref h15, .ref h16, .int 0, .ref h17, .ref h18, .ref h19, .ref h20, .ref h21, .ref h22, .ref h23, .ref h24, .ref h25, .int 0, .ref h26, .ref h27, .ref h28, .int (-1), .ref h29, .long 0, .long 0, .int 0, .int 0, .long 0, .long 0, .ref h30, .ref h31, .ref h32, .ref h33, .ref h34, .ref h35, .long 0])), (h1, .inl (Y 1, 13824, .inl (jw_l 0 [0])))] H := hP
  have hD : va_D A [(h0, .inr (15, [.ref h2, .int 0, .int 0, .ref h3, .int 0, .int (-1), .int 0, .int 0, .int 0, .int 0, .int 0, .int 2, .int 0, .int 0, .int 0, .ref h4, .ref h5, .ref h6, .ref h7, .int 2, .int 0, .int 0, .int 0, .int 0, .ref h8, .ref h9, .ref h10, .ref h11, .int 2, .ref h12, .int 1, .ref h1, .ref h13, .int 1, .ref h14, .ref h15, .ref h16, .int 0, .ref h17, .ref h18, .ref h19, .ref h20, .ref h21, .ref h22, .ref h23, .ref h24, .ref h25, .int 0, .ref h26, .ref h27, .ref h28, .int (-1), .ref h29, .long 0, .long 0, .int 0, .int 0, .long 0, .long 0, .ref h30, .ref h31, .ref h32, .ref h33, .ref h34, .ref h35, .long 0])), (h1, .inl (Y 1, 13824, .inl (jw_l 0 [0])))] := hD
  refine lv_iinc (v := 1) (lv' := [(1, .int 1), (2, .int 0), (0, .ref h0)]) hx hb dX12_layDraws_191 hl (k := 1) rfl (by decide +kernel) (by decide) rfl (fun ls hl => ?_)
  refine lv_goto (tgt := 41) hx hb dX12_layDraws_194 (by decide) ?_
  refine lv_iload_n hx hb dX12_layDraws_41 rfl (lv_at hl 0 rfl) ?_
  refine lv_aload_n hx hb dX12_layDraws_42 rfl (lv_at hl 2 rfl) ?_
  refine va_get (D := D) (ci := 15) (v := .int 1) (C := RX12) (T := TX12) (N := 66) hx hb hts iw_X12_layDraws__X12 hown hE.1 hP 0 rfl rfl 30 (by decide) (hts _ mw_X12_layDraws__1) (fun _ h9 => h9) rfl dX12_layDraws_43 ?_
  refine lv_icmp_ge (tgt := 197) hx hb dX12_layDraws_46 (by decide) (fun _ => ?_) (fun c9 => absurd (by decide +kernel) c9)
  refine W.widen (k := 0) (n := 0) (Nat.le_of_ble_eq_true rfl) (Nat.le_of_ble_eq_true rfl) ?_
  exact jw_vret hx hb hr hlocks rfl hP hD hS dX12_layDraws_197
set_option maxHeartbeats 4000000 in
set_option maxRecDepth 100000 in
theorem k3_X12_keep {l : Launch} {D : va_G} {Y : Nat → ClassId} {tt : Nat → Nat} (h0 h1 h2 h3 h4 h5 h6 h7 h8 h9 h10 h11 h12 h13 h14 h15 h16 h17 h18 h19 h20 h21 h22 h23 h24 h25 h26 h27 h28 h29 h30 h31 h32 h33 h34 h35 : Nat) (sz : Nat) : Met l yX12_keep wsX12_keep ({ frames := 1, cells := 0, slots := 0, locals := 25 }) (jw_Pc D Y tt [.ref h0] [(h0, .inr (15, [.ref h5, .int 0, .int 0, .ref h6, .int 0, .int (-1), .int 0, .int 0, .int 0, .int 0, .int 0, .int 0, .int 0, .int 0, .int 0, .ref h7, .ref h8, .ref h9, .ref h10, .int 2, .int 0, .int 0, .int 0, .int 0, .ref h11, .ref h12, .ref h13, .ref h14, .int 0, .ref h1, .int 0, .ref h2, .ref h15, .int 0, .ref h16, .ref h3, .ref h4, .int 0, .ref h17, .ref h18, .ref h19, .ref h20, .ref h21, .ref h22, .ref h23, .ref h24, .ref h25, .int 0, .ref h26, .ref h27, .ref h28, .int (-1), .ref h29, .long 0, .long 0, .int 0, .int 0, .long 0, .long 0, .ref h30, .ref h31, .ref h32, .ref h33, .ref h34, .ref h35, .long 0])), (h1, .inl (Y 1, 100, .inl (jw_l 0 []))), (h2, .inl (Y 1, 13824, .inl (jw_l 0 []))), (h3, .inl (Y 1, 4, .inl (jw_l 0 []))), (h4, .inl (Y 1, 4, .inl (jw_l 0 [])))] sz) (jw_Qv D (fun w => w = [(h0, .inr (15, [.ref h5, .int 0, .int 0, .ref h6, .int 0, .int (-1), .int 0, .int 0, .int 0, .int 0, .int 0, .int 2, .int 0, .int 0, .int 0, .ref h7, .ref h8, .ref h9, .ref h10, .int 2, .int 0, .int 0, .int 0, .int 0, .ref h11, .ref h12, .ref h13, .ref h14, .int 2, .ref h1, .int 1, .ref h2, .ref h15, .int 1, .ref h16, .ref h3, .ref h4, .int 0, .ref h17, .ref h18, .ref h19, .ref h20, .ref h21, .ref h22, .ref h23, .ref h24, .ref h25, .int 0, .ref h26, .ref h27, .ref h28, .int (-1), .ref h29, .long 0, .long 0, .int 0, .int 0, .long 0, .long 0, .ref h30, .ref h31, .ref h32, .ref h33, .ref h34, .ref h35, .long 0])), (h1, .inl (Y 1, 100, .inl (jw_l 0 [0, 1, 0, 0, 1, 0, 0, 0, 1, 1]))), (h2, .inl (Y 1, 13824, .inl (jw_l 0 [0]))), (h3, .inl (Y 1, 4, .inl (jw_l 0 [0, 1, 2, 3]))), (h4, .inl (Y 1, 4, .inl (jw_l 0 [0, 1, 2, 3])))]) (va_A [(h0, .inr (15, [.ref h5, .int 0, .int 0, .ref h6, .int 0, .int (-1), .int 0, .int 0, .int 0, .int 0, .int 0, .int 0, .int 0, .int 0, .int 0, .ref h7, .ref h8, .ref h9, .ref h10, .int 2, .int 0, .int 0, .int 0, .int 0, .ref h11, .ref h12, .ref h13, .ref h14, .int 0, .ref h1, .int 0, .ref h2, .ref h15, .int 0, .ref h16, .ref h3, .ref h4, .int 0, .ref h17, .ref h18, .ref h19, .ref h20, .ref h21, .ref h22, .ref h23, .ref h24, .ref h25, .int 0, .ref h26, .ref h27, .ref h28, .int (-1), .ref h29, .long 0, .long 0, .int 0, .int 0, .long 0, .long 0, .ref h30, .ref h31, .ref h32, .ref h33, .ref h34, .ref h35, .long 0])), (h1, .inl (Y 1, 100, .inl (jw_l 0 []))), (h2, .inl (Y 1, 13824, .inl (jw_l 0 []))), (h3, .inl (Y 1, 4, .inl (jw_l 0 []))), (h4, .inl (Y 1, 4, .inl (jw_l 0 [])))] sz)) 0 0 (va_A [(h0, .inr (15, [.ref h5, .int 0, .int 0, .ref h6, .int 0, .int (-1), .int 0, .int 0, .int 0, .int 0, .int 0, .int 0, .int 0, .int 0, .int 0, .ref h7, .ref h8, .ref h9, .ref h10, .int 2, .int 0, .int 0, .int 0, .int 0, .ref h11, .ref h12, .ref h13, .ref h14, .int 0, .ref h1, .int 0, .ref h2, .ref h15, .int 0, .ref h16, .ref h3, .ref h4, .int 0, .ref h17, .ref h18, .ref h19, .ref h20, .ref h21, .ref h22, .ref h23, .ref h24, .ref h25, .int 0, .ref h26, .ref h27, .ref h28, .int (-1), .ref h29, .long 0, .long 0, .int 0, .int 0, .long 0, .long 0, .ref h30, .ref h31, .ref h32, .ref h33, .ref h34, .ref h35, .long 0])), (h1, .inl (Y 1, 100, .inl (jw_l 0 []))), (h2, .inl (Y 1, 13824, .inl (jw_l 0 []))), (h3, .inl (Y 1, 4, .inl (jw_l 0 []))), (h4, .inl (Y 1, 4, .inl (jw_l 0 [])))] sz) := by
  refine jw_met (fun A => jw_Qv D (fun w => w = [(h0, .inr (15, [.ref h5, .int 0, .int 0, .ref h6, .int 0, .int (-1), .int 0, .int 0, .int 0, .int 0, .int 0, .int 2, .int 0, .int 0, .int 0, .ref h7, .ref h8, .ref h9, .ref h10, .int 2, .int 0, .int 0, .int 0, .int 0, .ref h11, .ref h12, .ref h13, .ref h14, .int 2, .ref h1, .int 1, .ref h2, .ref h15, .int 1, .ref h16, .ref h3, .ref h4, .int 0, .ref h17, .ref h18, .ref h19, .ref h20, .ref h21, .ref h22, .ref h23, .ref h24, .ref h25, .int 0, .ref h26, .ref h27, .ref h28, .int (-1), .ref h29, .long 0, .long 0, .int 0, .int 0, .long 0, .long 0, .ref h30, .ref h31, .ref h32, .ref h33, .ref h34, .ref h35, .long 0])), (h1, .inl (Y 1, 100, .inl (jw_l 0 [0, 1, 0, 0, 1, 0, 0, 0, 1, 1]))), (h2, .inl (Y 1, 13824, .inl (jw_l 0 [0]))), (h3, .inl (Y 1, 4, .inl (jw_l 0 [0, 1, 2, 3]))), (h4, .inl (Y 1, 4, .inl (jw_l 0 [0, 1, 2, 3])))]) A) (cc := cX12_keep) (maxL := 2) (ret := none) pn_X12_keep rfl rfl ?_
  intro p e s m below meth c A H locs ls hx hb hml hr hts hown hlocks hin hP hD hA hS hE hl
  have hown : s.vm.findClass RX12 = some m.cls := hown
  have hl : lv_has ls 2 [(0, .ref h0)] := hl
  refine lv_aload_n hx hb dX12_keep_0 rfl (lv_at hl 0 rfl) ?_
  refine lv_aload_n hx hb dX12_keep_1 rfl (lv_at hl 0 rfl) ?_
  refine va_get (D := D) (ci := 15) (v := .int 2) (C := RX12) (T := TX12) (N := 66) hx hb hts iw_X12_keep__X12 hown hE.1 hP 0 rfl rfl 19 (by decide) (hts _ mw_X12_keep__1) (fun _ h9 => h9) rfl dX12_keep_2 ?_
  refine va_put (D := D) (ci := 15) (v := .int 2) (C := RX12) (T := TX12) (N := 66) hx hb hts iw_X12_keep__X12 tyX12 tyX12_ok nmX12 hown hE.1 hP hD hS 0 rfl rfl 11 (by decide) (hts _ mw_X12_keep__2) (fun _ h9 => h9) rfl (tyX12_ok 11 (by decide)) rfl rfl (Nat.le_of_ble_eq_true rfl) dX12_keep_5 (fun H locs hP hD hS => ?_)
  have hP : va_P D vwCl [(h0, .inr (15, [.ref h5, .int 0, .int 0, .ref h6, .int 0, .int (-1), .int 0, .int 0, .int 0, .int 0, .int 0, .int 2, .int 0, .int 0, .int 0, .ref h7, .ref h8, .ref h9, .ref h10, .int 2, .int 0, .int 0, .int 0, .int 0, .ref h11, .ref h12, .ref h13, .ref h14, .int 0, .ref h1, .int 0, .ref h2, .ref h15, .int 0, .ref h16, .ref h3, .ref h4, .int 0, .ref h17, .ref h18, .ref h19, .ref h20, .ref h21, .ref h22, .ref h23, .ref h24, .ref h25, .int 0, .ref h26, .ref h27, .ref h28, .int (-1), .ref h29, .long 0, .long 0, .int 0, .int 0, .long 0, .long 0, .ref h30, .ref h31, .ref h32, .ref h33, .ref h34, .ref h35, .long 0])), (h1, .inl (Y 1, 100, .inl (jw_l 0 []))), (h2, .inl (Y 1, 13824, .inl (jw_l 0 []))), (h3, .inl (Y 1, 4, .inl (jw_l 0 []))), (h4, .inl (Y 1, 4, .inl (jw_l 0 [])))] H := hP
  have hD : va_D A [(h0, .inr (15, [.ref h5, .int 0, .int 0, .ref h6, .int 0, .int (-1), .int 0, .int 0, .int 0, .int 0, .int 0, .int 2, .int 0, .int 0, .int 0, .ref h7, .ref h8, .ref h9, .ref h10, .int 2, .int 0, .int 0, .int 0, .int 0, .ref h11, .ref h12, .ref h13, .ref h14, .int 0, .ref h1, .int 0, .ref h2, .ref h15, .int 0, .ref h16, .ref h3, .ref h4, .int 0, .ref h17, .ref h18, .ref h19, .ref h20, .ref h21, .ref h22, .ref h23, .ref h24, .ref h25, .int 0, .ref h26, .ref h27, .ref h28, .int (-1), .ref h29, .long 0, .long 0, .int 0, .int 0, .long 0, .long 0, .ref h30, .ref h31, .ref h32, .ref h33, .ref h34, .ref h35, .long 0])), (h1, .inl (Y 1, 100, .inl (jw_l 0 []))), (h2, .inl (Y 1, 13824, .inl (jw_l 0 []))), (h3, .inl (Y 1, 4, .inl (jw_l 0 []))), (h4, .inl (Y 1, 4, .inl (jw_l 0 [])))] := hD
  refine lv_aload_n hx hb dX12_keep_8 rfl (lv_at hl 0 rfl) ?_
  refine lv_aload_n hx hb dX12_keep_9 rfl (lv_at hl 0 rfl) ?_
  refine va_get (D := D) (ci := 15) (v := .int 0) (C := RX12) (T := TX12) (N := 66) hx hb hts iw_X12_keep__X12 hown hE.1 hP 0 rfl rfl 20 (by decide) (hts _ mw_X12_keep__3) (fun _ h9 => h9) rfl dX12_keep_10 ?_
  refine va_put (D := D) (ci := 15) (v := .int 0) (C := RX12) (T := TX12) (N := 66) hx hb hts iw_X12_keep__X12 tyX12 tyX12_ok nmX12 hown hE.1 hP hD hS 0 rfl rfl 12 (by decide) (hts _ mw_X12_keep__4) (fun _ h9 => h9) rfl (tyX12_ok 12 (by decide)) rfl rfl (Nat.le_of_ble_eq_true rfl) dX12_keep_13 (fun H locs hP hD hS => ?_)
  have hP : va_P D vwCl [(h0, .inr (15, [.ref h5, .int 0, .int 0, .ref h6, .int 0, .int (-1), .int 0, .int 0, .int 0, .int 0, .int 0, .int 2, .int 0, .int 0, .int 0, .ref h7, .ref h8, .ref h9, .ref h10, .int 2, .int 0, .int 0, .int 0, .int 0, .ref h11, .ref h12, .ref h13, .ref h14, .int 0, .ref h1, .int 0, .ref h2, .ref h15, .int 0, .ref h16, .ref h3, .ref h4, .int 0, .ref h17, .ref h18, .ref h19, .ref h20, .ref h21, .ref h22, .ref h23, .ref h24, .ref h25, .int 0, .ref h26, .ref h27, .ref h28, .int (-1), .ref h29, .long 0, .long 0, .int 0, .int 0, .long 0, .long 0, .ref h30, .ref h31, .ref h32, .ref h33, .ref h34, .ref h35, .long 0])), (h1, .inl (Y 1, 100, .inl (jw_l 0 []))), (h2, .inl (Y 1, 13824, .inl (jw_l 0 []))), (h3, .inl (Y 1, 4, .inl (jw_l 0 []))), (h4, .inl (Y 1, 4, .inl (jw_l 0 [])))] H := hP
  have hD : va_D A [(h0, .inr (15, [.ref h5, .int 0, .int 0, .ref h6, .int 0, .int (-1), .int 0, .int 0, .int 0, .int 0, .int 0, .int 2, .int 0, .int 0, .int 0, .ref h7, .ref h8, .ref h9, .ref h10, .int 2, .int 0, .int 0, .int 0, .int 0, .ref h11, .ref h12, .ref h13, .ref h14, .int 0, .ref h1, .int 0, .ref h2, .ref h15, .int 0, .ref h16, .ref h3, .ref h4, .int 0, .ref h17, .ref h18, .ref h19, .ref h20, .ref h21, .ref h22, .ref h23, .ref h24, .ref h25, .int 0, .ref h26, .ref h27, .ref h28, .int (-1), .ref h29, .long 0, .long 0, .int 0, .int 0, .long 0, .long 0, .ref h30, .ref h31, .ref h32, .ref h33, .ref h34, .ref h35, .long 0])), (h1, .inl (Y 1, 100, .inl (jw_l 0 []))), (h2, .inl (Y 1, 13824, .inl (jw_l 0 []))), (h3, .inl (Y 1, 4, .inl (jw_l 0 []))), (h4, .inl (Y 1, 4, .inl (jw_l 0 [])))] := hD
  refine lv_aload_n hx hb dX12_keep_16 rfl (lv_at hl 0 rfl) ?_
  refine lv_aload_n hx hb dX12_keep_17 rfl (lv_at hl 0 rfl) ?_
  refine va_get (D := D) (ci := 15) (v := .int 0) (C := RX12) (T := TX12) (N := 66) hx hb hts iw_X12_keep__X12 hown hE.1 hP 0 rfl rfl 22 (by decide) (hts _ mw_X12_keep__5) (fun _ h9 => h9) rfl dX12_keep_18 ?_
  refine va_put (D := D) (ci := 15) (v := .int 0) (C := RX12) (T := TX12) (N := 66) hx hb hts iw_X12_keep__X12 tyX12 tyX12_ok nmX12 hown hE.1 hP hD hS 0 rfl rfl 13 (by decide) (hts _ mw_X12_keep__6) (fun _ h9 => h9) rfl (tyX12_ok 13 (by decide)) rfl rfl (Nat.le_of_ble_eq_true rfl) dX12_keep_21 (fun H locs hP hD hS => ?_)
  have hP : va_P D vwCl [(h0, .inr (15, [.ref h5, .int 0, .int 0, .ref h6, .int 0, .int (-1), .int 0, .int 0, .int 0, .int 0, .int 0, .int 2, .int 0, .int 0, .int 0, .ref h7, .ref h8, .ref h9, .ref h10, .int 2, .int 0, .int 0, .int 0, .int 0, .ref h11, .ref h12, .ref h13, .ref h14, .int 0, .ref h1, .int 0, .ref h2, .ref h15, .int 0, .ref h16, .ref h3, .ref h4, .int 0, .ref h17, .ref h18, .ref h19, .ref h20, .ref h21, .ref h22, .ref h23, .ref h24, .ref h25, .int 0, .ref h26, .ref h27, .ref h28, .int (-1), .ref h29, .long 0, .long 0, .int 0, .int 0, .long 0, .long 0, .ref h30, .ref h31, .ref h32, .ref h33, .ref h34, .ref h35, .long 0])), (h1, .inl (Y 1, 100, .inl (jw_l 0 []))), (h2, .inl (Y 1, 13824, .inl (jw_l 0 []))), (h3, .inl (Y 1, 4, .inl (jw_l 0 []))), (h4, .inl (Y 1, 4, .inl (jw_l 0 [])))] H := hP
  have hD : va_D A [(h0, .inr (15, [.ref h5, .int 0, .int 0, .ref h6, .int 0, .int (-1), .int 0, .int 0, .int 0, .int 0, .int 0, .int 2, .int 0, .int 0, .int 0, .ref h7, .ref h8, .ref h9, .ref h10, .int 2, .int 0, .int 0, .int 0, .int 0, .ref h11, .ref h12, .ref h13, .ref h14, .int 0, .ref h1, .int 0, .ref h2, .ref h15, .int 0, .ref h16, .ref h3, .ref h4, .int 0, .ref h17, .ref h18, .ref h19, .ref h20, .ref h21, .ref h22, .ref h23, .ref h24, .ref h25, .int 0, .ref h26, .ref h27, .ref h28, .int (-1), .ref h29, .long 0, .long 0, .int 0, .int 0, .long 0, .long 0, .ref h30, .ref h31, .ref h32, .ref h33, .ref h34, .ref h35, .long 0])), (h1, .inl (Y 1, 100, .inl (jw_l 0 []))), (h2, .inl (Y 1, 13824, .inl (jw_l 0 []))), (h3, .inl (Y 1, 4, .inl (jw_l 0 []))), (h4, .inl (Y 1, 4, .inl (jw_l 0 [])))] := hD
  refine lv_aload_n hx hb dX12_keep_24 rfl (lv_at hl 0 rfl) ?_
  refine lv_aload_n hx hb dX12_keep_25 rfl (lv_at hl 0 rfl) ?_
  refine va_get (D := D) (ci := 15) (v := .int 0) (C := RX12) (T := TX12) (N := 66) hx hb hts iw_X12_keep__X12 hown hE.1 hP 0 rfl rfl 23 (by decide) (hts _ mw_X12_keep__7) (fun _ h9 => h9) rfl dX12_keep_26 ?_
  refine va_put (D := D) (ci := 15) (v := .int 0) (C := RX12) (T := TX12) (N := 66) hx hb hts iw_X12_keep__X12 tyX12 tyX12_ok nmX12 hown hE.1 hP hD hS 0 rfl rfl 14 (by decide) (hts _ mw_X12_keep__8) (fun _ h9 => h9) rfl (tyX12_ok 14 (by decide)) rfl rfl (Nat.le_of_ble_eq_true rfl) dX12_keep_29 (fun H locs hP hD hS => ?_)
  have hP : va_P D vwCl [(h0, .inr (15, [.ref h5, .int 0, .int 0, .ref h6, .int 0, .int (-1), .int 0, .int 0, .int 0, .int 0, .int 0, .int 2, .int 0, .int 0, .int 0, .ref h7, .ref h8, .ref h9, .ref h10, .int 2, .int 0, .int 0, .int 0, .int 0, .ref h11, .ref h12, .ref h13, .ref h14, .int 0, .ref h1, .int 0, .ref h2, .ref h15, .int 0, .ref h16, .ref h3, .ref h4, .int 0, .ref h17, .ref h18, .ref h19, .ref h20, .ref h21, .ref h22, .ref h23, .ref h24, .ref h25, .int 0, .ref h26, .ref h27, .ref h28, .int (-1), .ref h29, .long 0, .long 0, .int 0, .int 0, .long 0, .long 0, .ref h30, .ref h31, .ref h32, .ref h33, .ref h34, .ref h35, .long 0])), (h1, .inl (Y 1, 100, .inl (jw_l 0 []))), (h2, .inl (Y 1, 13824, .inl (jw_l 0 []))), (h3, .inl (Y 1, 4, .inl (jw_l 0 []))), (h4, .inl (Y 1, 4, .inl (jw_l 0 [])))] H := hP
  have hD : va_D A [(h0, .inr (15, [.ref h5, .int 0, .int 0, .ref h6, .int 0, .int (-1), .int 0, .int 0, .int 0, .int 0, .int 0, .int 2, .int 0, .int 0, .int 0, .ref h7, .ref h8, .ref h9, .ref h10, .int 2, .int 0, .int 0, .int 0, .int 0, .ref h11, .ref h12, .ref h13, .ref h14, .int 0, .ref h1, .int 0, .ref h2, .ref h15, .int 0, .ref h16, .ref h3, .ref h4, .int 0, .ref h17, .ref h18, .ref h19, .ref h20, .ref h21, .ref h22, .ref h23, .ref h24, .ref h25, .int 0, .ref h26, .ref h27, .ref h28, .int (-1), .ref h29, .long 0, .long 0, .int 0, .int 0, .long 0, .long 0, .ref h30, .ref h31, .ref h32, .ref h33, .ref h34, .ref h35, .long 0])), (h1, .inl (Y 1, 100, .inl (jw_l 0 []))), (h2, .inl (Y 1, 13824, .inl (jw_l 0 []))), (h3, .inl (Y 1, 4, .inl (jw_l 0 []))), (h4, .inl (Y 1, 4, .inl (jw_l 0 [])))] := hD
  refine lv_iconst (v := 0) hx hb dX12_keep_32 (by decide +kernel) ?_
  refine lv_istore_n (lv' := [(1, .int 0), (0, .ref h0)]) hx hb dX12_keep_33 rfl hl (by decide) rfl (fun ls hl => ?_)
  refine lv_iload_n hx hb dX12_keep_34 rfl (lv_at hl 0 rfl) ?_
  refine lv_aload_n hx hb dX12_keep_35 rfl (lv_at hl 1 rfl) ?_
  refine va_get (D := D) (ci := 15) (v := .int 0) (C := RX12) (T := TX12) (N := 66) hx hb hts iw_X12_keep__X12 hown hE.1 hP 0 rfl rfl 21 (by decide) (hts _ mw_X12_keep__9) (fun _ h9 => h9) rfl dX12_keep_36 ?_
  refine lv_icmp_ge (tgt := 60) hx hb dX12_keep_39 (by decide) (fun _ => ?_) (fun c9 => absurd (by decide +kernel) c9)
  refine lv_iconst (v := 0) hx hb dX12_keep_60 (by decide +kernel) ?_
  refine lv_istore_n (lv' := [(1, .int 0), (0, .ref h0)]) hx hb dX12_keep_61 rfl hl (by decide) rfl (fun ls hl => ?_)
  refine lv_iload_n hx hb dX12_keep_62 rfl (lv_at hl 0 rfl) ?_
  refine lv_aload_n hx hb dX12_keep_63 rfl (lv_at hl 1 rfl) ?_
  refine va_get (D := D) (ci := 15) (v := .int 0) (C := RX12) (T := TX12) (N := 66) hx hb hts iw_X12_keep__X12 hown hE.1 hP 0 rfl rfl 13 (by decide) (hts _ mw_X12_keep__6) (fun _ h9 => h9) rfl dX12_keep_64 ?_
  refine lv_icmp_ge (tgt := 100) hx hb dX12_keep_67 (by decide) (fun _ => ?_) (fun c9 => absurd (by decide +kernel) c9)
  refine lv_iconst (v := 0) hx hb dX12_keep_100 (by decide +kernel) ?_
  refine lv_istore_n (lv' := [(1, .int 0), (0, .ref h0)]) hx hb dX12_keep_101 rfl hl (by decide) rfl (fun ls hl => ?_)
  refine lv_iload_n hx hb dX12_keep_102 rfl (lv_at hl 0 rfl) ?_
  refine lv_iconst (v := 3) hx hb dX12_keep_103 (by decide +kernel) ?_
  refine lv_aload_n hx hb dX12_keep_104 rfl (lv_at hl 1 rfl) ?_
  refine va_get (D := D) (ci := 15) (v := .int 0) (C := RX12) (T := TX12) (N := 66) hx hb hts iw_X12_keep__X12 hown hE.1 hP 0 rfl rfl 14 (by decide) (hts _ mw_X12_keep__8) (fun _ h9 => h9) rfl dX12_keep_105 ?_
  refine jw_imul (v := 0) hx hb dX12_keep_108 (by decide +kernel) ?_
  refine lv_icmp_ge (tgt := 130) hx hb dX12_keep_109 (by decide) (fun _ => ?_) (fun c9 => absurd (by decide +kernel) c9)
  refine lv_aload_n hx hb dX12_keep_130 rfl (lv_at hl 1 rfl) ?_
  refine jw_mv (wc := [(h0, .inr (15, [.ref h5, .int 0, .int 0, .ref h6, .int 0, .int (-1), .int 0, .int 0, .int 0, .int 0, .int 0, .int 2, .int 0, .int 0, .int 0, .ref h7, .ref h8, .ref h9, .ref h10, .int 2, .int 0, .int 0, .int 0, .int 0, .ref h11, .ref h12, .ref h13, .ref h14, .int 0, .ref h1, .int 0, .ref h2, .ref h15, .int 0, .ref h16, .ref h3, .ref h4, .int 0, .ref h17, .ref h18, .ref h19, .ref h20, .ref h21, .ref h22, .ref h23, .ref h24, .ref h25, .int 0, .ref h26, .ref h27, .ref h28, .int (-1), .ref h29, .long 0, .long 0, .int 0, .int 0, .long 0, .long 0, .ref h30, .ref h31, .ref h32, .ref h33, .ref h34, .ref h35, .long 0])), (h1, .inl (Y 1, 100, .inl (jw_l 0 [])))]) (cs := 0) (ss := 0) (va_runV (As := []) (rest := []) ⟨hx, hb, hml, hown, hts⟩ (k1_X12_layRows h0 h1 h5 h6 h7 h8 h9 h10 h11 h12 h13 h14 h2 h15 h16 h3 h4 h17 h18 h19 h20 h21 h22 h23 h24 h25 h26 h27 h28 h29 h30 h31 h32 h33 h34 h35 H.size) (cwV 0 hts gX12_keep_X12_layRows rfl rfl rfl ydV_X12_layRows ⟨Nat.le_of_ble_eq_true rfl, Nat.le_of_ble_eq_true rfl⟩) (jw_mpreV (ci := 15) (q0 := 0) hP hD hS hA hE [true, true] rfl rfl rfl) rfl rfl hl.1 rfl (lv_room (Nat.le_of_ble_eq_true rfl)) dX12_keep_131 ⟨Nat.le_of_ble_eq_true rfl, Nat.le_of_ble_eq_true rfl⟩) hP hD hS hA [true, true] rfl rfl rfl (fun w1 H locs hw9 hP hD hS => ?_)
  subst hw9
  have hP : va_P D vwCl [(h0, .inr (15, [.ref h5, .int 0, .int 0, .ref h6, .int 0, .int (-1), .int 0, .int 0, .int 0, .int 0, .int 0, .int 2, .int 0, .int 0, .int 0, .ref h7, .ref h8, .ref h9, .ref h10, .int 2, .int 0, .int 0, .int 0, .int 0, .ref h11, .ref h12, .ref h13, .ref h14, .int 2, .ref h1, .int 0, .ref h2, .ref h15, .int 0, .ref h16, .ref h3, .ref h4, .int 0, .ref h17, .ref h18, .ref h19, .ref h20, .ref h21, .ref h22, .ref h23, .ref h24, .ref h25, .int 0, .ref h26, .ref h27, .ref h28, .int (-1), .ref h29, .long 0, .long 0, .int 0, .int 0, .long 0, .long 0, .ref h30, .ref h31, .ref h32, .ref h33, .ref h34, .ref h35, .long 0])), (h1, .inl (Y 1, 100, .inl (jw_l 0 [0, 1, 0, 0, 1, 0, 0, 0, 1, 1]))), (h2, .inl (Y 1, 13824, .inl (jw_l 0 []))), (h3, .inl (Y 1, 4, .inl (jw_l 0 []))), (h4, .inl (Y 1, 4, .inl (jw_l 0 [])))] H := hP
  have hD : va_D A [(h0, .inr (15, [.ref h5, .int 0, .int 0, .ref h6, .int 0, .int (-1), .int 0, .int 0, .int 0, .int 0, .int 0, .int 2, .int 0, .int 0, .int 0, .ref h7, .ref h8, .ref h9, .ref h10, .int 2, .int 0, .int 0, .int 0, .int 0, .ref h11, .ref h12, .ref h13, .ref h14, .int 2, .ref h1, .int 0, .ref h2, .ref h15, .int 0, .ref h16, .ref h3, .ref h4, .int 0, .ref h17, .ref h18, .ref h19, .ref h20, .ref h21, .ref h22, .ref h23, .ref h24, .ref h25, .int 0, .ref h26, .ref h27, .ref h28, .int (-1), .ref h29, .long 0, .long 0, .int 0, .int 0, .long 0, .long 0, .ref h30, .ref h31, .ref h32, .ref h33, .ref h34, .ref h35, .long 0])), (h1, .inl (Y 1, 100, .inl (jw_l 0 [0, 1, 0, 0, 1, 0, 0, 0, 1, 1]))), (h2, .inl (Y 1, 13824, .inl (jw_l 0 []))), (h3, .inl (Y 1, 4, .inl (jw_l 0 []))), (h4, .inl (Y 1, 4, .inl (jw_l 0 [])))] := hD
  refine lv_aload_n hx hb dX12_keep_134 rfl (lv_at hl 1 rfl) ?_
  refine jw_mv (wc := [(h0, .inr (15, [.ref h5, .int 0, .int 0, .ref h6, .int 0, .int (-1), .int 0, .int 0, .int 0, .int 0, .int 0, .int 2, .int 0, .int 0, .int 0, .ref h7, .ref h8, .ref h9, .ref h10, .int 2, .int 0, .int 0, .int 0, .int 0, .ref h11, .ref h12, .ref h13, .ref h14, .int 2, .ref h1, .int 0, .ref h2, .ref h15, .int 0, .ref h16, .ref h3, .ref h4, .int 0, .ref h17, .ref h18, .ref h19, .ref h20, .ref h21, .ref h22, .ref h23, .ref h24, .ref h25, .int 0, .ref h26, .ref h27, .ref h28, .int (-1), .ref h29, .long 0, .long 0, .int 0, .int 0, .long 0, .long 0, .ref h30, .ref h31, .ref h32, .ref h33, .ref h34, .ref h35, .long 0])), (h2, .inl (Y 1, 13824, .inl (jw_l 0 [])))]) (cs := 0) (ss := 0) (va_runV (As := []) (rest := []) ⟨hx, hb, hml, hown, hts⟩ (k2_X12_layDraws h0 h2 h5 h6 h7 h8 h9 h10 h11 h12 h13 h14 h1 h15 h16 h3 h4 h17 h18 h19 h20 h21 h22 h23 h24 h25 h26 h27 h28 h29 h30 h31 h32 h33 h34 h35 H.size) (cwV 0 hts gX12_keep_X12_layDraws rfl rfl rfl ydV_X12_layDraws ⟨Nat.le_of_ble_eq_true rfl, Nat.le_of_ble_eq_true rfl⟩) (jw_mpreV (ci := 15) (q0 := 0) hP hD hS hA hE [true, false, true] rfl rfl rfl) rfl rfl hl.1 rfl (lv_room (Nat.le_of_ble_eq_true rfl)) dX12_keep_135 ⟨Nat.le_of_ble_eq_true rfl, Nat.le_of_ble_eq_true rfl⟩) hP hD hS hA [true, false, true] rfl rfl rfl (fun w1 H locs hw9 hP hD hS => ?_)
  subst hw9
  have hP : va_P D vwCl [(h0, .inr (15, [.ref h5, .int 0, .int 0, .ref h6, .int 0, .int (-1), .int 0, .int 0, .int 0, .int 0, .int 0, .int 2, .int 0, .int 0, .int 0, .ref h7, .ref h8, .ref h9, .ref h10, .int 2, .int 0, .int 0, .int 0, .int 0, .ref h11, .ref h12, .ref h13, .ref h14, .int 2, .ref h1, .int 1, .ref h2, .ref h15, .int 1, .ref h16, .ref h3, .ref h4, .int 0, .ref h17, .ref h18, .ref h19, .ref h20, .ref h21, .ref h22, .ref h23, .ref h24, .ref h25, .int 0, .ref h26, .ref h27, .ref h28, .int (-1), .ref h29, .long 0, .long 0, .int 0, .int 0, .long 0, .long 0, .ref h30, .ref h31, .ref h32, .ref h33, .ref h34, .ref h35, .long 0])), (h1, .inl (Y 1, 100, .inl (jw_l 0 [0, 1, 0, 0, 1, 0, 0, 0, 1, 1]))), (h2, .inl (Y 1, 13824, .inl (jw_l 0 [0]))), (h3, .inl (Y 1, 4, .inl (jw_l 0 []))), (h4, .inl (Y 1, 4, .inl (jw_l 0 [])))] H := hP
  have hD : va_D A [(h0, .inr (15, [.ref h5, .int 0, .int 0, .ref h6, .int 0, .int (-1), .int 0, .int 0, .int 0, .int 0, .int 0, .int 2, .int 0, .int 0, .int 0, .ref h7, .ref h8, .ref h9, .ref h10, .int 2, .int 0, .int 0, .int 0, .int 0, .ref h11, .ref h12, .ref h13, .ref h14, .int 2, .ref h1, .int 1, .ref h2, .ref h15, .int 1, .ref h16, .ref h3, .ref h4, .int 0, .ref h17, .ref h18, .ref h19, .ref h20, .ref h21, .ref h22, .ref h23, .ref h24, .ref h25, .int 0, .ref h26, .ref h27, .ref h28, .int (-1), .ref h29, .long 0, .long 0, .int 0, .int 0, .long 0, .long 0, .ref h30, .ref h31, .ref h32, .ref h33, .ref h34, .ref h35, .long 0])), (h1, .inl (Y 1, 100, .inl (jw_l 0 [0, 1, 0, 0, 1, 0, 0, 0, 1, 1]))), (h2, .inl (Y 1, 13824, .inl (jw_l 0 [0]))), (h3, .inl (Y 1, 4, .inl (jw_l 0 []))), (h4, .inl (Y 1, 4, .inl (jw_l 0 [])))] := hD
  refine lv_iconst (v := 0) hx hb dX12_keep_138 (by decide +kernel) ?_
  refine lv_istore_n (lv' := [(1, .int 0), (0, .ref h0)]) hx hb dX12_keep_139 rfl hl (by decide) rfl (fun ls hl => ?_)
  refine lv_iload_n hx hb dX12_keep_140 rfl (lv_at hl 0 rfl) ?_
  refine lv_iconst (v := 4) hx hb dX12_keep_141 (by decide +kernel) ?_
  refine lv_icmp_ge (tgt := 165) hx hb dX12_keep_142 (by decide) (fun c9 => absurd c9 (by decide +kernel)) (fun _ => ?_)
  refine lv_aload_n hx hb dX12_keep_145 rfl (lv_at hl 1 rfl) ?_
  refine va_get (D := D) (ci := 15) (v := .ref h3) (C := RX12) (T := TX12) (N := 66) hx hb hts iw_X12_keep__X12 hown hE.1 hP 0 rfl rfl 35 (by decide) (hts _ mw_X12_keep__18) (fun _ h9 => h9) rfl dX12_keep_146 ?_
  refine lv_iload_n hx hb dX12_keep_149 rfl (lv_at hl 0 rfl) ?_
  refine lv_iload_n hx hb dX12_keep_150 rfl (lv_at hl 0 rfl) ?_
  refine jw_iast (ws' := [(h0, .inr (15, [.ref h5, .int 0, .int 0, .ref h6, .int 0, .int (-1), .int 0, .int 0, .int 0, .int 0, .int 0, .int 2, .int 0, .int 0, .int 0, .ref h7, .ref h8, .ref h9, .ref h10, .int 2, .int 0, .int 0, .int 0, .int 0, .ref h11, .ref h12, .ref h13, .ref h14, .int 2, .ref h1, .int 1, .ref h2, .ref h15, .int 1, .ref h16, .ref h3, .ref h4, .int 0, .ref h17, .ref h18, .ref h19, .ref h20, .ref h21, .ref h22, .ref h23, .ref h24, .ref h25, .int 0, .ref h26, .ref h27, .ref h28, .int (-1), .ref h29, .long 0, .long 0, .int 0, .int 0, .long 0, .long 0, .ref h30, .ref h31, .ref h32, .ref h33, .ref h34, .ref h35, .long 0])), (h1, .inl (Y 1, 100, .inl (jw_l 0 [0, 1, 0, 0, 1, 0, 0, 0, 1, 1]))), (h2, .inl (Y 1, 13824, .inl (jw_l 0 [0]))), (h3, .inl (Y 1, 4, .inl (jw_l 0 [0]))), (h4, .inl (Y 1, 4, .inl (jw_l 0 [])))]) hx hb hE hP hD hS 3 0 [0] rfl (by decide +kernel) (by decide +kernel) rfl dX12_keep_151 (fun H locs hP hD hS => ?_)
  refine lv_aload_n hx hb dX12_keep_152 rfl (lv_at hl 1 rfl) ?_
  refine va_get (D := D) (ci := 15) (v := .ref h4) (C := RX12) (T := TX12) (N := 66) hx hb hts iw_X12_keep__X12 hown hE.1 hP 0 rfl rfl 36 (by decide) (hts _ mw_X12_keep__19) (fun _ h9 => h9) rfl dX12_keep_153 ?_
  refine lv_iload_n hx hb dX12_keep_156 rfl (lv_at hl 0 rfl) ?_
  refine lv_iload_n hx hb dX12_keep_157 rfl (lv_at hl 0 rfl) ?_
  refine jw_iast (ws' := [(h0, .inr (15, [.ref h5, .int 0, .int 0, .ref h6, .int 0, .int (-1), .int 0, .int 0, .int 0, .int 0, .int 0, .int 2, .int 0, .int 0, .int 0, .ref h7, .ref h8, .ref h9, .ref h10, .int 2, .int 0, .int 0, .int 0, .int 0, .ref h11, .ref h12, .ref h13, .ref h14, .int 2, .ref h1, .int 1, .ref h2, .ref h15, .int 1, .ref h16, .ref h3, .ref h4, .int 0, .ref h17, .ref h18, .ref h19, .ref h20, .ref h21, .ref h22, .ref h23, .ref h24, .ref h25, .int 0, .ref h26, .ref h27, .ref h28, .int (-1), .ref h29, .long 0, .long 0, .int 0, .int 0, .long 0, .long 0, .ref h30, .ref h31, .ref h32, .ref h33, .ref h34, .ref h35, .long 0])), (h1, .inl (Y 1, 100, .inl (jw_l 0 [0, 1, 0, 0, 1, 0, 0, 0, 1, 1]))), (h2, .inl (Y 1, 13824, .inl (jw_l 0 [0]))), (h3, .inl (Y 1, 4, .inl (jw_l 0 [0]))), (h4, .inl (Y 1, 4, .inl (jw_l 0 [0])))]) hx hb hE hP hD hS 4 0 [0] rfl (by decide +kernel) (by decide +kernel) rfl dX12_keep_158 (fun H locs hP hD hS => ?_)
  refine lv_iinc (v := 1) (lv' := [(1, .int 1), (0, .ref h0)]) hx hb dX12_keep_159 hl (k := 0) rfl (by decide +kernel) (by decide) rfl (fun ls hl => ?_)
  refine lv_goto (tgt := 140) hx hb dX12_keep_162 (by decide) ?_
  refine lv_iload_n hx hb dX12_keep_140 rfl (lv_at hl 0 rfl) ?_
  refine lv_iconst (v := 4) hx hb dX12_keep_141 (by decide +kernel) ?_
  refine lv_icmp_ge (tgt := 165) hx hb dX12_keep_142 (by decide) (fun c9 => absurd c9 (by decide +kernel)) (fun _ => ?_)
  refine lv_aload_n hx hb dX12_keep_145 rfl (lv_at hl 1 rfl) ?_
  refine va_get (D := D) (ci := 15) (v := .ref h3) (C := RX12) (T := TX12) (N := 66) hx hb hts iw_X12_keep__X12 hown hE.1 hP 0 rfl rfl 35 (by decide) (hts _ mw_X12_keep__18) (fun _ h9 => h9) rfl dX12_keep_146 ?_
  refine lv_iload_n hx hb dX12_keep_149 rfl (lv_at hl 0 rfl) ?_
  refine lv_iload_n hx hb dX12_keep_150 rfl (lv_at hl 0 rfl) ?_
  refine jw_iast (ws' := [(h0, .inr (15, [.ref h5, .int 0, .int 0, .ref h6, .int 0, .int (-1), .int 0, .int 0, .int 0, .int 0, .int 0, .int 2, .int 0, .int 0, .int 0, .ref h7, .ref h8, .ref h9, .ref h10, .int 2, .int 0, .int 0, .int 0, .int 0, .ref h11, .ref h12, .ref h13, .ref h14, .int 2, .ref h1, .int 1, .ref h2, .ref h15, .int 1, .ref h16, .ref h3, .ref h4, .int 0, .ref h17, .ref h18, .ref h19, .ref h20, .ref h21, .ref h22, .ref h23, .ref h24, .ref h25, .int 0, .ref h26, .ref h27, .ref h28, .int (-1), .ref h29, .long 0, .long 0, .int 0, .int 0, .long 0, .long 0, .ref h30, .ref h31, .ref h32, .ref h33, .ref h34, .ref h35, .long 0])), (h1, .inl (Y 1, 100, .inl (jw_l 0 [0, 1, 0, 0, 1, 0, 0, 0, 1, 1]))), (h2, .inl (Y 1, 13824, .inl (jw_l 0 [0]))), (h3, .inl (Y 1, 4, .inl (jw_l 0 [0, 1]))), (h4, .inl (Y 1, 4, .inl (jw_l 0 [0])))]) hx hb hE hP hD hS 3 1 [0, 1] rfl (by decide +kernel) (by decide +kernel) rfl dX12_keep_151 (fun H locs hP hD hS => ?_)
  refine lv_aload_n hx hb dX12_keep_152 rfl (lv_at hl 1 rfl) ?_
  refine va_get (D := D) (ci := 15) (v := .ref h4) (C := RX12) (T := TX12) (N := 66) hx hb hts iw_X12_keep__X12 hown hE.1 hP 0 rfl rfl 36 (by decide) (hts _ mw_X12_keep__19) (fun _ h9 => h9) rfl dX12_keep_153 ?_
  refine lv_iload_n hx hb dX12_keep_156 rfl (lv_at hl 0 rfl) ?_
  refine lv_iload_n hx hb dX12_keep_157 rfl (lv_at hl 0 rfl) ?_
  refine jw_iast (ws' := [(h0, .inr (15, [.ref h5, .int 0, .int 0, .ref h6, .int 0, .int (-1), .int 0, .int 0, .int 0, .int 0, .int 0, .int 2, .int 0, .int 0, .int 0, .ref h7, .ref h8, .ref h9, .ref h10, .int 2, .int 0, .int 0, .int 0, .int 0, .ref h11, .ref h12, .ref h13, .ref h14, .int 2, .ref h1, .int 1, .ref h2, .ref h15, .int 1, .ref h16, .ref h3, .ref h4, .int 0, .ref h17, .ref h18, .ref h19, .ref h20, .ref h21, .ref h22, .ref h23, .ref h24, .ref h25, .int 0, .ref h26, .ref h27, .ref h28, .int (-1), .ref h29, .long 0, .long 0, .int 0, .int 0, .long 0, .long 0, .ref h30, .ref h31, .ref h32, .ref h33, .ref h34, .ref h35, .long 0])), (h1, .inl (Y 1, 100, .inl (jw_l 0 [0, 1, 0, 0, 1, 0, 0, 0, 1, 1]))), (h2, .inl (Y 1, 13824, .inl (jw_l 0 [0]))), (h3, .inl (Y 1, 4, .inl (jw_l 0 [0, 1]))), (h4, .inl (Y 1, 4, .inl (jw_l 0 [0, 1])))]) hx hb hE hP hD hS 4 1 [0, 1] rfl (by decide +kernel) (by decide +kernel) rfl dX12_keep_158 (fun H locs hP hD hS => ?_)
  refine lv_iinc (v := 2) (lv' := [(1, .int 2), (0, .ref h0)]) hx hb dX12_keep_159 hl (k := 0) rfl (by decide +kernel) (by decide) rfl (fun ls hl => ?_)
  refine lv_goto (tgt := 140) hx hb dX12_keep_162 (by decide) ?_
  refine lv_iload_n hx hb dX12_keep_140 rfl (lv_at hl 0 rfl) ?_
  refine lv_iconst (v := 4) hx hb dX12_keep_141 (by decide +kernel) ?_
  refine lv_icmp_ge (tgt := 165) hx hb dX12_keep_142 (by decide) (fun c9 => absurd c9 (by decide +kernel)) (fun _ => ?_)
  refine lv_aload_n hx hb dX12_keep_145 rfl (lv_at hl 1 rfl) ?_
  refine va_get (D := D) (ci := 15) (v := .ref h3) (C := RX12) (T := TX12) (N := 66) hx hb hts iw_X12_keep__X12 hown hE.1 hP 0 rfl rfl 35 (by decide) (hts _ mw_X12_keep__18) (fun _ h9 => h9) rfl dX12_keep_146 ?_
  refine lv_iload_n hx hb dX12_keep_149 rfl (lv_at hl 0 rfl) ?_
  refine lv_iload_n hx hb dX12_keep_150 rfl (lv_at hl 0 rfl) ?_
  refine jw_iast (ws' := [(h0, .inr (15, [.ref h5, .int 0, .int 0, .ref h6, .int 0, .int (-1), .int 0, .int 0, .int 0, .int 0, .int 0, .int 2, .int 0, .int 0, .int 0, .ref h7, .ref h8, .ref h9, .ref h10, .int 2, .int 0, .int 0, .int 0, .int 0, .ref h11, .ref h12, .ref h13, .ref h14, .int 2, .ref h1, .int 1, .ref h2, .ref h15, .int 1, .ref h16, .ref h3, .ref h4, .int 0, .ref h17, .ref h18, .ref h19, .ref h20, .ref h21, .ref h22, .ref h23, .ref h24, .ref h25, .int 0, .ref h26, .ref h27, .ref h28, .int (-1), .ref h29, .long 0, .long 0, .int 0, .int 0, .long 0, .long 0, .ref h30, .ref h31, .ref h32, .ref h33, .ref h34, .ref h35, .long 0])), (h1, .inl (Y 1, 100, .inl (jw_l 0 [0, 1, 0, 0, 1, 0, 0, 0, 1, 1]))), (h2, .inl (Y 1, 13824, .inl (jw_l 0 [0]))), (h3, .inl (Y 1, 4, .inl (jw_l 0 [0, 1, 2]))), (h4, .inl (Y 1, 4, .inl (jw_l 0 [0, 1])))]) hx hb hE hP hD hS 3 2 [0, 1, 2] rfl (by decide +kernel) (by decide +kernel) rfl dX12_keep_151 (fun H locs hP hD hS => ?_)
  refine lv_aload_n hx hb dX12_keep_152 rfl (lv_at hl 1 rfl) ?_
  refine va_get (D := D) (ci := 15) (v := .ref h4) (C := RX12) (T := TX12) (N := 66) hx hb hts iw_X12_keep__X12 hown hE.1 hP 0 rfl rfl 36 (by decide) (hts _ mw_X12_keep__19) (fun _ h9 => h9) rfl dX12_keep_153 ?_
  refine lv_iload_n hx hb dX12_keep_156 rfl (lv_at hl 0 rfl) ?_
  refine lv_iload_n hx hb dX12_keep_157 rfl (lv_at hl 0 rfl) ?_
  refine jw_iast (ws' := [(h0, .inr (15, [.ref h5, .int 0, .int 0, .ref h6, .int 0, .int (-1), .int 0, .int 0, .int 0, .int 0, .int 0, .int 2, .int 0, .int 0, .int 0, .ref h7, .ref h8, .ref h9, .ref h10, .int 2, .int 0, .int 0, .int 0, .int 0, .ref h11, .ref h12, .ref h13, .ref h14, .int 2, .ref h1, .int 1, .ref h2, .ref h15, .int 1, .ref h16, .ref h3, .ref h4, .int 0, .ref h17, .ref h18, .ref h19, .ref h20, .ref h21, .ref h22, .ref h23, .ref h24, .ref h25, .int 0, .ref h26, .ref h27, .ref h28, .int (-1), .ref h29, .long 0, .long 0, .int 0, .int 0, .long 0, .long 0, .ref h30, .ref h31, .ref h32, .ref h33, .ref h34, .ref h35, .long 0])), (h1, .inl (Y 1, 100, .inl (jw_l 0 [0, 1, 0, 0, 1, 0, 0, 0, 1, 1]))), (h2, .inl (Y 1, 13824, .inl (jw_l 0 [0]))), (h3, .inl (Y 1, 4, .inl (jw_l 0 [0, 1, 2]))), (h4, .inl (Y 1, 4, .inl (jw_l 0 [0, 1, 2])))]) hx hb hE hP hD hS 4 2 [0, 1, 2] rfl (by decide +kernel) (by decide +kernel) rfl dX12_keep_158 (fun H locs hP hD hS => ?_)
  refine lv_iinc (v := 3) (lv' := [(1, .int 3), (0, .ref h0)]) hx hb dX12_keep_159 hl (k := 0) rfl (by decide +kernel) (by decide) rfl (fun ls hl => ?_)
  refine lv_goto (tgt := 140) hx hb dX12_keep_162 (by decide) ?_
  refine lv_iload_n hx hb dX12_keep_140 rfl (lv_at hl 0 rfl) ?_
  refine lv_iconst (v := 4) hx hb dX12_keep_141 (by decide +kernel) ?_
  refine lv_icmp_ge (tgt := 165) hx hb dX12_keep_142 (by decide) (fun c9 => absurd c9 (by decide +kernel)) (fun _ => ?_)
  refine lv_aload_n hx hb dX12_keep_145 rfl (lv_at hl 1 rfl) ?_
  refine va_get (D := D) (ci := 15) (v := .ref h3) (C := RX12) (T := TX12) (N := 66) hx hb hts iw_X12_keep__X12 hown hE.1 hP 0 rfl rfl 35 (by decide) (hts _ mw_X12_keep__18) (fun _ h9 => h9) rfl dX12_keep_146 ?_
  refine lv_iload_n hx hb dX12_keep_149 rfl (lv_at hl 0 rfl) ?_
  refine lv_iload_n hx hb dX12_keep_150 rfl (lv_at hl 0 rfl) ?_
  refine jw_iast (ws' := [(h0, .inr (15, [.ref h5, .int 0, .int 0, .ref h6, .int 0, .int (-1), .int 0, .int 0, .int 0, .int 0, .int 0, .int 2, .int 0, .int 0, .int 0, .ref h7, .ref h8, .ref h9, .ref h10, .int 2, .int 0, .int 0, .int 0, .int 0, .ref h11, .ref h12, .ref h13, .ref h14, .int 2, .ref h1, .int 1, .ref h2, .ref h15, .int 1, .ref h16, .ref h3, .ref h4, .int 0, .ref h17, .ref h18, .ref h19, .ref h20, .ref h21, .ref h22, .ref h23, .ref h24, .ref h25, .int 0, .ref h26, .ref h27, .ref h28, .int (-1), .ref h29, .long 0, .long 0, .int 0, .int 0, .long 0, .long 0, .ref h30, .ref h31, .ref h32, .ref h33, .ref h34, .ref h35, .long 0])), (h1, .inl (Y 1, 100, .inl (jw_l 0 [0, 1, 0, 0, 1, 0, 0, 0, 1, 1]))), (h2, .inl (Y 1, 13824, .inl (jw_l 0 [0]))), (h3, .inl (Y 1, 4, .inl (jw_l 0 [0, 1, 2, 3]))), (h4, .inl (Y 1, 4, .inl (jw_l 0 [0, 1, 2])))]) hx hb hE hP hD hS 3 3 [0, 1, 2, 3] rfl (by decide +kernel) (by decide +kernel) rfl dX12_keep_151 (fun H locs hP hD hS => ?_)
  refine lv_aload_n hx hb dX12_keep_152 rfl (lv_at hl 1 rfl) ?_
  refine va_get (D := D) (ci := 15) (v := .ref h4) (C := RX12) (T := TX12) (N := 66) hx hb hts iw_X12_keep__X12 hown hE.1 hP 0 rfl rfl 36 (by decide) (hts _ mw_X12_keep__19) (fun _ h9 => h9) rfl dX12_keep_153 ?_
  refine lv_iload_n hx hb dX12_keep_156 rfl (lv_at hl 0 rfl) ?_
  refine lv_iload_n hx hb dX12_keep_157 rfl (lv_at hl 0 rfl) ?_
  refine jw_iast (ws' := [(h0, .inr (15, [.ref h5, .int 0, .int 0, .ref h6, .int 0, .int (-1), .int 0, .int 0, .int 0, .int 0, .int 0, .int 2, .int 0, .int 0, .int 0, .ref h7, .ref h8, .ref h9, .ref h10, .int 2, .int 0, .int 0, .int 0, .int 0, .ref h11, .ref h12, .ref h13, .ref h14, .int 2, .ref h1, .int 1, .ref h2, .ref h15, .int 1, .ref h16, .ref h3, .ref h4, .int 0, .ref h17, .ref h18, .ref h19, .ref h20, .ref h21, .ref h22, .ref h23, .ref h24, .ref h25, .int 0, .ref h26, .ref h27, .ref h28, .int (-1), .ref h29, .long 0, .long 0, .int 0, .int 0, .long 0, .long 0, .ref h30, .ref h31, .ref h32, .ref h33, .ref h34, .ref h35, .long 0])), (h1, .inl (Y 1, 100, .inl (jw_l 0 [0, 1, 0, 0, 1, 0, 0, 0, 1, 1]))), (h2, .inl (Y 1, 13824, .inl (jw_l 0 [0]))), (h3, .inl (Y 1, 4, .inl (jw_l 0 [0, 1, 2, 3]))), (h4, .inl (Y 1, 4, .inl (jw_l 0 [0, 1, 2, 3])))]) hx hb hE hP hD hS 4 3 [0, 1, 2, 3] rfl (by decide +kernel) (by decide +kernel) rfl dX12_keep_158 (fun H locs hP hD hS => ?_)
  refine lv_iinc (v := 4) (lv' := [(1, .int 4), (0, .ref h0)]) hx hb dX12_keep_159 hl (k := 0) rfl (by decide +kernel) (by decide) rfl (fun ls hl => ?_)
  refine lv_goto (tgt := 140) hx hb dX12_keep_162 (by decide) ?_
  refine lv_iload_n hx hb dX12_keep_140 rfl (lv_at hl 0 rfl) ?_
  refine lv_iconst (v := 4) hx hb dX12_keep_141 (by decide +kernel) ?_
  refine lv_icmp_ge (tgt := 165) hx hb dX12_keep_142 (by decide) (fun _ => ?_) (fun c9 => absurd (by decide +kernel) c9)
  refine lv_aload_n hx hb dX12_keep_165 rfl (lv_at hl 1 rfl) ?_
  refine lv_iconst (v := 0) hx hb dX12_keep_166 (by decide +kernel) ?_
  refine va_put (D := D) (ci := 15) (v := .int 0) (C := RX12) (T := TX12) (N := 66) hx hb hts iw_X12_keep__X12 tyX12 tyX12_ok nmX12 hown hE.1 hP hD hS 0 rfl rfl 37 (by decide) (hts _ mw_X12_keep__20) (fun _ h9 => h9) rfl (tyX12_ok 37 (by decide)) rfl rfl (Nat.le_of_ble_eq_true rfl) dX12_keep_167 (fun H locs hP hD hS => ?_)
  have hP : va_P D vwCl [(h0, .inr (15, [.ref h5, .int 0, .int 0, .ref h6, .int 0, .int (-1), .int 0, .int 0, .int 0, .int 0, .int 0, .int 2, .int 0, .int 0, .int 0, .ref h7, .ref h8, .ref h9, .ref h10, .int 2, .int 0, .int 0, .int 0, .int 0, .ref h11, .ref h12, .ref h13, .ref h14, .int 2, .ref h1, .int 1, .ref h2, .ref h15, .int 1, .ref h16, .ref h3, .ref h4, .int 0, .ref h17, .ref h18, .ref h19, .ref h20, .ref h21, .ref h22, .ref h23, .ref h24, .ref h25, .int 0, .ref h26, .ref h27, .ref h28, .int (-1), .ref h29, .long 0, .long 0, .int 0, .int 0, .long 0, .long 0, .ref h30, .ref h31, .ref h32, .ref h33, .ref h34, .ref h35, .long 0])), (h1, .inl (Y 1, 100, .inl (jw_l 0 [0, 1, 0, 0, 1, 0, 0, 0, 1, 1]))), (h2, .inl (Y 1, 13824, .inl (jw_l 0 [0]))), (h3, .inl (Y 1, 4, .inl (jw_l 0 [0, 1, 2, 3]))), (h4, .inl (Y 1, 4, .inl (jw_l 0 [0, 1, 2, 3])))] H := hP
  have hD : va_D A [(h0, .inr (15, [.ref h5, .int 0, .int 0, .ref h6, .int 0, .int (-1), .int 0, .int 0, .int 0, .int 0, .int 0, .int 2, .int 0, .int 0, .int 0, .ref h7, .ref h8, .ref h9, .ref h10, .int 2, .int 0, .int 0, .int 0, .int 0, .ref h11, .ref h12, .ref h13, .ref h14, .int 2, .ref h1, .int 1, .ref h2, .ref h15, .int 1, .ref h16, .ref h3, .ref h4, .int 0, .ref h17, .ref h18, .ref h19, .ref h20, .ref h21, .ref h22, .ref h23, .ref h24, .ref h25, .int 0, .ref h26, .ref h27, .ref h28, .int (-1), .ref h29, .long 0, .long 0, .int 0, .int 0, .long 0, .long 0, .ref h30, .ref h31, .ref h32, .ref h33, .ref h34, .ref h35, .long 0])), (h1, .inl (Y 1, 100, .inl (jw_l 0 [0, 1, 0, 0, 1, 0, 0, 0, 1, 1]))), (h2, .inl (Y 1, 13824, .inl (jw_l 0 [0]))), (h3, .inl (Y 1, 4, .inl (jw_l 0 [0, 1, 2, 3]))), (h4, .inl (Y 1, 4, .inl (jw_l 0 [0, 1, 2, 3])))] := hD
  refine lv_aload_n hx hb dX12_keep_170 rfl (lv_at hl 1 rfl) ?_
  refine lv_iconst (v := (-1)) hx hb dX12_keep_171 (by decide +kernel) ?_
  refine va_put (D := D) (ci := 15) (v := .int (-1)) (C := RX12) (T := TX12) (N := 66) hx hb hts iw_X12_keep__X12 tyX12 tyX12_ok nmX12 hown hE.1 hP hD hS 0 rfl rfl 51 (by decide) (hts _ mw_X12_keep__21) (fun _ h9 => h9) rfl (tyX12_ok 51 (by decide)) rfl rfl (Nat.le_of_ble_eq_true rfl) dX12_keep_172 (fun H locs hP hD hS => ?_)
  have hP : va_P D vwCl [(h0, .inr (15, [.ref h5, .int 0, .int 0, .ref h6, .int 0, .int (-1), .int 0, .int 0, .int 0, .int 0, .int 0, .int 2, .int 0, .int 0, .int 0, .ref h7, .ref h8, .ref h9, .ref h10, .int 2, .int 0, .int 0, .int 0, .int 0, .ref h11, .ref h12, .ref h13, .ref h14, .int 2, .ref h1, .int 1, .ref h2, .ref h15, .int 1, .ref h16, .ref h3, .ref h4, .int 0, .ref h17, .ref h18, .ref h19, .ref h20, .ref h21, .ref h22, .ref h23, .ref h24, .ref h25, .int 0, .ref h26, .ref h27, .ref h28, .int (-1), .ref h29, .long 0, .long 0, .int 0, .int 0, .long 0, .long 0, .ref h30, .ref h31, .ref h32, .ref h33, .ref h34, .ref h35, .long 0])), (h1, .inl (Y 1, 100, .inl (jw_l 0 [0, 1, 0, 0, 1, 0, 0, 0, 1, 1]))), (h2, .inl (Y 1, 13824, .inl (jw_l 0 [0]))), (h3, .inl (Y 1, 4, .inl (jw_l 0 [0, 1, 2, 3]))), (h4, .inl (Y 1, 4, .inl (jw_l 0 [0, 1, 2, 3])))] H := hP
  have hD : va_D A [(h0, .inr (15, [.ref h5, .int 0, .int 0, .ref h6, .int 0, .int (-1), .int 0, .int 0, .int 0, .int 0, .int 0, .int 2, .int 0, .int 0, .int 0, .ref h7, .ref h8, .ref h9, .ref h10, .int 2, .int 0, .int 0, .int 0, .int 0, .ref h11, .ref h12, .ref h13, .ref h14, .int 2, .ref h1, .int 1, .ref h2, .ref h15, .int 1, .ref h16, .ref h3, .ref h4, .int 0, .ref h17, .ref h18, .ref h19, .ref h20, .ref h21, .ref h22, .ref h23, .ref h24, .ref h25, .int 0, .ref h26, .ref h27, .ref h28, .int (-1), .ref h29, .long 0, .long 0, .int 0, .int 0, .long 0, .long 0, .ref h30, .ref h31, .ref h32, .ref h33, .ref h34, .ref h35, .long 0])), (h1, .inl (Y 1, 100, .inl (jw_l 0 [0, 1, 0, 0, 1, 0, 0, 0, 1, 1]))), (h2, .inl (Y 1, 13824, .inl (jw_l 0 [0]))), (h3, .inl (Y 1, 4, .inl (jw_l 0 [0, 1, 2, 3]))), (h4, .inl (Y 1, 4, .inl (jw_l 0 [0, 1, 2, 3])))] := hD
  refine W.widen (k := 0) (n := 0) (Nat.le_of_ble_eq_true rfl) (Nat.le_of_ble_eq_true rfl) ?_
  exact jw_vret hx hb hr hlocks rfl hP hD hS dX12_keep_175
