set_option maxHeartbeats 4000000 in
set_option maxRecDepth 100000 in
theorem k372_X11_nearest {l : Launch} {D : va_G} {Y : Nat → ClassId} {tt : Nat → Nat} (h0 h1 h2 h3 h4 h5 h6 h7 h8 h9 h10 h11 h12 h13 h14 h15 h16 h17 h18 h19 h20 h21 h22 h23 h24 h25 h26 h27 h28 h29 h30 h31 h32 h33 h34 h35 h36 h37 h38 h39 h40 h41 h42 h43 h44 h45 h46 h47 h48 h49 h50 h51 h52 h53 : Nat) (sz : Nat) : Met l yX11_nearest wsX11_nearest ({ frames := 5, cells := 1, slots := 4, locals := 144 }) (jw_Pc D Y tt [.ref h0, .int 1] [(h0, .inr (14, [.ref h21, .int 0, .ref h1, .ref h22, .ref h2, .ref h3, .ref h4, .ref h7, .ref h23, .ref h24, .ref h10, .ref h14, .ref h25, .ref h15, .ref h26, .ref h27, .int (-3), .int (-3)])), (h1, .inr (6, [.int 2, .int 0, .int 0, .int 0, .int 0, .ref h28, .ref h29, .ref h30, .ref h31, .ref h32, .int 0])), (h2, .inr (7, [.int 2, .int 2, .int 3, .int 1, .ref h33, .ref h34, .ref h35, .ref h36, .ref h37])), (h3, .inr (5, [.ref h1, .ref h2, .int 1, .int 1, .ref h38, .ref h39, .ref h40, .ref h41, .ref h42, .ref h43])), (h4, .inr (11, [.ref h1, .ref h2, .ref h5, .ref h6, .ref h44, .ref h45, .int 0, .ref h46])), (h5, .inl (Y 1, 4, .inl (jw_l 0 [0, 1, 2, 3]))), (h6, .inl (Y 1, 4, .inl (jw_l 0 [0, 1, 2, 3]))), (h7, .inr (13, [.ref h3, .ref h47, .ref h8, .ref h9, .int 0])), (h8, .inl (Y 1, 5, .inl (jw_l 0 []))), (h9, .inl (Y 1, 4, .inl (jw_l 0 []))), (h10, .inr (9, [.ref h1, .ref h2, .ref h4, .ref h11, .ref h48, .ref h49, .int 0, .int 0, .int 0, .int 0])), (h11, .inr (10, [.ref h2, .int 0, .ref h12, .ref h50, .ref h13, .ref h51])), (h12, .inl (Y 1, 4, .inl (jw_l 0 []))), (h13, .inl (Y 1, 64, .inl (jw_l 0 []))), (h14, .inl (Y 4, 3, .inr (.inr (.inr (.inr (jw_R [some h52, some h18, some h53])))))), (h15, .inr (4, [.ref h16, .ref h17, .long 0, .int 0])), (h16, .inl (Y 2, 144, .inr (.inl (jw_L 0 [])))), (h17, .inl (Y 2, 48, .inr (.inl (jw_L 0 [])))), (h18, .inr (4, [.ref h19, .ref h20, .long 0, .int 0])), (h19, .inl (Y 2, 144, .inr (.inl (jw_L 0 [])))), (h20, .inl (Y 2, 48, .inr (.inl (jw_L 0 []))))] sz) (jw_Qi D (fun r => r = 4) (fun w => w = []) (va_A [(h0, .inr (14, [.ref h21, .int 0, .ref h1, .ref h22, .ref h2, .ref h3, .ref h4, .ref h7, .ref h23, .ref h24, .ref h10, .ref h14, .ref h25, .ref h15, .ref h26, .ref h27, .int (-3), .int (-3)])), (h1, .inr (6, [.int 2, .int 0, .int 0, .int 0, .int 0, .ref h28, .ref h29, .ref h30, .ref h31, .ref h32, .int 0])), (h2, .inr (7, [.int 2, .int 2, .int 3, .int 1, .ref h33, .ref h34, .ref h35, .ref h36, .ref h37])), (h3, .inr (5, [.ref h1, .ref h2, .int 1, .int 1, .ref h38, .ref h39, .ref h40, .ref h41, .ref h42, .ref h43])), (h4, .inr (11, [.ref h1, .ref h2, .ref h5, .ref h6, .ref h44, .ref h45, .int 0, .ref h46])), (h5, .inl (Y 1, 4, .inl (jw_l 0 [0, 1, 2, 3]))), (h6, .inl (Y 1, 4, .inl (jw_l 0 [0, 1, 2, 3]))), (h7, .inr (13, [.ref h3, .ref h47, .ref h8, .ref h9, .int 0])), (h8, .inl (Y 1, 5, .inl (jw_l 0 []))), (h9, .inl (Y 1, 4, .inl (jw_l 0 []))), (h10, .inr (9, [.ref h1, .ref h2, .ref h4, .ref h11, .ref h48, .ref h49, .int 0, .int 0, .int 0, .int 0])), (h11, .inr (10, [.ref h2, .int 0, .ref h12, .ref h50, .ref h13, .ref h51])), (h12, .inl (Y 1, 4, .inl (jw_l 0 []))), (h13, .inl (Y 1, 64, .inl (jw_l 0 []))), (h14, .inl (Y 4, 3, .inr (.inr (.inr (.inr (jw_R [some h52, some h18, some h53])))))), (h15, .inr (4, [.ref h16, .ref h17, .long 0, .int 0])), (h16, .inl (Y 2, 144, .inr (.inl (jw_L 0 [])))), (h17, .inl (Y 2, 48, .inr (.inl (jw_L 0 [])))), (h18, .inr (4, [.ref h19, .ref h20, .long 0, .int 0])), (h19, .inl (Y 2, 144, .inr (.inl (jw_L 0 [])))), (h20, .inl (Y 2, 48, .inr (.inl (jw_L 0 []))))] sz)) 1 4 (va_A [(h0, .inr (14, [.ref h21, .int 0, .ref h1, .ref h22, .ref h2, .ref h3, .ref h4, .ref h7, .ref h23, .ref h24, .ref h10, .ref h14, .ref h25, .ref h15, .ref h26, .ref h27, .int (-3), .int (-3)])), (h1, .inr (6, [.int 2, .int 0, .int 0, .int 0, .int 0, .ref h28, .ref h29, .ref h30, .ref h31, .ref h32, .int 0])), (h2, .inr (7, [.int 2, .int 2, .int 3, .int 1, .ref h33, .ref h34, .ref h35, .ref h36, .ref h37])), (h3, .inr (5, [.ref h1, .ref h2, .int 1, .int 1, .ref h38, .ref h39, .ref h40, .ref h41, .ref h42, .ref h43])), (h4, .inr (11, [.ref h1, .ref h2, .ref h5, .ref h6, .ref h44, .ref h45, .int 0, .ref h46])), (h5, .inl (Y 1, 4, .inl (jw_l 0 [0, 1, 2, 3]))), (h6, .inl (Y 1, 4, .inl (jw_l 0 [0, 1, 2, 3]))), (h7, .inr (13, [.ref h3, .ref h47, .ref h8, .ref h9, .int 0])), (h8, .inl (Y 1, 5, .inl (jw_l 0 []))), (h9, .inl (Y 1, 4, .inl (jw_l 0 []))), (h10, .inr (9, [.ref h1, .ref h2, .ref h4, .ref h11, .ref h48, .ref h49, .int 0, .int 0, .int 0, .int 0])), (h11, .inr (10, [.ref h2, .int 0, .ref h12, .ref h50, .ref h13, .ref h51])), (h12, .inl (Y 1, 4, .inl (jw_l 0 []))), (h13, .inl (Y 1, 64, .inl (jw_l 0 []))), (h14, .inl (Y 4, 3, .inr (.inr (.inr (.inr (jw_R [some h52, some h18, some h53])))))), (h15, .inr (4, [.ref h16, .ref h17, .long 0, .int 0])), (h16, .inl (Y 2, 144, .inr (.inl (jw_L 0 [])))), (h17, .inl (Y 2, 48, .inr (.inl (jw_L 0 [])))), (h18, .inr (4, [.ref h19, .ref h20, .long 0, .int 0])), (h19, .inl (Y 2, 144, .inr (.inl (jw_L 0 [])))), (h20, .inl (Y 2, 48, .inr (.inl (jw_L 0 []))))] sz) := by
  refine jw_met (fun A => jw_Qi D (fun r => r = 4) (fun w => w = []) A) (cc := cX11_nearest) (maxL := 3) (ret := (some .int)) pn_X11_nearest rfl rfl ?_
  intro p e s m below meth c A H locs ls hx hb hml hr hts hown hlocks hin hP hD hA hS hE hl
  have hown : s.vm.findClass RX11 = some m.cls := hown
  have hl : lv_has ls 3 [(0, .ref h0), (1, .int 1)] := hl
  refine lv_aload_n hx hb dX11_nearest_0 rfl (lv_at hl 0 rfl) ?_
  refine va_get (D := D) (ci := 14) (v := .ref h3) (C := RX11) (T := TX11) (N := 18) hx hb hts iw_X11_nearest__X11 hown hE.1 hP 0 rfl rfl 5 (by decide) (hts _ mw_X11_nearest__1) (fun _ h9 => h9) rfl dX11_nearest_1 ?_
  refine va_getN (D := D) (ci := 5) (v := .int 1) (C := RX2) (T := TX2) (N := 10) hx hb hts iw_X11_nearest__X2 hown hE.1 hP 3 rfl rfl 3 (by decide) (nf_X11_169 hE) (fun _ h9 => h9) rfl dX11_nearest_4 ?_
  refine lv_if_ne (tgt := 13) hx hb dX11_nearest_7 (by decide) (fun _ => ?_) (fun c9 => absurd c9 (by decide +kernel))
  refine lv_aload_n hx hb dX11_nearest_13 rfl (lv_at hl 0 rfl) ?_
  refine lv_iconst (v := 1) hx hb dX11_nearest_14 (by decide +kernel) ?_
  refine jw_mr (wc := [(h0, .inr (14, [.ref h21, .int 0, .ref h1, .ref h22, .ref h2, .ref h3, .ref h4, .ref h7, .ref h23, .ref h24, .ref h10, .ref h14, .ref h25, .ref h15, .ref h26, .ref h27, .int (-3), .int (-3)])), (h1, .inr (6, [.int 2, .int 0, .int 0, .int 0, .int 0, .ref h28, .ref h29, .ref h30, .ref h31, .ref h32, .int 0])), (h2, .inr (7, [.int 2, .int 2, .int 3, .int 1, .ref h33, .ref h34, .ref h35, .ref h36, .ref h37])), (h3, .inr (5, [.ref h1, .ref h2, .int 1, .int 1, .ref h38, .ref h39, .ref h40, .ref h41, .ref h42, .ref h43])), (h4, .inr (11, [.ref h1, .ref h2, .ref h5, .ref h6, .ref h44, .ref h45, .int 0, .ref h46])), (h5, .inl (Y 1, 4, .inl (jw_l 0 [0, 1, 2, 3]))), (h6, .inl (Y 1, 4, .inl (jw_l 0 [0, 1, 2, 3]))), (h7, .inr (13, [.ref h3, .ref h47, .ref h8, .ref h9, .int 0])), (h8, .inl (Y 1, 5, .inl (jw_l 0 []))), (h9, .inl (Y 1, 4, .inl (jw_l 0 []))), (h10, .inr (9, [.ref h1, .ref h2, .ref h4, .ref h11, .ref h48, .ref h49, .int 0, .int 0, .int 0, .int 0])), (h11, .inr (10, [.ref h2, .int 0, .ref h12, .ref h50, .ref h13, .ref h51])), (h12, .inl (Y 1, 4, .inl (jw_l 0 []))), (h13, .inl (Y 1, 64, .inl (jw_l 0 []))), (h14, .inl (Y 4, 3, .inr (.inr (.inr (.inr (jw_R [some h52, some h18, some h53])))))), (h18, .inr (4, [.ref h19, .ref h20, .long 0, .int 0])), (h19, .inl (Y 2, 144, .inr (.inl (jw_L 0 [])))), (h20, .inl (Y 2, 48, .inr (.inl (jw_L 0 []))))]) (cs := 0) (ss := 0) (va_runV (As := [.int 1]) (rest := []) ⟨hx, hb, hml, hown, hts⟩ (k184_X11_chancesAtStart h0 h1 h2 h3 h4 h5 h6 h7 h8 h9 h10 h11 h12 h13 h14 h18 h19 h20 h21 h22 h23 h24 h25 h15 h26 h27 h28 h29 h30 h31 h32 h33 h34 h35 h36 h37 h38 h39 h40 h41 h42 h43 h44 h45 h46 h47 h48 h49 h50 h51 h52 h53 H.size) (cwV 1 hts gX11_nearest_X11_chancesAtStart rfl rfl rfl ydV_X11_chancesAtStart ⟨Nat.le_of_ble_eq_true rfl, Nat.le_of_ble_eq_true rfl⟩) (jw_mpreV (ci := 14) (q0 := 0) hP hD hS hA hE [true, true, true, true, true, true, true, true, true, true, true, true, true, true, true, false, false, false, true, true, true] rfl rfl rfl) rfl rfl hl.1 rfl (lv_room (Nat.le_of_ble_eq_true rfl)) dX11_nearest_15 ⟨Nat.le_of_ble_eq_true rfl, Nat.le_of_ble_eq_true rfl⟩) hP hD hS hA [true, true, true, true, true, true, true, true, true, true, true, true, true, true, true, false, false, false, true, true, true] rfl rfl rfl (fun r9 w1 H locs hr9 hw9 hP hD hS => ?_)
  rw [hr9]
  subst hw9
  have hP : va_P D vwCl [(h0, .inr (14, [.ref h21, .int 0, .ref h1, .ref h22, .ref h2, .ref h3, .ref h4, .ref h7, .ref h23, .ref h24, .ref h10, .ref h14, .ref h25, .ref h15, .ref h26, .ref h27, .int (-3), .int (-3)])), (h1, .inr (6, [.int 2, .int 0, .int 0, .int 0, .int 0, .ref h28, .ref h29, .ref h30, .ref h31, .ref h32, .int 0])), (h2, .inr (7, [.int 2, .int 2, .int 3, .int 1, .ref h33, .ref h34, .ref h35, .ref h36, .ref h37])), (h3, .inr (5, [.ref h1, .ref h2, .int 1, .int 1, .ref h38, .ref h39, .ref h40, .ref h41, .ref h42, .ref h43])), (h4, .inr (11, [.ref h1, .ref h2, .ref h5, .ref h6, .ref h44, .ref h45, .int 0, .ref h46])), (h5, .inl (Y 1, 4, .inl (jw_l 0 [0, 1, 2, 3]))), (h6, .inl (Y 1, 4, .inl (jw_l 0 [0, 1, 2, 3]))), (h7, .inr (13, [.ref h3, .ref h47, .ref h8, .ref h9, .int 1])), (h8, .inl (Y 1, 5, .inl (jw_l 0 [0]))), (h9, .inl (Y 1, 4, .inl (jw_l 0 [0, 1, 2, 3]))), (h10, .inr (9, [.ref h1, .ref h2, .ref h4, .ref h11, .ref h48, .ref h49, .int 0, .int 0, .int 3, .int 3])), (h11, .inr (10, [.ref h2, .int 1, .ref h12, .ref h50, .ref h13, .ref h51])), (h12, .inl (Y 1, 4, .inl (jw_l 0 [0, 1, 2, 3]))), (h13, .inl (Y 1, 64, .inl (jw_l 0 []))), (h14, .inl (Y 4, 3, .inr (.inr (.inr (.inr (jw_R [some h52, some h18, some h53])))))), (h15, .inr (4, [.ref h16, .ref h17, .long 0, .int 0])), (h16, .inl (Y 2, 144, .inr (.inl (jw_L 0 [])))), (h17, .inl (Y 2, 48, .inr (.inl (jw_L 0 [])))), (h18, .inr (4, [.ref h19, .ref h20, .long 1, .int 1])), (h19, .inl (Y 2, 144, .inr (.inl (jw_L 0 [])))), (h20, .inl (Y 2, 48, .inr (.inl (jw_L 0 []))))] H := hP
  have hD : va_D A [(h0, .inr (14, [.ref h21, .int 0, .ref h1, .ref h22, .ref h2, .ref h3, .ref h4, .ref h7, .ref h23, .ref h24, .ref h10, .ref h14, .ref h25, .ref h15, .ref h26, .ref h27, .int (-3), .int (-3)])), (h1, .inr (6, [.int 2, .int 0, .int 0, .int 0, .int 0, .ref h28, .ref h29, .ref h30, .ref h31, .ref h32, .int 0])), (h2, .inr (7, [.int 2, .int 2, .int 3, .int 1, .ref h33, .ref h34, .ref h35, .ref h36, .ref h37])), (h3, .inr (5, [.ref h1, .ref h2, .int 1, .int 1, .ref h38, .ref h39, .ref h40, .ref h41, .ref h42, .ref h43])), (h4, .inr (11, [.ref h1, .ref h2, .ref h5, .ref h6, .ref h44, .ref h45, .int 0, .ref h46])), (h5, .inl (Y 1, 4, .inl (jw_l 0 [0, 1, 2, 3]))), (h6, .inl (Y 1, 4, .inl (jw_l 0 [0, 1, 2, 3]))), (h7, .inr (13, [.ref h3, .ref h47, .ref h8, .ref h9, .int 1])), (h8, .inl (Y 1, 5, .inl (jw_l 0 [0]))), (h9, .inl (Y 1, 4, .inl (jw_l 0 [0, 1, 2, 3]))), (h10, .inr (9, [.ref h1, .ref h2, .ref h4, .ref h11, .ref h48, .ref h49, .int 0, .int 0, .int 3, .int 3])), (h11, .inr (10, [.ref h2, .int 1, .ref h12, .ref h50, .ref h13, .ref h51])), (h12, .inl (Y 1, 4, .inl (jw_l 0 [0, 1, 2, 3]))), (h13, .inl (Y 1, 64, .inl (jw_l 0 []))), (h14, .inl (Y 4, 3, .inr (.inr (.inr (.inr (jw_R [some h52, some h18, some h53])))))), (h15, .inr (4, [.ref h16, .ref h17, .long 0, .int 0])), (h16, .inl (Y 2, 144, .inr (.inl (jw_L 0 [])))), (h17, .inl (Y 2, 48, .inr (.inl (jw_L 0 [])))), (h18, .inr (4, [.ref h19, .ref h20, .long 1, .int 1])), (h19, .inl (Y 2, 144, .inr (.inl (jw_L 0 [])))), (h20, .inl (Y 2, 48, .inr (.inl (jw_L 0 []))))] := hD
  refine lv_astore_n (lv' := [(2, .ref h18), (0, .ref h0), (1, .int 1)]) hx hb dX11_nearest_18 rfl hl (by decide) rfl (fun ls hl => ?_)
  refine lv_iload_n hx hb dX11_nearest_19 rfl (lv_at hl 2 rfl) ?_
  refine lv_if_ne (tgt := 61) hx hb dX11_nearest_20 (by decide) (fun _ => ?_) (fun c9 => absurd c9 (by decide +kernel))
  refine lv_iload_n hx hb dX11_nearest_61 rfl (lv_at hl 2 rfl) ?_
  refine lv_iconst (v := 1) hx hb dX11_nearest_62 (by decide +kernel) ?_
  refine lv_icmp_ne (tgt := 104) hx hb dX11_nearest_63 (by decide) (fun c9 => absurd (by decide +kernel) c9) (fun _ => ?_)
  refine lv_aload_n hx hb dX11_nearest_66 rfl (lv_at hl 1 rfl) ?_
  refine lv_aload_n hx hb dX11_nearest_67 rfl (lv_at hl 1 rfl) ?_
  refine va_get (D := D) (ci := 14) (v := .int (-3)) (C := RX11) (T := TX11) (N := 18) hx hb hts iw_X11_nearest__X11 hown hE.1 hP 0 rfl rfl 17 (by decide) (hts _ mw_X11_nearest__4) (fun _ h9 => h9) rfl dX11_nearest_68 ?_
  refine lv_bipush (v := (-3)) hx hb dX11_nearest_71 (by decide +kernel) ?_
  refine lv_icmp_ne (tgt := 92) hx hb dX11_nearest_73 (by decide) (fun c9 => absurd (by decide +kernel) c9) (fun _ => ?_)
  refine lv_aload_n hx hb dX11_nearest_76 rfl (lv_at hl 1 rfl) ?_
  refine lv_aload_n hx hb dX11_nearest_77 rfl (lv_at hl 1 rfl) ?_
  refine va_get (D := D) (ci := 14) (v := .ref h1) (C := RX11) (T := TX11) (N := 18) hx hb hts iw_X11_nearest__X11 hown hE.1 hP 0 rfl rfl 2 (by decide) (hts _ mw_X11_nearest__3) (fun _ h9 => h9) rfl dX11_nearest_78 ?_
  refine va_getN (D := D) (ci := 6) (v := .int 2) (C := RX3) (T := TX3) (N := 11) hx hb hts iw_X11_nearest__X3 hown hE.1 hP 1 rfl rfl 0 (by decide) (nf_X11_133 hE) (fun _ h9 => h9) rfl dX11_nearest_81 ?_
  refine lv_iconst (v := 0) hx hb dX11_nearest_84 (by decide +kernel) ?_
  refine lv_aload_n hx hb dX11_nearest_85 rfl (lv_at hl 0 rfl) ?_
  refine jw_mi (wc := [(h0, .inr (14, [.ref h21, .int 0, .ref h1, .ref h22, .ref h2, .ref h3, .ref h4, .ref h7, .ref h23, .ref h24, .ref h10, .ref h14, .ref h25, .ref h15, .ref h26, .ref h27, .int (-3), .int (-3)])), (h1, .inr (6, [.int 2, .int 0, .int 0, .int 0, .int 0, .ref h28, .ref h29, .ref h30, .ref h31, .ref h32, .int 0])), (h2, .inr (7, [.int 2, .int 2, .int 3, .int 1, .ref h33, .ref h34, .ref h35, .ref h36, .ref h37])), (h7, .inr (13, [.ref h3, .ref h47, .ref h8, .ref h9, .int 1])), (h10, .inr (9, [.ref h1, .ref h2, .ref h4, .ref h11, .ref h48, .ref h49, .int 0, .int 0, .int 3, .int 3])), (h11, .inr (10, [.ref h2, .int 1, .ref h12, .ref h50, .ref h13, .ref h51])), (h12, .inl (Y 1, 4, .inl (jw_l 0 [0, 1, 2, 3]))), (h13, .inl (Y 1, 64, .inl (jw_l 0 []))), (h15, .inr (4, [.ref h16, .ref h17, .long 0, .int 0])), (h16, .inl (Y 2, 144, .inr (.inl (jw_L 0 [])))), (h17, .inl (Y 2, 48, .inr (.inl (jw_L 0 []))))]) (cs := 1) (ss := 4) (va_runV (As := [.int 2, .int 0, .ref h18]) (rest := [.ref h0]) ⟨hx, hb, hml, hown, hts⟩ (k371_X11_findNearest h0 h1 h2 h7 h10 h11 h12 h13 h15 h16 h17 h18 h21 h22 h3 h4 h23 h24 h14 h25 h26 h27 h28 h29 h30 h31 h32 h33 h34 h35 h36 h37 h47 h8 h9 h48 h49 h50 h51 H.size) (cwV 3 hts gX11_nearest_X11_findNearest rfl rfl rfl ydV_X11_findNearest ⟨Nat.le_of_ble_eq_true rfl, Nat.le_of_ble_eq_true rfl⟩) (jw_mpreV (ci := 14) (q0 := 0) hP hD hS hA hE [true, true, true, false, false, false, false, true, false, false, true, true, true, true, false, true, true, true] rfl rfl rfl) rfl rfl hl.1 rfl (lv_room (Nat.le_of_ble_eq_true rfl)) dX11_nearest_86 ⟨Nat.le_of_ble_eq_true rfl, Nat.le_of_ble_eq_true rfl⟩) hP hD hS hA [true, true, true, false, false, false, false, true, false, false, true, true, true, true, false, true, true, true] rfl rfl rfl (fun r9 w1 H locs hr9 hw9 hP hD hS => ?_)
  subst hr9
  obtain ⟨q_1, rfl⟩ := hw9
  have hP : va_P D vwCl [(h0, .inr (14, [.ref h21, .int 0, .ref h1, .ref h22, .ref h2, .ref h3, .ref h4, .ref h7, .ref h23, .ref h24, .ref h10, .ref h14, .ref h25, .ref h15, .ref h26, .ref h27, .int (-3), .int (-3)])), (h1, .inr (6, [.int 2, .int 0, .int 0, .int 0, .int 0, .ref h28, .ref h29, .ref h30, .ref h31, .ref h32, .int 0])), (h2, .inr (7, [.int 2, .int 2, .int 3, .int 1, .ref h33, .ref h34, .ref h35, .ref h36, .ref h37])), (h3, .inr (5, [.ref h1, .ref h2, .int 1, .int 1, .ref h38, .ref h39, .ref h40, .ref h41, .ref h42, .ref h43])), (h4, .inr (11, [.ref h1, .ref h2, .ref h5, .ref h6, .ref h44, .ref h45, .int 0, .ref h46])), (h5, .inl (Y 1, 4, .inl (jw_l 0 [0, 1, 2, 3]))), (h6, .inl (Y 1, 4, .inl (jw_l 0 [0, 1, 2, 3]))), (h7, .inr (13, [.ref h3, .ref h47, .ref h8, .ref h9, .int 1])), (h8, .inl (Y 1, 5, .inl (jw_l 0 [0]))), (h9, .inl (Y 1, 4, .inl (jw_l 0 [0, 1, 2, 3]))), (h10, .inr (9, [.ref h1, .ref h2, .ref h4, .ref h11, .ref h48, .ref h49, .int 0, .int 0, .int 3, .int 3])), (h11, .inr (10, [.ref h2, .int 0, .ref h12, .ref h50, .ref h13, .ref h51])), (h12, .inl (Y 1, 4, .inl (jw_l 0 [0, 1, 0, 0]))), (h13, .inl (Y 1, 64, .inl (jw_l 0 []))), (h14, .inl (Y 4, 3, .inr (.inr (.inr (.inr (jw_R [some h52, some h18, some h53])))))), (h15, .inr (4, [.ref h16, .ref h17, .long 1, .int 1])), (h16, .inl (Y 2, 144, .inr (.inl (jw_L 0 [])))), (h17, .inl (Y 2, 48, .inr (.inl (jw_L 0 [])))), (h18, .inr (4, [.ref h19, .ref h20, .long 1, .int 1])), (h19, .inl (Y 2, 144, .inr (.inl (jw_L 0 [])))), (h20, .inl (Y 2, 48, .inr (.inl (jw_L 0 [])))), (q_1, .inl (Y 1, 4, .inl (jw_l 0 [0, 1])))] H := hP
  have hD : va_D A [(h0, .inr (14, [.ref h21, .int 0, .ref h1, .ref h22, .ref h2, .ref h3, .ref h4, .ref h7, .ref h23, .ref h24, .ref h10, .ref h14, .ref h25, .ref h15, .ref h26, .ref h27, .int (-3), .int (-3)])), (h1, .inr (6, [.int 2, .int 0, .int 0, .int 0, .int 0, .ref h28, .ref h29, .ref h30, .ref h31, .ref h32, .int 0])), (h2, .inr (7, [.int 2, .int 2, .int 3, .int 1, .ref h33, .ref h34, .ref h35, .ref h36, .ref h37])), (h3, .inr (5, [.ref h1, .ref h2, .int 1, .int 1, .ref h38, .ref h39, .ref h40, .ref h41, .ref h42, .ref h43])), (h4, .inr (11, [.ref h1, .ref h2, .ref h5, .ref h6, .ref h44, .ref h45, .int 0, .ref h46])), (h5, .inl (Y 1, 4, .inl (jw_l 0 [0, 1, 2, 3]))), (h6, .inl (Y 1, 4, .inl (jw_l 0 [0, 1, 2, 3]))), (h7, .inr (13, [.ref h3, .ref h47, .ref h8, .ref h9, .int 1])), (h8, .inl (Y 1, 5, .inl (jw_l 0 [0]))), (h9, .inl (Y 1, 4, .inl (jw_l 0 [0, 1, 2, 3]))), (h10, .inr (9, [.ref h1, .ref h2, .ref h4, .ref h11, .ref h48, .ref h49, .int 0, .int 0, .int 3, .int 3])), (h11, .inr (10, [.ref h2, .int 0, .ref h12, .ref h50, .ref h13, .ref h51])), (h12, .inl (Y 1, 4, .inl (jw_l 0 [0, 1, 0, 0]))), (h13, .inl (Y 1, 64, .inl (jw_l 0 []))), (h14, .inl (Y 4, 3, .inr (.inr (.inr (.inr (jw_R [some h52, some h18, some h53])))))), (h15, .inr (4, [.ref h16, .ref h17, .long 1, .int 1])), (h16, .inl (Y 2, 144, .inr (.inl (jw_L 0 [])))), (h17, .inl (Y 2, 48, .inr (.inl (jw_L 0 [])))), (h18, .inr (4, [.ref h19, .ref h20, .long 1, .int 1])), (h19, .inl (Y 2, 144, .inr (.inl (jw_L 0 [])))), (h20, .inl (Y 2, 48, .inr (.inl (jw_L 0 [])))), (q_1, .inl (Y 1, 4, .inl (jw_l 0 [0, 1])))] := hD
  refine lv_goto (tgt := 96) hx hb dX11_nearest_89 (by decide) ?_
  refine va_put (D := D) (ci := 14) (v := .int 4) (C := RX11) (T := TX11) (N := 18) hx hb hts iw_X11_nearest__X11 tyX11 tyX11_ok nmX11 hown hE.1 hP hD hS 0 rfl rfl 17 (by decide) (hts _ mw_X11_nearest__4) (fun _ h9 => h9) rfl (tyX11_ok 17 (by decide)) rfl rfl (Nat.le_of_ble_eq_true rfl) dX11_nearest_96 (fun H locs hP hD hS => ?_)
  have hP : va_P D vwCl [(h0, .inr (14, [.ref h21, .int 0, .ref h1, .ref h22, .ref h2, .ref h3, .ref h4, .ref h7, .ref h23, .ref h24, .ref h10, .ref h14, .ref h25, .ref h15, .ref h26, .ref h27, .int (-3), .int 4])), (h1, .inr (6, [.int 2, .int 0, .int 0, .int 0, .int 0, .ref h28, .ref h29, .ref h30, .ref h31, .ref h32, .int 0])), (h2, .inr (7, [.int 2, .int 2, .int 3, .int 1, .ref h33, .ref h34, .ref h35, .ref h36, .ref h37])), (h3, .inr (5, [.ref h1, .ref h2, .int 1, .int 1, .ref h38, .ref h39, .ref h40, .ref h41, .ref h42, .ref h43])), (h4, .inr (11, [.ref h1, .ref h2, .ref h5, .ref h6, .ref h44, .ref h45, .int 0, .ref h46])), (h5, .inl (Y 1, 4, .inl (jw_l 0 [0, 1, 2, 3]))), (h6, .inl (Y 1, 4, .inl (jw_l 0 [0, 1, 2, 3]))), (h7, .inr (13, [.ref h3, .ref h47, .ref h8, .ref h9, .int 1])), (h8, .inl (Y 1, 5, .inl (jw_l 0 [0]))), (h9, .inl (Y 1, 4, .inl (jw_l 0 [0, 1, 2, 3]))), (h10, .inr (9, [.ref h1, .ref h2, .ref h4, .ref h11, .ref h48, .ref h49, .int 0, .int 0, .int 3, .int 3])), (h11, .inr (10, [.ref h2, .int 0, .ref h12, .ref h50, .ref h13, .ref h51])), (h12, .inl (Y 1, 4, .inl (jw_l 0 [0, 1, 0, 0]))), (h13, .inl (Y 1, 64, .inl (jw_l 0 []))), (h14, .inl (Y 4, 3, .inr (.inr (.inr (.inr (jw_R [some h52, some h18, some h53])))))), (h15, .inr (4, [.ref h16, .ref h17, .long 1, .int 1])), (h16, .inl (Y 2, 144, .inr (.inl (jw_L 0 [])))), (h17, .inl (Y 2, 48, .inr (.inl (jw_L 0 [])))), (h18, .inr (4, [.ref h19, .ref h20, .long 1, .int 1])), (h19, .inl (Y 2, 144, .inr (.inl (jw_L 0 [])))), (h20, .inl (Y 2, 48, .inr (.inl (jw_L 0 [])))), (q_1, .inl (Y 1, 4, .inl (jw_l 0 [0, 1])))] H := hP
  have hD : va_D A [(h0, .inr (14, [.ref h21, .int 0, .ref h1, .ref h22, .ref h2, .ref h3, .ref h4, .ref h7, .ref h23, .ref h24, .ref h10, .ref h14, .ref h25, .ref h15, .ref h26, .ref h27, .int (-3), .int 4])), (h1, .inr (6, [.int 2, .int 0, .int 0, .int 0, .int 0, .ref h28, .ref h29, .ref h30, .ref h31, .ref h32, .int 0])), (h2, .inr (7, [.int 2, .int 2, .int 3, .int 1, .ref h33, .ref h34, .ref h35, .ref h36, .ref h37])), (h3, .inr (5, [.ref h1, .ref h2, .int 1, .int 1, .ref h38, .ref h39, .ref h40, .ref h41, .ref h42, .ref h43])), (h4, .inr (11, [.ref h1, .ref h2, .ref h5, .ref h6, .ref h44, .ref h45, .int 0, .ref h46])), (h5, .inl (Y 1, 4, .inl (jw_l 0 [0, 1, 2, 3]))), (h6, .inl (Y 1, 4, .inl (jw_l 0 [0, 1, 2, 3]))), (h7, .inr (13, [.ref h3, .ref h47, .ref h8, .ref h9, .int 1])), (h8, .inl (Y 1, 5, .inl (jw_l 0 [0]))), (h9, .inl (Y 1, 4, .inl (jw_l 0 [0, 1, 2, 3]))), (h10, .inr (9, [.ref h1, .ref h2, .ref h4, .ref h11, .ref h48, .ref h49, .int 0, .int 0, .int 3, .int 3])), (h11, .inr (10, [.ref h2, .int 0, .ref h12, .ref h50, .ref h13, .ref h51])), (h12, .inl (Y 1, 4, .inl (jw_l 0 [0, 1, 0, 0]))), (h13, .inl (Y 1, 64, .inl (jw_l 0 []))), (h14, .inl (Y 4, 3, .inr (.inr (.inr (.inr (jw_R [some h52, some h18, some h53])))))), (h15, .inr (4, [.ref h16, .ref h17, .long 1, .int 1])), (h16, .inl (Y 2, 144, .inr (.inl (jw_L 0 [])))), (h17, .inl (Y 2, 48, .inr (.inl (jw_L 0 [])))), (h18, .inr (4, [.ref h19, .ref h20, .long 1, .int 1])), (h19, .inl (Y 2, 144, .inr (.inl (jw_L 0 [])))), (h20, .inl (Y 2, 48, .inr (.inl (jw_L 0 [])))), (q_1, .inl (Y 1, 4, .inl (jw_l 0 [0, 1])))] := hD
  refine lv_aload_n hx hb dX11_nearest_99 rfl (lv_at hl 1 rfl) ?_
  refine va_get (D := D) (ci := 14) (v := .int 4) (C := RX11) (T := TX11) (N := 18) hx hb hts iw_X11_nearest__X11 hown hE.1 hP 0 rfl rfl 17 (by decide) (hts _ mw_X11_nearest__4) (fun _ h9 => h9) rfl dX11_nearest_100 ?_
  refine W.widen (k := 1) (n := 4) (Nat.le_of_ble_eq_true rfl) (Nat.le_of_ble_eq_true rfl) ?_
  have hP : va_P D vwCl [] H := hP.sub [] rfl
  have hD : va_D A [] := hD.sub [] rfl rfl
  exact jw_iret hx hb hr hlocks rfl rfl hP hD hS dX11_nearest_103
set_option maxHeartbeats 4000000 in
set_option maxRecDepth 100000 in
theorem k373_X12_isOnce {l : Launch} {D : va_G} {Y : Nat → ClassId} {tt : Nat → Nat} (sz : Nat) : Met l yX12_isOnce wsX12_isOnce ({ frames := 0, cells := 0, slots := 0, locals := 0 }) (jw_Pc D Y tt [.int 0, .int 2] [] sz) (jw_Qi D (fun r => r = 0) (fun w => w = []) (va_A [] sz)) 0 0 (va_A [] sz) := by
  refine jw_met (fun A => jw_Qi D (fun r => r = 0) (fun w => w = []) A) (cc := cX12_isOnce) (maxL := 4) (ret := (some .boolean)) pn_X12_isOnce rfl rfl ?_
  intro p e s m below meth c A H locs ls hx hb hml hr hts hown hlocks hin hP hD hA hS hE hl
  have hown : s.vm.findClass RX12 = some m.cls := hown
  have hl : lv_has ls 4 [(0, .int 0), (1, .int 2)] := hl
  refine lv_iconst (v := 0) hx hb dX12_isOnce_0 (by decide +kernel) ?_
  refine lv_istore_n (lv' := [(2, .int 0), (0, .int 0), (1, .int 2)]) hx hb dX12_isOnce_1 rfl hl (by decide) rfl (fun ls hl => ?_)
  refine lv_iconst (v := 0) hx hb dX12_isOnce_2 (by decide +kernel) ?_
  refine lv_istore_n (lv' := [(3, .int 0), (2, .int 0), (0, .int 0), (1, .int 2)]) hx hb dX12_isOnce_3 rfl hl (by decide) rfl (fun ls hl => ?_)
  refine lv_iload_n hx hb dX12_isOnce_4 rfl (lv_at hl 0 rfl) ?_
  refine lv_iload_n hx hb dX12_isOnce_5 rfl (lv_at hl 3 rfl) ?_
  refine lv_icmp_ge (tgt := 27) hx hb dX12_isOnce_6 (by decide) (fun c9 => absurd c9 (by decide +kernel)) (fun _ => ?_)
  refine lv_iload_n hx hb dX12_isOnce_9 rfl (lv_at hl 1 rfl) ?_
  refine lv_iconst (v := 1) hx hb dX12_isOnce_10 (by decide +kernel) ?_
  refine lv_iload_n hx hb dX12_isOnce_11 rfl (lv_at hl 2 rfl) ?_
  refine lv_iconst (v := 2) hx hb dX12_isOnce_12 (by decide +kernel) ?_
  refine lv_iload_n hx hb dX12_isOnce_13 rfl (lv_at hl 0 rfl) ?_
  refine jw_imul (v := 0) hx hb dX12_isOnce_14 (by decide +kernel) ?_
  refine jw_ishr (v := 0) hx hb dX12_isOnce_15 (by decide +kernel) ?_
  refine lv_iconst (v := 3) hx hb dX12_isOnce_16 (by decide +kernel) ?_
  refine jw_iand (v := 0) hx hb dX12_isOnce_17 (by decide +kernel) ?_
  refine jw_ishl (v := 1) hx hb dX12_isOnce_18 (by decide +kernel) ?_
  refine jw_ior (v := 1) hx hb dX12_isOnce_19 (by decide +kernel) ?_
  refine lv_istore_n (lv' := [(2, .int 1), (3, .int 0), (0, .int 0), (1, .int 2)]) hx hb dX12_isOnce_20 rfl hl (by decide) rfl (fun ls hl => ?_)
  refine lv_iinc (v := 1) (lv' := [(3, .int 1), (2, .int 1), (0, .int 0), (1, .int 2)]) hx hb dX12_isOnce_21 hl (k := 1) rfl (by decide +kernel) (by decide) rfl (fun ls hl => ?_)
  refine lv_goto (tgt := 4) hx hb dX12_isOnce_24 (by decide) ?_
  refine lv_iload_n hx hb dX12_isOnce_4 rfl (lv_at hl 0 rfl) ?_
  refine lv_iload_n hx hb dX12_isOnce_5 rfl (lv_at hl 3 rfl) ?_
  refine lv_icmp_ge (tgt := 27) hx hb dX12_isOnce_6 (by decide) (fun c9 => absurd c9 (by decide +kernel)) (fun _ => ?_)
  refine lv_iload_n hx hb dX12_isOnce_9 rfl (lv_at hl 1 rfl) ?_
  refine lv_iconst (v := 1) hx hb dX12_isOnce_10 (by decide +kernel) ?_
  refine lv_iload_n hx hb dX12_isOnce_11 rfl (lv_at hl 2 rfl) ?_
  refine lv_iconst (v := 2) hx hb dX12_isOnce_12 (by decide +kernel) ?_
  refine lv_iload_n hx hb dX12_isOnce_13 rfl (lv_at hl 0 rfl) ?_
  refine jw_imul (v := 2) hx hb dX12_isOnce_14 (by decide +kernel) ?_
  refine jw_ishr (v := 0) hx hb dX12_isOnce_15 (by decide +kernel) ?_
  refine lv_iconst (v := 3) hx hb dX12_isOnce_16 (by decide +kernel) ?_
  refine jw_iand (v := 0) hx hb dX12_isOnce_17 (by decide +kernel) ?_
  refine jw_ishl (v := 1) hx hb dX12_isOnce_18 (by decide +kernel) ?_
  refine jw_ior (v := 1) hx hb dX12_isOnce_19 (by decide +kernel) ?_
  refine lv_istore_n (lv' := [(2, .int 1), (3, .int 1), (0, .int 0), (1, .int 2)]) hx hb dX12_isOnce_20 rfl hl (by decide) rfl (fun ls hl => ?_)
  refine lv_iinc (v := 2) (lv' := [(3, .int 2), (2, .int 1), (0, .int 0), (1, .int 2)]) hx hb dX12_isOnce_21 hl (k := 1) rfl (by decide +kernel) (by decide) rfl (fun ls hl => ?_)
  refine lv_goto (tgt := 4) hx hb dX12_isOnce_24 (by decide) ?_
  refine lv_iload_n hx hb dX12_isOnce_4 rfl (lv_at hl 0 rfl) ?_
  refine lv_iload_n hx hb dX12_isOnce_5 rfl (lv_at hl 3 rfl) ?_
  refine lv_icmp_ge (tgt := 27) hx hb dX12_isOnce_6 (by decide) (fun _ => ?_) (fun c9 => absurd (by decide +kernel) c9)
  refine lv_iload_n hx hb dX12_isOnce_27 rfl (lv_at hl 1 rfl) ?_
  refine lv_iconst (v := 1) hx hb dX12_isOnce_28 (by decide +kernel) ?_
  refine lv_iload_n hx hb dX12_isOnce_29 rfl (lv_at hl 3 rfl) ?_
  refine jw_ishl (v := 4) hx hb dX12_isOnce_30 (by decide +kernel) ?_
  refine lv_iconst (v := 1) hx hb dX12_isOnce_31 (by decide +kernel) ?_
  refine jw_isub (v := 3) hx hb dX12_isOnce_32 (by decide +kernel) ?_
  refine lv_icmp_ne (tgt := 40) hx hb dX12_isOnce_33 (by decide) (fun _ => ?_) (fun c9 => absurd c9 (by decide +kernel))
  refine lv_iconst (v := 0) hx hb dX12_isOnce_40 (by decide +kernel) ?_
  refine W.widen (k := 0) (n := 0) (Nat.le_of_ble_eq_true rfl) (Nat.le_of_ble_eq_true rfl) ?_
  exact jw_zret hx hb hr hlocks rfl rfl rfl hP hD hS dX12_isOnce_41
set_option maxHeartbeats 4000000 in
set_option maxRecDepth 100000 in
theorem k374_X12_isOnce {l : Launch} {D : va_G} {Y : Nat → ClassId} {tt : Nat → Nat} (sz : Nat) : Met l yX12_isOnce wsX12_isOnce ({ frames := 0, cells := 0, slots := 0, locals := 0 }) (jw_Pc D Y tt [.int 4, .int 2] [] sz) (jw_Qi D (fun r => r = 1) (fun w => w = []) (va_A [] sz)) 0 0 (va_A [] sz) := by
  refine jw_met (fun A => jw_Qi D (fun r => r = 1) (fun w => w = []) A) (cc := cX12_isOnce) (maxL := 4) (ret := (some .boolean)) pn_X12_isOnce rfl rfl ?_
  intro p e s m below meth c A H locs ls hx hb hml hr hts hown hlocks hin hP hD hA hS hE hl
  have hown : s.vm.findClass RX12 = some m.cls := hown
  have hl : lv_has ls 4 [(0, .int 4), (1, .int 2)] := hl
  refine lv_iconst (v := 0) hx hb dX12_isOnce_0 (by decide +kernel) ?_
  refine lv_istore_n (lv' := [(2, .int 0), (0, .int 4), (1, .int 2)]) hx hb dX12_isOnce_1 rfl hl (by decide) rfl (fun ls hl => ?_)
  refine lv_iconst (v := 0) hx hb dX12_isOnce_2 (by decide +kernel) ?_
  refine lv_istore_n (lv' := [(3, .int 0), (2, .int 0), (0, .int 4), (1, .int 2)]) hx hb dX12_isOnce_3 rfl hl (by decide) rfl (fun ls hl => ?_)
  refine lv_iload_n hx hb dX12_isOnce_4 rfl (lv_at hl 0 rfl) ?_
  refine lv_iload_n hx hb dX12_isOnce_5 rfl (lv_at hl 3 rfl) ?_
  refine lv_icmp_ge (tgt := 27) hx hb dX12_isOnce_6 (by decide) (fun c9 => absurd c9 (by decide +kernel)) (fun _ => ?_)
  refine lv_iload_n hx hb dX12_isOnce_9 rfl (lv_at hl 1 rfl) ?_
  refine lv_iconst (v := 1) hx hb dX12_isOnce_10 (by decide +kernel) ?_
  refine lv_iload_n hx hb dX12_isOnce_11 rfl (lv_at hl 2 rfl) ?_
  refine lv_iconst (v := 2) hx hb dX12_isOnce_12 (by decide +kernel) ?_
  refine lv_iload_n hx hb dX12_isOnce_13 rfl (lv_at hl 0 rfl) ?_
  refine jw_imul (v := 0) hx hb dX12_isOnce_14 (by decide +kernel) ?_
  refine jw_ishr (v := 4) hx hb dX12_isOnce_15 (by decide +kernel) ?_
  refine lv_iconst (v := 3) hx hb dX12_isOnce_16 (by decide +kernel) ?_
  refine jw_iand (v := 0) hx hb dX12_isOnce_17 (by decide +kernel) ?_
  refine jw_ishl (v := 1) hx hb dX12_isOnce_18 (by decide +kernel) ?_
  refine jw_ior (v := 1) hx hb dX12_isOnce_19 (by decide +kernel) ?_
  refine lv_istore_n (lv' := [(2, .int 1), (3, .int 0), (0, .int 4), (1, .int 2)]) hx hb dX12_isOnce_20 rfl hl (by decide) rfl (fun ls hl => ?_)
  refine lv_iinc (v := 1) (lv' := [(3, .int 1), (2, .int 1), (0, .int 4), (1, .int 2)]) hx hb dX12_isOnce_21 hl (k := 1) rfl (by decide +kernel) (by decide) rfl (fun ls hl => ?_)
  refine lv_goto (tgt := 4) hx hb dX12_isOnce_24 (by decide) ?_
  refine lv_iload_n hx hb dX12_isOnce_4 rfl (lv_at hl 0 rfl) ?_
  refine lv_iload_n hx hb dX12_isOnce_5 rfl (lv_at hl 3 rfl) ?_
  refine lv_icmp_ge (tgt := 27) hx hb dX12_isOnce_6 (by decide) (fun c9 => absurd c9 (by decide +kernel)) (fun _ => ?_)
  refine lv_iload_n hx hb dX12_isOnce_9 rfl (lv_at hl 1 rfl) ?_
  refine lv_iconst (v := 1) hx hb dX12_isOnce_10 (by decide +kernel) ?_
  refine lv_iload_n hx hb dX12_isOnce_11 rfl (lv_at hl 2 rfl) ?_
  refine lv_iconst (v := 2) hx hb dX12_isOnce_12 (by decide +kernel) ?_
  refine lv_iload_n hx hb dX12_isOnce_13 rfl (lv_at hl 0 rfl) ?_
  refine jw_imul (v := 2) hx hb dX12_isOnce_14 (by decide +kernel) ?_
  refine jw_ishr (v := 1) hx hb dX12_isOnce_15 (by decide +kernel) ?_
  refine lv_iconst (v := 3) hx hb dX12_isOnce_16 (by decide +kernel) ?_
  refine jw_iand (v := 1) hx hb dX12_isOnce_17 (by decide +kernel) ?_
  refine jw_ishl (v := 2) hx hb dX12_isOnce_18 (by decide +kernel) ?_
  refine jw_ior (v := 3) hx hb dX12_isOnce_19 (by decide +kernel) ?_
  refine lv_istore_n (lv' := [(2, .int 3), (3, .int 1), (0, .int 4), (1, .int 2)]) hx hb dX12_isOnce_20 rfl hl (by decide) rfl (fun ls hl => ?_)
  refine lv_iinc (v := 2) (lv' := [(3, .int 2), (2, .int 3), (0, .int 4), (1, .int 2)]) hx hb dX12_isOnce_21 hl (k := 1) rfl (by decide +kernel) (by decide) rfl (fun ls hl => ?_)
  refine lv_goto (tgt := 4) hx hb dX12_isOnce_24 (by decide) ?_
  refine lv_iload_n hx hb dX12_isOnce_4 rfl (lv_at hl 0 rfl) ?_
  refine lv_iload_n hx hb dX12_isOnce_5 rfl (lv_at hl 3 rfl) ?_
  refine lv_icmp_ge (tgt := 27) hx hb dX12_isOnce_6 (by decide) (fun _ => ?_) (fun c9 => absurd (by decide +kernel) c9)
  refine lv_iload_n hx hb dX12_isOnce_27 rfl (lv_at hl 1 rfl) ?_
  refine lv_iconst (v := 1) hx hb dX12_isOnce_28 (by decide +kernel) ?_
  refine lv_iload_n hx hb dX12_isOnce_29 rfl (lv_at hl 3 rfl) ?_
  refine jw_ishl (v := 4) hx hb dX12_isOnce_30 (by decide +kernel) ?_
  refine lv_iconst (v := 1) hx hb dX12_isOnce_31 (by decide +kernel) ?_
  refine jw_isub (v := 3) hx hb dX12_isOnce_32 (by decide +kernel) ?_
  refine lv_icmp_ne (tgt := 40) hx hb dX12_isOnce_33 (by decide) (fun c9 => absurd (by decide +kernel) c9) (fun _ => ?_)
  refine lv_iconst (v := 1) hx hb dX12_isOnce_36 (by decide +kernel) ?_
  refine lv_goto (tgt := 41) hx hb dX12_isOnce_37 (by decide) ?_
  refine W.widen (k := 0) (n := 0) (Nat.le_of_ble_eq_true rfl) (Nat.le_of_ble_eq_true rfl) ?_
  exact jw_zret hx hb hr hlocks rfl rfl rfl hP hD hS dX12_isOnce_41
set_option maxHeartbeats 4000000 in
set_option maxRecDepth 100000 in
theorem k375_X12_isOnce {l : Launch} {D : va_G} {Y : Nat → ClassId} {tt : Nat → Nat} (sz : Nat) : Met l yX12_isOnce wsX12_isOnce ({ frames := 0, cells := 0, slots := 0, locals := 0 }) (jw_Pc D Y tt [.int 8, .int 2] [] sz) (jw_Qi D (fun r => r = 0) (fun w => w = []) (va_A [] sz)) 0 0 (va_A [] sz) := by
  refine jw_met (fun A => jw_Qi D (fun r => r = 0) (fun w => w = []) A) (cc := cX12_isOnce) (maxL := 4) (ret := (some .boolean)) pn_X12_isOnce rfl rfl ?_
  intro p e s m below meth c A H locs ls hx hb hml hr hts hown hlocks hin hP hD hA hS hE hl
  have hown : s.vm.findClass RX12 = some m.cls := hown
  have hl : lv_has ls 4 [(0, .int 8), (1, .int 2)] := hl
  refine lv_iconst (v := 0) hx hb dX12_isOnce_0 (by decide +kernel) ?_
  refine lv_istore_n (lv' := [(2, .int 0), (0, .int 8), (1, .int 2)]) hx hb dX12_isOnce_1 rfl hl (by decide) rfl (fun ls hl => ?_)
  refine lv_iconst (v := 0) hx hb dX12_isOnce_2 (by decide +kernel) ?_
  refine lv_istore_n (lv' := [(3, .int 0), (2, .int 0), (0, .int 8), (1, .int 2)]) hx hb dX12_isOnce_3 rfl hl (by decide) rfl (fun ls hl => ?_)
  refine lv_iload_n hx hb dX12_isOnce_4 rfl (lv_at hl 0 rfl) ?_
  refine lv_iload_n hx hb dX12_isOnce_5 rfl (lv_at hl 3 rfl) ?_
  refine lv_icmp_ge (tgt := 27) hx hb dX12_isOnce_6 (by decide) (fun c9 => absurd c9 (by decide +kernel)) (fun _ => ?_)
  refine lv_iload_n hx hb dX12_isOnce_9 rfl (lv_at hl 1 rfl) ?_
  refine lv_iconst (v := 1) hx hb dX12_isOnce_10 (by decide +kernel) ?_
  refine lv_iload_n hx hb dX12_isOnce_11 rfl (lv_at hl 2 rfl) ?_
  refine lv_iconst (v := 2) hx hb dX12_isOnce_12 (by decide +kernel) ?_
  refine lv_iload_n hx hb dX12_isOnce_13 rfl (lv_at hl 0 rfl) ?_
  refine jw_imul (v := 0) hx hb dX12_isOnce_14 (by decide +kernel) ?_
  refine jw_ishr (v := 8) hx hb dX12_isOnce_15 (by decide +kernel) ?_
  refine lv_iconst (v := 3) hx hb dX12_isOnce_16 (by decide +kernel) ?_
  refine jw_iand (v := 0) hx hb dX12_isOnce_17 (by decide +kernel) ?_
  refine jw_ishl (v := 1) hx hb dX12_isOnce_18 (by decide +kernel) ?_
  refine jw_ior (v := 1) hx hb dX12_isOnce_19 (by decide +kernel) ?_
  refine lv_istore_n (lv' := [(2, .int 1), (3, .int 0), (0, .int 8), (1, .int 2)]) hx hb dX12_isOnce_20 rfl hl (by decide) rfl (fun ls hl => ?_)
  refine lv_iinc (v := 1) (lv' := [(3, .int 1), (2, .int 1), (0, .int 8), (1, .int 2)]) hx hb dX12_isOnce_21 hl (k := 1) rfl (by decide +kernel) (by decide) rfl (fun ls hl => ?_)
  refine lv_goto (tgt := 4) hx hb dX12_isOnce_24 (by decide) ?_
  refine lv_iload_n hx hb dX12_isOnce_4 rfl (lv_at hl 0 rfl) ?_
  refine lv_iload_n hx hb dX12_isOnce_5 rfl (lv_at hl 3 rfl) ?_
  refine lv_icmp_ge (tgt := 27) hx hb dX12_isOnce_6 (by decide) (fun c9 => absurd c9 (by decide +kernel)) (fun _ => ?_)
  refine lv_iload_n hx hb dX12_isOnce_9 rfl (lv_at hl 1 rfl) ?_
  refine lv_iconst (v := 1) hx hb dX12_isOnce_10 (by decide +kernel) ?_
  refine lv_iload_n hx hb dX12_isOnce_11 rfl (lv_at hl 2 rfl) ?_
  refine lv_iconst (v := 2) hx hb dX12_isOnce_12 (by decide +kernel) ?_
  refine lv_iload_n hx hb dX12_isOnce_13 rfl (lv_at hl 0 rfl) ?_
  refine jw_imul (v := 2) hx hb dX12_isOnce_14 (by decide +kernel) ?_
  refine jw_ishr (v := 2) hx hb dX12_isOnce_15 (by decide +kernel) ?_
  refine lv_iconst (v := 3) hx hb dX12_isOnce_16 (by decide +kernel) ?_
  refine jw_iand (v := 2) hx hb dX12_isOnce_17 (by decide +kernel) ?_
  refine jw_ishl (v := 4) hx hb dX12_isOnce_18 (by decide +kernel) ?_
  refine jw_ior (v := 5) hx hb dX12_isOnce_19 (by decide +kernel) ?_
  refine lv_istore_n (lv' := [(2, .int 5), (3, .int 1), (0, .int 8), (1, .int 2)]) hx hb dX12_isOnce_20 rfl hl (by decide) rfl (fun ls hl => ?_)
  refine lv_iinc (v := 2) (lv' := [(3, .int 2), (2, .int 5), (0, .int 8), (1, .int 2)]) hx hb dX12_isOnce_21 hl (k := 1) rfl (by decide +kernel) (by decide) rfl (fun ls hl => ?_)
  refine lv_goto (tgt := 4) hx hb dX12_isOnce_24 (by decide) ?_
  refine lv_iload_n hx hb dX12_isOnce_4 rfl (lv_at hl 0 rfl) ?_
  refine lv_iload_n hx hb dX12_isOnce_5 rfl (lv_at hl 3 rfl) ?_
  refine lv_icmp_ge (tgt := 27) hx hb dX12_isOnce_6 (by decide) (fun _ => ?_) (fun c9 => absurd (by decide +kernel) c9)
  refine lv_iload_n hx hb dX12_isOnce_27 rfl (lv_at hl 1 rfl) ?_
  refine lv_iconst (v := 1) hx hb dX12_isOnce_28 (by decide +kernel) ?_
  refine lv_iload_n hx hb dX12_isOnce_29 rfl (lv_at hl 3 rfl) ?_
  refine jw_ishl (v := 4) hx hb dX12_isOnce_30 (by decide +kernel) ?_
  refine lv_iconst (v := 1) hx hb dX12_isOnce_31 (by decide +kernel) ?_
  refine jw_isub (v := 3) hx hb dX12_isOnce_32 (by decide +kernel) ?_
  refine lv_icmp_ne (tgt := 40) hx hb dX12_isOnce_33 (by decide) (fun _ => ?_) (fun c9 => absurd c9 (by decide +kernel))
  refine lv_iconst (v := 0) hx hb dX12_isOnce_40 (by decide +kernel) ?_
  refine W.widen (k := 0) (n := 0) (Nat.le_of_ble_eq_true rfl) (Nat.le_of_ble_eq_true rfl) ?_
  exact jw_zret hx hb hr hlocks rfl rfl rfl hP hD hS dX12_isOnce_41
set_option maxHeartbeats 4000000 in
set_option maxRecDepth 100000 in
theorem k376_X12_isOnce {l : Launch} {D : va_G} {Y : Nat → ClassId} {tt : Nat → Nat} (sz : Nat) : Met l yX12_isOnce wsX12_isOnce ({ frames := 0, cells := 0, slots := 0, locals := 0 }) (jw_Pc D Y tt [.int 12, .int 2] [] sz) (jw_Qi D (fun r => r = 0) (fun w => w = []) (va_A [] sz)) 0 0 (va_A [] sz) := by
  refine jw_met (fun A => jw_Qi D (fun r => r = 0) (fun w => w = []) A) (cc := cX12_isOnce) (maxL := 4) (ret := (some .boolean)) pn_X12_isOnce rfl rfl ?_
  intro p e s m below meth c A H locs ls hx hb hml hr hts hown hlocks hin hP hD hA hS hE hl
  have hown : s.vm.findClass RX12 = some m.cls := hown
  have hl : lv_has ls 4 [(0, .int 12), (1, .int 2)] := hl
  refine lv_iconst (v := 0) hx hb dX12_isOnce_0 (by decide +kernel) ?_
  refine lv_istore_n (lv' := [(2, .int 0), (0, .int 12), (1, .int 2)]) hx hb dX12_isOnce_1 rfl hl (by decide) rfl (fun ls hl => ?_)
  refine lv_iconst (v := 0) hx hb dX12_isOnce_2 (by decide +kernel) ?_
  refine lv_istore_n (lv' := [(3, .int 0), (2, .int 0), (0, .int 12), (1, .int 2)]) hx hb dX12_isOnce_3 rfl hl (by decide) rfl (fun ls hl => ?_)
  refine lv_iload_n hx hb dX12_isOnce_4 rfl (lv_at hl 0 rfl) ?_
  refine lv_iload_n hx hb dX12_isOnce_5 rfl (lv_at hl 3 rfl) ?_
  refine lv_icmp_ge (tgt := 27) hx hb dX12_isOnce_6 (by decide) (fun c9 => absurd c9 (by decide +kernel)) (fun _ => ?_)
  refine lv_iload_n hx hb dX12_isOnce_9 rfl (lv_at hl 1 rfl) ?_
  refine lv_iconst (v := 1) hx hb dX12_isOnce_10 (by decide +kernel) ?_
  refine lv_iload_n hx hb dX12_isOnce_11 rfl (lv_at hl 2 rfl) ?_
  refine lv_iconst (v := 2) hx hb dX12_isOnce_12 (by decide +kernel) ?_
  refine lv_iload_n hx hb dX12_isOnce_13 rfl (lv_at hl 0 rfl) ?_
  refine jw_imul (v := 0) hx hb dX12_isOnce_14 (by decide +kernel) ?_
  refine jw_ishr (v := 12) hx hb dX12_isOnce_15 (by decide +kernel) ?_
  refine lv_iconst (v := 3) hx hb dX12_isOnce_16 (by decide +kernel) ?_
  refine jw_iand (v := 0) hx hb dX12_isOnce_17 (by decide +kernel) ?_
  refine jw_ishl (v := 1) hx hb dX12_isOnce_18 (by decide +kernel) ?_
  refine jw_ior (v := 1) hx hb dX12_isOnce_19 (by decide +kernel) ?_
  refine lv_istore_n (lv' := [(2, .int 1), (3, .int 0), (0, .int 12), (1, .int 2)]) hx hb dX12_isOnce_20 rfl hl (by decide) rfl (fun ls hl => ?_)
  refine lv_iinc (v := 1) (lv' := [(3, .int 1), (2, .int 1), (0, .int 12), (1, .int 2)]) hx hb dX12_isOnce_21 hl (k := 1) rfl (by decide +kernel) (by decide) rfl (fun ls hl => ?_)
  refine lv_goto (tgt := 4) hx hb dX12_isOnce_24 (by decide) ?_
  refine lv_iload_n hx hb dX12_isOnce_4 rfl (lv_at hl 0 rfl) ?_
  refine lv_iload_n hx hb dX12_isOnce_5 rfl (lv_at hl 3 rfl) ?_
  refine lv_icmp_ge (tgt := 27) hx hb dX12_isOnce_6 (by decide) (fun c9 => absurd c9 (by decide +kernel)) (fun _ => ?_)
  refine lv_iload_n hx hb dX12_isOnce_9 rfl (lv_at hl 1 rfl) ?_
  refine lv_iconst (v := 1) hx hb dX12_isOnce_10 (by decide +kernel) ?_
  refine lv_iload_n hx hb dX12_isOnce_11 rfl (lv_at hl 2 rfl) ?_
  refine lv_iconst (v := 2) hx hb dX12_isOnce_12 (by decide +kernel) ?_
  refine lv_iload_n hx hb dX12_isOnce_13 rfl (lv_at hl 0 rfl) ?_
  refine jw_imul (v := 2) hx hb dX12_isOnce_14 (by decide +kernel) ?_
  refine jw_ishr (v := 3) hx hb dX12_isOnce_15 (by decide +kernel) ?_
  refine lv_iconst (v := 3) hx hb dX12_isOnce_16 (by decide +kernel) ?_
  refine jw_iand (v := 3) hx hb dX12_isOnce_17 (by decide +kernel) ?_
  refine jw_ishl (v := 8) hx hb dX12_isOnce_18 (by decide +kernel) ?_
  refine jw_ior (v := 9) hx hb dX12_isOnce_19 (by decide +kernel) ?_
  refine lv_istore_n (lv' := [(2, .int 9), (3, .int 1), (0, .int 12), (1, .int 2)]) hx hb dX12_isOnce_20 rfl hl (by decide) rfl (fun ls hl => ?_)
  refine lv_iinc (v := 2) (lv' := [(3, .int 2), (2, .int 9), (0, .int 12), (1, .int 2)]) hx hb dX12_isOnce_21 hl (k := 1) rfl (by decide +kernel) (by decide) rfl (fun ls hl => ?_)
  refine lv_goto (tgt := 4) hx hb dX12_isOnce_24 (by decide) ?_
  refine lv_iload_n hx hb dX12_isOnce_4 rfl (lv_at hl 0 rfl) ?_
  refine lv_iload_n hx hb dX12_isOnce_5 rfl (lv_at hl 3 rfl) ?_
  refine lv_icmp_ge (tgt := 27) hx hb dX12_isOnce_6 (by decide) (fun _ => ?_) (fun c9 => absurd (by decide +kernel) c9)
  refine lv_iload_n hx hb dX12_isOnce_27 rfl (lv_at hl 1 rfl) ?_
  refine lv_iconst (v := 1) hx hb dX12_isOnce_28 (by decide +kernel) ?_
  refine lv_iload_n hx hb dX12_isOnce_29 rfl (lv_at hl 3 rfl) ?_
  refine jw_ishl (v := 4) hx hb dX12_isOnce_30 (by decide +kernel) ?_
  refine lv_iconst (v := 1) hx hb dX12_isOnce_31 (by decide +kernel) ?_
  refine jw_isub (v := 3) hx hb dX12_isOnce_32 (by decide +kernel) ?_
  refine lv_icmp_ne (tgt := 40) hx hb dX12_isOnce_33 (by decide) (fun _ => ?_) (fun c9 => absurd c9 (by decide +kernel))
  refine lv_iconst (v := 0) hx hb dX12_isOnce_40 (by decide +kernel) ?_
  refine W.widen (k := 0) (n := 0) (Nat.le_of_ble_eq_true rfl) (Nat.le_of_ble_eq_true rfl) ?_
  exact jw_zret hx hb hr hlocks rfl rfl rfl hP hD hS dX12_isOnce_41
set_option maxHeartbeats 4000000 in
set_option maxRecDepth 100000 in
theorem k377_X12_isOnce {l : Launch} {D : va_G} {Y : Nat → ClassId} {tt : Nat → Nat} (sz : Nat) : Met l yX12_isOnce wsX12_isOnce ({ frames := 0, cells := 0, slots := 0, locals := 0 }) (jw_Pc D Y tt [.int 1, .int 2] [] sz) (jw_Qi D (fun r => r = 1) (fun w => w = []) (va_A [] sz)) 0 0 (va_A [] sz) := by
  refine jw_met (fun A => jw_Qi D (fun r => r = 1) (fun w => w = []) A) (cc := cX12_isOnce) (maxL := 4) (ret := (some .boolean)) pn_X12_isOnce rfl rfl ?_
  intro p e s m below meth c A H locs ls hx hb hml hr hts hown hlocks hin hP hD hA hS hE hl
  have hown : s.vm.findClass RX12 = some m.cls := hown
  have hl : lv_has ls 4 [(0, .int 1), (1, .int 2)] := hl
  refine lv_iconst (v := 0) hx hb dX12_isOnce_0 (by decide +kernel) ?_
  refine lv_istore_n (lv' := [(2, .int 0), (0, .int 1), (1, .int 2)]) hx hb dX12_isOnce_1 rfl hl (by decide) rfl (fun ls hl => ?_)
  refine lv_iconst (v := 0) hx hb dX12_isOnce_2 (by decide +kernel) ?_
  refine lv_istore_n (lv' := [(3, .int 0), (2, .int 0), (0, .int 1), (1, .int 2)]) hx hb dX12_isOnce_3 rfl hl (by decide) rfl (fun ls hl => ?_)
  refine lv_iload_n hx hb dX12_isOnce_4 rfl (lv_at hl 0 rfl) ?_
  refine lv_iload_n hx hb dX12_isOnce_5 rfl (lv_at hl 3 rfl) ?_
  refine lv_icmp_ge (tgt := 27) hx hb dX12_isOnce_6 (by decide) (fun c9 => absurd c9 (by decide +kernel)) (fun _ => ?_)
  refine lv_iload_n hx hb dX12_isOnce_9 rfl (lv_at hl 1 rfl) ?_
  refine lv_iconst (v := 1) hx hb dX12_isOnce_10 (by decide +kernel) ?_
  refine lv_iload_n hx hb dX12_isOnce_11 rfl (lv_at hl 2 rfl) ?_
  refine lv_iconst (v := 2) hx hb dX12_isOnce_12 (by decide +kernel) ?_
  refine lv_iload_n hx hb dX12_isOnce_13 rfl (lv_at hl 0 rfl) ?_
  refine jw_imul (v := 0) hx hb dX12_isOnce_14 (by decide +kernel) ?_
  refine jw_ishr (v := 1) hx hb dX12_isOnce_15 (by decide +kernel) ?_
  refine lv_iconst (v := 3) hx hb dX12_isOnce_16 (by decide +kernel) ?_
  refine jw_iand (v := 1) hx hb dX12_isOnce_17 (by decide +kernel) ?_
  refine jw_ishl (v := 2) hx hb dX12_isOnce_18 (by decide +kernel) ?_
  refine jw_ior (v := 2) hx hb dX12_isOnce_19 (by decide +kernel) ?_
  refine lv_istore_n (lv' := [(2, .int 2), (3, .int 0), (0, .int 1), (1, .int 2)]) hx hb dX12_isOnce_20 rfl hl (by decide) rfl (fun ls hl => ?_)
  refine lv_iinc (v := 1) (lv' := [(3, .int 1), (2, .int 2), (0, .int 1), (1, .int 2)]) hx hb dX12_isOnce_21 hl (k := 1) rfl (by decide +kernel) (by decide) rfl (fun ls hl => ?_)
  refine lv_goto (tgt := 4) hx hb dX12_isOnce_24 (by decide) ?_
  refine lv_iload_n hx hb dX12_isOnce_4 rfl (lv_at hl 0 rfl) ?_
  refine lv_iload_n hx hb dX12_isOnce_5 rfl (lv_at hl 3 rfl) ?_
  refine lv_icmp_ge (tgt := 27) hx hb dX12_isOnce_6 (by decide) (fun c9 => absurd c9 (by decide +kernel)) (fun _ => ?_)
  refine lv_iload_n hx hb dX12_isOnce_9 rfl (lv_at hl 1 rfl) ?_
  refine lv_iconst (v := 1) hx hb dX12_isOnce_10 (by decide +kernel) ?_
  refine lv_iload_n hx hb dX12_isOnce_11 rfl (lv_at hl 2 rfl) ?_
  refine lv_iconst (v := 2) hx hb dX12_isOnce_12 (by decide +kernel) ?_
  refine lv_iload_n hx hb dX12_isOnce_13 rfl (lv_at hl 0 rfl) ?_
  refine jw_imul (v := 2) hx hb dX12_isOnce_14 (by decide +kernel) ?_
  refine jw_ishr (v := 0) hx hb dX12_isOnce_15 (by decide +kernel) ?_
  refine lv_iconst (v := 3) hx hb dX12_isOnce_16 (by decide +kernel) ?_
  refine jw_iand (v := 0) hx hb dX12_isOnce_17 (by decide +kernel) ?_
  refine jw_ishl (v := 1) hx hb dX12_isOnce_18 (by decide +kernel) ?_
  refine jw_ior (v := 3) hx hb dX12_isOnce_19 (by decide +kernel) ?_
  refine lv_istore_n (lv' := [(2, .int 3), (3, .int 1), (0, .int 1), (1, .int 2)]) hx hb dX12_isOnce_20 rfl hl (by decide) rfl (fun ls hl => ?_)
  refine lv_iinc (v := 2) (lv' := [(3, .int 2), (2, .int 3), (0, .int 1), (1, .int 2)]) hx hb dX12_isOnce_21 hl (k := 1) rfl (by decide +kernel) (by decide) rfl (fun ls hl => ?_)
  refine lv_goto (tgt := 4) hx hb dX12_isOnce_24 (by decide) ?_
  refine lv_iload_n hx hb dX12_isOnce_4 rfl (lv_at hl 0 rfl) ?_
  refine lv_iload_n hx hb dX12_isOnce_5 rfl (lv_at hl 3 rfl) ?_
  refine lv_icmp_ge (tgt := 27) hx hb dX12_isOnce_6 (by decide) (fun _ => ?_) (fun c9 => absurd (by decide +kernel) c9)
  refine lv_iload_n hx hb dX12_isOnce_27 rfl (lv_at hl 1 rfl) ?_
  refine lv_iconst (v := 1) hx hb dX12_isOnce_28 (by decide +kernel) ?_
  refine lv_iload_n hx hb dX12_isOnce_29 rfl (lv_at hl 3 rfl) ?_
  refine jw_ishl (v := 4) hx hb dX12_isOnce_30 (by decide +kernel) ?_
  refine lv_iconst (v := 1) hx hb dX12_isOnce_31 (by decide +kernel) ?_
  refine jw_isub (v := 3) hx hb dX12_isOnce_32 (by decide +kernel) ?_
  refine lv_icmp_ne (tgt := 40) hx hb dX12_isOnce_33 (by decide) (fun c9 => absurd (by decide +kernel) c9) (fun _ => ?_)
  refine lv_iconst (v := 1) hx hb dX12_isOnce_36 (by decide +kernel) ?_
  refine lv_goto (tgt := 41) hx hb dX12_isOnce_37 (by decide) ?_
  refine W.widen (k := 0) (n := 0) (Nat.le_of_ble_eq_true rfl) (Nat.le_of_ble_eq_true rfl) ?_
  exact jw_zret hx hb hr hlocks rfl rfl rfl hP hD hS dX12_isOnce_41
set_option maxHeartbeats 4000000 in
set_option maxRecDepth 100000 in
theorem k378_X12_layMasks {l : Launch} {D : va_G} {Y : Nat → ClassId} {tt : Nat → Nat} (h0 h1 h2 h3 h4 h5 h6 h7 h8 h9 h10 h11 h12 h13 h14 h15 h16 h17 h18 h19 h20 h21 h22 h23 h24 h25 h26 h27 h28 h29 h30 h31 h32 h33 h34 h35 : Nat) (sz : Nat) : Met l yX12_layMasks wsX12_layMasks ({ frames := 0, cells := 0, slots := 0, locals := 0 }) (jw_Pc D Y tt [.ref h0] [(h0, .inr (15, [.ref h8, .int 0, .int 0, .ref h9, .int 0, .int (-1), .int 0, .int 0, .int 0, .int 0, .int 0, .int 2, .int 0, .int 0, .int 0, .ref h10, .ref h11, .ref h12, .ref h13, .int 2, .int 0, .int 0, .int 0, .int 0, .ref h14, .ref h15, .ref h16, .ref h17, .int 2, .ref h1, .int 1, .ref h2, .ref h18, .int 1, .ref h19, .ref h20, .ref h21, .int 0, .ref h22, .ref h23, .ref h24, .ref h25, .ref h3, .ref h4, .ref h26, .ref h5, .ref h6, .int 9, .ref h7, .ref h27, .ref h28, .int (-1), .ref h29, .long 0, .long 0, .int (-1), .int (-1), .long 0, .long 1, .ref h30, .ref h31, .ref h32, .ref h33, .ref h34, .ref h35, .long 0])), (h1, .inl (Y 1, 100, .inl (jw_l 0 [0, 1, 0, 0, 1, 0, 0, 0, 1, 1]))), (h2, .inl (Y 1, 13824, .inl (jw_l 0 [0]))), (h3, .inl (Y 1, 6, .inl (jw_l 0 [0, 1]))), (h4, .inl (Y 1, 14425, .inl (jw_l 0 [0]))), (h5, .inl (Y 1, 13824, .inl (jw_l 0 [0]))), (h6, .inl (Y 1, 16, .inl (jw_l 0 [1, 2, 0, 0, 2, 1, 0, 0, 0, 0, 0, 0, 0, 0, 0, 0]))), (h7, .inl (Y 1, 5, .inl (jw_l 0 [1, 3])))] sz) (jw_Qv D (fun w => w = [(h0, .inr (15, [.ref h8, .int 0, .int 0, .ref h9, .int 0, .int (-1), .int 0, .int 0, .int 0, .int 0, .int 0, .int 2, .int 0, .int 0, .int 0, .ref h10, .ref h11, .ref h12, .ref h13, .int 2, .int 0, .int 0, .int 0, .int 0, .ref h14, .ref h15, .ref h16, .ref h17, .int 2, .ref h1, .int 1, .ref h2, .ref h18, .int 1, .ref h19, .ref h20, .ref h21, .int 0, .ref h22, .ref h23, .ref h24, .ref h25, .ref h3, .ref h4, .ref h26, .ref h5, .ref h6, .int 9, .ref h7, .ref h27, .ref h28, .int (-1), .ref h29, .long 0, .long 0, .int (-1), .int (-1), .long 0, .long 1, .ref h30, .ref h31, .ref h32, .ref h33, .ref h34, .ref h35, .long 0])), (h1, .inl (Y 1, 100, .inl (jw_l 0 [0, 1, 0, 0, 1, 0, 0, 0, 1, 1]))), (h2, .inl (Y 1, 13824, .inl (jw_l 0 [0]))), (h3, .inl (Y 1, 6, .inl (jw_l 0 [0, 1]))), (h4, .inl (Y 1, 14425, .inl (jw_l 0 [0]))), (h5, .inl (Y 1, 13824, .inl (jw_l 0 [0]))), (h6, .inl (Y 1, 16, .inl (jw_l 0 [1, 2, 0, 0, 2, 1, 0, 0, 0, 0, 0, 0, 0, 0, 0, 0]))), (h7, .inl (Y 1, 5, .inl (jw_l 0 [1, 3])))]) (va_A [(h0, .inr (15, [.ref h8, .int 0, .int 0, .ref h9, .int 0, .int (-1), .int 0, .int 0, .int 0, .int 0, .int 0, .int 2, .int 0, .int 0, .int 0, .ref h10, .ref h11, .ref h12, .ref h13, .int 2, .int 0, .int 0, .int 0, .int 0, .ref h14, .ref h15, .ref h16, .ref h17, .int 2, .ref h1, .int 1, .ref h2, .ref h18, .int 1, .ref h19, .ref h20, .ref h21, .int 0, .ref h22, .ref h23, .ref h24, .ref h25, .ref h3, .ref h4, .ref h26, .ref h5, .ref h6, .int 9, .ref h7, .ref h27, .ref h28, .int (-1), .ref h29, .long 0, .long 0, .int (-1), .int (-1), .long 0, .long 1, .ref h30, .ref h31, .ref h32, .ref h33, .ref h34, .ref h35, .long 0])), (h1, .inl (Y 1, 100, .inl (jw_l 0 [0, 1, 0, 0, 1, 0, 0, 0, 1, 1]))), (h2, .inl (Y 1, 13824, .inl (jw_l 0 [0]))), (h3, .inl (Y 1, 6, .inl (jw_l 0 [0, 1]))), (h4, .inl (Y 1, 14425, .inl (jw_l 0 [0]))), (h5, .inl (Y 1, 13824, .inl (jw_l 0 [0]))), (h6, .inl (Y 1, 16, .inl (jw_l 0 [1, 2, 0, 0, 2, 1, 0, 0, 0, 0, 0, 0, 0, 0, 0, 0]))), (h7, .inl (Y 1, 5, .inl (jw_l 0 [1, 3])))] sz)) 0 0 (va_A [(h0, .inr (15, [.ref h8, .int 0, .int 0, .ref h9, .int 0, .int (-1), .int 0, .int 0, .int 0, .int 0, .int 0, .int 2, .int 0, .int 0, .int 0, .ref h10, .ref h11, .ref h12, .ref h13, .int 2, .int 0, .int 0, .int 0, .int 0, .ref h14, .ref h15, .ref h16, .ref h17, .int 2, .ref h1, .int 1, .ref h2, .ref h18, .int 1, .ref h19, .ref h20, .ref h21, .int 0, .ref h22, .ref h23, .ref h24, .ref h25, .ref h3, .ref h4, .ref h26, .ref h5, .ref h6, .int 9, .ref h7, .ref h27, .ref h28, .int (-1), .ref h29, .long 0, .long 0, .int (-1), .int (-1), .long 0, .long 1, .ref h30, .ref h31, .ref h32, .ref h33, .ref h34, .ref h35, .long 0])), (h1, .inl (Y 1, 100, .inl (jw_l 0 [0, 1, 0, 0, 1, 0, 0, 0, 1, 1]))), (h2, .inl (Y 1, 13824, .inl (jw_l 0 [0]))), (h3, .inl (Y 1, 6, .inl (jw_l 0 [0, 1]))), (h4, .inl (Y 1, 14425, .inl (jw_l 0 [0]))), (h5, .inl (Y 1, 13824, .inl (jw_l 0 [0]))), (h6, .inl (Y 1, 16, .inl (jw_l 0 [1, 2, 0, 0, 2, 1, 0, 0, 0, 0, 0, 0, 0, 0, 0, 0]))), (h7, .inl (Y 1, 5, .inl (jw_l 0 [1, 3])))] sz) := by
  refine jw_met (fun A => jw_Qv D (fun w => w = [(h0, .inr (15, [.ref h8, .int 0, .int 0, .ref h9, .int 0, .int (-1), .int 0, .int 0, .int 0, .int 0, .int 0, .int 2, .int 0, .int 0, .int 0, .ref h10, .ref h11, .ref h12, .ref h13, .int 2, .int 0, .int 0, .int 0, .int 0, .ref h14, .ref h15, .ref h16, .ref h17, .int 2, .ref h1, .int 1, .ref h2, .ref h18, .int 1, .ref h19, .ref h20, .ref h21, .int 0, .ref h22, .ref h23, .ref h24, .ref h25, .ref h3, .ref h4, .ref h26, .ref h5, .ref h6, .int 9, .ref h7, .ref h27, .ref h28, .int (-1), .ref h29, .long 0, .long 0, .int (-1), .int (-1), .long 0, .long 1, .ref h30, .ref h31, .ref h32, .ref h33, .ref h34, .ref h35, .long 0])), (h1, .inl (Y 1, 100, .inl (jw_l 0 [0, 1, 0, 0, 1, 0, 0, 0, 1, 1]))), (h2, .inl (Y 1, 13824, .inl (jw_l 0 [0]))), (h3, .inl (Y 1, 6, .inl (jw_l 0 [0, 1]))), (h4, .inl (Y 1, 14425, .inl (jw_l 0 [0]))), (h5, .inl (Y 1, 13824, .inl (jw_l 0 [0]))), (h6, .inl (Y 1, 16, .inl (jw_l 0 [1, 2, 0, 0, 2, 1, 0, 0, 0, 0, 0, 0, 0, 0, 0, 0]))), (h7, .inl (Y 1, 5, .inl (jw_l 0 [1, 3])))]) A) (cc := cX12_layMasks) (maxL := 6) (ret := none) pn_X12_layMasks rfl rfl ?_
  intro p e s m below meth c A H locs ls hx hb hml hr hts hown hlocks hin hP hD hA hS hE hl
  have hown : s.vm.findClass RX12 = some m.cls := hown
  have hl : lv_has ls 6 [(0, .ref h0)] := hl
  refine lv_iconst (v := 1) hx hb dX12_layMasks_0 (by decide +kernel) ?_
  refine lv_istore_n (lv' := [(1, .int 1), (0, .ref h0)]) hx hb dX12_layMasks_1 rfl hl (by decide) rfl (fun ls hl => ?_)
  refine lv_aload_n hx hb dX12_layMasks_2 rfl (lv_at hl 1 rfl) ?_
  refine va_get (D := D) (ci := 15) (v := .ref h3) (C := RX12) (T := TX12) (N := 66) hx hb hts iw_X12_layMasks__X12 hown hE.1 hP 0 rfl rfl 42 (by decide) (hts _ mw_X12_layMasks__1) (fun _ h9 => h9) rfl dX12_layMasks_3 ?_
  refine lv_iconst (v := 0) hx hb dX12_layMasks_6 (by decide +kernel) ?_
  refine lv_iconst (v := 0) hx hb dX12_layMasks_7 (by decide +kernel) ?_
  refine jw_iast (ws' := [(h0, .inr (15, [.ref h8, .int 0, .int 0, .ref h9, .int 0, .int (-1), .int 0, .int 0, .int 0, .int 0, .int 0, .int 2, .int 0, .int 0, .int 0, .ref h10, .ref h11, .ref h12, .ref h13, .int 2, .int 0, .int 0, .int 0, .int 0, .ref h14, .ref h15, .ref h16, .ref h17, .int 2, .ref h1, .int 1, .ref h2, .ref h18, .int 1, .ref h19, .ref h20, .ref h21, .int 0, .ref h22, .ref h23, .ref h24, .ref h25, .ref h3, .ref h4, .ref h26, .ref h5, .ref h6, .int 9, .ref h7, .ref h27, .ref h28, .int (-1), .ref h29, .long 0, .long 0, .int (-1), .int (-1), .long 0, .long 1, .ref h30, .ref h31, .ref h32, .ref h33, .ref h34, .ref h35, .long 0])), (h1, .inl (Y 1, 100, .inl (jw_l 0 [0, 1, 0, 0, 1, 0, 0, 0, 1, 1]))), (h2, .inl (Y 1, 13824, .inl (jw_l 0 [0]))), (h3, .inl (Y 1, 6, .inl (jw_l 0 [0, 1]))), (h4, .inl (Y 1, 14425, .inl (jw_l 0 [0]))), (h5, .inl (Y 1, 13824, .inl (jw_l 0 [0]))), (h6, .inl (Y 1, 16, .inl (jw_l 0 [1, 2, 0, 0, 2, 1, 0, 0, 0, 0, 0, 0, 0, 0, 0, 0]))), (h7, .inl (Y 1, 5, .inl (jw_l 0 [1, 3])))]) hx hb hE hP hD hS 3 0 [0, 1] rfl (by decide +kernel) (by decide +kernel) rfl dX12_layMasks_8 (fun H locs hP hD hS => ?_)
  refine lv_iconst (v := 0) hx hb dX12_layMasks_9 (by decide +kernel) ?_
  refine lv_istore_n (lv' := [(2, .int 0), (1, .int 1), (0, .ref h0)]) hx hb dX12_layMasks_10 rfl hl (by decide) rfl (fun ls hl => ?_)
  refine lv_iload_n hx hb dX12_layMasks_11 rfl (lv_at hl 0 rfl) ?_
  refine lv_aload_n hx hb dX12_layMasks_12 rfl (lv_at hl 2 rfl) ?_
  refine va_get (D := D) (ci := 15) (v := .int 0) (C := RX12) (T := TX12) (N := 66) hx hb hts iw_X12_layMasks__X12 hown hE.1 hP 0 rfl rfl 12 (by decide) (hts _ mw_X12_layMasks__2) (fun _ h9 => h9) rfl dX12_layMasks_13 ?_
  refine lv_icmp_gt (tgt := 48) hx hb dX12_layMasks_16 (by decide) (fun c9 => absurd c9 (by decide +kernel)) (fun _ => ?_)
  refine lv_aload_n hx hb dX12_layMasks_19 rfl (lv_at hl 2 rfl) ?_
  refine va_get (D := D) (ci := 15) (v := .ref h3) (C := RX12) (T := TX12) (N := 66) hx hb hts iw_X12_layMasks__X12 hown hE.1 hP 0 rfl rfl 42 (by decide) (hts _ mw_X12_layMasks__1) (fun _ h9 => h9) rfl dX12_layMasks_20 ?_
  refine lv_iload_n hx hb dX12_layMasks_23 rfl (lv_at hl 0 rfl) ?_
  refine lv_iconst (v := 1) hx hb dX12_layMasks_24 (by decide +kernel) ?_
  refine jw_iadd (v := 1) hx hb dX12_layMasks_25 (by decide +kernel) ?_
  refine lv_aload_n hx hb dX12_layMasks_26 rfl (lv_at hl 2 rfl) ?_
  refine va_get (D := D) (ci := 15) (v := .ref h3) (C := RX12) (T := TX12) (N := 66) hx hb hts iw_X12_layMasks__X12 hown hE.1 hP 0 rfl rfl 42 (by decide) (hts _ mw_X12_layMasks__1) (fun _ h9 => h9) rfl dX12_layMasks_27 ?_
  refine lv_iload_n hx hb dX12_layMasks_30 rfl (lv_at hl 0 rfl) ?_
  refine jw_iald (v := 0) hx hb hE hP 3 0 rfl (by decide +kernel) (by decide +kernel) dX12_layMasks_31 ?_
  refine lv_iload_n hx hb dX12_layMasks_32 rfl (lv_at hl 1 rfl) ?_
  refine jw_iadd (v := 1) hx hb dX12_layMasks_33 (by decide +kernel) ?_
  refine jw_iast (ws' := [(h0, .inr (15, [.ref h8, .int 0, .int 0, .ref h9, .int 0, .int (-1), .int 0, .int 0, .int 0, .int 0, .int 0, .int 2, .int 0, .int 0, .int 0, .ref h10, .ref h11, .ref h12, .ref h13, .int 2, .int 0, .int 0, .int 0, .int 0, .ref h14, .ref h15, .ref h16, .ref h17, .int 2, .ref h1, .int 1, .ref h2, .ref h18, .int 1, .ref h19, .ref h20, .ref h21, .int 0, .ref h22, .ref h23, .ref h24, .ref h25, .ref h3, .ref h4, .ref h26, .ref h5, .ref h6, .int 9, .ref h7, .ref h27, .ref h28, .int (-1), .ref h29, .long 0, .long 0, .int (-1), .int (-1), .long 0, .long 1, .ref h30, .ref h31, .ref h32, .ref h33, .ref h34, .ref h35, .long 0])), (h1, .inl (Y 1, 100, .inl (jw_l 0 [0, 1, 0, 0, 1, 0, 0, 0, 1, 1]))), (h2, .inl (Y 1, 13824, .inl (jw_l 0 [0]))), (h3, .inl (Y 1, 6, .inl (jw_l 0 [0, 1]))), (h4, .inl (Y 1, 14425, .inl (jw_l 0 [0]))), (h5, .inl (Y 1, 13824, .inl (jw_l 0 [0]))), (h6, .inl (Y 1, 16, .inl (jw_l 0 [1, 2, 0, 0, 2, 1, 0, 0, 0, 0, 0, 0, 0, 0, 0, 0]))), (h7, .inl (Y 1, 5, .inl (jw_l 0 [1, 3])))]) hx hb hE hP hD hS 3 1 [0, 1] rfl (by decide +kernel) (by decide +kernel) rfl dX12_layMasks_34 (fun H locs hP hD hS => ?_)
  refine lv_iload_n hx hb dX12_layMasks_35 rfl (lv_at hl 1 rfl) ?_
  refine lv_aload_n hx hb dX12_layMasks_36 rfl (lv_at hl 2 rfl) ?_
  refine va_get (D := D) (ci := 15) (v := .int 2) (C := RX12) (T := TX12) (N := 66) hx hb hts iw_X12_layMasks__X12 hown hE.1 hP 0 rfl rfl 28 (by decide) (hts _ mw_X12_layMasks__3) (fun _ h9 => h9) rfl dX12_layMasks_37 ?_
  refine jw_imul (v := 2) hx hb dX12_layMasks_40 (by decide +kernel) ?_
  refine lv_istore_n (lv' := [(1, .int 2), (2, .int 0), (0, .ref h0)]) hx hb dX12_layMasks_41 rfl hl (by decide) rfl (fun ls hl => ?_)
  refine lv_iinc (v := 1) (lv' := [(2, .int 1), (1, .int 2), (0, .ref h0)]) hx hb dX12_layMasks_42 hl (k := 1) rfl (by decide +kernel) (by decide) rfl (fun ls hl => ?_)
  refine lv_goto (tgt := 11) hx hb dX12_layMasks_45 (by decide) ?_
  refine lv_iload_n hx hb dX12_layMasks_11 rfl (lv_at hl 0 rfl) ?_
  refine lv_aload_n hx hb dX12_layMasks_12 rfl (lv_at hl 2 rfl) ?_
  refine va_get (D := D) (ci := 15) (v := .int 0) (C := RX12) (T := TX12) (N := 66) hx hb hts iw_X12_layMasks__X12 hown hE.1 hP 0 rfl rfl 12 (by decide) (hts _ mw_X12_layMasks__2) (fun _ h9 => h9) rfl dX12_layMasks_13 ?_
  refine lv_icmp_gt (tgt := 48) hx hb dX12_layMasks_16 (by decide) (fun _ => ?_) (fun c9 => absurd (by decide +kernel) c9)
  refine lv_iconst (v := 0) hx hb dX12_layMasks_48 (by decide +kernel) ?_
  refine lv_istore_n (lv' := [(2, .int 0), (1, .int 2), (0, .ref h0)]) hx hb dX12_layMasks_49 rfl hl (by decide) rfl (fun ls hl => ?_)
  refine lv_iload_n hx hb dX12_layMasks_50 rfl (lv_at hl 0 rfl) ?_
  refine lv_aload_n hx hb dX12_layMasks_51 rfl (lv_at hl 2 rfl) ?_
  refine va_get (D := D) (ci := 15) (v := .ref h3) (C := RX12) (T := TX12) (N := 66) hx hb hts iw_X12_layMasks__X12 hown hE.1 hP 0 rfl rfl 42 (by decide) (hts _ mw_X12_layMasks__1) (fun _ h9 => h9) rfl dX12_layMasks_52 ?_
  refine lv_aload_n hx hb dX12_layMasks_55 rfl (lv_at hl 2 rfl) ?_
  refine va_get (D := D) (ci := 15) (v := .int 0) (C := RX12) (T := TX12) (N := 66) hx hb hts iw_X12_layMasks__X12 hown hE.1 hP 0 rfl rfl 12 (by decide) (hts _ mw_X12_layMasks__2) (fun _ h9 => h9) rfl dX12_layMasks_56 ?_
  refine lv_iconst (v := 1) hx hb dX12_layMasks_59 (by decide +kernel) ?_
  refine jw_iadd (v := 1) hx hb dX12_layMasks_60 (by decide +kernel) ?_
  refine jw_iald (v := 1) hx hb hE hP 3 1 rfl (by decide +kernel) (by decide +kernel) dX12_layMasks_61 ?_
  refine lv_icmp_ge (tgt := 78) hx hb dX12_layMasks_62 (by decide) (fun c9 => absurd c9 (by decide +kernel)) (fun _ => ?_)
  refine lv_aload_n hx hb dX12_layMasks_65 rfl (lv_at hl 2 rfl) ?_
  refine va_get (D := D) (ci := 15) (v := .ref h4) (C := RX12) (T := TX12) (N := 66) hx hb hts iw_X12_layMasks__X12 hown hE.1 hP 0 rfl rfl 43 (by decide) (hts _ mw_X12_layMasks__4) (fun _ h9 => h9) rfl dX12_layMasks_66 ?_
  refine lv_iload_n hx hb dX12_layMasks_69 rfl (lv_at hl 0 rfl) ?_
  refine lv_iconst (v := 0) hx hb dX12_layMasks_70 (by decide +kernel) ?_
  refine jw_iast (ws' := [(h0, .inr (15, [.ref h8, .int 0, .int 0, .ref h9, .int 0, .int (-1), .int 0, .int 0, .int 0, .int 0, .int 0, .int 2, .int 0, .int 0, .int 0, .ref h10, .ref h11, .ref h12, .ref h13, .int 2, .int 0, .int 0, .int 0, .int 0, .ref h14, .ref h15, .ref h16, .ref h17, .int 2, .ref h1, .int 1, .ref h2, .ref h18, .int 1, .ref h19, .ref h20, .ref h21, .int 0, .ref h22, .ref h23, .ref h24, .ref h25, .ref h3, .ref h4, .ref h26, .ref h5, .ref h6, .int 9, .ref h7, .ref h27, .ref h28, .int (-1), .ref h29, .long 0, .long 0, .int (-1), .int (-1), .long 0, .long 1, .ref h30, .ref h31, .ref h32, .ref h33, .ref h34, .ref h35, .long 0])), (h1, .inl (Y 1, 100, .inl (jw_l 0 [0, 1, 0, 0, 1, 0, 0, 0, 1, 1]))), (h2, .inl (Y 1, 13824, .inl (jw_l 0 [0]))), (h3, .inl (Y 1, 6, .inl (jw_l 0 [0, 1]))), (h4, .inl (Y 1, 14425, .inl (jw_l 0 [0]))), (h5, .inl (Y 1, 13824, .inl (jw_l 0 [0]))), (h6, .inl (Y 1, 16, .inl (jw_l 0 [1, 2, 0, 0, 2, 1, 0, 0, 0, 0, 0, 0, 0, 0, 0, 0]))), (h7, .inl (Y 1, 5, .inl (jw_l 0 [1, 3])))]) hx hb hE hP hD hS 4 0 [0] rfl (by decide +kernel) (by decide +kernel) rfl dX12_layMasks_71 (fun H locs hP hD hS => ?_)
  refine lv_iinc (v := 1) (lv' := [(2, .int 1), (1, .int 2), (0, .ref h0)]) hx hb dX12_layMasks_72 hl (k := 0) rfl (by decide +kernel) (by decide) rfl (fun ls hl => ?_)
  refine lv_goto (tgt := 50) hx hb dX12_layMasks_75 (by decide) ?_
  refine lv_iload_n hx hb dX12_layMasks_50 rfl (lv_at hl 0 rfl) ?_
  refine lv_aload_n hx hb dX12_layMasks_51 rfl (lv_at hl 2 rfl) ?_
  refine va_get (D := D) (ci := 15) (v := .ref h3) (C := RX12) (T := TX12) (N := 66) hx hb hts iw_X12_layMasks__X12 hown hE.1 hP 0 rfl rfl 42 (by decide) (hts _ mw_X12_layMasks__1) (fun _ h9 => h9) rfl dX12_layMasks_52 ?_
  refine lv_aload_n hx hb dX12_layMasks_55 rfl (lv_at hl 2 rfl) ?_
  refine va_get (D := D) (ci := 15) (v := .int 0) (C := RX12) (T := TX12) (N := 66) hx hb hts iw_X12_layMasks__X12 hown hE.1 hP 0 rfl rfl 12 (by decide) (hts _ mw_X12_layMasks__2) (fun _ h9 => h9) rfl dX12_layMasks_56 ?_
  refine lv_iconst (v := 1) hx hb dX12_layMasks_59 (by decide +kernel) ?_
  refine jw_iadd (v := 1) hx hb dX12_layMasks_60 (by decide +kernel) ?_
  refine jw_iald (v := 1) hx hb hE hP 3 1 rfl (by decide +kernel) (by decide +kernel) dX12_layMasks_61 ?_
  refine lv_icmp_ge (tgt := 78) hx hb dX12_layMasks_62 (by decide) (fun _ => ?_) (fun c9 => absurd (by decide +kernel) c9)
  refine lv_iconst (v := 0) hx hb dX12_layMasks_78 (by decide +kernel) ?_
  refine lv_istore_n (lv' := [(2, .int 0), (1, .int 2), (0, .ref h0)]) hx hb dX12_layMasks_79 rfl hl (by decide) rfl (fun ls hl => ?_)
  refine lv_iload_n hx hb dX12_layMasks_80 rfl (lv_at hl 0 rfl) ?_
  refine lv_aload_n hx hb dX12_layMasks_81 rfl (lv_at hl 2 rfl) ?_
  refine va_get (D := D) (ci := 15) (v := .int 1) (C := RX12) (T := TX12) (N := 66) hx hb hts iw_X12_layMasks__X12 hown hE.1 hP 0 rfl rfl 30 (by decide) (hts _ mw_X12_layMasks__5) (fun _ h9 => h9) rfl dX12_layMasks_82 ?_
  refine lv_icmp_ge (tgt := 178) hx hb dX12_layMasks_85 (by decide) (fun c9 => absurd c9 (by decide +kernel)) (fun _ => ?_)
  refine lv_aload_n hx hb dX12_layMasks_88 rfl (lv_at hl 2 rfl) ?_
  refine va_get (D := D) (ci := 15) (v := .ref h2) (C := RX12) (T := TX12) (N := 66) hx hb hts iw_X12_layMasks__X12 hown hE.1 hP 0 rfl rfl 31 (by decide) (hts _ mw_X12_layMasks__6) (fun _ h9 => h9) rfl dX12_layMasks_89 ?_
  refine lv_iload_n hx hb dX12_layMasks_92 rfl (lv_at hl 0 rfl) ?_
  refine jw_iald (v := 0) hx hb hE hP 2 0 rfl (by decide +kernel) (by decide +kernel) dX12_layMasks_93 ?_
  refine lv_if_eq (tgt := 100) hx hb dX12_layMasks_94 (by decide) (fun _ => ?_) (fun c9 => absurd (by decide +kernel) c9)
  refine lv_iconst (v := 0) hx hb dX12_layMasks_100 (by decide +kernel) ?_
  refine lv_istore_n (lv' := [(3, .int 0), (2, .int 0), (1, .int 2), (0, .ref h0)]) hx hb dX12_layMasks_101 rfl hl (by decide) rfl (fun ls hl => ?_)
  refine lv_iconst (v := 0) hx hb dX12_layMasks_102 (by decide +kernel) ?_
  refine lv_istore (lv' := [(4, .int 0), (3, .int 0), (2, .int 0), (1, .int 2), (0, .ref h0)]) hx hb dX12_layMasks_103 hl (by decide) rfl (fun ls hl => ?_)
  refine lv_iload hx hb dX12_layMasks_105 (lv_at hl 0 rfl) ?_
  refine lv_aload_n hx hb dX12_layMasks_107 rfl (lv_at hl 4 rfl) ?_
  refine va_get (D := D) (ci := 15) (v := .int 0) (C := RX12) (T := TX12) (N := 66) hx hb hts iw_X12_layMasks__X12 hown hE.1 hP 0 rfl rfl 12 (by decide) (hts _ mw_X12_layMasks__2) (fun _ h9 => h9) rfl dX12_layMasks_108 ?_
  refine lv_icmp_ge (tgt := 165) hx hb dX12_layMasks_111 (by decide) (fun _ => ?_) (fun c9 => absurd (by decide +kernel) c9)
  refine lv_aload_n hx hb dX12_layMasks_165 rfl (lv_at hl 4 rfl) ?_
  refine va_get (D := D) (ci := 15) (v := .ref h5) (C := RX12) (T := TX12) (N := 66) hx hb hts iw_X12_layMasks__X12 hown hE.1 hP 0 rfl rfl 45 (by decide) (hts _ mw_X12_layMasks__8) (fun _ h9 => h9) rfl dX12_layMasks_166 ?_
  refine lv_iload_n hx hb dX12_layMasks_169 rfl (lv_at hl 2 rfl) ?_
  refine lv_iload_n hx hb dX12_layMasks_170 rfl (lv_at hl 1 rfl) ?_
  refine jw_iast (ws' := [(h0, .inr (15, [.ref h8, .int 0, .int 0, .ref h9, .int 0, .int (-1), .int 0, .int 0, .int 0, .int 0, .int 0, .int 2, .int 0, .int 0, .int 0, .ref h10, .ref h11, .ref h12, .ref h13, .int 2, .int 0, .int 0, .int 0, .int 0, .ref h14, .ref h15, .ref h16, .ref h17, .int 2, .ref h1, .int 1, .ref h2, .ref h18, .int 1, .ref h19, .ref h20, .ref h21, .int 0, .ref h22, .ref h23, .ref h24, .ref h25, .ref h3, .ref h4, .ref h26, .ref h5, .ref h6, .int 9, .ref h7, .ref h27, .ref h28, .int (-1), .ref h29, .long 0, .long 0, .int (-1), .int (-1), .long 0, .long 1, .ref h30, .ref h31, .ref h32, .ref h33, .ref h34, .ref h35, .long 0])), (h1, .inl (Y 1, 100, .inl (jw_l 0 [0, 1, 0, 0, 1, 0, 0, 0, 1, 1]))), (h2, .inl (Y 1, 13824, .inl (jw_l 0 [0]))), (h3, .inl (Y 1, 6, .inl (jw_l 0 [0, 1]))), (h4, .inl (Y 1, 14425, .inl (jw_l 0 [0]))), (h5, .inl (Y 1, 13824, .inl (jw_l 0 [0]))), (h6, .inl (Y 1, 16, .inl (jw_l 0 [1, 2, 0, 0, 2, 1, 0, 0, 0, 0, 0, 0, 0, 0, 0, 0]))), (h7, .inl (Y 1, 5, .inl (jw_l 0 [1, 3])))]) hx hb hE hP hD hS 5 0 [0] rfl (by decide +kernel) (by decide +kernel) rfl dX12_layMasks_171 (fun H locs hP hD hS => ?_)
  refine lv_iinc (v := 1) (lv' := [(2, .int 1), (4, .int 0), (3, .int 0), (1, .int 2), (0, .ref h0)]) hx hb dX12_layMasks_172 hl (k := 2) rfl (by decide +kernel) (by decide) rfl (fun ls hl => ?_)
  refine lv_goto (tgt := 80) hx hb dX12_layMasks_175 (by decide) ?_
  refine lv_iload_n hx hb dX12_layMasks_80 rfl (lv_at hl 0 rfl) ?_
  refine lv_aload_n hx hb dX12_layMasks_81 rfl (lv_at hl 4 rfl) ?_
  refine va_get (D := D) (ci := 15) (v := .int 1) (C := RX12) (T := TX12) (N := 66) hx hb hts iw_X12_layMasks__X12 hown hE.1 hP 0 rfl rfl 30 (by decide) (hts _ mw_X12_layMasks__5) (fun _ h9 => h9) rfl dX12_layMasks_82 ?_
  refine lv_icmp_ge (tgt := 178) hx hb dX12_layMasks_85 (by decide) (fun _ => ?_) (fun c9 => absurd (by decide +kernel) c9)
  refine lv_iconst (v := 0) hx hb dX12_layMasks_178 (by decide +kernel) ?_
  refine lv_istore_n (lv' := [(2, .int 0), (4, .int 0), (3, .int 0), (1, .int 2), (0, .ref h0)]) hx hb dX12_layMasks_179 rfl hl (by decide) rfl (fun ls hl => ?_)
  refine lv_iload_n hx hb dX12_layMasks_180 rfl (lv_at hl 0 rfl) ?_
  refine lv_bipush (v := 16) hx hb dX12_layMasks_181 (by decide +kernel) ?_
  refine lv_icmp_ge (tgt := 199) hx hb dX12_layMasks_183 (by decide) (fun c9 => absurd c9 (by decide +kernel)) (fun _ => ?_)
  refine lv_aload_n hx hb dX12_layMasks_186 rfl (lv_at hl 4 rfl) ?_
  refine va_get (D := D) (ci := 15) (v := .ref h6) (C := RX12) (T := TX12) (N := 66) hx hb hts iw_X12_layMasks__X12 hown hE.1 hP 0 rfl rfl 46 (by decide) (hts _ mw_X12_layMasks__9) (fun _ h9 => h9) rfl dX12_layMasks_187 ?_
  refine lv_iload_n hx hb dX12_layMasks_190 rfl (lv_at hl 0 rfl) ?_
  refine lv_iconst (v := 0) hx hb dX12_layMasks_191 (by decide +kernel) ?_
  refine jw_iast (ws' := [(h0, .inr (15, [.ref h8, .int 0, .int 0, .ref h9, .int 0, .int (-1), .int 0, .int 0, .int 0, .int 0, .int 0, .int 2, .int 0, .int 0, .int 0, .ref h10, .ref h11, .ref h12, .ref h13, .int 2, .int 0, .int 0, .int 0, .int 0, .ref h14, .ref h15, .ref h16, .ref h17, .int 2, .ref h1, .int 1, .ref h2, .ref h18, .int 1, .ref h19, .ref h20, .ref h21, .int 0, .ref h22, .ref h23, .ref h24, .ref h25, .ref h3, .ref h4, .ref h26, .ref h5, .ref h6, .int 9, .ref h7, .ref h27, .ref h28, .int (-1), .ref h29, .long 0, .long 0, .int (-1), .int (-1), .long 0, .long 1, .ref h30, .ref h31, .ref h32, .ref h33, .ref h34, .ref h35, .long 0])), (h1, .inl (Y 1, 100, .inl (jw_l 0 [0, 1, 0, 0, 1, 0, 0, 0, 1, 1]))), (h2, .inl (Y 1, 13824, .inl (jw_l 0 [0]))), (h3, .inl (Y 1, 6, .inl (jw_l 0 [0, 1]))), (h4, .inl (Y 1, 14425, .inl (jw_l 0 [0]))), (h5, .inl (Y 1, 13824, .inl (jw_l 0 [0]))), (h6, .inl (Y 1, 16, .inl (jw_l 0 [0, 2, 0, 0, 2, 1, 0, 0, 0, 0, 0, 0, 0, 0, 0, 0]))), (h7, .inl (Y 1, 5, .inl (jw_l 0 [1, 3])))]) hx hb hE hP hD hS 6 0 [0, 2, 0, 0, 2, 1, 0, 0, 0, 0, 0, 0, 0, 0, 0, 0] rfl (by decide +kernel) (by decide +kernel) rfl dX12_layMasks_192 (fun H locs hP hD hS => ?_)
  refine lv_iinc (v := 1) (lv' := [(2, .int 1), (4, .int 0), (3, .int 0), (1, .int 2), (0, .ref h0)]) hx hb dX12_layMasks_193 hl (k := 0) rfl (by decide +kernel) (by decide) rfl (fun ls hl => ?_)
  refine lv_goto (tgt := 180) hx hb dX12_layMasks_196 (by decide) ?_
  refine lv_iload_n hx hb dX12_layMasks_180 rfl (lv_at hl 0 rfl) ?_
  refine lv_bipush (v := 16) hx hb dX12_layMasks_181 (by decide +kernel) ?_
  refine lv_icmp_ge (tgt := 199) hx hb dX12_layMasks_183 (by decide) (fun c9 => absurd c9 (by decide +kernel)) (fun _ => ?_)
  refine lv_aload_n hx hb dX12_layMasks_186 rfl (lv_at hl 4 rfl) ?_
  refine va_get (D := D) (ci := 15) (v := .ref h6) (C := RX12) (T := TX12) (N := 66) hx hb hts iw_X12_layMasks__X12 hown hE.1 hP 0 rfl rfl 46 (by decide) (hts _ mw_X12_layMasks__9) (fun _ h9 => h9) rfl dX12_layMasks_187 ?_
  refine lv_iload_n hx hb dX12_layMasks_190 rfl (lv_at hl 0 rfl) ?_
  refine lv_iconst (v := 0) hx hb dX12_layMasks_191 (by decide +kernel) ?_
  refine jw_iast (ws' := [(h0, .inr (15, [.ref h8, .int 0, .int 0, .ref h9, .int 0, .int (-1), .int 0, .int 0, .int 0, .int 0, .int 0, .int 2, .int 0, .int 0, .int 0, .ref h10, .ref h11, .ref h12, .ref h13, .int 2, .int 0, .int 0, .int 0, .int 0, .ref h14, .ref h15, .ref h16, .ref h17, .int 2, .ref h1, .int 1, .ref h2, .ref h18, .int 1, .ref h19, .ref h20, .ref h21, .int 0, .ref h22, .ref h23, .ref h24, .ref h25, .ref h3, .ref h4, .ref h26, .ref h5, .ref h6, .int 9, .ref h7, .ref h27, .ref h28, .int (-1), .ref h29, .long 0, .long 0, .int (-1), .int (-1), .long 0, .long 1, .ref h30, .ref h31, .ref h32, .ref h33, .ref h34, .ref h35, .long 0])), (h1, .inl (Y 1, 100, .inl (jw_l 0 [0, 1, 0, 0, 1, 0, 0, 0, 1, 1]))), (h2, .inl (Y 1, 13824, .inl (jw_l 0 [0]))), (h3, .inl (Y 1, 6, .inl (jw_l 0 [0, 1]))), (h4, .inl (Y 1, 14425, .inl (jw_l 0 [0]))), (h5, .inl (Y 1, 13824, .inl (jw_l 0 [0]))), (h6, .inl (Y 1, 16, .inl (jw_l 0 [0, 0, 0, 0, 2, 1, 0, 0, 0, 0, 0, 0, 0, 0, 0, 0]))), (h7, .inl (Y 1, 5, .inl (jw_l 0 [1, 3])))]) hx hb hE hP hD hS 6 1 [0, 0, 0, 0, 2, 1, 0, 0, 0, 0, 0, 0, 0, 0, 0, 0] rfl (by decide +kernel) (by decide +kernel) rfl dX12_layMasks_192 (fun H locs hP hD hS => ?_)
  refine lv_iinc (v := 2) (lv' := [(2, .int 2), (4, .int 0), (3, .int 0), (1, .int 2), (0, .ref h0)]) hx hb dX12_layMasks_193 hl (k := 0) rfl (by decide +kernel) (by decide) rfl (fun ls hl => ?_)
  refine lv_goto (tgt := 180) hx hb dX12_layMasks_196 (by decide) ?_
  refine lv_iload_n hx hb dX12_layMasks_180 rfl (lv_at hl 0 rfl) ?_
  refine lv_bipush (v := 16) hx hb dX12_layMasks_181 (by decide +kernel) ?_
  refine lv_icmp_ge (tgt := 199) hx hb dX12_layMasks_183 (by decide) (fun c9 => absurd c9 (by decide +kernel)) (fun _ => ?_)
  refine lv_aload_n hx hb dX12_layMasks_186 rfl (lv_at hl 4 rfl) ?_
  refine va_get (D := D) (ci := 15) (v := .ref h6) (C := RX12) (T := TX12) (N := 66) hx hb hts iw_X12_layMasks__X12 hown hE.1 hP 0 rfl rfl 46 (by decide) (hts _ mw_X12_layMasks__9) (fun _ h9 => h9) rfl dX12_layMasks_187 ?_
  refine lv_iload_n hx hb dX12_layMasks_190 rfl (lv_at hl 0 rfl) ?_
  refine lv_iconst (v := 0) hx hb dX12_layMasks_191 (by decide +kernel) ?_
  refine jw_iast (ws' := [(h0, .inr (15, [.ref h8, .int 0, .int 0, .ref h9, .int 0, .int (-1), .int 0, .int 0, .int 0, .int 0, .int 0, .int 2, .int 0, .int 0, .int 0, .ref h10, .ref h11, .ref h12, .ref h13, .int 2, .int 0, .int 0, .int 0, .int 0, .ref h14, .ref h15, .ref h16, .ref h17, .int 2, .ref h1, .int 1, .ref h2, .ref h18, .int 1, .ref h19, .ref h20, .ref h21, .int 0, .ref h22, .ref h23, .ref h24, .ref h25, .ref h3, .ref h4, .ref h26, .ref h5, .ref h6, .int 9, .ref h7, .ref h27, .ref h28, .int (-1), .ref h29, .long 0, .long 0, .int (-1), .int (-1), .long 0, .long 1, .ref h30, .ref h31, .ref h32, .ref h33, .ref h34, .ref h35, .long 0])), (h1, .inl (Y 1, 100, .inl (jw_l 0 [0, 1, 0, 0, 1, 0, 0, 0, 1, 1]))), (h2, .inl (Y 1, 13824, .inl (jw_l 0 [0]))), (h3, .inl (Y 1, 6, .inl (jw_l 0 [0, 1]))), (h4, .inl (Y 1, 14425, .inl (jw_l 0 [0]))), (h5, .inl (Y 1, 13824, .inl (jw_l 0 [0]))), (h6, .inl (Y 1, 16, .inl (jw_l 0 [0, 0, 0, 0, 2, 1, 0, 0, 0, 0, 0, 0, 0, 0, 0, 0]))), (h7, .inl (Y 1, 5, .inl (jw_l 0 [1, 3])))]) hx hb hE hP hD hS 6 2 [0, 0, 0, 0, 2, 1, 0, 0, 0, 0, 0, 0, 0, 0, 0, 0] rfl (by decide +kernel) (by decide +kernel) rfl dX12_layMasks_192 (fun H locs hP hD hS => ?_)
  refine lv_iinc (v := 3) (lv' := [(2, .int 3), (4, .int 0), (3, .int 0), (1, .int 2), (0, .ref h0)]) hx hb dX12_layMasks_193 hl (k := 0) rfl (by decide +kernel) (by decide) rfl (fun ls hl => ?_)
  refine lv_goto (tgt := 180) hx hb dX12_layMasks_196 (by decide) ?_
  refine lv_iload_n hx hb dX12_layMasks_180 rfl (lv_at hl 0 rfl) ?_
  refine lv_bipush (v := 16) hx hb dX12_layMasks_181 (by decide +kernel) ?_
  refine lv_icmp_ge (tgt := 199) hx hb dX12_layMasks_183 (by decide) (fun c9 => absurd c9 (by decide +kernel)) (fun _ => ?_)
  refine lv_aload_n hx hb dX12_layMasks_186 rfl (lv_at hl 4 rfl) ?_
  refine va_get (D := D) (ci := 15) (v := .ref h6) (C := RX12) (T := TX12) (N := 66) hx hb hts iw_X12_layMasks__X12 hown hE.1 hP 0 rfl rfl 46 (by decide) (hts _ mw_X12_layMasks__9) (fun _ h9 => h9) rfl dX12_layMasks_187 ?_
  refine lv_iload_n hx hb dX12_layMasks_190 rfl (lv_at hl 0 rfl) ?_
  refine lv_iconst (v := 0) hx hb dX12_layMasks_191 (by decide +kernel) ?_
  refine jw_iast (ws' := [(h0, .inr (15, [.ref h8, .int 0, .int 0, .ref h9, .int 0, .int (-1), .int 0, .int 0, .int 0, .int 0, .int 0, .int 2, .int 0, .int 0, .int 0, .ref h10, .ref h11, .ref h12, .ref h13, .int 2, .int 0, .int 0, .int 0, .int 0, .ref h14, .ref h15, .ref h16, .ref h17, .int 2, .ref h1, .int 1, .ref h2, .ref h18, .int 1, .ref h19, .ref h20, .ref h21, .int 0, .ref h22, .ref h23, .ref h24, .ref h25, .ref h3, .ref h4, .ref h26, .ref h5, .ref h6, .int 9, .ref h7, .ref h27, .ref h28, .int (-1), .ref h29, .long 0, .long 0, .int (-1), .int (-1), .long 0, .long 1, .ref h30, .ref h31, .ref h32, .ref h33, .ref h34, .ref h35, .long 0])), (h1, .inl (Y 1, 100, .inl (jw_l 0 [0, 1, 0, 0, 1, 0, 0, 0, 1, 1]))), (h2, .inl (Y 1, 13824, .inl (jw_l 0 [0]))), (h3, .inl (Y 1, 6, .inl (jw_l 0 [0, 1]))), (h4, .inl (Y 1, 14425, .inl (jw_l 0 [0]))), (h5, .inl (Y 1, 13824, .inl (jw_l 0 [0]))), (h6, .inl (Y 1, 16, .inl (jw_l 0 [0, 0, 0, 0, 2, 1, 0, 0, 0, 0, 0, 0, 0, 0, 0, 0]))), (h7, .inl (Y 1, 5, .inl (jw_l 0 [1, 3])))]) hx hb hE hP hD hS 6 3 [0, 0, 0, 0, 2, 1, 0, 0, 0, 0, 0, 0, 0, 0, 0, 0] rfl (by decide +kernel) (by decide +kernel) rfl dX12_layMasks_192 (fun H locs hP hD hS => ?_)
  refine lv_iinc (v := 4) (lv' := [(2, .int 4), (4, .int 0), (3, .int 0), (1, .int 2), (0, .ref h0)]) hx hb dX12_layMasks_193 hl (k := 0) rfl (by decide +kernel) (by decide) rfl (fun ls hl => ?_)
  refine lv_goto (tgt := 180) hx hb dX12_layMasks_196 (by decide) ?_
  refine lv_iload_n hx hb dX12_layMasks_180 rfl (lv_at hl 0 rfl) ?_
  refine lv_bipush (v := 16) hx hb dX12_layMasks_181 (by decide +kernel) ?_
  refine lv_icmp_ge (tgt := 199) hx hb dX12_layMasks_183 (by decide) (fun c9 => absurd c9 (by decide +kernel)) (fun _ => ?_)
  refine lv_aload_n hx hb dX12_layMasks_186 rfl (lv_at hl 4 rfl) ?_
  refine va_get (D := D) (ci := 15) (v := .ref h6) (C := RX12) (T := TX12) (N := 66) hx hb hts iw_X12_layMasks__X12 hown hE.1 hP 0 rfl rfl 46 (by decide) (hts _ mw_X12_layMasks__9) (fun _ h9 => h9) rfl dX12_layMasks_187 ?_
  refine lv_iload_n hx hb dX12_layMasks_190 rfl (lv_at hl 0 rfl) ?_
  refine lv_iconst (v := 0) hx hb dX12_layMasks_191 (by decide +kernel) ?_
  refine jw_iast (ws' := [(h0, .inr (15, [.ref h8, .int 0, .int 0, .ref h9, .int 0, .int (-1), .int 0, .int 0, .int 0, .int 0, .int 0, .int 2, .int 0, .int 0, .int 0, .ref h10, .ref h11, .ref h12, .ref h13, .int 2, .int 0, .int 0, .int 0, .int 0, .ref h14, .ref h15, .ref h16, .ref h17, .int 2, .ref h1, .int 1, .ref h2, .ref h18, .int 1, .ref h19, .ref h20, .ref h21, .int 0, .ref h22, .ref h23, .ref h24, .ref h25, .ref h3, .ref h4, .ref h26, .ref h5, .ref h6, .int 9, .ref h7, .ref h27, .ref h28, .int (-1), .ref h29, .long 0, .long 0, .int (-1), .int (-1), .long 0, .long 1, .ref h30, .ref h31, .ref h32, .ref h33, .ref h34, .ref h35, .long 0])), (h1, .inl (Y 1, 100, .inl (jw_l 0 [0, 1, 0, 0, 1, 0, 0, 0, 1, 1]))), (h2, .inl (Y 1, 13824, .inl (jw_l 0 [0]))), (h3, .inl (Y 1, 6, .inl (jw_l 0 [0, 1]))), (h4, .inl (Y 1, 14425, .inl (jw_l 0 [0]))), (h5, .inl (Y 1, 13824, .inl (jw_l 0 [0]))), (h6, .inl (Y 1, 16, .inl (jw_l 0 [0, 0, 0, 0, 0, 1, 0, 0, 0, 0, 0, 0, 0, 0, 0, 0]))), (h7, .inl (Y 1, 5, .inl (jw_l 0 [1, 3])))]) hx hb hE hP hD hS 6 4 [0, 0, 0, 0, 0, 1, 0, 0, 0, 0, 0, 0, 0, 0, 0, 0] rfl (by decide +kernel) (by decide +kernel) rfl dX12_layMasks_192 (fun H locs hP hD hS => ?_)
  refine lv_iinc (v := 5) (lv' := [(2, .int 5), (4, .int 0), (3, .int 0), (1, .int 2), (0, .ref h0)]) hx hb dX12_layMasks_193 hl (k := 0) rfl (by decide +kernel) (by decide) rfl (fun ls hl => ?_)
  refine lv_goto (tgt := 180) hx hb dX12_layMasks_196 (by decide) ?_
  refine lv_iload_n hx hb dX12_layMasks_180 rfl (lv_at hl 0 rfl) ?_
  refine lv_bipush (v := 16) hx hb dX12_layMasks_181 (by decide +kernel) ?_
  refine lv_icmp_ge (tgt := 199) hx hb dX12_layMasks_183 (by decide) (fun c9 => absurd c9 (by decide +kernel)) (fun _ => ?_)
  refine lv_aload_n hx hb dX12_layMasks_186 rfl (lv_at hl 4 rfl) ?_
  refine va_get (D := D) (ci := 15) (v := .ref h6) (C := RX12) (T := TX12) (N := 66) hx hb hts iw_X12_layMasks__X12 hown hE.1 hP 0 rfl rfl 46 (by decide) (hts _ mw_X12_layMasks__9) (fun _ h9 => h9) rfl dX12_layMasks_187 ?_
  refine lv_iload_n hx hb dX12_layMasks_190 rfl (lv_at hl 0 rfl) ?_
  refine lv_iconst (v := 0) hx hb dX12_layMasks_191 (by decide +kernel) ?_
  refine jw_iast (ws' := [(h0, .inr (15, [.ref h8, .int 0, .int 0, .ref h9, .int 0, .int (-1), .int 0, .int 0, .int 0, .int 0, .int 0, .int 2, .int 0, .int 0, .int 0, .ref h10, .ref h11, .ref h12, .ref h13, .int 2, .int 0, .int 0, .int 0, .int 0, .ref h14, .ref h15, .ref h16, .ref h17, .int 2, .ref h1, .int 1, .ref h2, .ref h18, .int 1, .ref h19, .ref h20, .ref h21, .int 0, .ref h22, .ref h23, .ref h24, .ref h25, .ref h3, .ref h4, .ref h26, .ref h5, .ref h6, .int 9, .ref h7, .ref h27, .ref h28, .int (-1), .ref h29, .long 0, .long 0, .int (-1), .int (-1), .long 0, .long 1, .ref h30, .ref h31, .ref h32, .ref h33, .ref h34, .ref h35, .long 0])), (h1, .inl (Y 1, 100, .inl (jw_l 0 [0, 1, 0, 0, 1, 0, 0, 0, 1, 1]))), (h2, .inl (Y 1, 13824, .inl (jw_l 0 [0]))), (h3, .inl (Y 1, 6, .inl (jw_l 0 [0, 1]))), (h4, .inl (Y 1, 14425, .inl (jw_l 0 [0]))), (h5, .inl (Y 1, 13824, .inl (jw_l 0 [0]))), (h6, .inl (Y 1, 16, .inl (jw_l 0 [0, 0, 0, 0, 0, 0, 0, 0, 0, 0, 0, 0, 0, 0, 0, 0]))), (h7, .inl (Y 1, 5, .inl (jw_l 0 [1, 3])))]) hx hb hE hP hD hS 6 5 [0, 0, 0, 0, 0, 0, 0, 0, 0, 0, 0, 0, 0, 0, 0, 0] rfl (by decide +kernel) (by decide +kernel) rfl dX12_layMasks_192 (fun H locs hP hD hS => ?_)
  refine lv_iinc (v := 6) (lv' := [(2, .int 6), (4, .int 0), (3, .int 0), (1, .int 2), (0, .ref h0)]) hx hb dX12_layMasks_193 hl (k := 0) rfl (by decide +kernel) (by decide) rfl (fun ls hl => ?_)
  refine lv_goto (tgt := 180) hx hb dX12_layMasks_196 (by decide) ?_
  refine lv_iload_n hx hb dX12_layMasks_180 rfl (lv_at hl 0 rfl) ?_
  refine lv_bipush (v := 16) hx hb dX12_layMasks_181 (by decide +kernel) ?_
  refine lv_icmp_ge (tgt := 199) hx hb dX12_layMasks_183 (by decide) (fun c9 => absurd c9 (by decide +kernel)) (fun _ => ?_)
  refine lv_aload_n hx hb dX12_layMasks_186 rfl (lv_at hl 4 rfl) ?_
  refine va_get (D := D) (ci := 15) (v := .ref h6) (C := RX12) (T := TX12) (N := 66) hx hb hts iw_X12_layMasks__X12 hown hE.1 hP 0 rfl rfl 46 (by decide) (hts _ mw_X12_layMasks__9) (fun _ h9 => h9) rfl dX12_layMasks_187 ?_
  refine lv_iload_n hx hb dX12_layMasks_190 rfl (lv_at hl 0 rfl) ?_
  refine lv_iconst (v := 0) hx hb dX12_layMasks_191 (by decide +kernel) ?_
  refine jw_iast (ws' := [(h0, .inr (15, [.ref h8, .int 0, .int 0, .ref h9, .int 0, .int (-1), .int 0, .int 0, .int 0, .int 0, .int 0, .int 2, .int 0, .int 0, .int 0, .ref h10, .ref h11, .ref h12, .ref h13, .int 2, .int 0, .int 0, .int 0, .int 0, .ref h14, .ref h15, .ref h16, .ref h17, .int 2, .ref h1, .int 1, .ref h2, .ref h18, .int 1, .ref h19, .ref h20, .ref h21, .int 0, .ref h22, .ref h23, .ref h24, .ref h25, .ref h3, .ref h4, .ref h26, .ref h5, .ref h6, .int 9, .ref h7, .ref h27, .ref h28, .int (-1), .ref h29, .long 0, .long 0, .int (-1), .int (-1), .long 0, .long 1, .ref h30, .ref h31, .ref h32, .ref h33, .ref h34, .ref h35, .long 0])), (h1, .inl (Y 1, 100, .inl (jw_l 0 [0, 1, 0, 0, 1, 0, 0, 0, 1, 1]))), (h2, .inl (Y 1, 13824, .inl (jw_l 0 [0]))), (h3, .inl (Y 1, 6, .inl (jw_l 0 [0, 1]))), (h4, .inl (Y 1, 14425, .inl (jw_l 0 [0]))), (h5, .inl (Y 1, 13824, .inl (jw_l 0 [0]))), (h6, .inl (Y 1, 16, .inl (jw_l 0 [0, 0, 0, 0, 0, 0, 0, 0, 0, 0, 0, 0, 0, 0, 0, 0]))), (h7, .inl (Y 1, 5, .inl (jw_l 0 [1, 3])))]) hx hb hE hP hD hS 6 6 [0, 0, 0, 0, 0, 0, 0, 0, 0, 0, 0, 0, 0, 0, 0, 0] rfl (by decide +kernel) (by decide +kernel) rfl dX12_layMasks_192 (fun H locs hP hD hS => ?_)
  refine lv_iinc (v := 7) (lv' := [(2, .int 7), (4, .int 0), (3, .int 0), (1, .int 2), (0, .ref h0)]) hx hb dX12_layMasks_193 hl (k := 0) rfl (by decide +kernel) (by decide) rfl (fun ls hl => ?_)
  refine lv_goto (tgt := 180) hx hb dX12_layMasks_196 (by decide) ?_
  refine lv_iload_n hx hb dX12_layMasks_180 rfl (lv_at hl 0 rfl) ?_
  refine lv_bipush (v := 16) hx hb dX12_layMasks_181 (by decide +kernel) ?_
  refine lv_icmp_ge (tgt := 199) hx hb dX12_layMasks_183 (by decide) (fun c9 => absurd c9 (by decide +kernel)) (fun _ => ?_)
  refine lv_aload_n hx hb dX12_layMasks_186 rfl (lv_at hl 4 rfl) ?_
  refine va_get (D := D) (ci := 15) (v := .ref h6) (C := RX12) (T := TX12) (N := 66) hx hb hts iw_X12_layMasks__X12 hown hE.1 hP 0 rfl rfl 46 (by decide) (hts _ mw_X12_layMasks__9) (fun _ h9 => h9) rfl dX12_layMasks_187 ?_
  refine lv_iload_n hx hb dX12_layMasks_190 rfl (lv_at hl 0 rfl) ?_
  refine lv_iconst (v := 0) hx hb dX12_layMasks_191 (by decide +kernel) ?_
  refine jw_iast (ws' := [(h0, .inr (15, [.ref h8, .int 0, .int 0, .ref h9, .int 0, .int (-1), .int 0, .int 0, .int 0, .int 0, .int 0, .int 2, .int 0, .int 0, .int 0, .ref h10, .ref h11, .ref h12, .ref h13, .int 2, .int 0, .int 0, .int 0, .int 0, .ref h14, .ref h15, .ref h16, .ref h17, .int 2, .ref h1, .int 1, .ref h2, .ref h18, .int 1, .ref h19, .ref h20, .ref h21, .int 0, .ref h22, .ref h23, .ref h24, .ref h25, .ref h3, .ref h4, .ref h26, .ref h5, .ref h6, .int 9, .ref h7, .ref h27, .ref h28, .int (-1), .ref h29, .long 0, .long 0, .int (-1), .int (-1), .long 0, .long 1, .ref h30, .ref h31, .ref h32, .ref h33, .ref h34, .ref h35, .long 0])), (h1, .inl (Y 1, 100, .inl (jw_l 0 [0, 1, 0, 0, 1, 0, 0, 0, 1, 1]))), (h2, .inl (Y 1, 13824, .inl (jw_l 0 [0]))), (h3, .inl (Y 1, 6, .inl (jw_l 0 [0, 1]))), (h4, .inl (Y 1, 14425, .inl (jw_l 0 [0]))), (h5, .inl (Y 1, 13824, .inl (jw_l 0 [0]))), (h6, .inl (Y 1, 16, .inl (jw_l 0 [0, 0, 0, 0, 0, 0, 0, 0, 0, 0, 0, 0, 0, 0, 0, 0]))), (h7, .inl (Y 1, 5, .inl (jw_l 0 [1, 3])))]) hx hb hE hP hD hS 6 7 [0, 0, 0, 0, 0, 0, 0, 0, 0, 0, 0, 0, 0, 0, 0, 0] rfl (by decide +kernel) (by decide +kernel) rfl dX12_layMasks_192 (fun H locs hP hD hS => ?_)
  refine lv_iinc (v := 8) (lv' := [(2, .int 8), (4, .int 0), (3, .int 0), (1, .int 2), (0, .ref h0)]) hx hb dX12_layMasks_193 hl (k := 0) rfl (by decide +kernel) (by decide) rfl (fun ls hl => ?_)
  refine lv_goto (tgt := 180) hx hb dX12_layMasks_196 (by decide) ?_
  refine lv_iload_n hx hb dX12_layMasks_180 rfl (lv_at hl 0 rfl) ?_
  refine lv_bipush (v := 16) hx hb dX12_layMasks_181 (by decide +kernel) ?_
  refine lv_icmp_ge (tgt := 199) hx hb dX12_layMasks_183 (by decide) (fun c9 => absurd c9 (by decide +kernel)) (fun _ => ?_)
  refine lv_aload_n hx hb dX12_layMasks_186 rfl (lv_at hl 4 rfl) ?_
  refine va_get (D := D) (ci := 15) (v := .ref h6) (C := RX12) (T := TX12) (N := 66) hx hb hts iw_X12_layMasks__X12 hown hE.1 hP 0 rfl rfl 46 (by decide) (hts _ mw_X12_layMasks__9) (fun _ h9 => h9) rfl dX12_layMasks_187 ?_
  refine lv_iload_n hx hb dX12_layMasks_190 rfl (lv_at hl 0 rfl) ?_
  refine lv_iconst (v := 0) hx hb dX12_layMasks_191 (by decide +kernel) ?_
  refine jw_iast (ws' := [(h0, .inr (15, [.ref h8, .int 0, .int 0, .ref h9, .int 0, .int (-1), .int 0, .int 0, .int 0, .int 0, .int 0, .int 2, .int 0, .int 0, .int 0, .ref h10, .ref h11, .ref h12, .ref h13, .int 2, .int 0, .int 0, .int 0, .int 0, .ref h14, .ref h15, .ref h16, .ref h17, .int 2, .ref h1, .int 1, .ref h2, .ref h18, .int 1, .ref h19, .ref h20, .ref h21, .int 0, .ref h22, .ref h23, .ref h24, .ref h25, .ref h3, .ref h4, .ref h26, .ref h5, .ref h6, .int 9, .ref h7, .ref h27, .ref h28, .int (-1), .ref h29, .long 0, .long 0, .int (-1), .int (-1), .long 0, .long 1, .ref h30, .ref h31, .ref h32, .ref h33, .ref h34, .ref h35, .long 0])), (h1, .inl (Y 1, 100, .inl (jw_l 0 [0, 1, 0, 0, 1, 0, 0, 0, 1, 1]))), (h2, .inl (Y 1, 13824, .inl (jw_l 0 [0]))), (h3, .inl (Y 1, 6, .inl (jw_l 0 [0, 1]))), (h4, .inl (Y 1, 14425, .inl (jw_l 0 [0]))), (h5, .inl (Y 1, 13824, .inl (jw_l 0 [0]))), (h6, .inl (Y 1, 16, .inl (jw_l 0 [0, 0, 0, 0, 0, 0, 0, 0, 0, 0, 0, 0, 0, 0, 0, 0]))), (h7, .inl (Y 1, 5, .inl (jw_l 0 [1, 3])))]) hx hb hE hP hD hS 6 8 [0, 0, 0, 0, 0, 0, 0, 0, 0, 0, 0, 0, 0, 0, 0, 0] rfl (by decide +kernel) (by decide +kernel) rfl dX12_layMasks_192 (fun H locs hP hD hS => ?_)
  refine lv_iinc (v := 9) (lv' := [(2, .int 9), (4, .int 0), (3, .int 0), (1, .int 2), (0, .ref h0)]) hx hb dX12_layMasks_193 hl (k := 0) rfl (by decide +kernel) (by decide) rfl (fun ls hl => ?_)
  refine lv_goto (tgt := 180) hx hb dX12_layMasks_196 (by decide) ?_
  refine lv_iload_n hx hb dX12_layMasks_180 rfl (lv_at hl 0 rfl) ?_
  refine lv_bipush (v := 16) hx hb dX12_layMasks_181 (by decide +kernel) ?_
  refine lv_icmp_ge (tgt := 199) hx hb dX12_layMasks_183 (by decide) (fun c9 => absurd c9 (by decide +kernel)) (fun _ => ?_)
  refine lv_aload_n hx hb dX12_layMasks_186 rfl (lv_at hl 4 rfl) ?_
  refine va_get (D := D) (ci := 15) (v := .ref h6) (C := RX12) (T := TX12) (N := 66) hx hb hts iw_X12_layMasks__X12 hown hE.1 hP 0 rfl rfl 46 (by decide) (hts _ mw_X12_layMasks__9) (fun _ h9 => h9) rfl dX12_layMasks_187 ?_
  refine lv_iload_n hx hb dX12_layMasks_190 rfl (lv_at hl 0 rfl) ?_
  refine lv_iconst (v := 0) hx hb dX12_layMasks_191 (by decide +kernel) ?_
  refine jw_iast (ws' := [(h0, .inr (15, [.ref h8, .int 0, .int 0, .ref h9, .int 0, .int (-1), .int 0, .int 0, .int 0, .int 0, .int 0, .int 2, .int 0, .int 0, .int 0, .ref h10, .ref h11, .ref h12, .ref h13, .int 2, .int 0, .int 0, .int 0, .int 0, .ref h14, .ref h15, .ref h16, .ref h17, .int 2, .ref h1, .int 1, .ref h2, .ref h18, .int 1, .ref h19, .ref h20, .ref h21, .int 0, .ref h22, .ref h23, .ref h24, .ref h25, .ref h3, .ref h4, .ref h26, .ref h5, .ref h6, .int 9, .ref h7, .ref h27, .ref h28, .int (-1), .ref h29, .long 0, .long 0, .int (-1), .int (-1), .long 0, .long 1, .ref h30, .ref h31, .ref h32, .ref h33, .ref h34, .ref h35, .long 0])), (h1, .inl (Y 1, 100, .inl (jw_l 0 [0, 1, 0, 0, 1, 0, 0, 0, 1, 1]))), (h2, .inl (Y 1, 13824, .inl (jw_l 0 [0]))), (h3, .inl (Y 1, 6, .inl (jw_l 0 [0, 1]))), (h4, .inl (Y 1, 14425, .inl (jw_l 0 [0]))), (h5, .inl (Y 1, 13824, .inl (jw_l 0 [0]))), (h6, .inl (Y 1, 16, .inl (jw_l 0 [0, 0, 0, 0, 0, 0, 0, 0, 0, 0, 0, 0, 0, 0, 0, 0]))), (h7, .inl (Y 1, 5, .inl (jw_l 0 [1, 3])))]) hx hb hE hP hD hS 6 9 [0, 0, 0, 0, 0, 0, 0, 0, 0, 0, 0, 0, 0, 0, 0, 0] rfl (by decide +kernel) (by decide +kernel) rfl dX12_layMasks_192 (fun H locs hP hD hS => ?_)
  refine lv_iinc (v := 10) (lv' := [(2, .int 10), (4, .int 0), (3, .int 0), (1, .int 2), (0, .ref h0)]) hx hb dX12_layMasks_193 hl (k := 0) rfl (by decide +kernel) (by decide) rfl (fun ls hl => ?_)
  refine lv_goto (tgt := 180) hx hb dX12_layMasks_196 (by decide) ?_
  refine lv_iload_n hx hb dX12_layMasks_180 rfl (lv_at hl 0 rfl) ?_
  refine lv_bipush (v := 16) hx hb dX12_layMasks_181 (by decide +kernel) ?_
  refine lv_icmp_ge (tgt := 199) hx hb dX12_layMasks_183 (by decide) (fun c9 => absurd c9 (by decide +kernel)) (fun _ => ?_)
  refine lv_aload_n hx hb dX12_layMasks_186 rfl (lv_at hl 4 rfl) ?_
  refine va_get (D := D) (ci := 15) (v := .ref h6) (C := RX12) (T := TX12) (N := 66) hx hb hts iw_X12_layMasks__X12 hown hE.1 hP 0 rfl rfl 46 (by decide) (hts _ mw_X12_layMasks__9) (fun _ h9 => h9) rfl dX12_layMasks_187 ?_
  refine lv_iload_n hx hb dX12_layMasks_190 rfl (lv_at hl 0 rfl) ?_
  refine lv_iconst (v := 0) hx hb dX12_layMasks_191 (by decide +kernel) ?_
  refine jw_iast (ws' := [(h0, .inr (15, [.ref h8, .int 0, .int 0, .ref h9, .int 0, .int (-1), .int 0, .int 0, .int 0, .int 0, .int 0, .int 2, .int 0, .int 0, .int 0, .ref h10, .ref h11, .ref h12, .ref h13, .int 2, .int 0, .int 0, .int 0, .int 0, .ref h14, .ref h15, .ref h16, .ref h17, .int 2, .ref h1, .int 1, .ref h2, .ref h18, .int 1, .ref h19, .ref h20, .ref h21, .int 0, .ref h22, .ref h23, .ref h24, .ref h25, .ref h3, .ref h4, .ref h26, .ref h5, .ref h6, .int 9, .ref h7, .ref h27, .ref h28, .int (-1), .ref h29, .long 0, .long 0, .int (-1), .int (-1), .long 0, .long 1, .ref h30, .ref h31, .ref h32, .ref h33, .ref h34, .ref h35, .long 0])), (h1, .inl (Y 1, 100, .inl (jw_l 0 [0, 1, 0, 0, 1, 0, 0, 0, 1, 1]))), (h2, .inl (Y 1, 13824, .inl (jw_l 0 [0]))), (h3, .inl (Y 1, 6, .inl (jw_l 0 [0, 1]))), (h4, .inl (Y 1, 14425, .inl (jw_l 0 [0]))), (h5, .inl (Y 1, 13824, .inl (jw_l 0 [0]))), (h6, .inl (Y 1, 16, .inl (jw_l 0 [0, 0, 0, 0, 0, 0, 0, 0, 0, 0, 0, 0, 0, 0, 0, 0]))), (h7, .inl (Y 1, 5, .inl (jw_l 0 [1, 3])))]) hx hb hE hP hD hS 6 10 [0, 0, 0, 0, 0, 0, 0, 0, 0, 0, 0, 0, 0, 0, 0, 0] rfl (by decide +kernel) (by decide +kernel) rfl dX12_layMasks_192 (fun H locs hP hD hS => ?_)
  refine lv_iinc (v := 11) (lv' := [(2, .int 11), (4, .int 0), (3, .int 0), (1, .int 2), (0, .ref h0)]) hx hb dX12_layMasks_193 hl (k := 0) rfl (by decide +kernel) (by decide) rfl (fun ls hl => ?_)
  refine lv_goto (tgt := 180) hx hb dX12_layMasks_196 (by decide) ?_
  refine lv_iload_n hx hb dX12_layMasks_180 rfl (lv_at hl 0 rfl) ?_
  refine lv_bipush (v := 16) hx hb dX12_layMasks_181 (by decide +kernel) ?_
  refine lv_icmp_ge (tgt := 199) hx hb dX12_layMasks_183 (by decide) (fun c9 => absurd c9 (by decide +kernel)) (fun _ => ?_)
  refine lv_aload_n hx hb dX12_layMasks_186 rfl (lv_at hl 4 rfl) ?_
  refine va_get (D := D) (ci := 15) (v := .ref h6) (C := RX12) (T := TX12) (N := 66) hx hb hts iw_X12_layMasks__X12 hown hE.1 hP 0 rfl rfl 46 (by decide) (hts _ mw_X12_layMasks__9) (fun _ h9 => h9) rfl dX12_layMasks_187 ?_
  refine lv_iload_n hx hb dX12_layMasks_190 rfl (lv_at hl 0 rfl) ?_
  refine lv_iconst (v := 0) hx hb dX12_layMasks_191 (by decide +kernel) ?_
  refine jw_iast (ws' := [(h0, .inr (15, [.ref h8, .int 0, .int 0, .ref h9, .int 0, .int (-1), .int 0, .int 0, .int 0, .int 0, .int 0, .int 2, .int 0, .int 0, .int 0, .ref h10, .ref h11, .ref h12, .ref h13, .int 2, .int 0, .int 0, .int 0, .int 0, .ref h14, .ref h15, .ref h16, .ref h17, .int 2, .ref h1, .int 1, .ref h2, .ref h18, .int 1, .ref h19, .ref h20, .ref h21, .int 0, .ref h22, .ref h23, .ref h24, .ref h25, .ref h3, .ref h4, .ref h26, .ref h5, .ref h6, .int 9, .ref h7, .ref h27, .ref h28, .int (-1), .ref h29, .long 0, .long 0, .int (-1), .int (-1), .long 0, .long 1, .ref h30, .ref h31, .ref h32, .ref h33, .ref h34, .ref h35, .long 0])), (h1, .inl (Y 1, 100, .inl (jw_l 0 [0, 1, 0, 0, 1, 0, 0, 0, 1, 1]))), (h2, .inl (Y 1, 13824, .inl (jw_l 0 [0]))), (h3, .inl (Y 1, 6, .inl (jw_l 0 [0, 1]))), (h4, .inl (Y 1, 14425, .inl (jw_l 0 [0]))), (h5, .inl (Y 1, 13824, .inl (jw_l 0 [0]))), (h6, .inl (Y 1, 16, .inl (jw_l 0 [0, 0, 0, 0, 0, 0, 0, 0, 0, 0, 0, 0, 0, 0, 0, 0]))), (h7, .inl (Y 1, 5, .inl (jw_l 0 [1, 3])))]) hx hb hE hP hD hS 6 11 [0, 0, 0, 0, 0, 0, 0, 0, 0, 0, 0, 0, 0, 0, 0, 0] rfl (by decide +kernel) (by decide +kernel) rfl dX12_layMasks_192 (fun H locs hP hD hS => ?_)
  refine lv_iinc (v := 12) (lv' := [(2, .int 12), (4, .int 0), (3, .int 0), (1, .int 2), (0, .ref h0)]) hx hb dX12_layMasks_193 hl (k := 0) rfl (by decide +kernel) (by decide) rfl (fun ls hl => ?_)
  refine lv_goto (tgt := 180) hx hb dX12_layMasks_196 (by decide) ?_
  refine lv_iload_n hx hb dX12_layMasks_180 rfl (lv_at hl 0 rfl) ?_
  refine lv_bipush (v := 16) hx hb dX12_layMasks_181 (by decide +kernel) ?_
  refine lv_icmp_ge (tgt := 199) hx hb dX12_layMasks_183 (by decide) (fun c9 => absurd c9 (by decide +kernel)) (fun _ => ?_)
  refine lv_aload_n hx hb dX12_layMasks_186 rfl (lv_at hl 4 rfl) ?_
  refine va_get (D := D) (ci := 15) (v := .ref h6) (C := RX12) (T := TX12) (N := 66) hx hb hts iw_X12_layMasks__X12 hown hE.1 hP 0 rfl rfl 46 (by decide) (hts _ mw_X12_layMasks__9) (fun _ h9 => h9) rfl dX12_layMasks_187 ?_
  refine lv_iload_n hx hb dX12_layMasks_190 rfl (lv_at hl 0 rfl) ?_
  refine lv_iconst (v := 0) hx hb dX12_layMasks_191 (by decide +kernel) ?_
  refine jw_iast (ws' := [(h0, .inr (15, [.ref h8, .int 0, .int 0, .ref h9, .int 0, .int (-1), .int 0, .int 0, .int 0, .int 0, .int 0, .int 2, .int 0, .int 0, .int 0, .ref h10, .ref h11, .ref h12, .ref h13, .int 2, .int 0, .int 0, .int 0, .int 0, .ref h14, .ref h15, .ref h16, .ref h17, .int 2, .ref h1, .int 1, .ref h2, .ref h18, .int 1, .ref h19, .ref h20, .ref h21, .int 0, .ref h22, .ref h23, .ref h24, .ref h25, .ref h3, .ref h4, .ref h26, .ref h5, .ref h6, .int 9, .ref h7, .ref h27, .ref h28, .int (-1), .ref h29, .long 0, .long 0, .int (-1), .int (-1), .long 0, .long 1, .ref h30, .ref h31, .ref h32, .ref h33, .ref h34, .ref h35, .long 0])), (h1, .inl (Y 1, 100, .inl (jw_l 0 [0, 1, 0, 0, 1, 0, 0, 0, 1, 1]))), (h2, .inl (Y 1, 13824, .inl (jw_l 0 [0]))), (h3, .inl (Y 1, 6, .inl (jw_l 0 [0, 1]))), (h4, .inl (Y 1, 14425, .inl (jw_l 0 [0]))), (h5, .inl (Y 1, 13824, .inl (jw_l 0 [0]))), (h6, .inl (Y 1, 16, .inl (jw_l 0 [0, 0, 0, 0, 0, 0, 0, 0, 0, 0, 0, 0, 0, 0, 0, 0]))), (h7, .inl (Y 1, 5, .inl (jw_l 0 [1, 3])))]) hx hb hE hP hD hS 6 12 [0, 0, 0, 0, 0, 0, 0, 0, 0, 0, 0, 0, 0, 0, 0, 0] rfl (by decide +kernel) (by decide +kernel) rfl dX12_layMasks_192 (fun H locs hP hD hS => ?_)
  refine lv_iinc (v := 13) (lv' := [(2, .int 13), (4, .int 0), (3, .int 0), (1, .int 2), (0, .ref h0)]) hx hb dX12_layMasks_193 hl (k := 0) rfl (by decide +kernel) (by decide) rfl (fun ls hl => ?_)
  refine lv_goto (tgt := 180) hx hb dX12_layMasks_196 (by decide) ?_
  refine lv_iload_n hx hb dX12_layMasks_180 rfl (lv_at hl 0 rfl) ?_
  refine lv_bipush (v := 16) hx hb dX12_layMasks_181 (by decide +kernel) ?_
  refine lv_icmp_ge (tgt := 199) hx hb dX12_layMasks_183 (by decide) (fun c9 => absurd c9 (by decide +kernel)) (fun _ => ?_)
  refine lv_aload_n hx hb dX12_layMasks_186 rfl (lv_at hl 4 rfl) ?_
  refine va_get (D := D) (ci := 15) (v := .ref h6) (C := RX12) (T := TX12) (N := 66) hx hb hts iw_X12_layMasks__X12 hown hE.1 hP 0 rfl rfl 46 (by decide) (hts _ mw_X12_layMasks__9) (fun _ h9 => h9) rfl dX12_layMasks_187 ?_
  refine lv_iload_n hx hb dX12_layMasks_190 rfl (lv_at hl 0 rfl) ?_
  refine lv_iconst (v := 0) hx hb dX12_layMasks_191 (by decide +kernel) ?_
  refine jw_iast (ws' := [(h0, .inr (15, [.ref h8, .int 0, .int 0, .ref h9, .int 0, .int (-1), .int 0, .int 0, .int 0, .int 0, .int 0, .int 2, .int 0, .int 0, .int 0, .ref h10, .ref h11, .ref h12, .ref h13, .int 2, .int 0, .int 0, .int 0, .int 0, .ref h14, .ref h15, .ref h16, .ref h17, .int 2, .ref h1, .int 1, .ref h2, .ref h18, .int 1, .ref h19, .ref h20, .ref h21, .int 0, .ref h22, .ref h23, .ref h24, .ref h25, .ref h3, .ref h4, .ref h26, .ref h5, .ref h6, .int 9, .ref h7, .ref h27, .ref h28, .int (-1), .ref h29, .long 0, .long 0, .int (-1), .int (-1), .long 0, .long 1, .ref h30, .ref h31, .ref h32, .ref h33, .ref h34, .ref h35, .long 0])), (h1, .inl (Y 1, 100, .inl (jw_l 0 [0, 1, 0, 0, 1, 0, 0, 0, 1, 1]))), (h2, .inl (Y 1, 13824, .inl (jw_l 0 [0]))), (h3, .inl (Y 1, 6, .inl (jw_l 0 [0, 1]))), (h4, .inl (Y 1, 14425, .inl (jw_l 0 [0]))), (h5, .inl (Y 1, 13824, .inl (jw_l 0 [0]))), (h6, .inl (Y 1, 16, .inl (jw_l 0 [0, 0, 0, 0, 0, 0, 0, 0, 0, 0, 0, 0, 0, 0, 0, 0]))), (h7, .inl (Y 1, 5, .inl (jw_l 0 [1, 3])))]) hx hb hE hP hD hS 6 13 [0, 0, 0, 0, 0, 0, 0, 0, 0, 0, 0, 0, 0, 0, 0, 0] rfl (by decide +kernel) (by decide +kernel) rfl dX12_layMasks_192 (fun H locs hP hD hS => ?_)
  refine lv_iinc (v := 14) (lv' := [(2, .int 14), (4, .int 0), (3, .int 0), (1, .int 2), (0, .ref h0)]) hx hb dX12_layMasks_193 hl (k := 0) rfl (by decide +kernel) (by decide) rfl (fun ls hl => ?_)
  refine lv_goto (tgt := 180) hx hb dX12_layMasks_196 (by decide) ?_
  refine lv_iload_n hx hb dX12_layMasks_180 rfl (lv_at hl 0 rfl) ?_
  refine lv_bipush (v := 16) hx hb dX12_layMasks_181 (by decide +kernel) ?_
  refine lv_icmp_ge (tgt := 199) hx hb dX12_layMasks_183 (by decide) (fun c9 => absurd c9 (by decide +kernel)) (fun _ => ?_)
  refine lv_aload_n hx hb dX12_layMasks_186 rfl (lv_at hl 4 rfl) ?_
  refine va_get (D := D) (ci := 15) (v := .ref h6) (C := RX12) (T := TX12) (N := 66) hx hb hts iw_X12_layMasks__X12 hown hE.1 hP 0 rfl rfl 46 (by decide) (hts _ mw_X12_layMasks__9) (fun _ h9 => h9) rfl dX12_layMasks_187 ?_
  refine lv_iload_n hx hb dX12_layMasks_190 rfl (lv_at hl 0 rfl) ?_
  refine lv_iconst (v := 0) hx hb dX12_layMasks_191 (by decide +kernel) ?_
  refine jw_iast (ws' := [(h0, .inr (15, [.ref h8, .int 0, .int 0, .ref h9, .int 0, .int (-1), .int 0, .int 0, .int 0, .int 0, .int 0, .int 2, .int 0, .int 0, .int 0, .ref h10, .ref h11, .ref h12, .ref h13, .int 2, .int 0, .int 0, .int 0, .int 0, .ref h14, .ref h15, .ref h16, .ref h17, .int 2, .ref h1, .int 1, .ref h2, .ref h18, .int 1, .ref h19, .ref h20, .ref h21, .int 0, .ref h22, .ref h23, .ref h24, .ref h25, .ref h3, .ref h4, .ref h26, .ref h5, .ref h6, .int 9, .ref h7, .ref h27, .ref h28, .int (-1), .ref h29, .long 0, .long 0, .int (-1), .int (-1), .long 0, .long 1, .ref h30, .ref h31, .ref h32, .ref h33, .ref h34, .ref h35, .long 0])), (h1, .inl (Y 1, 100, .inl (jw_l 0 [0, 1, 0, 0, 1, 0, 0, 0, 1, 1]))), (h2, .inl (Y 1, 13824, .inl (jw_l 0 [0]))), (h3, .inl (Y 1, 6, .inl (jw_l 0 [0, 1]))), (h4, .inl (Y 1, 14425, .inl (jw_l 0 [0]))), (h5, .inl (Y 1, 13824, .inl (jw_l 0 [0]))), (h6, .inl (Y 1, 16, .inl (jw_l 0 [0, 0, 0, 0, 0, 0, 0, 0, 0, 0, 0, 0, 0, 0, 0, 0]))), (h7, .inl (Y 1, 5, .inl (jw_l 0 [1, 3])))]) hx hb hE hP hD hS 6 14 [0, 0, 0, 0, 0, 0, 0, 0, 0, 0, 0, 0, 0, 0, 0, 0] rfl (by decide +kernel) (by decide +kernel) rfl dX12_layMasks_192 (fun H locs hP hD hS => ?_)
  refine lv_iinc (v := 15) (lv' := [(2, .int 15), (4, .int 0), (3, .int 0), (1, .int 2), (0, .ref h0)]) hx hb dX12_layMasks_193 hl (k := 0) rfl (by decide +kernel) (by decide) rfl (fun ls hl => ?_)
  refine lv_goto (tgt := 180) hx hb dX12_layMasks_196 (by decide) ?_
  refine lv_iload_n hx hb dX12_layMasks_180 rfl (lv_at hl 0 rfl) ?_
  refine lv_bipush (v := 16) hx hb dX12_layMasks_181 (by decide +kernel) ?_
  refine lv_icmp_ge (tgt := 199) hx hb dX12_layMasks_183 (by decide) (fun c9 => absurd c9 (by decide +kernel)) (fun _ => ?_)
  refine lv_aload_n hx hb dX12_layMasks_186 rfl (lv_at hl 4 rfl) ?_
  refine va_get (D := D) (ci := 15) (v := .ref h6) (C := RX12) (T := TX12) (N := 66) hx hb hts iw_X12_layMasks__X12 hown hE.1 hP 0 rfl rfl 46 (by decide) (hts _ mw_X12_layMasks__9) (fun _ h9 => h9) rfl dX12_layMasks_187 ?_
  refine lv_iload_n hx hb dX12_layMasks_190 rfl (lv_at hl 0 rfl) ?_
  refine lv_iconst (v := 0) hx hb dX12_layMasks_191 (by decide +kernel) ?_
  refine jw_iast (ws' := [(h0, .inr (15, [.ref h8, .int 0, .int 0, .ref h9, .int 0, .int (-1), .int 0, .int 0, .int 0, .int 0, .int 0, .int 2, .int 0, .int 0, .int 0, .ref h10, .ref h11, .ref h12, .ref h13, .int 2, .int 0, .int 0, .int 0, .int 0, .ref h14, .ref h15, .ref h16, .ref h17, .int 2, .ref h1, .int 1, .ref h2, .ref h18, .int 1, .ref h19, .ref h20, .ref h21, .int 0, .ref h22, .ref h23, .ref h24, .ref h25, .ref h3, .ref h4, .ref h26, .ref h5, .ref h6, .int 9, .ref h7, .ref h27, .ref h28, .int (-1), .ref h29, .long 0, .long 0, .int (-1), .int (-1), .long 0, .long 1, .ref h30, .ref h31, .ref h32, .ref h33, .ref h34, .ref h35, .long 0])), (h1, .inl (Y 1, 100, .inl (jw_l 0 [0, 1, 0, 0, 1, 0, 0, 0, 1, 1]))), (h2, .inl (Y 1, 13824, .inl (jw_l 0 [0]))), (h3, .inl (Y 1, 6, .inl (jw_l 0 [0, 1]))), (h4, .inl (Y 1, 14425, .inl (jw_l 0 [0]))), (h5, .inl (Y 1, 13824, .inl (jw_l 0 [0]))), (h6, .inl (Y 1, 16, .inl (jw_l 0 [0, 0, 0, 0, 0, 0, 0, 0, 0, 0, 0, 0, 0, 0, 0, 0]))), (h7, .inl (Y 1, 5, .inl (jw_l 0 [1, 3])))]) hx hb hE hP hD hS 6 15 [0, 0, 0, 0, 0, 0, 0, 0, 0, 0, 0, 0, 0, 0, 0, 0] rfl (by decide +kernel) (by decide +kernel) rfl dX12_layMasks_192 (fun H locs hP hD hS => ?_)
  refine lv_iinc (v := 16) (lv' := [(2, .int 16), (4, .int 0), (3, .int 0), (1, .int 2), (0, .ref h0)]) hx hb dX12_layMasks_193 hl (k := 0) rfl (by decide +kernel) (by decide) rfl (fun ls hl => ?_)
  refine lv_goto (tgt := 180) hx hb dX12_layMasks_196 (by decide) ?_
  refine lv_iload_n hx hb dX12_layMasks_180 rfl (lv_at hl 0 rfl) ?_
  refine lv_bipush (v := 16) hx hb dX12_layMasks_181 (by decide +kernel) ?_
  refine lv_icmp_ge (tgt := 199) hx hb dX12_layMasks_183 (by decide) (fun _ => ?_) (fun c9 => absurd (by decide +kernel) c9)
  refine lv_iconst (v := 0) hx hb dX12_layMasks_199 (by decide +kernel) ?_
  refine lv_istore_n (lv' := [(2, .int 0), (4, .int 0), (3, .int 0), (1, .int 2), (0, .ref h0)]) hx hb dX12_layMasks_200 rfl hl (by decide) rfl (fun ls hl => ?_)
  refine lv_iload_n hx hb dX12_layMasks_201 rfl (lv_at hl 0 rfl) ?_
  refine lv_aload_n hx hb dX12_layMasks_202 rfl (lv_at hl 4 rfl) ?_
  refine va_get (D := D) (ci := 15) (v := .int 2) (C := RX12) (T := TX12) (N := 66) hx hb hts iw_X12_layMasks__X12 hown hE.1 hP 0 rfl rfl 28 (by decide) (hts _ mw_X12_layMasks__3) (fun _ h9 => h9) rfl dX12_layMasks_203 ?_
  refine lv_icmp_ge (tgt := 256) hx hb dX12_layMasks_206 (by decide) (fun c9 => absurd c9 (by decide +kernel)) (fun _ => ?_)
  refine lv_iconst (v := 0) hx hb dX12_layMasks_209 (by decide +kernel) ?_
  refine lv_istore_n (lv' := [(3, .int 0), (2, .int 0), (4, .int 0), (1, .int 2), (0, .ref h0)]) hx hb dX12_layMasks_210 rfl hl (by decide) rfl (fun ls hl => ?_)
  refine lv_iload_n hx hb dX12_layMasks_211 rfl (lv_at hl 0 rfl) ?_
  refine lv_aload_n hx hb dX12_layMasks_212 rfl (lv_at hl 4 rfl) ?_
  refine va_get (D := D) (ci := 15) (v := .int 2) (C := RX12) (T := TX12) (N := 66) hx hb hts iw_X12_layMasks__X12 hown hE.1 hP 0 rfl rfl 11 (by decide) (hts _ mw_X12_layMasks__10) (fun _ h9 => h9) rfl dX12_layMasks_213 ?_
  refine lv_icmp_ge (tgt := 250) hx hb dX12_layMasks_216 (by decide) (fun c9 => absurd c9 (by decide +kernel)) (fun _ => ?_)
  refine lv_aload_n hx hb dX12_layMasks_219 rfl (lv_at hl 4 rfl) ?_
  refine va_get (D := D) (ci := 15) (v := .ref h6) (C := RX12) (T := TX12) (N := 66) hx hb hts iw_X12_layMasks__X12 hown hE.1 hP 0 rfl rfl 46 (by decide) (hts _ mw_X12_layMasks__9) (fun _ h9 => h9) rfl dX12_layMasks_220 ?_
  refine lv_iconst (v := 4) hx hb dX12_layMasks_223 (by decide +kernel) ?_
  refine lv_iload_n hx hb dX12_layMasks_224 rfl (lv_at hl 0 rfl) ?_
  refine jw_imul (v := 0) hx hb dX12_layMasks_225 (by decide +kernel) ?_
  refine lv_aload_n hx hb dX12_layMasks_226 rfl (lv_at hl 4 rfl) ?_
  refine va_get (D := D) (ci := 15) (v := .ref h1) (C := RX12) (T := TX12) (N := 66) hx hb hts iw_X12_layMasks__X12 hown hE.1 hP 0 rfl rfl 29 (by decide) (hts _ mw_X12_layMasks__11) (fun _ h9 => h9) rfl dX12_layMasks_227 ?_
  refine lv_iconst (v := 4) hx hb dX12_layMasks_230 (by decide +kernel) ?_
  refine lv_iload_n hx hb dX12_layMasks_231 rfl (lv_at hl 1 rfl) ?_
  refine jw_imul (v := 0) hx hb dX12_layMasks_232 (by decide +kernel) ?_
  refine lv_iload_n hx hb dX12_layMasks_233 rfl (lv_at hl 0 rfl) ?_
  refine jw_iadd (v := 0) hx hb dX12_layMasks_234 (by decide +kernel) ?_
  refine jw_iald (v := 0) hx hb hE hP 1 0 rfl (by decide +kernel) (by decide +kernel) dX12_layMasks_235 ?_
  refine jw_iadd (v := 0) hx hb dX12_layMasks_236 (by decide +kernel) ?_
  refine lv_dup2_11 hx hb dX12_layMasks_237 rfl rfl ?_
  refine jw_iald (v := 0) hx hb hE hP 6 0 rfl (by decide +kernel) (by decide +kernel) dX12_layMasks_238 ?_
  refine lv_iconst (v := 1) hx hb dX12_layMasks_239 (by decide +kernel) ?_
  refine lv_iload_n hx hb dX12_layMasks_240 rfl (lv_at hl 1 rfl) ?_
  refine jw_ishl (v := 1) hx hb dX12_layMasks_241 (by decide +kernel) ?_
  refine jw_ior (v := 1) hx hb dX12_layMasks_242 (by decide +kernel) ?_
  refine jw_iast (ws' := [(h0, .inr (15, [.ref h8, .int 0, .int 0, .ref h9, .int 0, .int (-1), .int 0, .int 0, .int 0, .int 0, .int 0, .int 2, .int 0, .int 0, .int 0, .ref h10, .ref h11, .ref h12, .ref h13, .int 2, .int 0, .int 0, .int 0, .int 0, .ref h14, .ref h15, .ref h16, .ref h17, .int 2, .ref h1, .int 1, .ref h2, .ref h18, .int 1, .ref h19, .ref h20, .ref h21, .int 0, .ref h22, .ref h23, .ref h24, .ref h25, .ref h3, .ref h4, .ref h26, .ref h5, .ref h6, .int 9, .ref h7, .ref h27, .ref h28, .int (-1), .ref h29, .long 0, .long 0, .int (-1), .int (-1), .long 0, .long 1, .ref h30, .ref h31, .ref h32, .ref h33, .ref h34, .ref h35, .long 0])), (h1, .inl (Y 1, 100, .inl (jw_l 0 [0, 1, 0, 0, 1, 0, 0, 0, 1, 1]))), (h2, .inl (Y 1, 13824, .inl (jw_l 0 [0]))), (h3, .inl (Y 1, 6, .inl (jw_l 0 [0, 1]))), (h4, .inl (Y 1, 14425, .inl (jw_l 0 [0]))), (h5, .inl (Y 1, 13824, .inl (jw_l 0 [0]))), (h6, .inl (Y 1, 16, .inl (jw_l 0 [1, 0, 0, 0, 0, 0, 0, 0, 0, 0, 0, 0, 0, 0, 0, 0]))), (h7, .inl (Y 1, 5, .inl (jw_l 0 [1, 3])))]) hx hb hE hP hD hS 6 0 [1, 0, 0, 0, 0, 0, 0, 0, 0, 0, 0, 0, 0, 0, 0, 0] rfl (by decide +kernel) (by decide +kernel) rfl dX12_layMasks_243 (fun H locs hP hD hS => ?_)
  refine lv_iinc (v := 1) (lv' := [(3, .int 1), (2, .int 0), (4, .int 0), (1, .int 2), (0, .ref h0)]) hx hb dX12_layMasks_244 hl (k := 0) rfl (by decide +kernel) (by decide) rfl (fun ls hl => ?_)
  refine lv_goto (tgt := 211) hx hb dX12_layMasks_247 (by decide) ?_
  refine lv_iload_n hx hb dX12_layMasks_211 rfl (lv_at hl 0 rfl) ?_
  refine lv_aload_n hx hb dX12_layMasks_212 rfl (lv_at hl 4 rfl) ?_
  refine va_get (D := D) (ci := 15) (v := .int 2) (C := RX12) (T := TX12) (N := 66) hx hb hts iw_X12_layMasks__X12 hown hE.1 hP 0 rfl rfl 11 (by decide) (hts _ mw_X12_layMasks__10) (fun _ h9 => h9) rfl dX12_layMasks_213 ?_
  refine lv_icmp_ge (tgt := 250) hx hb dX12_layMasks_216 (by decide) (fun c9 => absurd c9 (by decide +kernel)) (fun _ => ?_)
  refine lv_aload_n hx hb dX12_layMasks_219 rfl (lv_at hl 4 rfl) ?_
  refine va_get (D := D) (ci := 15) (v := .ref h6) (C := RX12) (T := TX12) (N := 66) hx hb hts iw_X12_layMasks__X12 hown hE.1 hP 0 rfl rfl 46 (by decide) (hts _ mw_X12_layMasks__9) (fun _ h9 => h9) rfl dX12_layMasks_220 ?_
  refine lv_iconst (v := 4) hx hb dX12_layMasks_223 (by decide +kernel) ?_
  refine lv_iload_n hx hb dX12_layMasks_224 rfl (lv_at hl 0 rfl) ?_
  refine jw_imul (v := 4) hx hb dX12_layMasks_225 (by decide +kernel) ?_
  refine lv_aload_n hx hb dX12_layMasks_226 rfl (lv_at hl 4 rfl) ?_
  refine va_get (D := D) (ci := 15) (v := .ref h1) (C := RX12) (T := TX12) (N := 66) hx hb hts iw_X12_layMasks__X12 hown hE.1 hP 0 rfl rfl 29 (by decide) (hts _ mw_X12_layMasks__11) (fun _ h9 => h9) rfl dX12_layMasks_227 ?_
  refine lv_iconst (v := 4) hx hb dX12_layMasks_230 (by decide +kernel) ?_
  refine lv_iload_n hx hb dX12_layMasks_231 rfl (lv_at hl 1 rfl) ?_
  refine jw_imul (v := 0) hx hb dX12_layMasks_232 (by decide +kernel) ?_
  refine lv_iload_n hx hb dX12_layMasks_233 rfl (lv_at hl 0 rfl) ?_
  refine jw_iadd (v := 1) hx hb dX12_layMasks_234 (by decide +kernel) ?_
  refine jw_iald (v := 1) hx hb hE hP 1 1 rfl (by decide +kernel) (by decide +kernel) dX12_layMasks_235 ?_
  refine jw_iadd (v := 5) hx hb dX12_layMasks_236 (by decide +kernel) ?_
  refine lv_dup2_11 hx hb dX12_layMasks_237 rfl rfl ?_
  refine jw_iald (v := 0) hx hb hE hP 6 5 rfl (by decide +kernel) (by decide +kernel) dX12_layMasks_238 ?_
  refine lv_iconst (v := 1) hx hb dX12_layMasks_239 (by decide +kernel) ?_
  refine lv_iload_n hx hb dX12_layMasks_240 rfl (lv_at hl 1 rfl) ?_
  refine jw_ishl (v := 1) hx hb dX12_layMasks_241 (by decide +kernel) ?_
  refine jw_ior (v := 1) hx hb dX12_layMasks_242 (by decide +kernel) ?_
  refine jw_iast (ws' := [(h0, .inr (15, [.ref h8, .int 0, .int 0, .ref h9, .int 0, .int (-1), .int 0, .int 0, .int 0, .int 0, .int 0, .int 2, .int 0, .int 0, .int 0, .ref h10, .ref h11, .ref h12, .ref h13, .int 2, .int 0, .int 0, .int 0, .int 0, .ref h14, .ref h15, .ref h16, .ref h17, .int 2, .ref h1, .int 1, .ref h2, .ref h18, .int 1, .ref h19, .ref h20, .ref h21, .int 0, .ref h22, .ref h23, .ref h24, .ref h25, .ref h3, .ref h4, .ref h26, .ref h5, .ref h6, .int 9, .ref h7, .ref h27, .ref h28, .int (-1), .ref h29, .long 0, .long 0, .int (-1), .int (-1), .long 0, .long 1, .ref h30, .ref h31, .ref h32, .ref h33, .ref h34, .ref h35, .long 0])), (h1, .inl (Y 1, 100, .inl (jw_l 0 [0, 1, 0, 0, 1, 0, 0, 0, 1, 1]))), (h2, .inl (Y 1, 13824, .inl (jw_l 0 [0]))), (h3, .inl (Y 1, 6, .inl (jw_l 0 [0, 1]))), (h4, .inl (Y 1, 14425, .inl (jw_l 0 [0]))), (h5, .inl (Y 1, 13824, .inl (jw_l 0 [0]))), (h6, .inl (Y 1, 16, .inl (jw_l 0 [1, 0, 0, 0, 0, 1, 0, 0, 0, 0, 0, 0, 0, 0, 0, 0]))), (h7, .inl (Y 1, 5, .inl (jw_l 0 [1, 3])))]) hx hb hE hP hD hS 6 5 [1, 0, 0, 0, 0, 1, 0, 0, 0, 0, 0, 0, 0, 0, 0, 0] rfl (by decide +kernel) (by decide +kernel) rfl dX12_layMasks_243 (fun H locs hP hD hS => ?_)
  refine lv_iinc (v := 2) (lv' := [(3, .int 2), (2, .int 0), (4, .int 0), (1, .int 2), (0, .ref h0)]) hx hb dX12_layMasks_244 hl (k := 0) rfl (by decide +kernel) (by decide) rfl (fun ls hl => ?_)
  refine lv_goto (tgt := 211) hx hb dX12_layMasks_247 (by decide) ?_
  refine lv_iload_n hx hb dX12_layMasks_211 rfl (lv_at hl 0 rfl) ?_
  refine lv_aload_n hx hb dX12_layMasks_212 rfl (lv_at hl 4 rfl) ?_
  refine va_get (D := D) (ci := 15) (v := .int 2) (C := RX12) (T := TX12) (N := 66) hx hb hts iw_X12_layMasks__X12 hown hE.1 hP 0 rfl rfl 11 (by decide) (hts _ mw_X12_layMasks__10) (fun _ h9 => h9) rfl dX12_layMasks_213 ?_
  refine lv_icmp_ge (tgt := 250) hx hb dX12_layMasks_216 (by decide) (fun _ => ?_) (fun c9 => absurd (by decide +kernel) c9)
  refine lv_iinc (v := 1) (lv' := [(2, .int 1), (3, .int 2), (4, .int 0), (1, .int 2), (0, .ref h0)]) hx hb dX12_layMasks_250 hl (k := 1) rfl (by decide +kernel) (by decide) rfl (fun ls hl => ?_)
  refine lv_goto (tgt := 201) hx hb dX12_layMasks_253 (by decide) ?_
  refine lv_iload_n hx hb dX12_layMasks_201 rfl (lv_at hl 0 rfl) ?_
  refine lv_aload_n hx hb dX12_layMasks_202 rfl (lv_at hl 4 rfl) ?_
  refine va_get (D := D) (ci := 15) (v := .int 2) (C := RX12) (T := TX12) (N := 66) hx hb hts iw_X12_layMasks__X12 hown hE.1 hP 0 rfl rfl 28 (by decide) (hts _ mw_X12_layMasks__3) (fun _ h9 => h9) rfl dX12_layMasks_203 ?_
  refine lv_icmp_ge (tgt := 256) hx hb dX12_layMasks_206 (by decide) (fun c9 => absurd c9 (by decide +kernel)) (fun _ => ?_)
  refine lv_iconst (v := 0) hx hb dX12_layMasks_209 (by decide +kernel) ?_
  refine lv_istore_n (lv' := [(3, .int 0), (2, .int 1), (4, .int 0), (1, .int 2), (0, .ref h0)]) hx hb dX12_layMasks_210 rfl hl (by decide) rfl (fun ls hl => ?_)
  refine lv_iload_n hx hb dX12_layMasks_211 rfl (lv_at hl 0 rfl) ?_
  refine lv_aload_n hx hb dX12_layMasks_212 rfl (lv_at hl 4 rfl) ?_
  refine va_get (D := D) (ci := 15) (v := .int 2) (C := RX12) (T := TX12) (N := 66) hx hb hts iw_X12_layMasks__X12 hown hE.1 hP 0 rfl rfl 11 (by decide) (hts _ mw_X12_layMasks__10) (fun _ h9 => h9) rfl dX12_layMasks_213 ?_
  refine lv_icmp_ge (tgt := 250) hx hb dX12_layMasks_216 (by decide) (fun c9 => absurd c9 (by decide +kernel)) (fun _ => ?_)
  refine lv_aload_n hx hb dX12_layMasks_219 rfl (lv_at hl 4 rfl) ?_
  refine va_get (D := D) (ci := 15) (v := .ref h6) (C := RX12) (T := TX12) (N := 66) hx hb hts iw_X12_layMasks__X12 hown hE.1 hP 0 rfl rfl 46 (by decide) (hts _ mw_X12_layMasks__9) (fun _ h9 => h9) rfl dX12_layMasks_220 ?_
  refine lv_iconst (v := 4) hx hb dX12_layMasks_223 (by decide +kernel) ?_
  refine lv_iload_n hx hb dX12_layMasks_224 rfl (lv_at hl 0 rfl) ?_
  refine jw_imul (v := 0) hx hb dX12_layMasks_225 (by decide +kernel) ?_
  refine lv_aload_n hx hb dX12_layMasks_226 rfl (lv_at hl 4 rfl) ?_
  refine va_get (D := D) (ci := 15) (v := .ref h1) (C := RX12) (T := TX12) (N := 66) hx hb hts iw_X12_layMasks__X12 hown hE.1 hP 0 rfl rfl 29 (by decide) (hts _ mw_X12_layMasks__11) (fun _ h9 => h9) rfl dX12_layMasks_227 ?_
  refine lv_iconst (v := 4) hx hb dX12_layMasks_230 (by decide +kernel) ?_
  refine lv_iload_n hx hb dX12_layMasks_231 rfl (lv_at hl 1 rfl) ?_
  refine jw_imul (v := 4) hx hb dX12_layMasks_232 (by decide +kernel) ?_
  refine lv_iload_n hx hb dX12_layMasks_233 rfl (lv_at hl 0 rfl) ?_
  refine jw_iadd (v := 4) hx hb dX12_layMasks_234 (by decide +kernel) ?_
  refine jw_iald (v := 1) hx hb hE hP 1 4 rfl (by decide +kernel) (by decide +kernel) dX12_layMasks_235 ?_
  refine jw_iadd (v := 1) hx hb dX12_layMasks_236 (by decide +kernel) ?_
  refine lv_dup2_11 hx hb dX12_layMasks_237 rfl rfl ?_
  refine jw_iald (v := 0) hx hb hE hP 6 1 rfl (by decide +kernel) (by decide +kernel) dX12_layMasks_238 ?_
  refine lv_iconst (v := 1) hx hb dX12_layMasks_239 (by decide +kernel) ?_
  refine lv_iload_n hx hb dX12_layMasks_240 rfl (lv_at hl 1 rfl) ?_
  refine jw_ishl (v := 2) hx hb dX12_layMasks_241 (by decide +kernel) ?_
  refine jw_ior (v := 2) hx hb dX12_layMasks_242 (by decide +kernel) ?_
  refine jw_iast (ws' := [(h0, .inr (15, [.ref h8, .int 0, .int 0, .ref h9, .int 0, .int (-1), .int 0, .int 0, .int 0, .int 0, .int 0, .int 2, .int 0, .int 0, .int 0, .ref h10, .ref h11, .ref h12, .ref h13, .int 2, .int 0, .int 0, .int 0, .int 0, .ref h14, .ref h15, .ref h16, .ref h17, .int 2, .ref h1, .int 1, .ref h2, .ref h18, .int 1, .ref h19, .ref h20, .ref h21, .int 0, .ref h22, .ref h23, .ref h24, .ref h25, .ref h3, .ref h4, .ref h26, .ref h5, .ref h6, .int 9, .ref h7, .ref h27, .ref h28, .int (-1), .ref h29, .long 0, .long 0, .int (-1), .int (-1), .long 0, .long 1, .ref h30, .ref h31, .ref h32, .ref h33, .ref h34, .ref h35, .long 0])), (h1, .inl (Y 1, 100, .inl (jw_l 0 [0, 1, 0, 0, 1, 0, 0, 0, 1, 1]))), (h2, .inl (Y 1, 13824, .inl (jw_l 0 [0]))), (h3, .inl (Y 1, 6, .inl (jw_l 0 [0, 1]))), (h4, .inl (Y 1, 14425, .inl (jw_l 0 [0]))), (h5, .inl (Y 1, 13824, .inl (jw_l 0 [0]))), (h6, .inl (Y 1, 16, .inl (jw_l 0 [1, 2, 0, 0, 0, 1, 0, 0, 0, 0, 0, 0, 0, 0, 0, 0]))), (h7, .inl (Y 1, 5, .inl (jw_l 0 [1, 3])))]) hx hb hE hP hD hS 6 1 [1, 2, 0, 0, 0, 1, 0, 0, 0, 0, 0, 0, 0, 0, 0, 0] rfl (by decide +kernel) (by decide +kernel) rfl dX12_layMasks_243 (fun H locs hP hD hS => ?_)
  refine lv_iinc (v := 1) (lv' := [(3, .int 1), (2, .int 1), (4, .int 0), (1, .int 2), (0, .ref h0)]) hx hb dX12_layMasks_244 hl (k := 0) rfl (by decide +kernel) (by decide) rfl (fun ls hl => ?_)
  refine lv_goto (tgt := 211) hx hb dX12_layMasks_247 (by decide) ?_
  refine lv_iload_n hx hb dX12_layMasks_211 rfl (lv_at hl 0 rfl) ?_
  refine lv_aload_n hx hb dX12_layMasks_212 rfl (lv_at hl 4 rfl) ?_
  refine va_get (D := D) (ci := 15) (v := .int 2) (C := RX12) (T := TX12) (N := 66) hx hb hts iw_X12_layMasks__X12 hown hE.1 hP 0 rfl rfl 11 (by decide) (hts _ mw_X12_layMasks__10) (fun _ h9 => h9) rfl dX12_layMasks_213 ?_
  refine lv_icmp_ge (tgt := 250) hx hb dX12_layMasks_216 (by decide) (fun c9 => absurd c9 (by decide +kernel)) (fun _ => ?_)
  refine lv_aload_n hx hb dX12_layMasks_219 rfl (lv_at hl 4 rfl) ?_
  refine va_get (D := D) (ci := 15) (v := .ref h6) (C := RX12) (T := TX12) (N := 66) hx hb hts iw_X12_layMasks__X12 hown hE.1 hP 0 rfl rfl 46 (by decide) (hts _ mw_X12_layMasks__9) (fun _ h9 => h9) rfl dX12_layMasks_220 ?_
  refine lv_iconst (v := 4) hx hb dX12_layMasks_223 (by decide +kernel) ?_
  refine lv_iload_n hx hb dX12_layMasks_224 rfl (lv_at hl 0 rfl) ?_
  refine jw_imul (v := 4) hx hb dX12_layMasks_225 (by decide +kernel) ?_
  refine lv_aload_n hx hb dX12_layMasks_226 rfl (lv_at hl 4 rfl) ?_
  refine va_get (D := D) (ci := 15) (v := .ref h1) (C := RX12) (T := TX12) (N := 66) hx hb hts iw_X12_layMasks__X12 hown hE.1 hP 0 rfl rfl 29 (by decide) (hts _ mw_X12_layMasks__11) (fun _ h9 => h9) rfl dX12_layMasks_227 ?_
  refine lv_iconst (v := 4) hx hb dX12_layMasks_230 (by decide +kernel) ?_
  refine lv_iload_n hx hb dX12_layMasks_231 rfl (lv_at hl 1 rfl) ?_
  refine jw_imul (v := 4) hx hb dX12_layMasks_232 (by decide +kernel) ?_
  refine lv_iload_n hx hb dX12_layMasks_233 rfl (lv_at hl 0 rfl) ?_
  refine jw_iadd (v := 5) hx hb dX12_layMasks_234 (by decide +kernel) ?_
  refine jw_iald (v := 0) hx hb hE hP 1 5 rfl (by decide +kernel) (by decide +kernel) dX12_layMasks_235 ?_
  refine jw_iadd (v := 4) hx hb dX12_layMasks_236 (by decide +kernel) ?_
  refine lv_dup2_11 hx hb dX12_layMasks_237 rfl rfl ?_
  refine jw_iald (v := 0) hx hb hE hP 6 4 rfl (by decide +kernel) (by decide +kernel) dX12_layMasks_238 ?_
  refine lv_iconst (v := 1) hx hb dX12_layMasks_239 (by decide +kernel) ?_
  refine lv_iload_n hx hb dX12_layMasks_240 rfl (lv_at hl 1 rfl) ?_
  refine jw_ishl (v := 2) hx hb dX12_layMasks_241 (by decide +kernel) ?_
  refine jw_ior (v := 2) hx hb dX12_layMasks_242 (by decide +kernel) ?_
  refine jw_iast (ws' := [(h0, .inr (15, [.ref h8, .int 0, .int 0, .ref h9, .int 0, .int (-1), .int 0, .int 0, .int 0, .int 0, .int 0, .int 2, .int 0, .int 0, .int 0, .ref h10, .ref h11, .ref h12, .ref h13, .int 2, .int 0, .int 0, .int 0, .int 0, .ref h14, .ref h15, .ref h16, .ref h17, .int 2, .ref h1, .int 1, .ref h2, .ref h18, .int 1, .ref h19, .ref h20, .ref h21, .int 0, .ref h22, .ref h23, .ref h24, .ref h25, .ref h3, .ref h4, .ref h26, .ref h5, .ref h6, .int 9, .ref h7, .ref h27, .ref h28, .int (-1), .ref h29, .long 0, .long 0, .int (-1), .int (-1), .long 0, .long 1, .ref h30, .ref h31, .ref h32, .ref h33, .ref h34, .ref h35, .long 0])), (h1, .inl (Y 1, 100, .inl (jw_l 0 [0, 1, 0, 0, 1, 0, 0, 0, 1, 1]))), (h2, .inl (Y 1, 13824, .inl (jw_l 0 [0]))), (h3, .inl (Y 1, 6, .inl (jw_l 0 [0, 1]))), (h4, .inl (Y 1, 14425, .inl (jw_l 0 [0]))), (h5, .inl (Y 1, 13824, .inl (jw_l 0 [0]))), (h6, .inl (Y 1, 16, .inl (jw_l 0 [1, 2, 0, 0, 2, 1, 0, 0, 0, 0, 0, 0, 0, 0, 0, 0]))), (h7, .inl (Y 1, 5, .inl (jw_l 0 [1, 3])))]) hx hb hE hP hD hS 6 4 [1, 2, 0, 0, 2, 1, 0, 0, 0, 0, 0, 0, 0, 0, 0, 0] rfl (by decide +kernel) (by decide +kernel) rfl dX12_layMasks_243 (fun H locs hP hD hS => ?_)
  refine lv_iinc (v := 2) (lv' := [(3, .int 2), (2, .int 1), (4, .int 0), (1, .int 2), (0, .ref h0)]) hx hb dX12_layMasks_244 hl (k := 0) rfl (by decide +kernel) (by decide) rfl (fun ls hl => ?_)
  refine lv_goto (tgt := 211) hx hb dX12_layMasks_247 (by decide) ?_
  refine lv_iload_n hx hb dX12_layMasks_211 rfl (lv_at hl 0 rfl) ?_
  refine lv_aload_n hx hb dX12_layMasks_212 rfl (lv_at hl 4 rfl) ?_
  refine va_get (D := D) (ci := 15) (v := .int 2) (C := RX12) (T := TX12) (N := 66) hx hb hts iw_X12_layMasks__X12 hown hE.1 hP 0 rfl rfl 11 (by decide) (hts _ mw_X12_layMasks__10) (fun _ h9 => h9) rfl dX12_layMasks_213 ?_
  refine lv_icmp_ge (tgt := 250) hx hb dX12_layMasks_216 (by decide) (fun _ => ?_) (fun c9 => absurd (by decide +kernel) c9)
  refine lv_iinc (v := 2) (lv' := [(2, .int 2), (3, .int 2), (4, .int 0), (1, .int 2), (0, .ref h0)]) hx hb dX12_layMasks_250 hl (k := 1) rfl (by decide +kernel) (by decide) rfl (fun ls hl => ?_)
  refine lv_goto (tgt := 201) hx hb dX12_layMasks_253 (by decide) ?_
  refine lv_iload_n hx hb dX12_layMasks_201 rfl (lv_at hl 0 rfl) ?_
  refine lv_aload_n hx hb dX12_layMasks_202 rfl (lv_at hl 4 rfl) ?_
  refine va_get (D := D) (ci := 15) (v := .int 2) (C := RX12) (T := TX12) (N := 66) hx hb hts iw_X12_layMasks__X12 hown hE.1 hP 0 rfl rfl 28 (by decide) (hts _ mw_X12_layMasks__3) (fun _ h9 => h9) rfl dX12_layMasks_203 ?_
  refine lv_icmp_ge (tgt := 256) hx hb dX12_layMasks_206 (by decide) (fun _ => ?_) (fun c9 => absurd (by decide +kernel) c9)
  refine lv_aload_n hx hb dX12_layMasks_256 rfl (lv_at hl 4 rfl) ?_
  refine lv_iconst (v := 1) hx hb dX12_layMasks_257 (by decide +kernel) ?_
  refine va_put (D := D) (ci := 15) (v := .int 1) (C := RX12) (T := TX12) (N := 66) hx hb hts iw_X12_layMasks__X12 tyX12 tyX12_ok nmX12 hown hE.1 hP hD hS 0 rfl rfl 47 (by decide) (hts _ mw_X12_layMasks__12) (fun _ h9 => h9) rfl (tyX12_ok 47 (by decide)) rfl rfl (Nat.le_of_ble_eq_true rfl) dX12_layMasks_258 (fun H locs hP hD hS => ?_)
  have hP : va_P D vwCl [(h0, .inr (15, [.ref h8, .int 0, .int 0, .ref h9, .int 0, .int (-1), .int 0, .int 0, .int 0, .int 0, .int 0, .int 2, .int 0, .int 0, .int 0, .ref h10, .ref h11, .ref h12, .ref h13, .int 2, .int 0, .int 0, .int 0, .int 0, .ref h14, .ref h15, .ref h16, .ref h17, .int 2, .ref h1, .int 1, .ref h2, .ref h18, .int 1, .ref h19, .ref h20, .ref h21, .int 0, .ref h22, .ref h23, .ref h24, .ref h25, .ref h3, .ref h4, .ref h26, .ref h5, .ref h6, .int 1, .ref h7, .ref h27, .ref h28, .int (-1), .ref h29, .long 0, .long 0, .int (-1), .int (-1), .long 0, .long 1, .ref h30, .ref h31, .ref h32, .ref h33, .ref h34, .ref h35, .long 0])), (h1, .inl (Y 1, 100, .inl (jw_l 0 [0, 1, 0, 0, 1, 0, 0, 0, 1, 1]))), (h2, .inl (Y 1, 13824, .inl (jw_l 0 [0]))), (h3, .inl (Y 1, 6, .inl (jw_l 0 [0, 1]))), (h4, .inl (Y 1, 14425, .inl (jw_l 0 [0]))), (h5, .inl (Y 1, 13824, .inl (jw_l 0 [0]))), (h6, .inl (Y 1, 16, .inl (jw_l 0 [1, 2, 0, 0, 2, 1, 0, 0, 0, 0, 0, 0, 0, 0, 0, 0]))), (h7, .inl (Y 1, 5, .inl (jw_l 0 [1, 3])))] H := hP
  have hD : va_D A [(h0, .inr (15, [.ref h8, .int 0, .int 0, .ref h9, .int 0, .int (-1), .int 0, .int 0, .int 0, .int 0, .int 0, .int 2, .int 0, .int 0, .int 0, .ref h10, .ref h11, .ref h12, .ref h13, .int 2, .int 0, .int 0, .int 0, .int 0, .ref h14, .ref h15, .ref h16, .ref h17, .int 2, .ref h1, .int 1, .ref h2, .ref h18, .int 1, .ref h19, .ref h20, .ref h21, .int 0, .ref h22, .ref h23, .ref h24, .ref h25, .ref h3, .ref h4, .ref h26, .ref h5, .ref h6, .int 1, .ref h7, .ref h27, .ref h28, .int (-1), .ref h29, .long 0, .long 0, .int (-1), .int (-1), .long 0, .long 1, .ref h30, .ref h31, .ref h32, .ref h33, .ref h34, .ref h35, .long 0])), (h1, .inl (Y 1, 100, .inl (jw_l 0 [0, 1, 0, 0, 1, 0, 0, 0, 1, 1]))), (h2, .inl (Y 1, 13824, .inl (jw_l 0 [0]))), (h3, .inl (Y 1, 6, .inl (jw_l 0 [0, 1]))), (h4, .inl (Y 1, 14425, .inl (jw_l 0 [0]))), (h5, .inl (Y 1, 13824, .inl (jw_l 0 [0]))), (h6, .inl (Y 1, 16, .inl (jw_l 0 [1, 2, 0, 0, 2, 1, 0, 0, 0, 0, 0, 0, 0, 0, 0, 0]))), (h7, .inl (Y 1, 5, .inl (jw_l 0 [1, 3])))] := hD
  refine lv_iconst (v := 0) hx hb dX12_layMasks_261 (by decide +kernel) ?_
  refine lv_istore_n (lv' := [(2, .int 0), (3, .int 2), (4, .int 0), (1, .int 2), (0, .ref h0)]) hx hb dX12_layMasks_262 rfl hl (by decide) rfl (fun ls hl => ?_)
  refine lv_iload_n hx hb dX12_layMasks_263 rfl (lv_at hl 0 rfl) ?_
  refine lv_aload_n hx hb dX12_layMasks_264 rfl (lv_at hl 4 rfl) ?_
  refine va_get (D := D) (ci := 15) (v := .int 2) (C := RX12) (T := TX12) (N := 66) hx hb hts iw_X12_layMasks__X12 hown hE.1 hP 0 rfl rfl 11 (by decide) (hts _ mw_X12_layMasks__10) (fun _ h9 => h9) rfl dX12_layMasks_265 ?_
  refine lv_icmp_ge (tgt := 302) hx hb dX12_layMasks_268 (by decide) (fun c9 => absurd c9 (by decide +kernel)) (fun _ => ?_)
  refine lv_aload_n hx hb dX12_layMasks_271 rfl (lv_at hl 4 rfl) ?_
  refine va_get (D := D) (ci := 15) (v := .ref h7) (C := RX12) (T := TX12) (N := 66) hx hb hts iw_X12_layMasks__X12 hown hE.1 hP 0 rfl rfl 48 (by decide) (hts _ mw_X12_layMasks__13) (fun _ h9 => h9) rfl dX12_layMasks_272 ?_
  refine lv_iload_n hx hb dX12_layMasks_275 rfl (lv_at hl 0 rfl) ?_
  refine lv_aload_n hx hb dX12_layMasks_276 rfl (lv_at hl 4 rfl) ?_
  refine va_get (D := D) (ci := 15) (v := .int 1) (C := RX12) (T := TX12) (N := 66) hx hb hts iw_X12_layMasks__X12 hown hE.1 hP 0 rfl rfl 47 (by decide) (hts _ mw_X12_layMasks__12) (fun _ h9 => h9) rfl dX12_layMasks_277 ?_
  refine jw_iast (ws' := [(h0, .inr (15, [.ref h8, .int 0, .int 0, .ref h9, .int 0, .int (-1), .int 0, .int 0, .int 0, .int 0, .int 0, .int 2, .int 0, .int 0, .int 0, .ref h10, .ref h11, .ref h12, .ref h13, .int 2, .int 0, .int 0, .int 0, .int 0, .ref h14, .ref h15, .ref h16, .ref h17, .int 2, .ref h1, .int 1, .ref h2, .ref h18, .int 1, .ref h19, .ref h20, .ref h21, .int 0, .ref h22, .ref h23, .ref h24, .ref h25, .ref h3, .ref h4, .ref h26, .ref h5, .ref h6, .int 1, .ref h7, .ref h27, .ref h28, .int (-1), .ref h29, .long 0, .long 0, .int (-1), .int (-1), .long 0, .long 1, .ref h30, .ref h31, .ref h32, .ref h33, .ref h34, .ref h35, .long 0])), (h1, .inl (Y 1, 100, .inl (jw_l 0 [0, 1, 0, 0, 1, 0, 0, 0, 1, 1]))), (h2, .inl (Y 1, 13824, .inl (jw_l 0 [0]))), (h3, .inl (Y 1, 6, .inl (jw_l 0 [0, 1]))), (h4, .inl (Y 1, 14425, .inl (jw_l 0 [0]))), (h5, .inl (Y 1, 13824, .inl (jw_l 0 [0]))), (h6, .inl (Y 1, 16, .inl (jw_l 0 [1, 2, 0, 0, 2, 1, 0, 0, 0, 0, 0, 0, 0, 0, 0, 0]))), (h7, .inl (Y 1, 5, .inl (jw_l 0 [1, 3])))]) hx hb hE hP hD hS 7 0 [1, 3] rfl (by decide +kernel) (by decide +kernel) rfl dX12_layMasks_280 (fun H locs hP hD hS => ?_)
  refine lv_aload_n hx hb dX12_layMasks_281 rfl (lv_at hl 4 rfl) ?_
  refine lv_dup hx hb dX12_layMasks_282 rfl ?_
  refine va_get (D := D) (ci := 15) (v := .int 1) (C := RX12) (T := TX12) (N := 66) hx hb hts iw_X12_layMasks__X12 hown hE.1 hP 0 rfl rfl 47 (by decide) (hts _ mw_X12_layMasks__12) (fun _ h9 => h9) rfl dX12_layMasks_283 ?_
  refine lv_aload_n hx hb dX12_layMasks_286 rfl (lv_at hl 4 rfl) ?_
  refine va_get (D := D) (ci := 15) (v := .int 2) (C := RX12) (T := TX12) (N := 66) hx hb hts iw_X12_layMasks__X12 hown hE.1 hP 0 rfl rfl 11 (by decide) (hts _ mw_X12_layMasks__10) (fun _ h9 => h9) rfl dX12_layMasks_287 ?_
  refine lv_iconst (v := 1) hx hb dX12_layMasks_290 (by decide +kernel) ?_
  refine jw_iadd (v := 3) hx hb dX12_layMasks_291 (by decide +kernel) ?_
  refine jw_imul (v := 3) hx hb dX12_layMasks_292 (by decide +kernel) ?_
  refine va_put (D := D) (ci := 15) (v := .int 3) (C := RX12) (T := TX12) (N := 66) hx hb hts iw_X12_layMasks__X12 tyX12 tyX12_ok nmX12 hown hE.1 hP hD hS 0 rfl rfl 47 (by decide) (hts _ mw_X12_layMasks__12) (fun _ h9 => h9) rfl (tyX12_ok 47 (by decide)) rfl rfl (Nat.le_of_ble_eq_true rfl) dX12_layMasks_293 (fun H locs hP hD hS => ?_)
  have hP : va_P D vwCl [(h0, .inr (15, [.ref h8, .int 0, .int 0, .ref h9, .int 0, .int (-1), .int 0, .int 0, .int 0, .int 0, .int 0, .int 2, .int 0, .int 0, .int 0, .ref h10, .ref h11, .ref h12, .ref h13, .int 2, .int 0, .int 0, .int 0, .int 0, .ref h14, .ref h15, .ref h16, .ref h17, .int 2, .ref h1, .int 1, .ref h2, .ref h18, .int 1, .ref h19, .ref h20, .ref h21, .int 0, .ref h22, .ref h23, .ref h24, .ref h25, .ref h3, .ref h4, .ref h26, .ref h5, .ref h6, .int 3, .ref h7, .ref h27, .ref h28, .int (-1), .ref h29, .long 0, .long 0, .int (-1), .int (-1), .long 0, .long 1, .ref h30, .ref h31, .ref h32, .ref h33, .ref h34, .ref h35, .long 0])), (h1, .inl (Y 1, 100, .inl (jw_l 0 [0, 1, 0, 0, 1, 0, 0, 0, 1, 1]))), (h2, .inl (Y 1, 13824, .inl (jw_l 0 [0]))), (h3, .inl (Y 1, 6, .inl (jw_l 0 [0, 1]))), (h4, .inl (Y 1, 14425, .inl (jw_l 0 [0]))), (h5, .inl (Y 1, 13824, .inl (jw_l 0 [0]))), (h6, .inl (Y 1, 16, .inl (jw_l 0 [1, 2, 0, 0, 2, 1, 0, 0, 0, 0, 0, 0, 0, 0, 0, 0]))), (h7, .inl (Y 1, 5, .inl (jw_l 0 [1, 3])))] H := hP
  have hD : va_D A [(h0, .inr (15, [.ref h8, .int 0, .int 0, .ref h9, .int 0, .int (-1), .int 0, .int 0, .int 0, .int 0, .int 0, .int 2, .int 0, .int 0, .int 0, .ref h10, .ref h11, .ref h12, .ref h13, .int 2, .int 0, .int 0, .int 0, .int 0, .ref h14, .ref h15, .ref h16, .ref h17, .int 2, .ref h1, .int 1, .ref h2, .ref h18, .int 1, .ref h19, .ref h20, .ref h21, .int 0, .ref h22, .ref h23, .ref h24, .ref h25, .ref h3, .ref h4, .ref h26, .ref h5, .ref h6, .int 3, .ref h7, .ref h27, .ref h28, .int (-1), .ref h29, .long 0, .long 0, .int (-1), .int (-1), .long 0, .long 1, .ref h30, .ref h31, .ref h32, .ref h33, .ref h34, .ref h35, .long 0])), (h1, .inl (Y 1, 100, .inl (jw_l 0 [0, 1, 0, 0, 1, 0, 0, 0, 1, 1]))), (h2, .inl (Y 1, 13824, .inl (jw_l 0 [0]))), (h3, .inl (Y 1, 6, .inl (jw_l 0 [0, 1]))), (h4, .inl (Y 1, 14425, .inl (jw_l 0 [0]))), (h5, .inl (Y 1, 13824, .inl (jw_l 0 [0]))), (h6, .inl (Y 1, 16, .inl (jw_l 0 [1, 2, 0, 0, 2, 1, 0, 0, 0, 0, 0, 0, 0, 0, 0, 0]))), (h7, .inl (Y 1, 5, .inl (jw_l 0 [1, 3])))] := hD
  refine lv_iinc (v := 1) (lv' := [(2, .int 1), (3, .int 2), (4, .int 0), (1, .int 2), (0, .ref h0)]) hx hb dX12_layMasks_296 hl (k := 0) rfl (by decide +kernel) (by decide) rfl (fun ls hl => ?_)
  refine lv_goto (tgt := 263) hx hb dX12_layMasks_299 (by decide) ?_
  refine lv_iload_n hx hb dX12_layMasks_263 rfl (lv_at hl 0 rfl) ?_
  refine lv_aload_n hx hb dX12_layMasks_264 rfl (lv_at hl 4 rfl) ?_
  refine va_get (D := D) (ci := 15) (v := .int 2) (C := RX12) (T := TX12) (N := 66) hx hb hts iw_X12_layMasks__X12 hown hE.1 hP 0 rfl rfl 11 (by decide) (hts _ mw_X12_layMasks__10) (fun _ h9 => h9) rfl dX12_layMasks_265 ?_
  refine lv_icmp_ge (tgt := 302) hx hb dX12_layMasks_268 (by decide) (fun c9 => absurd c9 (by decide +kernel)) (fun _ => ?_)
  refine lv_aload_n hx hb dX12_layMasks_271 rfl (lv_at hl 4 rfl) ?_
  refine va_get (D := D) (ci := 15) (v := .ref h7) (C := RX12) (T := TX12) (N := 66) hx hb hts iw_X12_layMasks__X12 hown hE.1 hP 0 rfl rfl 48 (by decide) (hts _ mw_X12_layMasks__13) (fun _ h9 => h9) rfl dX12_layMasks_272 ?_
  refine lv_iload_n hx hb dX12_layMasks_275 rfl (lv_at hl 0 rfl) ?_
  refine lv_aload_n hx hb dX12_layMasks_276 rfl (lv_at hl 4 rfl) ?_
  refine va_get (D := D) (ci := 15) (v := .int 3) (C := RX12) (T := TX12) (N := 66) hx hb hts iw_X12_layMasks__X12 hown hE.1 hP 0 rfl rfl 47 (by decide) (hts _ mw_X12_layMasks__12) (fun _ h9 => h9) rfl dX12_layMasks_277 ?_
  refine jw_iast (ws' := [(h0, .inr (15, [.ref h8, .int 0, .int 0, .ref h9, .int 0, .int (-1), .int 0, .int 0, .int 0, .int 0, .int 0, .int 2, .int 0, .int 0, .int 0, .ref h10, .ref h11, .ref h12, .ref h13, .int 2, .int 0, .int 0, .int 0, .int 0, .ref h14, .ref h15, .ref h16, .ref h17, .int 2, .ref h1, .int 1, .ref h2, .ref h18, .int 1, .ref h19, .ref h20, .ref h21, .int 0, .ref h22, .ref h23, .ref h24, .ref h25, .ref h3, .ref h4, .ref h26, .ref h5, .ref h6, .int 3, .ref h7, .ref h27, .ref h28, .int (-1), .ref h29, .long 0, .long 0, .int (-1), .int (-1), .long 0, .long 1, .ref h30, .ref h31, .ref h32, .ref h33, .ref h34, .ref h35, .long 0])), (h1, .inl (Y 1, 100, .inl (jw_l 0 [0, 1, 0, 0, 1, 0, 0, 0, 1, 1]))), (h2, .inl (Y 1, 13824, .inl (jw_l 0 [0]))), (h3, .inl (Y 1, 6, .inl (jw_l 0 [0, 1]))), (h4, .inl (Y 1, 14425, .inl (jw_l 0 [0]))), (h5, .inl (Y 1, 13824, .inl (jw_l 0 [0]))), (h6, .inl (Y 1, 16, .inl (jw_l 0 [1, 2, 0, 0, 2, 1, 0, 0, 0, 0, 0, 0, 0, 0, 0, 0]))), (h7, .inl (Y 1, 5, .inl (jw_l 0 [1, 3])))]) hx hb hE hP hD hS 7 1 [1, 3] rfl (by decide +kernel) (by decide +kernel) rfl dX12_layMasks_280 (fun H locs hP hD hS => ?_)
  refine lv_aload_n hx hb dX12_layMasks_281 rfl (lv_at hl 4 rfl) ?_
  refine lv_dup hx hb dX12_layMasks_282 rfl ?_
  refine va_get (D := D) (ci := 15) (v := .int 3) (C := RX12) (T := TX12) (N := 66) hx hb hts iw_X12_layMasks__X12 hown hE.1 hP 0 rfl rfl 47 (by decide) (hts _ mw_X12_layMasks__12) (fun _ h9 => h9) rfl dX12_layMasks_283 ?_
  refine lv_aload_n hx hb dX12_layMasks_286 rfl (lv_at hl 4 rfl) ?_
  refine va_get (D := D) (ci := 15) (v := .int 2) (C := RX12) (T := TX12) (N := 66) hx hb hts iw_X12_layMasks__X12 hown hE.1 hP 0 rfl rfl 11 (by decide) (hts _ mw_X12_layMasks__10) (fun _ h9 => h9) rfl dX12_layMasks_287 ?_
  refine lv_iconst (v := 1) hx hb dX12_layMasks_290 (by decide +kernel) ?_
  refine jw_iadd (v := 3) hx hb dX12_layMasks_291 (by decide +kernel) ?_
  refine jw_imul (v := 9) hx hb dX12_layMasks_292 (by decide +kernel) ?_
  refine va_put (D := D) (ci := 15) (v := .int 9) (C := RX12) (T := TX12) (N := 66) hx hb hts iw_X12_layMasks__X12 tyX12 tyX12_ok nmX12 hown hE.1 hP hD hS 0 rfl rfl 47 (by decide) (hts _ mw_X12_layMasks__12) (fun _ h9 => h9) rfl (tyX12_ok 47 (by decide)) rfl rfl (Nat.le_of_ble_eq_true rfl) dX12_layMasks_293 (fun H locs hP hD hS => ?_)
  have hP : va_P D vwCl [(h0, .inr (15, [.ref h8, .int 0, .int 0, .ref h9, .int 0, .int (-1), .int 0, .int 0, .int 0, .int 0, .int 0, .int 2, .int 0, .int 0, .int 0, .ref h10, .ref h11, .ref h12, .ref h13, .int 2, .int 0, .int 0, .int 0, .int 0, .ref h14, .ref h15, .ref h16, .ref h17, .int 2, .ref h1, .int 1, .ref h2, .ref h18, .int 1, .ref h19, .ref h20, .ref h21, .int 0, .ref h22, .ref h23, .ref h24, .ref h25, .ref h3, .ref h4, .ref h26, .ref h5, .ref h6, .int 9, .ref h7, .ref h27, .ref h28, .int (-1), .ref h29, .long 0, .long 0, .int (-1), .int (-1), .long 0, .long 1, .ref h30, .ref h31, .ref h32, .ref h33, .ref h34, .ref h35, .long 0])), (h1, .inl (Y 1, 100, .inl (jw_l 0 [0, 1, 0, 0, 1, 0, 0, 0, 1, 1]))), (h2, .inl (Y 1, 13824, .inl (jw_l 0 [0]))), (h3, .inl (Y 1, 6, .inl (jw_l 0 [0, 1]))), (h4, .inl (Y 1, 14425, .inl (jw_l 0 [0]))), (h5, .inl (Y 1, 13824, .inl (jw_l 0 [0]))), (h6, .inl (Y 1, 16, .inl (jw_l 0 [1, 2, 0, 0, 2, 1, 0, 0, 0, 0, 0, 0, 0, 0, 0, 0]))), (h7, .inl (Y 1, 5, .inl (jw_l 0 [1, 3])))] H := hP
  have hD : va_D A [(h0, .inr (15, [.ref h8, .int 0, .int 0, .ref h9, .int 0, .int (-1), .int 0, .int 0, .int 0, .int 0, .int 0, .int 2, .int 0, .int 0, .int 0, .ref h10, .ref h11, .ref h12, .ref h13, .int 2, .int 0, .int 0, .int 0, .int 0, .ref h14, .ref h15, .ref h16, .ref h17, .int 2, .ref h1, .int 1, .ref h2, .ref h18, .int 1, .ref h19, .ref h20, .ref h21, .int 0, .ref h22, .ref h23, .ref h24, .ref h25, .ref h3, .ref h4, .ref h26, .ref h5, .ref h6, .int 9, .ref h7, .ref h27, .ref h28, .int (-1), .ref h29, .long 0, .long 0, .int (-1), .int (-1), .long 0, .long 1, .ref h30, .ref h31, .ref h32, .ref h33, .ref h34, .ref h35, .long 0])), (h1, .inl (Y 1, 100, .inl (jw_l 0 [0, 1, 0, 0, 1, 0, 0, 0, 1, 1]))), (h2, .inl (Y 1, 13824, .inl (jw_l 0 [0]))), (h3, .inl (Y 1, 6, .inl (jw_l 0 [0, 1]))), (h4, .inl (Y 1, 14425, .inl (jw_l 0 [0]))), (h5, .inl (Y 1, 13824, .inl (jw_l 0 [0]))), (h6, .inl (Y 1, 16, .inl (jw_l 0 [1, 2, 0, 0, 2, 1, 0, 0, 0, 0, 0, 0, 0, 0, 0, 0]))), (h7, .inl (Y 1, 5, .inl (jw_l 0 [1, 3])))] := hD
  refine lv_iinc (v := 2) (lv' := [(2, .int 2), (3, .int 2), (4, .int 0), (1, .int 2), (0, .ref h0)]) hx hb dX12_layMasks_296 hl (k := 0) rfl (by decide +kernel) (by decide) rfl (fun ls hl => ?_)
  refine lv_goto (tgt := 263) hx hb dX12_layMasks_299 (by decide) ?_
  refine lv_iload_n hx hb dX12_layMasks_263 rfl (lv_at hl 0 rfl) ?_
  refine lv_aload_n hx hb dX12_layMasks_264 rfl (lv_at hl 4 rfl) ?_
  refine va_get (D := D) (ci := 15) (v := .int 2) (C := RX12) (T := TX12) (N := 66) hx hb hts iw_X12_layMasks__X12 hown hE.1 hP 0 rfl rfl 11 (by decide) (hts _ mw_X12_layMasks__10) (fun _ h9 => h9) rfl dX12_layMasks_265 ?_
  refine lv_icmp_ge (tgt := 302) hx hb dX12_layMasks_268 (by decide) (fun _ => ?_) (fun c9 => absurd (by decide +kernel) c9)
  refine W.widen (k := 0) (n := 0) (Nat.le_of_ble_eq_true rfl) (Nat.le_of_ble_eq_true rfl) ?_
  exact jw_vret hx hb hr hlocks rfl hP hD hS dX12_layMasks_302
set_option maxHeartbeats 4000000 in
set_option maxRecDepth 100000 in
theorem k379_X12_layWeights {l : Launch} {D : va_G} {Y : Nat → ClassId} {tt : Nat → Nat} (h0 h1 h2 h3 h4 h5 h6 h7 h8 h9 h10 h11 h12 h13 h14 h15 h16 h17 h18 h19 h20 h21 h22 h23 h24 h25 h26 h27 h28 h29 h30 h31 h32 h33 h34 h35 : Nat) (sz : Nat) : Met l yX12_layWeights wsX12_layWeights ({ frames := 1, cells := 0, slots := 0, locals := 25 }) (jw_Pc D Y tt [.ref h0, .int 0, .int 0] [(h0, .inr (15, [.ref h10, .int 0, .int 0, .ref h11, .int 0, .int (-1), .int 0, .int 0, .int 0, .int 0, .int 0, .int 2, .int 0, .int 0, .int 0, .ref h12, .ref h13, .ref h14, .ref h15, .int 2, .int 0, .int 0, .int 0, .int 0, .ref h16, .ref h17, .ref h18, .ref h19, .int 2, .ref h1, .int 1, .ref h2, .ref h20, .int 1, .ref h21, .ref h22, .ref h23, .int 0, .ref h24, .ref h25, .ref h26, .ref h27, .ref h3, .ref h4, .ref h5, .ref h6, .ref h7, .int 9, .ref h8, .ref h28, .ref h9, .int (-1), .ref h29, .long 0, .long 0, .int (-1), .int (-1), .long 0, .long 1, .ref h30, .ref h31, .ref h32, .ref h33, .ref h34, .ref h35, .long 0])), (h1, .inl (Y 1, 100, .inl (jw_l 0 [0, 1, 0, 0, 1, 0, 0, 0, 1, 1]))), (h2, .inl (Y 1, 13824, .inl (jw_l 0 [0]))), (h3, .inl (Y 1, 6, .inl (jw_l 0 [0, 1]))), (h4, .inl (Y 1, 14425, .inl (jw_l 0 [0]))), (h5, .inl (Y 2, 14425, .inr (.inl (jw_L 0 [1])))), (h6, .inl (Y 1, 13824, .inl (jw_l 0 [0]))), (h7, .inl (Y 1, 16, .inl (jw_l 0 [1, 2, 0, 0, 2, 1, 0, 0, 0, 0, 0, 0, 0, 0, 0, 0]))), (h8, .inl (Y 1, 5, .inl (jw_l 0 [1, 3]))), (h9, .inl (Y 2, 13824, .inr (.inl (jw_L 0 [1]))))] sz) (jw_Qv D (fun w => w = [(h0, .inr (15, [.ref h10, .int 0, .int 0, .ref h11, .int 0, .int (-1), .int 0, .int 0, .int 0, .int 0, .int 0, .int 2, .int 0, .int 0, .int 0, .ref h12, .ref h13, .ref h14, .ref h15, .int 2, .int 0, .int 0, .int 0, .int 0, .ref h16, .ref h17, .ref h18, .ref h19, .int 2, .ref h1, .int 1, .ref h2, .ref h20, .int 1, .ref h21, .ref h22, .ref h23, .int 0, .ref h24, .ref h25, .ref h26, .ref h27, .ref h3, .ref h4, .ref h5, .ref h6, .ref h7, .int 9, .ref h8, .ref h28, .ref h9, .int (-1), .ref h29, .long 0, .long 0, .int (-1), .int (-1), .long 0, .long 1, .ref h30, .ref h31, .ref h32, .ref h33, .ref h34, .ref h35, .long 0])), (h1, .inl (Y 1, 100, .inl (jw_l 0 [0, 1, 0, 0, 1, 0, 0, 0, 1, 1]))), (h2, .inl (Y 1, 13824, .inl (jw_l 0 [0]))), (h3, .inl (Y 1, 6, .inl (jw_l 0 [0, 1]))), (h4, .inl (Y 1, 14425, .inl (jw_l 0 [0]))), (h5, .inl (Y 2, 14425, .inr (.inl (jw_L 0 [1])))), (h6, .inl (Y 1, 13824, .inl (jw_l 0 [0]))), (h7, .inl (Y 1, 16, .inl (jw_l 0 [1, 2, 0, 0, 2, 1, 0, 0, 0, 0, 0, 0, 0, 0, 0, 0]))), (h8, .inl (Y 1, 5, .inl (jw_l 0 [1, 3]))), (h9, .inl (Y 2, 13824, .inr (.inl (jw_L 0 [1]))))]) (va_A [(h0, .inr (15, [.ref h10, .int 0, .int 0, .ref h11, .int 0, .int (-1), .int 0, .int 0, .int 0, .int 0, .int 0, .int 2, .int 0, .int 0, .int 0, .ref h12, .ref h13, .ref h14, .ref h15, .int 2, .int 0, .int 0, .int 0, .int 0, .ref h16, .ref h17, .ref h18, .ref h19, .int 2, .ref h1, .int 1, .ref h2, .ref h20, .int 1, .ref h21, .ref h22, .ref h23, .int 0, .ref h24, .ref h25, .ref h26, .ref h27, .ref h3, .ref h4, .ref h5, .ref h6, .ref h7, .int 9, .ref h8, .ref h28, .ref h9, .int (-1), .ref h29, .long 0, .long 0, .int (-1), .int (-1), .long 0, .long 1, .ref h30, .ref h31, .ref h32, .ref h33, .ref h34, .ref h35, .long 0])), (h1, .inl (Y 1, 100, .inl (jw_l 0 [0, 1, 0, 0, 1, 0, 0, 0, 1, 1]))), (h2, .inl (Y 1, 13824, .inl (jw_l 0 [0]))), (h3, .inl (Y 1, 6, .inl (jw_l 0 [0, 1]))), (h4, .inl (Y 1, 14425, .inl (jw_l 0 [0]))), (h5, .inl (Y 2, 14425, .inr (.inl (jw_L 0 [1])))), (h6, .inl (Y 1, 13824, .inl (jw_l 0 [0]))), (h7, .inl (Y 1, 16, .inl (jw_l 0 [1, 2, 0, 0, 2, 1, 0, 0, 0, 0, 0, 0, 0, 0, 0, 0]))), (h8, .inl (Y 1, 5, .inl (jw_l 0 [1, 3]))), (h9, .inl (Y 2, 13824, .inr (.inl (jw_L 0 [1]))))] sz)) 0 0 (va_A [(h0, .inr (15, [.ref h10, .int 0, .int 0, .ref h11, .int 0, .int (-1), .int 0, .int 0, .int 0, .int 0, .int 0, .int 2, .int 0, .int 0, .int 0, .ref h12, .ref h13, .ref h14, .ref h15, .int 2, .int 0, .int 0, .int 0, .int 0, .ref h16, .ref h17, .ref h18, .ref h19, .int 2, .ref h1, .int 1, .ref h2, .ref h20, .int 1, .ref h21, .ref h22, .ref h23, .int 0, .ref h24, .ref h25, .ref h26, .ref h27, .ref h3, .ref h4, .ref h5, .ref h6, .ref h7, .int 9, .ref h8, .ref h28, .ref h9, .int (-1), .ref h29, .long 0, .long 0, .int (-1), .int (-1), .long 0, .long 1, .ref h30, .ref h31, .ref h32, .ref h33, .ref h34, .ref h35, .long 0])), (h1, .inl (Y 1, 100, .inl (jw_l 0 [0, 1, 0, 0, 1, 0, 0, 0, 1, 1]))), (h2, .inl (Y 1, 13824, .inl (jw_l 0 [0]))), (h3, .inl (Y 1, 6, .inl (jw_l 0 [0, 1]))), (h4, .inl (Y 1, 14425, .inl (jw_l 0 [0]))), (h5, .inl (Y 2, 14425, .inr (.inl (jw_L 0 [1])))), (h6, .inl (Y 1, 13824, .inl (jw_l 0 [0]))), (h7, .inl (Y 1, 16, .inl (jw_l 0 [1, 2, 0, 0, 2, 1, 0, 0, 0, 0, 0, 0, 0, 0, 0, 0]))), (h8, .inl (Y 1, 5, .inl (jw_l 0 [1, 3]))), (h9, .inl (Y 2, 13824, .inr (.inl (jw_L 0 [1]))))] sz) := by
  refine jw_met (fun A => jw_Qv D (fun w => w = [(h0, .inr (15, [.ref h10, .int 0, .int 0, .ref h11, .int 0, .int (-1), .int 0, .int 0, .int 0, .int 0, .int 0, .int 2, .int 0, .int 0, .int 0, .ref h12, .ref h13, .ref h14, .ref h15, .int 2, .int 0, .int 0, .int 0, .int 0, .ref h16, .ref h17, .ref h18, .ref h19, .int 2, .ref h1, .int 1, .ref h2, .ref h20, .int 1, .ref h21, .ref h22, .ref h23, .int 0, .ref h24, .ref h25, .ref h26, .ref h27, .ref h3, .ref h4, .ref h5, .ref h6, .ref h7, .int 9, .ref h8, .ref h28, .ref h9, .int (-1), .ref h29, .long 0, .long 0, .int (-1), .int (-1), .long 0, .long 1, .ref h30, .ref h31, .ref h32, .ref h33, .ref h34, .ref h35, .long 0])), (h1, .inl (Y 1, 100, .inl (jw_l 0 [0, 1, 0, 0, 1, 0, 0, 0, 1, 1]))), (h2, .inl (Y 1, 13824, .inl (jw_l 0 [0]))), (h3, .inl (Y 1, 6, .inl (jw_l 0 [0, 1]))), (h4, .inl (Y 1, 14425, .inl (jw_l 0 [0]))), (h5, .inl (Y 2, 14425, .inr (.inl (jw_L 0 [1])))), (h6, .inl (Y 1, 13824, .inl (jw_l 0 [0]))), (h7, .inl (Y 1, 16, .inl (jw_l 0 [1, 2, 0, 0, 2, 1, 0, 0, 0, 0, 0, 0, 0, 0, 0, 0]))), (h8, .inl (Y 1, 5, .inl (jw_l 0 [1, 3]))), (h9, .inl (Y 2, 13824, .inr (.inl (jw_L 0 [1]))))]) A) (cc := cX12_layWeights) (maxL := 10) (ret := none) pn_X12_layWeights rfl rfl ?_
  intro p e s m below meth c A H locs ls hx hb hml hr hts hown hlocks hin hP hD hA hS hE hl
  have hown : s.vm.findClass RX12 = some m.cls := hown
  have hl : lv_has ls 10 [(0, .ref h0), (1, .int 0), (2, .int 0)] := hl
  refine lv_aload_n hx hb dX12_layWeights_0 rfl (lv_at hl 0 rfl) ?_
  refine lv_iconst (v := (-1)) hx hb dX12_layWeights_1 (by decide +kernel) ?_
  refine va_put (D := D) (ci := 15) (v := .int (-1)) (C := RX12) (T := TX12) (N := 66) hx hb hts iw_X12_layWeights__X12 tyX12 tyX12_ok nmX12 hown hE.1 hP hD hS 0 rfl rfl 51 (by decide) (hts _ mw_X12_layWeights__1) (fun _ h9 => h9) rfl (tyX12_ok 51 (by decide)) rfl rfl (Nat.le_of_ble_eq_true rfl) dX12_layWeights_2 (fun H locs hP hD hS => ?_)
  have hP : va_P D vwCl [(h0, .inr (15, [.ref h10, .int 0, .int 0, .ref h11, .int 0, .int (-1), .int 0, .int 0, .int 0, .int 0, .int 0, .int 2, .int 0, .int 0, .int 0, .ref h12, .ref h13, .ref h14, .ref h15, .int 2, .int 0, .int 0, .int 0, .int 0, .ref h16, .ref h17, .ref h18, .ref h19, .int 2, .ref h1, .int 1, .ref h2, .ref h20, .int 1, .ref h21, .ref h22, .ref h23, .int 0, .ref h24, .ref h25, .ref h26, .ref h27, .ref h3, .ref h4, .ref h5, .ref h6, .ref h7, .int 9, .ref h8, .ref h28, .ref h9, .int (-1), .ref h29, .long 0, .long 0, .int (-1), .int (-1), .long 0, .long 1, .ref h30, .ref h31, .ref h32, .ref h33, .ref h34, .ref h35, .long 0])), (h1, .inl (Y 1, 100, .inl (jw_l 0 [0, 1, 0, 0, 1, 0, 0, 0, 1, 1]))), (h2, .inl (Y 1, 13824, .inl (jw_l 0 [0]))), (h3, .inl (Y 1, 6, .inl (jw_l 0 [0, 1]))), (h4, .inl (Y 1, 14425, .inl (jw_l 0 [0]))), (h5, .inl (Y 2, 14425, .inr (.inl (jw_L 0 [1])))), (h6, .inl (Y 1, 13824, .inl (jw_l 0 [0]))), (h7, .inl (Y 1, 16, .inl (jw_l 0 [1, 2, 0, 0, 2, 1, 0, 0, 0, 0, 0, 0, 0, 0, 0, 0]))), (h8, .inl (Y 1, 5, .inl (jw_l 0 [1, 3]))), (h9, .inl (Y 2, 13824, .inr (.inl (jw_L 0 [1]))))] H := hP
  have hD : va_D A [(h0, .inr (15, [.ref h10, .int 0, .int 0, .ref h11, .int 0, .int (-1), .int 0, .int 0, .int 0, .int 0, .int 0, .int 2, .int 0, .int 0, .int 0, .ref h12, .ref h13, .ref h14, .ref h15, .int 2, .int 0, .int 0, .int 0, .int 0, .ref h16, .ref h17, .ref h18, .ref h19, .int 2, .ref h1, .int 1, .ref h2, .ref h20, .int 1, .ref h21, .ref h22, .ref h23, .int 0, .ref h24, .ref h25, .ref h26, .ref h27, .ref h3, .ref h4, .ref h5, .ref h6, .ref h7, .int 9, .ref h8, .ref h28, .ref h9, .int (-1), .ref h29, .long 0, .long 0, .int (-1), .int (-1), .long 0, .long 1, .ref h30, .ref h31, .ref h32, .ref h33, .ref h34, .ref h35, .long 0])), (h1, .inl (Y 1, 100, .inl (jw_l 0 [0, 1, 0, 0, 1, 0, 0, 0, 1, 1]))), (h2, .inl (Y 1, 13824, .inl (jw_l 0 [0]))), (h3, .inl (Y 1, 6, .inl (jw_l 0 [0, 1]))), (h4, .inl (Y 1, 14425, .inl (jw_l 0 [0]))), (h5, .inl (Y 2, 14425, .inr (.inl (jw_L 0 [1])))), (h6, .inl (Y 1, 13824, .inl (jw_l 0 [0]))), (h7, .inl (Y 1, 16, .inl (jw_l 0 [1, 2, 0, 0, 2, 1, 0, 0, 0, 0, 0, 0, 0, 0, 0, 0]))), (h8, .inl (Y 1, 5, .inl (jw_l 0 [1, 3]))), (h9, .inl (Y 2, 13824, .inr (.inl (jw_L 0 [1]))))] := hD
  refine lv_aload_n hx hb dX12_layWeights_5 rfl (lv_at hl 0 rfl) ?_
  refine jw_mv (wc := [(h0, .inr (15, [.ref h10, .int 0, .int 0, .ref h11, .int 0, .int (-1), .int 0, .int 0, .int 0, .int 0, .int 0, .int 2, .int 0, .int 0, .int 0, .ref h12, .ref h13, .ref h14, .ref h15, .int 2, .int 0, .int 0, .int 0, .int 0, .ref h16, .ref h17, .ref h18, .ref h19, .int 2, .ref h1, .int 1, .ref h2, .ref h20, .int 1, .ref h21, .ref h22, .ref h23, .int 0, .ref h24, .ref h25, .ref h26, .ref h27, .ref h3, .ref h4, .ref h5, .ref h6, .ref h7, .int 9, .ref h8, .ref h28, .ref h9, .int (-1), .ref h29, .long 0, .long 0, .int (-1), .int (-1), .long 0, .long 1, .ref h30, .ref h31, .ref h32, .ref h33, .ref h34, .ref h35, .long 0])), (h1, .inl (Y 1, 100, .inl (jw_l 0 [0, 1, 0, 0, 1, 0, 0, 0, 1, 1]))), (h2, .inl (Y 1, 13824, .inl (jw_l 0 [0]))), (h3, .inl (Y 1, 6, .inl (jw_l 0 [0, 1]))), (h4, .inl (Y 1, 14425, .inl (jw_l 0 [0]))), (h6, .inl (Y 1, 13824, .inl (jw_l 0 [0]))), (h7, .inl (Y 1, 16, .inl (jw_l 0 [1, 2, 0, 0, 2, 1, 0, 0, 0, 0, 0, 0, 0, 0, 0, 0]))), (h8, .inl (Y 1, 5, .inl (jw_l 0 [1, 3])))]) (cs := 0) (ss := 0) (va_runV (As := []) (rest := []) ⟨hx, hb, hml, hown, hts⟩ (k378_X12_layMasks h0 h1 h2 h3 h4 h6 h7 h8 h10 h11 h12 h13 h14 h15 h16 h17 h18 h19 h20 h21 h22 h23 h24 h25 h26 h27 h5 h28 h9 h29 h30 h31 h32 h33 h34 h35 H.size) (cwV 0 hts gX12_layWeights_X12_layMasks rfl rfl rfl ydV_X12_layMasks ⟨Nat.le_of_ble_eq_true rfl, Nat.le_of_ble_eq_true rfl⟩) (jw_mpreV (ci := 15) (q0 := 0) hP hD hS hA hE [true, true, true, true, true, false, true, true, true] rfl rfl rfl) rfl rfl hl.1 rfl (lv_room (Nat.le_of_ble_eq_true rfl)) dX12_layWeights_6 ⟨Nat.le_of_ble_eq_true rfl, Nat.le_of_ble_eq_true rfl⟩) hP hD hS hA [true, true, true, true, true, false, true, true, true] rfl rfl rfl (fun w1 H locs hw9 hP hD hS => ?_)
  subst hw9
  have hP : va_P D vwCl [(h0, .inr (15, [.ref h10, .int 0, .int 0, .ref h11, .int 0, .int (-1), .int 0, .int 0, .int 0, .int 0, .int 0, .int 2, .int 0, .int 0, .int 0, .ref h12, .ref h13, .ref h14, .ref h15, .int 2, .int 0, .int 0, .int 0, .int 0, .ref h16, .ref h17, .ref h18, .ref h19, .int 2, .ref h1, .int 1, .ref h2, .ref h20, .int 1, .ref h21, .ref h22, .ref h23, .int 0, .ref h24, .ref h25, .ref h26, .ref h27, .ref h3, .ref h4, .ref h5, .ref h6, .ref h7, .int 9, .ref h8, .ref h28, .ref h9, .int (-1), .ref h29, .long 0, .long 0, .int (-1), .int (-1), .long 0, .long 1, .ref h30, .ref h31, .ref h32, .ref h33, .ref h34, .ref h35, .long 0])), (h1, .inl (Y 1, 100, .inl (jw_l 0 [0, 1, 0, 0, 1, 0, 0, 0, 1, 1]))), (h2, .inl (Y 1, 13824, .inl (jw_l 0 [0]))), (h3, .inl (Y 1, 6, .inl (jw_l 0 [0, 1]))), (h4, .inl (Y 1, 14425, .inl (jw_l 0 [0]))), (h5, .inl (Y 2, 14425, .inr (.inl (jw_L 0 [1])))), (h6, .inl (Y 1, 13824, .inl (jw_l 0 [0]))), (h7, .inl (Y 1, 16, .inl (jw_l 0 [1, 2, 0, 0, 2, 1, 0, 0, 0, 0, 0, 0, 0, 0, 0, 0]))), (h8, .inl (Y 1, 5, .inl (jw_l 0 [1, 3]))), (h9, .inl (Y 2, 13824, .inr (.inl (jw_L 0 [1]))))] H := hP
  have hD : va_D A [(h0, .inr (15, [.ref h10, .int 0, .int 0, .ref h11, .int 0, .int (-1), .int 0, .int 0, .int 0, .int 0, .int 0, .int 2, .int 0, .int 0, .int 0, .ref h12, .ref h13, .ref h14, .ref h15, .int 2, .int 0, .int 0, .int 0, .int 0, .ref h16, .ref h17, .ref h18, .ref h19, .int 2, .ref h1, .int 1, .ref h2, .ref h20, .int 1, .ref h21, .ref h22, .ref h23, .int 0, .ref h24, .ref h25, .ref h26, .ref h27, .ref h3, .ref h4, .ref h5, .ref h6, .ref h7, .int 9, .ref h8, .ref h28, .ref h9, .int (-1), .ref h29, .long 0, .long 0, .int (-1), .int (-1), .long 0, .long 1, .ref h30, .ref h31, .ref h32, .ref h33, .ref h34, .ref h35, .long 0])), (h1, .inl (Y 1, 100, .inl (jw_l 0 [0, 1, 0, 0, 1, 0, 0, 0, 1, 1]))), (h2, .inl (Y 1, 13824, .inl (jw_l 0 [0]))), (h3, .inl (Y 1, 6, .inl (jw_l 0 [0, 1]))), (h4, .inl (Y 1, 14425, .inl (jw_l 0 [0]))), (h5, .inl (Y 2, 14425, .inr (.inl (jw_L 0 [1])))), (h6, .inl (Y 1, 13824, .inl (jw_l 0 [0]))), (h7, .inl (Y 1, 16, .inl (jw_l 0 [1, 2, 0, 0, 2, 1, 0, 0, 0, 0, 0, 0, 0, 0, 0, 0]))), (h8, .inl (Y 1, 5, .inl (jw_l 0 [1, 3]))), (h9, .inl (Y 2, 13824, .inr (.inl (jw_L 0 [1]))))] := hD
  refine lv_iload_n hx hb dX12_layWeights_9 rfl (lv_at hl 2 rfl) ?_
  refine lv_if_eq (tgt := 20) hx hb dX12_layWeights_10 (by decide) (fun _ => ?_) (fun c9 => absurd (by decide +kernel) c9)
  refine lv_iconst (v := 0) hx hb dX12_layWeights_20 (by decide +kernel) ?_
  refine lv_istore_n (lv' := [(3, .int 0), (0, .ref h0), (1, .int 0), (2, .int 0)]) hx hb dX12_layWeights_21 rfl hl (by decide) rfl (fun ls hl => ?_)
  refine lv_iconst (v := 0) hx hb dX12_layWeights_22 (by decide +kernel) ?_
  refine lv_istore (lv' := [(4, .int 0), (3, .int 0), (0, .ref h0), (1, .int 0), (2, .int 0)]) hx hb dX12_layWeights_23 hl (by decide) rfl (fun ls hl => ?_)
  refine lv_iload hx hb dX12_layWeights_25 (lv_at hl 0 rfl) ?_
  refine lv_aload_n hx hb dX12_layWeights_27 rfl (lv_at hl 2 rfl) ?_
  refine va_get (D := D) (ci := 15) (v := .int 1) (C := RX12) (T := TX12) (N := 66) hx hb hts iw_X12_layWeights__X12 hown hE.1 hP 0 rfl rfl 30 (by decide) (hts _ mw_X12_layWeights__3) (fun _ h9 => h9) rfl dX12_layWeights_28 ?_
  refine lv_icmp_ge (tgt := 77) hx hb dX12_layWeights_31 (by decide) (fun c9 => absurd c9 (by decide +kernel)) (fun _ => ?_)
  refine lv_aload_n hx hb dX12_layWeights_34 rfl (lv_at hl 2 rfl) ?_
  refine va_get (D := D) (ci := 15) (v := .ref h9) (C := RX12) (T := TX12) (N := 66) hx hb hts iw_X12_layWeights__X12 hown hE.1 hP 0 rfl rfl 50 (by decide) (hts _ mw_X12_layWeights__4) (fun _ h9 => h9) rfl dX12_layWeights_35 ?_
  refine lv_iload hx hb dX12_layWeights_38 (lv_at hl 0 rfl) ?_
  refine lv_iload_n hx hb dX12_layWeights_40 rfl (lv_at hl 3 rfl) ?_
  refine lv_iconst (v := 1) hx hb dX12_layWeights_41 (by decide +kernel) ?_
  refine lv_icmp_ne (tgt := 69) hx hb dX12_layWeights_42 (by decide) (fun _ => ?_) (fun c9 => absurd c9 (by decide +kernel))
  refine lv_lconst (v := 0) hx hb dX12_layWeights_69 (by decide +kernel) ?_
  refine jw_last (ws' := [(h0, .inr (15, [.ref h10, .int 0, .int 0, .ref h11, .int 0, .int (-1), .int 0, .int 0, .int 0, .int 0, .int 0, .int 2, .int 0, .int 0, .int 0, .ref h12, .ref h13, .ref h14, .ref h15, .int 2, .int 0, .int 0, .int 0, .int 0, .ref h16, .ref h17, .ref h18, .ref h19, .int 2, .ref h1, .int 1, .ref h2, .ref h20, .int 1, .ref h21, .ref h22, .ref h23, .int 0, .ref h24, .ref h25, .ref h26, .ref h27, .ref h3, .ref h4, .ref h5, .ref h6, .ref h7, .int 9, .ref h8, .ref h28, .ref h9, .int (-1), .ref h29, .long 0, .long 0, .int (-1), .int (-1), .long 0, .long 1, .ref h30, .ref h31, .ref h32, .ref h33, .ref h34, .ref h35, .long 0])), (h1, .inl (Y 1, 100, .inl (jw_l 0 [0, 1, 0, 0, 1, 0, 0, 0, 1, 1]))), (h2, .inl (Y 1, 13824, .inl (jw_l 0 [0]))), (h3, .inl (Y 1, 6, .inl (jw_l 0 [0, 1]))), (h4, .inl (Y 1, 14425, .inl (jw_l 0 [0]))), (h5, .inl (Y 2, 14425, .inr (.inl (jw_L 0 [1])))), (h6, .inl (Y 1, 13824, .inl (jw_l 0 [0]))), (h7, .inl (Y 1, 16, .inl (jw_l 0 [1, 2, 0, 0, 2, 1, 0, 0, 0, 0, 0, 0, 0, 0, 0, 0]))), (h8, .inl (Y 1, 5, .inl (jw_l 0 [1, 3]))), (h9, .inl (Y 2, 13824, .inr (.inl (jw_L 0 [0]))))]) hx hb hE hP hD hS 9 0 [0] rfl (by decide +kernel) (by decide +kernel) rfl dX12_layWeights_70 (fun H locs hP hD hS => ?_)
  refine lv_iinc (v := 1) (lv' := [(4, .int 1), (3, .int 0), (0, .ref h0), (1, .int 0), (2, .int 0)]) hx hb dX12_layWeights_71 hl (k := 0) rfl (by decide +kernel) (by decide) rfl (fun ls hl => ?_)
  refine lv_goto (tgt := 25) hx hb dX12_layWeights_74 (by decide) ?_
  refine lv_iload hx hb dX12_layWeights_25 (lv_at hl 0 rfl) ?_
  refine lv_aload_n hx hb dX12_layWeights_27 rfl (lv_at hl 2 rfl) ?_
  refine va_get (D := D) (ci := 15) (v := .int 1) (C := RX12) (T := TX12) (N := 66) hx hb hts iw_X12_layWeights__X12 hown hE.1 hP 0 rfl rfl 30 (by decide) (hts _ mw_X12_layWeights__3) (fun _ h9 => h9) rfl dX12_layWeights_28 ?_
  refine lv_icmp_ge (tgt := 77) hx hb dX12_layWeights_31 (by decide) (fun _ => ?_) (fun c9 => absurd (by decide +kernel) c9)
  refine lv_iload_n hx hb dX12_layWeights_77 rfl (lv_at hl 3 rfl) ?_
  refine lv_iconst (v := 1) hx hb dX12_layWeights_78 (by decide +kernel) ?_
  refine lv_icmp_eq (tgt := 89) hx hb dX12_layWeights_79 (by decide) (fun c9 => absurd c9 (by decide +kernel)) (fun _ => ?_)
  refine lv_aload_n hx hb dX12_layWeights_82 rfl (lv_at hl 2 rfl) ?_
  refine va_get (D := D) (ci := 15) (v := .int 1) (C := RX12) (T := TX12) (N := 66) hx hb hts iw_X12_layWeights__X12 hown hE.1 hP 0 rfl rfl 33 (by decide) (hts _ mw_X12_layWeights__6) (fun _ h9 => h9) rfl dX12_layWeights_83 ?_
  refine lv_if_ne (tgt := 90) hx hb dX12_layWeights_86 (by decide) (fun _ => ?_) (fun c9 => absurd c9 (by decide +kernel))
  refine lv_iconst (v := 0) hx hb dX12_layWeights_90 (by decide +kernel) ?_
  refine lv_istore (lv' := [(4, .int 0), (3, .int 0), (0, .ref h0), (1, .int 0), (2, .int 0)]) hx hb dX12_layWeights_91 hl (by decide) rfl (fun ls hl => ?_)
  refine lv_iload hx hb dX12_layWeights_93 (lv_at hl 0 rfl) ?_
  refine lv_aload_n hx hb dX12_layWeights_95 rfl (lv_at hl 2 rfl) ?_
  refine va_get (D := D) (ci := 15) (v := .ref h3) (C := RX12) (T := TX12) (N := 66) hx hb hts iw_X12_layWeights__X12 hown hE.1 hP 0 rfl rfl 42 (by decide) (hts _ mw_X12_layWeights__7) (fun _ h9 => h9) rfl dX12_layWeights_96 ?_
  refine lv_aload_n hx hb dX12_layWeights_99 rfl (lv_at hl 2 rfl) ?_
  refine va_get (D := D) (ci := 15) (v := .int 0) (C := RX12) (T := TX12) (N := 66) hx hb hts iw_X12_layWeights__X12 hown hE.1 hP 0 rfl rfl 12 (by decide) (hts _ mw_X12_layWeights__8) (fun _ h9 => h9) rfl dX12_layWeights_100 ?_
  refine lv_iconst (v := 1) hx hb dX12_layWeights_103 (by decide +kernel) ?_
  refine jw_iadd (v := 1) hx hb dX12_layWeights_104 (by decide +kernel) ?_
  refine jw_iald (v := 1) hx hb hE hP 3 1 rfl (by decide +kernel) (by decide +kernel) dX12_layWeights_105 ?_
  refine lv_icmp_ge (tgt := 123) hx hb dX12_layWeights_106 (by decide) (fun c9 => absurd c9 (by decide +kernel)) (fun _ => ?_)
  refine lv_aload_n hx hb dX12_layWeights_109 rfl (lv_at hl 2 rfl) ?_
  refine va_get (D := D) (ci := 15) (v := .ref h5) (C := RX12) (T := TX12) (N := 66) hx hb hts iw_X12_layWeights__X12 hown hE.1 hP 0 rfl rfl 44 (by decide) (hts _ mw_X12_layWeights__9) (fun _ h9 => h9) rfl dX12_layWeights_110 ?_
  refine lv_iload hx hb dX12_layWeights_113 (lv_at hl 0 rfl) ?_
  refine lv_lconst (v := 0) hx hb dX12_layWeights_115 (by decide +kernel) ?_
  refine jw_last (ws' := [(h0, .inr (15, [.ref h10, .int 0, .int 0, .ref h11, .int 0, .int (-1), .int 0, .int 0, .int 0, .int 0, .int 0, .int 2, .int 0, .int 0, .int 0, .ref h12, .ref h13, .ref h14, .ref h15, .int 2, .int 0, .int 0, .int 0, .int 0, .ref h16, .ref h17, .ref h18, .ref h19, .int 2, .ref h1, .int 1, .ref h2, .ref h20, .int 1, .ref h21, .ref h22, .ref h23, .int 0, .ref h24, .ref h25, .ref h26, .ref h27, .ref h3, .ref h4, .ref h5, .ref h6, .ref h7, .int 9, .ref h8, .ref h28, .ref h9, .int (-1), .ref h29, .long 0, .long 0, .int (-1), .int (-1), .long 0, .long 1, .ref h30, .ref h31, .ref h32, .ref h33, .ref h34, .ref h35, .long 0])), (h1, .inl (Y 1, 100, .inl (jw_l 0 [0, 1, 0, 0, 1, 0, 0, 0, 1, 1]))), (h2, .inl (Y 1, 13824, .inl (jw_l 0 [0]))), (h3, .inl (Y 1, 6, .inl (jw_l 0 [0, 1]))), (h4, .inl (Y 1, 14425, .inl (jw_l 0 [0]))), (h5, .inl (Y 2, 14425, .inr (.inl (jw_L 0 [0])))), (h6, .inl (Y 1, 13824, .inl (jw_l 0 [0]))), (h7, .inl (Y 1, 16, .inl (jw_l 0 [1, 2, 0, 0, 2, 1, 0, 0, 0, 0, 0, 0, 0, 0, 0, 0]))), (h8, .inl (Y 1, 5, .inl (jw_l 0 [1, 3]))), (h9, .inl (Y 2, 13824, .inr (.inl (jw_L 0 [0]))))]) hx hb hE hP hD hS 5 0 [0] rfl (by decide +kernel) (by decide +kernel) rfl dX12_layWeights_116 (fun H locs hP hD hS => ?_)
  refine lv_iinc (v := 1) (lv' := [(4, .int 1), (3, .int 0), (0, .ref h0), (1, .int 0), (2, .int 0)]) hx hb dX12_layWeights_117 hl (k := 0) rfl (by decide +kernel) (by decide) rfl (fun ls hl => ?_)
  refine lv_goto (tgt := 93) hx hb dX12_layWeights_120 (by decide) ?_
  refine lv_iload hx hb dX12_layWeights_93 (lv_at hl 0 rfl) ?_
  refine lv_aload_n hx hb dX12_layWeights_95 rfl (lv_at hl 2 rfl) ?_
  refine va_get (D := D) (ci := 15) (v := .ref h3) (C := RX12) (T := TX12) (N := 66) hx hb hts iw_X12_layWeights__X12 hown hE.1 hP 0 rfl rfl 42 (by decide) (hts _ mw_X12_layWeights__7) (fun _ h9 => h9) rfl dX12_layWeights_96 ?_
  refine lv_aload_n hx hb dX12_layWeights_99 rfl (lv_at hl 2 rfl) ?_
  refine va_get (D := D) (ci := 15) (v := .int 0) (C := RX12) (T := TX12) (N := 66) hx hb hts iw_X12_layWeights__X12 hown hE.1 hP 0 rfl rfl 12 (by decide) (hts _ mw_X12_layWeights__8) (fun _ h9 => h9) rfl dX12_layWeights_100 ?_
  refine lv_iconst (v := 1) hx hb dX12_layWeights_103 (by decide +kernel) ?_
  refine jw_iadd (v := 1) hx hb dX12_layWeights_104 (by decide +kernel) ?_
  refine jw_iald (v := 1) hx hb hE hP 3 1 rfl (by decide +kernel) (by decide +kernel) dX12_layWeights_105 ?_
  refine lv_icmp_ge (tgt := 123) hx hb dX12_layWeights_106 (by decide) (fun _ => ?_) (fun c9 => absurd (by decide +kernel) c9)
  refine lv_iload_n hx hb dX12_layWeights_123 rfl (lv_at hl 1 rfl) ?_
  refine lv_aload_n hx hb dX12_layWeights_124 rfl (lv_at hl 2 rfl) ?_
  refine va_get (D := D) (ci := 15) (v := .int 2) (C := RX12) (T := TX12) (N := 66) hx hb hts iw_X12_layWeights__X12 hown hE.1 hP 0 rfl rfl 11 (by decide) (hts _ mw_X12_layWeights__10) (fun _ h9 => h9) rfl dX12_layWeights_125 ?_
  refine jw_idiv (v := 0) hx hb dX12_layWeights_128 (by decide +kernel) (by decide +kernel) ?_
  refine lv_istore (lv' := [(4, .int 0), (3, .int 0), (0, .ref h0), (1, .int 0), (2, .int 0)]) hx hb dX12_layWeights_129 hl (by decide) rfl (fun ls hl => ?_)
  refine lv_iconst (v := 0) hx hb dX12_layWeights_131 (by decide +kernel) ?_
  refine lv_istore (lv' := [(5, .int 0), (4, .int 0), (3, .int 0), (0, .ref h0), (1, .int 0), (2, .int 0)]) hx hb dX12_layWeights_132 hl (by decide) rfl (fun ls hl => ?_)
  refine lv_iconst (v := 0) hx hb dX12_layWeights_134 (by decide +kernel) ?_
  refine lv_istore (lv' := [(6, .int 0), (5, .int 0), (4, .int 0), (3, .int 0), (0, .ref h0), (1, .int 0), (2, .int 0)]) hx hb dX12_layWeights_135 hl (by decide) rfl (fun ls hl => ?_)
  refine lv_iload hx hb dX12_layWeights_137 (lv_at hl 0 rfl) ?_
  refine lv_iload hx hb dX12_layWeights_139 (lv_at hl 2 rfl) ?_
  refine lv_icmp_ge (tgt := 176) hx hb dX12_layWeights_141 (by decide) (fun _ => ?_) (fun c9 => absurd (by decide +kernel) c9)
  refine lv_aload_n hx hb dX12_layWeights_176 rfl (lv_at hl 4 rfl) ?_
  refine va_get (D := D) (ci := 15) (v := .ref h5) (C := RX12) (T := TX12) (N := 66) hx hb hts iw_X12_layWeights__X12 hown hE.1 hP 0 rfl rfl 44 (by decide) (hts _ mw_X12_layWeights__9) (fun _ h9 => h9) rfl dX12_layWeights_177 ?_
  refine lv_aload_n hx hb dX12_layWeights_180 rfl (lv_at hl 4 rfl) ?_
  refine va_get (D := D) (ci := 15) (v := .ref h3) (C := RX12) (T := TX12) (N := 66) hx hb hts iw_X12_layWeights__X12 hown hE.1 hP 0 rfl rfl 42 (by decide) (hts _ mw_X12_layWeights__7) (fun _ h9 => h9) rfl dX12_layWeights_181 ?_
  refine lv_iload hx hb dX12_layWeights_184 (lv_at hl 2 rfl) ?_
  refine jw_iald (v := 0) hx hb hE hP 3 0 rfl (by decide +kernel) (by decide +kernel) dX12_layWeights_186 ?_
  refine lv_iload hx hb dX12_layWeights_187 (lv_at hl 1 rfl) ?_
  refine jw_iadd (v := 0) hx hb dX12_layWeights_189 (by decide +kernel) ?_
  refine lv_lconst (v := 1) hx hb dX12_layWeights_190 (by decide +kernel) ?_
  refine jw_last (ws' := [(h0, .inr (15, [.ref h10, .int 0, .int 0, .ref h11, .int 0, .int (-1), .int 0, .int 0, .int 0, .int 0, .int 0, .int 2, .int 0, .int 0, .int 0, .ref h12, .ref h13, .ref h14, .ref h15, .int 2, .int 0, .int 0, .int 0, .int 0, .ref h16, .ref h17, .ref h18, .ref h19, .int 2, .ref h1, .int 1, .ref h2, .ref h20, .int 1, .ref h21, .ref h22, .ref h23, .int 0, .ref h24, .ref h25, .ref h26, .ref h27, .ref h3, .ref h4, .ref h5, .ref h6, .ref h7, .int 9, .ref h8, .ref h28, .ref h9, .int (-1), .ref h29, .long 0, .long 0, .int (-1), .int (-1), .long 0, .long 1, .ref h30, .ref h31, .ref h32, .ref h33, .ref h34, .ref h35, .long 0])), (h1, .inl (Y 1, 100, .inl (jw_l 0 [0, 1, 0, 0, 1, 0, 0, 0, 1, 1]))), (h2, .inl (Y 1, 13824, .inl (jw_l 0 [0]))), (h3, .inl (Y 1, 6, .inl (jw_l 0 [0, 1]))), (h4, .inl (Y 1, 14425, .inl (jw_l 0 [0]))), (h5, .inl (Y 2, 14425, .inr (.inl (jw_L 0 [1])))), (h6, .inl (Y 1, 13824, .inl (jw_l 0 [0]))), (h7, .inl (Y 1, 16, .inl (jw_l 0 [1, 2, 0, 0, 2, 1, 0, 0, 0, 0, 0, 0, 0, 0, 0, 0]))), (h8, .inl (Y 1, 5, .inl (jw_l 0 [1, 3]))), (h9, .inl (Y 2, 13824, .inr (.inl (jw_L 0 [0]))))]) hx hb hE hP hD hS 5 0 [1] rfl (by decide +kernel) (by decide +kernel) rfl dX12_layWeights_191 (fun H locs hP hD hS => ?_)
  refine lv_aload_n hx hb dX12_layWeights_192 rfl (lv_at hl 4 rfl) ?_
  refine va_get (D := D) (ci := 15) (v := .int 9) (C := RX12) (T := TX12) (N := 66) hx hb hts iw_X12_layWeights__X12 hown hE.1 hP 0 rfl rfl 47 (by decide) (hts _ mw_X12_layWeights__13) (fun _ h9 => h9) rfl dX12_layWeights_193 ?_
  refine lv_iconst (v := 1) hx hb dX12_layWeights_196 (by decide +kernel) ?_
  refine jw_isub (v := 8) hx hb dX12_layWeights_197 (by decide +kernel) ?_
  refine lv_istore (lv' := [(6, .int 8), (5, .int 0), (4, .int 0), (3, .int 0), (0, .ref h0), (1, .int 0), (2, .int 0)]) hx hb dX12_layWeights_198 hl (by decide) rfl (fun ls hl => ?_)
  refine lv_iload hx hb dX12_layWeights_200 (lv_at hl 2 rfl) ?_
  refine lv_istore (lv' := [(7, .int 0), (6, .int 8), (5, .int 0), (4, .int 0), (3, .int 0), (0, .ref h0), (1, .int 0), (2, .int 0)]) hx hb dX12_layWeights_202 hl (by decide) rfl (fun ls hl => ?_)
  refine lv_iload hx hb dX12_layWeights_204 (lv_at hl 0 rfl) ?_
  refine lv_aload_n hx hb dX12_layWeights_206 rfl (lv_at hl 5 rfl) ?_
  refine va_get (D := D) (ci := 15) (v := .int 0) (C := RX12) (T := TX12) (N := 66) hx hb hts iw_X12_layWeights__X12 hown hE.1 hP 0 rfl rfl 12 (by decide) (hts _ mw_X12_layWeights__8) (fun _ h9 => h9) rfl dX12_layWeights_207 ?_
  refine lv_icmp_ge (tgt := 320) hx hb dX12_layWeights_210 (by decide) (fun _ => ?_) (fun c9 => absurd (by decide +kernel) c9)
  refine lv_iconst (v := 0) hx hb dX12_layWeights_320 (by decide +kernel) ?_
  refine lv_istore (lv' := [(7, .int 0), (6, .int 8), (5, .int 0), (4, .int 0), (3, .int 0), (0, .ref h0), (1, .int 0), (2, .int 0)]) hx hb dX12_layWeights_321 hl (by decide) rfl (fun ls hl => ?_)
  refine lv_iload hx hb dX12_layWeights_323 (lv_at hl 0 rfl) ?_
  refine lv_aload_n hx hb dX12_layWeights_325 rfl (lv_at hl 5 rfl) ?_
  refine va_get (D := D) (ci := 15) (v := .int 1) (C := RX12) (T := TX12) (N := 66) hx hb hts iw_X12_layWeights__X12 hown hE.1 hP 0 rfl rfl 30 (by decide) (hts _ mw_X12_layWeights__3) (fun _ h9 => h9) rfl dX12_layWeights_326 ?_
  refine lv_icmp_ge (tgt := 381) hx hb dX12_layWeights_329 (by decide) (fun c9 => absurd c9 (by decide +kernel)) (fun _ => ?_)
  refine lv_aload_n hx hb dX12_layWeights_332 rfl (lv_at hl 5 rfl) ?_
  refine va_get (D := D) (ci := 15) (v := .ref h9) (C := RX12) (T := TX12) (N := 66) hx hb hts iw_X12_layWeights__X12 hown hE.1 hP 0 rfl rfl 50 (by decide) (hts _ mw_X12_layWeights__4) (fun _ h9 => h9) rfl dX12_layWeights_333 ?_
  refine lv_iload hx hb dX12_layWeights_336 (lv_at hl 0 rfl) ?_
  refine lv_aload_n hx hb dX12_layWeights_338 rfl (lv_at hl 5 rfl) ?_
  refine va_get (D := D) (ci := 15) (v := .ref h2) (C := RX12) (T := TX12) (N := 66) hx hb hts iw_X12_layWeights__X12 hown hE.1 hP 0 rfl rfl 31 (by decide) (hts _ mw_X12_layWeights__5) (fun _ h9 => h9) rfl dX12_layWeights_339 ?_
  refine lv_iload hx hb dX12_layWeights_342 (lv_at hl 0 rfl) ?_
  refine jw_iald (v := 0) hx hb hE hP 2 0 rfl (by decide +kernel) (by decide +kernel) dX12_layWeights_344 ?_
  refine lv_if_ne (tgt := 373) hx hb dX12_layWeights_345 (by decide) (fun c9 => absurd (by decide +kernel) c9) (fun _ => ?_)
  refine lv_aload_n hx hb dX12_layWeights_348 rfl (lv_at hl 5 rfl) ?_
  refine va_get (D := D) (ci := 15) (v := .ref h5) (C := RX12) (T := TX12) (N := 66) hx hb hts iw_X12_layWeights__X12 hown hE.1 hP 0 rfl rfl 44 (by decide) (hts _ mw_X12_layWeights__9) (fun _ h9 => h9) rfl dX12_layWeights_349 ?_
  refine lv_aload_n hx hb dX12_layWeights_352 rfl (lv_at hl 5 rfl) ?_
  refine va_get (D := D) (ci := 15) (v := .ref h3) (C := RX12) (T := TX12) (N := 66) hx hb hts iw_X12_layWeights__X12 hown hE.1 hP 0 rfl rfl 42 (by decide) (hts _ mw_X12_layWeights__7) (fun _ h9 => h9) rfl dX12_layWeights_353 ?_
  refine lv_aload_n hx hb dX12_layWeights_356 rfl (lv_at hl 5 rfl) ?_
  refine va_get (D := D) (ci := 15) (v := .int 0) (C := RX12) (T := TX12) (N := 66) hx hb hts iw_X12_layWeights__X12 hown hE.1 hP 0 rfl rfl 12 (by decide) (hts _ mw_X12_layWeights__8) (fun _ h9 => h9) rfl dX12_layWeights_357 ?_
  refine jw_iald (v := 0) hx hb hE hP 3 0 rfl (by decide +kernel) (by decide +kernel) dX12_layWeights_360 ?_
  refine lv_aload_n hx hb dX12_layWeights_361 rfl (lv_at hl 5 rfl) ?_
  refine va_get (D := D) (ci := 15) (v := .ref h6) (C := RX12) (T := TX12) (N := 66) hx hb hts iw_X12_layWeights__X12 hown hE.1 hP 0 rfl rfl 45 (by decide) (hts _ mw_X12_layWeights__14) (fun _ h9 => h9) rfl dX12_layWeights_362 ?_
  refine lv_iload hx hb dX12_layWeights_365 (lv_at hl 0 rfl) ?_
  refine jw_iald (v := 0) hx hb hE hP 6 0 rfl (by decide +kernel) (by decide +kernel) dX12_layWeights_367 ?_
  refine jw_iadd (v := 0) hx hb dX12_layWeights_368 (by decide +kernel) ?_
  refine jw_lald (v := 1) hx hb hE hP 5 0 rfl (by decide +kernel) (by decide +kernel) dX12_layWeights_369 ?_
  refine lv_goto (tgt := 374) hx hb dX12_layWeights_370 (by decide) ?_
  refine jw_last (ws' := [(h0, .inr (15, [.ref h10, .int 0, .int 0, .ref h11, .int 0, .int (-1), .int 0, .int 0, .int 0, .int 0, .int 0, .int 2, .int 0, .int 0, .int 0, .ref h12, .ref h13, .ref h14, .ref h15, .int 2, .int 0, .int 0, .int 0, .int 0, .ref h16, .ref h17, .ref h18, .ref h19, .int 2, .ref h1, .int 1, .ref h2, .ref h20, .int 1, .ref h21, .ref h22, .ref h23, .int 0, .ref h24, .ref h25, .ref h26, .ref h27, .ref h3, .ref h4, .ref h5, .ref h6, .ref h7, .int 9, .ref h8, .ref h28, .ref h9, .int (-1), .ref h29, .long 0, .long 0, .int (-1), .int (-1), .long 0, .long 1, .ref h30, .ref h31, .ref h32, .ref h33, .ref h34, .ref h35, .long 0])), (h1, .inl (Y 1, 100, .inl (jw_l 0 [0, 1, 0, 0, 1, 0, 0, 0, 1, 1]))), (h2, .inl (Y 1, 13824, .inl (jw_l 0 [0]))), (h3, .inl (Y 1, 6, .inl (jw_l 0 [0, 1]))), (h4, .inl (Y 1, 14425, .inl (jw_l 0 [0]))), (h5, .inl (Y 2, 14425, .inr (.inl (jw_L 0 [1])))), (h6, .inl (Y 1, 13824, .inl (jw_l 0 [0]))), (h7, .inl (Y 1, 16, .inl (jw_l 0 [1, 2, 0, 0, 2, 1, 0, 0, 0, 0, 0, 0, 0, 0, 0, 0]))), (h8, .inl (Y 1, 5, .inl (jw_l 0 [1, 3]))), (h9, .inl (Y 2, 13824, .inr (.inl (jw_L 0 [1]))))]) hx hb hE hP hD hS 9 0 [1] rfl (by decide +kernel) (by decide +kernel) rfl dX12_layWeights_374 (fun H locs hP hD hS => ?_)
  refine lv_iinc (v := 1) (lv' := [(7, .int 1), (6, .int 8), (5, .int 0), (4, .int 0), (3, .int 0), (0, .ref h0), (1, .int 0), (2, .int 0)]) hx hb dX12_layWeights_375 hl (k := 0) rfl (by decide +kernel) (by decide) rfl (fun ls hl => ?_)
  refine lv_goto (tgt := 323) hx hb dX12_layWeights_378 (by decide) ?_
  refine lv_iload hx hb dX12_layWeights_323 (lv_at hl 0 rfl) ?_
  refine lv_aload_n hx hb dX12_layWeights_325 rfl (lv_at hl 5 rfl) ?_
  refine va_get (D := D) (ci := 15) (v := .int 1) (C := RX12) (T := TX12) (N := 66) hx hb hts iw_X12_layWeights__X12 hown hE.1 hP 0 rfl rfl 30 (by decide) (hts _ mw_X12_layWeights__3) (fun _ h9 => h9) rfl dX12_layWeights_326 ?_
  refine lv_icmp_ge (tgt := 381) hx hb dX12_layWeights_329 (by decide) (fun _ => ?_) (fun c9 => absurd (by decide +kernel) c9)
  refine W.widen (k := 0) (n := 0) (Nat.le_of_ble_eq_true rfl) (Nat.le_of_ble_eq_true rfl) ?_
  exact jw_vret hx hb hr hlocks rfl hP hD hS dX12_layWeights_381
set_option maxHeartbeats 4000000 in
set_option maxRecDepth 100000 in
theorem k380_X12_allRows {l : Launch} {D : va_G} {Y : Nat → ClassId} {tt : Nat → Nat} (h0 h1 h2 h3 h4 h5 h6 h7 h8 h9 h10 h11 h12 h13 h14 h15 h16 h17 h18 h19 h20 h21 h22 h23 h24 h25 h26 h27 h28 h29 h30 h31 h32 h33 h34 h35 : Nat) (sz : Nat) : Met l yX12_allRows wsX12_allRows ({ frames := 0, cells := 0, slots := 0, locals := 0 }) (jw_Pc D Y tt [.ref h0] [(h0, .inr (15, [.ref h2, .int 0, .int 0, .ref h3, .int 0, .int (-1), .int 0, .int 0, .int 0, .int 0, .int 0, .int 2, .int 0, .int 0, .int 0, .ref h4, .ref h5, .ref h6, .ref h7, .int 2, .int 0, .int 0, .int 0, .int 0, .ref h8, .ref h9, .ref h10, .ref h11, .int 2, .ref h12, .int 1, .ref h13, .ref h14, .int 1, .ref h15, .ref h16, .ref h17, .int 0, .ref h18, .ref h19, .ref h20, .ref h21, .ref h22, .ref h23, .ref h24, .ref h25, .ref h26, .int 9, .ref h27, .ref h28, .ref h1, .int (-1), .ref h29, .long 0, .long 0, .int (-1), .int (-1), .long 0, .long 1, .ref h30, .ref h31, .ref h32, .ref h33, .ref h34, .ref h35, .long 0])), (h1, .inl (Y 2, 13824, .inr (.inl (jw_L 0 [1]))))] sz) (jw_Ql D (fun r => r = 1) (fun w => w = [(h0, .inr (15, [.ref h2, .int 0, .int 0, .ref h3, .int 0, .int (-1), .int 0, .int 0, .int 0, .int 0, .int 0, .int 2, .int 0, .int 0, .int 0, .ref h4, .ref h5, .ref h6, .ref h7, .int 2, .int 0, .int 0, .int 0, .int 0, .ref h8, .ref h9, .ref h10, .ref h11, .int 2, .ref h12, .int 1, .ref h13, .ref h14, .int 1, .ref h15, .ref h16, .ref h17, .int 0, .ref h18, .ref h19, .ref h20, .ref h21, .ref h22, .ref h23, .ref h24, .ref h25, .ref h26, .int 9, .ref h27, .ref h28, .ref h1, .int (-1), .ref h29, .long 0, .long 0, .int (-1), .int (-1), .long 0, .long 1, .ref h30, .ref h31, .ref h32, .ref h33, .ref h34, .ref h35, .long 0])), (h1, .inl (Y 2, 13824, .inr (.inl (jw_L 0 [1]))))]) (va_A [(h0, .inr (15, [.ref h2, .int 0, .int 0, .ref h3, .int 0, .int (-1), .int 0, .int 0, .int 0, .int 0, .int 0, .int 2, .int 0, .int 0, .int 0, .ref h4, .ref h5, .ref h6, .ref h7, .int 2, .int 0, .int 0, .int 0, .int 0, .ref h8, .ref h9, .ref h10, .ref h11, .int 2, .ref h12, .int 1, .ref h13, .ref h14, .int 1, .ref h15, .ref h16, .ref h17, .int 0, .ref h18, .ref h19, .ref h20, .ref h21, .ref h22, .ref h23, .ref h24, .ref h25, .ref h26, .int 9, .ref h27, .ref h28, .ref h1, .int (-1), .ref h29, .long 0, .long 0, .int (-1), .int (-1), .long 0, .long 1, .ref h30, .ref h31, .ref h32, .ref h33, .ref h34, .ref h35, .long 0])), (h1, .inl (Y 2, 13824, .inr (.inl (jw_L 0 [1]))))] sz)) 0 0 (va_A [(h0, .inr (15, [.ref h2, .int 0, .int 0, .ref h3, .int 0, .int (-1), .int 0, .int 0, .int 0, .int 0, .int 0, .int 2, .int 0, .int 0, .int 0, .ref h4, .ref h5, .ref h6, .ref h7, .int 2, .int 0, .int 0, .int 0, .int 0, .ref h8, .ref h9, .ref h10, .ref h11, .int 2, .ref h12, .int 1, .ref h13, .ref h14, .int 1, .ref h15, .ref h16, .ref h17, .int 0, .ref h18, .ref h19, .ref h20, .ref h21, .ref h22, .ref h23, .ref h24, .ref h25, .ref h26, .int 9, .ref h27, .ref h28, .ref h1, .int (-1), .ref h29, .long 0, .long 0, .int (-1), .int (-1), .long 0, .long 1, .ref h30, .ref h31, .ref h32, .ref h33, .ref h34, .ref h35, .long 0])), (h1, .inl (Y 2, 13824, .inr (.inl (jw_L 0 [1]))))] sz) := by
  refine jw_met (fun A => jw_Ql D (fun r => r = 1) (fun w => w = [(h0, .inr (15, [.ref h2, .int 0, .int 0, .ref h3, .int 0, .int (-1), .int 0, .int 0, .int 0, .int 0, .int 0, .int 2, .int 0, .int 0, .int 0, .ref h4, .ref h5, .ref h6, .ref h7, .int 2, .int 0, .int 0, .int 0, .int 0, .ref h8, .ref h9, .ref h10, .ref h11, .int 2, .ref h12, .int 1, .ref h13, .ref h14, .int 1, .ref h15, .ref h16, .ref h17, .int 0, .ref h18, .ref h19, .ref h20, .ref h21, .ref h22, .ref h23, .ref h24, .ref h25, .ref h26, .int 9, .ref h27, .ref h28, .ref h1, .int (-1), .ref h29, .long 0, .long 0, .int (-1), .int (-1), .long 0, .long 1, .ref h30, .ref h31, .ref h32, .ref h33, .ref h34, .ref h35, .long 0])), (h1, .inl (Y 2, 13824, .inr (.inl (jw_L 0 [1]))))]) A) (cc := cX12_allRows) (maxL := 4) (ret := (some .long)) pn_X12_allRows rfl rfl ?_
  intro p e s m below meth c A H locs ls hx hb hml hr hts hown hlocks hin hP hD hA hS hE hl
  have hown : s.vm.findClass RX12 = some m.cls := hown
  have hl : lv_has ls 4 [(0, .ref h0)] := hl
  refine lv_lconst (v := 0) hx hb dX12_allRows_0 (by decide +kernel) ?_
  refine lv_lstore_n (lv' := [(1, .long 0), (0, .ref h0)]) hx hb dX12_allRows_1 rfl hl (by decide) rfl (fun ls hl => ?_)
  refine lv_iconst (v := 0) hx hb dX12_allRows_2 (by decide +kernel) ?_
  refine lv_istore_n (lv' := [(3, .int 0), (1, .long 0), (0, .ref h0)]) hx hb dX12_allRows_3 rfl hl (by decide) rfl (fun ls hl => ?_)
  refine lv_iload_n hx hb dX12_allRows_4 rfl (lv_at hl 0 rfl) ?_
  refine lv_aload_n hx hb dX12_allRows_5 rfl (lv_at hl 2 rfl) ?_
  refine va_get (D := D) (ci := 15) (v := .int 1) (C := RX12) (T := TX12) (N := 66) hx hb hts iw_X12_allRows__X12 hown hE.1 hP 0 rfl rfl 30 (by decide) (hts _ mw_X12_allRows__1) (fun _ h9 => h9) rfl dX12_allRows_6 ?_
  refine lv_icmp_ge (tgt := 27) hx hb dX12_allRows_9 (by decide) (fun c9 => absurd c9 (by decide +kernel)) (fun _ => ?_)
  refine lv_lload_n hx hb dX12_allRows_12 rfl (lv_at hl 1 rfl) ?_
  refine lv_aload_n hx hb dX12_allRows_13 rfl (lv_at hl 2 rfl) ?_
  refine va_get (D := D) (ci := 15) (v := .ref h1) (C := RX12) (T := TX12) (N := 66) hx hb hts iw_X12_allRows__X12 hown hE.1 hP 0 rfl rfl 50 (by decide) (hts _ mw_X12_allRows__2) (fun _ h9 => h9) rfl dX12_allRows_14 ?_
  refine lv_iload_n hx hb dX12_allRows_17 rfl (lv_at hl 0 rfl) ?_
  refine jw_lald (v := 1) hx hb hE hP 1 0 rfl (by decide +kernel) (by decide +kernel) dX12_allRows_18 ?_
  refine jw_ladd (v := 1) hx hb dX12_allRows_19 (by decide +kernel) ?_
  refine lv_lstore_n (lv' := [(1, .long 1), (3, .int 0), (0, .ref h0)]) hx hb dX12_allRows_20 rfl hl (by decide) rfl (fun ls hl => ?_)
  refine lv_iinc (v := 1) (lv' := [(3, .int 1), (1, .long 1), (0, .ref h0)]) hx hb dX12_allRows_21 hl (k := 1) rfl (by decide +kernel) (by decide) rfl (fun ls hl => ?_)
  refine lv_goto (tgt := 4) hx hb dX12_allRows_24 (by decide) ?_
  refine lv_iload_n hx hb dX12_allRows_4 rfl (lv_at hl 0 rfl) ?_
  refine lv_aload_n hx hb dX12_allRows_5 rfl (lv_at hl 2 rfl) ?_
  refine va_get (D := D) (ci := 15) (v := .int 1) (C := RX12) (T := TX12) (N := 66) hx hb hts iw_X12_allRows__X12 hown hE.1 hP 0 rfl rfl 30 (by decide) (hts _ mw_X12_allRows__1) (fun _ h9 => h9) rfl dX12_allRows_6 ?_
  refine lv_icmp_ge (tgt := 27) hx hb dX12_allRows_9 (by decide) (fun _ => ?_) (fun c9 => absurd (by decide +kernel) c9)
  refine lv_lload_n hx hb dX12_allRows_27 rfl (lv_at hl 1 rfl) ?_
  refine W.widen (k := 0) (n := 0) (Nat.le_of_ble_eq_true rfl) (Nat.le_of_ble_eq_true rfl) ?_
  exact jw_lret hx hb hr hlocks rfl rfl hP hD hS dX12_allRows_28
set_option maxHeartbeats 4000000 in
set_option maxRecDepth 100000 in
theorem k381_X12_isAsPlaced {l : Launch} {D : va_G} {Y : Nat → ClassId} {tt : Nat → Nat} (h0 h1 h2 h3 h4 h5 h6 h7 h8 h9 h10 h11 h12 h13 h14 h15 h16 h17 h18 h19 h20 h21 h22 h23 h24 h25 h26 h27 h28 h29 h30 h31 h32 h33 h34 h35 : Nat) (sz : Nat) : Met l yX12_isAsPlaced wsX12_isAsPlaced ({ frames := 0, cells := 0, slots := 0, locals := 0 }) (jw_Pc D Y tt [.ref h0, .int 0, .int 0] [(h0, .inr (15, [.ref h1, .int 0, .int 0, .ref h2, .int 0, .int (-1), .int 0, .int 0, .int 0, .int 0, .int 0, .int 2, .int 0, .int 0, .int 0, .ref h3, .ref h4, .ref h5, .ref h6, .int 2, .int 0, .int 0, .int 0, .int 0, .ref h7, .ref h8, .ref h9, .ref h10, .int 2, .ref h11, .int 1, .ref h12, .ref h13, .int 1, .ref h14, .ref h15, .ref h16, .int 0, .ref h17, .ref h18, .ref h19, .ref h20, .ref h21, .ref h22, .ref h23, .ref h24, .ref h25, .int 9, .ref h26, .ref h27, .ref h28, .int (-1), .ref h29, .long 0, .long 0, .int (-1), .int (-1), .long 0, .long 1, .ref h30, .ref h31, .ref h32, .ref h33, .ref h34, .ref h35, .long 0]))] sz) (jw_Qi D (fun r => r = 1) (fun w => w = [(h0, .inr (15, [.ref h1, .int 0, .int 0, .ref h2, .int 0, .int (-1), .int 0, .int 0, .int 0, .int 0, .int 0, .int 2, .int 0, .int 0, .int 0, .ref h3, .ref h4, .ref h5, .ref h6, .int 2, .int 0, .int 0, .int 0, .int 0, .ref h7, .ref h8, .ref h9, .ref h10, .int 2, .ref h11, .int 1, .ref h12, .ref h13, .int 1, .ref h14, .ref h15, .ref h16, .int 0, .ref h17, .ref h18, .ref h19, .ref h20, .ref h21, .ref h22, .ref h23, .ref h24, .ref h25, .int 9, .ref h26, .ref h27, .ref h28, .int (-1), .ref h29, .long 0, .long 0, .int (-1), .int (-1), .long 0, .long 1, .ref h30, .ref h31, .ref h32, .ref h33, .ref h34, .ref h35, .long 0]))]) (va_A [(h0, .inr (15, [.ref h1, .int 0, .int 0, .ref h2, .int 0, .int (-1), .int 0, .int 0, .int 0, .int 0, .int 0, .int 2, .int 0, .int 0, .int 0, .ref h3, .ref h4, .ref h5, .ref h6, .int 2, .int 0, .int 0, .int 0, .int 0, .ref h7, .ref h8, .ref h9, .ref h10, .int 2, .ref h11, .int 1, .ref h12, .ref h13, .int 1, .ref h14, .ref h15, .ref h16, .int 0, .ref h17, .ref h18, .ref h19, .ref h20, .ref h21, .ref h22, .ref h23, .ref h24, .ref h25, .int 9, .ref h26, .ref h27, .ref h28, .int (-1), .ref h29, .long 0, .long 0, .int (-1), .int (-1), .long 0, .long 1, .ref h30, .ref h31, .ref h32, .ref h33, .ref h34, .ref h35, .long 0]))] sz)) 0 0 (va_A [(h0, .inr (15, [.ref h1, .int 0, .int 0, .ref h2, .int 0, .int (-1), .int 0, .int 0, .int 0, .int 0, .int 0, .int 2, .int 0, .int 0, .int 0, .ref h3, .ref h4, .ref h5, .ref h6, .int 2, .int 0, .int 0, .int 0, .int 0, .ref h7, .ref h8, .ref h9, .ref h10, .int 2, .ref h11, .int 1, .ref h12, .ref h13, .int 1, .ref h14, .ref h15, .ref h16, .int 0, .ref h17, .ref h18, .ref h19, .ref h20, .ref h21, .ref h22, .ref h23, .ref h24, .ref h25, .int 9, .ref h26, .ref h27, .ref h28, .int (-1), .ref h29, .long 0, .long 0, .int (-1), .int (-1), .long 0, .long 1, .ref h30, .ref h31, .ref h32, .ref h33, .ref h34, .ref h35, .long 0]))] sz) := by
  refine jw_met (fun A => jw_Qi D (fun r => r = 1) (fun w => w = [(h0, .inr (15, [.ref h1, .int 0, .int 0, .ref h2, .int 0, .int (-1), .int 0, .int 0, .int 0, .int 0, .int 0, .int 2, .int 0, .int 0, .int 0, .ref h3, .ref h4, .ref h5, .ref h6, .int 2, .int 0, .int 0, .int 0, .int 0, .ref h7, .ref h8, .ref h9, .ref h10, .int 2, .ref h11, .int 1, .ref h12, .ref h13, .int 1, .ref h14, .ref h15, .ref h16, .int 0, .ref h17, .ref h18, .ref h19, .ref h20, .ref h21, .ref h22, .ref h23, .ref h24, .ref h25, .int 9, .ref h26, .ref h27, .ref h28, .int (-1), .ref h29, .long 0, .long 0, .int (-1), .int (-1), .long 0, .long 1, .ref h30, .ref h31, .ref h32, .ref h33, .ref h34, .ref h35, .long 0]))]) A) (cc := cX12_isAsPlaced) (maxL := 4) (ret := (some .boolean)) pn_X12_isAsPlaced rfl rfl ?_
  intro p e s m below meth c A H locs ls hx hb hml hr hts hown hlocks hin hP hD hA hS hE hl
  have hown : s.vm.findClass RX12 = some m.cls := hown
  have hl : lv_has ls 4 [(0, .ref h0), (1, .int 0), (2, .int 0)] := hl
  refine lv_iconst (v := 0) hx hb dX12_isAsPlaced_0 (by decide +kernel) ?_
  refine lv_istore_n (lv' := [(3, .int 0), (0, .ref h0), (1, .int 0), (2, .int 0)]) hx hb dX12_isAsPlaced_1 rfl hl (by decide) rfl (fun ls hl => ?_)
  refine lv_iload_n hx hb dX12_isAsPlaced_2 rfl (lv_at hl 0 rfl) ?_
  refine lv_iload_n hx hb dX12_isAsPlaced_3 rfl (lv_at hl 3 rfl) ?_
  refine lv_icmp_ge (tgt := 40) hx hb dX12_isAsPlaced_4 (by decide) (fun _ => ?_) (fun c9 => absurd (by decide +kernel) c9)
  refine lv_iconst (v := 1) hx hb dX12_isAsPlaced_40 (by decide +kernel) ?_
  refine W.widen (k := 0) (n := 0) (Nat.le_of_ble_eq_true rfl) (Nat.le_of_ble_eq_true rfl) ?_
  exact jw_zret hx hb hr hlocks rfl rfl rfl hP hD hS dX12_isAsPlaced_41
set_option maxHeartbeats 4000000 in
set_option maxRecDepth 100000 in
theorem k382_X12_layWeights {l : Launch} {D : va_G} {Y : Nat → ClassId} {tt : Nat → Nat} (h0 h1 h2 h3 h4 h5 h6 h7 h8 h9 h10 h11 h12 h13 h14 h15 h16 h17 h18 h19 h20 h21 h22 h23 h24 h25 h26 h27 h28 h29 h30 h31 h32 h33 h34 h35 : Nat) (sz : Nat) : Met l yX12_layWeights wsX12_layWeights ({ frames := 1, cells := 0, slots := 0, locals := 25 }) (jw_Pc D Y tt [.ref h0, .int 1, .int 0] [(h0, .inr (15, [.ref h9, .int 0, .int 0, .ref h10, .int 0, .int (-1), .int 0, .int 0, .int 0, .int 0, .int 0, .int 2, .int 0, .int 0, .int 0, .ref h11, .ref h12, .ref h13, .ref h14, .int 2, .int 0, .int 0, .int 0, .int 0, .ref h15, .ref h16, .ref h17, .ref h18, .int 2, .ref h1, .int 1, .ref h2, .ref h19, .int 1, .ref h20, .ref h21, .ref h22, .int 0, .ref h23, .ref h24, .ref h25, .ref h26, .ref h3, .ref h4, .ref h27, .ref h5, .ref h6, .int 9, .ref h7, .ref h28, .ref h8, .int (-1), .ref h29, .long 0, .long 0, .int (-1), .int (-1), .long 0, .long 1, .ref h30, .ref h31, .ref h32, .ref h33, .ref h34, .ref h35, .long 0])), (h1, .inl (Y 1, 100, .inl (jw_l 0 [0, 1, 0, 0, 1, 0, 0, 0, 1, 1]))), (h2, .inl (Y 1, 13824, .inl (jw_l 0 [0]))), (h3, .inl (Y 1, 6, .inl (jw_l 0 [0, 1]))), (h4, .inl (Y 1, 14425, .inl (jw_l 0 [0]))), (h5, .inl (Y 1, 13824, .inl (jw_l 0 [0]))), (h6, .inl (Y 1, 16, .inl (jw_l 0 [1, 2, 0, 0, 2, 1, 0, 0, 0, 0, 0, 0, 0, 0, 0, 0]))), (h7, .inl (Y 1, 5, .inl (jw_l 0 [1, 3]))), (h8, .inl (Y 2, 13824, .inr (.inl (jw_L 0 [1]))))] sz) (jw_Qv D (fun w => w = [(h0, .inr (15, [.ref h9, .int 0, .int 0, .ref h10, .int 0, .int (-1), .int 0, .int 0, .int 0, .int 0, .int 0, .int 2, .int 0, .int 0, .int 0, .ref h11, .ref h12, .ref h13, .ref h14, .int 2, .int 0, .int 0, .int 0, .int 0, .ref h15, .ref h16, .ref h17, .ref h18, .int 2, .ref h1, .int 1, .ref h2, .ref h19, .int 1, .ref h20, .ref h21, .ref h22, .int 0, .ref h23, .ref h24, .ref h25, .ref h26, .ref h3, .ref h4, .ref h27, .ref h5, .ref h6, .int 9, .ref h7, .ref h28, .ref h8, .int (-1), .ref h29, .long 0, .long 0, .int (-1), .int (-1), .long 0, .long 1, .ref h30, .ref h31, .ref h32, .ref h33, .ref h34, .ref h35, .long 0])), (h1, .inl (Y 1, 100, .inl (jw_l 0 [0, 1, 0, 0, 1, 0, 0, 0, 1, 1]))), (h2, .inl (Y 1, 13824, .inl (jw_l 0 [0]))), (h3, .inl (Y 1, 6, .inl (jw_l 0 [0, 1]))), (h4, .inl (Y 1, 14425, .inl (jw_l 0 [0]))), (h5, .inl (Y 1, 13824, .inl (jw_l 0 [0]))), (h6, .inl (Y 1, 16, .inl (jw_l 0 [1, 2, 0, 0, 2, 1, 0, 0, 0, 0, 0, 0, 0, 0, 0, 0]))), (h7, .inl (Y 1, 5, .inl (jw_l 0 [1, 3]))), (h8, .inl (Y 2, 13824, .inr (.inl (jw_L 0 [1]))))]) (va_A [(h0, .inr (15, [.ref h9, .int 0, .int 0, .ref h10, .int 0, .int (-1), .int 0, .int 0, .int 0, .int 0, .int 0, .int 2, .int 0, .int 0, .int 0, .ref h11, .ref h12, .ref h13, .ref h14, .int 2, .int 0, .int 0, .int 0, .int 0, .ref h15, .ref h16, .ref h17, .ref h18, .int 2, .ref h1, .int 1, .ref h2, .ref h19, .int 1, .ref h20, .ref h21, .ref h22, .int 0, .ref h23, .ref h24, .ref h25, .ref h26, .ref h3, .ref h4, .ref h27, .ref h5, .ref h6, .int 9, .ref h7, .ref h28, .ref h8, .int (-1), .ref h29, .long 0, .long 0, .int (-1), .int (-1), .long 0, .long 1, .ref h30, .ref h31, .ref h32, .ref h33, .ref h34, .ref h35, .long 0])), (h1, .inl (Y 1, 100, .inl (jw_l 0 [0, 1, 0, 0, 1, 0, 0, 0, 1, 1]))), (h2, .inl (Y 1, 13824, .inl (jw_l 0 [0]))), (h3, .inl (Y 1, 6, .inl (jw_l 0 [0, 1]))), (h4, .inl (Y 1, 14425, .inl (jw_l 0 [0]))), (h5, .inl (Y 1, 13824, .inl (jw_l 0 [0]))), (h6, .inl (Y 1, 16, .inl (jw_l 0 [1, 2, 0, 0, 2, 1, 0, 0, 0, 0, 0, 0, 0, 0, 0, 0]))), (h7, .inl (Y 1, 5, .inl (jw_l 0 [1, 3]))), (h8, .inl (Y 2, 13824, .inr (.inl (jw_L 0 [1]))))] sz)) 0 0 (va_A [(h0, .inr (15, [.ref h9, .int 0, .int 0, .ref h10, .int 0, .int (-1), .int 0, .int 0, .int 0, .int 0, .int 0, .int 2, .int 0, .int 0, .int 0, .ref h11, .ref h12, .ref h13, .ref h14, .int 2, .int 0, .int 0, .int 0, .int 0, .ref h15, .ref h16, .ref h17, .ref h18, .int 2, .ref h1, .int 1, .ref h2, .ref h19, .int 1, .ref h20, .ref h21, .ref h22, .int 0, .ref h23, .ref h24, .ref h25, .ref h26, .ref h3, .ref h4, .ref h27, .ref h5, .ref h6, .int 9, .ref h7, .ref h28, .ref h8, .int (-1), .ref h29, .long 0, .long 0, .int (-1), .int (-1), .long 0, .long 1, .ref h30, .ref h31, .ref h32, .ref h33, .ref h34, .ref h35, .long 0])), (h1, .inl (Y 1, 100, .inl (jw_l 0 [0, 1, 0, 0, 1, 0, 0, 0, 1, 1]))), (h2, .inl (Y 1, 13824, .inl (jw_l 0 [0]))), (h3, .inl (Y 1, 6, .inl (jw_l 0 [0, 1]))), (h4, .inl (Y 1, 14425, .inl (jw_l 0 [0]))), (h5, .inl (Y 1, 13824, .inl (jw_l 0 [0]))), (h6, .inl (Y 1, 16, .inl (jw_l 0 [1, 2, 0, 0, 2, 1, 0, 0, 0, 0, 0, 0, 0, 0, 0, 0]))), (h7, .inl (Y 1, 5, .inl (jw_l 0 [1, 3]))), (h8, .inl (Y 2, 13824, .inr (.inl (jw_L 0 [1]))))] sz) := by
  refine jw_met (fun A => jw_Qv D (fun w => w = [(h0, .inr (15, [.ref h9, .int 0, .int 0, .ref h10, .int 0, .int (-1), .int 0, .int 0, .int 0, .int 0, .int 0, .int 2, .int 0, .int 0, .int 0, .ref h11, .ref h12, .ref h13, .ref h14, .int 2, .int 0, .int 0, .int 0, .int 0, .ref h15, .ref h16, .ref h17, .ref h18, .int 2, .ref h1, .int 1, .ref h2, .ref h19, .int 1, .ref h20, .ref h21, .ref h22, .int 0, .ref h23, .ref h24, .ref h25, .ref h26, .ref h3, .ref h4, .ref h27, .ref h5, .ref h6, .int 9, .ref h7, .ref h28, .ref h8, .int (-1), .ref h29, .long 0, .long 0, .int (-1), .int (-1), .long 0, .long 1, .ref h30, .ref h31, .ref h32, .ref h33, .ref h34, .ref h35, .long 0])), (h1, .inl (Y 1, 100, .inl (jw_l 0 [0, 1, 0, 0, 1, 0, 0, 0, 1, 1]))), (h2, .inl (Y 1, 13824, .inl (jw_l 0 [0]))), (h3, .inl (Y 1, 6, .inl (jw_l 0 [0, 1]))), (h4, .inl (Y 1, 14425, .inl (jw_l 0 [0]))), (h5, .inl (Y 1, 13824, .inl (jw_l 0 [0]))), (h6, .inl (Y 1, 16, .inl (jw_l 0 [1, 2, 0, 0, 2, 1, 0, 0, 0, 0, 0, 0, 0, 0, 0, 0]))), (h7, .inl (Y 1, 5, .inl (jw_l 0 [1, 3]))), (h8, .inl (Y 2, 13824, .inr (.inl (jw_L 0 [1]))))]) A) (cc := cX12_layWeights) (maxL := 10) (ret := none) pn_X12_layWeights rfl rfl ?_
  intro p e s m below meth c A H locs ls hx hb hml hr hts hown hlocks hin hP hD hA hS hE hl
  have hown : s.vm.findClass RX12 = some m.cls := hown
  have hl : lv_has ls 10 [(0, .ref h0), (1, .int 1), (2, .int 0)] := hl
  refine lv_aload_n hx hb dX12_layWeights_0 rfl (lv_at hl 0 rfl) ?_
  refine lv_iconst (v := (-1)) hx hb dX12_layWeights_1 (by decide +kernel) ?_
  refine va_put (D := D) (ci := 15) (v := .int (-1)) (C := RX12) (T := TX12) (N := 66) hx hb hts iw_X12_layWeights__X12 tyX12 tyX12_ok nmX12 hown hE.1 hP hD hS 0 rfl rfl 51 (by decide) (hts _ mw_X12_layWeights__1) (fun _ h9 => h9) rfl (tyX12_ok 51 (by decide)) rfl rfl (Nat.le_of_ble_eq_true rfl) dX12_layWeights_2 (fun H locs hP hD hS => ?_)
  have hP : va_P D vwCl [(h0, .inr (15, [.ref h9, .int 0, .int 0, .ref h10, .int 0, .int (-1), .int 0, .int 0, .int 0, .int 0, .int 0, .int 2, .int 0, .int 0, .int 0, .ref h11, .ref h12, .ref h13, .ref h14, .int 2, .int 0, .int 0, .int 0, .int 0, .ref h15, .ref h16, .ref h17, .ref h18, .int 2, .ref h1, .int 1, .ref h2, .ref h19, .int 1, .ref h20, .ref h21, .ref h22, .int 0, .ref h23, .ref h24, .ref h25, .ref h26, .ref h3, .ref h4, .ref h27, .ref h5, .ref h6, .int 9, .ref h7, .ref h28, .ref h8, .int (-1), .ref h29, .long 0, .long 0, .int (-1), .int (-1), .long 0, .long 1, .ref h30, .ref h31, .ref h32, .ref h33, .ref h34, .ref h35, .long 0])), (h1, .inl (Y 1, 100, .inl (jw_l 0 [0, 1, 0, 0, 1, 0, 0, 0, 1, 1]))), (h2, .inl (Y 1, 13824, .inl (jw_l 0 [0]))), (h3, .inl (Y 1, 6, .inl (jw_l 0 [0, 1]))), (h4, .inl (Y 1, 14425, .inl (jw_l 0 [0]))), (h5, .inl (Y 1, 13824, .inl (jw_l 0 [0]))), (h6, .inl (Y 1, 16, .inl (jw_l 0 [1, 2, 0, 0, 2, 1, 0, 0, 0, 0, 0, 0, 0, 0, 0, 0]))), (h7, .inl (Y 1, 5, .inl (jw_l 0 [1, 3]))), (h8, .inl (Y 2, 13824, .inr (.inl (jw_L 0 [1]))))] H := hP
  have hD : va_D A [(h0, .inr (15, [.ref h9, .int 0, .int 0, .ref h10, .int 0, .int (-1), .int 0, .int 0, .int 0, .int 0, .int 0, .int 2, .int 0, .int 0, .int 0, .ref h11, .ref h12, .ref h13, .ref h14, .int 2, .int 0, .int 0, .int 0, .int 0, .ref h15, .ref h16, .ref h17, .ref h18, .int 2, .ref h1, .int 1, .ref h2, .ref h19, .int 1, .ref h20, .ref h21, .ref h22, .int 0, .ref h23, .ref h24, .ref h25, .ref h26, .ref h3, .ref h4, .ref h27, .ref h5, .ref h6, .int 9, .ref h7, .ref h28, .ref h8, .int (-1), .ref h29, .long 0, .long 0, .int (-1), .int (-1), .long 0, .long 1, .ref h30, .ref h31, .ref h32, .ref h33, .ref h34, .ref h35, .long 0])), (h1, .inl (Y 1, 100, .inl (jw_l 0 [0, 1, 0, 0, 1, 0, 0, 0, 1, 1]))), (h2, .inl (Y 1, 13824, .inl (jw_l 0 [0]))), (h3, .inl (Y 1, 6, .inl (jw_l 0 [0, 1]))), (h4, .inl (Y 1, 14425, .inl (jw_l 0 [0]))), (h5, .inl (Y 1, 13824, .inl (jw_l 0 [0]))), (h6, .inl (Y 1, 16, .inl (jw_l 0 [1, 2, 0, 0, 2, 1, 0, 0, 0, 0, 0, 0, 0, 0, 0, 0]))), (h7, .inl (Y 1, 5, .inl (jw_l 0 [1, 3]))), (h8, .inl (Y 2, 13824, .inr (.inl (jw_L 0 [1]))))] := hD
  refine lv_aload_n hx hb dX12_layWeights_5 rfl (lv_at hl 0 rfl) ?_
  refine jw_mv (wc := [(h0, .inr (15, [.ref h9, .int 0, .int 0, .ref h10, .int 0, .int (-1), .int 0, .int 0, .int 0, .int 0, .int 0, .int 2, .int 0, .int 0, .int 0, .ref h11, .ref h12, .ref h13, .ref h14, .int 2, .int 0, .int 0, .int 0, .int 0, .ref h15, .ref h16, .ref h17, .ref h18, .int 2, .ref h1, .int 1, .ref h2, .ref h19, .int 1, .ref h20, .ref h21, .ref h22, .int 0, .ref h23, .ref h24, .ref h25, .ref h26, .ref h3, .ref h4, .ref h27, .ref h5, .ref h6, .int 9, .ref h7, .ref h28, .ref h8, .int (-1), .ref h29, .long 0, .long 0, .int (-1), .int (-1), .long 0, .long 1, .ref h30, .ref h31, .ref h32, .ref h33, .ref h34, .ref h35, .long 0])), (h1, .inl (Y 1, 100, .inl (jw_l 0 [0, 1, 0, 0, 1, 0, 0, 0, 1, 1]))), (h2, .inl (Y 1, 13824, .inl (jw_l 0 [0]))), (h3, .inl (Y 1, 6, .inl (jw_l 0 [0, 1]))), (h4, .inl (Y 1, 14425, .inl (jw_l 0 [0]))), (h5, .inl (Y 1, 13824, .inl (jw_l 0 [0]))), (h6, .inl (Y 1, 16, .inl (jw_l 0 [1, 2, 0, 0, 2, 1, 0, 0, 0, 0, 0, 0, 0, 0, 0, 0]))), (h7, .inl (Y 1, 5, .inl (jw_l 0 [1, 3])))]) (cs := 0) (ss := 0) (va_runV (As := []) (rest := []) ⟨hx, hb, hml, hown, hts⟩ (k378_X12_layMasks h0 h1 h2 h3 h4 h5 h6 h7 h9 h10 h11 h12 h13 h14 h15 h16 h17 h18 h19 h20 h21 h22 h23 h24 h25 h26 h27 h28 h8 h29 h30 h31 h32 h33 h34 h35 H.size) (cwV 0 hts gX12_layWeights_X12_layMasks rfl rfl rfl ydV_X12_layMasks ⟨Nat.le_of_ble_eq_true rfl, Nat.le_of_ble_eq_true rfl⟩) (jw_mpreV (ci := 15) (q0 := 0) hP hD hS hA hE [true, true, true, true, true, true, true, true] rfl rfl rfl) rfl rfl hl.1 rfl (lv_room (Nat.le_of_ble_eq_true rfl)) dX12_layWeights_6 ⟨Nat.le_of_ble_eq_true rfl, Nat.le_of_ble_eq_true rfl⟩) hP hD hS hA [true, true, true, true, true, true, true, true] rfl rfl rfl (fun w1 H locs hw9 hP hD hS => ?_)
  subst hw9
  have hP : va_P D vwCl [(h0, .inr (15, [.ref h9, .int 0, .int 0, .ref h10, .int 0, .int (-1), .int 0, .int 0, .int 0, .int 0, .int 0, .int 2, .int 0, .int 0, .int 0, .ref h11, .ref h12, .ref h13, .ref h14, .int 2, .int 0, .int 0, .int 0, .int 0, .ref h15, .ref h16, .ref h17, .ref h18, .int 2, .ref h1, .int 1, .ref h2, .ref h19, .int 1, .ref h20, .ref h21, .ref h22, .int 0, .ref h23, .ref h24, .ref h25, .ref h26, .ref h3, .ref h4, .ref h27, .ref h5, .ref h6, .int 9, .ref h7, .ref h28, .ref h8, .int (-1), .ref h29, .long 0, .long 0, .int (-1), .int (-1), .long 0, .long 1, .ref h30, .ref h31, .ref h32, .ref h33, .ref h34, .ref h35, .long 0])), (h1, .inl (Y 1, 100, .inl (jw_l 0 [0, 1, 0, 0, 1, 0, 0, 0, 1, 1]))), (h2, .inl (Y 1, 13824, .inl (jw_l 0 [0]))), (h3, .inl (Y 1, 6, .inl (jw_l 0 [0, 1]))), (h4, .inl (Y 1, 14425, .inl (jw_l 0 [0]))), (h5, .inl (Y 1, 13824, .inl (jw_l 0 [0]))), (h6, .inl (Y 1, 16, .inl (jw_l 0 [1, 2, 0, 0, 2, 1, 0, 0, 0, 0, 0, 0, 0, 0, 0, 0]))), (h7, .inl (Y 1, 5, .inl (jw_l 0 [1, 3]))), (h8, .inl (Y 2, 13824, .inr (.inl (jw_L 0 [1]))))] H := hP
  have hD : va_D A [(h0, .inr (15, [.ref h9, .int 0, .int 0, .ref h10, .int 0, .int (-1), .int 0, .int 0, .int 0, .int 0, .int 0, .int 2, .int 0, .int 0, .int 0, .ref h11, .ref h12, .ref h13, .ref h14, .int 2, .int 0, .int 0, .int 0, .int 0, .ref h15, .ref h16, .ref h17, .ref h18, .int 2, .ref h1, .int 1, .ref h2, .ref h19, .int 1, .ref h20, .ref h21, .ref h22, .int 0, .ref h23, .ref h24, .ref h25, .ref h26, .ref h3, .ref h4, .ref h27, .ref h5, .ref h6, .int 9, .ref h7, .ref h28, .ref h8, .int (-1), .ref h29, .long 0, .long 0, .int (-1), .int (-1), .long 0, .long 1, .ref h30, .ref h31, .ref h32, .ref h33, .ref h34, .ref h35, .long 0])), (h1, .inl (Y 1, 100, .inl (jw_l 0 [0, 1, 0, 0, 1, 0, 0, 0, 1, 1]))), (h2, .inl (Y 1, 13824, .inl (jw_l 0 [0]))), (h3, .inl (Y 1, 6, .inl (jw_l 0 [0, 1]))), (h4, .inl (Y 1, 14425, .inl (jw_l 0 [0]))), (h5, .inl (Y 1, 13824, .inl (jw_l 0 [0]))), (h6, .inl (Y 1, 16, .inl (jw_l 0 [1, 2, 0, 0, 2, 1, 0, 0, 0, 0, 0, 0, 0, 0, 0, 0]))), (h7, .inl (Y 1, 5, .inl (jw_l 0 [1, 3]))), (h8, .inl (Y 2, 13824, .inr (.inl (jw_L 0 [1]))))] := hD
  refine lv_iload_n hx hb dX12_layWeights_9 rfl (lv_at hl 2 rfl) ?_
  refine lv_if_eq (tgt := 20) hx hb dX12_layWeights_10 (by decide) (fun _ => ?_) (fun c9 => absurd (by decide +kernel) c9)
  refine lv_iconst (v := 0) hx hb dX12_layWeights_20 (by decide +kernel) ?_
  refine lv_istore_n (lv' := [(3, .int 0), (0, .ref h0), (1, .int 1), (2, .int 0)]) hx hb dX12_layWeights_21 rfl hl (by decide) rfl (fun ls hl => ?_)
  refine lv_iconst (v := 0) hx hb dX12_layWeights_22 (by decide +kernel) ?_
  refine lv_istore (lv' := [(4, .int 0), (3, .int 0), (0, .ref h0), (1, .int 1), (2, .int 0)]) hx hb dX12_layWeights_23 hl (by decide) rfl (fun ls hl => ?_)
  refine lv_iload hx hb dX12_layWeights_25 (lv_at hl 0 rfl) ?_
  refine lv_aload_n hx hb dX12_layWeights_27 rfl (lv_at hl 2 rfl) ?_
  refine va_get (D := D) (ci := 15) (v := .int 1) (C := RX12) (T := TX12) (N := 66) hx hb hts iw_X12_layWeights__X12 hown hE.1 hP 0 rfl rfl 30 (by decide) (hts _ mw_X12_layWeights__3) (fun _ h9 => h9) rfl dX12_layWeights_28 ?_
  refine lv_icmp_ge (tgt := 77) hx hb dX12_layWeights_31 (by decide) (fun c9 => absurd c9 (by decide +kernel)) (fun _ => ?_)
  refine lv_aload_n hx hb dX12_layWeights_34 rfl (lv_at hl 2 rfl) ?_
  refine va_get (D := D) (ci := 15) (v := .ref h8) (C := RX12) (T := TX12) (N := 66) hx hb hts iw_X12_layWeights__X12 hown hE.1 hP 0 rfl rfl 50 (by decide) (hts _ mw_X12_layWeights__4) (fun _ h9 => h9) rfl dX12_layWeights_35 ?_
  refine lv_iload hx hb dX12_layWeights_38 (lv_at hl 0 rfl) ?_
  refine lv_iload_n hx hb dX12_layWeights_40 rfl (lv_at hl 3 rfl) ?_
  refine lv_iconst (v := 1) hx hb dX12_layWeights_41 (by decide +kernel) ?_
  refine lv_icmp_ne (tgt := 69) hx hb dX12_layWeights_42 (by decide) (fun c9 => absurd (by decide +kernel) c9) (fun _ => ?_)
  refine lv_aload_n hx hb dX12_layWeights_45 rfl (lv_at hl 2 rfl) ?_
  refine va_get (D := D) (ci := 15) (v := .ref h2) (C := RX12) (T := TX12) (N := 66) hx hb hts iw_X12_layWeights__X12 hown hE.1 hP 0 rfl rfl 31 (by decide) (hts _ mw_X12_layWeights__5) (fun _ h9 => h9) rfl dX12_layWeights_46 ?_
  refine lv_iload hx hb dX12_layWeights_49 (lv_at hl 0 rfl) ?_
  refine jw_iald (v := 0) hx hb hE hP 2 0 rfl (by decide +kernel) (by decide +kernel) dX12_layWeights_51 ?_
  refine lv_if_ne (tgt := 69) hx hb dX12_layWeights_52 (by decide) (fun c9 => absurd (by decide +kernel) c9) (fun _ => ?_)
  refine lv_aload_n hx hb dX12_layWeights_55 rfl (lv_at hl 2 rfl) ?_
  refine lv_iload hx hb dX12_layWeights_56 (lv_at hl 0 rfl) ?_
  refine lv_iload_n hx hb dX12_layWeights_58 rfl (lv_at hl 1 rfl) ?_
  refine jw_mi (wc := [(h0, .inr (15, [.ref h9, .int 0, .int 0, .ref h10, .int 0, .int (-1), .int 0, .int 0, .int 0, .int 0, .int 0, .int 2, .int 0, .int 0, .int 0, .ref h11, .ref h12, .ref h13, .ref h14, .int 2, .int 0, .int 0, .int 0, .int 0, .ref h15, .ref h16, .ref h17, .ref h18, .int 2, .ref h1, .int 1, .ref h2, .ref h19, .int 1, .ref h20, .ref h21, .ref h22, .int 0, .ref h23, .ref h24, .ref h25, .ref h26, .ref h3, .ref h4, .ref h27, .ref h5, .ref h6, .int 9, .ref h7, .ref h28, .ref h8, .int (-1), .ref h29, .long 0, .long 0, .int (-1), .int (-1), .long 0, .long 1, .ref h30, .ref h31, .ref h32, .ref h33, .ref h34, .ref h35, .long 0]))]) (cs := 0) (ss := 0) (va_runV (As := [.int 0, .int 0]) (rest := [.int 0, .ref h8]) ⟨hx, hb, hml, hown, hts⟩ (k381_X12_isAsPlaced h0 h9 h10 h11 h12 h13 h14 h15 h16 h17 h18 h1 h2 h19 h20 h21 h22 h23 h24 h25 h26 h3 h4 h27 h5 h6 h7 h28 h8 h29 h30 h31 h32 h33 h34 h35 H.size) (cwV 2 hts gX12_layWeights_X12_isAsPlaced rfl rfl rfl ydV_X12_isAsPlaced ⟨Nat.le_of_ble_eq_true rfl, Nat.le_of_ble_eq_true rfl⟩) (jw_mpreV (ci := 15) (q0 := 0) hP hD hS hA hE [true] rfl rfl rfl) rfl rfl hl.1 rfl (lv_room (Nat.le_of_ble_eq_true rfl)) dX12_layWeights_59 ⟨Nat.le_of_ble_eq_true rfl, Nat.le_of_ble_eq_true rfl⟩) hP hD hS hA [true] rfl rfl rfl (fun r9 w1 H locs hr9 hw9 hP hD hS => ?_)
  subst hr9
  subst hw9
  have hP : va_P D vwCl [(h0, .inr (15, [.ref h9, .int 0, .int 0, .ref h10, .int 0, .int (-1), .int 0, .int 0, .int 0, .int 0, .int 0, .int 2, .int 0, .int 0, .int 0, .ref h11, .ref h12, .ref h13, .ref h14, .int 2, .int 0, .int 0, .int 0, .int 0, .ref h15, .ref h16, .ref h17, .ref h18, .int 2, .ref h1, .int 1, .ref h2, .ref h19, .int 1, .ref h20, .ref h21, .ref h22, .int 0, .ref h23, .ref h24, .ref h25, .ref h26, .ref h3, .ref h4, .ref h27, .ref h5, .ref h6, .int 9, .ref h7, .ref h28, .ref h8, .int (-1), .ref h29, .long 0, .long 0, .int (-1), .int (-1), .long 0, .long 1, .ref h30, .ref h31, .ref h32, .ref h33, .ref h34, .ref h35, .long 0])), (h1, .inl (Y 1, 100, .inl (jw_l 0 [0, 1, 0, 0, 1, 0, 0, 0, 1, 1]))), (h2, .inl (Y 1, 13824, .inl (jw_l 0 [0]))), (h3, .inl (Y 1, 6, .inl (jw_l 0 [0, 1]))), (h4, .inl (Y 1, 14425, .inl (jw_l 0 [0]))), (h5, .inl (Y 1, 13824, .inl (jw_l 0 [0]))), (h6, .inl (Y 1, 16, .inl (jw_l 0 [1, 2, 0, 0, 2, 1, 0, 0, 0, 0, 0, 0, 0, 0, 0, 0]))), (h7, .inl (Y 1, 5, .inl (jw_l 0 [1, 3]))), (h8, .inl (Y 2, 13824, .inr (.inl (jw_L 0 [1]))))] H := hP
  have hD : va_D A [(h0, .inr (15, [.ref h9, .int 0, .int 0, .ref h10, .int 0, .int (-1), .int 0, .int 0, .int 0, .int 0, .int 0, .int 2, .int 0, .int 0, .int 0, .ref h11, .ref h12, .ref h13, .ref h14, .int 2, .int 0, .int 0, .int 0, .int 0, .ref h15, .ref h16, .ref h17, .ref h18, .int 2, .ref h1, .int 1, .ref h2, .ref h19, .int 1, .ref h20, .ref h21, .ref h22, .int 0, .ref h23, .ref h24, .ref h25, .ref h26, .ref h3, .ref h4, .ref h27, .ref h5, .ref h6, .int 9, .ref h7, .ref h28, .ref h8, .int (-1), .ref h29, .long 0, .long 0, .int (-1), .int (-1), .long 0, .long 1, .ref h30, .ref h31, .ref h32, .ref h33, .ref h34, .ref h35, .long 0])), (h1, .inl (Y 1, 100, .inl (jw_l 0 [0, 1, 0, 0, 1, 0, 0, 0, 1, 1]))), (h2, .inl (Y 1, 13824, .inl (jw_l 0 [0]))), (h3, .inl (Y 1, 6, .inl (jw_l 0 [0, 1]))), (h4, .inl (Y 1, 14425, .inl (jw_l 0 [0]))), (h5, .inl (Y 1, 13824, .inl (jw_l 0 [0]))), (h6, .inl (Y 1, 16, .inl (jw_l 0 [1, 2, 0, 0, 2, 1, 0, 0, 0, 0, 0, 0, 0, 0, 0, 0]))), (h7, .inl (Y 1, 5, .inl (jw_l 0 [1, 3]))), (h8, .inl (Y 2, 13824, .inr (.inl (jw_L 0 [1]))))] := hD
  refine lv_if_eq (tgt := 69) hx hb dX12_layWeights_62 (by decide) (fun c9 => absurd c9 (by decide +kernel)) (fun _ => ?_)
  refine lv_lconst (v := 1) hx hb dX12_layWeights_65 (by decide +kernel) ?_
  refine lv_goto (tgt := 70) hx hb dX12_layWeights_66 (by decide) ?_
  refine jw_last (ws' := [(h0, .inr (15, [.ref h9, .int 0, .int 0, .ref h10, .int 0, .int (-1), .int 0, .int 0, .int 0, .int 0, .int 0, .int 2, .int 0, .int 0, .int 0, .ref h11, .ref h12, .ref h13, .ref h14, .int 2, .int 0, .int 0, .int 0, .int 0, .ref h15, .ref h16, .ref h17, .ref h18, .int 2, .ref h1, .int 1, .ref h2, .ref h19, .int 1, .ref h20, .ref h21, .ref h22, .int 0, .ref h23, .ref h24, .ref h25, .ref h26, .ref h3, .ref h4, .ref h27, .ref h5, .ref h6, .int 9, .ref h7, .ref h28, .ref h8, .int (-1), .ref h29, .long 0, .long 0, .int (-1), .int (-1), .long 0, .long 1, .ref h30, .ref h31, .ref h32, .ref h33, .ref h34, .ref h35, .long 0])), (h1, .inl (Y 1, 100, .inl (jw_l 0 [0, 1, 0, 0, 1, 0, 0, 0, 1, 1]))), (h2, .inl (Y 1, 13824, .inl (jw_l 0 [0]))), (h3, .inl (Y 1, 6, .inl (jw_l 0 [0, 1]))), (h4, .inl (Y 1, 14425, .inl (jw_l 0 [0]))), (h5, .inl (Y 1, 13824, .inl (jw_l 0 [0]))), (h6, .inl (Y 1, 16, .inl (jw_l 0 [1, 2, 0, 0, 2, 1, 0, 0, 0, 0, 0, 0, 0, 0, 0, 0]))), (h7, .inl (Y 1, 5, .inl (jw_l 0 [1, 3]))), (h8, .inl (Y 2, 13824, .inr (.inl (jw_L 0 [1]))))]) hx hb hE hP hD hS 8 0 [1] rfl (by decide +kernel) (by decide +kernel) rfl dX12_layWeights_70 (fun H locs hP hD hS => ?_)
  refine lv_iinc (v := 1) (lv' := [(4, .int 1), (3, .int 0), (0, .ref h0), (1, .int 1), (2, .int 0)]) hx hb dX12_layWeights_71 hl (k := 0) rfl (by decide +kernel) (by decide) rfl (fun ls hl => ?_)
  refine lv_goto (tgt := 25) hx hb dX12_layWeights_74 (by decide) ?_
  refine lv_iload hx hb dX12_layWeights_25 (lv_at hl 0 rfl) ?_
  refine lv_aload_n hx hb dX12_layWeights_27 rfl (lv_at hl 2 rfl) ?_
  refine va_get (D := D) (ci := 15) (v := .int 1) (C := RX12) (T := TX12) (N := 66) hx hb hts iw_X12_layWeights__X12 hown hE.1 hP 0 rfl rfl 30 (by decide) (hts _ mw_X12_layWeights__3) (fun _ h9 => h9) rfl dX12_layWeights_28 ?_
  refine lv_icmp_ge (tgt := 77) hx hb dX12_layWeights_31 (by decide) (fun _ => ?_) (fun c9 => absurd (by decide +kernel) c9)
  refine lv_iload_n hx hb dX12_layWeights_77 rfl (lv_at hl 3 rfl) ?_
  refine lv_iconst (v := 1) hx hb dX12_layWeights_78 (by decide +kernel) ?_
  refine lv_icmp_eq (tgt := 89) hx hb dX12_layWeights_79 (by decide) (fun _ => ?_) (fun c9 => absurd (by decide +kernel) c9)
  refine W.widen (k := 0) (n := 0) (Nat.le_of_ble_eq_true rfl) (Nat.le_of_ble_eq_true rfl) ?_
  exact jw_vret hx hb hr hlocks rfl hP hD hS dX12_layWeights_89
set_option maxHeartbeats 4000000 in
set_option maxRecDepth 100000 in
theorem k383_X12_layApart {l : Launch} {D : va_G} {Y : Nat → ClassId} {tt : Nat → Nat} (h0 h1 h2 h3 h4 h5 h6 h7 h8 h9 h10 h11 h12 h13 h14 h15 h16 h17 h18 h19 h20 h21 h22 h23 h24 h25 h26 h27 h28 h29 h30 h31 h32 h33 h34 h35 : Nat) (sz : Nat) : Met l yX12_layApart wsX12_layApart ({ frames := 2, cells := 0, slots := 0, locals := 54 }) (jw_Pc D Y tt [.ref h0, .int 0, .int 1] [(h0, .inr (15, [.ref h10, .int 0, .int 0, .ref h11, .int 0, .int (-1), .int 0, .int 0, .int 0, .int 0, .int 0, .int 2, .int 0, .int 0, .int 0, .ref h12, .ref h13, .ref h14, .ref h15, .int 2, .int 0, .int 0, .int 0, .int 0, .ref h16, .ref h17, .ref h18, .ref h19, .int 2, .ref h1, .int 1, .ref h2, .ref h20, .int 1, .ref h21, .ref h22, .ref h23, .int 0, .ref h24, .ref h25, .ref h26, .ref h27, .ref h3, .ref h4, .ref h5, .ref h6, .ref h7, .int 9, .ref h8, .ref h28, .ref h9, .int (-1), .ref h29, .long 0, .long 0, .int (-1), .int (-1), .long 0, .long 1, .ref h30, .ref h31, .ref h32, .ref h33, .ref h34, .ref h35, .long 0])), (h1, .inl (Y 1, 100, .inl (jw_l 0 [0, 1, 0, 0, 1, 0, 0, 0, 1, 1]))), (h2, .inl (Y 1, 13824, .inl (jw_l 0 [0]))), (h3, .inl (Y 1, 6, .inl (jw_l 0 [0, 1]))), (h4, .inl (Y 1, 14425, .inl (jw_l 0 [0]))), (h5, .inl (Y 2, 14425, .inr (.inl (jw_L 0 [1])))), (h6, .inl (Y 1, 13824, .inl (jw_l 0 [0]))), (h7, .inl (Y 1, 16, .inl (jw_l 0 [1, 2, 0, 0, 2, 1, 0, 0, 0, 0, 0, 0, 0, 0, 0, 0]))), (h8, .inl (Y 1, 5, .inl (jw_l 0 [1, 3]))), (h9, .inl (Y 2, 13824, .inr (.inl (jw_L 0 [1]))))] sz) (jw_Qv D (fun w => w = [(h0, .inr (15, [.ref h10, .int 0, .int 0, .ref h11, .int 0, .int (-1), .int 0, .int 0, .int 0, .int 0, .int 0, .int 2, .int 0, .int 0, .int 0, .ref h12, .ref h13, .ref h14, .ref h15, .int 2, .int 0, .int 0, .int 0, .int 0, .ref h16, .ref h17, .ref h18, .ref h19, .int 2, .ref h1, .int 1, .ref h2, .ref h20, .int 1, .ref h21, .ref h22, .ref h23, .int 0, .ref h24, .ref h25, .ref h26, .ref h27, .ref h3, .ref h4, .ref h5, .ref h6, .ref h7, .int 9, .ref h8, .ref h28, .ref h9, .int (-1), .ref h29, .long 0, .long 0, .int (-1), .int (-1), .long 0, .long 1, .ref h30, .ref h31, .ref h32, .ref h33, .ref h34, .ref h35, .long 0])), (h1, .inl (Y 1, 100, .inl (jw_l 0 [0, 1, 0, 0, 1, 0, 0, 0, 1, 1]))), (h2, .inl (Y 1, 13824, .inl (jw_l 0 [0]))), (h3, .inl (Y 1, 6, .inl (jw_l 0 [0, 1]))), (h4, .inl (Y 1, 14425, .inl (jw_l 0 [0]))), (h5, .inl (Y 2, 14425, .inr (.inl (jw_L 0 [1])))), (h6, .inl (Y 1, 13824, .inl (jw_l 0 [0]))), (h7, .inl (Y 1, 16, .inl (jw_l 0 [1, 2, 0, 0, 2, 1, 0, 0, 0, 0, 0, 0, 0, 0, 0, 0]))), (h8, .inl (Y 1, 5, .inl (jw_l 0 [1, 3]))), (h9, .inl (Y 2, 13824, .inr (.inl (jw_L 0 [1]))))]) (va_A [(h0, .inr (15, [.ref h10, .int 0, .int 0, .ref h11, .int 0, .int (-1), .int 0, .int 0, .int 0, .int 0, .int 0, .int 2, .int 0, .int 0, .int 0, .ref h12, .ref h13, .ref h14, .ref h15, .int 2, .int 0, .int 0, .int 0, .int 0, .ref h16, .ref h17, .ref h18, .ref h19, .int 2, .ref h1, .int 1, .ref h2, .ref h20, .int 1, .ref h21, .ref h22, .ref h23, .int 0, .ref h24, .ref h25, .ref h26, .ref h27, .ref h3, .ref h4, .ref h5, .ref h6, .ref h7, .int 9, .ref h8, .ref h28, .ref h9, .int (-1), .ref h29, .long 0, .long 0, .int (-1), .int (-1), .long 0, .long 1, .ref h30, .ref h31, .ref h32, .ref h33, .ref h34, .ref h35, .long 0])), (h1, .inl (Y 1, 100, .inl (jw_l 0 [0, 1, 0, 0, 1, 0, 0, 0, 1, 1]))), (h2, .inl (Y 1, 13824, .inl (jw_l 0 [0]))), (h3, .inl (Y 1, 6, .inl (jw_l 0 [0, 1]))), (h4, .inl (Y 1, 14425, .inl (jw_l 0 [0]))), (h5, .inl (Y 2, 14425, .inr (.inl (jw_L 0 [1])))), (h6, .inl (Y 1, 13824, .inl (jw_l 0 [0]))), (h7, .inl (Y 1, 16, .inl (jw_l 0 [1, 2, 0, 0, 2, 1, 0, 0, 0, 0, 0, 0, 0, 0, 0, 0]))), (h8, .inl (Y 1, 5, .inl (jw_l 0 [1, 3]))), (h9, .inl (Y 2, 13824, .inr (.inl (jw_L 0 [1]))))] sz)) 0 0 (va_A [(h0, .inr (15, [.ref h10, .int 0, .int 0, .ref h11, .int 0, .int (-1), .int 0, .int 0, .int 0, .int 0, .int 0, .int 2, .int 0, .int 0, .int 0, .ref h12, .ref h13, .ref h14, .ref h15, .int 2, .int 0, .int 0, .int 0, .int 0, .ref h16, .ref h17, .ref h18, .ref h19, .int 2, .ref h1, .int 1, .ref h2, .ref h20, .int 1, .ref h21, .ref h22, .ref h23, .int 0, .ref h24, .ref h25, .ref h26, .ref h27, .ref h3, .ref h4, .ref h5, .ref h6, .ref h7, .int 9, .ref h8, .ref h28, .ref h9, .int (-1), .ref h29, .long 0, .long 0, .int (-1), .int (-1), .long 0, .long 1, .ref h30, .ref h31, .ref h32, .ref h33, .ref h34, .ref h35, .long 0])), (h1, .inl (Y 1, 100, .inl (jw_l 0 [0, 1, 0, 0, 1, 0, 0, 0, 1, 1]))), (h2, .inl (Y 1, 13824, .inl (jw_l 0 [0]))), (h3, .inl (Y 1, 6, .inl (jw_l 0 [0, 1]))), (h4, .inl (Y 1, 14425, .inl (jw_l 0 [0]))), (h5, .inl (Y 2, 14425, .inr (.inl (jw_L 0 [1])))), (h6, .inl (Y 1, 13824, .inl (jw_l 0 [0]))), (h7, .inl (Y 1, 16, .inl (jw_l 0 [1, 2, 0, 0, 2, 1, 0, 0, 0, 0, 0, 0, 0, 0, 0, 0]))), (h8, .inl (Y 1, 5, .inl (jw_l 0 [1, 3]))), (h9, .inl (Y 2, 13824, .inr (.inl (jw_L 0 [1]))))] sz) := by
  refine jw_met (fun A => jw_Qv D (fun w => w = [(h0, .inr (15, [.ref h10, .int 0, .int 0, .ref h11, .int 0, .int (-1), .int 0, .int 0, .int 0, .int 0, .int 0, .int 2, .int 0, .int 0, .int 0, .ref h12, .ref h13, .ref h14, .ref h15, .int 2, .int 0, .int 0, .int 0, .int 0, .ref h16, .ref h17, .ref h18, .ref h19, .int 2, .ref h1, .int 1, .ref h2, .ref h20, .int 1, .ref h21, .ref h22, .ref h23, .int 0, .ref h24, .ref h25, .ref h26, .ref h27, .ref h3, .ref h4, .ref h5, .ref h6, .ref h7, .int 9, .ref h8, .ref h28, .ref h9, .int (-1), .ref h29, .long 0, .long 0, .int (-1), .int (-1), .long 0, .long 1, .ref h30, .ref h31, .ref h32, .ref h33, .ref h34, .ref h35, .long 0])), (h1, .inl (Y 1, 100, .inl (jw_l 0 [0, 1, 0, 0, 1, 0, 0, 0, 1, 1]))), (h2, .inl (Y 1, 13824, .inl (jw_l 0 [0]))), (h3, .inl (Y 1, 6, .inl (jw_l 0 [0, 1]))), (h4, .inl (Y 1, 14425, .inl (jw_l 0 [0]))), (h5, .inl (Y 2, 14425, .inr (.inl (jw_L 0 [1])))), (h6, .inl (Y 1, 13824, .inl (jw_l 0 [0]))), (h7, .inl (Y 1, 16, .inl (jw_l 0 [1, 2, 0, 0, 2, 1, 0, 0, 0, 0, 0, 0, 0, 0, 0, 0]))), (h8, .inl (Y 1, 5, .inl (jw_l 0 [1, 3]))), (h9, .inl (Y 2, 13824, .inr (.inl (jw_L 0 [1]))))]) A) (cc := cX12_layApart) (maxL := 13) (ret := none) pn_X12_layApart rfl rfl ?_
  intro p e s m below meth c A H locs ls hx hb hml hr hts hown hlocks hin hP hD hA hS hE hl
  have hown : s.vm.findClass RX12 = some m.cls := hown
  have hl : lv_has ls 13 [(0, .ref h0), (1, .int 0), (2, .int 1)] := hl
  refine lv_aload_n hx hb dX12_layApart_0 rfl (lv_at hl 0 rfl) ?_
  refine lv_iload_n hx hb dX12_layApart_1 rfl (lv_at hl 1 rfl) ?_
  refine lv_iconst (v := 0) hx hb dX12_layApart_2 (by decide +kernel) ?_
  refine jw_mv (wc := [(h0, .inr (15, [.ref h10, .int 0, .int 0, .ref h11, .int 0, .int (-1), .int 0, .int 0, .int 0, .int 0, .int 0, .int 2, .int 0, .int 0, .int 0, .ref h12, .ref h13, .ref h14, .ref h15, .int 2, .int 0, .int 0, .int 0, .int 0, .ref h16, .ref h17, .ref h18, .ref h19, .int 2, .ref h1, .int 1, .ref h2, .ref h20, .int 1, .ref h21, .ref h22, .ref h23, .int 0, .ref h24, .ref h25, .ref h26, .ref h27, .ref h3, .ref h4, .ref h5, .ref h6, .ref h7, .int 9, .ref h8, .ref h28, .ref h9, .int (-1), .ref h29, .long 0, .long 0, .int (-1), .int (-1), .long 0, .long 1, .ref h30, .ref h31, .ref h32, .ref h33, .ref h34, .ref h35, .long 0])), (h1, .inl (Y 1, 100, .inl (jw_l 0 [0, 1, 0, 0, 1, 0, 0, 0, 1, 1]))), (h2, .inl (Y 1, 13824, .inl (jw_l 0 [0]))), (h3, .inl (Y 1, 6, .inl (jw_l 0 [0, 1]))), (h4, .inl (Y 1, 14425, .inl (jw_l 0 [0]))), (h5, .inl (Y 2, 14425, .inr (.inl (jw_L 0 [1])))), (h6, .inl (Y 1, 13824, .inl (jw_l 0 [0]))), (h7, .inl (Y 1, 16, .inl (jw_l 0 [1, 2, 0, 0, 2, 1, 0, 0, 0, 0, 0, 0, 0, 0, 0, 0]))), (h8, .inl (Y 1, 5, .inl (jw_l 0 [1, 3]))), (h9, .inl (Y 2, 13824, .inr (.inl (jw_L 0 [1]))))]) (cs := 0) (ss := 0) (va_runV (As := [.int 0, .int 0]) (rest := []) ⟨hx, hb, hml, hown, hts⟩ (k379_X12_layWeights h0 h1 h2 h3 h4 h5 h6 h7 h8 h9 h10 h11 h12 h13 h14 h15 h16 h17 h18 h19 h20 h21 h22 h23 h24 h25 h26 h27 h28 h29 h30 h31 h32 h33 h34 h35 H.size) (cwV 2 hts gX12_layApart_X12_layWeights rfl rfl rfl ydV_X12_layWeights ⟨Nat.le_of_ble_eq_true rfl, Nat.le_of_ble_eq_true rfl⟩) (jw_mpreV (ci := 15) (q0 := 0) hP hD hS hA hE [true, true, true, true, true, true, true, true, true, true] rfl rfl rfl) rfl rfl hl.1 rfl (lv_room (Nat.le_of_ble_eq_true rfl)) dX12_layApart_3 ⟨Nat.le_of_ble_eq_true rfl, Nat.le_of_ble_eq_true rfl⟩) hP hD hS hA [true, true, true, true, true, true, true, true, true, true] rfl rfl rfl (fun w1 H locs hw9 hP hD hS => ?_)
  subst hw9
  have hP : va_P D vwCl [(h0, .inr (15, [.ref h10, .int 0, .int 0, .ref h11, .int 0, .int (-1), .int 0, .int 0, .int 0, .int 0, .int 0, .int 2, .int 0, .int 0, .int 0, .ref h12, .ref h13, .ref h14, .ref h15, .int 2, .int 0, .int 0, .int 0, .int 0, .ref h16, .ref h17, .ref h18, .ref h19, .int 2, .ref h1, .int 1, .ref h2, .ref h20, .int 1, .ref h21, .ref h22, .ref h23, .int 0, .ref h24, .ref h25, .ref h26, .ref h27, .ref h3, .ref h4, .ref h5, .ref h6, .ref h7, .int 9, .ref h8, .ref h28, .ref h9, .int (-1), .ref h29, .long 0, .long 0, .int (-1), .int (-1), .long 0, .long 1, .ref h30, .ref h31, .ref h32, .ref h33, .ref h34, .ref h35, .long 0])), (h1, .inl (Y 1, 100, .inl (jw_l 0 [0, 1, 0, 0, 1, 0, 0, 0, 1, 1]))), (h2, .inl (Y 1, 13824, .inl (jw_l 0 [0]))), (h3, .inl (Y 1, 6, .inl (jw_l 0 [0, 1]))), (h4, .inl (Y 1, 14425, .inl (jw_l 0 [0]))), (h5, .inl (Y 2, 14425, .inr (.inl (jw_L 0 [1])))), (h6, .inl (Y 1, 13824, .inl (jw_l 0 [0]))), (h7, .inl (Y 1, 16, .inl (jw_l 0 [1, 2, 0, 0, 2, 1, 0, 0, 0, 0, 0, 0, 0, 0, 0, 0]))), (h8, .inl (Y 1, 5, .inl (jw_l 0 [1, 3]))), (h9, .inl (Y 2, 13824, .inr (.inl (jw_L 0 [1]))))] H := hP
  have hD : va_D A [(h0, .inr (15, [.ref h10, .int 0, .int 0, .ref h11, .int 0, .int (-1), .int 0, .int 0, .int 0, .int 0, .int 0, .int 2, .int 0, .int 0, .int 0, .ref h12, .ref h13, .ref h14, .ref h15, .int 2, .int 0, .int 0, .int 0, .int 0, .ref h16, .ref h17, .ref h18, .ref h19, .int 2, .ref h1, .int 1, .ref h2, .ref h20, .int 1, .ref h21, .ref h22, .ref h23, .int 0, .ref h24, .ref h25, .ref h26, .ref h27, .ref h3, .ref h4, .ref h5, .ref h6, .ref h7, .int 9, .ref h8, .ref h28, .ref h9, .int (-1), .ref h29, .long 0, .long 0, .int (-1), .int (-1), .long 0, .long 1, .ref h30, .ref h31, .ref h32, .ref h33, .ref h34, .ref h35, .long 0])), (h1, .inl (Y 1, 100, .inl (jw_l 0 [0, 1, 0, 0, 1, 0, 0, 0, 1, 1]))), (h2, .inl (Y 1, 13824, .inl (jw_l 0 [0]))), (h3, .inl (Y 1, 6, .inl (jw_l 0 [0, 1]))), (h4, .inl (Y 1, 14425, .inl (jw_l 0 [0]))), (h5, .inl (Y 2, 14425, .inr (.inl (jw_L 0 [1])))), (h6, .inl (Y 1, 13824, .inl (jw_l 0 [0]))), (h7, .inl (Y 1, 16, .inl (jw_l 0 [1, 2, 0, 0, 2, 1, 0, 0, 0, 0, 0, 0, 0, 0, 0, 0]))), (h8, .inl (Y 1, 5, .inl (jw_l 0 [1, 3]))), (h9, .inl (Y 2, 13824, .inr (.inl (jw_L 0 [1]))))] := hD
  refine lv_aload_n hx hb dX12_layApart_6 rfl (lv_at hl 0 rfl) ?_
  refine jw_ml (wc := [(h0, .inr (15, [.ref h10, .int 0, .int 0, .ref h11, .int 0, .int (-1), .int 0, .int 0, .int 0, .int 0, .int 0, .int 2, .int 0, .int 0, .int 0, .ref h12, .ref h13, .ref h14, .ref h15, .int 2, .int 0, .int 0, .int 0, .int 0, .ref h16, .ref h17, .ref h18, .ref h19, .int 2, .ref h1, .int 1, .ref h2, .ref h20, .int 1, .ref h21, .ref h22, .ref h23, .int 0, .ref h24, .ref h25, .ref h26, .ref h27, .ref h3, .ref h4, .ref h5, .ref h6, .ref h7, .int 9, .ref h8, .ref h28, .ref h9, .int (-1), .ref h29, .long 0, .long 0, .int (-1), .int (-1), .long 0, .long 1, .ref h30, .ref h31, .ref h32, .ref h33, .ref h34, .ref h35, .long 0])), (h9, .inl (Y 2, 13824, .inr (.inl (jw_L 0 [1]))))]) (cs := 0) (ss := 0) (va_runV (As := []) (rest := []) ⟨hx, hb, hml, hown, hts⟩ (k380_X12_allRows h0 h9 h10 h11 h12 h13 h14 h15 h16 h17 h18 h19 h1 h2 h20 h21 h22 h23 h24 h25 h26 h27 h3 h4 h5 h6 h7 h8 h28 h29 h30 h31 h32 h33 h34 h35 H.size) (cwV 0 hts gX12_layApart_X12_allRows rfl rfl rfl ydV_X12_allRows ⟨Nat.le_of_ble_eq_true rfl, Nat.le_of_ble_eq_true rfl⟩) (jw_mpreV (ci := 15) (q0 := 0) hP hD hS hA hE [true, false, false, false, false, false, false, false, false, true] rfl rfl rfl) rfl rfl hl.1 rfl (lv_room (Nat.le_of_ble_eq_true rfl)) dX12_layApart_7 ⟨Nat.le_of_ble_eq_true rfl, Nat.le_of_ble_eq_true rfl⟩) hP hD hS hA [true, false, false, false, false, false, false, false, false, true] rfl rfl rfl (fun r9 w1 H locs hr9 hw9 hP hD hS => ?_)
  subst hr9
  subst hw9
  have hP : va_P D vwCl [(h0, .inr (15, [.ref h10, .int 0, .int 0, .ref h11, .int 0, .int (-1), .int 0, .int 0, .int 0, .int 0, .int 0, .int 2, .int 0, .int 0, .int 0, .ref h12, .ref h13, .ref h14, .ref h15, .int 2, .int 0, .int 0, .int 0, .int 0, .ref h16, .ref h17, .ref h18, .ref h19, .int 2, .ref h1, .int 1, .ref h2, .ref h20, .int 1, .ref h21, .ref h22, .ref h23, .int 0, .ref h24, .ref h25, .ref h26, .ref h27, .ref h3, .ref h4, .ref h5, .ref h6, .ref h7, .int 9, .ref h8, .ref h28, .ref h9, .int (-1), .ref h29, .long 0, .long 0, .int (-1), .int (-1), .long 0, .long 1, .ref h30, .ref h31, .ref h32, .ref h33, .ref h34, .ref h35, .long 0])), (h1, .inl (Y 1, 100, .inl (jw_l 0 [0, 1, 0, 0, 1, 0, 0, 0, 1, 1]))), (h2, .inl (Y 1, 13824, .inl (jw_l 0 [0]))), (h3, .inl (Y 1, 6, .inl (jw_l 0 [0, 1]))), (h4, .inl (Y 1, 14425, .inl (jw_l 0 [0]))), (h5, .inl (Y 2, 14425, .inr (.inl (jw_L 0 [1])))), (h6, .inl (Y 1, 13824, .inl (jw_l 0 [0]))), (h7, .inl (Y 1, 16, .inl (jw_l 0 [1, 2, 0, 0, 2, 1, 0, 0, 0, 0, 0, 0, 0, 0, 0, 0]))), (h8, .inl (Y 1, 5, .inl (jw_l 0 [1, 3]))), (h9, .inl (Y 2, 13824, .inr (.inl (jw_L 0 [1]))))] H := hP
  have hD : va_D A [(h0, .inr (15, [.ref h10, .int 0, .int 0, .ref h11, .int 0, .int (-1), .int 0, .int 0, .int 0, .int 0, .int 0, .int 2, .int 0, .int 0, .int 0, .ref h12, .ref h13, .ref h14, .ref h15, .int 2, .int 0, .int 0, .int 0, .int 0, .ref h16, .ref h17, .ref h18, .ref h19, .int 2, .ref h1, .int 1, .ref h2, .ref h20, .int 1, .ref h21, .ref h22, .ref h23, .int 0, .ref h24, .ref h25, .ref h26, .ref h27, .ref h3, .ref h4, .ref h5, .ref h6, .ref h7, .int 9, .ref h8, .ref h28, .ref h9, .int (-1), .ref h29, .long 0, .long 0, .int (-1), .int (-1), .long 0, .long 1, .ref h30, .ref h31, .ref h32, .ref h33, .ref h34, .ref h35, .long 0])), (h1, .inl (Y 1, 100, .inl (jw_l 0 [0, 1, 0, 0, 1, 0, 0, 0, 1, 1]))), (h2, .inl (Y 1, 13824, .inl (jw_l 0 [0]))), (h3, .inl (Y 1, 6, .inl (jw_l 0 [0, 1]))), (h4, .inl (Y 1, 14425, .inl (jw_l 0 [0]))), (h5, .inl (Y 2, 14425, .inr (.inl (jw_L 0 [1])))), (h6, .inl (Y 1, 13824, .inl (jw_l 0 [0]))), (h7, .inl (Y 1, 16, .inl (jw_l 0 [1, 2, 0, 0, 2, 1, 0, 0, 0, 0, 0, 0, 0, 0, 0, 0]))), (h8, .inl (Y 1, 5, .inl (jw_l 0 [1, 3]))), (h9, .inl (Y 2, 13824, .inr (.inl (jw_L 0 [1]))))] := hD
  refine lv_lstore_n (lv' := [(3, .long 1), (0, .ref h0), (1, .int 0), (2, .int 1)]) hx hb dX12_layApart_10 rfl hl (by decide) rfl (fun ls hl => ?_)
  refine lv_iconst (v := 0) hx hb dX12_layApart_11 (by decide +kernel) ?_
  refine lv_istore (lv' := [(5, .int 0), (3, .long 1), (0, .ref h0), (1, .int 0), (2, .int 1)]) hx hb dX12_layApart_12 hl (by decide) rfl (fun ls hl => ?_)
  refine lv_iload hx hb dX12_layApart_14 (lv_at hl 0 rfl) ?_
  refine lv_aload_n hx hb dX12_layApart_16 rfl (lv_at hl 2 rfl) ?_
  refine jw_mi (wc := [(h0, .inr (15, [.ref h10, .int 0, .int 0, .ref h11, .int 0, .int (-1), .int 0, .int 0, .int 0, .int 0, .int 0, .int 2, .int 0, .int 0, .int 0, .ref h12, .ref h13, .ref h14, .ref h15, .int 2, .int 0, .int 0, .int 0, .int 0, .ref h16, .ref h17, .ref h18, .ref h19, .int 2, .ref h1, .int 1, .ref h2, .ref h20, .int 1, .ref h21, .ref h22, .ref h23, .int 0, .ref h24, .ref h25, .ref h26, .ref h27, .ref h3, .ref h4, .ref h5, .ref h6, .ref h7, .int 9, .ref h8, .ref h28, .ref h9, .int (-1), .ref h29, .long 0, .long 0, .int (-1), .int (-1), .long 0, .long 1, .ref h30, .ref h31, .ref h32, .ref h33, .ref h34, .ref h35, .long 0]))]) (cs := 0) (ss := 0) (va_runV (As := []) (rest := [.int 0]) ⟨hx, hb, hml, hown, hts⟩ (k223_X12_teams h0 h10 h11 h12 h13 h14 h15 h16 h17 h18 h19 h1 h2 h20 h21 h22 h23 h24 h25 h26 h27 h3 h4 h5 h6 h7 h8 h28 h9 h29 h30 h31 h32 h33 h34 h35 H.size) (cwV 0 hts gX12_layApart_X12_teams rfl rfl rfl ydV_X12_teams ⟨Nat.le_of_ble_eq_true rfl, Nat.le_of_ble_eq_true rfl⟩) (jw_mpreV (ci := 15) (q0 := 0) hP hD hS hA hE [true] rfl rfl rfl) rfl rfl hl.1 rfl (lv_room (Nat.le_of_ble_eq_true rfl)) dX12_layApart_17 ⟨Nat.le_of_ble_eq_true rfl, Nat.le_of_ble_eq_true rfl⟩) hP hD hS hA [true] rfl rfl rfl (fun r9 w1 H locs hr9 hw9 hP hD hS => ?_)
  subst hr9
  subst hw9
  have hP : va_P D vwCl [(h0, .inr (15, [.ref h10, .int 0, .int 0, .ref h11, .int 0, .int (-1), .int 0, .int 0, .int 0, .int 0, .int 0, .int 2, .int 0, .int 0, .int 0, .ref h12, .ref h13, .ref h14, .ref h15, .int 2, .int 0, .int 0, .int 0, .int 0, .ref h16, .ref h17, .ref h18, .ref h19, .int 2, .ref h1, .int 1, .ref h2, .ref h20, .int 1, .ref h21, .ref h22, .ref h23, .int 0, .ref h24, .ref h25, .ref h26, .ref h27, .ref h3, .ref h4, .ref h5, .ref h6, .ref h7, .int 9, .ref h8, .ref h28, .ref h9, .int (-1), .ref h29, .long 0, .long 0, .int (-1), .int (-1), .long 0, .long 1, .ref h30, .ref h31, .ref h32, .ref h33, .ref h34, .ref h35, .long 0])), (h1, .inl (Y 1, 100, .inl (jw_l 0 [0, 1, 0, 0, 1, 0, 0, 0, 1, 1]))), (h2, .inl (Y 1, 13824, .inl (jw_l 0 [0]))), (h3, .inl (Y 1, 6, .inl (jw_l 0 [0, 1]))), (h4, .inl (Y 1, 14425, .inl (jw_l 0 [0]))), (h5, .inl (Y 2, 14425, .inr (.inl (jw_L 0 [1])))), (h6, .inl (Y 1, 13824, .inl (jw_l 0 [0]))), (h7, .inl (Y 1, 16, .inl (jw_l 0 [1, 2, 0, 0, 2, 1, 0, 0, 0, 0, 0, 0, 0, 0, 0, 0]))), (h8, .inl (Y 1, 5, .inl (jw_l 0 [1, 3]))), (h9, .inl (Y 2, 13824, .inr (.inl (jw_L 0 [1]))))] H := hP
  have hD : va_D A [(h0, .inr (15, [.ref h10, .int 0, .int 0, .ref h11, .int 0, .int (-1), .int 0, .int 0, .int 0, .int 0, .int 0, .int 2, .int 0, .int 0, .int 0, .ref h12, .ref h13, .ref h14, .ref h15, .int 2, .int 0, .int 0, .int 0, .int 0, .ref h16, .ref h17, .ref h18, .ref h19, .int 2, .ref h1, .int 1, .ref h2, .ref h20, .int 1, .ref h21, .ref h22, .ref h23, .int 0, .ref h24, .ref h25, .ref h26, .ref h27, .ref h3, .ref h4, .ref h5, .ref h6, .ref h7, .int 9, .ref h8, .ref h28, .ref h9, .int (-1), .ref h29, .long 0, .long 0, .int (-1), .int (-1), .long 0, .long 1, .ref h30, .ref h31, .ref h32, .ref h33, .ref h34, .ref h35, .long 0])), (h1, .inl (Y 1, 100, .inl (jw_l 0 [0, 1, 0, 0, 1, 0, 0, 0, 1, 1]))), (h2, .inl (Y 1, 13824, .inl (jw_l 0 [0]))), (h3, .inl (Y 1, 6, .inl (jw_l 0 [0, 1]))), (h4, .inl (Y 1, 14425, .inl (jw_l 0 [0]))), (h5, .inl (Y 2, 14425, .inr (.inl (jw_L 0 [1])))), (h6, .inl (Y 1, 13824, .inl (jw_l 0 [0]))), (h7, .inl (Y 1, 16, .inl (jw_l 0 [1, 2, 0, 0, 2, 1, 0, 0, 0, 0, 0, 0, 0, 0, 0, 0]))), (h8, .inl (Y 1, 5, .inl (jw_l 0 [1, 3]))), (h9, .inl (Y 2, 13824, .inr (.inl (jw_L 0 [1]))))] := hD
  refine lv_icmp_ge (tgt := 71) hx hb dX12_layApart_20 (by decide) (fun _ => ?_) (fun c9 => absurd (by decide +kernel) c9)
  refine lv_aload_n hx hb dX12_layApart_71 rfl (lv_at hl 2 rfl) ?_
  refine lv_iload_n hx hb dX12_layApart_72 rfl (lv_at hl 4 rfl) ?_
  refine lv_iconst (v := 0) hx hb dX12_layApart_73 (by decide +kernel) ?_
  refine jw_mv (wc := [(h0, .inr (15, [.ref h10, .int 0, .int 0, .ref h11, .int 0, .int (-1), .int 0, .int 0, .int 0, .int 0, .int 0, .int 2, .int 0, .int 0, .int 0, .ref h12, .ref h13, .ref h14, .ref h15, .int 2, .int 0, .int 0, .int 0, .int 0, .ref h16, .ref h17, .ref h18, .ref h19, .int 2, .ref h1, .int 1, .ref h2, .ref h20, .int 1, .ref h21, .ref h22, .ref h23, .int 0, .ref h24, .ref h25, .ref h26, .ref h27, .ref h3, .ref h4, .ref h5, .ref h6, .ref h7, .int 9, .ref h8, .ref h28, .ref h9, .int (-1), .ref h29, .long 0, .long 0, .int (-1), .int (-1), .long 0, .long 1, .ref h30, .ref h31, .ref h32, .ref h33, .ref h34, .ref h35, .long 0])), (h1, .inl (Y 1, 100, .inl (jw_l 0 [0, 1, 0, 0, 1, 0, 0, 0, 1, 1]))), (h2, .inl (Y 1, 13824, .inl (jw_l 0 [0]))), (h3, .inl (Y 1, 6, .inl (jw_l 0 [0, 1]))), (h4, .inl (Y 1, 14425, .inl (jw_l 0 [0]))), (h6, .inl (Y 1, 13824, .inl (jw_l 0 [0]))), (h7, .inl (Y 1, 16, .inl (jw_l 0 [1, 2, 0, 0, 2, 1, 0, 0, 0, 0, 0, 0, 0, 0, 0, 0]))), (h8, .inl (Y 1, 5, .inl (jw_l 0 [1, 3]))), (h9, .inl (Y 2, 13824, .inr (.inl (jw_L 0 [1]))))]) (cs := 0) (ss := 0) (va_runV (As := [.int 1, .int 0]) (rest := []) ⟨hx, hb, hml, hown, hts⟩ (k382_X12_layWeights h0 h1 h2 h3 h4 h6 h7 h8 h9 h10 h11 h12 h13 h14 h15 h16 h17 h18 h19 h20 h21 h22 h23 h24 h25 h26 h27 h5 h28 h29 h30 h31 h32 h33 h34 h35 H.size) (cwV 2 hts gX12_layApart_X12_layWeights rfl rfl rfl ydV_X12_layWeights ⟨Nat.le_of_ble_eq_true rfl, Nat.le_of_ble_eq_true rfl⟩) (jw_mpreV (ci := 15) (q0 := 0) hP hD hS hA hE [true, true, true, true, true, false, true, true, true, true] rfl rfl rfl) rfl rfl hl.1 rfl (lv_room (Nat.le_of_ble_eq_true rfl)) dX12_layApart_74 ⟨Nat.le_of_ble_eq_true rfl, Nat.le_of_ble_eq_true rfl⟩) hP hD hS hA [true, true, true, true, true, false, true, true, true, true] rfl rfl rfl (fun w1 H locs hw9 hP hD hS => ?_)
  subst hw9
  have hP : va_P D vwCl [(h0, .inr (15, [.ref h10, .int 0, .int 0, .ref h11, .int 0, .int (-1), .int 0, .int 0, .int 0, .int 0, .int 0, .int 2, .int 0, .int 0, .int 0, .ref h12, .ref h13, .ref h14, .ref h15, .int 2, .int 0, .int 0, .int 0, .int 0, .ref h16, .ref h17, .ref h18, .ref h19, .int 2, .ref h1, .int 1, .ref h2, .ref h20, .int 1, .ref h21, .ref h22, .ref h23, .int 0, .ref h24, .ref h25, .ref h26, .ref h27, .ref h3, .ref h4, .ref h5, .ref h6, .ref h7, .int 9, .ref h8, .ref h28, .ref h9, .int (-1), .ref h29, .long 0, .long 0, .int (-1), .int (-1), .long 0, .long 1, .ref h30, .ref h31, .ref h32, .ref h33, .ref h34, .ref h35, .long 0])), (h1, .inl (Y 1, 100, .inl (jw_l 0 [0, 1, 0, 0, 1, 0, 0, 0, 1, 1]))), (h2, .inl (Y 1, 13824, .inl (jw_l 0 [0]))), (h3, .inl (Y 1, 6, .inl (jw_l 0 [0, 1]))), (h4, .inl (Y 1, 14425, .inl (jw_l 0 [0]))), (h5, .inl (Y 2, 14425, .inr (.inl (jw_L 0 [1])))), (h6, .inl (Y 1, 13824, .inl (jw_l 0 [0]))), (h7, .inl (Y 1, 16, .inl (jw_l 0 [1, 2, 0, 0, 2, 1, 0, 0, 0, 0, 0, 0, 0, 0, 0, 0]))), (h8, .inl (Y 1, 5, .inl (jw_l 0 [1, 3]))), (h9, .inl (Y 2, 13824, .inr (.inl (jw_L 0 [1]))))] H := hP
  have hD : va_D A [(h0, .inr (15, [.ref h10, .int 0, .int 0, .ref h11, .int 0, .int (-1), .int 0, .int 0, .int 0, .int 0, .int 0, .int 2, .int 0, .int 0, .int 0, .ref h12, .ref h13, .ref h14, .ref h15, .int 2, .int 0, .int 0, .int 0, .int 0, .ref h16, .ref h17, .ref h18, .ref h19, .int 2, .ref h1, .int 1, .ref h2, .ref h20, .int 1, .ref h21, .ref h22, .ref h23, .int 0, .ref h24, .ref h25, .ref h26, .ref h27, .ref h3, .ref h4, .ref h5, .ref h6, .ref h7, .int 9, .ref h8, .ref h28, .ref h9, .int (-1), .ref h29, .long 0, .long 0, .int (-1), .int (-1), .long 0, .long 1, .ref h30, .ref h31, .ref h32, .ref h33, .ref h34, .ref h35, .long 0])), (h1, .inl (Y 1, 100, .inl (jw_l 0 [0, 1, 0, 0, 1, 0, 0, 0, 1, 1]))), (h2, .inl (Y 1, 13824, .inl (jw_l 0 [0]))), (h3, .inl (Y 1, 6, .inl (jw_l 0 [0, 1]))), (h4, .inl (Y 1, 14425, .inl (jw_l 0 [0]))), (h5, .inl (Y 2, 14425, .inr (.inl (jw_L 0 [1])))), (h6, .inl (Y 1, 13824, .inl (jw_l 0 [0]))), (h7, .inl (Y 1, 16, .inl (jw_l 0 [1, 2, 0, 0, 2, 1, 0, 0, 0, 0, 0, 0, 0, 0, 0, 0]))), (h8, .inl (Y 1, 5, .inl (jw_l 0 [1, 3]))), (h9, .inl (Y 2, 13824, .inr (.inl (jw_L 0 [1]))))] := hD
  refine lv_aload_n hx hb dX12_layApart_77 rfl (lv_at hl 2 rfl) ?_
  refine jw_ml (wc := [(h0, .inr (15, [.ref h10, .int 0, .int 0, .ref h11, .int 0, .int (-1), .int 0, .int 0, .int 0, .int 0, .int 0, .int 2, .int 0, .int 0, .int 0, .ref h12, .ref h13, .ref h14, .ref h15, .int 2, .int 0, .int 0, .int 0, .int 0, .ref h16, .ref h17, .ref h18, .ref h19, .int 2, .ref h1, .int 1, .ref h2, .ref h20, .int 1, .ref h21, .ref h22, .ref h23, .int 0, .ref h24, .ref h25, .ref h26, .ref h27, .ref h3, .ref h4, .ref h5, .ref h6, .ref h7, .int 9, .ref h8, .ref h28, .ref h9, .int (-1), .ref h29, .long 0, .long 0, .int (-1), .int (-1), .long 0, .long 1, .ref h30, .ref h31, .ref h32, .ref h33, .ref h34, .ref h35, .long 0])), (h9, .inl (Y 2, 13824, .inr (.inl (jw_L 0 [1]))))]) (cs := 0) (ss := 0) (va_runV (As := []) (rest := []) ⟨hx, hb, hml, hown, hts⟩ (k380_X12_allRows h0 h9 h10 h11 h12 h13 h14 h15 h16 h17 h18 h19 h1 h2 h20 h21 h22 h23 h24 h25 h26 h27 h3 h4 h5 h6 h7 h8 h28 h29 h30 h31 h32 h33 h34 h35 H.size) (cwV 0 hts gX12_layApart_X12_allRows rfl rfl rfl ydV_X12_allRows ⟨Nat.le_of_ble_eq_true rfl, Nat.le_of_ble_eq_true rfl⟩) (jw_mpreV (ci := 15) (q0 := 0) hP hD hS hA hE [true, false, false, false, false, false, false, false, false, true] rfl rfl rfl) rfl rfl hl.1 rfl (lv_room (Nat.le_of_ble_eq_true rfl)) dX12_layApart_78 ⟨Nat.le_of_ble_eq_true rfl, Nat.le_of_ble_eq_true rfl⟩) hP hD hS hA [true, false, false, false, false, false, false, false, false, true] rfl rfl rfl (fun r9 w1 H locs hr9 hw9 hP hD hS => ?_)
  subst hr9
  subst hw9
  have hP : va_P D vwCl [(h0, .inr (15, [.ref h10, .int 0, .int 0, .ref h11, .int 0, .int (-1), .int 0, .int 0, .int 0, .int 0, .int 0, .int 2, .int 0, .int 0, .int 0, .ref h12, .ref h13, .ref h14, .ref h15, .int 2, .int 0, .int 0, .int 0, .int 0, .ref h16, .ref h17, .ref h18, .ref h19, .int 2, .ref h1, .int 1, .ref h2, .ref h20, .int 1, .ref h21, .ref h22, .ref h23, .int 0, .ref h24, .ref h25, .ref h26, .ref h27, .ref h3, .ref h4, .ref h5, .ref h6, .ref h7, .int 9, .ref h8, .ref h28, .ref h9, .int (-1), .ref h29, .long 0, .long 0, .int (-1), .int (-1), .long 0, .long 1, .ref h30, .ref h31, .ref h32, .ref h33, .ref h34, .ref h35, .long 0])), (h1, .inl (Y 1, 100, .inl (jw_l 0 [0, 1, 0, 0, 1, 0, 0, 0, 1, 1]))), (h2, .inl (Y 1, 13824, .inl (jw_l 0 [0]))), (h3, .inl (Y 1, 6, .inl (jw_l 0 [0, 1]))), (h4, .inl (Y 1, 14425, .inl (jw_l 0 [0]))), (h5, .inl (Y 2, 14425, .inr (.inl (jw_L 0 [1])))), (h6, .inl (Y 1, 13824, .inl (jw_l 0 [0]))), (h7, .inl (Y 1, 16, .inl (jw_l 0 [1, 2, 0, 0, 2, 1, 0, 0, 0, 0, 0, 0, 0, 0, 0, 0]))), (h8, .inl (Y 1, 5, .inl (jw_l 0 [1, 3]))), (h9, .inl (Y 2, 13824, .inr (.inl (jw_L 0 [1]))))] H := hP
  have hD : va_D A [(h0, .inr (15, [.ref h10, .int 0, .int 0, .ref h11, .int 0, .int (-1), .int 0, .int 0, .int 0, .int 0, .int 0, .int 2, .int 0, .int 0, .int 0, .ref h12, .ref h13, .ref h14, .ref h15, .int 2, .int 0, .int 0, .int 0, .int 0, .ref h16, .ref h17, .ref h18, .ref h19, .int 2, .ref h1, .int 1, .ref h2, .ref h20, .int 1, .ref h21, .ref h22, .ref h23, .int 0, .ref h24, .ref h25, .ref h26, .ref h27, .ref h3, .ref h4, .ref h5, .ref h6, .ref h7, .int 9, .ref h8, .ref h28, .ref h9, .int (-1), .ref h29, .long 0, .long 0, .int (-1), .int (-1), .long 0, .long 1, .ref h30, .ref h31, .ref h32, .ref h33, .ref h34, .ref h35, .long 0])), (h1, .inl (Y 1, 100, .inl (jw_l 0 [0, 1, 0, 0, 1, 0, 0, 0, 1, 1]))), (h2, .inl (Y 1, 13824, .inl (jw_l 0 [0]))), (h3, .inl (Y 1, 6, .inl (jw_l 0 [0, 1]))), (h4, .inl (Y 1, 14425, .inl (jw_l 0 [0]))), (h5, .inl (Y 2, 14425, .inr (.inl (jw_L 0 [1])))), (h6, .inl (Y 1, 13824, .inl (jw_l 0 [0]))), (h7, .inl (Y 1, 16, .inl (jw_l 0 [1, 2, 0, 0, 2, 1, 0, 0, 0, 0, 0, 0, 0, 0, 0, 0]))), (h8, .inl (Y 1, 5, .inl (jw_l 0 [1, 3]))), (h9, .inl (Y 2, 13824, .inr (.inl (jw_L 0 [1]))))] := hD
  refine lv_lstore (lv' := [(5, .long 1), (3, .long 1), (0, .ref h0), (1, .int 0), (2, .int 1)]) hx hb dX12_layApart_81 hl (by decide) rfl (fun ls hl => ?_)
  refine lv_aload_n hx hb dX12_layApart_83 rfl (lv_at hl 2 rfl) ?_
  refine lv_lload_n hx hb dX12_layApart_84 rfl (lv_at hl 1 rfl) ?_
  refine lv_lload hx hb dX12_layApart_85 (lv_at hl 0 rfl) ?_
  refine jw_lmul (v := 1) hx hb dX12_layApart_87 (by decide +kernel) ?_
  refine va_put (D := D) (ci := 15) (v := .long 1) (C := RX12) (T := TX12) (N := 66) hx hb hts iw_X12_layApart__X12 tyX12 tyX12_ok nmX12 hown hE.1 hP hD hS 0 rfl rfl 58 (by decide) (hts _ mw_X12_layApart__2) (fun _ h9 => h9) rfl (tyX12_ok 58 (by decide)) rfl rfl (Nat.le_of_ble_eq_true rfl) dX12_layApart_88 (fun H locs hP hD hS => ?_)
  have hP : va_P D vwCl [(h0, .inr (15, [.ref h10, .int 0, .int 0, .ref h11, .int 0, .int (-1), .int 0, .int 0, .int 0, .int 0, .int 0, .int 2, .int 0, .int 0, .int 0, .ref h12, .ref h13, .ref h14, .ref h15, .int 2, .int 0, .int 0, .int 0, .int 0, .ref h16, .ref h17, .ref h18, .ref h19, .int 2, .ref h1, .int 1, .ref h2, .ref h20, .int 1, .ref h21, .ref h22, .ref h23, .int 0, .ref h24, .ref h25, .ref h26, .ref h27, .ref h3, .ref h4, .ref h5, .ref h6, .ref h7, .int 9, .ref h8, .ref h28, .ref h9, .int (-1), .ref h29, .long 0, .long 0, .int (-1), .int (-1), .long 0, .long 1, .ref h30, .ref h31, .ref h32, .ref h33, .ref h34, .ref h35, .long 0])), (h1, .inl (Y 1, 100, .inl (jw_l 0 [0, 1, 0, 0, 1, 0, 0, 0, 1, 1]))), (h2, .inl (Y 1, 13824, .inl (jw_l 0 [0]))), (h3, .inl (Y 1, 6, .inl (jw_l 0 [0, 1]))), (h4, .inl (Y 1, 14425, .inl (jw_l 0 [0]))), (h5, .inl (Y 2, 14425, .inr (.inl (jw_L 0 [1])))), (h6, .inl (Y 1, 13824, .inl (jw_l 0 [0]))), (h7, .inl (Y 1, 16, .inl (jw_l 0 [1, 2, 0, 0, 2, 1, 0, 0, 0, 0, 0, 0, 0, 0, 0, 0]))), (h8, .inl (Y 1, 5, .inl (jw_l 0 [1, 3]))), (h9, .inl (Y 2, 13824, .inr (.inl (jw_L 0 [1]))))] H := hP
  have hD : va_D A [(h0, .inr (15, [.ref h10, .int 0, .int 0, .ref h11, .int 0, .int (-1), .int 0, .int 0, .int 0, .int 0, .int 0, .int 2, .int 0, .int 0, .int 0, .ref h12, .ref h13, .ref h14, .ref h15, .int 2, .int 0, .int 0, .int 0, .int 0, .ref h16, .ref h17, .ref h18, .ref h19, .int 2, .ref h1, .int 1, .ref h2, .ref h20, .int 1, .ref h21, .ref h22, .ref h23, .int 0, .ref h24, .ref h25, .ref h26, .ref h27, .ref h3, .ref h4, .ref h5, .ref h6, .ref h7, .int 9, .ref h8, .ref h28, .ref h9, .int (-1), .ref h29, .long 0, .long 0, .int (-1), .int (-1), .long 0, .long 1, .ref h30, .ref h31, .ref h32, .ref h33, .ref h34, .ref h35, .long 0])), (h1, .inl (Y 1, 100, .inl (jw_l 0 [0, 1, 0, 0, 1, 0, 0, 0, 1, 1]))), (h2, .inl (Y 1, 13824, .inl (jw_l 0 [0]))), (h3, .inl (Y 1, 6, .inl (jw_l 0 [0, 1]))), (h4, .inl (Y 1, 14425, .inl (jw_l 0 [0]))), (h5, .inl (Y 2, 14425, .inr (.inl (jw_L 0 [1])))), (h6, .inl (Y 1, 13824, .inl (jw_l 0 [0]))), (h7, .inl (Y 1, 16, .inl (jw_l 0 [1, 2, 0, 0, 2, 1, 0, 0, 0, 0, 0, 0, 0, 0, 0, 0]))), (h8, .inl (Y 1, 5, .inl (jw_l 0 [1, 3]))), (h9, .inl (Y 2, 13824, .inr (.inl (jw_L 0 [1]))))] := hD
  refine lv_aload_n hx hb dX12_layApart_91 rfl (lv_at hl 2 rfl) ?_
  refine lv_lconst (v := 0) hx hb dX12_layApart_92 (by decide +kernel) ?_
  refine va_put (D := D) (ci := 15) (v := .long 0) (C := RX12) (T := TX12) (N := 66) hx hb hts iw_X12_layApart__X12 tyX12 tyX12_ok nmX12 hown hE.1 hP hD hS 0 rfl rfl 53 (by decide) (hts _ mw_X12_layApart__3) (fun _ h9 => h9) rfl (tyX12_ok 53 (by decide)) rfl rfl (Nat.le_of_ble_eq_true rfl) dX12_layApart_93 (fun H locs hP hD hS => ?_)
  have hP : va_P D vwCl [(h0, .inr (15, [.ref h10, .int 0, .int 0, .ref h11, .int 0, .int (-1), .int 0, .int 0, .int 0, .int 0, .int 0, .int 2, .int 0, .int 0, .int 0, .ref h12, .ref h13, .ref h14, .ref h15, .int 2, .int 0, .int 0, .int 0, .int 0, .ref h16, .ref h17, .ref h18, .ref h19, .int 2, .ref h1, .int 1, .ref h2, .ref h20, .int 1, .ref h21, .ref h22, .ref h23, .int 0, .ref h24, .ref h25, .ref h26, .ref h27, .ref h3, .ref h4, .ref h5, .ref h6, .ref h7, .int 9, .ref h8, .ref h28, .ref h9, .int (-1), .ref h29, .long 0, .long 0, .int (-1), .int (-1), .long 0, .long 1, .ref h30, .ref h31, .ref h32, .ref h33, .ref h34, .ref h35, .long 0])), (h1, .inl (Y 1, 100, .inl (jw_l 0 [0, 1, 0, 0, 1, 0, 0, 0, 1, 1]))), (h2, .inl (Y 1, 13824, .inl (jw_l 0 [0]))), (h3, .inl (Y 1, 6, .inl (jw_l 0 [0, 1]))), (h4, .inl (Y 1, 14425, .inl (jw_l 0 [0]))), (h5, .inl (Y 2, 14425, .inr (.inl (jw_L 0 [1])))), (h6, .inl (Y 1, 13824, .inl (jw_l 0 [0]))), (h7, .inl (Y 1, 16, .inl (jw_l 0 [1, 2, 0, 0, 2, 1, 0, 0, 0, 0, 0, 0, 0, 0, 0, 0]))), (h8, .inl (Y 1, 5, .inl (jw_l 0 [1, 3]))), (h9, .inl (Y 2, 13824, .inr (.inl (jw_L 0 [1]))))] H := hP
  have hD : va_D A [(h0, .inr (15, [.ref h10, .int 0, .int 0, .ref h11, .int 0, .int (-1), .int 0, .int 0, .int 0, .int 0, .int 0, .int 2, .int 0, .int 0, .int 0, .ref h12, .ref h13, .ref h14, .ref h15, .int 2, .int 0, .int 0, .int 0, .int 0, .ref h16, .ref h17, .ref h18, .ref h19, .int 2, .ref h1, .int 1, .ref h2, .ref h20, .int 1, .ref h21, .ref h22, .ref h23, .int 0, .ref h24, .ref h25, .ref h26, .ref h27, .ref h3, .ref h4, .ref h5, .ref h6, .ref h7, .int 9, .ref h8, .ref h28, .ref h9, .int (-1), .ref h29, .long 0, .long 0, .int (-1), .int (-1), .long 0, .long 1, .ref h30, .ref h31, .ref h32, .ref h33, .ref h34, .ref h35, .long 0])), (h1, .inl (Y 1, 100, .inl (jw_l 0 [0, 1, 0, 0, 1, 0, 0, 0, 1, 1]))), (h2, .inl (Y 1, 13824, .inl (jw_l 0 [0]))), (h3, .inl (Y 1, 6, .inl (jw_l 0 [0, 1]))), (h4, .inl (Y 1, 14425, .inl (jw_l 0 [0]))), (h5, .inl (Y 2, 14425, .inr (.inl (jw_L 0 [1])))), (h6, .inl (Y 1, 13824, .inl (jw_l 0 [0]))), (h7, .inl (Y 1, 16, .inl (jw_l 0 [1, 2, 0, 0, 2, 1, 0, 0, 0, 0, 0, 0, 0, 0, 0, 0]))), (h8, .inl (Y 1, 5, .inl (jw_l 0 [1, 3]))), (h9, .inl (Y 2, 13824, .inr (.inl (jw_L 0 [1]))))] := hD
  refine lv_aload_n hx hb dX12_layApart_96 rfl (lv_at hl 2 rfl) ?_
  refine lv_lconst (v := 0) hx hb dX12_layApart_97 (by decide +kernel) ?_
  refine va_put (D := D) (ci := 15) (v := .long 0) (C := RX12) (T := TX12) (N := 66) hx hb hts iw_X12_layApart__X12 tyX12 tyX12_ok nmX12 hown hE.1 hP hD hS 0 rfl rfl 54 (by decide) (hts _ mw_X12_layApart__4) (fun _ h9 => h9) rfl (tyX12_ok 54 (by decide)) rfl rfl (Nat.le_of_ble_eq_true rfl) dX12_layApart_98 (fun H locs hP hD hS => ?_)
  have hP : va_P D vwCl [(h0, .inr (15, [.ref h10, .int 0, .int 0, .ref h11, .int 0, .int (-1), .int 0, .int 0, .int 0, .int 0, .int 0, .int 2, .int 0, .int 0, .int 0, .ref h12, .ref h13, .ref h14, .ref h15, .int 2, .int 0, .int 0, .int 0, .int 0, .ref h16, .ref h17, .ref h18, .ref h19, .int 2, .ref h1, .int 1, .ref h2, .ref h20, .int 1, .ref h21, .ref h22, .ref h23, .int 0, .ref h24, .ref h25, .ref h26, .ref h27, .ref h3, .ref h4, .ref h5, .ref h6, .ref h7, .int 9, .ref h8, .ref h28, .ref h9, .int (-1), .ref h29, .long 0, .long 0, .int (-1), .int (-1), .long 0, .long 1, .ref h30, .ref h31, .ref h32, .ref h33, .ref h34, .ref h35, .long 0])), (h1, .inl (Y 1, 100, .inl (jw_l 0 [0, 1, 0, 0, 1, 0, 0, 0, 1, 1]))), (h2, .inl (Y 1, 13824, .inl (jw_l 0 [0]))), (h3, .inl (Y 1, 6, .inl (jw_l 0 [0, 1]))), (h4, .inl (Y 1, 14425, .inl (jw_l 0 [0]))), (h5, .inl (Y 2, 14425, .inr (.inl (jw_L 0 [1])))), (h6, .inl (Y 1, 13824, .inl (jw_l 0 [0]))), (h7, .inl (Y 1, 16, .inl (jw_l 0 [1, 2, 0, 0, 2, 1, 0, 0, 0, 0, 0, 0, 0, 0, 0, 0]))), (h8, .inl (Y 1, 5, .inl (jw_l 0 [1, 3]))), (h9, .inl (Y 2, 13824, .inr (.inl (jw_L 0 [1]))))] H := hP
  have hD : va_D A [(h0, .inr (15, [.ref h10, .int 0, .int 0, .ref h11, .int 0, .int (-1), .int 0, .int 0, .int 0, .int 0, .int 0, .int 2, .int 0, .int 0, .int 0, .ref h12, .ref h13, .ref h14, .ref h15, .int 2, .int 0, .int 0, .int 0, .int 0, .ref h16, .ref h17, .ref h18, .ref h19, .int 2, .ref h1, .int 1, .ref h2, .ref h20, .int 1, .ref h21, .ref h22, .ref h23, .int 0, .ref h24, .ref h25, .ref h26, .ref h27, .ref h3, .ref h4, .ref h5, .ref h6, .ref h7, .int 9, .ref h8, .ref h28, .ref h9, .int (-1), .ref h29, .long 0, .long 0, .int (-1), .int (-1), .long 0, .long 1, .ref h30, .ref h31, .ref h32, .ref h33, .ref h34, .ref h35, .long 0])), (h1, .inl (Y 1, 100, .inl (jw_l 0 [0, 1, 0, 0, 1, 0, 0, 0, 1, 1]))), (h2, .inl (Y 1, 13824, .inl (jw_l 0 [0]))), (h3, .inl (Y 1, 6, .inl (jw_l 0 [0, 1]))), (h4, .inl (Y 1, 14425, .inl (jw_l 0 [0]))), (h5, .inl (Y 2, 14425, .inr (.inl (jw_L 0 [1])))), (h6, .inl (Y 1, 13824, .inl (jw_l 0 [0]))), (h7, .inl (Y 1, 16, .inl (jw_l 0 [1, 2, 0, 0, 2, 1, 0, 0, 0, 0, 0, 0, 0, 0, 0, 0]))), (h8, .inl (Y 1, 5, .inl (jw_l 0 [1, 3]))), (h9, .inl (Y 2, 13824, .inr (.inl (jw_L 0 [1]))))] := hD
  refine lv_aload_n hx hb dX12_layApart_101 rfl (lv_at hl 2 rfl) ?_
  refine lv_iconst (v := (-1)) hx hb dX12_layApart_102 (by decide +kernel) ?_
  refine va_put (D := D) (ci := 15) (v := .int (-1)) (C := RX12) (T := TX12) (N := 66) hx hb hts iw_X12_layApart__X12 tyX12 tyX12_ok nmX12 hown hE.1 hP hD hS 0 rfl rfl 55 (by decide) (hts _ mw_X12_layApart__5) (fun _ h9 => h9) rfl (tyX12_ok 55 (by decide)) rfl rfl (Nat.le_of_ble_eq_true rfl) dX12_layApart_103 (fun H locs hP hD hS => ?_)
  have hP : va_P D vwCl [(h0, .inr (15, [.ref h10, .int 0, .int 0, .ref h11, .int 0, .int (-1), .int 0, .int 0, .int 0, .int 0, .int 0, .int 2, .int 0, .int 0, .int 0, .ref h12, .ref h13, .ref h14, .ref h15, .int 2, .int 0, .int 0, .int 0, .int 0, .ref h16, .ref h17, .ref h18, .ref h19, .int 2, .ref h1, .int 1, .ref h2, .ref h20, .int 1, .ref h21, .ref h22, .ref h23, .int 0, .ref h24, .ref h25, .ref h26, .ref h27, .ref h3, .ref h4, .ref h5, .ref h6, .ref h7, .int 9, .ref h8, .ref h28, .ref h9, .int (-1), .ref h29, .long 0, .long 0, .int (-1), .int (-1), .long 0, .long 1, .ref h30, .ref h31, .ref h32, .ref h33, .ref h34, .ref h35, .long 0])), (h1, .inl (Y 1, 100, .inl (jw_l 0 [0, 1, 0, 0, 1, 0, 0, 0, 1, 1]))), (h2, .inl (Y 1, 13824, .inl (jw_l 0 [0]))), (h3, .inl (Y 1, 6, .inl (jw_l 0 [0, 1]))), (h4, .inl (Y 1, 14425, .inl (jw_l 0 [0]))), (h5, .inl (Y 2, 14425, .inr (.inl (jw_L 0 [1])))), (h6, .inl (Y 1, 13824, .inl (jw_l 0 [0]))), (h7, .inl (Y 1, 16, .inl (jw_l 0 [1, 2, 0, 0, 2, 1, 0, 0, 0, 0, 0, 0, 0, 0, 0, 0]))), (h8, .inl (Y 1, 5, .inl (jw_l 0 [1, 3]))), (h9, .inl (Y 2, 13824, .inr (.inl (jw_L 0 [1]))))] H := hP
  have hD : va_D A [(h0, .inr (15, [.ref h10, .int 0, .int 0, .ref h11, .int 0, .int (-1), .int 0, .int 0, .int 0, .int 0, .int 0, .int 2, .int 0, .int 0, .int 0, .ref h12, .ref h13, .ref h14, .ref h15, .int 2, .int 0, .int 0, .int 0, .int 0, .ref h16, .ref h17, .ref h18, .ref h19, .int 2, .ref h1, .int 1, .ref h2, .ref h20, .int 1, .ref h21, .ref h22, .ref h23, .int 0, .ref h24, .ref h25, .ref h26, .ref h27, .ref h3, .ref h4, .ref h5, .ref h6, .ref h7, .int 9, .ref h8, .ref h28, .ref h9, .int (-1), .ref h29, .long 0, .long 0, .int (-1), .int (-1), .long 0, .long 1, .ref h30, .ref h31, .ref h32, .ref h33, .ref h34, .ref h35, .long 0])), (h1, .inl (Y 1, 100, .inl (jw_l 0 [0, 1, 0, 0, 1, 0, 0, 0, 1, 1]))), (h2, .inl (Y 1, 13824, .inl (jw_l 0 [0]))), (h3, .inl (Y 1, 6, .inl (jw_l 0 [0, 1]))), (h4, .inl (Y 1, 14425, .inl (jw_l 0 [0]))), (h5, .inl (Y 2, 14425, .inr (.inl (jw_L 0 [1])))), (h6, .inl (Y 1, 13824, .inl (jw_l 0 [0]))), (h7, .inl (Y 1, 16, .inl (jw_l 0 [1, 2, 0, 0, 2, 1, 0, 0, 0, 0, 0, 0, 0, 0, 0, 0]))), (h8, .inl (Y 1, 5, .inl (jw_l 0 [1, 3]))), (h9, .inl (Y 2, 13824, .inr (.inl (jw_L 0 [1]))))] := hD
  refine lv_aload_n hx hb dX12_layApart_106 rfl (lv_at hl 2 rfl) ?_
  refine lv_iconst (v := (-1)) hx hb dX12_layApart_107 (by decide +kernel) ?_
  refine va_put (D := D) (ci := 15) (v := .int (-1)) (C := RX12) (T := TX12) (N := 66) hx hb hts iw_X12_layApart__X12 tyX12 tyX12_ok nmX12 hown hE.1 hP hD hS 0 rfl rfl 56 (by decide) (hts _ mw_X12_layApart__6) (fun _ h9 => h9) rfl (tyX12_ok 56 (by decide)) rfl rfl (Nat.le_of_ble_eq_true rfl) dX12_layApart_108 (fun H locs hP hD hS => ?_)
  have hP : va_P D vwCl [(h0, .inr (15, [.ref h10, .int 0, .int 0, .ref h11, .int 0, .int (-1), .int 0, .int 0, .int 0, .int 0, .int 0, .int 2, .int 0, .int 0, .int 0, .ref h12, .ref h13, .ref h14, .ref h15, .int 2, .int 0, .int 0, .int 0, .int 0, .ref h16, .ref h17, .ref h18, .ref h19, .int 2, .ref h1, .int 1, .ref h2, .ref h20, .int 1, .ref h21, .ref h22, .ref h23, .int 0, .ref h24, .ref h25, .ref h26, .ref h27, .ref h3, .ref h4, .ref h5, .ref h6, .ref h7, .int 9, .ref h8, .ref h28, .ref h9, .int (-1), .ref h29, .long 0, .long 0, .int (-1), .int (-1), .long 0, .long 1, .ref h30, .ref h31, .ref h32, .ref h33, .ref h34, .ref h35, .long 0])), (h1, .inl (Y 1, 100, .inl (jw_l 0 [0, 1, 0, 0, 1, 0, 0, 0, 1, 1]))), (h2, .inl (Y 1, 13824, .inl (jw_l 0 [0]))), (h3, .inl (Y 1, 6, .inl (jw_l 0 [0, 1]))), (h4, .inl (Y 1, 14425, .inl (jw_l 0 [0]))), (h5, .inl (Y 2, 14425, .inr (.inl (jw_L 0 [1])))), (h6, .inl (Y 1, 13824, .inl (jw_l 0 [0]))), (h7, .inl (Y 1, 16, .inl (jw_l 0 [1, 2, 0, 0, 2, 1, 0, 0, 0, 0, 0, 0, 0, 0, 0, 0]))), (h8, .inl (Y 1, 5, .inl (jw_l 0 [1, 3]))), (h9, .inl (Y 2, 13824, .inr (.inl (jw_L 0 [1]))))] H := hP
  have hD : va_D A [(h0, .inr (15, [.ref h10, .int 0, .int 0, .ref h11, .int 0, .int (-1), .int 0, .int 0, .int 0, .int 0, .int 0, .int 2, .int 0, .int 0, .int 0, .ref h12, .ref h13, .ref h14, .ref h15, .int 2, .int 0, .int 0, .int 0, .int 0, .ref h16, .ref h17, .ref h18, .ref h19, .int 2, .ref h1, .int 1, .ref h2, .ref h20, .int 1, .ref h21, .ref h22, .ref h23, .int 0, .ref h24, .ref h25, .ref h26, .ref h27, .ref h3, .ref h4, .ref h5, .ref h6, .ref h7, .int 9, .ref h8, .ref h28, .ref h9, .int (-1), .ref h29, .long 0, .long 0, .int (-1), .int (-1), .long 0, .long 1, .ref h30, .ref h31, .ref h32, .ref h33, .ref h34, .ref h35, .long 0])), (h1, .inl (Y 1, 100, .inl (jw_l 0 [0, 1, 0, 0, 1, 0, 0, 0, 1, 1]))), (h2, .inl (Y 1, 13824, .inl (jw_l 0 [0]))), (h3, .inl (Y 1, 6, .inl (jw_l 0 [0, 1]))), (h4, .inl (Y 1, 14425, .inl (jw_l 0 [0]))), (h5, .inl (Y 2, 14425, .inr (.inl (jw_L 0 [1])))), (h6, .inl (Y 1, 13824, .inl (jw_l 0 [0]))), (h7, .inl (Y 1, 16, .inl (jw_l 0 [1, 2, 0, 0, 2, 1, 0, 0, 0, 0, 0, 0, 0, 0, 0, 0]))), (h8, .inl (Y 1, 5, .inl (jw_l 0 [1, 3]))), (h9, .inl (Y 2, 13824, .inr (.inl (jw_L 0 [1]))))] := hD
  refine lv_aload_n hx hb dX12_layApart_111 rfl (lv_at hl 2 rfl) ?_
  refine lv_lconst (v := 0) hx hb dX12_layApart_112 (by decide +kernel) ?_
  refine va_put (D := D) (ci := 15) (v := .long 0) (C := RX12) (T := TX12) (N := 66) hx hb hts iw_X12_layApart__X12 tyX12 tyX12_ok nmX12 hown hE.1 hP hD hS 0 rfl rfl 57 (by decide) (hts _ mw_X12_layApart__7) (fun _ h9 => h9) rfl (tyX12_ok 57 (by decide)) rfl rfl (Nat.le_of_ble_eq_true rfl) dX12_layApart_113 (fun H locs hP hD hS => ?_)
  have hP : va_P D vwCl [(h0, .inr (15, [.ref h10, .int 0, .int 0, .ref h11, .int 0, .int (-1), .int 0, .int 0, .int 0, .int 0, .int 0, .int 2, .int 0, .int 0, .int 0, .ref h12, .ref h13, .ref h14, .ref h15, .int 2, .int 0, .int 0, .int 0, .int 0, .ref h16, .ref h17, .ref h18, .ref h19, .int 2, .ref h1, .int 1, .ref h2, .ref h20, .int 1, .ref h21, .ref h22, .ref h23, .int 0, .ref h24, .ref h25, .ref h26, .ref h27, .ref h3, .ref h4, .ref h5, .ref h6, .ref h7, .int 9, .ref h8, .ref h28, .ref h9, .int (-1), .ref h29, .long 0, .long 0, .int (-1), .int (-1), .long 0, .long 1, .ref h30, .ref h31, .ref h32, .ref h33, .ref h34, .ref h35, .long 0])), (h1, .inl (Y 1, 100, .inl (jw_l 0 [0, 1, 0, 0, 1, 0, 0, 0, 1, 1]))), (h2, .inl (Y 1, 13824, .inl (jw_l 0 [0]))), (h3, .inl (Y 1, 6, .inl (jw_l 0 [0, 1]))), (h4, .inl (Y 1, 14425, .inl (jw_l 0 [0]))), (h5, .inl (Y 2, 14425, .inr (.inl (jw_L 0 [1])))), (h6, .inl (Y 1, 13824, .inl (jw_l 0 [0]))), (h7, .inl (Y 1, 16, .inl (jw_l 0 [1, 2, 0, 0, 2, 1, 0, 0, 0, 0, 0, 0, 0, 0, 0, 0]))), (h8, .inl (Y 1, 5, .inl (jw_l 0 [1, 3]))), (h9, .inl (Y 2, 13824, .inr (.inl (jw_L 0 [1]))))] H := hP
  have hD : va_D A [(h0, .inr (15, [.ref h10, .int 0, .int 0, .ref h11, .int 0, .int (-1), .int 0, .int 0, .int 0, .int 0, .int 0, .int 2, .int 0, .int 0, .int 0, .ref h12, .ref h13, .ref h14, .ref h15, .int 2, .int 0, .int 0, .int 0, .int 0, .ref h16, .ref h17, .ref h18, .ref h19, .int 2, .ref h1, .int 1, .ref h2, .ref h20, .int 1, .ref h21, .ref h22, .ref h23, .int 0, .ref h24, .ref h25, .ref h26, .ref h27, .ref h3, .ref h4, .ref h5, .ref h6, .ref h7, .int 9, .ref h8, .ref h28, .ref h9, .int (-1), .ref h29, .long 0, .long 0, .int (-1), .int (-1), .long 0, .long 1, .ref h30, .ref h31, .ref h32, .ref h33, .ref h34, .ref h35, .long 0])), (h1, .inl (Y 1, 100, .inl (jw_l 0 [0, 1, 0, 0, 1, 0, 0, 0, 1, 1]))), (h2, .inl (Y 1, 13824, .inl (jw_l 0 [0]))), (h3, .inl (Y 1, 6, .inl (jw_l 0 [0, 1]))), (h4, .inl (Y 1, 14425, .inl (jw_l 0 [0]))), (h5, .inl (Y 2, 14425, .inr (.inl (jw_L 0 [1])))), (h6, .inl (Y 1, 13824, .inl (jw_l 0 [0]))), (h7, .inl (Y 1, 16, .inl (jw_l 0 [1, 2, 0, 0, 2, 1, 0, 0, 0, 0, 0, 0, 0, 0, 0, 0]))), (h8, .inl (Y 1, 5, .inl (jw_l 0 [1, 3]))), (h9, .inl (Y 2, 13824, .inr (.inl (jw_L 0 [1]))))] := hD
  refine lv_iconst (v := 0) hx hb dX12_layApart_116 (by decide +kernel) ?_
  refine lv_istore (lv' := [(7, .int 0), (5, .long 1), (3, .long 1), (0, .ref h0), (1, .int 0), (2, .int 1)]) hx hb dX12_layApart_117 hl (by decide) rfl (fun ls hl => ?_)
  refine lv_iload hx hb dX12_layApart_119 (lv_at hl 0 rfl) ?_
  refine lv_aload_n hx hb dX12_layApart_121 rfl (lv_at hl 3 rfl) ?_
  refine jw_mi (wc := [(h0, .inr (15, [.ref h10, .int 0, .int 0, .ref h11, .int 0, .int (-1), .int 0, .int 0, .int 0, .int 0, .int 0, .int 2, .int 0, .int 0, .int 0, .ref h12, .ref h13, .ref h14, .ref h15, .int 2, .int 0, .int 0, .int 0, .int 0, .ref h16, .ref h17, .ref h18, .ref h19, .int 2, .ref h1, .int 1, .ref h2, .ref h20, .int 1, .ref h21, .ref h22, .ref h23, .int 0, .ref h24, .ref h25, .ref h26, .ref h27, .ref h3, .ref h4, .ref h5, .ref h6, .ref h7, .int 9, .ref h8, .ref h28, .ref h9, .int (-1), .ref h29, .long 0, .long 0, .int (-1), .int (-1), .long 0, .long 1, .ref h30, .ref h31, .ref h32, .ref h33, .ref h34, .ref h35, .long 0]))]) (cs := 0) (ss := 0) (va_runV (As := []) (rest := [.int 0]) ⟨hx, hb, hml, hown, hts⟩ (k223_X12_teams h0 h10 h11 h12 h13 h14 h15 h16 h17 h18 h19 h1 h2 h20 h21 h22 h23 h24 h25 h26 h27 h3 h4 h5 h6 h7 h8 h28 h9 h29 h30 h31 h32 h33 h34 h35 H.size) (cwV 0 hts gX12_layApart_X12_teams rfl rfl rfl ydV_X12_teams ⟨Nat.le_of_ble_eq_true rfl, Nat.le_of_ble_eq_true rfl⟩) (jw_mpreV (ci := 15) (q0 := 0) hP hD hS hA hE [true] rfl rfl rfl) rfl rfl hl.1 rfl (lv_room (Nat.le_of_ble_eq_true rfl)) dX12_layApart_122 ⟨Nat.le_of_ble_eq_true rfl, Nat.le_of_ble_eq_true rfl⟩) hP hD hS hA [true] rfl rfl rfl (fun r9 w1 H locs hr9 hw9 hP hD hS => ?_)
  subst hr9
  subst hw9
  have hP : va_P D vwCl [(h0, .inr (15, [.ref h10, .int 0, .int 0, .ref h11, .int 0, .int (-1), .int 0, .int 0, .int 0, .int 0, .int 0, .int 2, .int 0, .int 0, .int 0, .ref h12, .ref h13, .ref h14, .ref h15, .int 2, .int 0, .int 0, .int 0, .int 0, .ref h16, .ref h17, .ref h18, .ref h19, .int 2, .ref h1, .int 1, .ref h2, .ref h20, .int 1, .ref h21, .ref h22, .ref h23, .int 0, .ref h24, .ref h25, .ref h26, .ref h27, .ref h3, .ref h4, .ref h5, .ref h6, .ref h7, .int 9, .ref h8, .ref h28, .ref h9, .int (-1), .ref h29, .long 0, .long 0, .int (-1), .int (-1), .long 0, .long 1, .ref h30, .ref h31, .ref h32, .ref h33, .ref h34, .ref h35, .long 0])), (h1, .inl (Y 1, 100, .inl (jw_l 0 [0, 1, 0, 0, 1, 0, 0, 0, 1, 1]))), (h2, .inl (Y 1, 13824, .inl (jw_l 0 [0]))), (h3, .inl (Y 1, 6, .inl (jw_l 0 [0, 1]))), (h4, .inl (Y 1, 14425, .inl (jw_l 0 [0]))), (h5, .inl (Y 2, 14425, .inr (.inl (jw_L 0 [1])))), (h6, .inl (Y 1, 13824, .inl (jw_l 0 [0]))), (h7, .inl (Y 1, 16, .inl (jw_l 0 [1, 2, 0, 0, 2, 1, 0, 0, 0, 0, 0, 0, 0, 0, 0, 0]))), (h8, .inl (Y 1, 5, .inl (jw_l 0 [1, 3]))), (h9, .inl (Y 2, 13824, .inr (.inl (jw_L 0 [1]))))] H := hP
  have hD : va_D A [(h0, .inr (15, [.ref h10, .int 0, .int 0, .ref h11, .int 0, .int (-1), .int 0, .int 0, .int 0, .int 0, .int 0, .int 2, .int 0, .int 0, .int 0, .ref h12, .ref h13, .ref h14, .ref h15, .int 2, .int 0, .int 0, .int 0, .int 0, .ref h16, .ref h17, .ref h18, .ref h19, .int 2, .ref h1, .int 1, .ref h2, .ref h20, .int 1, .ref h21, .ref h22, .ref h23, .int 0, .ref h24, .ref h25, .ref h26, .ref h27, .ref h3, .ref h4, .ref h5, .ref h6, .ref h7, .int 9, .ref h8, .ref h28, .ref h9, .int (-1), .ref h29, .long 0, .long 0, .int (-1), .int (-1), .long 0, .long 1, .ref h30, .ref h31, .ref h32, .ref h33, .ref h34, .ref h35, .long 0])), (h1, .inl (Y 1, 100, .inl (jw_l 0 [0, 1, 0, 0, 1, 0, 0, 0, 1, 1]))), (h2, .inl (Y 1, 13824, .inl (jw_l 0 [0]))), (h3, .inl (Y 1, 6, .inl (jw_l 0 [0, 1]))), (h4, .inl (Y 1, 14425, .inl (jw_l 0 [0]))), (h5, .inl (Y 2, 14425, .inr (.inl (jw_L 0 [1])))), (h6, .inl (Y 1, 13824, .inl (jw_l 0 [0]))), (h7, .inl (Y 1, 16, .inl (jw_l 0 [1, 2, 0, 0, 2, 1, 0, 0, 0, 0, 0, 0, 0, 0, 0, 0]))), (h8, .inl (Y 1, 5, .inl (jw_l 0 [1, 3]))), (h9, .inl (Y 2, 13824, .inr (.inl (jw_L 0 [1]))))] := hD
  refine lv_icmp_ge (tgt := 277) hx hb dX12_layApart_125 (by decide) (fun _ => ?_) (fun c9 => absurd (by decide +kernel) c9)
  refine W.widen (k := 0) (n := 0) (Nat.le_of_ble_eq_true rfl) (Nat.le_of_ble_eq_true rfl) ?_
  exact jw_vret hx hb hr hlocks rfl hP hD hS dX12_layApart_277
set_option maxHeartbeats 4000000 in
set_option maxRecDepth 100000 in
theorem k384_X12_isOnce {l : Launch} {D : va_G} {Y : Nat → ClassId} {tt : Nat → Nat} (sz : Nat) : Met l yX12_isOnce wsX12_isOnce ({ frames := 0, cells := 0, slots := 0, locals := 0 }) (jw_Pc D Y tt [.int 5, .int 2] [] sz) (jw_Qi D (fun r => r = 0) (fun w => w = []) (va_A [] sz)) 0 0 (va_A [] sz) := by
  refine jw_met (fun A => jw_Qi D (fun r => r = 0) (fun w => w = []) A) (cc := cX12_isOnce) (maxL := 4) (ret := (some .boolean)) pn_X12_isOnce rfl rfl ?_
  intro p e s m below meth c A H locs ls hx hb hml hr hts hown hlocks hin hP hD hA hS hE hl
  have hown : s.vm.findClass RX12 = some m.cls := hown
  have hl : lv_has ls 4 [(0, .int 5), (1, .int 2)] := hl
  refine lv_iconst (v := 0) hx hb dX12_isOnce_0 (by decide +kernel) ?_
  refine lv_istore_n (lv' := [(2, .int 0), (0, .int 5), (1, .int 2)]) hx hb dX12_isOnce_1 rfl hl (by decide) rfl (fun ls hl => ?_)
  refine lv_iconst (v := 0) hx hb dX12_isOnce_2 (by decide +kernel) ?_
  refine lv_istore_n (lv' := [(3, .int 0), (2, .int 0), (0, .int 5), (1, .int 2)]) hx hb dX12_isOnce_3 rfl hl (by decide) rfl (fun ls hl => ?_)
  refine lv_iload_n hx hb dX12_isOnce_4 rfl (lv_at hl 0 rfl) ?_
  refine lv_iload_n hx hb dX12_isOnce_5 rfl (lv_at hl 3 rfl) ?_
  refine lv_icmp_ge (tgt := 27) hx hb dX12_isOnce_6 (by decide) (fun c9 => absurd c9 (by decide +kernel)) (fun _ => ?_)
  refine lv_iload_n hx hb dX12_isOnce_9 rfl (lv_at hl 1 rfl) ?_
  refine lv_iconst (v := 1) hx hb dX12_isOnce_10 (by decide +kernel) ?_
  refine lv_iload_n hx hb dX12_isOnce_11 rfl (lv_at hl 2 rfl) ?_
  refine lv_iconst (v := 2) hx hb dX12_isOnce_12 (by decide +kernel) ?_
  refine lv_iload_n hx hb dX12_isOnce_13 rfl (lv_at hl 0 rfl) ?_
  refine jw_imul (v := 0) hx hb dX12_isOnce_14 (by decide +kernel) ?_
  refine jw_ishr (v := 5) hx hb dX12_isOnce_15 (by decide +kernel) ?_
  refine lv_iconst (v := 3) hx hb dX12_isOnce_16 (by decide +kernel) ?_
  refine jw_iand (v := 1) hx hb dX12_isOnce_17 (by decide +kernel) ?_
  refine jw_ishl (v := 2) hx hb dX12_isOnce_18 (by decide +kernel) ?_
  refine jw_ior (v := 2) hx hb dX12_isOnce_19 (by decide +kernel) ?_
  refine lv_istore_n (lv' := [(2, .int 2), (3, .int 0), (0, .int 5), (1, .int 2)]) hx hb dX12_isOnce_20 rfl hl (by decide) rfl (fun ls hl => ?_)
  refine lv_iinc (v := 1) (lv' := [(3, .int 1), (2, .int 2), (0, .int 5), (1, .int 2)]) hx hb dX12_isOnce_21 hl (k := 1) rfl (by decide +kernel) (by decide) rfl (fun ls hl => ?_)
  refine lv_goto (tgt := 4) hx hb dX12_isOnce_24 (by decide) ?_
  refine lv_iload_n hx hb dX12_isOnce_4 rfl (lv_at hl 0 rfl) ?_
  refine lv_iload_n hx hb dX12_isOnce_5 rfl (lv_at hl 3 rfl) ?_
  refine lv_icmp_ge (tgt := 27) hx hb dX12_isOnce_6 (by decide) (fun c9 => absurd c9 (by decide +kernel)) (fun _ => ?_)
  refine lv_iload_n hx hb dX12_isOnce_9 rfl (lv_at hl 1 rfl) ?_
  refine lv_iconst (v := 1) hx hb dX12_isOnce_10 (by decide +kernel) ?_
  refine lv_iload_n hx hb dX12_isOnce_11 rfl (lv_at hl 2 rfl) ?_
  refine lv_iconst (v := 2) hx hb dX12_isOnce_12 (by decide +kernel) ?_
  refine lv_iload_n hx hb dX12_isOnce_13 rfl (lv_at hl 0 rfl) ?_
  refine jw_imul (v := 2) hx hb dX12_isOnce_14 (by decide +kernel) ?_
  refine jw_ishr (v := 1) hx hb dX12_isOnce_15 (by decide +kernel) ?_
  refine lv_iconst (v := 3) hx hb dX12_isOnce_16 (by decide +kernel) ?_
  refine jw_iand (v := 1) hx hb dX12_isOnce_17 (by decide +kernel) ?_
  refine jw_ishl (v := 2) hx hb dX12_isOnce_18 (by decide +kernel) ?_
  refine jw_ior (v := 2) hx hb dX12_isOnce_19 (by decide +kernel) ?_
  refine lv_istore_n (lv' := [(2, .int 2), (3, .int 1), (0, .int 5), (1, .int 2)]) hx hb dX12_isOnce_20 rfl hl (by decide) rfl (fun ls hl => ?_)
  refine lv_iinc (v := 2) (lv' := [(3, .int 2), (2, .int 2), (0, .int 5), (1, .int 2)]) hx hb dX12_isOnce_21 hl (k := 1) rfl (by decide +kernel) (by decide) rfl (fun ls hl => ?_)
  refine lv_goto (tgt := 4) hx hb dX12_isOnce_24 (by decide) ?_
  refine lv_iload_n hx hb dX12_isOnce_4 rfl (lv_at hl 0 rfl) ?_
  refine lv_iload_n hx hb dX12_isOnce_5 rfl (lv_at hl 3 rfl) ?_
  refine lv_icmp_ge (tgt := 27) hx hb dX12_isOnce_6 (by decide) (fun _ => ?_) (fun c9 => absurd (by decide +kernel) c9)
  refine lv_iload_n hx hb dX12_isOnce_27 rfl (lv_at hl 1 rfl) ?_
  refine lv_iconst (v := 1) hx hb dX12_isOnce_28 (by decide +kernel) ?_
  refine lv_iload_n hx hb dX12_isOnce_29 rfl (lv_at hl 3 rfl) ?_
  refine jw_ishl (v := 4) hx hb dX12_isOnce_30 (by decide +kernel) ?_
  refine lv_iconst (v := 1) hx hb dX12_isOnce_31 (by decide +kernel) ?_
  refine jw_isub (v := 3) hx hb dX12_isOnce_32 (by decide +kernel) ?_
  refine lv_icmp_ne (tgt := 40) hx hb dX12_isOnce_33 (by decide) (fun _ => ?_) (fun c9 => absurd c9 (by decide +kernel))
  refine lv_iconst (v := 0) hx hb dX12_isOnce_40 (by decide +kernel) ?_
  refine W.widen (k := 0) (n := 0) (Nat.le_of_ble_eq_true rfl) (Nat.le_of_ble_eq_true rfl) ?_
  exact jw_zret hx hb hr hlocks rfl rfl rfl hP hD hS dX12_isOnce_41
set_option maxHeartbeats 4000000 in
set_option maxRecDepth 100000 in
theorem k385_X12_isOnce {l : Launch} {D : va_G} {Y : Nat → ClassId} {tt : Nat → Nat} (sz : Nat) : Met l yX12_isOnce wsX12_isOnce ({ frames := 0, cells := 0, slots := 0, locals := 0 }) (jw_Pc D Y tt [.int 9, .int 2] [] sz) (jw_Qi D (fun r => r = 0) (fun w => w = []) (va_A [] sz)) 0 0 (va_A [] sz) := by
  refine jw_met (fun A => jw_Qi D (fun r => r = 0) (fun w => w = []) A) (cc := cX12_isOnce) (maxL := 4) (ret := (some .boolean)) pn_X12_isOnce rfl rfl ?_
  intro p e s m below meth c A H locs ls hx hb hml hr hts hown hlocks hin hP hD hA hS hE hl
  have hown : s.vm.findClass RX12 = some m.cls := hown
  have hl : lv_has ls 4 [(0, .int 9), (1, .int 2)] := hl
  refine lv_iconst (v := 0) hx hb dX12_isOnce_0 (by decide +kernel) ?_
  refine lv_istore_n (lv' := [(2, .int 0), (0, .int 9), (1, .int 2)]) hx hb dX12_isOnce_1 rfl hl (by decide) rfl (fun ls hl => ?_)
  refine lv_iconst (v := 0) hx hb dX12_isOnce_2 (by decide +kernel) ?_
  refine lv_istore_n (lv' := [(3, .int 0), (2, .int 0), (0, .int 9), (1, .int 2)]) hx hb dX12_isOnce_3 rfl hl (by decide) rfl (fun ls hl => ?_)
  refine lv_iload_n hx hb dX12_isOnce_4 rfl (lv_at hl 0 rfl) ?_
  refine lv_iload_n hx hb dX12_isOnce_5 rfl (lv_at hl 3 rfl) ?_
  refine lv_icmp_ge (tgt := 27) hx hb dX12_isOnce_6 (by decide) (fun c9 => absurd c9 (by decide +kernel)) (fun _ => ?_)
  refine lv_iload_n hx hb dX12_isOnce_9 rfl (lv_at hl 1 rfl) ?_
  refine lv_iconst (v := 1) hx hb dX12_isOnce_10 (by decide +kernel) ?_
  refine lv_iload_n hx hb dX12_isOnce_11 rfl (lv_at hl 2 rfl) ?_
  refine lv_iconst (v := 2) hx hb dX12_isOnce_12 (by decide +kernel) ?_
  refine lv_iload_n hx hb dX12_isOnce_13 rfl (lv_at hl 0 rfl) ?_
  refine jw_imul (v := 0) hx hb dX12_isOnce_14 (by decide +kernel) ?_
  refine jw_ishr (v := 9) hx hb dX12_isOnce_15 (by decide +kernel) ?_
  refine lv_iconst (v := 3) hx hb dX12_isOnce_16 (by decide +kernel) ?_
  refine jw_iand (v := 1) hx hb dX12_isOnce_17 (by decide +kernel) ?_
  refine jw_ishl (v := 2) hx hb dX12_isOnce_18 (by decide +kernel) ?_
  refine jw_ior (v := 2) hx hb dX12_isOnce_19 (by decide +kernel) ?_
  refine lv_istore_n (lv' := [(2, .int 2), (3, .int 0), (0, .int 9), (1, .int 2)]) hx hb dX12_isOnce_20 rfl hl (by decide) rfl (fun ls hl => ?_)
  refine lv_iinc (v := 1) (lv' := [(3, .int 1), (2, .int 2), (0, .int 9), (1, .int 2)]) hx hb dX12_isOnce_21 hl (k := 1) rfl (by decide +kernel) (by decide) rfl (fun ls hl => ?_)
  refine lv_goto (tgt := 4) hx hb dX12_isOnce_24 (by decide) ?_
  refine lv_iload_n hx hb dX12_isOnce_4 rfl (lv_at hl 0 rfl) ?_
  refine lv_iload_n hx hb dX12_isOnce_5 rfl (lv_at hl 3 rfl) ?_
  refine lv_icmp_ge (tgt := 27) hx hb dX12_isOnce_6 (by decide) (fun c9 => absurd c9 (by decide +kernel)) (fun _ => ?_)
  refine lv_iload_n hx hb dX12_isOnce_9 rfl (lv_at hl 1 rfl) ?_
  refine lv_iconst (v := 1) hx hb dX12_isOnce_10 (by decide +kernel) ?_
  refine lv_iload_n hx hb dX12_isOnce_11 rfl (lv_at hl 2 rfl) ?_
  refine lv_iconst (v := 2) hx hb dX12_isOnce_12 (by decide +kernel) ?_
  refine lv_iload_n hx hb dX12_isOnce_13 rfl (lv_at hl 0 rfl) ?_
  refine jw_imul (v := 2) hx hb dX12_isOnce_14 (by decide +kernel) ?_
  refine jw_ishr (v := 2) hx hb dX12_isOnce_15 (by decide +kernel) ?_
  refine lv_iconst (v := 3) hx hb dX12_isOnce_16 (by decide +kernel) ?_
  refine jw_iand (v := 2) hx hb dX12_isOnce_17 (by decide +kernel) ?_
  refine jw_ishl (v := 4) hx hb dX12_isOnce_18 (by decide +kernel) ?_
  refine jw_ior (v := 6) hx hb dX12_isOnce_19 (by decide +kernel) ?_
  refine lv_istore_n (lv' := [(2, .int 6), (3, .int 1), (0, .int 9), (1, .int 2)]) hx hb dX12_isOnce_20 rfl hl (by decide) rfl (fun ls hl => ?_)
  refine lv_iinc (v := 2) (lv' := [(3, .int 2), (2, .int 6), (0, .int 9), (1, .int 2)]) hx hb dX12_isOnce_21 hl (k := 1) rfl (by decide +kernel) (by decide) rfl (fun ls hl => ?_)
  refine lv_goto (tgt := 4) hx hb dX12_isOnce_24 (by decide) ?_
  refine lv_iload_n hx hb dX12_isOnce_4 rfl (lv_at hl 0 rfl) ?_
  refine lv_iload_n hx hb dX12_isOnce_5 rfl (lv_at hl 3 rfl) ?_
  refine lv_icmp_ge (tgt := 27) hx hb dX12_isOnce_6 (by decide) (fun _ => ?_) (fun c9 => absurd (by decide +kernel) c9)
  refine lv_iload_n hx hb dX12_isOnce_27 rfl (lv_at hl 1 rfl) ?_
  refine lv_iconst (v := 1) hx hb dX12_isOnce_28 (by decide +kernel) ?_
  refine lv_iload_n hx hb dX12_isOnce_29 rfl (lv_at hl 3 rfl) ?_
  refine jw_ishl (v := 4) hx hb dX12_isOnce_30 (by decide +kernel) ?_
  refine lv_iconst (v := 1) hx hb dX12_isOnce_31 (by decide +kernel) ?_
  refine jw_isub (v := 3) hx hb dX12_isOnce_32 (by decide +kernel) ?_
  refine lv_icmp_ne (tgt := 40) hx hb dX12_isOnce_33 (by decide) (fun _ => ?_) (fun c9 => absurd c9 (by decide +kernel))
  refine lv_iconst (v := 0) hx hb dX12_isOnce_40 (by decide +kernel) ?_
  refine W.widen (k := 0) (n := 0) (Nat.le_of_ble_eq_true rfl) (Nat.le_of_ble_eq_true rfl) ?_
  exact jw_zret hx hb hr hlocks rfl rfl rfl hP hD hS dX12_isOnce_41
set_option maxHeartbeats 4000000 in
set_option maxRecDepth 100000 in
theorem k386_X12_isOnce {l : Launch} {D : va_G} {Y : Nat → ClassId} {tt : Nat → Nat} (sz : Nat) : Met l yX12_isOnce wsX12_isOnce ({ frames := 0, cells := 0, slots := 0, locals := 0 }) (jw_Pc D Y tt [.int 13, .int 2] [] sz) (jw_Qi D (fun r => r = 0) (fun w => w = []) (va_A [] sz)) 0 0 (va_A [] sz) := by
  refine jw_met (fun A => jw_Qi D (fun r => r = 0) (fun w => w = []) A) (cc := cX12_isOnce) (maxL := 4) (ret := (some .boolean)) pn_X12_isOnce rfl rfl ?_
  intro p e s m below meth c A H locs ls hx hb hml hr hts hown hlocks hin hP hD hA hS hE hl
  have hown : s.vm.findClass RX12 = some m.cls := hown
  have hl : lv_has ls 4 [(0, .int 13), (1, .int 2)] := hl
  refine lv_iconst (v := 0) hx hb dX12_isOnce_0 (by decide +kernel) ?_
  refine lv_istore_n (lv' := [(2, .int 0), (0, .int 13), (1, .int 2)]) hx hb dX12_isOnce_1 rfl hl (by decide) rfl (fun ls hl => ?_)
  refine lv_iconst (v := 0) hx hb dX12_isOnce_2 (by decide +kernel) ?_
  refine lv_istore_n (lv' := [(3, .int 0), (2, .int 0), (0, .int 13), (1, .int 2)]) hx hb dX12_isOnce_3 rfl hl (by decide) rfl (fun ls hl => ?_)
  refine lv_iload_n hx hb dX12_isOnce_4 rfl (lv_at hl 0 rfl) ?_
  refine lv_iload_n hx hb dX12_isOnce_5 rfl (lv_at hl 3 rfl) ?_
  refine lv_icmp_ge (tgt := 27) hx hb dX12_isOnce_6 (by decide) (fun c9 => absurd c9 (by decide +kernel)) (fun _ => ?_)
  refine lv_iload_n hx hb dX12_isOnce_9 rfl (lv_at hl 1 rfl) ?_
  refine lv_iconst (v := 1) hx hb dX12_isOnce_10 (by decide +kernel) ?_
  refine lv_iload_n hx hb dX12_isOnce_11 rfl (lv_at hl 2 rfl) ?_
  refine lv_iconst (v := 2) hx hb dX12_isOnce_12 (by decide +kernel) ?_
  refine lv_iload_n hx hb dX12_isOnce_13 rfl (lv_at hl 0 rfl) ?_
  refine jw_imul (v := 0) hx hb dX12_isOnce_14 (by decide +kernel) ?_
  refine jw_ishr (v := 13) hx hb dX12_isOnce_15 (by decide +kernel) ?_
  refine lv_iconst (v := 3) hx hb dX12_isOnce_16 (by decide +kernel) ?_
  refine jw_iand (v := 1) hx hb dX12_isOnce_17 (by decide +kernel) ?_
  refine jw_ishl (v := 2) hx hb dX12_isOnce_18 (by decide +kernel) ?_
  refine jw_ior (v := 2) hx hb dX12_isOnce_19 (by decide +kernel) ?_
  refine lv_istore_n (lv' := [(2, .int 2), (3, .int 0), (0, .int 13), (1, .int 2)]) hx hb dX12_isOnce_20 rfl hl (by decide) rfl (fun ls hl => ?_)
  refine lv_iinc (v := 1) (lv' := [(3, .int 1), (2, .int 2), (0, .int 13), (1, .int 2)]) hx hb dX12_isOnce_21 hl (k := 1) rfl (by decide +kernel) (by decide) rfl (fun ls hl => ?_)
  refine lv_goto (tgt := 4) hx hb dX12_isOnce_24 (by decide) ?_
  refine lv_iload_n hx hb dX12_isOnce_4 rfl (lv_at hl 0 rfl) ?_
  refine lv_iload_n hx hb dX12_isOnce_5 rfl (lv_at hl 3 rfl) ?_
  refine lv_icmp_ge (tgt := 27) hx hb dX12_isOnce_6 (by decide) (fun c9 => absurd c9 (by decide +kernel)) (fun _ => ?_)
  refine lv_iload_n hx hb dX12_isOnce_9 rfl (lv_at hl 1 rfl) ?_
  refine lv_iconst (v := 1) hx hb dX12_isOnce_10 (by decide +kernel) ?_
  refine lv_iload_n hx hb dX12_isOnce_11 rfl (lv_at hl 2 rfl) ?_
  refine lv_iconst (v := 2) hx hb dX12_isOnce_12 (by decide +kernel) ?_
  refine lv_iload_n hx hb dX12_isOnce_13 rfl (lv_at hl 0 rfl) ?_
  refine jw_imul (v := 2) hx hb dX12_isOnce_14 (by decide +kernel) ?_
  refine jw_ishr (v := 3) hx hb dX12_isOnce_15 (by decide +kernel) ?_
  refine lv_iconst (v := 3) hx hb dX12_isOnce_16 (by decide +kernel) ?_
  refine jw_iand (v := 3) hx hb dX12_isOnce_17 (by decide +kernel) ?_
  refine jw_ishl (v := 8) hx hb dX12_isOnce_18 (by decide +kernel) ?_
  refine jw_ior (v := 10) hx hb dX12_isOnce_19 (by decide +kernel) ?_
  refine lv_istore_n (lv' := [(2, .int 10), (3, .int 1), (0, .int 13), (1, .int 2)]) hx hb dX12_isOnce_20 rfl hl (by decide) rfl (fun ls hl => ?_)
  refine lv_iinc (v := 2) (lv' := [(3, .int 2), (2, .int 10), (0, .int 13), (1, .int 2)]) hx hb dX12_isOnce_21 hl (k := 1) rfl (by decide +kernel) (by decide) rfl (fun ls hl => ?_)
  refine lv_goto (tgt := 4) hx hb dX12_isOnce_24 (by decide) ?_
  refine lv_iload_n hx hb dX12_isOnce_4 rfl (lv_at hl 0 rfl) ?_
  refine lv_iload_n hx hb dX12_isOnce_5 rfl (lv_at hl 3 rfl) ?_
  refine lv_icmp_ge (tgt := 27) hx hb dX12_isOnce_6 (by decide) (fun _ => ?_) (fun c9 => absurd (by decide +kernel) c9)
  refine lv_iload_n hx hb dX12_isOnce_27 rfl (lv_at hl 1 rfl) ?_
  refine lv_iconst (v := 1) hx hb dX12_isOnce_28 (by decide +kernel) ?_
  refine lv_iload_n hx hb dX12_isOnce_29 rfl (lv_at hl 3 rfl) ?_
  refine jw_ishl (v := 4) hx hb dX12_isOnce_30 (by decide +kernel) ?_
  refine lv_iconst (v := 1) hx hb dX12_isOnce_31 (by decide +kernel) ?_
  refine jw_isub (v := 3) hx hb dX12_isOnce_32 (by decide +kernel) ?_
  refine lv_icmp_ne (tgt := 40) hx hb dX12_isOnce_33 (by decide) (fun _ => ?_) (fun c9 => absurd c9 (by decide +kernel))
  refine lv_iconst (v := 0) hx hb dX12_isOnce_40 (by decide +kernel) ?_
  refine W.widen (k := 0) (n := 0) (Nat.le_of_ble_eq_true rfl) (Nat.le_of_ble_eq_true rfl) ?_
  exact jw_zret hx hb hr hlocks rfl rfl rfl hP hD hS dX12_isOnce_41
set_option maxHeartbeats 4000000 in
set_option maxRecDepth 100000 in
theorem k387_X12_isOnce {l : Launch} {D : va_G} {Y : Nat → ClassId} {tt : Nat → Nat} (sz : Nat) : Met l yX12_isOnce wsX12_isOnce ({ frames := 0, cells := 0, slots := 0, locals := 0 }) (jw_Pc D Y tt [.int 2, .int 2] [] sz) (jw_Qi D (fun r => r = 0) (fun w => w = []) (va_A [] sz)) 0 0 (va_A [] sz) := by
  refine jw_met (fun A => jw_Qi D (fun r => r = 0) (fun w => w = []) A) (cc := cX12_isOnce) (maxL := 4) (ret := (some .boolean)) pn_X12_isOnce rfl rfl ?_
  intro p e s m below meth c A H locs ls hx hb hml hr hts hown hlocks hin hP hD hA hS hE hl
  have hown : s.vm.findClass RX12 = some m.cls := hown
  have hl : lv_has ls 4 [(0, .int 2), (1, .int 2)] := hl
  refine lv_iconst (v := 0) hx hb dX12_isOnce_0 (by decide +kernel) ?_
  refine lv_istore_n (lv' := [(2, .int 0), (0, .int 2), (1, .int 2)]) hx hb dX12_isOnce_1 rfl hl (by decide) rfl (fun ls hl => ?_)
  refine lv_iconst (v := 0) hx hb dX12_isOnce_2 (by decide +kernel) ?_
  refine lv_istore_n (lv' := [(3, .int 0), (2, .int 0), (0, .int 2), (1, .int 2)]) hx hb dX12_isOnce_3 rfl hl (by decide) rfl (fun ls hl => ?_)
  refine lv_iload_n hx hb dX12_isOnce_4 rfl (lv_at hl 0 rfl) ?_
  refine lv_iload_n hx hb dX12_isOnce_5 rfl (lv_at hl 3 rfl) ?_
  refine lv_icmp_ge (tgt := 27) hx hb dX12_isOnce_6 (by decide) (fun c9 => absurd c9 (by decide +kernel)) (fun _ => ?_)
  refine lv_iload_n hx hb dX12_isOnce_9 rfl (lv_at hl 1 rfl) ?_
  refine lv_iconst (v := 1) hx hb dX12_isOnce_10 (by decide +kernel) ?_
  refine lv_iload_n hx hb dX12_isOnce_11 rfl (lv_at hl 2 rfl) ?_
  refine lv_iconst (v := 2) hx hb dX12_isOnce_12 (by decide +kernel) ?_
  refine lv_iload_n hx hb dX12_isOnce_13 rfl (lv_at hl 0 rfl) ?_
  refine jw_imul (v := 0) hx hb dX12_isOnce_14 (by decide +kernel) ?_
  refine jw_ishr (v := 2) hx hb dX12_isOnce_15 (by decide +kernel) ?_
  refine lv_iconst (v := 3) hx hb dX12_isOnce_16 (by decide +kernel) ?_
  refine jw_iand (v := 2) hx hb dX12_isOnce_17 (by decide +kernel) ?_
  refine jw_ishl (v := 4) hx hb dX12_isOnce_18 (by decide +kernel) ?_
  refine jw_ior (v := 4) hx hb dX12_isOnce_19 (by decide +kernel) ?_
  refine lv_istore_n (lv' := [(2, .int 4), (3, .int 0), (0, .int 2), (1, .int 2)]) hx hb dX12_isOnce_20 rfl hl (by decide) rfl (fun ls hl => ?_)
  refine lv_iinc (v := 1) (lv' := [(3, .int 1), (2, .int 4), (0, .int 2), (1, .int 2)]) hx hb dX12_isOnce_21 hl (k := 1) rfl (by decide +kernel) (by decide) rfl (fun ls hl => ?_)
  refine lv_goto (tgt := 4) hx hb dX12_isOnce_24 (by decide) ?_
  refine lv_iload_n hx hb dX12_isOnce_4 rfl (lv_at hl 0 rfl) ?_
  refine lv_iload_n hx hb dX12_isOnce_5 rfl (lv_at hl 3 rfl) ?_
  refine lv_icmp_ge (tgt := 27) hx hb dX12_isOnce_6 (by decide) (fun c9 => absurd c9 (by decide +kernel)) (fun _ => ?_)
  refine lv_iload_n hx hb dX12_isOnce_9 rfl (lv_at hl 1 rfl) ?_
  refine lv_iconst (v := 1) hx hb dX12_isOnce_10 (by decide +kernel) ?_
  refine lv_iload_n hx hb dX12_isOnce_11 rfl (lv_at hl 2 rfl) ?_
  refine lv_iconst (v := 2) hx hb dX12_isOnce_12 (by decide +kernel) ?_
  refine lv_iload_n hx hb dX12_isOnce_13 rfl (lv_at hl 0 rfl) ?_
  refine jw_imul (v := 2) hx hb dX12_isOnce_14 (by decide +kernel) ?_
  refine jw_ishr (v := 0) hx hb dX12_isOnce_15 (by decide +kernel) ?_
  refine lv_iconst (v := 3) hx hb dX12_isOnce_16 (by decide +kernel) ?_
  refine jw_iand (v := 0) hx hb dX12_isOnce_17 (by decide +kernel) ?_
  refine jw_ishl (v := 1) hx hb dX12_isOnce_18 (by decide +kernel) ?_
  refine jw_ior (v := 5) hx hb dX12_isOnce_19 (by decide +kernel) ?_
  refine lv_istore_n (lv' := [(2, .int 5), (3, .int 1), (0, .int 2), (1, .int 2)]) hx hb dX12_isOnce_20 rfl hl (by decide) rfl (fun ls hl => ?_)
  refine lv_iinc (v := 2) (lv' := [(3, .int 2), (2, .int 5), (0, .int 2), (1, .int 2)]) hx hb dX12_isOnce_21 hl (k := 1) rfl (by decide +kernel) (by decide) rfl (fun ls hl => ?_)
  refine lv_goto (tgt := 4) hx hb dX12_isOnce_24 (by decide) ?_
  refine lv_iload_n hx hb dX12_isOnce_4 rfl (lv_at hl 0 rfl) ?_
  refine lv_iload_n hx hb dX12_isOnce_5 rfl (lv_at hl 3 rfl) ?_
  refine lv_icmp_ge (tgt := 27) hx hb dX12_isOnce_6 (by decide) (fun _ => ?_) (fun c9 => absurd (by decide +kernel) c9)
  refine lv_iload_n hx hb dX12_isOnce_27 rfl (lv_at hl 1 rfl) ?_
  refine lv_iconst (v := 1) hx hb dX12_isOnce_28 (by decide +kernel) ?_
  refine lv_iload_n hx hb dX12_isOnce_29 rfl (lv_at hl 3 rfl) ?_
  refine jw_ishl (v := 4) hx hb dX12_isOnce_30 (by decide +kernel) ?_
  refine lv_iconst (v := 1) hx hb dX12_isOnce_31 (by decide +kernel) ?_
  refine jw_isub (v := 3) hx hb dX12_isOnce_32 (by decide +kernel) ?_
  refine lv_icmp_ne (tgt := 40) hx hb dX12_isOnce_33 (by decide) (fun _ => ?_) (fun c9 => absurd c9 (by decide +kernel))
  refine lv_iconst (v := 0) hx hb dX12_isOnce_40 (by decide +kernel) ?_
  refine W.widen (k := 0) (n := 0) (Nat.le_of_ble_eq_true rfl) (Nat.le_of_ble_eq_true rfl) ?_
  exact jw_zret hx hb hr hlocks rfl rfl rfl hP hD hS dX12_isOnce_41
set_option maxHeartbeats 4000000 in
set_option maxRecDepth 100000 in
theorem k388_X12_isOnce {l : Launch} {D : va_G} {Y : Nat → ClassId} {tt : Nat → Nat} (sz : Nat) : Met l yX12_isOnce wsX12_isOnce ({ frames := 0, cells := 0, slots := 0, locals := 0 }) (jw_Pc D Y tt [.int 6, .int 2] [] sz) (jw_Qi D (fun r => r = 0) (fun w => w = []) (va_A [] sz)) 0 0 (va_A [] sz) := by
  refine jw_met (fun A => jw_Qi D (fun r => r = 0) (fun w => w = []) A) (cc := cX12_isOnce) (maxL := 4) (ret := (some .boolean)) pn_X12_isOnce rfl rfl ?_
  intro p e s m below meth c A H locs ls hx hb hml hr hts hown hlocks hin hP hD hA hS hE hl
  have hown : s.vm.findClass RX12 = some m.cls := hown
  have hl : lv_has ls 4 [(0, .int 6), (1, .int 2)] := hl
  refine lv_iconst (v := 0) hx hb dX12_isOnce_0 (by decide +kernel) ?_
  refine lv_istore_n (lv' := [(2, .int 0), (0, .int 6), (1, .int 2)]) hx hb dX12_isOnce_1 rfl hl (by decide) rfl (fun ls hl => ?_)
  refine lv_iconst (v := 0) hx hb dX12_isOnce_2 (by decide +kernel) ?_
  refine lv_istore_n (lv' := [(3, .int 0), (2, .int 0), (0, .int 6), (1, .int 2)]) hx hb dX12_isOnce_3 rfl hl (by decide) rfl (fun ls hl => ?_)
  refine lv_iload_n hx hb dX12_isOnce_4 rfl (lv_at hl 0 rfl) ?_
  refine lv_iload_n hx hb dX12_isOnce_5 rfl (lv_at hl 3 rfl) ?_
  refine lv_icmp_ge (tgt := 27) hx hb dX12_isOnce_6 (by decide) (fun c9 => absurd c9 (by decide +kernel)) (fun _ => ?_)
  refine lv_iload_n hx hb dX12_isOnce_9 rfl (lv_at hl 1 rfl) ?_
  refine lv_iconst (v := 1) hx hb dX12_isOnce_10 (by decide +kernel) ?_
  refine lv_iload_n hx hb dX12_isOnce_11 rfl (lv_at hl 2 rfl) ?_
  refine lv_iconst (v := 2) hx hb dX12_isOnce_12 (by decide +kernel) ?_
  refine lv_iload_n hx hb dX12_isOnce_13 rfl (lv_at hl 0 rfl) ?_
  refine jw_imul (v := 0) hx hb dX12_isOnce_14 (by decide +kernel) ?_
  refine jw_ishr (v := 6) hx hb dX12_isOnce_15 (by decide +kernel) ?_
  refine lv_iconst (v := 3) hx hb dX12_isOnce_16 (by decide +kernel) ?_
  refine jw_iand (v := 2) hx hb dX12_isOnce_17 (by decide +kernel) ?_
  refine jw_ishl (v := 4) hx hb dX12_isOnce_18 (by decide +kernel) ?_
  refine jw_ior (v := 4) hx hb dX12_isOnce_19 (by decide +kernel) ?_
  refine lv_istore_n (lv' := [(2, .int 4), (3, .int 0), (0, .int 6), (1, .int 2)]) hx hb dX12_isOnce_20 rfl hl (by decide) rfl (fun ls hl => ?_)
  refine lv_iinc (v := 1) (lv' := [(3, .int 1), (2, .int 4), (0, .int 6), (1, .int 2)]) hx hb dX12_isOnce_21 hl (k := 1) rfl (by decide +kernel) (by decide) rfl (fun ls hl => ?_)
  refine lv_goto (tgt := 4) hx hb dX12_isOnce_24 (by decide) ?_
  refine lv_iload_n hx hb dX12_isOnce_4 rfl (lv_at hl 0 rfl) ?_
  refine lv_iload_n hx hb dX12_isOnce_5 rfl (lv_at hl 3 rfl) ?_
  refine lv_icmp_ge (tgt := 27) hx hb dX12_isOnce_6 (by decide) (fun c9 => absurd c9 (by decide +kernel)) (fun _ => ?_)
  refine lv_iload_n hx hb dX12_isOnce_9 rfl (lv_at hl 1 rfl) ?_
  refine lv_iconst (v := 1) hx hb dX12_isOnce_10 (by decide +kernel) ?_
  refine lv_iload_n hx hb dX12_isOnce_11 rfl (lv_at hl 2 rfl) ?_
  refine lv_iconst (v := 2) hx hb dX12_isOnce_12 (by decide +kernel) ?_
  refine lv_iload_n hx hb dX12_isOnce_13 rfl (lv_at hl 0 rfl) ?_
  refine jw_imul (v := 2) hx hb dX12_isOnce_14 (by decide +kernel) ?_
  refine jw_ishr (v := 1) hx hb dX12_isOnce_15 (by decide +kernel) ?_
  refine lv_iconst (v := 3) hx hb dX12_isOnce_16 (by decide +kernel) ?_
  refine jw_iand (v := 1) hx hb dX12_isOnce_17 (by decide +kernel) ?_
  refine jw_ishl (v := 2) hx hb dX12_isOnce_18 (by decide +kernel) ?_
  refine jw_ior (v := 6) hx hb dX12_isOnce_19 (by decide +kernel) ?_
  refine lv_istore_n (lv' := [(2, .int 6), (3, .int 1), (0, .int 6), (1, .int 2)]) hx hb dX12_isOnce_20 rfl hl (by decide) rfl (fun ls hl => ?_)
  refine lv_iinc (v := 2) (lv' := [(3, .int 2), (2, .int 6), (0, .int 6), (1, .int 2)]) hx hb dX12_isOnce_21 hl (k := 1) rfl (by decide +kernel) (by decide) rfl (fun ls hl => ?_)
  refine lv_goto (tgt := 4) hx hb dX12_isOnce_24 (by decide) ?_
  refine lv_iload_n hx hb dX12_isOnce_4 rfl (lv_at hl 0 rfl) ?_
  refine lv_iload_n hx hb dX12_isOnce_5 rfl (lv_at hl 3 rfl) ?_
  refine lv_icmp_ge (tgt := 27) hx hb dX12_isOnce_6 (by decide) (fun _ => ?_) (fun c9 => absurd (by decide +kernel) c9)
  refine lv_iload_n hx hb dX12_isOnce_27 rfl (lv_at hl 1 rfl) ?_
  refine lv_iconst (v := 1) hx hb dX12_isOnce_28 (by decide +kernel) ?_
  refine lv_iload_n hx hb dX12_isOnce_29 rfl (lv_at hl 3 rfl) ?_
  refine jw_ishl (v := 4) hx hb dX12_isOnce_30 (by decide +kernel) ?_
  refine lv_iconst (v := 1) hx hb dX12_isOnce_31 (by decide +kernel) ?_
  refine jw_isub (v := 3) hx hb dX12_isOnce_32 (by decide +kernel) ?_
  refine lv_icmp_ne (tgt := 40) hx hb dX12_isOnce_33 (by decide) (fun _ => ?_) (fun c9 => absurd c9 (by decide +kernel))
  refine lv_iconst (v := 0) hx hb dX12_isOnce_40 (by decide +kernel) ?_
  refine W.widen (k := 0) (n := 0) (Nat.le_of_ble_eq_true rfl) (Nat.le_of_ble_eq_true rfl) ?_
  exact jw_zret hx hb hr hlocks rfl rfl rfl hP hD hS dX12_isOnce_41
set_option maxHeartbeats 4000000 in
set_option maxRecDepth 100000 in
theorem k389_X12_isOnce {l : Launch} {D : va_G} {Y : Nat → ClassId} {tt : Nat → Nat} (sz : Nat) : Met l yX12_isOnce wsX12_isOnce ({ frames := 0, cells := 0, slots := 0, locals := 0 }) (jw_Pc D Y tt [.int 10, .int 2] [] sz) (jw_Qi D (fun r => r = 0) (fun w => w = []) (va_A [] sz)) 0 0 (va_A [] sz) := by
  refine jw_met (fun A => jw_Qi D (fun r => r = 0) (fun w => w = []) A) (cc := cX12_isOnce) (maxL := 4) (ret := (some .boolean)) pn_X12_isOnce rfl rfl ?_
  intro p e s m below meth c A H locs ls hx hb hml hr hts hown hlocks hin hP hD hA hS hE hl
  have hown : s.vm.findClass RX12 = some m.cls := hown
  have hl : lv_has ls 4 [(0, .int 10), (1, .int 2)] := hl
  refine lv_iconst (v := 0) hx hb dX12_isOnce_0 (by decide +kernel) ?_
  refine lv_istore_n (lv' := [(2, .int 0), (0, .int 10), (1, .int 2)]) hx hb dX12_isOnce_1 rfl hl (by decide) rfl (fun ls hl => ?_)
  refine lv_iconst (v := 0) hx hb dX12_isOnce_2 (by decide +kernel) ?_
  refine lv_istore_n (lv' := [(3, .int 0), (2, .int 0), (0, .int 10), (1, .int 2)]) hx hb dX12_isOnce_3 rfl hl (by decide) rfl (fun ls hl => ?_)
  refine lv_iload_n hx hb dX12_isOnce_4 rfl (lv_at hl 0 rfl) ?_
  refine lv_iload_n hx hb dX12_isOnce_5 rfl (lv_at hl 3 rfl) ?_
  refine lv_icmp_ge (tgt := 27) hx hb dX12_isOnce_6 (by decide) (fun c9 => absurd c9 (by decide +kernel)) (fun _ => ?_)
  refine lv_iload_n hx hb dX12_isOnce_9 rfl (lv_at hl 1 rfl) ?_
  refine lv_iconst (v := 1) hx hb dX12_isOnce_10 (by decide +kernel) ?_
  refine lv_iload_n hx hb dX12_isOnce_11 rfl (lv_at hl 2 rfl) ?_
  refine lv_iconst (v := 2) hx hb dX12_isOnce_12 (by decide +kernel) ?_
  refine lv_iload_n hx hb dX12_isOnce_13 rfl (lv_at hl 0 rfl) ?_
  refine jw_imul (v := 0) hx hb dX12_isOnce_14 (by decide +kernel) ?_
  refine jw_ishr (v := 10) hx hb dX12_isOnce_15 (by decide +kernel) ?_
  refine lv_iconst (v := 3) hx hb dX12_isOnce_16 (by decide +kernel) ?_
  refine jw_iand (v := 2) hx hb dX12_isOnce_17 (by decide +kernel) ?_
  refine jw_ishl (v := 4) hx hb dX12_isOnce_18 (by decide +kernel) ?_
  refine jw_ior (v := 4) hx hb dX12_isOnce_19 (by decide +kernel) ?_
  refine lv_istore_n (lv' := [(2, .int 4), (3, .int 0), (0, .int 10), (1, .int 2)]) hx hb dX12_isOnce_20 rfl hl (by decide) rfl (fun ls hl => ?_)
  refine lv_iinc (v := 1) (lv' := [(3, .int 1), (2, .int 4), (0, .int 10), (1, .int 2)]) hx hb dX12_isOnce_21 hl (k := 1) rfl (by decide +kernel) (by decide) rfl (fun ls hl => ?_)
  refine lv_goto (tgt := 4) hx hb dX12_isOnce_24 (by decide) ?_
  refine lv_iload_n hx hb dX12_isOnce_4 rfl (lv_at hl 0 rfl) ?_
  refine lv_iload_n hx hb dX12_isOnce_5 rfl (lv_at hl 3 rfl) ?_
  refine lv_icmp_ge (tgt := 27) hx hb dX12_isOnce_6 (by decide) (fun c9 => absurd c9 (by decide +kernel)) (fun _ => ?_)
  refine lv_iload_n hx hb dX12_isOnce_9 rfl (lv_at hl 1 rfl) ?_
  refine lv_iconst (v := 1) hx hb dX12_isOnce_10 (by decide +kernel) ?_
  refine lv_iload_n hx hb dX12_isOnce_11 rfl (lv_at hl 2 rfl) ?_
  refine lv_iconst (v := 2) hx hb dX12_isOnce_12 (by decide +kernel) ?_
  refine lv_iload_n hx hb dX12_isOnce_13 rfl (lv_at hl 0 rfl) ?_
  refine jw_imul (v := 2) hx hb dX12_isOnce_14 (by decide +kernel) ?_
  refine jw_ishr (v := 2) hx hb dX12_isOnce_15 (by decide +kernel) ?_
  refine lv_iconst (v := 3) hx hb dX12_isOnce_16 (by decide +kernel) ?_
  refine jw_iand (v := 2) hx hb dX12_isOnce_17 (by decide +kernel) ?_
  refine jw_ishl (v := 4) hx hb dX12_isOnce_18 (by decide +kernel) ?_
  refine jw_ior (v := 4) hx hb dX12_isOnce_19 (by decide +kernel) ?_
  refine lv_istore_n (lv' := [(2, .int 4), (3, .int 1), (0, .int 10), (1, .int 2)]) hx hb dX12_isOnce_20 rfl hl (by decide) rfl (fun ls hl => ?_)
  refine lv_iinc (v := 2) (lv' := [(3, .int 2), (2, .int 4), (0, .int 10), (1, .int 2)]) hx hb dX12_isOnce_21 hl (k := 1) rfl (by decide +kernel) (by decide) rfl (fun ls hl => ?_)
  refine lv_goto (tgt := 4) hx hb dX12_isOnce_24 (by decide) ?_
  refine lv_iload_n hx hb dX12_isOnce_4 rfl (lv_at hl 0 rfl) ?_
  refine lv_iload_n hx hb dX12_isOnce_5 rfl (lv_at hl 3 rfl) ?_
  refine lv_icmp_ge (tgt := 27) hx hb dX12_isOnce_6 (by decide) (fun _ => ?_) (fun c9 => absurd (by decide +kernel) c9)
  refine lv_iload_n hx hb dX12_isOnce_27 rfl (lv_at hl 1 rfl) ?_
  refine lv_iconst (v := 1) hx hb dX12_isOnce_28 (by decide +kernel) ?_
  refine lv_iload_n hx hb dX12_isOnce_29 rfl (lv_at hl 3 rfl) ?_
  refine jw_ishl (v := 4) hx hb dX12_isOnce_30 (by decide +kernel) ?_
  refine lv_iconst (v := 1) hx hb dX12_isOnce_31 (by decide +kernel) ?_
  refine jw_isub (v := 3) hx hb dX12_isOnce_32 (by decide +kernel) ?_
  refine lv_icmp_ne (tgt := 40) hx hb dX12_isOnce_33 (by decide) (fun _ => ?_) (fun c9 => absurd c9 (by decide +kernel))
  refine lv_iconst (v := 0) hx hb dX12_isOnce_40 (by decide +kernel) ?_
  refine W.widen (k := 0) (n := 0) (Nat.le_of_ble_eq_true rfl) (Nat.le_of_ble_eq_true rfl) ?_
  exact jw_zret hx hb hr hlocks rfl rfl rfl hP hD hS dX12_isOnce_41
set_option maxHeartbeats 4000000 in
set_option maxRecDepth 100000 in
theorem k390_X12_isOnce {l : Launch} {D : va_G} {Y : Nat → ClassId} {tt : Nat → Nat} (sz : Nat) : Met l yX12_isOnce wsX12_isOnce ({ frames := 0, cells := 0, slots := 0, locals := 0 }) (jw_Pc D Y tt [.int 14, .int 2] [] sz) (jw_Qi D (fun r => r = 0) (fun w => w = []) (va_A [] sz)) 0 0 (va_A [] sz) := by
  refine jw_met (fun A => jw_Qi D (fun r => r = 0) (fun w => w = []) A) (cc := cX12_isOnce) (maxL := 4) (ret := (some .boolean)) pn_X12_isOnce rfl rfl ?_
  intro p e s m below meth c A H locs ls hx hb hml hr hts hown hlocks hin hP hD hA hS hE hl
  have hown : s.vm.findClass RX12 = some m.cls := hown
  have hl : lv_has ls 4 [(0, .int 14), (1, .int 2)] := hl
  refine lv_iconst (v := 0) hx hb dX12_isOnce_0 (by decide +kernel) ?_
  refine lv_istore_n (lv' := [(2, .int 0), (0, .int 14), (1, .int 2)]) hx hb dX12_isOnce_1 rfl hl (by decide) rfl (fun ls hl => ?_)
  refine lv_iconst (v := 0) hx hb dX12_isOnce_2 (by decide +kernel) ?_
  refine lv_istore_n (lv' := [(3, .int 0), (2, .int 0), (0, .int 14), (1, .int 2)]) hx hb dX12_isOnce_3 rfl hl (by decide) rfl (fun ls hl => ?_)
  refine lv_iload_n hx hb dX12_isOnce_4 rfl (lv_at hl 0 rfl) ?_
  refine lv_iload_n hx hb dX12_isOnce_5 rfl (lv_at hl 3 rfl) ?_
  refine lv_icmp_ge (tgt := 27) hx hb dX12_isOnce_6 (by decide) (fun c9 => absurd c9 (by decide +kernel)) (fun _ => ?_)
  refine lv_iload_n hx hb dX12_isOnce_9 rfl (lv_at hl 1 rfl) ?_
  refine lv_iconst (v := 1) hx hb dX12_isOnce_10 (by decide +kernel) ?_
  refine lv_iload_n hx hb dX12_isOnce_11 rfl (lv_at hl 2 rfl) ?_
  refine lv_iconst (v := 2) hx hb dX12_isOnce_12 (by decide +kernel) ?_
  refine lv_iload_n hx hb dX12_isOnce_13 rfl (lv_at hl 0 rfl) ?_
  refine jw_imul (v := 0) hx hb dX12_isOnce_14 (by decide +kernel) ?_
  refine jw_ishr (v := 14) hx hb dX12_isOnce_15 (by decide +kernel) ?_
  refine lv_iconst (v := 3) hx hb dX12_isOnce_16 (by decide +kernel) ?_
  refine jw_iand (v := 2) hx hb dX12_isOnce_17 (by decide +kernel) ?_
  refine jw_ishl (v := 4) hx hb dX12_isOnce_18 (by decide +kernel) ?_
  refine jw_ior (v := 4) hx hb dX12_isOnce_19 (by decide +kernel) ?_
  refine lv_istore_n (lv' := [(2, .int 4), (3, .int 0), (0, .int 14), (1, .int 2)]) hx hb dX12_isOnce_20 rfl hl (by decide) rfl (fun ls hl => ?_)
  refine lv_iinc (v := 1) (lv' := [(3, .int 1), (2, .int 4), (0, .int 14), (1, .int 2)]) hx hb dX12_isOnce_21 hl (k := 1) rfl (by decide +kernel) (by decide) rfl (fun ls hl => ?_)
  refine lv_goto (tgt := 4) hx hb dX12_isOnce_24 (by decide) ?_
  refine lv_iload_n hx hb dX12_isOnce_4 rfl (lv_at hl 0 rfl) ?_
  refine lv_iload_n hx hb dX12_isOnce_5 rfl (lv_at hl 3 rfl) ?_
  refine lv_icmp_ge (tgt := 27) hx hb dX12_isOnce_6 (by decide) (fun c9 => absurd c9 (by decide +kernel)) (fun _ => ?_)
  refine lv_iload_n hx hb dX12_isOnce_9 rfl (lv_at hl 1 rfl) ?_
  refine lv_iconst (v := 1) hx hb dX12_isOnce_10 (by decide +kernel) ?_
  refine lv_iload_n hx hb dX12_isOnce_11 rfl (lv_at hl 2 rfl) ?_
  refine lv_iconst (v := 2) hx hb dX12_isOnce_12 (by decide +kernel) ?_
  refine lv_iload_n hx hb dX12_isOnce_13 rfl (lv_at hl 0 rfl) ?_
  refine jw_imul (v := 2) hx hb dX12_isOnce_14 (by decide +kernel) ?_
  refine jw_ishr (v := 3) hx hb dX12_isOnce_15 (by decide +kernel) ?_
  refine lv_iconst (v := 3) hx hb dX12_isOnce_16 (by decide +kernel) ?_
  refine jw_iand (v := 3) hx hb dX12_isOnce_17 (by decide +kernel) ?_
  refine jw_ishl (v := 8) hx hb dX12_isOnce_18 (by decide +kernel) ?_
  refine jw_ior (v := 12) hx hb dX12_isOnce_19 (by decide +kernel) ?_
  refine lv_istore_n (lv' := [(2, .int 12), (3, .int 1), (0, .int 14), (1, .int 2)]) hx hb dX12_isOnce_20 rfl hl (by decide) rfl (fun ls hl => ?_)
  refine lv_iinc (v := 2) (lv' := [(3, .int 2), (2, .int 12), (0, .int 14), (1, .int 2)]) hx hb dX12_isOnce_21 hl (k := 1) rfl (by decide +kernel) (by decide) rfl (fun ls hl => ?_)
  refine lv_goto (tgt := 4) hx hb dX12_isOnce_24 (by decide) ?_
  refine lv_iload_n hx hb dX12_isOnce_4 rfl (lv_at hl 0 rfl) ?_
  refine lv_iload_n hx hb dX12_isOnce_5 rfl (lv_at hl 3 rfl) ?_
  refine lv_icmp_ge (tgt := 27) hx hb dX12_isOnce_6 (by decide) (fun _ => ?_) (fun c9 => absurd (by decide +kernel) c9)
  refine lv_iload_n hx hb dX12_isOnce_27 rfl (lv_at hl 1 rfl) ?_
  refine lv_iconst (v := 1) hx hb dX12_isOnce_28 (by decide +kernel) ?_
  refine lv_iload_n hx hb dX12_isOnce_29 rfl (lv_at hl 3 rfl) ?_
  refine jw_ishl (v := 4) hx hb dX12_isOnce_30 (by decide +kernel) ?_
  refine lv_iconst (v := 1) hx hb dX12_isOnce_31 (by decide +kernel) ?_
  refine jw_isub (v := 3) hx hb dX12_isOnce_32 (by decide +kernel) ?_
  refine lv_icmp_ne (tgt := 40) hx hb dX12_isOnce_33 (by decide) (fun _ => ?_) (fun c9 => absurd c9 (by decide +kernel))
  refine lv_iconst (v := 0) hx hb dX12_isOnce_40 (by decide +kernel) ?_
  refine W.widen (k := 0) (n := 0) (Nat.le_of_ble_eq_true rfl) (Nat.le_of_ble_eq_true rfl) ?_
  exact jw_zret hx hb hr hlocks rfl rfl rfl hP hD hS dX12_isOnce_41
set_option maxHeartbeats 4000000 in
set_option maxRecDepth 100000 in
theorem k391_X12_isOnce {l : Launch} {D : va_G} {Y : Nat → ClassId} {tt : Nat → Nat} (sz : Nat) : Met l yX12_isOnce wsX12_isOnce ({ frames := 0, cells := 0, slots := 0, locals := 0 }) (jw_Pc D Y tt [.int 3, .int 2] [] sz) (jw_Qi D (fun r => r = 0) (fun w => w = []) (va_A [] sz)) 0 0 (va_A [] sz) := by
  refine jw_met (fun A => jw_Qi D (fun r => r = 0) (fun w => w = []) A) (cc := cX12_isOnce) (maxL := 4) (ret := (some .boolean)) pn_X12_isOnce rfl rfl ?_
  intro p e s m below meth c A H locs ls hx hb hml hr hts hown hlocks hin hP hD hA hS hE hl
  have hown : s.vm.findClass RX12 = some m.cls := hown
  have hl : lv_has ls 4 [(0, .int 3), (1, .int 2)] := hl
  refine lv_iconst (v := 0) hx hb dX12_isOnce_0 (by decide +kernel) ?_
  refine lv_istore_n (lv' := [(2, .int 0), (0, .int 3), (1, .int 2)]) hx hb dX12_isOnce_1 rfl hl (by decide) rfl (fun ls hl => ?_)
  refine lv_iconst (v := 0) hx hb dX12_isOnce_2 (by decide +kernel) ?_
  refine lv_istore_n (lv' := [(3, .int 0), (2, .int 0), (0, .int 3), (1, .int 2)]) hx hb dX12_isOnce_3 rfl hl (by decide) rfl (fun ls hl => ?_)
  refine lv_iload_n hx hb dX12_isOnce_4 rfl (lv_at hl 0 rfl) ?_
  refine lv_iload_n hx hb dX12_isOnce_5 rfl (lv_at hl 3 rfl) ?_
  refine lv_icmp_ge (tgt := 27) hx hb dX12_isOnce_6 (by decide) (fun c9 => absurd c9 (by decide +kernel)) (fun _ => ?_)
  refine lv_iload_n hx hb dX12_isOnce_9 rfl (lv_at hl 1 rfl) ?_
  refine lv_iconst (v := 1) hx hb dX12_isOnce_10 (by decide +kernel) ?_
  refine lv_iload_n hx hb dX12_isOnce_11 rfl (lv_at hl 2 rfl) ?_
  refine lv_iconst (v := 2) hx hb dX12_isOnce_12 (by decide +kernel) ?_
  refine lv_iload_n hx hb dX12_isOnce_13 rfl (lv_at hl 0 rfl) ?_
  refine jw_imul (v := 0) hx hb dX12_isOnce_14 (by decide +kernel) ?_
  refine jw_ishr (v := 3) hx hb dX12_isOnce_15 (by decide +kernel) ?_
  refine lv_iconst (v := 3) hx hb dX12_isOnce_16 (by decide +kernel) ?_
  refine jw_iand (v := 3) hx hb dX12_isOnce_17 (by decide +kernel) ?_
  refine jw_ishl (v := 8) hx hb dX12_isOnce_18 (by decide +kernel) ?_
  refine jw_ior (v := 8) hx hb dX12_isOnce_19 (by decide +kernel) ?_
  refine lv_istore_n (lv' := [(2, .int 8), (3, .int 0), (0, .int 3), (1, .int 2)]) hx hb dX12_isOnce_20 rfl hl (by decide) rfl (fun ls hl => ?_)
  refine lv_iinc (v := 1) (lv' := [(3, .int 1), (2, .int 8), (0, .int 3), (1, .int 2)]) hx hb dX12_isOnce_21 hl (k := 1) rfl (by decide +kernel) (by decide) rfl (fun ls hl => ?_)
  refine lv_goto (tgt := 4) hx hb dX12_isOnce_24 (by decide) ?_
  refine lv_iload_n hx hb dX12_isOnce_4 rfl (lv_at hl 0 rfl) ?_
  refine lv_iload_n hx hb dX12_isOnce_5 rfl (lv_at hl 3 rfl) ?_
  refine lv_icmp_ge (tgt := 27) hx hb dX12_isOnce_6 (by decide) (fun c9 => absurd c9 (by decide +kernel)) (fun _ => ?_)
  refine lv_iload_n hx hb dX12_isOnce_9 rfl (lv_at hl 1 rfl) ?_
  refine lv_iconst (v := 1) hx hb dX12_isOnce_10 (by decide +kernel) ?_
  refine lv_iload_n hx hb dX12_isOnce_11 rfl (lv_at hl 2 rfl) ?_
  refine lv_iconst (v := 2) hx hb dX12_isOnce_12 (by decide +kernel) ?_
  refine lv_iload_n hx hb dX12_isOnce_13 rfl (lv_at hl 0 rfl) ?_
  refine jw_imul (v := 2) hx hb dX12_isOnce_14 (by decide +kernel) ?_
  refine jw_ishr (v := 0) hx hb dX12_isOnce_15 (by decide +kernel) ?_
  refine lv_iconst (v := 3) hx hb dX12_isOnce_16 (by decide +kernel) ?_
  refine jw_iand (v := 0) hx hb dX12_isOnce_17 (by decide +kernel) ?_
  refine jw_ishl (v := 1) hx hb dX12_isOnce_18 (by decide +kernel) ?_
  refine jw_ior (v := 9) hx hb dX12_isOnce_19 (by decide +kernel) ?_
  refine lv_istore_n (lv' := [(2, .int 9), (3, .int 1), (0, .int 3), (1, .int 2)]) hx hb dX12_isOnce_20 rfl hl (by decide) rfl (fun ls hl => ?_)
  refine lv_iinc (v := 2) (lv' := [(3, .int 2), (2, .int 9), (0, .int 3), (1, .int 2)]) hx hb dX12_isOnce_21 hl (k := 1) rfl (by decide +kernel) (by decide) rfl (fun ls hl => ?_)
  refine lv_goto (tgt := 4) hx hb dX12_isOnce_24 (by decide) ?_
  refine lv_iload_n hx hb dX12_isOnce_4 rfl (lv_at hl 0 rfl) ?_
  refine lv_iload_n hx hb dX12_isOnce_5 rfl (lv_at hl 3 rfl) ?_
  refine lv_icmp_ge (tgt := 27) hx hb dX12_isOnce_6 (by decide) (fun _ => ?_) (fun c9 => absurd (by decide +kernel) c9)
  refine lv_iload_n hx hb dX12_isOnce_27 rfl (lv_at hl 1 rfl) ?_
  refine lv_iconst (v := 1) hx hb dX12_isOnce_28 (by decide +kernel) ?_
  refine lv_iload_n hx hb dX12_isOnce_29 rfl (lv_at hl 3 rfl) ?_
  refine jw_ishl (v := 4) hx hb dX12_isOnce_30 (by decide +kernel) ?_
  refine lv_iconst (v := 1) hx hb dX12_isOnce_31 (by decide +kernel) ?_
  refine jw_isub (v := 3) hx hb dX12_isOnce_32 (by decide +kernel) ?_
  refine lv_icmp_ne (tgt := 40) hx hb dX12_isOnce_33 (by decide) (fun _ => ?_) (fun c9 => absurd c9 (by decide +kernel))
  refine lv_iconst (v := 0) hx hb dX12_isOnce_40 (by decide +kernel) ?_
  refine W.widen (k := 0) (n := 0) (Nat.le_of_ble_eq_true rfl) (Nat.le_of_ble_eq_true rfl) ?_
  exact jw_zret hx hb hr hlocks rfl rfl rfl hP hD hS dX12_isOnce_41
set_option maxHeartbeats 4000000 in
set_option maxRecDepth 100000 in
theorem k392_X12_isOnce {l : Launch} {D : va_G} {Y : Nat → ClassId} {tt : Nat → Nat} (sz : Nat) : Met l yX12_isOnce wsX12_isOnce ({ frames := 0, cells := 0, slots := 0, locals := 0 }) (jw_Pc D Y tt [.int 7, .int 2] [] sz) (jw_Qi D (fun r => r = 0) (fun w => w = []) (va_A [] sz)) 0 0 (va_A [] sz) := by
  refine jw_met (fun A => jw_Qi D (fun r => r = 0) (fun w => w = []) A) (cc := cX12_isOnce) (maxL := 4) (ret := (some .boolean)) pn_X12_isOnce rfl rfl ?_
  intro p e s m below meth c A H locs ls hx hb hml hr hts hown hlocks hin hP hD hA hS hE hl
  have hown : s.vm.findClass RX12 = some m.cls := hown
  have hl : lv_has ls 4 [(0, .int 7), (1, .int 2)] := hl
  refine lv_iconst (v := 0) hx hb dX12_isOnce_0 (by decide +kernel) ?_
  refine lv_istore_n (lv' := [(2, .int 0), (0, .int 7), (1, .int 2)]) hx hb dX12_isOnce_1 rfl hl (by decide) rfl (fun ls hl => ?_)
  refine lv_iconst (v := 0) hx hb dX12_isOnce_2 (by decide +kernel) ?_
  refine lv_istore_n (lv' := [(3, .int 0), (2, .int 0), (0, .int 7), (1, .int 2)]) hx hb dX12_isOnce_3 rfl hl (by decide) rfl (fun ls hl => ?_)
  refine lv_iload_n hx hb dX12_isOnce_4 rfl (lv_at hl 0 rfl) ?_
  refine lv_iload_n hx hb dX12_isOnce_5 rfl (lv_at hl 3 rfl) ?_
  refine lv_icmp_ge (tgt := 27) hx hb dX12_isOnce_6 (by decide) (fun c9 => absurd c9 (by decide +kernel)) (fun _ => ?_)
  refine lv_iload_n hx hb dX12_isOnce_9 rfl (lv_at hl 1 rfl) ?_
  refine lv_iconst (v := 1) hx hb dX12_isOnce_10 (by decide +kernel) ?_
  refine lv_iload_n hx hb dX12_isOnce_11 rfl (lv_at hl 2 rfl) ?_
  refine lv_iconst (v := 2) hx hb dX12_isOnce_12 (by decide +kernel) ?_
  refine lv_iload_n hx hb dX12_isOnce_13 rfl (lv_at hl 0 rfl) ?_
  refine jw_imul (v := 0) hx hb dX12_isOnce_14 (by decide +kernel) ?_
  refine jw_ishr (v := 7) hx hb dX12_isOnce_15 (by decide +kernel) ?_
  refine lv_iconst (v := 3) hx hb dX12_isOnce_16 (by decide +kernel) ?_
  refine jw_iand (v := 3) hx hb dX12_isOnce_17 (by decide +kernel) ?_
  refine jw_ishl (v := 8) hx hb dX12_isOnce_18 (by decide +kernel) ?_
  refine jw_ior (v := 8) hx hb dX12_isOnce_19 (by decide +kernel) ?_
  refine lv_istore_n (lv' := [(2, .int 8), (3, .int 0), (0, .int 7), (1, .int 2)]) hx hb dX12_isOnce_20 rfl hl (by decide) rfl (fun ls hl => ?_)
  refine lv_iinc (v := 1) (lv' := [(3, .int 1), (2, .int 8), (0, .int 7), (1, .int 2)]) hx hb dX12_isOnce_21 hl (k := 1) rfl (by decide +kernel) (by decide) rfl (fun ls hl => ?_)
  refine lv_goto (tgt := 4) hx hb dX12_isOnce_24 (by decide) ?_
  refine lv_iload_n hx hb dX12_isOnce_4 rfl (lv_at hl 0 rfl) ?_
  refine lv_iload_n hx hb dX12_isOnce_5 rfl (lv_at hl 3 rfl) ?_
  refine lv_icmp_ge (tgt := 27) hx hb dX12_isOnce_6 (by decide) (fun c9 => absurd c9 (by decide +kernel)) (fun _ => ?_)
  refine lv_iload_n hx hb dX12_isOnce_9 rfl (lv_at hl 1 rfl) ?_
  refine lv_iconst (v := 1) hx hb dX12_isOnce_10 (by decide +kernel) ?_
  refine lv_iload_n hx hb dX12_isOnce_11 rfl (lv_at hl 2 rfl) ?_
  refine lv_iconst (v := 2) hx hb dX12_isOnce_12 (by decide +kernel) ?_
  refine lv_iload_n hx hb dX12_isOnce_13 rfl (lv_at hl 0 rfl) ?_
  refine jw_imul (v := 2) hx hb dX12_isOnce_14 (by decide +kernel) ?_
  refine jw_ishr (v := 1) hx hb dX12_isOnce_15 (by decide +kernel) ?_
  refine lv_iconst (v := 3) hx hb dX12_isOnce_16 (by decide +kernel) ?_
  refine jw_iand (v := 1) hx hb dX12_isOnce_17 (by decide +kernel) ?_
  refine jw_ishl (v := 2) hx hb dX12_isOnce_18 (by decide +kernel) ?_
  refine jw_ior (v := 10) hx hb dX12_isOnce_19 (by decide +kernel) ?_
  refine lv_istore_n (lv' := [(2, .int 10), (3, .int 1), (0, .int 7), (1, .int 2)]) hx hb dX12_isOnce_20 rfl hl (by decide) rfl (fun ls hl => ?_)
  refine lv_iinc (v := 2) (lv' := [(3, .int 2), (2, .int 10), (0, .int 7), (1, .int 2)]) hx hb dX12_isOnce_21 hl (k := 1) rfl (by decide +kernel) (by decide) rfl (fun ls hl => ?_)
  refine lv_goto (tgt := 4) hx hb dX12_isOnce_24 (by decide) ?_
  refine lv_iload_n hx hb dX12_isOnce_4 rfl (lv_at hl 0 rfl) ?_
  refine lv_iload_n hx hb dX12_isOnce_5 rfl (lv_at hl 3 rfl) ?_
  refine lv_icmp_ge (tgt := 27) hx hb dX12_isOnce_6 (by decide) (fun _ => ?_) (fun c9 => absurd (by decide +kernel) c9)
  refine lv_iload_n hx hb dX12_isOnce_27 rfl (lv_at hl 1 rfl) ?_
  refine lv_iconst (v := 1) hx hb dX12_isOnce_28 (by decide +kernel) ?_
  refine lv_iload_n hx hb dX12_isOnce_29 rfl (lv_at hl 3 rfl) ?_
  refine jw_ishl (v := 4) hx hb dX12_isOnce_30 (by decide +kernel) ?_
  refine lv_iconst (v := 1) hx hb dX12_isOnce_31 (by decide +kernel) ?_
  refine jw_isub (v := 3) hx hb dX12_isOnce_32 (by decide +kernel) ?_
  refine lv_icmp_ne (tgt := 40) hx hb dX12_isOnce_33 (by decide) (fun _ => ?_) (fun c9 => absurd c9 (by decide +kernel))
  refine lv_iconst (v := 0) hx hb dX12_isOnce_40 (by decide +kernel) ?_
  refine W.widen (k := 0) (n := 0) (Nat.le_of_ble_eq_true rfl) (Nat.le_of_ble_eq_true rfl) ?_
  exact jw_zret hx hb hr hlocks rfl rfl rfl hP hD hS dX12_isOnce_41
set_option maxHeartbeats 4000000 in
set_option maxRecDepth 100000 in
theorem k393_X12_isOnce {l : Launch} {D : va_G} {Y : Nat → ClassId} {tt : Nat → Nat} (sz : Nat) : Met l yX12_isOnce wsX12_isOnce ({ frames := 0, cells := 0, slots := 0, locals := 0 }) (jw_Pc D Y tt [.int 11, .int 2] [] sz) (jw_Qi D (fun r => r = 0) (fun w => w = []) (va_A [] sz)) 0 0 (va_A [] sz) := by
  refine jw_met (fun A => jw_Qi D (fun r => r = 0) (fun w => w = []) A) (cc := cX12_isOnce) (maxL := 4) (ret := (some .boolean)) pn_X12_isOnce rfl rfl ?_
  intro p e s m below meth c A H locs ls hx hb hml hr hts hown hlocks hin hP hD hA hS hE hl
  have hown : s.vm.findClass RX12 = some m.cls := hown
  have hl : lv_has ls 4 [(0, .int 11), (1, .int 2)] := hl
  refine lv_iconst (v := 0) hx hb dX12_isOnce_0 (by decide +kernel) ?_
  refine lv_istore_n (lv' := [(2, .int 0), (0, .int 11), (1, .int 2)]) hx hb dX12_isOnce_1 rfl hl (by decide) rfl (fun ls hl => ?_)
  refine lv_iconst (v := 0) hx hb dX12_isOnce_2 (by decide +kernel) ?_
  refine lv_istore_n (lv' := [(3, .int 0), (2, .int 0), (0, .int 11), (1, .int 2)]) hx hb dX12_isOnce_3 rfl hl (by decide) rfl (fun ls hl => ?_)
  refine lv_iload_n hx hb dX12_isOnce_4 rfl (lv_at hl 0 rfl) ?_
  refine lv_iload_n hx hb dX12_isOnce_5 rfl (lv_at hl 3 rfl) ?_
  refine lv_icmp_ge (tgt := 27) hx hb dX12_isOnce_6 (by decide) (fun c9 => absurd c9 (by decide +kernel)) (fun _ => ?_)
  refine lv_iload_n hx hb dX12_isOnce_9 rfl (lv_at hl 1 rfl) ?_
  refine lv_iconst (v := 1) hx hb dX12_isOnce_10 (by decide +kernel) ?_
  refine lv_iload_n hx hb dX12_isOnce_11 rfl (lv_at hl 2 rfl) ?_
  refine lv_iconst (v := 2) hx hb dX12_isOnce_12 (by decide +kernel) ?_
  refine lv_iload_n hx hb dX12_isOnce_13 rfl (lv_at hl 0 rfl) ?_
  refine jw_imul (v := 0) hx hb dX12_isOnce_14 (by decide +kernel) ?_
  refine jw_ishr (v := 11) hx hb dX12_isOnce_15 (by decide +kernel) ?_
  refine lv_iconst (v := 3) hx hb dX12_isOnce_16 (by decide +kernel) ?_
  refine jw_iand (v := 3) hx hb dX12_isOnce_17 (by decide +kernel) ?_
  refine jw_ishl (v := 8) hx hb dX12_isOnce_18 (by decide +kernel) ?_
  refine jw_ior (v := 8) hx hb dX12_isOnce_19 (by decide +kernel) ?_
  refine lv_istore_n (lv' := [(2, .int 8), (3, .int 0), (0, .int 11), (1, .int 2)]) hx hb dX12_isOnce_20 rfl hl (by decide) rfl (fun ls hl => ?_)
  refine lv_iinc (v := 1) (lv' := [(3, .int 1), (2, .int 8), (0, .int 11), (1, .int 2)]) hx hb dX12_isOnce_21 hl (k := 1) rfl (by decide +kernel) (by decide) rfl (fun ls hl => ?_)
  refine lv_goto (tgt := 4) hx hb dX12_isOnce_24 (by decide) ?_
  refine lv_iload_n hx hb dX12_isOnce_4 rfl (lv_at hl 0 rfl) ?_
  refine lv_iload_n hx hb dX12_isOnce_5 rfl (lv_at hl 3 rfl) ?_
  refine lv_icmp_ge (tgt := 27) hx hb dX12_isOnce_6 (by decide) (fun c9 => absurd c9 (by decide +kernel)) (fun _ => ?_)
  refine lv_iload_n hx hb dX12_isOnce_9 rfl (lv_at hl 1 rfl) ?_
  refine lv_iconst (v := 1) hx hb dX12_isOnce_10 (by decide +kernel) ?_
  refine lv_iload_n hx hb dX12_isOnce_11 rfl (lv_at hl 2 rfl) ?_
  refine lv_iconst (v := 2) hx hb dX12_isOnce_12 (by decide +kernel) ?_
  refine lv_iload_n hx hb dX12_isOnce_13 rfl (lv_at hl 0 rfl) ?_
  refine jw_imul (v := 2) hx hb dX12_isOnce_14 (by decide +kernel) ?_
  refine jw_ishr (v := 2) hx hb dX12_isOnce_15 (by decide +kernel) ?_
  refine lv_iconst (v := 3) hx hb dX12_isOnce_16 (by decide +kernel) ?_
  refine jw_iand (v := 2) hx hb dX12_isOnce_17 (by decide +kernel) ?_
  refine jw_ishl (v := 4) hx hb dX12_isOnce_18 (by decide +kernel) ?_
  refine jw_ior (v := 12) hx hb dX12_isOnce_19 (by decide +kernel) ?_
  refine lv_istore_n (lv' := [(2, .int 12), (3, .int 1), (0, .int 11), (1, .int 2)]) hx hb dX12_isOnce_20 rfl hl (by decide) rfl (fun ls hl => ?_)
  refine lv_iinc (v := 2) (lv' := [(3, .int 2), (2, .int 12), (0, .int 11), (1, .int 2)]) hx hb dX12_isOnce_21 hl (k := 1) rfl (by decide +kernel) (by decide) rfl (fun ls hl => ?_)
  refine lv_goto (tgt := 4) hx hb dX12_isOnce_24 (by decide) ?_
  refine lv_iload_n hx hb dX12_isOnce_4 rfl (lv_at hl 0 rfl) ?_
  refine lv_iload_n hx hb dX12_isOnce_5 rfl (lv_at hl 3 rfl) ?_
  refine lv_icmp_ge (tgt := 27) hx hb dX12_isOnce_6 (by decide) (fun _ => ?_) (fun c9 => absurd (by decide +kernel) c9)
  refine lv_iload_n hx hb dX12_isOnce_27 rfl (lv_at hl 1 rfl) ?_
  refine lv_iconst (v := 1) hx hb dX12_isOnce_28 (by decide +kernel) ?_
  refine lv_iload_n hx hb dX12_isOnce_29 rfl (lv_at hl 3 rfl) ?_
  refine jw_ishl (v := 4) hx hb dX12_isOnce_30 (by decide +kernel) ?_
  refine lv_iconst (v := 1) hx hb dX12_isOnce_31 (by decide +kernel) ?_
  refine jw_isub (v := 3) hx hb dX12_isOnce_32 (by decide +kernel) ?_
  refine lv_icmp_ne (tgt := 40) hx hb dX12_isOnce_33 (by decide) (fun _ => ?_) (fun c9 => absurd c9 (by decide +kernel))
  refine lv_iconst (v := 0) hx hb dX12_isOnce_40 (by decide +kernel) ?_
  refine W.widen (k := 0) (n := 0) (Nat.le_of_ble_eq_true rfl) (Nat.le_of_ble_eq_true rfl) ?_
  exact jw_zret hx hb hr hlocks rfl rfl rfl hP hD hS dX12_isOnce_41
set_option maxHeartbeats 4000000 in
set_option maxRecDepth 100000 in
theorem k394_X12_isOnce {l : Launch} {D : va_G} {Y : Nat → ClassId} {tt : Nat → Nat} (sz : Nat) : Met l yX12_isOnce wsX12_isOnce ({ frames := 0, cells := 0, slots := 0, locals := 0 }) (jw_Pc D Y tt [.int 15, .int 2] [] sz) (jw_Qi D (fun r => r = 0) (fun w => w = []) (va_A [] sz)) 0 0 (va_A [] sz) := by
  refine jw_met (fun A => jw_Qi D (fun r => r = 0) (fun w => w = []) A) (cc := cX12_isOnce) (maxL := 4) (ret := (some .boolean)) pn_X12_isOnce rfl rfl ?_
  intro p e s m below meth c A H locs ls hx hb hml hr hts hown hlocks hin hP hD hA hS hE hl
  have hown : s.vm.findClass RX12 = some m.cls := hown
  have hl : lv_has ls 4 [(0, .int 15), (1, .int 2)] := hl
  refine lv_iconst (v := 0) hx hb dX12_isOnce_0 (by decide +kernel) ?_
  refine lv_istore_n (lv' := [(2, .int 0), (0, .int 15), (1, .int 2)]) hx hb dX12_isOnce_1 rfl hl (by decide) rfl (fun ls hl => ?_)
  refine lv_iconst (v := 0) hx hb dX12_isOnce_2 (by decide +kernel) ?_
  refine lv_istore_n (lv' := [(3, .int 0), (2, .int 0), (0, .int 15), (1, .int 2)]) hx hb dX12_isOnce_3 rfl hl (by decide) rfl (fun ls hl => ?_)
  refine lv_iload_n hx hb dX12_isOnce_4 rfl (lv_at hl 0 rfl) ?_
  refine lv_iload_n hx hb dX12_isOnce_5 rfl (lv_at hl 3 rfl) ?_
  refine lv_icmp_ge (tgt := 27) hx hb dX12_isOnce_6 (by decide) (fun c9 => absurd c9 (by decide +kernel)) (fun _ => ?_)
  refine lv_iload_n hx hb dX12_isOnce_9 rfl (lv_at hl 1 rfl) ?_
  refine lv_iconst (v := 1) hx hb dX12_isOnce_10 (by decide +kernel) ?_
  refine lv_iload_n hx hb dX12_isOnce_11 rfl (lv_at hl 2 rfl) ?_
  refine lv_iconst (v := 2) hx hb dX12_isOnce_12 (by decide +kernel) ?_
  refine lv_iload_n hx hb dX12_isOnce_13 rfl (lv_at hl 0 rfl) ?_
  refine jw_imul (v := 0) hx hb dX12_isOnce_14 (by decide +kernel) ?_
  refine jw_ishr (v := 15) hx hb dX12_isOnce_15 (by decide +kernel) ?_
  refine lv_iconst (v := 3) hx hb dX12_isOnce_16 (by decide +kernel) ?_
  refine jw_iand (v := 3) hx hb dX12_isOnce_17 (by decide +kernel) ?_
  refine jw_ishl (v := 8) hx hb dX12_isOnce_18 (by decide +kernel) ?_
  refine jw_ior (v := 8) hx hb dX12_isOnce_19 (by decide +kernel) ?_
  refine lv_istore_n (lv' := [(2, .int 8), (3, .int 0), (0, .int 15), (1, .int 2)]) hx hb dX12_isOnce_20 rfl hl (by decide) rfl (fun ls hl => ?_)
  refine lv_iinc (v := 1) (lv' := [(3, .int 1), (2, .int 8), (0, .int 15), (1, .int 2)]) hx hb dX12_isOnce_21 hl (k := 1) rfl (by decide +kernel) (by decide) rfl (fun ls hl => ?_)
  refine lv_goto (tgt := 4) hx hb dX12_isOnce_24 (by decide) ?_
  refine lv_iload_n hx hb dX12_isOnce_4 rfl (lv_at hl 0 rfl) ?_
  refine lv_iload_n hx hb dX12_isOnce_5 rfl (lv_at hl 3 rfl) ?_
  refine lv_icmp_ge (tgt := 27) hx hb dX12_isOnce_6 (by decide) (fun c9 => absurd c9 (by decide +kernel)) (fun _ => ?_)
  refine lv_iload_n hx hb dX12_isOnce_9 rfl (lv_at hl 1 rfl) ?_
  refine lv_iconst (v := 1) hx hb dX12_isOnce_10 (by decide +kernel) ?_
  refine lv_iload_n hx hb dX12_isOnce_11 rfl (lv_at hl 2 rfl) ?_
  refine lv_iconst (v := 2) hx hb dX12_isOnce_12 (by decide +kernel) ?_
  refine lv_iload_n hx hb dX12_isOnce_13 rfl (lv_at hl 0 rfl) ?_
  refine jw_imul (v := 2) hx hb dX12_isOnce_14 (by decide +kernel) ?_
  refine jw_ishr (v := 3) hx hb dX12_isOnce_15 (by decide +kernel) ?_
  refine lv_iconst (v := 3) hx hb dX12_isOnce_16 (by decide +kernel) ?_
  refine jw_iand (v := 3) hx hb dX12_isOnce_17 (by decide +kernel) ?_
  refine jw_ishl (v := 8) hx hb dX12_isOnce_18 (by decide +kernel) ?_
  refine jw_ior (v := 8) hx hb dX12_isOnce_19 (by decide +kernel) ?_
  refine lv_istore_n (lv' := [(2, .int 8), (3, .int 1), (0, .int 15), (1, .int 2)]) hx hb dX12_isOnce_20 rfl hl (by decide) rfl (fun ls hl => ?_)
  refine lv_iinc (v := 2) (lv' := [(3, .int 2), (2, .int 8), (0, .int 15), (1, .int 2)]) hx hb dX12_isOnce_21 hl (k := 1) rfl (by decide +kernel) (by decide) rfl (fun ls hl => ?_)
  refine lv_goto (tgt := 4) hx hb dX12_isOnce_24 (by decide) ?_
  refine lv_iload_n hx hb dX12_isOnce_4 rfl (lv_at hl 0 rfl) ?_
  refine lv_iload_n hx hb dX12_isOnce_5 rfl (lv_at hl 3 rfl) ?_
  refine lv_icmp_ge (tgt := 27) hx hb dX12_isOnce_6 (by decide) (fun _ => ?_) (fun c9 => absurd (by decide +kernel) c9)
  refine lv_iload_n hx hb dX12_isOnce_27 rfl (lv_at hl 1 rfl) ?_
  refine lv_iconst (v := 1) hx hb dX12_isOnce_28 (by decide +kernel) ?_
  refine lv_iload_n hx hb dX12_isOnce_29 rfl (lv_at hl 3 rfl) ?_
  refine jw_ishl (v := 4) hx hb dX12_isOnce_30 (by decide +kernel) ?_
  refine lv_iconst (v := 1) hx hb dX12_isOnce_31 (by decide +kernel) ?_
  refine jw_isub (v := 3) hx hb dX12_isOnce_32 (by decide +kernel) ?_
  refine lv_icmp_ne (tgt := 40) hx hb dX12_isOnce_33 (by decide) (fun _ => ?_) (fun c9 => absurd c9 (by decide +kernel))
  refine lv_iconst (v := 0) hx hb dX12_isOnce_40 (by decide +kernel) ?_
  refine W.widen (k := 0) (n := 0) (Nat.le_of_ble_eq_true rfl) (Nat.le_of_ble_eq_true rfl) ?_
  exact jw_zret hx hb hr hlocks rfl rfl rfl hP hD hS dX12_isOnce_41
