set_option maxHeartbeats 4000000 in
set_option maxRecDepth 100000 in
theorem k572_X11_numberAfter {l : Launch} {D : va_G} {Y : Nat → ClassId} {tt : Nat → Nat} (p0 : Int32) (g_p0 : 0 ≤ p0.toInt) (sz : Nat) : Met l yX11_numberAfter wsX11_numberAfter ({ frames := 0, cells := 0, slots := 0, locals := 0 }) (jw_Pc D Y tt [.int p0] [] sz) (jw_Qi D (fun r => r = (((p0 * 1103515245) + 12345) &&& 2147483647)) (fun w => w = []) (va_A [] sz)) 0 0 (va_A [] sz) := by
  refine jw_met (fun A => jw_Qi D (fun r => r = (((p0 * 1103515245) + 12345) &&& 2147483647)) (fun w => w = []) A) (cc := cX11_numberAfter) (maxL := 1) (ret := (some .int)) pn_X11_numberAfter rfl rfl ?_
  intro p e s m below meth c A H locs ls hx hb hml hr hts hown hlocks hin hP hD hA hS hE hl
  have hown : s.vm.findClass RX11 = some m.cls := hown
  have hl : lv_has ls 1 [(0, .int p0)] := hl
  refine lv_iload_n hx hb dX11_numberAfter_0 rfl (lv_at hl 0 rfl) ?_
  refine lv_ldcw (v := 1103515245) hx hb hown (hts _ mw_X11_numberAfter__1) dX11_numberAfter_1 ?_
  refine jw_imul (v := (p0 * 1103515245)) hx hb dX11_numberAfter_4 rfl ?_
  refine lv_sipush (v := 12345) hx hb dX11_numberAfter_5 (by decide +kernel) ?_
  refine jw_iadd (v := ((p0 * 1103515245) + 12345)) hx hb dX11_numberAfter_8 rfl ?_
  refine lv_ldcw (v := 2147483647) hx hb hown (hts _ mw_X11_numberAfter__2) dX11_numberAfter_9 ?_
  refine jw_iand (v := (((p0 * 1103515245) + 12345) &&& 2147483647)) hx hb dX11_numberAfter_12 rfl ?_
  refine W.widen (k := 0) (n := 0) (Nat.le_of_ble_eq_true rfl) (Nat.le_of_ble_eq_true rfl) ?_
  exact jw_iret hx hb hr hlocks rfl rfl hP hD hS dX11_numberAfter_13
set_option maxHeartbeats 4000000 in
set_option maxRecDepth 100000 in
theorem k573_X11_evenly {l : Launch} {D : va_G} {Y : Nat → ClassId} {tt : Nat → Nat} (h0 h1 h2 h3 h4 h5 h6 h7 h8 h9 h10 h11 h12 h13 h14 h15 h16 h17 h18 h19 h20 h21 : Nat) (p1 : Int32) (g_p1 : 0 ≤ p1.toInt) (sz : Nat) : Met l yX11_evenly wsX11_evenly ({ frames := 1, cells := 0, slots := 0, locals := 20 }) (jw_Pc D Y tt [.ref h0, .int p1, .int 0] [(h0, .inr (14, [.ref h2, .int 0, .ref h3, .ref h4, .ref h5, .ref h1, .ref h6, .ref h7, .ref h8, .ref h9, .ref h10, .ref h11, .ref h12, .ref h13, .ref h14, .ref h15, .int (-3), .int (-3)])), (h1, .inr (5, [.ref h3, .ref h5, .int 1, .int 1, .ref h16, .ref h17, .ref h18, .ref h19, .ref h20, .ref h21]))] sz) (jw_Qi D (fun r => r = 0) (fun w => w = []) (va_A [(h0, .inr (14, [.ref h2, .int 0, .ref h3, .ref h4, .ref h5, .ref h1, .ref h6, .ref h7, .ref h8, .ref h9, .ref h10, .ref h11, .ref h12, .ref h13, .ref h14, .ref h15, .int (-3), .int (-3)])), (h1, .inr (5, [.ref h3, .ref h5, .int 1, .int 1, .ref h16, .ref h17, .ref h18, .ref h19, .ref h20, .ref h21]))] sz)) 0 0 (va_A [(h0, .inr (14, [.ref h2, .int 0, .ref h3, .ref h4, .ref h5, .ref h1, .ref h6, .ref h7, .ref h8, .ref h9, .ref h10, .ref h11, .ref h12, .ref h13, .ref h14, .ref h15, .int (-3), .int (-3)])), (h1, .inr (5, [.ref h3, .ref h5, .int 1, .int 1, .ref h16, .ref h17, .ref h18, .ref h19, .ref h20, .ref h21]))] sz) := by
  refine jw_met (fun A => jw_Qi D (fun r => r = 0) (fun w => w = []) A) (cc := cX11_evenly) (maxL := 11) (ret := (some .int)) pn_X11_evenly rfl rfl ?_
  intro p e s m below meth c A H locs ls hx hb hml hr hts hown hlocks hin hP hD hA hS hE hl
  have hown : s.vm.findClass RX11 = some m.cls := hown
  have hl : lv_has ls 11 [(0, .ref h0), (1, .int p1), (2, .int 0)] := hl
  refine lv_aload_n hx hb dX11_evenly_0 rfl (lv_at hl 0 rfl) ?_
  refine va_get (D := D) (ci := 14) (v := .ref h1) (C := RX11) (T := TX11) (N := 18) hx hb hts iw_X11_evenly__X11 hown hE.1 hP 0 rfl rfl 5 (by decide) (hts _ mw_X11_evenly__1) (fun _ h9 => h9) rfl dX11_evenly_1 ?_
  refine va_getN (D := D) (ci := 5) (v := .int 1) (C := RX2) (T := TX2) (N := 10) hx hb hts iw_X11_evenly__X2 hown hE.1 hP 1 rfl rfl 3 (by decide) (nf_X11_169 hE) (fun _ h9 => h9) rfl dX11_evenly_4 ?_
  refine lv_istore_n (lv' := [(3, .int 1), (0, .ref h0), (1, .int p1), (2, .int 0)]) hx hb dX11_evenly_7 rfl hl (by decide) rfl (fun ls hl => ?_)
  refine lv_iload_n hx hb dX11_evenly_8 rfl (lv_at hl 2 rfl) ?_
  refine lv_if_lt (tgt := 25) hx hb dX11_evenly_9 (by decide) (fun c_1 => False.elim (by have := g_p1; have : (0 : Int32).toInt = 0 := (by decide +kernel); have := (jw_flt c_1); omega)) (fun c_1 => ?_)
  refine lv_iload_n hx hb dX11_evenly_12 rfl (lv_at hl 3 rfl) ?_
  refine lv_if_lt (tgt := 25) hx hb dX11_evenly_13 (by decide) (fun c9 => absurd c9 (by decide +kernel)) (fun _ => ?_)
  refine lv_iload_n hx hb dX11_evenly_16 rfl (lv_at hl 3 rfl) ?_
  refine lv_iconst (v := 2) hx hb dX11_evenly_17 (by decide +kernel) ?_
  refine lv_icmp_gt (tgt := 25) hx hb dX11_evenly_18 (by decide) (fun c9 => absurd c9 (by decide +kernel)) (fun _ => ?_)
  refine lv_iload_n hx hb dX11_evenly_21 rfl (lv_at hl 0 rfl) ?_
  refine lv_if_gt (tgt := 27) hx hb dX11_evenly_22 (by decide) (fun _ => ?_) (fun c9 => absurd (by decide +kernel) c9)
  refine lv_ldc2 (v := 2147483648) hx hb hown (hts _ mw_X11_evenly__2) dX11_evenly_27 ?_
  refine lv_lstore (lv' := [(4, .long 2147483648), (3, .int 1), (0, .ref h0), (1, .int p1), (2, .int 0)]) hx hb dX11_evenly_30 hl (by decide) rfl (fun ls hl => ?_)
  refine lv_lload hx hb dX11_evenly_32 (lv_at hl 0 rfl) ?_
  refine lv_lload hx hb dX11_evenly_34 (lv_at hl 0 rfl) ?_
  refine lv_iload_n hx hb dX11_evenly_36 rfl (lv_at hl 1 rfl) ?_
  refine lv_i2l (v := 1) hx hb dX11_evenly_37 (by decide +kernel) ?_
  refine jw_lrem (v := 0) hx hb dX11_evenly_38 (by decide +kernel) (by decide +kernel) ?_
  refine jw_lsub (v := 2147483648) hx hb dX11_evenly_39 (by decide +kernel) ?_
  refine lv_lstore (lv' := [(6, .long 2147483648), (4, .long 2147483648), (3, .int 1), (0, .ref h0), (1, .int p1), (2, .int 0)]) hx hb dX11_evenly_40 hl (by decide) rfl (fun ls hl => ?_)
  refine lv_iload_n hx hb dX11_evenly_42 rfl (lv_at hl 4 rfl) ?_
  refine jw_mi (wc := []) (cs := 0) (ss := 0) (va_runS (As := [.int p1]) (rest := []) ⟨hx, hb, hml, hown, hts⟩ (k572_X11_numberAfter p1 (by have := g_p1; have := (jw_fnl c_1); have : (0 : Int32).toInt = 0 := (by decide +kernel); omega) H.size) (va_cwS 1 hts gX11_evenly_X11_numberAfter rfl rfl rfl ydS_X11_numberAfter ⟨Nat.le_of_ble_eq_true rfl, Nat.le_of_ble_eq_true rfl⟩) (jw_mpreS hP hD hS hA hE [] rfl) rfl rfl hl.1 rfl (lv_room (Nat.le_of_ble_eq_true rfl)) dX11_evenly_43 ⟨Nat.le_of_ble_eq_true rfl, Nat.le_of_ble_eq_true rfl⟩) hP hD hS hA [] rfl rfl rfl (fun r9 w1 H locs hr9 hw9 hP hD hS => ?_)
  rw [hr9]
  subst hw9
  have hP : va_P D vwCl [(h0, .inr (14, [.ref h2, .int 0, .ref h3, .ref h4, .ref h5, .ref h1, .ref h6, .ref h7, .ref h8, .ref h9, .ref h10, .ref h11, .ref h12, .ref h13, .ref h14, .ref h15, .int (-3), .int (-3)])), (h1, .inr (5, [.ref h3, .ref h5, .int 1, .int 1, .ref h16, .ref h17, .ref h18, .ref h19, .ref h20, .ref h21]))] H := hP
  have hD : va_D A [(h0, .inr (14, [.ref h2, .int 0, .ref h3, .ref h4, .ref h5, .ref h1, .ref h6, .ref h7, .ref h8, .ref h9, .ref h10, .ref h11, .ref h12, .ref h13, .ref h14, .ref h15, .int (-3), .int (-3)])), (h1, .inr (5, [.ref h3, .ref h5, .int 1, .int 1, .ref h16, .ref h17, .ref h18, .ref h19, .ref h20, .ref h21]))] := hD
  refine lv_istore (lv' := [(8, .int (((p1 * 1103515245) + 12345) &&& 2147483647)), (6, .long 2147483648), (4, .long 2147483648), (3, .int 1), (0, .ref h0), (1, .int p1), (2, .int 0)]) hx hb dX11_evenly_46 hl (by decide) rfl (fun ls hl => ?_)
  refine lv_iconst (v := 1) hx hb dX11_evenly_48 (by decide +kernel) ?_
  refine lv_istore (lv' := [(9, .int 1), (8, .int (((p1 * 1103515245) + 12345) &&& 2147483647)), (6, .long 2147483648), (4, .long 2147483648), (3, .int 1), (0, .ref h0), (1, .int p1), (2, .int 0)]) hx hb dX11_evenly_49 hl (by decide) rfl (fun ls hl => ?_)
  refine lv_iconst (v := 0) hx hb dX11_evenly_51 (by decide +kernel) ?_
  refine lv_istore (lv' := [(10, .int 0), (9, .int 1), (8, .int (((p1 * 1103515245) + 12345) &&& 2147483647)), (6, .long 2147483648), (4, .long 2147483648), (3, .int 1), (0, .ref h0), (1, .int p1), (2, .int 0)]) hx hb dX11_evenly_52 hl (by decide) rfl (fun ls hl => ?_)
  refine lv_iload hx hb dX11_evenly_54 (lv_at hl 0 rfl) ?_
  refine lv_ldcw (v := 1000000) hx hb hown (hts _ mw_X11_evenly__3) dX11_evenly_56 ?_
  refine lv_icmp_ge (tgt := 87) hx hb dX11_evenly_59 (by decide) (fun c9 => absurd c9 (by decide +kernel)) (fun _ => ?_)
  refine lv_iload hx hb dX11_evenly_62 (lv_at hl 2 rfl) ?_
  refine lv_i2l (v := (((p1 * 1103515245) + 12345) &&& 2147483647).toInt64) hx hb dX11_evenly_64 rfl ?_
  refine lv_lload hx hb dX11_evenly_65 (lv_at hl 3 rfl) ?_
  refine jw_lcmp (v := (-1)) hx hb dX11_evenly_67 (jw_cmpI _) ?_
  refine lv_if_lt (tgt := 87) hx hb dX11_evenly_68 (by decide) (fun _ => ?_) (fun c9 => absurd (by decide +kernel) c9)
  refine lv_iload_n hx hb dX11_evenly_87 rfl (lv_at hl 8 rfl) ?_
  refine lv_if_ne (tgt := 96) hx hb dX11_evenly_88 (by decide) (fun c9 => absurd (by decide +kernel) c9) (fun _ => ?_)
  refine lv_iload hx hb dX11_evenly_91 (lv_at hl 2 rfl) ?_
  refine lv_iload_n hx hb dX11_evenly_93 rfl (lv_at hl 5 rfl) ?_
  refine jw_irem (v := 0) hx hb dX11_evenly_94 (by decide +kernel) (jw_irem1 _) ?_
  refine W.widen (k := 0) (n := 0) (Nat.le_of_ble_eq_true rfl) (Nat.le_of_ble_eq_true rfl) ?_
  have hP : va_P D vwCl [] H := hP.sub [] rfl
  have hD : va_D A [] := hD.sub [] rfl rfl
  exact jw_iret hx hb hr hlocks rfl rfl hP hD hS dX11_evenly_95
set_option maxHeartbeats 4000000 in
set_option maxRecDepth 100000 in
theorem k574_X12_comesNext {l : Launch} {D : va_G} {Y : Nat → ClassId} {tt : Nat → Nat} (p0 : Int64) (sz : Nat) : Met l yX12_comesNext wsX12_comesNext ({ frames := 0, cells := 0, slots := 0, locals := 0 }) (jw_Pc D Y tt [.long p0] [] sz) (jw_Ql D (fun r => r = (((p0 * 1103515245) + 12345) &&& 2147483647)) (fun w => w = []) (va_A [] sz)) 0 0 (va_A [] sz) := by
  refine jw_met (fun A => jw_Ql D (fun r => r = (((p0 * 1103515245) + 12345) &&& 2147483647)) (fun w => w = []) A) (cc := cX12_comesNext) (maxL := 2) (ret := (some .long)) pn_X12_comesNext rfl rfl ?_
  intro p e s m below meth c A H locs ls hx hb hml hr hts hown hlocks hin hP hD hA hS hE hl
  have hown : s.vm.findClass RX12 = some m.cls := hown
  have hl : lv_has ls 2 [(0, .long p0)] := hl
  refine lv_lload_n hx hb dX12_comesNext_0 rfl (lv_at hl 0 rfl) ?_
  refine lv_ldc2 (v := 1103515245) hx hb hown (hts _ mw_X12_comesNext__1) dX12_comesNext_1 ?_
  refine jw_lmul (v := (p0 * 1103515245)) hx hb dX12_comesNext_4 rfl ?_
  refine lv_ldc2 (v := 12345) hx hb hown (hts _ mw_X12_comesNext__2) dX12_comesNext_5 ?_
  refine jw_ladd (v := ((p0 * 1103515245) + 12345)) hx hb dX12_comesNext_8 rfl ?_
  refine lv_ldc2 (v := 2147483647) hx hb hown (hts _ mw_X12_comesNext__3) dX12_comesNext_9 ?_
  refine jw_land (v := (((p0 * 1103515245) + 12345) &&& 2147483647)) hx hb dX12_comesNext_12 rfl ?_
  refine W.widen (k := 0) (n := 0) (Nat.le_of_ble_eq_true rfl) (Nat.le_of_ble_eq_true rfl) ?_
  exact jw_lret hx hb hr hlocks rfl rfl hP hD hS dX12_comesNext_13
set_option maxHeartbeats 4000000 in
set_option maxRecDepth 100000 in
theorem k575_X12_evenly {l : Launch} {D : va_G} {Y : Nat → ClassId} {tt : Nat → Nat} (h0 h1 h2 h3 h4 h5 h6 h7 h8 h9 h10 h11 h12 h13 h14 h15 h16 h17 h18 h19 h20 h21 h22 h23 h24 h25 h26 h27 h28 h29 h30 h31 h32 h33 h34 h35 : Nat) (p1 : Int32) (g_p1 : 0 ≤ p1.toInt) (sz : Nat) : Met l yX12_evenly wsX12_evenly ({ frames := 1, cells := 0, slots := 0, locals := 22 }) (jw_Pc D Y tt [.ref h0, .int p1, .int 0] [(h0, .inr (15, [.ref h1, .int 0, .int 0, .ref h2, .int 0, .int (-1), .int 0, .int 0, .int 0, .int 0, .int 0, .int 2, .int 0, .int 0, .int 0, .ref h3, .ref h4, .ref h5, .ref h6, .int 2, .int 0, .int 0, .int 0, .int 0, .ref h7, .ref h8, .ref h9, .ref h10, .int 2, .ref h11, .int 1, .ref h12, .ref h13, .int 1, .ref h14, .ref h15, .ref h16, .int 0, .ref h17, .ref h18, .ref h19, .ref h20, .ref h21, .ref h22, .ref h23, .ref h24, .ref h25, .int 0, .ref h26, .ref h27, .ref h28, .int (-1), .ref h29, .long 0, .long 0, .int 0, .int 0, .long 0, .long 0, .ref h30, .ref h31, .ref h32, .ref h33, .ref h34, .ref h35, .long 0]))] sz) (jw_Qi D (fun r => r = 0) (fun w => w = []) (va_A [(h0, .inr (15, [.ref h1, .int 0, .int 0, .ref h2, .int 0, .int (-1), .int 0, .int 0, .int 0, .int 0, .int 0, .int 2, .int 0, .int 0, .int 0, .ref h3, .ref h4, .ref h5, .ref h6, .int 2, .int 0, .int 0, .int 0, .int 0, .ref h7, .ref h8, .ref h9, .ref h10, .int 2, .ref h11, .int 1, .ref h12, .ref h13, .int 1, .ref h14, .ref h15, .ref h16, .int 0, .ref h17, .ref h18, .ref h19, .ref h20, .ref h21, .ref h22, .ref h23, .ref h24, .ref h25, .int 0, .ref h26, .ref h27, .ref h28, .int (-1), .ref h29, .long 0, .long 0, .int 0, .int 0, .long 0, .long 0, .ref h30, .ref h31, .ref h32, .ref h33, .ref h34, .ref h35, .long 0]))] sz)) 0 0 (va_A [(h0, .inr (15, [.ref h1, .int 0, .int 0, .ref h2, .int 0, .int (-1), .int 0, .int 0, .int 0, .int 0, .int 0, .int 2, .int 0, .int 0, .int 0, .ref h3, .ref h4, .ref h5, .ref h6, .int 2, .int 0, .int 0, .int 0, .int 0, .ref h7, .ref h8, .ref h9, .ref h10, .int 2, .ref h11, .int 1, .ref h12, .ref h13, .int 1, .ref h14, .ref h15, .ref h16, .int 0, .ref h17, .ref h18, .ref h19, .ref h20, .ref h21, .ref h22, .ref h23, .ref h24, .ref h25, .int 0, .ref h26, .ref h27, .ref h28, .int (-1), .ref h29, .long 0, .long 0, .int 0, .int 0, .long 0, .long 0, .ref h30, .ref h31, .ref h32, .ref h33, .ref h34, .ref h35, .long 0]))] sz) := by
  refine jw_met (fun A => jw_Qi D (fun r => r = 0) (fun w => w = []) A) (cc := cX12_evenly) (maxL := 8) (ret := (some .int)) pn_X12_evenly rfl rfl ?_
  intro p e s m below meth c A H locs ls hx hb hml hr hts hown hlocks hin hP hD hA hS hE hl
  have hown : s.vm.findClass RX12 = some m.cls := hown
  have hl : lv_has ls 8 [(0, .ref h0), (1, .int p1), (2, .int 0)] := hl
  refine lv_aload_n hx hb dX12_evenly_0 rfl (lv_at hl 0 rfl) ?_
  refine lv_iconst (v := 0) hx hb dX12_evenly_1 (by decide +kernel) ?_
  refine va_put (D := D) (ci := 15) (v := .int 0) (C := RX12) (T := TX12) (N := 66) hx hb hts iw_X12_evenly__X12 tyX12 tyX12_ok nmX12 hown hE.1 hP hD hS 0 rfl rfl 2 (by decide) (hts _ mw_X12_evenly__1) (fun _ h9 => h9) rfl (tyX12_ok 2 (by decide)) rfl rfl (Nat.le_of_ble_eq_true rfl) dX12_evenly_2 (fun H locs hP hD hS => ?_)
  have hP : va_P D vwCl [(h0, .inr (15, [.ref h1, .int 0, .int 0, .ref h2, .int 0, .int (-1), .int 0, .int 0, .int 0, .int 0, .int 0, .int 2, .int 0, .int 0, .int 0, .ref h3, .ref h4, .ref h5, .ref h6, .int 2, .int 0, .int 0, .int 0, .int 0, .ref h7, .ref h8, .ref h9, .ref h10, .int 2, .ref h11, .int 1, .ref h12, .ref h13, .int 1, .ref h14, .ref h15, .ref h16, .int 0, .ref h17, .ref h18, .ref h19, .ref h20, .ref h21, .ref h22, .ref h23, .ref h24, .ref h25, .int 0, .ref h26, .ref h27, .ref h28, .int (-1), .ref h29, .long 0, .long 0, .int 0, .int 0, .long 0, .long 0, .ref h30, .ref h31, .ref h32, .ref h33, .ref h34, .ref h35, .long 0]))] H := hP
  have hD : va_D A [(h0, .inr (15, [.ref h1, .int 0, .int 0, .ref h2, .int 0, .int (-1), .int 0, .int 0, .int 0, .int 0, .int 0, .int 2, .int 0, .int 0, .int 0, .ref h3, .ref h4, .ref h5, .ref h6, .int 2, .int 0, .int 0, .int 0, .int 0, .ref h7, .ref h8, .ref h9, .ref h10, .int 2, .ref h11, .int 1, .ref h12, .ref h13, .int 1, .ref h14, .ref h15, .ref h16, .int 0, .ref h17, .ref h18, .ref h19, .ref h20, .ref h21, .ref h22, .ref h23, .ref h24, .ref h25, .int 0, .ref h26, .ref h27, .ref h28, .int (-1), .ref h29, .long 0, .long 0, .int 0, .int 0, .long 0, .long 0, .ref h30, .ref h31, .ref h32, .ref h33, .ref h34, .ref h35, .long 0]))] := hD
  refine lv_iload_n hx hb dX12_evenly_5 rfl (lv_at hl 1 rfl) ?_
  refine lv_if_lt (tgt := 25) hx hb dX12_evenly_6 (by decide) (fun c_1 => False.elim (by have := g_p1; have : (0 : Int32).toInt = 0 := (by decide +kernel); have := (jw_flt c_1); omega)) (fun c_1 => ?_)
  refine lv_iload_n hx hb dX12_evenly_9 rfl (lv_at hl 2 rfl) ?_
  refine lv_iconst (v := 0) hx hb dX12_evenly_10 (by decide +kernel) ?_
  refine lv_iconst (v := 2) hx hb dX12_evenly_11 (by decide +kernel) ?_
  refine jw_mi (wc := []) (cs := 0) (ss := 0) (va_runS (As := [.int 0, .int 0, .int 2]) (rest := []) ⟨hx, hb, hml, hown, hts⟩ (k421_X12_isIn H.size) (va_cwS 3 hts gX12_evenly_X12_isIn rfl rfl rfl ydS_X12_isIn ⟨Nat.le_of_ble_eq_true rfl, Nat.le_of_ble_eq_true rfl⟩) (jw_mpreS hP hD hS hA hE [] rfl) rfl rfl hl.1 rfl (lv_room (Nat.le_of_ble_eq_true rfl)) dX12_evenly_12 ⟨Nat.le_of_ble_eq_true rfl, Nat.le_of_ble_eq_true rfl⟩) hP hD hS hA [] rfl rfl rfl (fun r9 w1 H locs hr9 hw9 hP hD hS => ?_)
  subst hr9
  subst hw9
  have hP : va_P D vwCl [(h0, .inr (15, [.ref h1, .int 0, .int 0, .ref h2, .int 0, .int (-1), .int 0, .int 0, .int 0, .int 0, .int 0, .int 2, .int 0, .int 0, .int 0, .ref h3, .ref h4, .ref h5, .ref h6, .int 2, .int 0, .int 0, .int 0, .int 0, .ref h7, .ref h8, .ref h9, .ref h10, .int 2, .ref h11, .int 1, .ref h12, .ref h13, .int 1, .ref h14, .ref h15, .ref h16, .int 0, .ref h17, .ref h18, .ref h19, .ref h20, .ref h21, .ref h22, .ref h23, .ref h24, .ref h25, .int 0, .ref h26, .ref h27, .ref h28, .int (-1), .ref h29, .long 0, .long 0, .int 0, .int 0, .long 0, .long 0, .ref h30, .ref h31, .ref h32, .ref h33, .ref h34, .ref h35, .long 0]))] H := hP
  have hD : va_D A [(h0, .inr (15, [.ref h1, .int 0, .int 0, .ref h2, .int 0, .int (-1), .int 0, .int 0, .int 0, .int 0, .int 0, .int 2, .int 0, .int 0, .int 0, .ref h3, .ref h4, .ref h5, .ref h6, .int 2, .int 0, .int 0, .int 0, .int 0, .ref h7, .ref h8, .ref h9, .ref h10, .int 2, .ref h11, .int 1, .ref h12, .ref h13, .int 1, .ref h14, .ref h15, .ref h16, .int 0, .ref h17, .ref h18, .ref h19, .ref h20, .ref h21, .ref h22, .ref h23, .ref h24, .ref h25, .int 0, .ref h26, .ref h27, .ref h28, .int (-1), .ref h29, .long 0, .long 0, .int 0, .int 0, .long 0, .long 0, .ref h30, .ref h31, .ref h32, .ref h33, .ref h34, .ref h35, .long 0]))] := hD
  refine lv_if_eq (tgt := 25) hx hb dX12_evenly_15 (by decide) (fun c9 => absurd c9 (by decide +kernel)) (fun _ => ?_)
  refine lv_aload_n hx hb dX12_evenly_18 rfl (lv_at hl 0 rfl) ?_
  refine va_get (D := D) (ci := 15) (v := .int 1) (C := RX12) (T := TX12) (N := 66) hx hb hts iw_X12_evenly__X12 hown hE.1 hP 0 rfl rfl 33 (by decide) (hts _ mw_X12_evenly__2) (fun _ h9 => h9) rfl dX12_evenly_19 ?_
  refine lv_if_ne (tgt := 27) hx hb dX12_evenly_22 (by decide) (fun _ => ?_) (fun c9 => absurd c9 (by decide +kernel))
  refine lv_ldc2 (v := 2147483648) hx hb hown (hts _ mw_X12_evenly__3) dX12_evenly_27 ?_
  refine lv_ldc2 (v := 2147483648) hx hb hown (hts _ mw_X12_evenly__3) dX12_evenly_30 ?_
  refine lv_aload_n hx hb dX12_evenly_33 rfl (lv_at hl 0 rfl) ?_
  refine va_get (D := D) (ci := 15) (v := .int 1) (C := RX12) (T := TX12) (N := 66) hx hb hts iw_X12_evenly__X12 hown hE.1 hP 0 rfl rfl 33 (by decide) (hts _ mw_X12_evenly__2) (fun _ h9 => h9) rfl dX12_evenly_34 ?_
  refine lv_i2l (v := 1) hx hb dX12_evenly_37 (by decide +kernel) ?_
  refine jw_lrem (v := 0) hx hb dX12_evenly_38 (by decide +kernel) (by decide +kernel) ?_
  refine jw_lsub (v := 2147483648) hx hb dX12_evenly_39 (by decide +kernel) ?_
  refine lv_lstore_n (lv' := [(3, .long 2147483648), (0, .ref h0), (1, .int p1), (2, .int 0)]) hx hb dX12_evenly_40 rfl hl (by decide) rfl (fun ls hl => ?_)
  refine lv_iload_n hx hb dX12_evenly_41 rfl (lv_at hl 2 rfl) ?_
  refine lv_i2l (v := p1.toInt64) hx hb dX12_evenly_42 rfl ?_
  refine jw_ml (wc := []) (cs := 0) (ss := 0) (va_runS (As := [.long p1.toInt64]) (rest := []) ⟨hx, hb, hml, hown, hts⟩ (k574_X12_comesNext p1.toInt64 H.size) (va_cwS 1 hts gX12_evenly_X12_comesNext rfl rfl rfl ydS_X12_comesNext ⟨Nat.le_of_ble_eq_true rfl, Nat.le_of_ble_eq_true rfl⟩) (jw_mpreS hP hD hS hA hE [] rfl) rfl rfl hl.1 rfl (lv_room (Nat.le_of_ble_eq_true rfl)) dX12_evenly_43 ⟨Nat.le_of_ble_eq_true rfl, Nat.le_of_ble_eq_true rfl⟩) hP hD hS hA [] rfl rfl rfl (fun r9 w1 H locs hr9 hw9 hP hD hS => ?_)
  rw [hr9]
  subst hw9
  have hP : va_P D vwCl [(h0, .inr (15, [.ref h1, .int 0, .int 0, .ref h2, .int 0, .int (-1), .int 0, .int 0, .int 0, .int 0, .int 0, .int 2, .int 0, .int 0, .int 0, .ref h3, .ref h4, .ref h5, .ref h6, .int 2, .int 0, .int 0, .int 0, .int 0, .ref h7, .ref h8, .ref h9, .ref h10, .int 2, .ref h11, .int 1, .ref h12, .ref h13, .int 1, .ref h14, .ref h15, .ref h16, .int 0, .ref h17, .ref h18, .ref h19, .ref h20, .ref h21, .ref h22, .ref h23, .ref h24, .ref h25, .int 0, .ref h26, .ref h27, .ref h28, .int (-1), .ref h29, .long 0, .long 0, .int 0, .int 0, .long 0, .long 0, .ref h30, .ref h31, .ref h32, .ref h33, .ref h34, .ref h35, .long 0]))] H := hP
  have hD : va_D A [(h0, .inr (15, [.ref h1, .int 0, .int 0, .ref h2, .int 0, .int (-1), .int 0, .int 0, .int 0, .int 0, .int 0, .int 2, .int 0, .int 0, .int 0, .ref h3, .ref h4, .ref h5, .ref h6, .int 2, .int 0, .int 0, .int 0, .int 0, .ref h7, .ref h8, .ref h9, .ref h10, .int 2, .ref h11, .int 1, .ref h12, .ref h13, .int 1, .ref h14, .ref h15, .ref h16, .int 0, .ref h17, .ref h18, .ref h19, .ref h20, .ref h21, .ref h22, .ref h23, .ref h24, .ref h25, .int 0, .ref h26, .ref h27, .ref h28, .int (-1), .ref h29, .long 0, .long 0, .int 0, .int 0, .long 0, .long 0, .ref h30, .ref h31, .ref h32, .ref h33, .ref h34, .ref h35, .long 0]))] := hD
  refine lv_lstore (lv' := [(5, .long ((((p1.toInt64) * 1103515245) + 12345) &&& 2147483647)), (3, .long 2147483648), (0, .ref h0), (1, .int p1), (2, .int 0)]) hx hb dX12_evenly_46 hl (by decide) rfl (fun ls hl => ?_)
  refine lv_iconst (v := 1) hx hb dX12_evenly_48 (by decide +kernel) ?_
  refine lv_istore (lv' := [(7, .int 1), (5, .long ((((p1.toInt64) * 1103515245) + 12345) &&& 2147483647)), (3, .long 2147483648), (0, .ref h0), (1, .int p1), (2, .int 0)]) hx hb dX12_evenly_49 hl (by decide) rfl (fun ls hl => ?_)
  refine lv_lload hx hb dX12_evenly_51 (lv_at hl 1 rfl) ?_
  refine lv_lload_n hx hb dX12_evenly_53 rfl (lv_at hl 2 rfl) ?_
  refine jw_lcmp (v := (-1)) hx hb dX12_evenly_54 (jw_cmpL _) ?_
  refine lv_if_lt (tgt := 71) hx hb dX12_evenly_55 (by decide) (fun _ => ?_) (fun c9 => absurd (by decide +kernel) c9)
  refine lv_iload_n hx hb dX12_evenly_71 rfl (lv_at hl 5 rfl) ?_
  refine lv_if_ne (tgt := 87) hx hb dX12_evenly_72 (by decide) (fun c9 => absurd (by decide +kernel) c9) (fun _ => ?_)
  refine lv_lload hx hb dX12_evenly_75 (lv_at hl 1 rfl) ?_
  refine lv_aload_n hx hb dX12_evenly_77 rfl (lv_at hl 3 rfl) ?_
  refine va_get (D := D) (ci := 15) (v := .int 1) (C := RX12) (T := TX12) (N := 66) hx hb hts iw_X12_evenly__X12 hown hE.1 hP 0 rfl rfl 33 (by decide) (hts _ mw_X12_evenly__2) (fun _ h9 => h9) rfl dX12_evenly_78 ?_
  refine lv_i2l (v := 1) hx hb dX12_evenly_81 (by decide +kernel) ?_
  refine jw_lrem (v := 0) hx hb dX12_evenly_82 (by decide +kernel) (jw_lrem1 _) ?_
  refine lv_l2i (v := 0) hx hb dX12_evenly_83 (by decide +kernel) ?_
  refine lv_goto (tgt := 100) hx hb dX12_evenly_84 (by decide) ?_
  refine W.widen (k := 0) (n := 0) (Nat.le_of_ble_eq_true rfl) (Nat.le_of_ble_eq_true rfl) ?_
  have hP : va_P D vwCl [] H := hP.sub [] rfl
  have hD : va_D A [] := hD.sub [] rfl rfl
  exact jw_iret hx hb hr hlocks rfl rfl hP hD hS dX12_evenly_100
set_option maxHeartbeats 4000000 in
set_option maxRecDepth 100000 in
theorem k576_X11_evenly {l : Launch} {D : va_G} {Y : Nat → ClassId} {tt : Nat → Nat} (h0 h1 h2 h3 h4 h5 h6 h7 h8 h9 h10 h11 h12 h13 h14 h15 h16 h17 h18 h19 h20 h21 : Nat) (p1 : Int32) (g_p1 : 0 ≤ p1.toInt) (sz : Nat) : Met l yX11_evenly wsX11_evenly ({ frames := 1, cells := 0, slots := 0, locals := 20 }) (jw_Pc D Y tt [.ref h0, .int p1, .int 1] [(h0, .inr (14, [.ref h2, .int 0, .ref h3, .ref h4, .ref h5, .ref h1, .ref h6, .ref h7, .ref h8, .ref h9, .ref h10, .ref h11, .ref h12, .ref h13, .ref h14, .ref h15, .int (-3), .int (-3)])), (h1, .inr (5, [.ref h3, .ref h5, .int 1, .int 1, .ref h16, .ref h17, .ref h18, .ref h19, .ref h20, .ref h21]))] sz) (jw_Qi D (fun r => r = 1) (fun w => w = []) (va_A [(h0, .inr (14, [.ref h2, .int 0, .ref h3, .ref h4, .ref h5, .ref h1, .ref h6, .ref h7, .ref h8, .ref h9, .ref h10, .ref h11, .ref h12, .ref h13, .ref h14, .ref h15, .int (-3), .int (-3)])), (h1, .inr (5, [.ref h3, .ref h5, .int 1, .int 1, .ref h16, .ref h17, .ref h18, .ref h19, .ref h20, .ref h21]))] sz)) 0 0 (va_A [(h0, .inr (14, [.ref h2, .int 0, .ref h3, .ref h4, .ref h5, .ref h1, .ref h6, .ref h7, .ref h8, .ref h9, .ref h10, .ref h11, .ref h12, .ref h13, .ref h14, .ref h15, .int (-3), .int (-3)])), (h1, .inr (5, [.ref h3, .ref h5, .int 1, .int 1, .ref h16, .ref h17, .ref h18, .ref h19, .ref h20, .ref h21]))] sz) := by
  refine jw_met (fun A => jw_Qi D (fun r => r = 1) (fun w => w = []) A) (cc := cX11_evenly) (maxL := 11) (ret := (some .int)) pn_X11_evenly rfl rfl ?_
  intro p e s m below meth c A H locs ls hx hb hml hr hts hown hlocks hin hP hD hA hS hE hl
  have hown : s.vm.findClass RX11 = some m.cls := hown
  have hl : lv_has ls 11 [(0, .ref h0), (1, .int p1), (2, .int 1)] := hl
  refine lv_aload_n hx hb dX11_evenly_0 rfl (lv_at hl 0 rfl) ?_
  refine va_get (D := D) (ci := 14) (v := .ref h1) (C := RX11) (T := TX11) (N := 18) hx hb hts iw_X11_evenly__X11 hown hE.1 hP 0 rfl rfl 5 (by decide) (hts _ mw_X11_evenly__1) (fun _ h9 => h9) rfl dX11_evenly_1 ?_
  refine va_getN (D := D) (ci := 5) (v := .int 1) (C := RX2) (T := TX2) (N := 10) hx hb hts iw_X11_evenly__X2 hown hE.1 hP 1 rfl rfl 3 (by decide) (nf_X11_169 hE) (fun _ h9 => h9) rfl dX11_evenly_4 ?_
  refine lv_istore_n (lv' := [(3, .int 1), (0, .ref h0), (1, .int p1), (2, .int 1)]) hx hb dX11_evenly_7 rfl hl (by decide) rfl (fun ls hl => ?_)
  refine lv_iload_n hx hb dX11_evenly_8 rfl (lv_at hl 2 rfl) ?_
  refine lv_if_lt (tgt := 25) hx hb dX11_evenly_9 (by decide) (fun c_1 => False.elim (by have := g_p1; have : (0 : Int32).toInt = 0 := (by decide +kernel); have := (jw_flt c_1); omega)) (fun c_1 => ?_)
  refine lv_iload_n hx hb dX11_evenly_12 rfl (lv_at hl 3 rfl) ?_
  refine lv_if_lt (tgt := 25) hx hb dX11_evenly_13 (by decide) (fun c9 => absurd c9 (by decide +kernel)) (fun _ => ?_)
  refine lv_iload_n hx hb dX11_evenly_16 rfl (lv_at hl 3 rfl) ?_
  refine lv_iconst (v := 2) hx hb dX11_evenly_17 (by decide +kernel) ?_
  refine lv_icmp_gt (tgt := 25) hx hb dX11_evenly_18 (by decide) (fun c9 => absurd c9 (by decide +kernel)) (fun _ => ?_)
  refine lv_iload_n hx hb dX11_evenly_21 rfl (lv_at hl 0 rfl) ?_
  refine lv_if_gt (tgt := 27) hx hb dX11_evenly_22 (by decide) (fun _ => ?_) (fun c9 => absurd (by decide +kernel) c9)
  refine lv_ldc2 (v := 2147483648) hx hb hown (hts _ mw_X11_evenly__2) dX11_evenly_27 ?_
  refine lv_lstore (lv' := [(4, .long 2147483648), (3, .int 1), (0, .ref h0), (1, .int p1), (2, .int 1)]) hx hb dX11_evenly_30 hl (by decide) rfl (fun ls hl => ?_)
  refine lv_lload hx hb dX11_evenly_32 (lv_at hl 0 rfl) ?_
  refine lv_lload hx hb dX11_evenly_34 (lv_at hl 0 rfl) ?_
  refine lv_iload_n hx hb dX11_evenly_36 rfl (lv_at hl 1 rfl) ?_
  refine lv_i2l (v := 1) hx hb dX11_evenly_37 (by decide +kernel) ?_
  refine jw_lrem (v := 0) hx hb dX11_evenly_38 (by decide +kernel) (by decide +kernel) ?_
  refine jw_lsub (v := 2147483648) hx hb dX11_evenly_39 (by decide +kernel) ?_
  refine lv_lstore (lv' := [(6, .long 2147483648), (4, .long 2147483648), (3, .int 1), (0, .ref h0), (1, .int p1), (2, .int 1)]) hx hb dX11_evenly_40 hl (by decide) rfl (fun ls hl => ?_)
  refine lv_iload_n hx hb dX11_evenly_42 rfl (lv_at hl 4 rfl) ?_
  refine jw_mi (wc := []) (cs := 0) (ss := 0) (va_runS (As := [.int p1]) (rest := []) ⟨hx, hb, hml, hown, hts⟩ (k572_X11_numberAfter p1 (by have := g_p1; have := (jw_fnl c_1); have : (0 : Int32).toInt = 0 := (by decide +kernel); omega) H.size) (va_cwS 1 hts gX11_evenly_X11_numberAfter rfl rfl rfl ydS_X11_numberAfter ⟨Nat.le_of_ble_eq_true rfl, Nat.le_of_ble_eq_true rfl⟩) (jw_mpreS hP hD hS hA hE [] rfl) rfl rfl hl.1 rfl (lv_room (Nat.le_of_ble_eq_true rfl)) dX11_evenly_43 ⟨Nat.le_of_ble_eq_true rfl, Nat.le_of_ble_eq_true rfl⟩) hP hD hS hA [] rfl rfl rfl (fun r9 w1 H locs hr9 hw9 hP hD hS => ?_)
  rw [hr9]
  subst hw9
  have hP : va_P D vwCl [(h0, .inr (14, [.ref h2, .int 0, .ref h3, .ref h4, .ref h5, .ref h1, .ref h6, .ref h7, .ref h8, .ref h9, .ref h10, .ref h11, .ref h12, .ref h13, .ref h14, .ref h15, .int (-3), .int (-3)])), (h1, .inr (5, [.ref h3, .ref h5, .int 1, .int 1, .ref h16, .ref h17, .ref h18, .ref h19, .ref h20, .ref h21]))] H := hP
  have hD : va_D A [(h0, .inr (14, [.ref h2, .int 0, .ref h3, .ref h4, .ref h5, .ref h1, .ref h6, .ref h7, .ref h8, .ref h9, .ref h10, .ref h11, .ref h12, .ref h13, .ref h14, .ref h15, .int (-3), .int (-3)])), (h1, .inr (5, [.ref h3, .ref h5, .int 1, .int 1, .ref h16, .ref h17, .ref h18, .ref h19, .ref h20, .ref h21]))] := hD
  refine lv_istore (lv' := [(8, .int (((p1 * 1103515245) + 12345) &&& 2147483647)), (6, .long 2147483648), (4, .long 2147483648), (3, .int 1), (0, .ref h0), (1, .int p1), (2, .int 1)]) hx hb dX11_evenly_46 hl (by decide) rfl (fun ls hl => ?_)
  refine lv_iconst (v := 1) hx hb dX11_evenly_48 (by decide +kernel) ?_
  refine lv_istore (lv' := [(9, .int 1), (8, .int (((p1 * 1103515245) + 12345) &&& 2147483647)), (6, .long 2147483648), (4, .long 2147483648), (3, .int 1), (0, .ref h0), (1, .int p1), (2, .int 1)]) hx hb dX11_evenly_49 hl (by decide) rfl (fun ls hl => ?_)
  refine lv_iconst (v := 0) hx hb dX11_evenly_51 (by decide +kernel) ?_
  refine lv_istore (lv' := [(10, .int 0), (9, .int 1), (8, .int (((p1 * 1103515245) + 12345) &&& 2147483647)), (6, .long 2147483648), (4, .long 2147483648), (3, .int 1), (0, .ref h0), (1, .int p1), (2, .int 1)]) hx hb dX11_evenly_52 hl (by decide) rfl (fun ls hl => ?_)
  refine lv_iload hx hb dX11_evenly_54 (lv_at hl 0 rfl) ?_
  refine lv_ldcw (v := 1000000) hx hb hown (hts _ mw_X11_evenly__3) dX11_evenly_56 ?_
  refine lv_icmp_ge (tgt := 87) hx hb dX11_evenly_59 (by decide) (fun c9 => absurd c9 (by decide +kernel)) (fun _ => ?_)
  refine lv_iload hx hb dX11_evenly_62 (lv_at hl 2 rfl) ?_
  refine lv_i2l (v := (((p1 * 1103515245) + 12345) &&& 2147483647).toInt64) hx hb dX11_evenly_64 rfl ?_
  refine lv_lload hx hb dX11_evenly_65 (lv_at hl 3 rfl) ?_
  refine jw_lcmp (v := (-1)) hx hb dX11_evenly_67 (jw_cmpI _) ?_
  refine lv_if_lt (tgt := 87) hx hb dX11_evenly_68 (by decide) (fun _ => ?_) (fun c9 => absurd (by decide +kernel) c9)
  refine lv_iload_n hx hb dX11_evenly_87 rfl (lv_at hl 8 rfl) ?_
  refine lv_if_ne (tgt := 96) hx hb dX11_evenly_88 (by decide) (fun _ => ?_) (fun c9 => absurd c9 (by decide +kernel))
  refine lv_iload_n hx hb dX11_evenly_96 rfl (lv_at hl 8 rfl) ?_
  refine lv_iconst (v := 1) hx hb dX11_evenly_97 (by decide +kernel) ?_
  refine lv_icmp_ne (tgt := 106) hx hb dX11_evenly_98 (by decide) (fun c9 => absurd (by decide +kernel) c9) (fun _ => ?_)
  refine lv_iload hx hb dX11_evenly_101 (lv_at hl 1 rfl) ?_
  refine lv_goto (tgt := 108) hx hb dX11_evenly_103 (by decide) ?_
  refine W.widen (k := 0) (n := 0) (Nat.le_of_ble_eq_true rfl) (Nat.le_of_ble_eq_true rfl) ?_
  have hP : va_P D vwCl [] H := hP.sub [] rfl
  have hD : va_D A [] := hD.sub [] rfl rfl
  exact jw_iret hx hb hr hlocks rfl rfl hP hD hS dX11_evenly_108
set_option maxHeartbeats 4000000 in
set_option maxRecDepth 100000 in
theorem k577_X12_evenly {l : Launch} {D : va_G} {Y : Nat → ClassId} {tt : Nat → Nat} (h0 h1 h2 h3 h4 h5 h6 h7 h8 h9 h10 h11 h12 h13 h14 h15 h16 h17 h18 h19 h20 h21 h22 h23 h24 h25 h26 h27 h28 h29 h30 h31 h32 h33 h34 h35 : Nat) (p1 : Int32) (g_p1 : 0 ≤ p1.toInt) (sz : Nat) : Met l yX12_evenly wsX12_evenly ({ frames := 1, cells := 0, slots := 0, locals := 22 }) (jw_Pc D Y tt [.ref h0, .int p1, .int 1] [(h0, .inr (15, [.ref h1, .int 0, .int 0, .ref h2, .int 0, .int (-1), .int 0, .int 0, .int 0, .int 0, .int 0, .int 2, .int 0, .int 0, .int 0, .ref h3, .ref h4, .ref h5, .ref h6, .int 2, .int 0, .int 0, .int 0, .int 0, .ref h7, .ref h8, .ref h9, .ref h10, .int 2, .ref h11, .int 1, .ref h12, .ref h13, .int 1, .ref h14, .ref h15, .ref h16, .int 0, .ref h17, .ref h18, .ref h19, .ref h20, .ref h21, .ref h22, .ref h23, .ref h24, .ref h25, .int 0, .ref h26, .ref h27, .ref h28, .int (-1), .ref h29, .long 0, .long 0, .int 0, .int 0, .long 0, .long 0, .ref h30, .ref h31, .ref h32, .ref h33, .ref h34, .ref h35, .long 0]))] sz) (jw_Qi D (fun r => r = 1) (fun w => w = []) (va_A [(h0, .inr (15, [.ref h1, .int 0, .int 0, .ref h2, .int 0, .int (-1), .int 0, .int 0, .int 0, .int 0, .int 0, .int 2, .int 0, .int 0, .int 0, .ref h3, .ref h4, .ref h5, .ref h6, .int 2, .int 0, .int 0, .int 0, .int 0, .ref h7, .ref h8, .ref h9, .ref h10, .int 2, .ref h11, .int 1, .ref h12, .ref h13, .int 1, .ref h14, .ref h15, .ref h16, .int 0, .ref h17, .ref h18, .ref h19, .ref h20, .ref h21, .ref h22, .ref h23, .ref h24, .ref h25, .int 0, .ref h26, .ref h27, .ref h28, .int (-1), .ref h29, .long 0, .long 0, .int 0, .int 0, .long 0, .long 0, .ref h30, .ref h31, .ref h32, .ref h33, .ref h34, .ref h35, .long 0]))] sz)) 0 0 (va_A [(h0, .inr (15, [.ref h1, .int 0, .int 0, .ref h2, .int 0, .int (-1), .int 0, .int 0, .int 0, .int 0, .int 0, .int 2, .int 0, .int 0, .int 0, .ref h3, .ref h4, .ref h5, .ref h6, .int 2, .int 0, .int 0, .int 0, .int 0, .ref h7, .ref h8, .ref h9, .ref h10, .int 2, .ref h11, .int 1, .ref h12, .ref h13, .int 1, .ref h14, .ref h15, .ref h16, .int 0, .ref h17, .ref h18, .ref h19, .ref h20, .ref h21, .ref h22, .ref h23, .ref h24, .ref h25, .int 0, .ref h26, .ref h27, .ref h28, .int (-1), .ref h29, .long 0, .long 0, .int 0, .int 0, .long 0, .long 0, .ref h30, .ref h31, .ref h32, .ref h33, .ref h34, .ref h35, .long 0]))] sz) := by
  refine jw_met (fun A => jw_Qi D (fun r => r = 1) (fun w => w = []) A) (cc := cX12_evenly) (maxL := 8) (ret := (some .int)) pn_X12_evenly rfl rfl ?_
  intro p e s m below meth c A H locs ls hx hb hml hr hts hown hlocks hin hP hD hA hS hE hl
  have hown : s.vm.findClass RX12 = some m.cls := hown
  have hl : lv_has ls 8 [(0, .ref h0), (1, .int p1), (2, .int 1)] := hl
  refine lv_aload_n hx hb dX12_evenly_0 rfl (lv_at hl 0 rfl) ?_
  refine lv_iconst (v := 0) hx hb dX12_evenly_1 (by decide +kernel) ?_
  refine va_put (D := D) (ci := 15) (v := .int 0) (C := RX12) (T := TX12) (N := 66) hx hb hts iw_X12_evenly__X12 tyX12 tyX12_ok nmX12 hown hE.1 hP hD hS 0 rfl rfl 2 (by decide) (hts _ mw_X12_evenly__1) (fun _ h9 => h9) rfl (tyX12_ok 2 (by decide)) rfl rfl (Nat.le_of_ble_eq_true rfl) dX12_evenly_2 (fun H locs hP hD hS => ?_)
  have hP : va_P D vwCl [(h0, .inr (15, [.ref h1, .int 0, .int 0, .ref h2, .int 0, .int (-1), .int 0, .int 0, .int 0, .int 0, .int 0, .int 2, .int 0, .int 0, .int 0, .ref h3, .ref h4, .ref h5, .ref h6, .int 2, .int 0, .int 0, .int 0, .int 0, .ref h7, .ref h8, .ref h9, .ref h10, .int 2, .ref h11, .int 1, .ref h12, .ref h13, .int 1, .ref h14, .ref h15, .ref h16, .int 0, .ref h17, .ref h18, .ref h19, .ref h20, .ref h21, .ref h22, .ref h23, .ref h24, .ref h25, .int 0, .ref h26, .ref h27, .ref h28, .int (-1), .ref h29, .long 0, .long 0, .int 0, .int 0, .long 0, .long 0, .ref h30, .ref h31, .ref h32, .ref h33, .ref h34, .ref h35, .long 0]))] H := hP
  have hD : va_D A [(h0, .inr (15, [.ref h1, .int 0, .int 0, .ref h2, .int 0, .int (-1), .int 0, .int 0, .int 0, .int 0, .int 0, .int 2, .int 0, .int 0, .int 0, .ref h3, .ref h4, .ref h5, .ref h6, .int 2, .int 0, .int 0, .int 0, .int 0, .ref h7, .ref h8, .ref h9, .ref h10, .int 2, .ref h11, .int 1, .ref h12, .ref h13, .int 1, .ref h14, .ref h15, .ref h16, .int 0, .ref h17, .ref h18, .ref h19, .ref h20, .ref h21, .ref h22, .ref h23, .ref h24, .ref h25, .int 0, .ref h26, .ref h27, .ref h28, .int (-1), .ref h29, .long 0, .long 0, .int 0, .int 0, .long 0, .long 0, .ref h30, .ref h31, .ref h32, .ref h33, .ref h34, .ref h35, .long 0]))] := hD
  refine lv_iload_n hx hb dX12_evenly_5 rfl (lv_at hl 1 rfl) ?_
  refine lv_if_lt (tgt := 25) hx hb dX12_evenly_6 (by decide) (fun c_1 => False.elim (by have := g_p1; have : (0 : Int32).toInt = 0 := (by decide +kernel); have := (jw_flt c_1); omega)) (fun c_1 => ?_)
  refine lv_iload_n hx hb dX12_evenly_9 rfl (lv_at hl 2 rfl) ?_
  refine lv_iconst (v := 0) hx hb dX12_evenly_10 (by decide +kernel) ?_
  refine lv_iconst (v := 2) hx hb dX12_evenly_11 (by decide +kernel) ?_
  refine jw_mi (wc := []) (cs := 0) (ss := 0) (va_runS (As := [.int 1, .int 0, .int 2]) (rest := []) ⟨hx, hb, hml, hown, hts⟩ (k435_X12_isIn H.size) (va_cwS 3 hts gX12_evenly_X12_isIn rfl rfl rfl ydS_X12_isIn ⟨Nat.le_of_ble_eq_true rfl, Nat.le_of_ble_eq_true rfl⟩) (jw_mpreS hP hD hS hA hE [] rfl) rfl rfl hl.1 rfl (lv_room (Nat.le_of_ble_eq_true rfl)) dX12_evenly_12 ⟨Nat.le_of_ble_eq_true rfl, Nat.le_of_ble_eq_true rfl⟩) hP hD hS hA [] rfl rfl rfl (fun r9 w1 H locs hr9 hw9 hP hD hS => ?_)
  subst hr9
  subst hw9
  have hP : va_P D vwCl [(h0, .inr (15, [.ref h1, .int 0, .int 0, .ref h2, .int 0, .int (-1), .int 0, .int 0, .int 0, .int 0, .int 0, .int 2, .int 0, .int 0, .int 0, .ref h3, .ref h4, .ref h5, .ref h6, .int 2, .int 0, .int 0, .int 0, .int 0, .ref h7, .ref h8, .ref h9, .ref h10, .int 2, .ref h11, .int 1, .ref h12, .ref h13, .int 1, .ref h14, .ref h15, .ref h16, .int 0, .ref h17, .ref h18, .ref h19, .ref h20, .ref h21, .ref h22, .ref h23, .ref h24, .ref h25, .int 0, .ref h26, .ref h27, .ref h28, .int (-1), .ref h29, .long 0, .long 0, .int 0, .int 0, .long 0, .long 0, .ref h30, .ref h31, .ref h32, .ref h33, .ref h34, .ref h35, .long 0]))] H := hP
  have hD : va_D A [(h0, .inr (15, [.ref h1, .int 0, .int 0, .ref h2, .int 0, .int (-1), .int 0, .int 0, .int 0, .int 0, .int 0, .int 2, .int 0, .int 0, .int 0, .ref h3, .ref h4, .ref h5, .ref h6, .int 2, .int 0, .int 0, .int 0, .int 0, .ref h7, .ref h8, .ref h9, .ref h10, .int 2, .ref h11, .int 1, .ref h12, .ref h13, .int 1, .ref h14, .ref h15, .ref h16, .int 0, .ref h17, .ref h18, .ref h19, .ref h20, .ref h21, .ref h22, .ref h23, .ref h24, .ref h25, .int 0, .ref h26, .ref h27, .ref h28, .int (-1), .ref h29, .long 0, .long 0, .int 0, .int 0, .long 0, .long 0, .ref h30, .ref h31, .ref h32, .ref h33, .ref h34, .ref h35, .long 0]))] := hD
  refine lv_if_eq (tgt := 25) hx hb dX12_evenly_15 (by decide) (fun c9 => absurd c9 (by decide +kernel)) (fun _ => ?_)
  refine lv_aload_n hx hb dX12_evenly_18 rfl (lv_at hl 0 rfl) ?_
  refine va_get (D := D) (ci := 15) (v := .int 1) (C := RX12) (T := TX12) (N := 66) hx hb hts iw_X12_evenly__X12 hown hE.1 hP 0 rfl rfl 33 (by decide) (hts _ mw_X12_evenly__2) (fun _ h9 => h9) rfl dX12_evenly_19 ?_
  refine lv_if_ne (tgt := 27) hx hb dX12_evenly_22 (by decide) (fun _ => ?_) (fun c9 => absurd c9 (by decide +kernel))
  refine lv_ldc2 (v := 2147483648) hx hb hown (hts _ mw_X12_evenly__3) dX12_evenly_27 ?_
  refine lv_ldc2 (v := 2147483648) hx hb hown (hts _ mw_X12_evenly__3) dX12_evenly_30 ?_
  refine lv_aload_n hx hb dX12_evenly_33 rfl (lv_at hl 0 rfl) ?_
  refine va_get (D := D) (ci := 15) (v := .int 1) (C := RX12) (T := TX12) (N := 66) hx hb hts iw_X12_evenly__X12 hown hE.1 hP 0 rfl rfl 33 (by decide) (hts _ mw_X12_evenly__2) (fun _ h9 => h9) rfl dX12_evenly_34 ?_
  refine lv_i2l (v := 1) hx hb dX12_evenly_37 (by decide +kernel) ?_
  refine jw_lrem (v := 0) hx hb dX12_evenly_38 (by decide +kernel) (by decide +kernel) ?_
  refine jw_lsub (v := 2147483648) hx hb dX12_evenly_39 (by decide +kernel) ?_
  refine lv_lstore_n (lv' := [(3, .long 2147483648), (0, .ref h0), (1, .int p1), (2, .int 1)]) hx hb dX12_evenly_40 rfl hl (by decide) rfl (fun ls hl => ?_)
  refine lv_iload_n hx hb dX12_evenly_41 rfl (lv_at hl 2 rfl) ?_
  refine lv_i2l (v := p1.toInt64) hx hb dX12_evenly_42 rfl ?_
  refine jw_ml (wc := []) (cs := 0) (ss := 0) (va_runS (As := [.long p1.toInt64]) (rest := []) ⟨hx, hb, hml, hown, hts⟩ (k574_X12_comesNext p1.toInt64 H.size) (va_cwS 1 hts gX12_evenly_X12_comesNext rfl rfl rfl ydS_X12_comesNext ⟨Nat.le_of_ble_eq_true rfl, Nat.le_of_ble_eq_true rfl⟩) (jw_mpreS hP hD hS hA hE [] rfl) rfl rfl hl.1 rfl (lv_room (Nat.le_of_ble_eq_true rfl)) dX12_evenly_43 ⟨Nat.le_of_ble_eq_true rfl, Nat.le_of_ble_eq_true rfl⟩) hP hD hS hA [] rfl rfl rfl (fun r9 w1 H locs hr9 hw9 hP hD hS => ?_)
  rw [hr9]
  subst hw9
  have hP : va_P D vwCl [(h0, .inr (15, [.ref h1, .int 0, .int 0, .ref h2, .int 0, .int (-1), .int 0, .int 0, .int 0, .int 0, .int 0, .int 2, .int 0, .int 0, .int 0, .ref h3, .ref h4, .ref h5, .ref h6, .int 2, .int 0, .int 0, .int 0, .int 0, .ref h7, .ref h8, .ref h9, .ref h10, .int 2, .ref h11, .int 1, .ref h12, .ref h13, .int 1, .ref h14, .ref h15, .ref h16, .int 0, .ref h17, .ref h18, .ref h19, .ref h20, .ref h21, .ref h22, .ref h23, .ref h24, .ref h25, .int 0, .ref h26, .ref h27, .ref h28, .int (-1), .ref h29, .long 0, .long 0, .int 0, .int 0, .long 0, .long 0, .ref h30, .ref h31, .ref h32, .ref h33, .ref h34, .ref h35, .long 0]))] H := hP
  have hD : va_D A [(h0, .inr (15, [.ref h1, .int 0, .int 0, .ref h2, .int 0, .int (-1), .int 0, .int 0, .int 0, .int 0, .int 0, .int 2, .int 0, .int 0, .int 0, .ref h3, .ref h4, .ref h5, .ref h6, .int 2, .int 0, .int 0, .int 0, .int 0, .ref h7, .ref h8, .ref h9, .ref h10, .int 2, .ref h11, .int 1, .ref h12, .ref h13, .int 1, .ref h14, .ref h15, .ref h16, .int 0, .ref h17, .ref h18, .ref h19, .ref h20, .ref h21, .ref h22, .ref h23, .ref h24, .ref h25, .int 0, .ref h26, .ref h27, .ref h28, .int (-1), .ref h29, .long 0, .long 0, .int 0, .int 0, .long 0, .long 0, .ref h30, .ref h31, .ref h32, .ref h33, .ref h34, .ref h35, .long 0]))] := hD
  refine lv_lstore (lv' := [(5, .long ((((p1.toInt64) * 1103515245) + 12345) &&& 2147483647)), (3, .long 2147483648), (0, .ref h0), (1, .int p1), (2, .int 1)]) hx hb dX12_evenly_46 hl (by decide) rfl (fun ls hl => ?_)
  refine lv_iconst (v := 1) hx hb dX12_evenly_48 (by decide +kernel) ?_
  refine lv_istore (lv' := [(7, .int 1), (5, .long ((((p1.toInt64) * 1103515245) + 12345) &&& 2147483647)), (3, .long 2147483648), (0, .ref h0), (1, .int p1), (2, .int 1)]) hx hb dX12_evenly_49 hl (by decide) rfl (fun ls hl => ?_)
  refine lv_lload hx hb dX12_evenly_51 (lv_at hl 1 rfl) ?_
  refine lv_lload_n hx hb dX12_evenly_53 rfl (lv_at hl 2 rfl) ?_
  refine jw_lcmp (v := (-1)) hx hb dX12_evenly_54 (jw_cmpL _) ?_
  refine lv_if_lt (tgt := 71) hx hb dX12_evenly_55 (by decide) (fun _ => ?_) (fun c9 => absurd (by decide +kernel) c9)
  refine lv_iload_n hx hb dX12_evenly_71 rfl (lv_at hl 5 rfl) ?_
  refine lv_if_ne (tgt := 87) hx hb dX12_evenly_72 (by decide) (fun _ => ?_) (fun c9 => absurd c9 (by decide +kernel))
  refine lv_iload_n hx hb dX12_evenly_87 rfl (lv_at hl 5 rfl) ?_
  refine lv_iconst (v := 1) hx hb dX12_evenly_88 (by decide +kernel) ?_
  refine lv_icmp_ne (tgt := 97) hx hb dX12_evenly_89 (by decide) (fun c9 => absurd (by decide +kernel) c9) (fun _ => ?_)
  refine lv_iload hx hb dX12_evenly_92 (lv_at hl 0 rfl) ?_
  refine lv_goto (tgt := 100) hx hb dX12_evenly_94 (by decide) ?_
  refine W.widen (k := 0) (n := 0) (Nat.le_of_ble_eq_true rfl) (Nat.le_of_ble_eq_true rfl) ?_
  have hP : va_P D vwCl [] H := hP.sub [] rfl
  have hD : va_D A [] := hD.sub [] rfl rfl
  exact jw_iret hx hb hr hlocks rfl rfl hP hD hS dX12_evenly_100
set_option maxHeartbeats 4000000 in
set_option maxRecDepth 100000 in
theorem k578_X11_evenly {l : Launch} {D : va_G} {Y : Nat → ClassId} {tt : Nat → Nat} (h0 h1 h2 h3 h4 h5 h6 h7 h8 h9 h10 h11 h12 h13 h14 h15 h16 h17 h18 h19 h20 h21 : Nat) (p1 : Int32) (g_p1 : 0 ≤ p1.toInt) (sz : Nat) : Met l yX11_evenly wsX11_evenly ({ frames := 1, cells := 0, slots := 0, locals := 20 }) (jw_Pc D Y tt [.ref h0, .int p1, .int 2] [(h0, .inr (14, [.ref h2, .int 0, .ref h3, .ref h4, .ref h5, .ref h1, .ref h6, .ref h7, .ref h8, .ref h9, .ref h10, .ref h11, .ref h12, .ref h13, .ref h14, .ref h15, .int (-3), .int (-3)])), (h1, .inr (5, [.ref h3, .ref h5, .int 1, .int 1, .ref h16, .ref h17, .ref h18, .ref h19, .ref h20, .ref h21]))] sz) (jw_Qi D (fun r => r = (((p1 * 1103515245) + 12345) &&& 2147483647)) (fun w => w = []) (va_A [(h0, .inr (14, [.ref h2, .int 0, .ref h3, .ref h4, .ref h5, .ref h1, .ref h6, .ref h7, .ref h8, .ref h9, .ref h10, .ref h11, .ref h12, .ref h13, .ref h14, .ref h15, .int (-3), .int (-3)])), (h1, .inr (5, [.ref h3, .ref h5, .int 1, .int 1, .ref h16, .ref h17, .ref h18, .ref h19, .ref h20, .ref h21]))] sz)) 0 0 (va_A [(h0, .inr (14, [.ref h2, .int 0, .ref h3, .ref h4, .ref h5, .ref h1, .ref h6, .ref h7, .ref h8, .ref h9, .ref h10, .ref h11, .ref h12, .ref h13, .ref h14, .ref h15, .int (-3), .int (-3)])), (h1, .inr (5, [.ref h3, .ref h5, .int 1, .int 1, .ref h16, .ref h17, .ref h18, .ref h19, .ref h20, .ref h21]))] sz) := by
  refine jw_met (fun A => jw_Qi D (fun r => r = (((p1 * 1103515245) + 12345) &&& 2147483647)) (fun w => w = []) A) (cc := cX11_evenly) (maxL := 11) (ret := (some .int)) pn_X11_evenly rfl rfl ?_
  intro p e s m below meth c A H locs ls hx hb hml hr hts hown hlocks hin hP hD hA hS hE hl
  have hown : s.vm.findClass RX11 = some m.cls := hown
  have hl : lv_has ls 11 [(0, .ref h0), (1, .int p1), (2, .int 2)] := hl
  refine lv_aload_n hx hb dX11_evenly_0 rfl (lv_at hl 0 rfl) ?_
  refine va_get (D := D) (ci := 14) (v := .ref h1) (C := RX11) (T := TX11) (N := 18) hx hb hts iw_X11_evenly__X11 hown hE.1 hP 0 rfl rfl 5 (by decide) (hts _ mw_X11_evenly__1) (fun _ h9 => h9) rfl dX11_evenly_1 ?_
  refine va_getN (D := D) (ci := 5) (v := .int 1) (C := RX2) (T := TX2) (N := 10) hx hb hts iw_X11_evenly__X2 hown hE.1 hP 1 rfl rfl 3 (by decide) (nf_X11_169 hE) (fun _ h9 => h9) rfl dX11_evenly_4 ?_
  refine lv_istore_n (lv' := [(3, .int 1), (0, .ref h0), (1, .int p1), (2, .int 2)]) hx hb dX11_evenly_7 rfl hl (by decide) rfl (fun ls hl => ?_)
  refine lv_iload_n hx hb dX11_evenly_8 rfl (lv_at hl 2 rfl) ?_
  refine lv_if_lt (tgt := 25) hx hb dX11_evenly_9 (by decide) (fun c_1 => False.elim (by have := g_p1; have : (0 : Int32).toInt = 0 := (by decide +kernel); have := (jw_flt c_1); omega)) (fun c_1 => ?_)
  refine lv_iload_n hx hb dX11_evenly_12 rfl (lv_at hl 3 rfl) ?_
  refine lv_if_lt (tgt := 25) hx hb dX11_evenly_13 (by decide) (fun c9 => absurd c9 (by decide +kernel)) (fun _ => ?_)
  refine lv_iload_n hx hb dX11_evenly_16 rfl (lv_at hl 3 rfl) ?_
  refine lv_iconst (v := 2) hx hb dX11_evenly_17 (by decide +kernel) ?_
  refine lv_icmp_gt (tgt := 25) hx hb dX11_evenly_18 (by decide) (fun c9 => absurd c9 (by decide +kernel)) (fun _ => ?_)
  refine lv_iload_n hx hb dX11_evenly_21 rfl (lv_at hl 0 rfl) ?_
  refine lv_if_gt (tgt := 27) hx hb dX11_evenly_22 (by decide) (fun _ => ?_) (fun c9 => absurd (by decide +kernel) c9)
  refine lv_ldc2 (v := 2147483648) hx hb hown (hts _ mw_X11_evenly__2) dX11_evenly_27 ?_
  refine lv_lstore (lv' := [(4, .long 2147483648), (3, .int 1), (0, .ref h0), (1, .int p1), (2, .int 2)]) hx hb dX11_evenly_30 hl (by decide) rfl (fun ls hl => ?_)
  refine lv_lload hx hb dX11_evenly_32 (lv_at hl 0 rfl) ?_
  refine lv_lload hx hb dX11_evenly_34 (lv_at hl 0 rfl) ?_
  refine lv_iload_n hx hb dX11_evenly_36 rfl (lv_at hl 1 rfl) ?_
  refine lv_i2l (v := 1) hx hb dX11_evenly_37 (by decide +kernel) ?_
  refine jw_lrem (v := 0) hx hb dX11_evenly_38 (by decide +kernel) (by decide +kernel) ?_
  refine jw_lsub (v := 2147483648) hx hb dX11_evenly_39 (by decide +kernel) ?_
  refine lv_lstore (lv' := [(6, .long 2147483648), (4, .long 2147483648), (3, .int 1), (0, .ref h0), (1, .int p1), (2, .int 2)]) hx hb dX11_evenly_40 hl (by decide) rfl (fun ls hl => ?_)
  refine lv_iload_n hx hb dX11_evenly_42 rfl (lv_at hl 4 rfl) ?_
  refine jw_mi (wc := []) (cs := 0) (ss := 0) (va_runS (As := [.int p1]) (rest := []) ⟨hx, hb, hml, hown, hts⟩ (k572_X11_numberAfter p1 (by have := g_p1; have := (jw_fnl c_1); have : (0 : Int32).toInt = 0 := (by decide +kernel); omega) H.size) (va_cwS 1 hts gX11_evenly_X11_numberAfter rfl rfl rfl ydS_X11_numberAfter ⟨Nat.le_of_ble_eq_true rfl, Nat.le_of_ble_eq_true rfl⟩) (jw_mpreS hP hD hS hA hE [] rfl) rfl rfl hl.1 rfl (lv_room (Nat.le_of_ble_eq_true rfl)) dX11_evenly_43 ⟨Nat.le_of_ble_eq_true rfl, Nat.le_of_ble_eq_true rfl⟩) hP hD hS hA [] rfl rfl rfl (fun r9 w1 H locs hr9 hw9 hP hD hS => ?_)
  rw [hr9]
  subst hw9
  have hP : va_P D vwCl [(h0, .inr (14, [.ref h2, .int 0, .ref h3, .ref h4, .ref h5, .ref h1, .ref h6, .ref h7, .ref h8, .ref h9, .ref h10, .ref h11, .ref h12, .ref h13, .ref h14, .ref h15, .int (-3), .int (-3)])), (h1, .inr (5, [.ref h3, .ref h5, .int 1, .int 1, .ref h16, .ref h17, .ref h18, .ref h19, .ref h20, .ref h21]))] H := hP
  have hD : va_D A [(h0, .inr (14, [.ref h2, .int 0, .ref h3, .ref h4, .ref h5, .ref h1, .ref h6, .ref h7, .ref h8, .ref h9, .ref h10, .ref h11, .ref h12, .ref h13, .ref h14, .ref h15, .int (-3), .int (-3)])), (h1, .inr (5, [.ref h3, .ref h5, .int 1, .int 1, .ref h16, .ref h17, .ref h18, .ref h19, .ref h20, .ref h21]))] := hD
  refine lv_istore (lv' := [(8, .int (((p1 * 1103515245) + 12345) &&& 2147483647)), (6, .long 2147483648), (4, .long 2147483648), (3, .int 1), (0, .ref h0), (1, .int p1), (2, .int 2)]) hx hb dX11_evenly_46 hl (by decide) rfl (fun ls hl => ?_)
  refine lv_iconst (v := 1) hx hb dX11_evenly_48 (by decide +kernel) ?_
  refine lv_istore (lv' := [(9, .int 1), (8, .int (((p1 * 1103515245) + 12345) &&& 2147483647)), (6, .long 2147483648), (4, .long 2147483648), (3, .int 1), (0, .ref h0), (1, .int p1), (2, .int 2)]) hx hb dX11_evenly_49 hl (by decide) rfl (fun ls hl => ?_)
  refine lv_iconst (v := 0) hx hb dX11_evenly_51 (by decide +kernel) ?_
  refine lv_istore (lv' := [(10, .int 0), (9, .int 1), (8, .int (((p1 * 1103515245) + 12345) &&& 2147483647)), (6, .long 2147483648), (4, .long 2147483648), (3, .int 1), (0, .ref h0), (1, .int p1), (2, .int 2)]) hx hb dX11_evenly_52 hl (by decide) rfl (fun ls hl => ?_)
  refine lv_iload hx hb dX11_evenly_54 (lv_at hl 0 rfl) ?_
  refine lv_ldcw (v := 1000000) hx hb hown (hts _ mw_X11_evenly__3) dX11_evenly_56 ?_
  refine lv_icmp_ge (tgt := 87) hx hb dX11_evenly_59 (by decide) (fun c9 => absurd c9 (by decide +kernel)) (fun _ => ?_)
  refine lv_iload hx hb dX11_evenly_62 (lv_at hl 2 rfl) ?_
  refine lv_i2l (v := (((p1 * 1103515245) + 12345) &&& 2147483647).toInt64) hx hb dX11_evenly_64 rfl ?_
  refine lv_lload hx hb dX11_evenly_65 (lv_at hl 3 rfl) ?_
  refine jw_lcmp (v := (-1)) hx hb dX11_evenly_67 (jw_cmpI _) ?_
  refine lv_if_lt (tgt := 87) hx hb dX11_evenly_68 (by decide) (fun _ => ?_) (fun c9 => absurd (by decide +kernel) c9)
  refine lv_iload_n hx hb dX11_evenly_87 rfl (lv_at hl 8 rfl) ?_
  refine lv_if_ne (tgt := 96) hx hb dX11_evenly_88 (by decide) (fun _ => ?_) (fun c9 => absurd c9 (by decide +kernel))
  refine lv_iload_n hx hb dX11_evenly_96 rfl (lv_at hl 8 rfl) ?_
  refine lv_iconst (v := 1) hx hb dX11_evenly_97 (by decide +kernel) ?_
  refine lv_icmp_ne (tgt := 106) hx hb dX11_evenly_98 (by decide) (fun _ => ?_) (fun c9 => absurd c9 (by decide +kernel))
  refine lv_iload hx hb dX11_evenly_106 (lv_at hl 2 rfl) ?_
  refine W.widen (k := 0) (n := 0) (Nat.le_of_ble_eq_true rfl) (Nat.le_of_ble_eq_true rfl) ?_
  have hP : va_P D vwCl [] H := hP.sub [] rfl
  have hD : va_D A [] := hD.sub [] rfl rfl
  exact jw_iret hx hb hr hlocks rfl rfl hP hD hS dX11_evenly_108
set_option maxHeartbeats 4000000 in
set_option maxRecDepth 100000 in
theorem k579_X12_evenly {l : Launch} {D : va_G} {Y : Nat → ClassId} {tt : Nat → Nat} (h0 h1 h2 h3 h4 h5 h6 h7 h8 h9 h10 h11 h12 h13 h14 h15 h16 h17 h18 h19 h20 h21 h22 h23 h24 h25 h26 h27 h28 h29 h30 h31 h32 h33 h34 h35 : Nat) (p1 : Int32) (g_p1 : 0 ≤ p1.toInt) (sz : Nat) : Met l yX12_evenly wsX12_evenly ({ frames := 1, cells := 0, slots := 0, locals := 22 }) (jw_Pc D Y tt [.ref h0, .int p1, .int 2] [(h0, .inr (15, [.ref h1, .int 0, .int 0, .ref h2, .int 0, .int (-1), .int 0, .int 0, .int 0, .int 0, .int 0, .int 2, .int 0, .int 0, .int 0, .ref h3, .ref h4, .ref h5, .ref h6, .int 2, .int 0, .int 0, .int 0, .int 0, .ref h7, .ref h8, .ref h9, .ref h10, .int 2, .ref h11, .int 1, .ref h12, .ref h13, .int 1, .ref h14, .ref h15, .ref h16, .int 0, .ref h17, .ref h18, .ref h19, .ref h20, .ref h21, .ref h22, .ref h23, .ref h24, .ref h25, .int 0, .ref h26, .ref h27, .ref h28, .int (-1), .ref h29, .long 0, .long 0, .int 0, .int 0, .long 0, .long 0, .ref h30, .ref h31, .ref h32, .ref h33, .ref h34, .ref h35, .long 0]))] sz) (jw_Qi D (fun r => r = ((((p1.toInt64) * 1103515245) + 12345) &&& 2147483647).toInt32) (fun w => w = []) (va_A [(h0, .inr (15, [.ref h1, .int 0, .int 0, .ref h2, .int 0, .int (-1), .int 0, .int 0, .int 0, .int 0, .int 0, .int 2, .int 0, .int 0, .int 0, .ref h3, .ref h4, .ref h5, .ref h6, .int 2, .int 0, .int 0, .int 0, .int 0, .ref h7, .ref h8, .ref h9, .ref h10, .int 2, .ref h11, .int 1, .ref h12, .ref h13, .int 1, .ref h14, .ref h15, .ref h16, .int 0, .ref h17, .ref h18, .ref h19, .ref h20, .ref h21, .ref h22, .ref h23, .ref h24, .ref h25, .int 0, .ref h26, .ref h27, .ref h28, .int (-1), .ref h29, .long 0, .long 0, .int 0, .int 0, .long 0, .long 0, .ref h30, .ref h31, .ref h32, .ref h33, .ref h34, .ref h35, .long 0]))] sz)) 0 0 (va_A [(h0, .inr (15, [.ref h1, .int 0, .int 0, .ref h2, .int 0, .int (-1), .int 0, .int 0, .int 0, .int 0, .int 0, .int 2, .int 0, .int 0, .int 0, .ref h3, .ref h4, .ref h5, .ref h6, .int 2, .int 0, .int 0, .int 0, .int 0, .ref h7, .ref h8, .ref h9, .ref h10, .int 2, .ref h11, .int 1, .ref h12, .ref h13, .int 1, .ref h14, .ref h15, .ref h16, .int 0, .ref h17, .ref h18, .ref h19, .ref h20, .ref h21, .ref h22, .ref h23, .ref h24, .ref h25, .int 0, .ref h26, .ref h27, .ref h28, .int (-1), .ref h29, .long 0, .long 0, .int 0, .int 0, .long 0, .long 0, .ref h30, .ref h31, .ref h32, .ref h33, .ref h34, .ref h35, .long 0]))] sz) := by
  refine jw_met (fun A => jw_Qi D (fun r => r = ((((p1.toInt64) * 1103515245) + 12345) &&& 2147483647).toInt32) (fun w => w = []) A) (cc := cX12_evenly) (maxL := 8) (ret := (some .int)) pn_X12_evenly rfl rfl ?_
  intro p e s m below meth c A H locs ls hx hb hml hr hts hown hlocks hin hP hD hA hS hE hl
  have hown : s.vm.findClass RX12 = some m.cls := hown
  have hl : lv_has ls 8 [(0, .ref h0), (1, .int p1), (2, .int 2)] := hl
  refine lv_aload_n hx hb dX12_evenly_0 rfl (lv_at hl 0 rfl) ?_
  refine lv_iconst (v := 0) hx hb dX12_evenly_1 (by decide +kernel) ?_
  refine va_put (D := D) (ci := 15) (v := .int 0) (C := RX12) (T := TX12) (N := 66) hx hb hts iw_X12_evenly__X12 tyX12 tyX12_ok nmX12 hown hE.1 hP hD hS 0 rfl rfl 2 (by decide) (hts _ mw_X12_evenly__1) (fun _ h9 => h9) rfl (tyX12_ok 2 (by decide)) rfl rfl (Nat.le_of_ble_eq_true rfl) dX12_evenly_2 (fun H locs hP hD hS => ?_)
  have hP : va_P D vwCl [(h0, .inr (15, [.ref h1, .int 0, .int 0, .ref h2, .int 0, .int (-1), .int 0, .int 0, .int 0, .int 0, .int 0, .int 2, .int 0, .int 0, .int 0, .ref h3, .ref h4, .ref h5, .ref h6, .int 2, .int 0, .int 0, .int 0, .int 0, .ref h7, .ref h8, .ref h9, .ref h10, .int 2, .ref h11, .int 1, .ref h12, .ref h13, .int 1, .ref h14, .ref h15, .ref h16, .int 0, .ref h17, .ref h18, .ref h19, .ref h20, .ref h21, .ref h22, .ref h23, .ref h24, .ref h25, .int 0, .ref h26, .ref h27, .ref h28, .int (-1), .ref h29, .long 0, .long 0, .int 0, .int 0, .long 0, .long 0, .ref h30, .ref h31, .ref h32, .ref h33, .ref h34, .ref h35, .long 0]))] H := hP
  have hD : va_D A [(h0, .inr (15, [.ref h1, .int 0, .int 0, .ref h2, .int 0, .int (-1), .int 0, .int 0, .int 0, .int 0, .int 0, .int 2, .int 0, .int 0, .int 0, .ref h3, .ref h4, .ref h5, .ref h6, .int 2, .int 0, .int 0, .int 0, .int 0, .ref h7, .ref h8, .ref h9, .ref h10, .int 2, .ref h11, .int 1, .ref h12, .ref h13, .int 1, .ref h14, .ref h15, .ref h16, .int 0, .ref h17, .ref h18, .ref h19, .ref h20, .ref h21, .ref h22, .ref h23, .ref h24, .ref h25, .int 0, .ref h26, .ref h27, .ref h28, .int (-1), .ref h29, .long 0, .long 0, .int 0, .int 0, .long 0, .long 0, .ref h30, .ref h31, .ref h32, .ref h33, .ref h34, .ref h35, .long 0]))] := hD
  refine lv_iload_n hx hb dX12_evenly_5 rfl (lv_at hl 1 rfl) ?_
  refine lv_if_lt (tgt := 25) hx hb dX12_evenly_6 (by decide) (fun c_1 => False.elim (by have := g_p1; have : (0 : Int32).toInt = 0 := (by decide +kernel); have := (jw_flt c_1); omega)) (fun c_1 => ?_)
  refine lv_iload_n hx hb dX12_evenly_9 rfl (lv_at hl 2 rfl) ?_
  refine lv_iconst (v := 0) hx hb dX12_evenly_10 (by decide +kernel) ?_
  refine lv_iconst (v := 2) hx hb dX12_evenly_11 (by decide +kernel) ?_
  refine jw_mi (wc := []) (cs := 0) (ss := 0) (va_runS (As := [.int 2, .int 0, .int 2]) (rest := []) ⟨hx, hb, hml, hown, hts⟩ (k439_X12_isIn H.size) (va_cwS 3 hts gX12_evenly_X12_isIn rfl rfl rfl ydS_X12_isIn ⟨Nat.le_of_ble_eq_true rfl, Nat.le_of_ble_eq_true rfl⟩) (jw_mpreS hP hD hS hA hE [] rfl) rfl rfl hl.1 rfl (lv_room (Nat.le_of_ble_eq_true rfl)) dX12_evenly_12 ⟨Nat.le_of_ble_eq_true rfl, Nat.le_of_ble_eq_true rfl⟩) hP hD hS hA [] rfl rfl rfl (fun r9 w1 H locs hr9 hw9 hP hD hS => ?_)
  subst hr9
  subst hw9
  have hP : va_P D vwCl [(h0, .inr (15, [.ref h1, .int 0, .int 0, .ref h2, .int 0, .int (-1), .int 0, .int 0, .int 0, .int 0, .int 0, .int 2, .int 0, .int 0, .int 0, .ref h3, .ref h4, .ref h5, .ref h6, .int 2, .int 0, .int 0, .int 0, .int 0, .ref h7, .ref h8, .ref h9, .ref h10, .int 2, .ref h11, .int 1, .ref h12, .ref h13, .int 1, .ref h14, .ref h15, .ref h16, .int 0, .ref h17, .ref h18, .ref h19, .ref h20, .ref h21, .ref h22, .ref h23, .ref h24, .ref h25, .int 0, .ref h26, .ref h27, .ref h28, .int (-1), .ref h29, .long 0, .long 0, .int 0, .int 0, .long 0, .long 0, .ref h30, .ref h31, .ref h32, .ref h33, .ref h34, .ref h35, .long 0]))] H := hP
  have hD : va_D A [(h0, .inr (15, [.ref h1, .int 0, .int 0, .ref h2, .int 0, .int (-1), .int 0, .int 0, .int 0, .int 0, .int 0, .int 2, .int 0, .int 0, .int 0, .ref h3, .ref h4, .ref h5, .ref h6, .int 2, .int 0, .int 0, .int 0, .int 0, .ref h7, .ref h8, .ref h9, .ref h10, .int 2, .ref h11, .int 1, .ref h12, .ref h13, .int 1, .ref h14, .ref h15, .ref h16, .int 0, .ref h17, .ref h18, .ref h19, .ref h20, .ref h21, .ref h22, .ref h23, .ref h24, .ref h25, .int 0, .ref h26, .ref h27, .ref h28, .int (-1), .ref h29, .long 0, .long 0, .int 0, .int 0, .long 0, .long 0, .ref h30, .ref h31, .ref h32, .ref h33, .ref h34, .ref h35, .long 0]))] := hD
  refine lv_if_eq (tgt := 25) hx hb dX12_evenly_15 (by decide) (fun c9 => absurd c9 (by decide +kernel)) (fun _ => ?_)
  refine lv_aload_n hx hb dX12_evenly_18 rfl (lv_at hl 0 rfl) ?_
  refine va_get (D := D) (ci := 15) (v := .int 1) (C := RX12) (T := TX12) (N := 66) hx hb hts iw_X12_evenly__X12 hown hE.1 hP 0 rfl rfl 33 (by decide) (hts _ mw_X12_evenly__2) (fun _ h9 => h9) rfl dX12_evenly_19 ?_
  refine lv_if_ne (tgt := 27) hx hb dX12_evenly_22 (by decide) (fun _ => ?_) (fun c9 => absurd c9 (by decide +kernel))
  refine lv_ldc2 (v := 2147483648) hx hb hown (hts _ mw_X12_evenly__3) dX12_evenly_27 ?_
  refine lv_ldc2 (v := 2147483648) hx hb hown (hts _ mw_X12_evenly__3) dX12_evenly_30 ?_
  refine lv_aload_n hx hb dX12_evenly_33 rfl (lv_at hl 0 rfl) ?_
  refine va_get (D := D) (ci := 15) (v := .int 1) (C := RX12) (T := TX12) (N := 66) hx hb hts iw_X12_evenly__X12 hown hE.1 hP 0 rfl rfl 33 (by decide) (hts _ mw_X12_evenly__2) (fun _ h9 => h9) rfl dX12_evenly_34 ?_
  refine lv_i2l (v := 1) hx hb dX12_evenly_37 (by decide +kernel) ?_
  refine jw_lrem (v := 0) hx hb dX12_evenly_38 (by decide +kernel) (by decide +kernel) ?_
  refine jw_lsub (v := 2147483648) hx hb dX12_evenly_39 (by decide +kernel) ?_
  refine lv_lstore_n (lv' := [(3, .long 2147483648), (0, .ref h0), (1, .int p1), (2, .int 2)]) hx hb dX12_evenly_40 rfl hl (by decide) rfl (fun ls hl => ?_)
  refine lv_iload_n hx hb dX12_evenly_41 rfl (lv_at hl 2 rfl) ?_
  refine lv_i2l (v := p1.toInt64) hx hb dX12_evenly_42 rfl ?_
  refine jw_ml (wc := []) (cs := 0) (ss := 0) (va_runS (As := [.long p1.toInt64]) (rest := []) ⟨hx, hb, hml, hown, hts⟩ (k574_X12_comesNext p1.toInt64 H.size) (va_cwS 1 hts gX12_evenly_X12_comesNext rfl rfl rfl ydS_X12_comesNext ⟨Nat.le_of_ble_eq_true rfl, Nat.le_of_ble_eq_true rfl⟩) (jw_mpreS hP hD hS hA hE [] rfl) rfl rfl hl.1 rfl (lv_room (Nat.le_of_ble_eq_true rfl)) dX12_evenly_43 ⟨Nat.le_of_ble_eq_true rfl, Nat.le_of_ble_eq_true rfl⟩) hP hD hS hA [] rfl rfl rfl (fun r9 w1 H locs hr9 hw9 hP hD hS => ?_)
  rw [hr9]
  subst hw9
  have hP : va_P D vwCl [(h0, .inr (15, [.ref h1, .int 0, .int 0, .ref h2, .int 0, .int (-1), .int 0, .int 0, .int 0, .int 0, .int 0, .int 2, .int 0, .int 0, .int 0, .ref h3, .ref h4, .ref h5, .ref h6, .int 2, .int 0, .int 0, .int 0, .int 0, .ref h7, .ref h8, .ref h9, .ref h10, .int 2, .ref h11, .int 1, .ref h12, .ref h13, .int 1, .ref h14, .ref h15, .ref h16, .int 0, .ref h17, .ref h18, .ref h19, .ref h20, .ref h21, .ref h22, .ref h23, .ref h24, .ref h25, .int 0, .ref h26, .ref h27, .ref h28, .int (-1), .ref h29, .long 0, .long 0, .int 0, .int 0, .long 0, .long 0, .ref h30, .ref h31, .ref h32, .ref h33, .ref h34, .ref h35, .long 0]))] H := hP
  have hD : va_D A [(h0, .inr (15, [.ref h1, .int 0, .int 0, .ref h2, .int 0, .int (-1), .int 0, .int 0, .int 0, .int 0, .int 0, .int 2, .int 0, .int 0, .int 0, .ref h3, .ref h4, .ref h5, .ref h6, .int 2, .int 0, .int 0, .int 0, .int 0, .ref h7, .ref h8, .ref h9, .ref h10, .int 2, .ref h11, .int 1, .ref h12, .ref h13, .int 1, .ref h14, .ref h15, .ref h16, .int 0, .ref h17, .ref h18, .ref h19, .ref h20, .ref h21, .ref h22, .ref h23, .ref h24, .ref h25, .int 0, .ref h26, .ref h27, .ref h28, .int (-1), .ref h29, .long 0, .long 0, .int 0, .int 0, .long 0, .long 0, .ref h30, .ref h31, .ref h32, .ref h33, .ref h34, .ref h35, .long 0]))] := hD
  refine lv_lstore (lv' := [(5, .long ((((p1.toInt64) * 1103515245) + 12345) &&& 2147483647)), (3, .long 2147483648), (0, .ref h0), (1, .int p1), (2, .int 2)]) hx hb dX12_evenly_46 hl (by decide) rfl (fun ls hl => ?_)
  refine lv_iconst (v := 1) hx hb dX12_evenly_48 (by decide +kernel) ?_
  refine lv_istore (lv' := [(7, .int 1), (5, .long ((((p1.toInt64) * 1103515245) + 12345) &&& 2147483647)), (3, .long 2147483648), (0, .ref h0), (1, .int p1), (2, .int 2)]) hx hb dX12_evenly_49 hl (by decide) rfl (fun ls hl => ?_)
  refine lv_lload hx hb dX12_evenly_51 (lv_at hl 1 rfl) ?_
  refine lv_lload_n hx hb dX12_evenly_53 rfl (lv_at hl 2 rfl) ?_
  refine jw_lcmp (v := (-1)) hx hb dX12_evenly_54 (jw_cmpL _) ?_
  refine lv_if_lt (tgt := 71) hx hb dX12_evenly_55 (by decide) (fun _ => ?_) (fun c9 => absurd (by decide +kernel) c9)
  refine lv_iload_n hx hb dX12_evenly_71 rfl (lv_at hl 5 rfl) ?_
  refine lv_if_ne (tgt := 87) hx hb dX12_evenly_72 (by decide) (fun _ => ?_) (fun c9 => absurd c9 (by decide +kernel))
  refine lv_iload_n hx hb dX12_evenly_87 rfl (lv_at hl 5 rfl) ?_
  refine lv_iconst (v := 1) hx hb dX12_evenly_88 (by decide +kernel) ?_
  refine lv_icmp_ne (tgt := 97) hx hb dX12_evenly_89 (by decide) (fun _ => ?_) (fun c9 => absurd c9 (by decide +kernel))
  refine lv_lload hx hb dX12_evenly_97 (lv_at hl 1 rfl) ?_
  refine lv_l2i (v := ((((p1.toInt64) * 1103515245) + 12345) &&& 2147483647).toInt32) hx hb dX12_evenly_99 rfl ?_
  refine W.widen (k := 0) (n := 0) (Nat.le_of_ble_eq_true rfl) (Nat.le_of_ble_eq_true rfl) ?_
  have hP : va_P D vwCl [] H := hP.sub [] rfl
  have hD : va_D A [] := hD.sub [] rfl rfl
  exact jw_iret hx hb hr hlocks rfl rfl hP hD hS dX12_evenly_100
set_option maxHeartbeats 4000000 in
set_option maxRecDepth 100000 in
theorem k580_X11_readTurns {l : Launch} {D : va_G} {Y : Nat → ClassId} {tt : Nat → Nat} (h0 : Nat) (p0 : Int32) (g_p0 : p0.toBitVec.toNat % 16 = 0) (sz : Nat) : Met l yX11_readTurns wsX11_readTurns ({ frames := 0, cells := 0, slots := 0, locals := 0 }) (jw_Pc D Y tt [.int p0, .int 2, .ref h0] [] sz) (jw_Qi D (fun r => r = 0) (fun w => w = []) (va_A [] sz)) 0 0 (va_A [] sz) := by
  refine jw_met (fun A => jw_Qi D (fun r => r = 0) (fun w => w = []) A) (cc := cX11_readTurns) (maxL := 5) (ret := (some .boolean)) pn_X11_readTurns rfl rfl ?_
  intro p e s m below meth c A H locs ls hx hb hml hr hts hown hlocks hin hP hD hA hS hE hl
  have hown : s.vm.findClass RX11 = some m.cls := hown
  have hl : lv_has ls 5 [(0, .int p0), (1, .int 2), (2, .ref h0)] := hl
  refine lv_iconst (v := 0) hx hb dX11_readTurns_0 (by decide +kernel) ?_
  refine lv_istore_n (lv' := [(3, .int 0), (0, .int p0), (1, .int 2), (2, .ref h0)]) hx hb dX11_readTurns_1 rfl hl (by decide) rfl (fun ls hl => ?_)
  refine lv_iconst (v := 0) hx hb dX11_readTurns_2 (by decide +kernel) ?_
  refine lv_istore (lv' := [(4, .int 0), (3, .int 0), (0, .int p0), (1, .int 2), (2, .ref h0)]) hx hb dX11_readTurns_3 hl (by decide) rfl (fun ls hl => ?_)
  refine lv_iload hx hb dX11_readTurns_5 (lv_at hl 0 rfl) ?_
  refine lv_iload_n hx hb dX11_readTurns_7 rfl (lv_at hl 3 rfl) ?_
  refine lv_icmp_ge (tgt := 30) hx hb dX11_readTurns_8 (by decide) (fun c9 => absurd c9 (by decide +kernel)) (fun _ => ?_)
  refine lv_iload_n hx hb dX11_readTurns_11 rfl (lv_at hl 1 rfl) ?_
  refine lv_iconst (v := 1) hx hb dX11_readTurns_12 (by decide +kernel) ?_
  refine lv_iload_n hx hb dX11_readTurns_13 rfl (lv_at hl 2 rfl) ?_
  refine lv_iconst (v := 2) hx hb dX11_readTurns_14 (by decide +kernel) ?_
  refine lv_iload hx hb dX11_readTurns_15 (lv_at hl 0 rfl) ?_
  refine jw_imul (v := 0) hx hb dX11_readTurns_17 (by decide +kernel) ?_
  refine lv_iushr (v := (p0.toUInt32 >>> ((0 : Int32).toUInt32 &&& Int32.toUInt32 31)).toInt32) hx hb dX11_readTurns_18 rfl ?_
  refine lv_iconst (v := 3) hx hb dX11_readTurns_19 (by decide +kernel) ?_
  refine jw_iand (v := 0) hx hb dX11_readTurns_20 (jw_bu0 g_p0 (by decide +kernel)) ?_
  refine jw_ishl (v := 1) hx hb dX11_readTurns_21 (by decide +kernel) ?_
  refine jw_ior (v := 1) hx hb dX11_readTurns_22 (by decide +kernel) ?_
  refine lv_istore_n (lv' := [(3, .int 1), (4, .int 0), (0, .int p0), (1, .int 2), (2, .ref h0)]) hx hb dX11_readTurns_23 rfl hl (by decide) rfl (fun ls hl => ?_)
  refine lv_iinc (v := 1) (lv' := [(4, .int 1), (3, .int 1), (0, .int p0), (1, .int 2), (2, .ref h0)]) hx hb dX11_readTurns_24 hl (k := 1) rfl (by decide +kernel) (by decide) rfl (fun ls hl => ?_)
  refine lv_goto (tgt := 5) hx hb dX11_readTurns_27 (by decide) ?_
  refine lv_iload hx hb dX11_readTurns_5 (lv_at hl 0 rfl) ?_
  refine lv_iload_n hx hb dX11_readTurns_7 rfl (lv_at hl 3 rfl) ?_
  refine lv_icmp_ge (tgt := 30) hx hb dX11_readTurns_8 (by decide) (fun c9 => absurd c9 (by decide +kernel)) (fun _ => ?_)
  refine lv_iload_n hx hb dX11_readTurns_11 rfl (lv_at hl 1 rfl) ?_
  refine lv_iconst (v := 1) hx hb dX11_readTurns_12 (by decide +kernel) ?_
  refine lv_iload_n hx hb dX11_readTurns_13 rfl (lv_at hl 2 rfl) ?_
  refine lv_iconst (v := 2) hx hb dX11_readTurns_14 (by decide +kernel) ?_
  refine lv_iload hx hb dX11_readTurns_15 (lv_at hl 0 rfl) ?_
  refine jw_imul (v := 2) hx hb dX11_readTurns_17 (by decide +kernel) ?_
  refine lv_iushr (v := (p0.toUInt32 >>> ((2 : Int32).toUInt32 &&& Int32.toUInt32 31)).toInt32) hx hb dX11_readTurns_18 rfl ?_
  refine lv_iconst (v := 3) hx hb dX11_readTurns_19 (by decide +kernel) ?_
  refine jw_iand (v := 0) hx hb dX11_readTurns_20 (jw_bu1 g_p0 (by decide +kernel)) ?_
  refine jw_ishl (v := 1) hx hb dX11_readTurns_21 (by decide +kernel) ?_
  refine jw_ior (v := 1) hx hb dX11_readTurns_22 (by decide +kernel) ?_
  refine lv_istore_n (lv' := [(3, .int 1), (4, .int 1), (0, .int p0), (1, .int 2), (2, .ref h0)]) hx hb dX11_readTurns_23 rfl hl (by decide) rfl (fun ls hl => ?_)
  refine lv_iinc (v := 2) (lv' := [(4, .int 2), (3, .int 1), (0, .int p0), (1, .int 2), (2, .ref h0)]) hx hb dX11_readTurns_24 hl (k := 1) rfl (by decide +kernel) (by decide) rfl (fun ls hl => ?_)
  refine lv_goto (tgt := 5) hx hb dX11_readTurns_27 (by decide) ?_
  refine lv_iload hx hb dX11_readTurns_5 (lv_at hl 0 rfl) ?_
  refine lv_iload_n hx hb dX11_readTurns_7 rfl (lv_at hl 3 rfl) ?_
  refine lv_icmp_ge (tgt := 30) hx hb dX11_readTurns_8 (by decide) (fun _ => ?_) (fun c9 => absurd (by decide +kernel) c9)
  refine lv_iload_n hx hb dX11_readTurns_30 rfl (lv_at hl 1 rfl) ?_
  refine lv_iconst (v := 1) hx hb dX11_readTurns_31 (by decide +kernel) ?_
  refine lv_iload_n hx hb dX11_readTurns_32 rfl (lv_at hl 3 rfl) ?_
  refine jw_ishl (v := 4) hx hb dX11_readTurns_33 (by decide +kernel) ?_
  refine lv_iconst (v := 1) hx hb dX11_readTurns_34 (by decide +kernel) ?_
  refine jw_isub (v := 3) hx hb dX11_readTurns_35 (by decide +kernel) ?_
  refine lv_icmp_eq (tgt := 41) hx hb dX11_readTurns_36 (by decide) (fun c9 => absurd c9 (by decide +kernel)) (fun _ => ?_)
  refine lv_iconst (v := 0) hx hb dX11_readTurns_39 (by decide +kernel) ?_
  refine W.widen (k := 0) (n := 0) (Nat.le_of_ble_eq_true rfl) (Nat.le_of_ble_eq_true rfl) ?_
  exact jw_zret hx hb hr hlocks rfl rfl rfl hP hD hS dX11_readTurns_40
set_option maxHeartbeats 4000000 in
set_option maxRecDepth 100000 in
theorem k581_X11_arrange {l : Launch} {D : va_G} {Y : Nat → ClassId} {tt : Nat → Nat} (h0 h1 h2 h3 h4 h5 h6 h7 h8 h9 h10 h11 h12 h13 h14 h15 h16 h17 h18 h19 h20 h21 h22 h23 h24 h25 : Nat) (p1 : Int32) (g_p1 : p1.toBitVec.toNat % 16 = 0) (sz : Nat) : Met l yX11_arrange wsX11_arrange ({ frames := 1, cells := 0, slots := 0, locals := 24 }) (jw_Pc D Y tt [.ref h0, .int p1] [(h0, .inr (14, [.ref h3, .int 0, .ref h1, .ref h4, .ref h5, .ref h6, .ref h2, .ref h7, .ref h8, .ref h9, .ref h10, .ref h11, .ref h12, .ref h13, .ref h14, .ref h15, .int (-3), .int (-3)])), (h1, .inr (6, [.int 2, .int 0, .int 0, .int 0, .int 0, .ref h16, .ref h17, .ref h18, .ref h19, .ref h20, .int 0])), (h2, .inr (11, [.ref h1, .ref h5, .ref h21, .ref h22, .ref h23, .ref h24, .int 0, .ref h25]))] sz) (jw_Qi D (fun r => r = 0) (fun w => w = []) (va_A [(h0, .inr (14, [.ref h3, .int 0, .ref h1, .ref h4, .ref h5, .ref h6, .ref h2, .ref h7, .ref h8, .ref h9, .ref h10, .ref h11, .ref h12, .ref h13, .ref h14, .ref h15, .int (-3), .int (-3)])), (h1, .inr (6, [.int 2, .int 0, .int 0, .int 0, .int 0, .ref h16, .ref h17, .ref h18, .ref h19, .ref h20, .int 0])), (h2, .inr (11, [.ref h1, .ref h5, .ref h21, .ref h22, .ref h23, .ref h24, .int 0, .ref h25]))] sz)) 0 0 (va_A [(h0, .inr (14, [.ref h3, .int 0, .ref h1, .ref h4, .ref h5, .ref h6, .ref h2, .ref h7, .ref h8, .ref h9, .ref h10, .ref h11, .ref h12, .ref h13, .ref h14, .ref h15, .int (-3), .int (-3)])), (h1, .inr (6, [.int 2, .int 0, .int 0, .int 0, .int 0, .ref h16, .ref h17, .ref h18, .ref h19, .ref h20, .int 0])), (h2, .inr (11, [.ref h1, .ref h5, .ref h21, .ref h22, .ref h23, .ref h24, .int 0, .ref h25]))] sz) := by
  refine jw_met (fun A => jw_Qi D (fun r => r = 0) (fun w => w = []) A) (cc := cX11_arrange) (maxL := 2) (ret := (some .boolean)) pn_X11_arrange rfl rfl ?_
  intro p e s m below meth c A H locs ls hx hb hml hr hts hown hlocks hin hP hD hA hS hE hl
  have hown : s.vm.findClass RX11 = some m.cls := hown
  have hl : lv_has ls 2 [(0, .ref h0), (1, .int p1)] := hl
  refine lv_iload_n hx hb dX11_arrange_0 rfl (lv_at hl 1 rfl) ?_
  refine lv_aload_n hx hb dX11_arrange_1 rfl (lv_at hl 0 rfl) ?_
  refine va_get (D := D) (ci := 14) (v := .ref h1) (C := RX11) (T := TX11) (N := 18) hx hb hts iw_X11_arrange__X11 hown hE.1 hP 0 rfl rfl 2 (by decide) (hts _ mw_X11_arrange__1) (fun _ h9 => h9) rfl dX11_arrange_2 ?_
  refine va_getN (D := D) (ci := 6) (v := .int 2) (C := RX3) (T := TX3) (N := 11) hx hb hts iw_X11_arrange__X3 hown hE.1 hP 1 rfl rfl 0 (by decide) (nf_X11_133 hE) (fun _ h9 => h9) rfl dX11_arrange_5 ?_
  refine lv_aload_n hx hb dX11_arrange_8 rfl (lv_at hl 0 rfl) ?_
  refine va_get (D := D) (ci := 14) (v := .ref h2) (C := RX11) (T := TX11) (N := 18) hx hb hts iw_X11_arrange__X11 hown hE.1 hP 0 rfl rfl 6 (by decide) (hts _ mw_X11_arrange__2) (fun _ h9 => h9) rfl dX11_arrange_9 ?_
  refine va_getN (D := D) (ci := 11) (v := .ref h22) (C := RX8) (T := TX8) (N := 8) hx hb hts iw_X11_arrange__X8 hown hE.1 hP 2 rfl rfl 3 (by decide) (nf_X11_221 hE) (fun _ h9 => h9) rfl dX11_arrange_12 ?_
  refine jw_mi (wc := []) (cs := 0) (ss := 0) (va_runS (As := [.int p1, .int 2, .ref h22]) (rest := []) ⟨hx, hb, hml, hown, hts⟩ (k580_X11_readTurns h22 p1 g_p1 H.size) (va_cwS 3 hts gX11_arrange_X11_readTurns rfl rfl rfl ydS_X11_readTurns ⟨Nat.le_of_ble_eq_true rfl, Nat.le_of_ble_eq_true rfl⟩) (jw_mpreS hP hD hS hA hE [] rfl) rfl rfl hl.1 rfl (lv_room (Nat.le_of_ble_eq_true rfl)) dX11_arrange_15 ⟨Nat.le_of_ble_eq_true rfl, Nat.le_of_ble_eq_true rfl⟩) hP hD hS hA [] rfl rfl rfl (fun r9 w1 H locs hr9 hw9 hP hD hS => ?_)
  subst hr9
  subst hw9
  have hP : va_P D vwCl [(h0, .inr (14, [.ref h3, .int 0, .ref h1, .ref h4, .ref h5, .ref h6, .ref h2, .ref h7, .ref h8, .ref h9, .ref h10, .ref h11, .ref h12, .ref h13, .ref h14, .ref h15, .int (-3), .int (-3)])), (h1, .inr (6, [.int 2, .int 0, .int 0, .int 0, .int 0, .ref h16, .ref h17, .ref h18, .ref h19, .ref h20, .int 0])), (h2, .inr (11, [.ref h1, .ref h5, .ref h21, .ref h22, .ref h23, .ref h24, .int 0, .ref h25]))] H := hP
  have hD : va_D A [(h0, .inr (14, [.ref h3, .int 0, .ref h1, .ref h4, .ref h5, .ref h6, .ref h2, .ref h7, .ref h8, .ref h9, .ref h10, .ref h11, .ref h12, .ref h13, .ref h14, .ref h15, .int (-3), .int (-3)])), (h1, .inr (6, [.int 2, .int 0, .int 0, .int 0, .int 0, .ref h16, .ref h17, .ref h18, .ref h19, .ref h20, .int 0])), (h2, .inr (11, [.ref h1, .ref h5, .ref h21, .ref h22, .ref h23, .ref h24, .int 0, .ref h25]))] := hD
  refine lv_if_ne (tgt := 23) hx hb dX11_arrange_18 (by decide) (fun c9 => absurd (by decide +kernel) c9) (fun _ => ?_)
  refine lv_iconst (v := 0) hx hb dX11_arrange_21 (by decide +kernel) ?_
  refine W.widen (k := 0) (n := 0) (Nat.le_of_ble_eq_true rfl) (Nat.le_of_ble_eq_true rfl) ?_
  have hP : va_P D vwCl [] H := hP.sub [] rfl
  have hD : va_D A [] := hD.sub [] rfl rfl
  exact jw_zret hx hb hr hlocks rfl rfl rfl hP hD hS dX11_arrange_22
set_option maxHeartbeats 4000000 in
set_option maxRecDepth 100000 in
theorem k582_X12_isOnce {l : Launch} {D : va_G} {Y : Nat → ClassId} {tt : Nat → Nat} (p0 : Int32) (g_p0 : p0.toBitVec.toNat % 16 = 0) (sz : Nat) : Met l yX12_isOnce wsX12_isOnce ({ frames := 0, cells := 0, slots := 0, locals := 0 }) (jw_Pc D Y tt [.int p0, .int 2] [] sz) (jw_Qi D (fun r => r = 0) (fun w => w = []) (va_A [] sz)) 0 0 (va_A [] sz) := by
  refine jw_met (fun A => jw_Qi D (fun r => r = 0) (fun w => w = []) A) (cc := cX12_isOnce) (maxL := 4) (ret := (some .boolean)) pn_X12_isOnce rfl rfl ?_
  intro p e s m below meth c A H locs ls hx hb hml hr hts hown hlocks hin hP hD hA hS hE hl
  have hown : s.vm.findClass RX12 = some m.cls := hown
  have hl : lv_has ls 4 [(0, .int p0), (1, .int 2)] := hl
  refine lv_iconst (v := 0) hx hb dX12_isOnce_0 (by decide +kernel) ?_
  refine lv_istore_n (lv' := [(2, .int 0), (0, .int p0), (1, .int 2)]) hx hb dX12_isOnce_1 rfl hl (by decide) rfl (fun ls hl => ?_)
  refine lv_iconst (v := 0) hx hb dX12_isOnce_2 (by decide +kernel) ?_
  refine lv_istore_n (lv' := [(3, .int 0), (2, .int 0), (0, .int p0), (1, .int 2)]) hx hb dX12_isOnce_3 rfl hl (by decide) rfl (fun ls hl => ?_)
  refine lv_iload_n hx hb dX12_isOnce_4 rfl (lv_at hl 0 rfl) ?_
  refine lv_iload_n hx hb dX12_isOnce_5 rfl (lv_at hl 3 rfl) ?_
  refine lv_icmp_ge (tgt := 27) hx hb dX12_isOnce_6 (by decide) (fun c9 => absurd c9 (by decide +kernel)) (fun _ => ?_)
  refine lv_iload_n hx hb dX12_isOnce_9 rfl (lv_at hl 1 rfl) ?_
  refine lv_iconst (v := 1) hx hb dX12_isOnce_10 (by decide +kernel) ?_
  refine lv_iload_n hx hb dX12_isOnce_11 rfl (lv_at hl 2 rfl) ?_
  refine lv_iconst (v := 2) hx hb dX12_isOnce_12 (by decide +kernel) ?_
  refine lv_iload_n hx hb dX12_isOnce_13 rfl (lv_at hl 0 rfl) ?_
  refine jw_imul (v := 0) hx hb dX12_isOnce_14 (by decide +kernel) ?_
  refine jw_ishr (v := (p0 >>> (0 &&& 31))) hx hb dX12_isOnce_15 rfl ?_
  refine lv_iconst (v := 3) hx hb dX12_isOnce_16 (by decide +kernel) ?_
  refine jw_iand (v := 0) hx hb dX12_isOnce_17 (jw_bs0 g_p0 (by decide +kernel)) ?_
  refine jw_ishl (v := 1) hx hb dX12_isOnce_18 (by decide +kernel) ?_
  refine jw_ior (v := 1) hx hb dX12_isOnce_19 (by decide +kernel) ?_
  refine lv_istore_n (lv' := [(2, .int 1), (3, .int 0), (0, .int p0), (1, .int 2)]) hx hb dX12_isOnce_20 rfl hl (by decide) rfl (fun ls hl => ?_)
  refine lv_iinc (v := 1) (lv' := [(3, .int 1), (2, .int 1), (0, .int p0), (1, .int 2)]) hx hb dX12_isOnce_21 hl (k := 1) rfl (by decide +kernel) (by decide) rfl (fun ls hl => ?_)
  refine lv_goto (tgt := 4) hx hb dX12_isOnce_24 (by decide) ?_
  refine lv_iload_n hx hb dX12_isOnce_4 rfl (lv_at hl 0 rfl) ?_
  refine lv_iload_n hx hb dX12_isOnce_5 rfl (lv_at hl 3 rfl) ?_
  refine lv_icmp_ge (tgt := 27) hx hb dX12_isOnce_6 (by decide) (fun c9 => absurd c9 (by decide +kernel)) (fun _ => ?_)
  refine lv_iload_n hx hb dX12_isOnce_9 rfl (lv_at hl 1 rfl) ?_
  refine lv_iconst (v := 1) hx hb dX12_isOnce_10 (by decide +kernel) ?_
  refine lv_iload_n hx hb dX12_isOnce_11 rfl (lv_at hl 2 rfl) ?_
  refine lv_iconst (v := 2) hx hb dX12_isOnce_12 (by decide +kernel) ?_
  refine lv_iload_n hx hb dX12_isOnce_13 rfl (lv_at hl 0 rfl) ?_
  refine jw_imul (v := 2) hx hb dX12_isOnce_14 (by decide +kernel) ?_
  refine jw_ishr (v := (p0 >>> (2 &&& 31))) hx hb dX12_isOnce_15 rfl ?_
  refine lv_iconst (v := 3) hx hb dX12_isOnce_16 (by decide +kernel) ?_
  refine jw_iand (v := 0) hx hb dX12_isOnce_17 (jw_bs1 g_p0 (by decide +kernel)) ?_
  refine jw_ishl (v := 1) hx hb dX12_isOnce_18 (by decide +kernel) ?_
  refine jw_ior (v := 1) hx hb dX12_isOnce_19 (by decide +kernel) ?_
  refine lv_istore_n (lv' := [(2, .int 1), (3, .int 1), (0, .int p0), (1, .int 2)]) hx hb dX12_isOnce_20 rfl hl (by decide) rfl (fun ls hl => ?_)
  refine lv_iinc (v := 2) (lv' := [(3, .int 2), (2, .int 1), (0, .int p0), (1, .int 2)]) hx hb dX12_isOnce_21 hl (k := 1) rfl (by decide +kernel) (by decide) rfl (fun ls hl => ?_)
  refine lv_goto (tgt := 4) hx hb dX12_isOnce_24 (by decide) ?_
  refine lv_iload_n hx hb dX12_isOnce_4 rfl (lv_at hl 0 rfl) ?_
  refine lv_iload_n hx hb dX12_isOnce_5 rfl (lv_at hl 3 rfl) ?_
  refine lv_icmp_ge (tgt := 27) hx hb dX12_isOnce_6 (by decide) (fun _ => ?_) (fun c9 => absurd (by decide +kernel) c9)
  refine lv_iload_n hx hb dX12_isOnce_27 rfl (lv_at hl 1 rfl) ?_
  refine lv_iconst (v := 1) hx hb dX12_isOnce_28 (by decide +kernel) ?_
  refine lv_iload_n hx hb dX12_isOnce_29 rfl (lv_at hl 3 rfl) ?_
  refine jw_ishl (v := 4) hx hb dX12_isOnce_30 (by decide +kernel) ?_
  refine lv_iconst (v := 1) hx hb dX12_isOnce_31 (by decide +kernel) ?_
  refine jw_isub (v := 3) hx hb dX12_isOnce_32 (by decide +kernel) ?_
  refine lv_icmp_ne (tgt := 40) hx hb dX12_isOnce_33 (by decide) (fun _ => ?_) (fun c9 => absurd c9 (by decide +kernel))
  refine lv_iconst (v := 0) hx hb dX12_isOnce_40 (by decide +kernel) ?_
  refine W.widen (k := 0) (n := 0) (Nat.le_of_ble_eq_true rfl) (Nat.le_of_ble_eq_true rfl) ?_
  exact jw_zret hx hb hr hlocks rfl rfl rfl hP hD hS dX12_isOnce_41
set_option maxHeartbeats 4000000 in
set_option maxRecDepth 100000 in
theorem k583_X12_arrange {l : Launch} {D : va_G} {Y : Nat → ClassId} {tt : Nat → Nat} (h0 h1 h2 h3 h4 h5 h6 h7 h8 h9 h10 h11 h12 h13 h14 h15 h16 h17 h18 h19 h20 h21 h22 h23 h24 h25 h26 h27 h28 h29 h30 h31 h32 h33 h34 h35 : Nat) (p1 : Int32) (g_p1 : p1.toBitVec.toNat % 16 = 0) (sz : Nat) : Met l yX12_arrange wsX12_arrange ({ frames := 1, cells := 0, slots := 0, locals := 23 }) (jw_Pc D Y tt [.ref h0, .int p1] [(h0, .inr (15, [.ref h1, .int 0, .int 0, .ref h2, .int 0, .int (-1), .int 0, .int 0, .int 0, .int 0, .int 0, .int 2, .int 0, .int 0, .int 0, .ref h3, .ref h4, .ref h5, .ref h6, .int 2, .int 0, .int 0, .int 0, .int 0, .ref h7, .ref h8, .ref h9, .ref h10, .int 2, .ref h11, .int 1, .ref h12, .ref h13, .int 1, .ref h14, .ref h15, .ref h16, .int 0, .ref h17, .ref h18, .ref h19, .ref h20, .ref h21, .ref h22, .ref h23, .ref h24, .ref h25, .int 0, .ref h26, .ref h27, .ref h28, .int (-1), .ref h29, .long 0, .long 0, .int 0, .int 0, .long 0, .long 0, .ref h30, .ref h31, .ref h32, .ref h33, .ref h34, .ref h35, .long 0]))] sz) (jw_Qi D (fun r => r = 0) (fun w => w = []) (va_A [(h0, .inr (15, [.ref h1, .int 0, .int 0, .ref h2, .int 0, .int (-1), .int 0, .int 0, .int 0, .int 0, .int 0, .int 2, .int 0, .int 0, .int 0, .ref h3, .ref h4, .ref h5, .ref h6, .int 2, .int 0, .int 0, .int 0, .int 0, .ref h7, .ref h8, .ref h9, .ref h10, .int 2, .ref h11, .int 1, .ref h12, .ref h13, .int 1, .ref h14, .ref h15, .ref h16, .int 0, .ref h17, .ref h18, .ref h19, .ref h20, .ref h21, .ref h22, .ref h23, .ref h24, .ref h25, .int 0, .ref h26, .ref h27, .ref h28, .int (-1), .ref h29, .long 0, .long 0, .int 0, .int 0, .long 0, .long 0, .ref h30, .ref h31, .ref h32, .ref h33, .ref h34, .ref h35, .long 0]))] sz)) 0 0 (va_A [(h0, .inr (15, [.ref h1, .int 0, .int 0, .ref h2, .int 0, .int (-1), .int 0, .int 0, .int 0, .int 0, .int 0, .int 2, .int 0, .int 0, .int 0, .ref h3, .ref h4, .ref h5, .ref h6, .int 2, .int 0, .int 0, .int 0, .int 0, .ref h7, .ref h8, .ref h9, .ref h10, .int 2, .ref h11, .int 1, .ref h12, .ref h13, .int 1, .ref h14, .ref h15, .ref h16, .int 0, .ref h17, .ref h18, .ref h19, .ref h20, .ref h21, .ref h22, .ref h23, .ref h24, .ref h25, .int 0, .ref h26, .ref h27, .ref h28, .int (-1), .ref h29, .long 0, .long 0, .int 0, .int 0, .long 0, .long 0, .ref h30, .ref h31, .ref h32, .ref h33, .ref h34, .ref h35, .long 0]))] sz) := by
  refine jw_met (fun A => jw_Qi D (fun r => r = 0) (fun w => w = []) A) (cc := cX12_arrange) (maxL := 3) (ret := (some .boolean)) pn_X12_arrange rfl rfl ?_
  intro p e s m below meth c A H locs ls hx hb hml hr hts hown hlocks hin hP hD hA hS hE hl
  have hown : s.vm.findClass RX12 = some m.cls := hown
  have hl : lv_has ls 3 [(0, .ref h0), (1, .int p1)] := hl
  refine lv_aload_n hx hb dX12_arrange_0 rfl (lv_at hl 0 rfl) ?_
  refine lv_iconst (v := 0) hx hb dX12_arrange_1 (by decide +kernel) ?_
  refine va_put (D := D) (ci := 15) (v := .int 0) (C := RX12) (T := TX12) (N := 66) hx hb hts iw_X12_arrange__X12 tyX12 tyX12_ok nmX12 hown hE.1 hP hD hS 0 rfl rfl 2 (by decide) (hts _ mw_X12_arrange__1) (fun _ h9 => h9) rfl (tyX12_ok 2 (by decide)) rfl rfl (Nat.le_of_ble_eq_true rfl) dX12_arrange_2 (fun H locs hP hD hS => ?_)
  have hP : va_P D vwCl [(h0, .inr (15, [.ref h1, .int 0, .int 0, .ref h2, .int 0, .int (-1), .int 0, .int 0, .int 0, .int 0, .int 0, .int 2, .int 0, .int 0, .int 0, .ref h3, .ref h4, .ref h5, .ref h6, .int 2, .int 0, .int 0, .int 0, .int 0, .ref h7, .ref h8, .ref h9, .ref h10, .int 2, .ref h11, .int 1, .ref h12, .ref h13, .int 1, .ref h14, .ref h15, .ref h16, .int 0, .ref h17, .ref h18, .ref h19, .ref h20, .ref h21, .ref h22, .ref h23, .ref h24, .ref h25, .int 0, .ref h26, .ref h27, .ref h28, .int (-1), .ref h29, .long 0, .long 0, .int 0, .int 0, .long 0, .long 0, .ref h30, .ref h31, .ref h32, .ref h33, .ref h34, .ref h35, .long 0]))] H := hP
  have hD : va_D A [(h0, .inr (15, [.ref h1, .int 0, .int 0, .ref h2, .int 0, .int (-1), .int 0, .int 0, .int 0, .int 0, .int 0, .int 2, .int 0, .int 0, .int 0, .ref h3, .ref h4, .ref h5, .ref h6, .int 2, .int 0, .int 0, .int 0, .int 0, .ref h7, .ref h8, .ref h9, .ref h10, .int 2, .ref h11, .int 1, .ref h12, .ref h13, .int 1, .ref h14, .ref h15, .ref h16, .int 0, .ref h17, .ref h18, .ref h19, .ref h20, .ref h21, .ref h22, .ref h23, .ref h24, .ref h25, .int 0, .ref h26, .ref h27, .ref h28, .int (-1), .ref h29, .long 0, .long 0, .int 0, .int 0, .long 0, .long 0, .ref h30, .ref h31, .ref h32, .ref h33, .ref h34, .ref h35, .long 0]))] := hD
  refine lv_iload_n hx hb dX12_arrange_5 rfl (lv_at hl 1 rfl) ?_
  refine lv_aload_n hx hb dX12_arrange_6 rfl (lv_at hl 0 rfl) ?_
  refine va_get (D := D) (ci := 15) (v := .int 2) (C := RX12) (T := TX12) (N := 66) hx hb hts iw_X12_arrange__X12 hown hE.1 hP 0 rfl rfl 11 (by decide) (hts _ mw_X12_arrange__2) (fun _ h9 => h9) rfl dX12_arrange_7 ?_
  refine jw_mi (wc := []) (cs := 0) (ss := 0) (va_runS (As := [.int p1, .int 2]) (rest := []) ⟨hx, hb, hml, hown, hts⟩ (k582_X12_isOnce p1 g_p1 H.size) (va_cwS 2 hts gX12_arrange_X12_isOnce rfl rfl rfl ydS_X12_isOnce ⟨Nat.le_of_ble_eq_true rfl, Nat.le_of_ble_eq_true rfl⟩) (jw_mpreS hP hD hS hA hE [] rfl) rfl rfl hl.1 rfl (lv_room (Nat.le_of_ble_eq_true rfl)) dX12_arrange_10 ⟨Nat.le_of_ble_eq_true rfl, Nat.le_of_ble_eq_true rfl⟩) hP hD hS hA [] rfl rfl rfl (fun r9 w1 H locs hr9 hw9 hP hD hS => ?_)
  subst hr9
  subst hw9
  have hP : va_P D vwCl [(h0, .inr (15, [.ref h1, .int 0, .int 0, .ref h2, .int 0, .int (-1), .int 0, .int 0, .int 0, .int 0, .int 0, .int 2, .int 0, .int 0, .int 0, .ref h3, .ref h4, .ref h5, .ref h6, .int 2, .int 0, .int 0, .int 0, .int 0, .ref h7, .ref h8, .ref h9, .ref h10, .int 2, .ref h11, .int 1, .ref h12, .ref h13, .int 1, .ref h14, .ref h15, .ref h16, .int 0, .ref h17, .ref h18, .ref h19, .ref h20, .ref h21, .ref h22, .ref h23, .ref h24, .ref h25, .int 0, .ref h26, .ref h27, .ref h28, .int (-1), .ref h29, .long 0, .long 0, .int 0, .int 0, .long 0, .long 0, .ref h30, .ref h31, .ref h32, .ref h33, .ref h34, .ref h35, .long 0]))] H := hP
  have hD : va_D A [(h0, .inr (15, [.ref h1, .int 0, .int 0, .ref h2, .int 0, .int (-1), .int 0, .int 0, .int 0, .int 0, .int 0, .int 2, .int 0, .int 0, .int 0, .ref h3, .ref h4, .ref h5, .ref h6, .int 2, .int 0, .int 0, .int 0, .int 0, .ref h7, .ref h8, .ref h9, .ref h10, .int 2, .ref h11, .int 1, .ref h12, .ref h13, .int 1, .ref h14, .ref h15, .ref h16, .int 0, .ref h17, .ref h18, .ref h19, .ref h20, .ref h21, .ref h22, .ref h23, .ref h24, .ref h25, .int 0, .ref h26, .ref h27, .ref h28, .int (-1), .ref h29, .long 0, .long 0, .int 0, .int 0, .long 0, .long 0, .ref h30, .ref h31, .ref h32, .ref h33, .ref h34, .ref h35, .long 0]))] := hD
  refine lv_if_ne (tgt := 18) hx hb dX12_arrange_13 (by decide) (fun c9 => absurd (by decide +kernel) c9) (fun _ => ?_)
  refine lv_iconst (v := 0) hx hb dX12_arrange_16 (by decide +kernel) ?_
  refine W.widen (k := 0) (n := 0) (Nat.le_of_ble_eq_true rfl) (Nat.le_of_ble_eq_true rfl) ?_
  have hP : va_P D vwCl [] H := hP.sub [] rfl
  have hD : va_D A [] := hD.sub [] rfl rfl
  exact jw_zret hx hb hr hlocks rfl rfl rfl hP hD hS dX12_arrange_17
set_option maxHeartbeats 4000000 in
set_option maxRecDepth 100000 in
theorem k584_X11_readTurns {l : Launch} {D : va_G} {Y : Nat → ClassId} {tt : Nat → Nat} (h0 : Nat) (p0 : Int32) (g_p0 : p0.toBitVec.toNat % 16 = 1) (sz : Nat) : Met l yX11_readTurns wsX11_readTurns ({ frames := 0, cells := 0, slots := 0, locals := 0 }) (jw_Pc D Y tt [.int p0, .int 2, .ref h0] [(h0, .inl (Y 1, 4, .inl (jw_l 0 [0, 1, 2, 3])))] sz) (jw_Qi D (fun r => r = 1) (fun w => w = [(h0, .inl (Y 1, 4, .inl (jw_l 0 [1, 0, 2, 3])))]) (va_A [(h0, .inl (Y 1, 4, .inl (jw_l 0 [0, 1, 2, 3])))] sz)) 0 0 (va_A [(h0, .inl (Y 1, 4, .inl (jw_l 0 [0, 1, 2, 3])))] sz) := by
  refine jw_met (fun A => jw_Qi D (fun r => r = 1) (fun w => w = [(h0, .inl (Y 1, 4, .inl (jw_l 0 [1, 0, 2, 3])))]) A) (cc := cX11_readTurns) (maxL := 5) (ret := (some .boolean)) pn_X11_readTurns rfl rfl ?_
  intro p e s m below meth c A H locs ls hx hb hml hr hts hown hlocks hin hP hD hA hS hE hl
  have hown : s.vm.findClass RX11 = some m.cls := hown
  have hl : lv_has ls 5 [(0, .int p0), (1, .int 2), (2, .ref h0)] := hl
  refine lv_iconst (v := 0) hx hb dX11_readTurns_0 (by decide +kernel) ?_
  refine lv_istore_n (lv' := [(3, .int 0), (0, .int p0), (1, .int 2), (2, .ref h0)]) hx hb dX11_readTurns_1 rfl hl (by decide) rfl (fun ls hl => ?_)
  refine lv_iconst (v := 0) hx hb dX11_readTurns_2 (by decide +kernel) ?_
  refine lv_istore (lv' := [(4, .int 0), (3, .int 0), (0, .int p0), (1, .int 2), (2, .ref h0)]) hx hb dX11_readTurns_3 hl (by decide) rfl (fun ls hl => ?_)
  refine lv_iload hx hb dX11_readTurns_5 (lv_at hl 0 rfl) ?_
  refine lv_iload_n hx hb dX11_readTurns_7 rfl (lv_at hl 3 rfl) ?_
  refine lv_icmp_ge (tgt := 30) hx hb dX11_readTurns_8 (by decide) (fun c9 => absurd c9 (by decide +kernel)) (fun _ => ?_)
  refine lv_iload_n hx hb dX11_readTurns_11 rfl (lv_at hl 1 rfl) ?_
  refine lv_iconst (v := 1) hx hb dX11_readTurns_12 (by decide +kernel) ?_
  refine lv_iload_n hx hb dX11_readTurns_13 rfl (lv_at hl 2 rfl) ?_
  refine lv_iconst (v := 2) hx hb dX11_readTurns_14 (by decide +kernel) ?_
  refine lv_iload hx hb dX11_readTurns_15 (lv_at hl 0 rfl) ?_
  refine jw_imul (v := 0) hx hb dX11_readTurns_17 (by decide +kernel) ?_
  refine lv_iushr (v := (p0.toUInt32 >>> ((0 : Int32).toUInt32 &&& Int32.toUInt32 31)).toInt32) hx hb dX11_readTurns_18 rfl ?_
  refine lv_iconst (v := 3) hx hb dX11_readTurns_19 (by decide +kernel) ?_
  refine jw_iand (v := 1) hx hb dX11_readTurns_20 (jw_bu0 g_p0 (by decide +kernel)) ?_
  refine jw_ishl (v := 2) hx hb dX11_readTurns_21 (by decide +kernel) ?_
  refine jw_ior (v := 2) hx hb dX11_readTurns_22 (by decide +kernel) ?_
  refine lv_istore_n (lv' := [(3, .int 2), (4, .int 0), (0, .int p0), (1, .int 2), (2, .ref h0)]) hx hb dX11_readTurns_23 rfl hl (by decide) rfl (fun ls hl => ?_)
  refine lv_iinc (v := 1) (lv' := [(4, .int 1), (3, .int 2), (0, .int p0), (1, .int 2), (2, .ref h0)]) hx hb dX11_readTurns_24 hl (k := 1) rfl (by decide +kernel) (by decide) rfl (fun ls hl => ?_)
  refine lv_goto (tgt := 5) hx hb dX11_readTurns_27 (by decide) ?_
  refine lv_iload hx hb dX11_readTurns_5 (lv_at hl 0 rfl) ?_
  refine lv_iload_n hx hb dX11_readTurns_7 rfl (lv_at hl 3 rfl) ?_
  refine lv_icmp_ge (tgt := 30) hx hb dX11_readTurns_8 (by decide) (fun c9 => absurd c9 (by decide +kernel)) (fun _ => ?_)
  refine lv_iload_n hx hb dX11_readTurns_11 rfl (lv_at hl 1 rfl) ?_
  refine lv_iconst (v := 1) hx hb dX11_readTurns_12 (by decide +kernel) ?_
  refine lv_iload_n hx hb dX11_readTurns_13 rfl (lv_at hl 2 rfl) ?_
  refine lv_iconst (v := 2) hx hb dX11_readTurns_14 (by decide +kernel) ?_
  refine lv_iload hx hb dX11_readTurns_15 (lv_at hl 0 rfl) ?_
  refine jw_imul (v := 2) hx hb dX11_readTurns_17 (by decide +kernel) ?_
  refine lv_iushr (v := (p0.toUInt32 >>> ((2 : Int32).toUInt32 &&& Int32.toUInt32 31)).toInt32) hx hb dX11_readTurns_18 rfl ?_
  refine lv_iconst (v := 3) hx hb dX11_readTurns_19 (by decide +kernel) ?_
  refine jw_iand (v := 0) hx hb dX11_readTurns_20 (jw_bu1 g_p0 (by decide +kernel)) ?_
  refine jw_ishl (v := 1) hx hb dX11_readTurns_21 (by decide +kernel) ?_
  refine jw_ior (v := 3) hx hb dX11_readTurns_22 (by decide +kernel) ?_
  refine lv_istore_n (lv' := [(3, .int 3), (4, .int 1), (0, .int p0), (1, .int 2), (2, .ref h0)]) hx hb dX11_readTurns_23 rfl hl (by decide) rfl (fun ls hl => ?_)
  refine lv_iinc (v := 2) (lv' := [(4, .int 2), (3, .int 3), (0, .int p0), (1, .int 2), (2, .ref h0)]) hx hb dX11_readTurns_24 hl (k := 1) rfl (by decide +kernel) (by decide) rfl (fun ls hl => ?_)
  refine lv_goto (tgt := 5) hx hb dX11_readTurns_27 (by decide) ?_
  refine lv_iload hx hb dX11_readTurns_5 (lv_at hl 0 rfl) ?_
  refine lv_iload_n hx hb dX11_readTurns_7 rfl (lv_at hl 3 rfl) ?_
  refine lv_icmp_ge (tgt := 30) hx hb dX11_readTurns_8 (by decide) (fun _ => ?_) (fun c9 => absurd (by decide +kernel) c9)
  refine lv_iload_n hx hb dX11_readTurns_30 rfl (lv_at hl 1 rfl) ?_
  refine lv_iconst (v := 1) hx hb dX11_readTurns_31 (by decide +kernel) ?_
  refine lv_iload_n hx hb dX11_readTurns_32 rfl (lv_at hl 3 rfl) ?_
  refine jw_ishl (v := 4) hx hb dX11_readTurns_33 (by decide +kernel) ?_
  refine lv_iconst (v := 1) hx hb dX11_readTurns_34 (by decide +kernel) ?_
  refine jw_isub (v := 3) hx hb dX11_readTurns_35 (by decide +kernel) ?_
  refine lv_icmp_eq (tgt := 41) hx hb dX11_readTurns_36 (by decide) (fun _ => ?_) (fun c9 => absurd (by decide +kernel) c9)
  refine lv_iconst (v := 0) hx hb dX11_readTurns_41 (by decide +kernel) ?_
  refine lv_istore (lv' := [(4, .int 0), (3, .int 3), (0, .int p0), (1, .int 2), (2, .ref h0)]) hx hb dX11_readTurns_42 hl (by decide) rfl (fun ls hl => ?_)
  refine lv_iload hx hb dX11_readTurns_44 (lv_at hl 0 rfl) ?_
  refine lv_iload_n hx hb dX11_readTurns_46 rfl (lv_at hl 3 rfl) ?_
  refine lv_icmp_ge (tgt := 75) hx hb dX11_readTurns_47 (by decide) (fun c9 => absurd c9 (by decide +kernel)) (fun _ => ?_)
  refine lv_iload hx hb dX11_readTurns_50 (lv_at hl 0 rfl) ?_
  refine lv_aload_n hx hb dX11_readTurns_52 rfl (lv_at hl 4 rfl) ?_
  refine jw_alen (v := 4) hx hb hE hP 0 1 rfl rfl (by decide +kernel) dX11_readTurns_53 ?_
  refine lv_icmp_ge (tgt := 75) hx hb dX11_readTurns_54 (by decide) (fun c9 => absurd c9 (by decide +kernel)) (fun _ => ?_)
  refine lv_aload_n hx hb dX11_readTurns_57 rfl (lv_at hl 4 rfl) ?_
  refine lv_iload hx hb dX11_readTurns_58 (lv_at hl 0 rfl) ?_
  refine lv_iload_n hx hb dX11_readTurns_60 rfl (lv_at hl 2 rfl) ?_
  refine lv_iconst (v := 2) hx hb dX11_readTurns_61 (by decide +kernel) ?_
  refine lv_iload hx hb dX11_readTurns_62 (lv_at hl 0 rfl) ?_
  refine jw_imul (v := 0) hx hb dX11_readTurns_64 (by decide +kernel) ?_
  refine lv_iushr (v := (p0.toUInt32 >>> ((0 : Int32).toUInt32 &&& Int32.toUInt32 31)).toInt32) hx hb dX11_readTurns_65 rfl ?_
  refine lv_iconst (v := 3) hx hb dX11_readTurns_66 (by decide +kernel) ?_
  refine jw_iand (v := 1) hx hb dX11_readTurns_67 (jw_bu0 g_p0 (by decide +kernel)) ?_
  refine jw_iast (ws' := [(h0, .inl (Y 1, 4, .inl (jw_l 0 [1, 1, 2, 3])))]) hx hb hE hP hD hS 0 0 [1, 1, 2, 3] rfl (by decide +kernel) (by decide +kernel) rfl dX11_readTurns_68 (fun H locs hP hD hS => ?_)
  refine lv_iinc (v := 1) (lv' := [(4, .int 1), (3, .int 3), (0, .int p0), (1, .int 2), (2, .ref h0)]) hx hb dX11_readTurns_69 hl (k := 0) rfl (by decide +kernel) (by decide) rfl (fun ls hl => ?_)
  refine lv_goto (tgt := 44) hx hb dX11_readTurns_72 (by decide) ?_
  refine lv_iload hx hb dX11_readTurns_44 (lv_at hl 0 rfl) ?_
  refine lv_iload_n hx hb dX11_readTurns_46 rfl (lv_at hl 3 rfl) ?_
  refine lv_icmp_ge (tgt := 75) hx hb dX11_readTurns_47 (by decide) (fun c9 => absurd c9 (by decide +kernel)) (fun _ => ?_)
  refine lv_iload hx hb dX11_readTurns_50 (lv_at hl 0 rfl) ?_
  refine lv_aload_n hx hb dX11_readTurns_52 rfl (lv_at hl 4 rfl) ?_
  refine jw_alen (v := 4) hx hb hE hP 0 1 rfl rfl (by decide +kernel) dX11_readTurns_53 ?_
  refine lv_icmp_ge (tgt := 75) hx hb dX11_readTurns_54 (by decide) (fun c9 => absurd c9 (by decide +kernel)) (fun _ => ?_)
  refine lv_aload_n hx hb dX11_readTurns_57 rfl (lv_at hl 4 rfl) ?_
  refine lv_iload hx hb dX11_readTurns_58 (lv_at hl 0 rfl) ?_
  refine lv_iload_n hx hb dX11_readTurns_60 rfl (lv_at hl 2 rfl) ?_
  refine lv_iconst (v := 2) hx hb dX11_readTurns_61 (by decide +kernel) ?_
  refine lv_iload hx hb dX11_readTurns_62 (lv_at hl 0 rfl) ?_
  refine jw_imul (v := 2) hx hb dX11_readTurns_64 (by decide +kernel) ?_
  refine lv_iushr (v := (p0.toUInt32 >>> ((2 : Int32).toUInt32 &&& Int32.toUInt32 31)).toInt32) hx hb dX11_readTurns_65 rfl ?_
  refine lv_iconst (v := 3) hx hb dX11_readTurns_66 (by decide +kernel) ?_
  refine jw_iand (v := 0) hx hb dX11_readTurns_67 (jw_bu1 g_p0 (by decide +kernel)) ?_
  refine jw_iast (ws' := [(h0, .inl (Y 1, 4, .inl (jw_l 0 [1, 0, 2, 3])))]) hx hb hE hP hD hS 0 1 [1, 0, 2, 3] rfl (by decide +kernel) (by decide +kernel) rfl dX11_readTurns_68 (fun H locs hP hD hS => ?_)
  refine lv_iinc (v := 2) (lv' := [(4, .int 2), (3, .int 3), (0, .int p0), (1, .int 2), (2, .ref h0)]) hx hb dX11_readTurns_69 hl (k := 0) rfl (by decide +kernel) (by decide) rfl (fun ls hl => ?_)
  refine lv_goto (tgt := 44) hx hb dX11_readTurns_72 (by decide) ?_
  refine lv_iload hx hb dX11_readTurns_44 (lv_at hl 0 rfl) ?_
  refine lv_iload_n hx hb dX11_readTurns_46 rfl (lv_at hl 3 rfl) ?_
  refine lv_icmp_ge (tgt := 75) hx hb dX11_readTurns_47 (by decide) (fun _ => ?_) (fun c9 => absurd (by decide +kernel) c9)
  refine lv_iconst (v := 1) hx hb dX11_readTurns_75 (by decide +kernel) ?_
  refine W.widen (k := 0) (n := 0) (Nat.le_of_ble_eq_true rfl) (Nat.le_of_ble_eq_true rfl) ?_
  exact jw_zret hx hb hr hlocks rfl rfl rfl hP hD hS dX11_readTurns_76
set_option maxHeartbeats 4000000 in
set_option maxRecDepth 100000 in
theorem k585_X11_arrange {l : Launch} {D : va_G} {Y : Nat → ClassId} {tt : Nat → Nat} (h0 h1 h2 h3 h4 h5 h6 h7 h8 h9 h10 h11 h12 h13 h14 h15 h16 h17 h18 h19 h20 h21 h22 h23 h24 h25 h26 h27 h28 h29 h30 h31 h32 h33 h34 h35 h36 h37 h38 h39 h40 h41 : Nat) (p1 : Int32) (g_p1 : p1.toBitVec.toNat % 16 = 1) (sz : Nat) : Met l yX11_arrange wsX11_arrange ({ frames := 2, cells := 0, slots := 0, locals := 43 }) (jw_Pc D Y tt [.ref h0, .int p1] [(h0, .inr (14, [.ref h12, .int 0, .ref h1, .ref h13, .ref h14, .ref h15, .ref h2, .ref h16, .ref h17, .ref h18, .ref h19, .ref h5, .ref h6, .ref h20, .ref h21, .ref h22, .int (-3), .int (-3)])), (h1, .inr (6, [.int 2, .int 0, .int 0, .int 0, .int 0, .ref h23, .ref h24, .ref h25, .ref h26, .ref h27, .int 0])), (h2, .inr (11, [.ref h1, .ref h14, .ref h28, .ref h3, .ref h4, .ref h29, .int 0, .ref h30])), (h3, .inl (Y 1, 4, .inl (jw_l 0 [0, 1, 2, 3]))), (h4, .inl (Y 1, 12, .inl (jw_l (-1) []))), (h5, .inl (Y 4, 3, .inr (.inr (.inr (.inr (jw_R [some h7, some h31, some h10])))))), (h6, .inl (Y 4, 3, .inr (.inr (.inr (.inr (jw_R [some h8, some h9, some h11])))))), (h7, .inr (4, [.ref h32, .ref h33, .long 0, .int 0])), (h8, .inr (4, [.ref h34, .ref h35, .long 0, .int 0])), (h9, .inr (4, [.ref h36, .ref h37, .long 0, .int 0])), (h10, .inr (4, [.ref h38, .ref h39, .long 0, .int 0])), (h11, .inr (4, [.ref h40, .ref h41, .long 0, .int 0]))] sz) (jw_Qi D (fun r => r = 1) (fun w => w = []) (va_A [(h0, .inr (14, [.ref h12, .int 0, .ref h1, .ref h13, .ref h14, .ref h15, .ref h2, .ref h16, .ref h17, .ref h18, .ref h19, .ref h5, .ref h6, .ref h20, .ref h21, .ref h22, .int (-3), .int (-3)])), (h1, .inr (6, [.int 2, .int 0, .int 0, .int 0, .int 0, .ref h23, .ref h24, .ref h25, .ref h26, .ref h27, .int 0])), (h2, .inr (11, [.ref h1, .ref h14, .ref h28, .ref h3, .ref h4, .ref h29, .int 0, .ref h30])), (h3, .inl (Y 1, 4, .inl (jw_l 0 [0, 1, 2, 3]))), (h4, .inl (Y 1, 12, .inl (jw_l (-1) []))), (h5, .inl (Y 4, 3, .inr (.inr (.inr (.inr (jw_R [some h7, some h31, some h10])))))), (h6, .inl (Y 4, 3, .inr (.inr (.inr (.inr (jw_R [some h8, some h9, some h11])))))), (h7, .inr (4, [.ref h32, .ref h33, .long 0, .int 0])), (h8, .inr (4, [.ref h34, .ref h35, .long 0, .int 0])), (h9, .inr (4, [.ref h36, .ref h37, .long 0, .int 0])), (h10, .inr (4, [.ref h38, .ref h39, .long 0, .int 0])), (h11, .inr (4, [.ref h40, .ref h41, .long 0, .int 0]))] sz)) 0 0 (va_A [(h0, .inr (14, [.ref h12, .int 0, .ref h1, .ref h13, .ref h14, .ref h15, .ref h2, .ref h16, .ref h17, .ref h18, .ref h19, .ref h5, .ref h6, .ref h20, .ref h21, .ref h22, .int (-3), .int (-3)])), (h1, .inr (6, [.int 2, .int 0, .int 0, .int 0, .int 0, .ref h23, .ref h24, .ref h25, .ref h26, .ref h27, .int 0])), (h2, .inr (11, [.ref h1, .ref h14, .ref h28, .ref h3, .ref h4, .ref h29, .int 0, .ref h30])), (h3, .inl (Y 1, 4, .inl (jw_l 0 [0, 1, 2, 3]))), (h4, .inl (Y 1, 12, .inl (jw_l (-1) []))), (h5, .inl (Y 4, 3, .inr (.inr (.inr (.inr (jw_R [some h7, some h31, some h10])))))), (h6, .inl (Y 4, 3, .inr (.inr (.inr (.inr (jw_R [some h8, some h9, some h11])))))), (h7, .inr (4, [.ref h32, .ref h33, .long 0, .int 0])), (h8, .inr (4, [.ref h34, .ref h35, .long 0, .int 0])), (h9, .inr (4, [.ref h36, .ref h37, .long 0, .int 0])), (h10, .inr (4, [.ref h38, .ref h39, .long 0, .int 0])), (h11, .inr (4, [.ref h40, .ref h41, .long 0, .int 0]))] sz) := by
  refine jw_met (fun A => jw_Qi D (fun r => r = 1) (fun w => w = []) A) (cc := cX11_arrange) (maxL := 2) (ret := (some .boolean)) pn_X11_arrange rfl rfl ?_
  intro p e s m below meth c A H locs ls hx hb hml hr hts hown hlocks hin hP hD hA hS hE hl
  have hown : s.vm.findClass RX11 = some m.cls := hown
  have hl : lv_has ls 2 [(0, .ref h0), (1, .int p1)] := hl
  refine lv_iload_n hx hb dX11_arrange_0 rfl (lv_at hl 1 rfl) ?_
  refine lv_aload_n hx hb dX11_arrange_1 rfl (lv_at hl 0 rfl) ?_
  refine va_get (D := D) (ci := 14) (v := .ref h1) (C := RX11) (T := TX11) (N := 18) hx hb hts iw_X11_arrange__X11 hown hE.1 hP 0 rfl rfl 2 (by decide) (hts _ mw_X11_arrange__1) (fun _ h9 => h9) rfl dX11_arrange_2 ?_
  refine va_getN (D := D) (ci := 6) (v := .int 2) (C := RX3) (T := TX3) (N := 11) hx hb hts iw_X11_arrange__X3 hown hE.1 hP 1 rfl rfl 0 (by decide) (nf_X11_133 hE) (fun _ h9 => h9) rfl dX11_arrange_5 ?_
  refine lv_aload_n hx hb dX11_arrange_8 rfl (lv_at hl 0 rfl) ?_
  refine va_get (D := D) (ci := 14) (v := .ref h2) (C := RX11) (T := TX11) (N := 18) hx hb hts iw_X11_arrange__X11 hown hE.1 hP 0 rfl rfl 6 (by decide) (hts _ mw_X11_arrange__2) (fun _ h9 => h9) rfl dX11_arrange_9 ?_
  refine va_getN (D := D) (ci := 11) (v := .ref h3) (C := RX8) (T := TX8) (N := 8) hx hb hts iw_X11_arrange__X8 hown hE.1 hP 2 rfl rfl 3 (by decide) (nf_X11_221 hE) (fun _ h9 => h9) rfl dX11_arrange_12 ?_
  refine jw_mi (wc := [(h3, .inl (Y 1, 4, .inl (jw_l 0 [0, 1, 2, 3])))]) (cs := 0) (ss := 0) (va_runS (As := [.int p1, .int 2, .ref h3]) (rest := []) ⟨hx, hb, hml, hown, hts⟩ (k584_X11_readTurns h3 p1 g_p1 H.size) (va_cwS 3 hts gX11_arrange_X11_readTurns rfl rfl rfl ydS_X11_readTurns ⟨Nat.le_of_ble_eq_true rfl, Nat.le_of_ble_eq_true rfl⟩) (jw_mpreS hP hD hS hA hE [false, false, false, true] rfl) rfl rfl hl.1 rfl (lv_room (Nat.le_of_ble_eq_true rfl)) dX11_arrange_15 ⟨Nat.le_of_ble_eq_true rfl, Nat.le_of_ble_eq_true rfl⟩) hP hD hS hA [false, false, false, true] rfl rfl rfl (fun r9 w1 H locs hr9 hw9 hP hD hS => ?_)
  subst hr9
  subst hw9
  have hP : va_P D vwCl [(h0, .inr (14, [.ref h12, .int 0, .ref h1, .ref h13, .ref h14, .ref h15, .ref h2, .ref h16, .ref h17, .ref h18, .ref h19, .ref h5, .ref h6, .ref h20, .ref h21, .ref h22, .int (-3), .int (-3)])), (h1, .inr (6, [.int 2, .int 0, .int 0, .int 0, .int 0, .ref h23, .ref h24, .ref h25, .ref h26, .ref h27, .int 0])), (h2, .inr (11, [.ref h1, .ref h14, .ref h28, .ref h3, .ref h4, .ref h29, .int 0, .ref h30])), (h3, .inl (Y 1, 4, .inl (jw_l 0 [1, 0, 2, 3]))), (h4, .inl (Y 1, 12, .inl (jw_l (-1) []))), (h5, .inl (Y 4, 3, .inr (.inr (.inr (.inr (jw_R [some h7, some h31, some h10])))))), (h6, .inl (Y 4, 3, .inr (.inr (.inr (.inr (jw_R [some h8, some h9, some h11])))))), (h7, .inr (4, [.ref h32, .ref h33, .long 0, .int 0])), (h8, .inr (4, [.ref h34, .ref h35, .long 0, .int 0])), (h9, .inr (4, [.ref h36, .ref h37, .long 0, .int 0])), (h10, .inr (4, [.ref h38, .ref h39, .long 0, .int 0])), (h11, .inr (4, [.ref h40, .ref h41, .long 0, .int 0]))] H := hP
  have hD : va_D A [(h0, .inr (14, [.ref h12, .int 0, .ref h1, .ref h13, .ref h14, .ref h15, .ref h2, .ref h16, .ref h17, .ref h18, .ref h19, .ref h5, .ref h6, .ref h20, .ref h21, .ref h22, .int (-3), .int (-3)])), (h1, .inr (6, [.int 2, .int 0, .int 0, .int 0, .int 0, .ref h23, .ref h24, .ref h25, .ref h26, .ref h27, .int 0])), (h2, .inr (11, [.ref h1, .ref h14, .ref h28, .ref h3, .ref h4, .ref h29, .int 0, .ref h30])), (h3, .inl (Y 1, 4, .inl (jw_l 0 [1, 0, 2, 3]))), (h4, .inl (Y 1, 12, .inl (jw_l (-1) []))), (h5, .inl (Y 4, 3, .inr (.inr (.inr (.inr (jw_R [some h7, some h31, some h10])))))), (h6, .inl (Y 4, 3, .inr (.inr (.inr (.inr (jw_R [some h8, some h9, some h11])))))), (h7, .inr (4, [.ref h32, .ref h33, .long 0, .int 0])), (h8, .inr (4, [.ref h34, .ref h35, .long 0, .int 0])), (h9, .inr (4, [.ref h36, .ref h37, .long 0, .int 0])), (h10, .inr (4, [.ref h38, .ref h39, .long 0, .int 0])), (h11, .inr (4, [.ref h40, .ref h41, .long 0, .int 0]))] := hD
  refine lv_if_ne (tgt := 23) hx hb dX11_arrange_18 (by decide) (fun _ => ?_) (fun c9 => absurd c9 (by decide +kernel))
  refine lv_aload_n hx hb dX11_arrange_23 rfl (lv_at hl 0 rfl) ?_
  refine va_get (D := D) (ci := 14) (v := .ref h2) (C := RX11) (T := TX11) (N := 18) hx hb hts iw_X11_arrange__X11 hown hE.1 hP 0 rfl rfl 6 (by decide) (hts _ mw_X11_arrange__2) (fun _ h9 => h9) rfl dX11_arrange_24 ?_
  refine jw_mv (wc := [(h2, .inr (11, [.ref h1, .ref h14, .ref h28, .ref h3, .ref h4, .ref h29, .int 0, .ref h30])), (h4, .inl (Y 1, 12, .inl (jw_l (-1) [])))]) (cs := 0) (ss := 0) (va_runV (As := []) (rest := []) ⟨hx, hb, hml, hown, hts⟩ (k76_X8_empty h2 h4 h1 h14 h28 h3 h29 h30 H.size) (cwV 0 hts gX11_arrange_X8_empty rfl rfl rfl ydV_X8_empty ⟨Nat.le_of_ble_eq_true rfl, Nat.le_of_ble_eq_true rfl⟩) (jw_mpreV (ci := 11) (q0 := 2) hP hD hS hA hE [false, false, true, false, true] rfl rfl rfl) rfl rfl hl.1 rfl (lv_room (Nat.le_of_ble_eq_true rfl)) dX11_arrange_27 ⟨Nat.le_of_ble_eq_true rfl, Nat.le_of_ble_eq_true rfl⟩) hP hD hS hA [false, false, true, false, true] rfl rfl rfl (fun w1 H locs hw9 hP hD hS => ?_)
  subst hw9
  have hP : va_P D vwCl [(h0, .inr (14, [.ref h12, .int 0, .ref h1, .ref h13, .ref h14, .ref h15, .ref h2, .ref h16, .ref h17, .ref h18, .ref h19, .ref h5, .ref h6, .ref h20, .ref h21, .ref h22, .int (-3), .int (-3)])), (h1, .inr (6, [.int 2, .int 0, .int 0, .int 0, .int 0, .ref h23, .ref h24, .ref h25, .ref h26, .ref h27, .int 0])), (h2, .inr (11, [.ref h1, .ref h14, .ref h28, .ref h3, .ref h4, .ref h29, .int 0, .ref h30])), (h3, .inl (Y 1, 4, .inl (jw_l 0 [1, 0, 2, 3]))), (h4, .inl (Y 1, 12, .inl (jw_l (-1) []))), (h5, .inl (Y 4, 3, .inr (.inr (.inr (.inr (jw_R [some h7, some h31, some h10])))))), (h6, .inl (Y 4, 3, .inr (.inr (.inr (.inr (jw_R [some h8, some h9, some h11])))))), (h7, .inr (4, [.ref h32, .ref h33, .long 0, .int 0])), (h8, .inr (4, [.ref h34, .ref h35, .long 0, .int 0])), (h9, .inr (4, [.ref h36, .ref h37, .long 0, .int 0])), (h10, .inr (4, [.ref h38, .ref h39, .long 0, .int 0])), (h11, .inr (4, [.ref h40, .ref h41, .long 0, .int 0]))] H := hP
  have hD : va_D A [(h0, .inr (14, [.ref h12, .int 0, .ref h1, .ref h13, .ref h14, .ref h15, .ref h2, .ref h16, .ref h17, .ref h18, .ref h19, .ref h5, .ref h6, .ref h20, .ref h21, .ref h22, .int (-3), .int (-3)])), (h1, .inr (6, [.int 2, .int 0, .int 0, .int 0, .int 0, .ref h23, .ref h24, .ref h25, .ref h26, .ref h27, .int 0])), (h2, .inr (11, [.ref h1, .ref h14, .ref h28, .ref h3, .ref h4, .ref h29, .int 0, .ref h30])), (h3, .inl (Y 1, 4, .inl (jw_l 0 [1, 0, 2, 3]))), (h4, .inl (Y 1, 12, .inl (jw_l (-1) []))), (h5, .inl (Y 4, 3, .inr (.inr (.inr (.inr (jw_R [some h7, some h31, some h10])))))), (h6, .inl (Y 4, 3, .inr (.inr (.inr (.inr (jw_R [some h8, some h9, some h11])))))), (h7, .inr (4, [.ref h32, .ref h33, .long 0, .int 0])), (h8, .inr (4, [.ref h34, .ref h35, .long 0, .int 0])), (h9, .inr (4, [.ref h36, .ref h37, .long 0, .int 0])), (h10, .inr (4, [.ref h38, .ref h39, .long 0, .int 0])), (h11, .inr (4, [.ref h40, .ref h41, .long 0, .int 0]))] := hD
  refine lv_aload_n hx hb dX11_arrange_30 rfl (lv_at hl 0 rfl) ?_
  refine lv_bipush (v := (-3)) hx hb dX11_arrange_31 (by decide +kernel) ?_
  refine va_put (D := D) (ci := 14) (v := .int (-3)) (C := RX11) (T := TX11) (N := 18) hx hb hts iw_X11_arrange__X11 tyX11 tyX11_ok nmX11 hown hE.1 hP hD hS 0 rfl rfl 16 (by decide) (hts _ mw_X11_arrange__3) (fun _ h9 => h9) rfl (tyX11_ok 16 (by decide)) rfl rfl (Nat.le_of_ble_eq_true rfl) dX11_arrange_33 (fun H locs hP hD hS => ?_)
  have hP : va_P D vwCl [(h0, .inr (14, [.ref h12, .int 0, .ref h1, .ref h13, .ref h14, .ref h15, .ref h2, .ref h16, .ref h17, .ref h18, .ref h19, .ref h5, .ref h6, .ref h20, .ref h21, .ref h22, .int (-3), .int (-3)])), (h1, .inr (6, [.int 2, .int 0, .int 0, .int 0, .int 0, .ref h23, .ref h24, .ref h25, .ref h26, .ref h27, .int 0])), (h2, .inr (11, [.ref h1, .ref h14, .ref h28, .ref h3, .ref h4, .ref h29, .int 0, .ref h30])), (h3, .inl (Y 1, 4, .inl (jw_l 0 [1, 0, 2, 3]))), (h4, .inl (Y 1, 12, .inl (jw_l (-1) []))), (h5, .inl (Y 4, 3, .inr (.inr (.inr (.inr (jw_R [some h7, some h31, some h10])))))), (h6, .inl (Y 4, 3, .inr (.inr (.inr (.inr (jw_R [some h8, some h9, some h11])))))), (h7, .inr (4, [.ref h32, .ref h33, .long 0, .int 0])), (h8, .inr (4, [.ref h34, .ref h35, .long 0, .int 0])), (h9, .inr (4, [.ref h36, .ref h37, .long 0, .int 0])), (h10, .inr (4, [.ref h38, .ref h39, .long 0, .int 0])), (h11, .inr (4, [.ref h40, .ref h41, .long 0, .int 0]))] H := hP
  have hD : va_D A [(h0, .inr (14, [.ref h12, .int 0, .ref h1, .ref h13, .ref h14, .ref h15, .ref h2, .ref h16, .ref h17, .ref h18, .ref h19, .ref h5, .ref h6, .ref h20, .ref h21, .ref h22, .int (-3), .int (-3)])), (h1, .inr (6, [.int 2, .int 0, .int 0, .int 0, .int 0, .ref h23, .ref h24, .ref h25, .ref h26, .ref h27, .int 0])), (h2, .inr (11, [.ref h1, .ref h14, .ref h28, .ref h3, .ref h4, .ref h29, .int 0, .ref h30])), (h3, .inl (Y 1, 4, .inl (jw_l 0 [1, 0, 2, 3]))), (h4, .inl (Y 1, 12, .inl (jw_l (-1) []))), (h5, .inl (Y 4, 3, .inr (.inr (.inr (.inr (jw_R [some h7, some h31, some h10])))))), (h6, .inl (Y 4, 3, .inr (.inr (.inr (.inr (jw_R [some h8, some h9, some h11])))))), (h7, .inr (4, [.ref h32, .ref h33, .long 0, .int 0])), (h8, .inr (4, [.ref h34, .ref h35, .long 0, .int 0])), (h9, .inr (4, [.ref h36, .ref h37, .long 0, .int 0])), (h10, .inr (4, [.ref h38, .ref h39, .long 0, .int 0])), (h11, .inr (4, [.ref h40, .ref h41, .long 0, .int 0]))] := hD
  refine lv_aload_n hx hb dX11_arrange_36 rfl (lv_at hl 0 rfl) ?_
  refine jw_mv (wc := [(h0, .inr (14, [.ref h12, .int 0, .ref h1, .ref h13, .ref h14, .ref h15, .ref h2, .ref h16, .ref h17, .ref h18, .ref h19, .ref h5, .ref h6, .ref h20, .ref h21, .ref h22, .int (-3), .int (-3)])), (h5, .inl (Y 4, 3, .inr (.inr (.inr (.inr (jw_R [some h7, some h31, some h10])))))), (h6, .inl (Y 4, 3, .inr (.inr (.inr (.inr (jw_R [some h8, some h9, some h11])))))), (h7, .inr (4, [.ref h32, .ref h33, .long 0, .int 0])), (h8, .inr (4, [.ref h34, .ref h35, .long 0, .int 0])), (h9, .inr (4, [.ref h36, .ref h37, .long 0, .int 0])), (h10, .inr (4, [.ref h38, .ref h39, .long 0, .int 0])), (h11, .inr (4, [.ref h40, .ref h41, .long 0, .int 0]))]) (cs := 0) (ss := 0) (va_runV (As := []) (rest := []) ⟨hx, hb, hml, hown, hts⟩ (k52_X11_startChanged h0 h5 h6 h7 h8 h9 h10 h11 h12 h1 h13 h14 h15 h2 h16 h17 h18 h19 h20 h21 h22 h31 h32 h33 h34 h35 h36 h37 h38 h39 h40 h41 H.size) (cwV 0 hts gX11_arrange_X11_startChanged rfl rfl rfl ydV_X11_startChanged ⟨Nat.le_of_ble_eq_true rfl, Nat.le_of_ble_eq_true rfl⟩) (jw_mpreV (ci := 14) (q0 := 0) hP hD hS hA hE [true, false, false, false, false, true, true, true, true, true, true, true] rfl rfl rfl) rfl rfl hl.1 rfl (lv_room (Nat.le_of_ble_eq_true rfl)) dX11_arrange_37 ⟨Nat.le_of_ble_eq_true rfl, Nat.le_of_ble_eq_true rfl⟩) hP hD hS hA [true, false, false, false, false, true, true, true, true, true, true, true] rfl rfl rfl (fun w1 H locs hw9 hP hD hS => ?_)
  subst hw9
  have hP : va_P D vwCl [(h0, .inr (14, [.ref h12, .int 0, .ref h1, .ref h13, .ref h14, .ref h15, .ref h2, .ref h16, .ref h17, .ref h18, .ref h19, .ref h5, .ref h6, .ref h20, .ref h21, .ref h22, .int (-3), .int (-3)])), (h1, .inr (6, [.int 2, .int 0, .int 0, .int 0, .int 0, .ref h23, .ref h24, .ref h25, .ref h26, .ref h27, .int 0])), (h2, .inr (11, [.ref h1, .ref h14, .ref h28, .ref h3, .ref h4, .ref h29, .int 0, .ref h30])), (h3, .inl (Y 1, 4, .inl (jw_l 0 [1, 0, 2, 3]))), (h4, .inl (Y 1, 12, .inl (jw_l (-1) []))), (h5, .inl (Y 4, 3, .inr (.inr (.inr (.inr (jw_R [some h7, some h31, some h10])))))), (h6, .inl (Y 4, 3, .inr (.inr (.inr (.inr (jw_R [some h8, some h9, some h11])))))), (h7, .inr (4, [.ref h32, .ref h33, .long 0, .int 0])), (h8, .inr (4, [.ref h34, .ref h35, .long 0, .int 0])), (h9, .inr (4, [.ref h36, .ref h37, .long 0, .int 0])), (h10, .inr (4, [.ref h38, .ref h39, .long 0, .int 0])), (h11, .inr (4, [.ref h40, .ref h41, .long 0, .int 0]))] H := hP
  have hD : va_D A [(h0, .inr (14, [.ref h12, .int 0, .ref h1, .ref h13, .ref h14, .ref h15, .ref h2, .ref h16, .ref h17, .ref h18, .ref h19, .ref h5, .ref h6, .ref h20, .ref h21, .ref h22, .int (-3), .int (-3)])), (h1, .inr (6, [.int 2, .int 0, .int 0, .int 0, .int 0, .ref h23, .ref h24, .ref h25, .ref h26, .ref h27, .int 0])), (h2, .inr (11, [.ref h1, .ref h14, .ref h28, .ref h3, .ref h4, .ref h29, .int 0, .ref h30])), (h3, .inl (Y 1, 4, .inl (jw_l 0 [1, 0, 2, 3]))), (h4, .inl (Y 1, 12, .inl (jw_l (-1) []))), (h5, .inl (Y 4, 3, .inr (.inr (.inr (.inr (jw_R [some h7, some h31, some h10])))))), (h6, .inl (Y 4, 3, .inr (.inr (.inr (.inr (jw_R [some h8, some h9, some h11])))))), (h7, .inr (4, [.ref h32, .ref h33, .long 0, .int 0])), (h8, .inr (4, [.ref h34, .ref h35, .long 0, .int 0])), (h9, .inr (4, [.ref h36, .ref h37, .long 0, .int 0])), (h10, .inr (4, [.ref h38, .ref h39, .long 0, .int 0])), (h11, .inr (4, [.ref h40, .ref h41, .long 0, .int 0]))] := hD
  refine lv_iconst (v := 1) hx hb dX11_arrange_40 (by decide +kernel) ?_
  refine W.widen (k := 0) (n := 0) (Nat.le_of_ble_eq_true rfl) (Nat.le_of_ble_eq_true rfl) ?_
  have hP : va_P D vwCl [] H := hP.sub [] rfl
  have hD : va_D A [] := hD.sub [] rfl rfl
  exact jw_zret hx hb hr hlocks rfl rfl rfl hP hD hS dX11_arrange_41
set_option maxHeartbeats 4000000 in
set_option maxRecDepth 100000 in
theorem k586_X12_isOnce {l : Launch} {D : va_G} {Y : Nat → ClassId} {tt : Nat → Nat} (p0 : Int32) (g_p0 : p0.toBitVec.toNat % 16 = 1) (sz : Nat) : Met l yX12_isOnce wsX12_isOnce ({ frames := 0, cells := 0, slots := 0, locals := 0 }) (jw_Pc D Y tt [.int p0, .int 2] [] sz) (jw_Qi D (fun r => r = 1) (fun w => w = []) (va_A [] sz)) 0 0 (va_A [] sz) := by
  refine jw_met (fun A => jw_Qi D (fun r => r = 1) (fun w => w = []) A) (cc := cX12_isOnce) (maxL := 4) (ret := (some .boolean)) pn_X12_isOnce rfl rfl ?_
  intro p e s m below meth c A H locs ls hx hb hml hr hts hown hlocks hin hP hD hA hS hE hl
  have hown : s.vm.findClass RX12 = some m.cls := hown
  have hl : lv_has ls 4 [(0, .int p0), (1, .int 2)] := hl
  refine lv_iconst (v := 0) hx hb dX12_isOnce_0 (by decide +kernel) ?_
  refine lv_istore_n (lv' := [(2, .int 0), (0, .int p0), (1, .int 2)]) hx hb dX12_isOnce_1 rfl hl (by decide) rfl (fun ls hl => ?_)
  refine lv_iconst (v := 0) hx hb dX12_isOnce_2 (by decide +kernel) ?_
  refine lv_istore_n (lv' := [(3, .int 0), (2, .int 0), (0, .int p0), (1, .int 2)]) hx hb dX12_isOnce_3 rfl hl (by decide) rfl (fun ls hl => ?_)
  refine lv_iload_n hx hb dX12_isOnce_4 rfl (lv_at hl 0 rfl) ?_
  refine lv_iload_n hx hb dX12_isOnce_5 rfl (lv_at hl 3 rfl) ?_
  refine lv_icmp_ge (tgt := 27) hx hb dX12_isOnce_6 (by decide) (fun c9 => absurd c9 (by decide +kernel)) (fun _ => ?_)
  refine lv_iload_n hx hb dX12_isOnce_9 rfl (lv_at hl 1 rfl) ?_
  refine lv_iconst (v := 1) hx hb dX12_isOnce_10 (by decide +kernel) ?_
  refine lv_iload_n hx hb dX12_isOnce_11 rfl (lv_at hl 2 rfl) ?_
  refine lv_iconst (v := 2) hx hb dX12_isOnce_12 (by decide +kernel) ?_
  refine lv_iload_n hx hb dX12_isOnce_13 rfl (lv_at hl 0 rfl) ?_
  refine jw_imul (v := 0) hx hb dX12_isOnce_14 (by decide +kernel) ?_
  refine jw_ishr (v := (p0 >>> (0 &&& 31))) hx hb dX12_isOnce_15 rfl ?_
  refine lv_iconst (v := 3) hx hb dX12_isOnce_16 (by decide +kernel) ?_
  refine jw_iand (v := 1) hx hb dX12_isOnce_17 (jw_bs0 g_p0 (by decide +kernel)) ?_
  refine jw_ishl (v := 2) hx hb dX12_isOnce_18 (by decide +kernel) ?_
  refine jw_ior (v := 2) hx hb dX12_isOnce_19 (by decide +kernel) ?_
  refine lv_istore_n (lv' := [(2, .int 2), (3, .int 0), (0, .int p0), (1, .int 2)]) hx hb dX12_isOnce_20 rfl hl (by decide) rfl (fun ls hl => ?_)
  refine lv_iinc (v := 1) (lv' := [(3, .int 1), (2, .int 2), (0, .int p0), (1, .int 2)]) hx hb dX12_isOnce_21 hl (k := 1) rfl (by decide +kernel) (by decide) rfl (fun ls hl => ?_)
  refine lv_goto (tgt := 4) hx hb dX12_isOnce_24 (by decide) ?_
  refine lv_iload_n hx hb dX12_isOnce_4 rfl (lv_at hl 0 rfl) ?_
  refine lv_iload_n hx hb dX12_isOnce_5 rfl (lv_at hl 3 rfl) ?_
  refine lv_icmp_ge (tgt := 27) hx hb dX12_isOnce_6 (by decide) (fun c9 => absurd c9 (by decide +kernel)) (fun _ => ?_)
  refine lv_iload_n hx hb dX12_isOnce_9 rfl (lv_at hl 1 rfl) ?_
  refine lv_iconst (v := 1) hx hb dX12_isOnce_10 (by decide +kernel) ?_
  refine lv_iload_n hx hb dX12_isOnce_11 rfl (lv_at hl 2 rfl) ?_
  refine lv_iconst (v := 2) hx hb dX12_isOnce_12 (by decide +kernel) ?_
  refine lv_iload_n hx hb dX12_isOnce_13 rfl (lv_at hl 0 rfl) ?_
  refine jw_imul (v := 2) hx hb dX12_isOnce_14 (by decide +kernel) ?_
  refine jw_ishr (v := (p0 >>> (2 &&& 31))) hx hb dX12_isOnce_15 rfl ?_
  refine lv_iconst (v := 3) hx hb dX12_isOnce_16 (by decide +kernel) ?_
  refine jw_iand (v := 0) hx hb dX12_isOnce_17 (jw_bs1 g_p0 (by decide +kernel)) ?_
  refine jw_ishl (v := 1) hx hb dX12_isOnce_18 (by decide +kernel) ?_
  refine jw_ior (v := 3) hx hb dX12_isOnce_19 (by decide +kernel) ?_
  refine lv_istore_n (lv' := [(2, .int 3), (3, .int 1), (0, .int p0), (1, .int 2)]) hx hb dX12_isOnce_20 rfl hl (by decide) rfl (fun ls hl => ?_)
  refine lv_iinc (v := 2) (lv' := [(3, .int 2), (2, .int 3), (0, .int p0), (1, .int 2)]) hx hb dX12_isOnce_21 hl (k := 1) rfl (by decide +kernel) (by decide) rfl (fun ls hl => ?_)
  refine lv_goto (tgt := 4) hx hb dX12_isOnce_24 (by decide) ?_
  refine lv_iload_n hx hb dX12_isOnce_4 rfl (lv_at hl 0 rfl) ?_
  refine lv_iload_n hx hb dX12_isOnce_5 rfl (lv_at hl 3 rfl) ?_
  refine lv_icmp_ge (tgt := 27) hx hb dX12_isOnce_6 (by decide) (fun _ => ?_) (fun c9 => absurd (by decide +kernel) c9)
  refine lv_iload_n hx hb dX12_isOnce_27 rfl (lv_at hl 1 rfl) ?_
  refine lv_iconst (v := 1) hx hb dX12_isOnce_28 (by decide +kernel) ?_
  refine lv_iload_n hx hb dX12_isOnce_29 rfl (lv_at hl 3 rfl) ?_
  refine jw_ishl (v := 4) hx hb dX12_isOnce_30 (by decide +kernel) ?_
  refine lv_iconst (v := 1) hx hb dX12_isOnce_31 (by decide +kernel) ?_
  refine jw_isub (v := 3) hx hb dX12_isOnce_32 (by decide +kernel) ?_
  refine lv_icmp_ne (tgt := 40) hx hb dX12_isOnce_33 (by decide) (fun c9 => absurd (by decide +kernel) c9) (fun _ => ?_)
  refine lv_iconst (v := 1) hx hb dX12_isOnce_36 (by decide +kernel) ?_
  refine lv_goto (tgt := 41) hx hb dX12_isOnce_37 (by decide) ?_
  refine W.widen (k := 0) (n := 0) (Nat.le_of_ble_eq_true rfl) (Nat.le_of_ble_eq_true rfl) ?_
  exact jw_zret hx hb hr hlocks rfl rfl rfl hP hD hS dX12_isOnce_41
set_option maxHeartbeats 4000000 in
set_option maxRecDepth 100000 in
theorem k587_X12_arrange {l : Launch} {D : va_G} {Y : Nat → ClassId} {tt : Nat → Nat} (h0 h1 h2 h3 h4 h5 h6 h7 h8 h9 h10 h11 h12 h13 h14 h15 h16 h17 h18 h19 h20 h21 h22 h23 h24 h25 h26 h27 h28 h29 h30 h31 h32 h33 h34 h35 : Nat) (p1 : Int32) (g_p1 : p1.toBitVec.toNat % 16 = 1) (sz : Nat) : Met l yX12_arrange wsX12_arrange ({ frames := 1, cells := 0, slots := 0, locals := 23 }) (jw_Pc D Y tt [.ref h0, .int p1] [(h0, .inr (15, [.ref h2, .int 0, .int 0, .ref h3, .int 0, .int (-1), .int 0, .int 0, .int 0, .int 0, .int 0, .int 2, .int 0, .int 0, .int 0, .ref h4, .ref h5, .ref h6, .ref h7, .int 2, .int 0, .int 0, .int 0, .int 0, .ref h8, .ref h9, .ref h10, .ref h11, .int 2, .ref h12, .int 1, .ref h13, .ref h14, .int 1, .ref h15, .ref h16, .ref h1, .int 0, .ref h17, .ref h18, .ref h19, .ref h20, .ref h21, .ref h22, .ref h23, .ref h24, .ref h25, .int 0, .ref h26, .ref h27, .ref h28, .int (-1), .ref h29, .long 0, .long 0, .int 0, .int 0, .long 0, .long 0, .ref h30, .ref h31, .ref h32, .ref h33, .ref h34, .ref h35, .long 0])), (h1, .inl (Y 1, 4, .inl (jw_l 0 [0, 1, 2, 3])))] sz) (jw_Qi D (fun r => r = 1) (fun w => w = []) (va_A [(h0, .inr (15, [.ref h2, .int 0, .int 0, .ref h3, .int 0, .int (-1), .int 0, .int 0, .int 0, .int 0, .int 0, .int 2, .int 0, .int 0, .int 0, .ref h4, .ref h5, .ref h6, .ref h7, .int 2, .int 0, .int 0, .int 0, .int 0, .ref h8, .ref h9, .ref h10, .ref h11, .int 2, .ref h12, .int 1, .ref h13, .ref h14, .int 1, .ref h15, .ref h16, .ref h1, .int 0, .ref h17, .ref h18, .ref h19, .ref h20, .ref h21, .ref h22, .ref h23, .ref h24, .ref h25, .int 0, .ref h26, .ref h27, .ref h28, .int (-1), .ref h29, .long 0, .long 0, .int 0, .int 0, .long 0, .long 0, .ref h30, .ref h31, .ref h32, .ref h33, .ref h34, .ref h35, .long 0])), (h1, .inl (Y 1, 4, .inl (jw_l 0 [0, 1, 2, 3])))] sz)) 0 0 (va_A [(h0, .inr (15, [.ref h2, .int 0, .int 0, .ref h3, .int 0, .int (-1), .int 0, .int 0, .int 0, .int 0, .int 0, .int 2, .int 0, .int 0, .int 0, .ref h4, .ref h5, .ref h6, .ref h7, .int 2, .int 0, .int 0, .int 0, .int 0, .ref h8, .ref h9, .ref h10, .ref h11, .int 2, .ref h12, .int 1, .ref h13, .ref h14, .int 1, .ref h15, .ref h16, .ref h1, .int 0, .ref h17, .ref h18, .ref h19, .ref h20, .ref h21, .ref h22, .ref h23, .ref h24, .ref h25, .int 0, .ref h26, .ref h27, .ref h28, .int (-1), .ref h29, .long 0, .long 0, .int 0, .int 0, .long 0, .long 0, .ref h30, .ref h31, .ref h32, .ref h33, .ref h34, .ref h35, .long 0])), (h1, .inl (Y 1, 4, .inl (jw_l 0 [0, 1, 2, 3])))] sz) := by
  refine jw_met (fun A => jw_Qi D (fun r => r = 1) (fun w => w = []) A) (cc := cX12_arrange) (maxL := 3) (ret := (some .boolean)) pn_X12_arrange rfl rfl ?_
  intro p e s m below meth c A H locs ls hx hb hml hr hts hown hlocks hin hP hD hA hS hE hl
  have hown : s.vm.findClass RX12 = some m.cls := hown
  have hl : lv_has ls 3 [(0, .ref h0), (1, .int p1)] := hl
  refine lv_aload_n hx hb dX12_arrange_0 rfl (lv_at hl 0 rfl) ?_
  refine lv_iconst (v := 0) hx hb dX12_arrange_1 (by decide +kernel) ?_
  refine va_put (D := D) (ci := 15) (v := .int 0) (C := RX12) (T := TX12) (N := 66) hx hb hts iw_X12_arrange__X12 tyX12 tyX12_ok nmX12 hown hE.1 hP hD hS 0 rfl rfl 2 (by decide) (hts _ mw_X12_arrange__1) (fun _ h9 => h9) rfl (tyX12_ok 2 (by decide)) rfl rfl (Nat.le_of_ble_eq_true rfl) dX12_arrange_2 (fun H locs hP hD hS => ?_)
  have hP : va_P D vwCl [(h0, .inr (15, [.ref h2, .int 0, .int 0, .ref h3, .int 0, .int (-1), .int 0, .int 0, .int 0, .int 0, .int 0, .int 2, .int 0, .int 0, .int 0, .ref h4, .ref h5, .ref h6, .ref h7, .int 2, .int 0, .int 0, .int 0, .int 0, .ref h8, .ref h9, .ref h10, .ref h11, .int 2, .ref h12, .int 1, .ref h13, .ref h14, .int 1, .ref h15, .ref h16, .ref h1, .int 0, .ref h17, .ref h18, .ref h19, .ref h20, .ref h21, .ref h22, .ref h23, .ref h24, .ref h25, .int 0, .ref h26, .ref h27, .ref h28, .int (-1), .ref h29, .long 0, .long 0, .int 0, .int 0, .long 0, .long 0, .ref h30, .ref h31, .ref h32, .ref h33, .ref h34, .ref h35, .long 0])), (h1, .inl (Y 1, 4, .inl (jw_l 0 [0, 1, 2, 3])))] H := hP
  have hD : va_D A [(h0, .inr (15, [.ref h2, .int 0, .int 0, .ref h3, .int 0, .int (-1), .int 0, .int 0, .int 0, .int 0, .int 0, .int 2, .int 0, .int 0, .int 0, .ref h4, .ref h5, .ref h6, .ref h7, .int 2, .int 0, .int 0, .int 0, .int 0, .ref h8, .ref h9, .ref h10, .ref h11, .int 2, .ref h12, .int 1, .ref h13, .ref h14, .int 1, .ref h15, .ref h16, .ref h1, .int 0, .ref h17, .ref h18, .ref h19, .ref h20, .ref h21, .ref h22, .ref h23, .ref h24, .ref h25, .int 0, .ref h26, .ref h27, .ref h28, .int (-1), .ref h29, .long 0, .long 0, .int 0, .int 0, .long 0, .long 0, .ref h30, .ref h31, .ref h32, .ref h33, .ref h34, .ref h35, .long 0])), (h1, .inl (Y 1, 4, .inl (jw_l 0 [0, 1, 2, 3])))] := hD
  refine lv_iload_n hx hb dX12_arrange_5 rfl (lv_at hl 1 rfl) ?_
  refine lv_aload_n hx hb dX12_arrange_6 rfl (lv_at hl 0 rfl) ?_
  refine va_get (D := D) (ci := 15) (v := .int 2) (C := RX12) (T := TX12) (N := 66) hx hb hts iw_X12_arrange__X12 hown hE.1 hP 0 rfl rfl 11 (by decide) (hts _ mw_X12_arrange__2) (fun _ h9 => h9) rfl dX12_arrange_7 ?_
  refine jw_mi (wc := []) (cs := 0) (ss := 0) (va_runS (As := [.int p1, .int 2]) (rest := []) ⟨hx, hb, hml, hown, hts⟩ (k586_X12_isOnce p1 g_p1 H.size) (va_cwS 2 hts gX12_arrange_X12_isOnce rfl rfl rfl ydS_X12_isOnce ⟨Nat.le_of_ble_eq_true rfl, Nat.le_of_ble_eq_true rfl⟩) (jw_mpreS hP hD hS hA hE [] rfl) rfl rfl hl.1 rfl (lv_room (Nat.le_of_ble_eq_true rfl)) dX12_arrange_10 ⟨Nat.le_of_ble_eq_true rfl, Nat.le_of_ble_eq_true rfl⟩) hP hD hS hA [] rfl rfl rfl (fun r9 w1 H locs hr9 hw9 hP hD hS => ?_)
  subst hr9
  subst hw9
  have hP : va_P D vwCl [(h0, .inr (15, [.ref h2, .int 0, .int 0, .ref h3, .int 0, .int (-1), .int 0, .int 0, .int 0, .int 0, .int 0, .int 2, .int 0, .int 0, .int 0, .ref h4, .ref h5, .ref h6, .ref h7, .int 2, .int 0, .int 0, .int 0, .int 0, .ref h8, .ref h9, .ref h10, .ref h11, .int 2, .ref h12, .int 1, .ref h13, .ref h14, .int 1, .ref h15, .ref h16, .ref h1, .int 0, .ref h17, .ref h18, .ref h19, .ref h20, .ref h21, .ref h22, .ref h23, .ref h24, .ref h25, .int 0, .ref h26, .ref h27, .ref h28, .int (-1), .ref h29, .long 0, .long 0, .int 0, .int 0, .long 0, .long 0, .ref h30, .ref h31, .ref h32, .ref h33, .ref h34, .ref h35, .long 0])), (h1, .inl (Y 1, 4, .inl (jw_l 0 [0, 1, 2, 3])))] H := hP
  have hD : va_D A [(h0, .inr (15, [.ref h2, .int 0, .int 0, .ref h3, .int 0, .int (-1), .int 0, .int 0, .int 0, .int 0, .int 0, .int 2, .int 0, .int 0, .int 0, .ref h4, .ref h5, .ref h6, .ref h7, .int 2, .int 0, .int 0, .int 0, .int 0, .ref h8, .ref h9, .ref h10, .ref h11, .int 2, .ref h12, .int 1, .ref h13, .ref h14, .int 1, .ref h15, .ref h16, .ref h1, .int 0, .ref h17, .ref h18, .ref h19, .ref h20, .ref h21, .ref h22, .ref h23, .ref h24, .ref h25, .int 0, .ref h26, .ref h27, .ref h28, .int (-1), .ref h29, .long 0, .long 0, .int 0, .int 0, .long 0, .long 0, .ref h30, .ref h31, .ref h32, .ref h33, .ref h34, .ref h35, .long 0])), (h1, .inl (Y 1, 4, .inl (jw_l 0 [0, 1, 2, 3])))] := hD
  refine lv_if_ne (tgt := 18) hx hb dX12_arrange_13 (by decide) (fun _ => ?_) (fun c9 => absurd c9 (by decide +kernel))
  refine lv_iconst (v := 0) hx hb dX12_arrange_18 (by decide +kernel) ?_
  refine lv_istore_n (lv' := [(2, .int 0), (0, .ref h0), (1, .int p1)]) hx hb dX12_arrange_19 rfl hl (by decide) rfl (fun ls hl => ?_)
  refine lv_iload_n hx hb dX12_arrange_20 rfl (lv_at hl 0 rfl) ?_
  refine lv_aload_n hx hb dX12_arrange_21 rfl (lv_at hl 1 rfl) ?_
  refine va_get (D := D) (ci := 15) (v := .int 2) (C := RX12) (T := TX12) (N := 66) hx hb hts iw_X12_arrange__X12 hown hE.1 hP 0 rfl rfl 11 (by decide) (hts _ mw_X12_arrange__2) (fun _ h9 => h9) rfl dX12_arrange_22 ?_
  refine lv_icmp_ge (tgt := 47) hx hb dX12_arrange_25 (by decide) (fun c9 => absurd c9 (by decide +kernel)) (fun _ => ?_)
  refine lv_aload_n hx hb dX12_arrange_28 rfl (lv_at hl 1 rfl) ?_
  refine va_get (D := D) (ci := 15) (v := .ref h1) (C := RX12) (T := TX12) (N := 66) hx hb hts iw_X12_arrange__X12 hown hE.1 hP 0 rfl rfl 36 (by decide) (hts _ mw_X12_arrange__3) (fun _ h9 => h9) rfl dX12_arrange_29 ?_
  refine lv_iload_n hx hb dX12_arrange_32 rfl (lv_at hl 0 rfl) ?_
  refine lv_iload_n hx hb dX12_arrange_33 rfl (lv_at hl 2 rfl) ?_
  refine lv_iconst (v := 2) hx hb dX12_arrange_34 (by decide +kernel) ?_
  refine lv_iload_n hx hb dX12_arrange_35 rfl (lv_at hl 0 rfl) ?_
  refine jw_imul (v := 0) hx hb dX12_arrange_36 (by decide +kernel) ?_
  refine jw_ishr (v := (p1 >>> (0 &&& 31))) hx hb dX12_arrange_37 rfl ?_
  refine lv_iconst (v := 3) hx hb dX12_arrange_38 (by decide +kernel) ?_
  refine jw_iand (v := 1) hx hb dX12_arrange_39 (jw_bs0 g_p1 (by decide +kernel)) ?_
  refine jw_iast (ws' := [(h0, .inr (15, [.ref h2, .int 0, .int 0, .ref h3, .int 0, .int (-1), .int 0, .int 0, .int 0, .int 0, .int 0, .int 2, .int 0, .int 0, .int 0, .ref h4, .ref h5, .ref h6, .ref h7, .int 2, .int 0, .int 0, .int 0, .int 0, .ref h8, .ref h9, .ref h10, .ref h11, .int 2, .ref h12, .int 1, .ref h13, .ref h14, .int 1, .ref h15, .ref h16, .ref h1, .int 0, .ref h17, .ref h18, .ref h19, .ref h20, .ref h21, .ref h22, .ref h23, .ref h24, .ref h25, .int 0, .ref h26, .ref h27, .ref h28, .int (-1), .ref h29, .long 0, .long 0, .int 0, .int 0, .long 0, .long 0, .ref h30, .ref h31, .ref h32, .ref h33, .ref h34, .ref h35, .long 0])), (h1, .inl (Y 1, 4, .inl (jw_l 0 [1, 1, 2, 3])))]) hx hb hE hP hD hS 1 0 [1, 1, 2, 3] rfl (by decide +kernel) (by decide +kernel) rfl dX12_arrange_40 (fun H locs hP hD hS => ?_)
  refine lv_iinc (v := 1) (lv' := [(2, .int 1), (0, .ref h0), (1, .int p1)]) hx hb dX12_arrange_41 hl (k := 0) rfl (by decide +kernel) (by decide) rfl (fun ls hl => ?_)
  refine lv_goto (tgt := 20) hx hb dX12_arrange_44 (by decide) ?_
  refine lv_iload_n hx hb dX12_arrange_20 rfl (lv_at hl 0 rfl) ?_
  refine lv_aload_n hx hb dX12_arrange_21 rfl (lv_at hl 1 rfl) ?_
  refine va_get (D := D) (ci := 15) (v := .int 2) (C := RX12) (T := TX12) (N := 66) hx hb hts iw_X12_arrange__X12 hown hE.1 hP 0 rfl rfl 11 (by decide) (hts _ mw_X12_arrange__2) (fun _ h9 => h9) rfl dX12_arrange_22 ?_
  refine lv_icmp_ge (tgt := 47) hx hb dX12_arrange_25 (by decide) (fun c9 => absurd c9 (by decide +kernel)) (fun _ => ?_)
  refine lv_aload_n hx hb dX12_arrange_28 rfl (lv_at hl 1 rfl) ?_
  refine va_get (D := D) (ci := 15) (v := .ref h1) (C := RX12) (T := TX12) (N := 66) hx hb hts iw_X12_arrange__X12 hown hE.1 hP 0 rfl rfl 36 (by decide) (hts _ mw_X12_arrange__3) (fun _ h9 => h9) rfl dX12_arrange_29 ?_
  refine lv_iload_n hx hb dX12_arrange_32 rfl (lv_at hl 0 rfl) ?_
  refine lv_iload_n hx hb dX12_arrange_33 rfl (lv_at hl 2 rfl) ?_
  refine lv_iconst (v := 2) hx hb dX12_arrange_34 (by decide +kernel) ?_
  refine lv_iload_n hx hb dX12_arrange_35 rfl (lv_at hl 0 rfl) ?_
  refine jw_imul (v := 2) hx hb dX12_arrange_36 (by decide +kernel) ?_
  refine jw_ishr (v := (p1 >>> (2 &&& 31))) hx hb dX12_arrange_37 rfl ?_
  refine lv_iconst (v := 3) hx hb dX12_arrange_38 (by decide +kernel) ?_
  refine jw_iand (v := 0) hx hb dX12_arrange_39 (jw_bs1 g_p1 (by decide +kernel)) ?_
  refine jw_iast (ws' := [(h0, .inr (15, [.ref h2, .int 0, .int 0, .ref h3, .int 0, .int (-1), .int 0, .int 0, .int 0, .int 0, .int 0, .int 2, .int 0, .int 0, .int 0, .ref h4, .ref h5, .ref h6, .ref h7, .int 2, .int 0, .int 0, .int 0, .int 0, .ref h8, .ref h9, .ref h10, .ref h11, .int 2, .ref h12, .int 1, .ref h13, .ref h14, .int 1, .ref h15, .ref h16, .ref h1, .int 0, .ref h17, .ref h18, .ref h19, .ref h20, .ref h21, .ref h22, .ref h23, .ref h24, .ref h25, .int 0, .ref h26, .ref h27, .ref h28, .int (-1), .ref h29, .long 0, .long 0, .int 0, .int 0, .long 0, .long 0, .ref h30, .ref h31, .ref h32, .ref h33, .ref h34, .ref h35, .long 0])), (h1, .inl (Y 1, 4, .inl (jw_l 0 [1, 0, 2, 3])))]) hx hb hE hP hD hS 1 1 [1, 0, 2, 3] rfl (by decide +kernel) (by decide +kernel) rfl dX12_arrange_40 (fun H locs hP hD hS => ?_)
  refine lv_iinc (v := 2) (lv' := [(2, .int 2), (0, .ref h0), (1, .int p1)]) hx hb dX12_arrange_41 hl (k := 0) rfl (by decide +kernel) (by decide) rfl (fun ls hl => ?_)
  refine lv_goto (tgt := 20) hx hb dX12_arrange_44 (by decide) ?_
  refine lv_iload_n hx hb dX12_arrange_20 rfl (lv_at hl 0 rfl) ?_
  refine lv_aload_n hx hb dX12_arrange_21 rfl (lv_at hl 1 rfl) ?_
  refine va_get (D := D) (ci := 15) (v := .int 2) (C := RX12) (T := TX12) (N := 66) hx hb hts iw_X12_arrange__X12 hown hE.1 hP 0 rfl rfl 11 (by decide) (hts _ mw_X12_arrange__2) (fun _ h9 => h9) rfl dX12_arrange_22 ?_
  refine lv_icmp_ge (tgt := 47) hx hb dX12_arrange_25 (by decide) (fun _ => ?_) (fun c9 => absurd (by decide +kernel) c9)
  refine lv_aload_n hx hb dX12_arrange_47 rfl (lv_at hl 1 rfl) ?_
  refine lv_iconst (v := 0) hx hb dX12_arrange_48 (by decide +kernel) ?_
  refine va_put (D := D) (ci := 15) (v := .int 0) (C := RX12) (T := TX12) (N := 66) hx hb hts iw_X12_arrange__X12 tyX12 tyX12_ok nmX12 hown hE.1 hP hD hS 0 rfl rfl 37 (by decide) (hts _ mw_X12_arrange__4) (fun _ h9 => h9) rfl (tyX12_ok 37 (by decide)) rfl rfl (Nat.le_of_ble_eq_true rfl) dX12_arrange_49 (fun H locs hP hD hS => ?_)
  have hP : va_P D vwCl [(h0, .inr (15, [.ref h2, .int 0, .int 0, .ref h3, .int 0, .int (-1), .int 0, .int 0, .int 0, .int 0, .int 0, .int 2, .int 0, .int 0, .int 0, .ref h4, .ref h5, .ref h6, .ref h7, .int 2, .int 0, .int 0, .int 0, .int 0, .ref h8, .ref h9, .ref h10, .ref h11, .int 2, .ref h12, .int 1, .ref h13, .ref h14, .int 1, .ref h15, .ref h16, .ref h1, .int 0, .ref h17, .ref h18, .ref h19, .ref h20, .ref h21, .ref h22, .ref h23, .ref h24, .ref h25, .int 0, .ref h26, .ref h27, .ref h28, .int (-1), .ref h29, .long 0, .long 0, .int 0, .int 0, .long 0, .long 0, .ref h30, .ref h31, .ref h32, .ref h33, .ref h34, .ref h35, .long 0])), (h1, .inl (Y 1, 4, .inl (jw_l 0 [1, 0, 2, 3])))] H := hP
  have hD : va_D A [(h0, .inr (15, [.ref h2, .int 0, .int 0, .ref h3, .int 0, .int (-1), .int 0, .int 0, .int 0, .int 0, .int 0, .int 2, .int 0, .int 0, .int 0, .ref h4, .ref h5, .ref h6, .ref h7, .int 2, .int 0, .int 0, .int 0, .int 0, .ref h8, .ref h9, .ref h10, .ref h11, .int 2, .ref h12, .int 1, .ref h13, .ref h14, .int 1, .ref h15, .ref h16, .ref h1, .int 0, .ref h17, .ref h18, .ref h19, .ref h20, .ref h21, .ref h22, .ref h23, .ref h24, .ref h25, .int 0, .ref h26, .ref h27, .ref h28, .int (-1), .ref h29, .long 0, .long 0, .int 0, .int 0, .long 0, .long 0, .ref h30, .ref h31, .ref h32, .ref h33, .ref h34, .ref h35, .long 0])), (h1, .inl (Y 1, 4, .inl (jw_l 0 [1, 0, 2, 3])))] := hD
  refine lv_aload_n hx hb dX12_arrange_52 rfl (lv_at hl 1 rfl) ?_
  refine lv_iconst (v := (-1)) hx hb dX12_arrange_53 (by decide +kernel) ?_
  refine va_put (D := D) (ci := 15) (v := .int (-1)) (C := RX12) (T := TX12) (N := 66) hx hb hts iw_X12_arrange__X12 tyX12 tyX12_ok nmX12 hown hE.1 hP hD hS 0 rfl rfl 51 (by decide) (hts _ mw_X12_arrange__5) (fun _ h9 => h9) rfl (tyX12_ok 51 (by decide)) rfl rfl (Nat.le_of_ble_eq_true rfl) dX12_arrange_54 (fun H locs hP hD hS => ?_)
  have hP : va_P D vwCl [(h0, .inr (15, [.ref h2, .int 0, .int 0, .ref h3, .int 0, .int (-1), .int 0, .int 0, .int 0, .int 0, .int 0, .int 2, .int 0, .int 0, .int 0, .ref h4, .ref h5, .ref h6, .ref h7, .int 2, .int 0, .int 0, .int 0, .int 0, .ref h8, .ref h9, .ref h10, .ref h11, .int 2, .ref h12, .int 1, .ref h13, .ref h14, .int 1, .ref h15, .ref h16, .ref h1, .int 0, .ref h17, .ref h18, .ref h19, .ref h20, .ref h21, .ref h22, .ref h23, .ref h24, .ref h25, .int 0, .ref h26, .ref h27, .ref h28, .int (-1), .ref h29, .long 0, .long 0, .int 0, .int 0, .long 0, .long 0, .ref h30, .ref h31, .ref h32, .ref h33, .ref h34, .ref h35, .long 0])), (h1, .inl (Y 1, 4, .inl (jw_l 0 [1, 0, 2, 3])))] H := hP
  have hD : va_D A [(h0, .inr (15, [.ref h2, .int 0, .int 0, .ref h3, .int 0, .int (-1), .int 0, .int 0, .int 0, .int 0, .int 0, .int 2, .int 0, .int 0, .int 0, .ref h4, .ref h5, .ref h6, .ref h7, .int 2, .int 0, .int 0, .int 0, .int 0, .ref h8, .ref h9, .ref h10, .ref h11, .int 2, .ref h12, .int 1, .ref h13, .ref h14, .int 1, .ref h15, .ref h16, .ref h1, .int 0, .ref h17, .ref h18, .ref h19, .ref h20, .ref h21, .ref h22, .ref h23, .ref h24, .ref h25, .int 0, .ref h26, .ref h27, .ref h28, .int (-1), .ref h29, .long 0, .long 0, .int 0, .int 0, .long 0, .long 0, .ref h30, .ref h31, .ref h32, .ref h33, .ref h34, .ref h35, .long 0])), (h1, .inl (Y 1, 4, .inl (jw_l 0 [1, 0, 2, 3])))] := hD
  refine lv_iconst (v := 1) hx hb dX12_arrange_57 (by decide +kernel) ?_
  refine W.widen (k := 0) (n := 0) (Nat.le_of_ble_eq_true rfl) (Nat.le_of_ble_eq_true rfl) ?_
  have hP : va_P D vwCl [] H := hP.sub [] rfl
  have hD : va_D A [] := hD.sub [] rfl rfl
  exact jw_zret hx hb hr hlocks rfl rfl rfl hP hD hS dX12_arrange_58
set_option maxHeartbeats 4000000 in
set_option maxRecDepth 100000 in
theorem k588_X11_readTurns {l : Launch} {D : va_G} {Y : Nat → ClassId} {tt : Nat → Nat} (h0 : Nat) (p0 : Int32) (g_p0 : p0.toBitVec.toNat % 16 = 2) (sz : Nat) : Met l yX11_readTurns wsX11_readTurns ({ frames := 0, cells := 0, slots := 0, locals := 0 }) (jw_Pc D Y tt [.int p0, .int 2, .ref h0] [] sz) (jw_Qi D (fun r => r = 0) (fun w => w = []) (va_A [] sz)) 0 0 (va_A [] sz) := by
  refine jw_met (fun A => jw_Qi D (fun r => r = 0) (fun w => w = []) A) (cc := cX11_readTurns) (maxL := 5) (ret := (some .boolean)) pn_X11_readTurns rfl rfl ?_
  intro p e s m below meth c A H locs ls hx hb hml hr hts hown hlocks hin hP hD hA hS hE hl
  have hown : s.vm.findClass RX11 = some m.cls := hown
  have hl : lv_has ls 5 [(0, .int p0), (1, .int 2), (2, .ref h0)] := hl
  refine lv_iconst (v := 0) hx hb dX11_readTurns_0 (by decide +kernel) ?_
  refine lv_istore_n (lv' := [(3, .int 0), (0, .int p0), (1, .int 2), (2, .ref h0)]) hx hb dX11_readTurns_1 rfl hl (by decide) rfl (fun ls hl => ?_)
  refine lv_iconst (v := 0) hx hb dX11_readTurns_2 (by decide +kernel) ?_
  refine lv_istore (lv' := [(4, .int 0), (3, .int 0), (0, .int p0), (1, .int 2), (2, .ref h0)]) hx hb dX11_readTurns_3 hl (by decide) rfl (fun ls hl => ?_)
  refine lv_iload hx hb dX11_readTurns_5 (lv_at hl 0 rfl) ?_
  refine lv_iload_n hx hb dX11_readTurns_7 rfl (lv_at hl 3 rfl) ?_
  refine lv_icmp_ge (tgt := 30) hx hb dX11_readTurns_8 (by decide) (fun c9 => absurd c9 (by decide +kernel)) (fun _ => ?_)
  refine lv_iload_n hx hb dX11_readTurns_11 rfl (lv_at hl 1 rfl) ?_
  refine lv_iconst (v := 1) hx hb dX11_readTurns_12 (by decide +kernel) ?_
  refine lv_iload_n hx hb dX11_readTurns_13 rfl (lv_at hl 2 rfl) ?_
  refine lv_iconst (v := 2) hx hb dX11_readTurns_14 (by decide +kernel) ?_
  refine lv_iload hx hb dX11_readTurns_15 (lv_at hl 0 rfl) ?_
  refine jw_imul (v := 0) hx hb dX11_readTurns_17 (by decide +kernel) ?_
  refine lv_iushr (v := (p0.toUInt32 >>> ((0 : Int32).toUInt32 &&& Int32.toUInt32 31)).toInt32) hx hb dX11_readTurns_18 rfl ?_
  refine lv_iconst (v := 3) hx hb dX11_readTurns_19 (by decide +kernel) ?_
  refine jw_iand (v := 2) hx hb dX11_readTurns_20 (jw_bu0 g_p0 (by decide +kernel)) ?_
  refine jw_ishl (v := 4) hx hb dX11_readTurns_21 (by decide +kernel) ?_
  refine jw_ior (v := 4) hx hb dX11_readTurns_22 (by decide +kernel) ?_
  refine lv_istore_n (lv' := [(3, .int 4), (4, .int 0), (0, .int p0), (1, .int 2), (2, .ref h0)]) hx hb dX11_readTurns_23 rfl hl (by decide) rfl (fun ls hl => ?_)
  refine lv_iinc (v := 1) (lv' := [(4, .int 1), (3, .int 4), (0, .int p0), (1, .int 2), (2, .ref h0)]) hx hb dX11_readTurns_24 hl (k := 1) rfl (by decide +kernel) (by decide) rfl (fun ls hl => ?_)
  refine lv_goto (tgt := 5) hx hb dX11_readTurns_27 (by decide) ?_
  refine lv_iload hx hb dX11_readTurns_5 (lv_at hl 0 rfl) ?_
  refine lv_iload_n hx hb dX11_readTurns_7 rfl (lv_at hl 3 rfl) ?_
  refine lv_icmp_ge (tgt := 30) hx hb dX11_readTurns_8 (by decide) (fun c9 => absurd c9 (by decide +kernel)) (fun _ => ?_)
  refine lv_iload_n hx hb dX11_readTurns_11 rfl (lv_at hl 1 rfl) ?_
  refine lv_iconst (v := 1) hx hb dX11_readTurns_12 (by decide +kernel) ?_
  refine lv_iload_n hx hb dX11_readTurns_13 rfl (lv_at hl 2 rfl) ?_
  refine lv_iconst (v := 2) hx hb dX11_readTurns_14 (by decide +kernel) ?_
  refine lv_iload hx hb dX11_readTurns_15 (lv_at hl 0 rfl) ?_
  refine jw_imul (v := 2) hx hb dX11_readTurns_17 (by decide +kernel) ?_
  refine lv_iushr (v := (p0.toUInt32 >>> ((2 : Int32).toUInt32 &&& Int32.toUInt32 31)).toInt32) hx hb dX11_readTurns_18 rfl ?_
  refine lv_iconst (v := 3) hx hb dX11_readTurns_19 (by decide +kernel) ?_
  refine jw_iand (v := 0) hx hb dX11_readTurns_20 (jw_bu1 g_p0 (by decide +kernel)) ?_
  refine jw_ishl (v := 1) hx hb dX11_readTurns_21 (by decide +kernel) ?_
  refine jw_ior (v := 5) hx hb dX11_readTurns_22 (by decide +kernel) ?_
  refine lv_istore_n (lv' := [(3, .int 5), (4, .int 1), (0, .int p0), (1, .int 2), (2, .ref h0)]) hx hb dX11_readTurns_23 rfl hl (by decide) rfl (fun ls hl => ?_)
  refine lv_iinc (v := 2) (lv' := [(4, .int 2), (3, .int 5), (0, .int p0), (1, .int 2), (2, .ref h0)]) hx hb dX11_readTurns_24 hl (k := 1) rfl (by decide +kernel) (by decide) rfl (fun ls hl => ?_)
  refine lv_goto (tgt := 5) hx hb dX11_readTurns_27 (by decide) ?_
  refine lv_iload hx hb dX11_readTurns_5 (lv_at hl 0 rfl) ?_
  refine lv_iload_n hx hb dX11_readTurns_7 rfl (lv_at hl 3 rfl) ?_
  refine lv_icmp_ge (tgt := 30) hx hb dX11_readTurns_8 (by decide) (fun _ => ?_) (fun c9 => absurd (by decide +kernel) c9)
  refine lv_iload_n hx hb dX11_readTurns_30 rfl (lv_at hl 1 rfl) ?_
  refine lv_iconst (v := 1) hx hb dX11_readTurns_31 (by decide +kernel) ?_
  refine lv_iload_n hx hb dX11_readTurns_32 rfl (lv_at hl 3 rfl) ?_
  refine jw_ishl (v := 4) hx hb dX11_readTurns_33 (by decide +kernel) ?_
  refine lv_iconst (v := 1) hx hb dX11_readTurns_34 (by decide +kernel) ?_
  refine jw_isub (v := 3) hx hb dX11_readTurns_35 (by decide +kernel) ?_
  refine lv_icmp_eq (tgt := 41) hx hb dX11_readTurns_36 (by decide) (fun c9 => absurd c9 (by decide +kernel)) (fun _ => ?_)
  refine lv_iconst (v := 0) hx hb dX11_readTurns_39 (by decide +kernel) ?_
  refine W.widen (k := 0) (n := 0) (Nat.le_of_ble_eq_true rfl) (Nat.le_of_ble_eq_true rfl) ?_
  exact jw_zret hx hb hr hlocks rfl rfl rfl hP hD hS dX11_readTurns_40
set_option maxHeartbeats 4000000 in
set_option maxRecDepth 100000 in
theorem k589_X11_arrange {l : Launch} {D : va_G} {Y : Nat → ClassId} {tt : Nat → Nat} (h0 h1 h2 h3 h4 h5 h6 h7 h8 h9 h10 h11 h12 h13 h14 h15 h16 h17 h18 h19 h20 h21 h22 h23 h24 h25 : Nat) (p1 : Int32) (g_p1 : p1.toBitVec.toNat % 16 = 2) (sz : Nat) : Met l yX11_arrange wsX11_arrange ({ frames := 1, cells := 0, slots := 0, locals := 24 }) (jw_Pc D Y tt [.ref h0, .int p1] [(h0, .inr (14, [.ref h3, .int 0, .ref h1, .ref h4, .ref h5, .ref h6, .ref h2, .ref h7, .ref h8, .ref h9, .ref h10, .ref h11, .ref h12, .ref h13, .ref h14, .ref h15, .int (-3), .int (-3)])), (h1, .inr (6, [.int 2, .int 0, .int 0, .int 0, .int 0, .ref h16, .ref h17, .ref h18, .ref h19, .ref h20, .int 0])), (h2, .inr (11, [.ref h1, .ref h5, .ref h21, .ref h22, .ref h23, .ref h24, .int 0, .ref h25]))] sz) (jw_Qi D (fun r => r = 0) (fun w => w = []) (va_A [(h0, .inr (14, [.ref h3, .int 0, .ref h1, .ref h4, .ref h5, .ref h6, .ref h2, .ref h7, .ref h8, .ref h9, .ref h10, .ref h11, .ref h12, .ref h13, .ref h14, .ref h15, .int (-3), .int (-3)])), (h1, .inr (6, [.int 2, .int 0, .int 0, .int 0, .int 0, .ref h16, .ref h17, .ref h18, .ref h19, .ref h20, .int 0])), (h2, .inr (11, [.ref h1, .ref h5, .ref h21, .ref h22, .ref h23, .ref h24, .int 0, .ref h25]))] sz)) 0 0 (va_A [(h0, .inr (14, [.ref h3, .int 0, .ref h1, .ref h4, .ref h5, .ref h6, .ref h2, .ref h7, .ref h8, .ref h9, .ref h10, .ref h11, .ref h12, .ref h13, .ref h14, .ref h15, .int (-3), .int (-3)])), (h1, .inr (6, [.int 2, .int 0, .int 0, .int 0, .int 0, .ref h16, .ref h17, .ref h18, .ref h19, .ref h20, .int 0])), (h2, .inr (11, [.ref h1, .ref h5, .ref h21, .ref h22, .ref h23, .ref h24, .int 0, .ref h25]))] sz) := by
  refine jw_met (fun A => jw_Qi D (fun r => r = 0) (fun w => w = []) A) (cc := cX11_arrange) (maxL := 2) (ret := (some .boolean)) pn_X11_arrange rfl rfl ?_
  intro p e s m below meth c A H locs ls hx hb hml hr hts hown hlocks hin hP hD hA hS hE hl
  have hown : s.vm.findClass RX11 = some m.cls := hown
  have hl : lv_has ls 2 [(0, .ref h0), (1, .int p1)] := hl
  refine lv_iload_n hx hb dX11_arrange_0 rfl (lv_at hl 1 rfl) ?_
  refine lv_aload_n hx hb dX11_arrange_1 rfl (lv_at hl 0 rfl) ?_
  refine va_get (D := D) (ci := 14) (v := .ref h1) (C := RX11) (T := TX11) (N := 18) hx hb hts iw_X11_arrange__X11 hown hE.1 hP 0 rfl rfl 2 (by decide) (hts _ mw_X11_arrange__1) (fun _ h9 => h9) rfl dX11_arrange_2 ?_
  refine va_getN (D := D) (ci := 6) (v := .int 2) (C := RX3) (T := TX3) (N := 11) hx hb hts iw_X11_arrange__X3 hown hE.1 hP 1 rfl rfl 0 (by decide) (nf_X11_133 hE) (fun _ h9 => h9) rfl dX11_arrange_5 ?_
  refine lv_aload_n hx hb dX11_arrange_8 rfl (lv_at hl 0 rfl) ?_
  refine va_get (D := D) (ci := 14) (v := .ref h2) (C := RX11) (T := TX11) (N := 18) hx hb hts iw_X11_arrange__X11 hown hE.1 hP 0 rfl rfl 6 (by decide) (hts _ mw_X11_arrange__2) (fun _ h9 => h9) rfl dX11_arrange_9 ?_
  refine va_getN (D := D) (ci := 11) (v := .ref h22) (C := RX8) (T := TX8) (N := 8) hx hb hts iw_X11_arrange__X8 hown hE.1 hP 2 rfl rfl 3 (by decide) (nf_X11_221 hE) (fun _ h9 => h9) rfl dX11_arrange_12 ?_
  refine jw_mi (wc := []) (cs := 0) (ss := 0) (va_runS (As := [.int p1, .int 2, .ref h22]) (rest := []) ⟨hx, hb, hml, hown, hts⟩ (k588_X11_readTurns h22 p1 g_p1 H.size) (va_cwS 3 hts gX11_arrange_X11_readTurns rfl rfl rfl ydS_X11_readTurns ⟨Nat.le_of_ble_eq_true rfl, Nat.le_of_ble_eq_true rfl⟩) (jw_mpreS hP hD hS hA hE [] rfl) rfl rfl hl.1 rfl (lv_room (Nat.le_of_ble_eq_true rfl)) dX11_arrange_15 ⟨Nat.le_of_ble_eq_true rfl, Nat.le_of_ble_eq_true rfl⟩) hP hD hS hA [] rfl rfl rfl (fun r9 w1 H locs hr9 hw9 hP hD hS => ?_)
  subst hr9
  subst hw9
  have hP : va_P D vwCl [(h0, .inr (14, [.ref h3, .int 0, .ref h1, .ref h4, .ref h5, .ref h6, .ref h2, .ref h7, .ref h8, .ref h9, .ref h10, .ref h11, .ref h12, .ref h13, .ref h14, .ref h15, .int (-3), .int (-3)])), (h1, .inr (6, [.int 2, .int 0, .int 0, .int 0, .int 0, .ref h16, .ref h17, .ref h18, .ref h19, .ref h20, .int 0])), (h2, .inr (11, [.ref h1, .ref h5, .ref h21, .ref h22, .ref h23, .ref h24, .int 0, .ref h25]))] H := hP
  have hD : va_D A [(h0, .inr (14, [.ref h3, .int 0, .ref h1, .ref h4, .ref h5, .ref h6, .ref h2, .ref h7, .ref h8, .ref h9, .ref h10, .ref h11, .ref h12, .ref h13, .ref h14, .ref h15, .int (-3), .int (-3)])), (h1, .inr (6, [.int 2, .int 0, .int 0, .int 0, .int 0, .ref h16, .ref h17, .ref h18, .ref h19, .ref h20, .int 0])), (h2, .inr (11, [.ref h1, .ref h5, .ref h21, .ref h22, .ref h23, .ref h24, .int 0, .ref h25]))] := hD
  refine lv_if_ne (tgt := 23) hx hb dX11_arrange_18 (by decide) (fun c9 => absurd (by decide +kernel) c9) (fun _ => ?_)
  refine lv_iconst (v := 0) hx hb dX11_arrange_21 (by decide +kernel) ?_
  refine W.widen (k := 0) (n := 0) (Nat.le_of_ble_eq_true rfl) (Nat.le_of_ble_eq_true rfl) ?_
  have hP : va_P D vwCl [] H := hP.sub [] rfl
  have hD : va_D A [] := hD.sub [] rfl rfl
  exact jw_zret hx hb hr hlocks rfl rfl rfl hP hD hS dX11_arrange_22
set_option maxHeartbeats 4000000 in
set_option maxRecDepth 100000 in
theorem k590_X12_isOnce {l : Launch} {D : va_G} {Y : Nat → ClassId} {tt : Nat → Nat} (p0 : Int32) (g_p0 : p0.toBitVec.toNat % 16 = 2) (sz : Nat) : Met l yX12_isOnce wsX12_isOnce ({ frames := 0, cells := 0, slots := 0, locals := 0 }) (jw_Pc D Y tt [.int p0, .int 2] [] sz) (jw_Qi D (fun r => r = 0) (fun w => w = []) (va_A [] sz)) 0 0 (va_A [] sz) := by
  refine jw_met (fun A => jw_Qi D (fun r => r = 0) (fun w => w = []) A) (cc := cX12_isOnce) (maxL := 4) (ret := (some .boolean)) pn_X12_isOnce rfl rfl ?_
  intro p e s m below meth c A H locs ls hx hb hml hr hts hown hlocks hin hP hD hA hS hE hl
  have hown : s.vm.findClass RX12 = some m.cls := hown
  have hl : lv_has ls 4 [(0, .int p0), (1, .int 2)] := hl
  refine lv_iconst (v := 0) hx hb dX12_isOnce_0 (by decide +kernel) ?_
  refine lv_istore_n (lv' := [(2, .int 0), (0, .int p0), (1, .int 2)]) hx hb dX12_isOnce_1 rfl hl (by decide) rfl (fun ls hl => ?_)
  refine lv_iconst (v := 0) hx hb dX12_isOnce_2 (by decide +kernel) ?_
  refine lv_istore_n (lv' := [(3, .int 0), (2, .int 0), (0, .int p0), (1, .int 2)]) hx hb dX12_isOnce_3 rfl hl (by decide) rfl (fun ls hl => ?_)
  refine lv_iload_n hx hb dX12_isOnce_4 rfl (lv_at hl 0 rfl) ?_
  refine lv_iload_n hx hb dX12_isOnce_5 rfl (lv_at hl 3 rfl) ?_
  refine lv_icmp_ge (tgt := 27) hx hb dX12_isOnce_6 (by decide) (fun c9 => absurd c9 (by decide +kernel)) (fun _ => ?_)
  refine lv_iload_n hx hb dX12_isOnce_9 rfl (lv_at hl 1 rfl) ?_
  refine lv_iconst (v := 1) hx hb dX12_isOnce_10 (by decide +kernel) ?_
  refine lv_iload_n hx hb dX12_isOnce_11 rfl (lv_at hl 2 rfl) ?_
  refine lv_iconst (v := 2) hx hb dX12_isOnce_12 (by decide +kernel) ?_
  refine lv_iload_n hx hb dX12_isOnce_13 rfl (lv_at hl 0 rfl) ?_
  refine jw_imul (v := 0) hx hb dX12_isOnce_14 (by decide +kernel) ?_
  refine jw_ishr (v := (p0 >>> (0 &&& 31))) hx hb dX12_isOnce_15 rfl ?_
  refine lv_iconst (v := 3) hx hb dX12_isOnce_16 (by decide +kernel) ?_
  refine jw_iand (v := 2) hx hb dX12_isOnce_17 (jw_bs0 g_p0 (by decide +kernel)) ?_
  refine jw_ishl (v := 4) hx hb dX12_isOnce_18 (by decide +kernel) ?_
  refine jw_ior (v := 4) hx hb dX12_isOnce_19 (by decide +kernel) ?_
  refine lv_istore_n (lv' := [(2, .int 4), (3, .int 0), (0, .int p0), (1, .int 2)]) hx hb dX12_isOnce_20 rfl hl (by decide) rfl (fun ls hl => ?_)
  refine lv_iinc (v := 1) (lv' := [(3, .int 1), (2, .int 4), (0, .int p0), (1, .int 2)]) hx hb dX12_isOnce_21 hl (k := 1) rfl (by decide +kernel) (by decide) rfl (fun ls hl => ?_)
  refine lv_goto (tgt := 4) hx hb dX12_isOnce_24 (by decide) ?_
  refine lv_iload_n hx hb dX12_isOnce_4 rfl (lv_at hl 0 rfl) ?_
  refine lv_iload_n hx hb dX12_isOnce_5 rfl (lv_at hl 3 rfl) ?_
  refine lv_icmp_ge (tgt := 27) hx hb dX12_isOnce_6 (by decide) (fun c9 => absurd c9 (by decide +kernel)) (fun _ => ?_)
  refine lv_iload_n hx hb dX12_isOnce_9 rfl (lv_at hl 1 rfl) ?_
  refine lv_iconst (v := 1) hx hb dX12_isOnce_10 (by decide +kernel) ?_
  refine lv_iload_n hx hb dX12_isOnce_11 rfl (lv_at hl 2 rfl) ?_
  refine lv_iconst (v := 2) hx hb dX12_isOnce_12 (by decide +kernel) ?_
  refine lv_iload_n hx hb dX12_isOnce_13 rfl (lv_at hl 0 rfl) ?_
  refine jw_imul (v := 2) hx hb dX12_isOnce_14 (by decide +kernel) ?_
  refine jw_ishr (v := (p0 >>> (2 &&& 31))) hx hb dX12_isOnce_15 rfl ?_
  refine lv_iconst (v := 3) hx hb dX12_isOnce_16 (by decide +kernel) ?_
  refine jw_iand (v := 0) hx hb dX12_isOnce_17 (jw_bs1 g_p0 (by decide +kernel)) ?_
  refine jw_ishl (v := 1) hx hb dX12_isOnce_18 (by decide +kernel) ?_
  refine jw_ior (v := 5) hx hb dX12_isOnce_19 (by decide +kernel) ?_
  refine lv_istore_n (lv' := [(2, .int 5), (3, .int 1), (0, .int p0), (1, .int 2)]) hx hb dX12_isOnce_20 rfl hl (by decide) rfl (fun ls hl => ?_)
  refine lv_iinc (v := 2) (lv' := [(3, .int 2), (2, .int 5), (0, .int p0), (1, .int 2)]) hx hb dX12_isOnce_21 hl (k := 1) rfl (by decide +kernel) (by decide) rfl (fun ls hl => ?_)
  refine lv_goto (tgt := 4) hx hb dX12_isOnce_24 (by decide) ?_
  refine lv_iload_n hx hb dX12_isOnce_4 rfl (lv_at hl 0 rfl) ?_
  refine lv_iload_n hx hb dX12_isOnce_5 rfl (lv_at hl 3 rfl) ?_
  refine lv_icmp_ge (tgt := 27) hx hb dX12_isOnce_6 (by decide) (fun _ => ?_) (fun c9 => absurd (by decide +kernel) c9)
  refine lv_iload_n hx hb dX12_isOnce_27 rfl (lv_at hl 1 rfl) ?_
  refine lv_iconst (v := 1) hx hb dX12_isOnce_28 (by decide +kernel) ?_
  refine lv_iload_n hx hb dX12_isOnce_29 rfl (lv_at hl 3 rfl) ?_
  refine jw_ishl (v := 4) hx hb dX12_isOnce_30 (by decide +kernel) ?_
  refine lv_iconst (v := 1) hx hb dX12_isOnce_31 (by decide +kernel) ?_
  refine jw_isub (v := 3) hx hb dX12_isOnce_32 (by decide +kernel) ?_
  refine lv_icmp_ne (tgt := 40) hx hb dX12_isOnce_33 (by decide) (fun _ => ?_) (fun c9 => absurd c9 (by decide +kernel))
  refine lv_iconst (v := 0) hx hb dX12_isOnce_40 (by decide +kernel) ?_
  refine W.widen (k := 0) (n := 0) (Nat.le_of_ble_eq_true rfl) (Nat.le_of_ble_eq_true rfl) ?_
  exact jw_zret hx hb hr hlocks rfl rfl rfl hP hD hS dX12_isOnce_41
set_option maxHeartbeats 4000000 in
set_option maxRecDepth 100000 in
theorem k591_X12_arrange {l : Launch} {D : va_G} {Y : Nat → ClassId} {tt : Nat → Nat} (h0 h1 h2 h3 h4 h5 h6 h7 h8 h9 h10 h11 h12 h13 h14 h15 h16 h17 h18 h19 h20 h21 h22 h23 h24 h25 h26 h27 h28 h29 h30 h31 h32 h33 h34 h35 : Nat) (p1 : Int32) (g_p1 : p1.toBitVec.toNat % 16 = 2) (sz : Nat) : Met l yX12_arrange wsX12_arrange ({ frames := 1, cells := 0, slots := 0, locals := 23 }) (jw_Pc D Y tt [.ref h0, .int p1] [(h0, .inr (15, [.ref h1, .int 0, .int 0, .ref h2, .int 0, .int (-1), .int 0, .int 0, .int 0, .int 0, .int 0, .int 2, .int 0, .int 0, .int 0, .ref h3, .ref h4, .ref h5, .ref h6, .int 2, .int 0, .int 0, .int 0, .int 0, .ref h7, .ref h8, .ref h9, .ref h10, .int 2, .ref h11, .int 1, .ref h12, .ref h13, .int 1, .ref h14, .ref h15, .ref h16, .int 0, .ref h17, .ref h18, .ref h19, .ref h20, .ref h21, .ref h22, .ref h23, .ref h24, .ref h25, .int 0, .ref h26, .ref h27, .ref h28, .int (-1), .ref h29, .long 0, .long 0, .int 0, .int 0, .long 0, .long 0, .ref h30, .ref h31, .ref h32, .ref h33, .ref h34, .ref h35, .long 0]))] sz) (jw_Qi D (fun r => r = 0) (fun w => w = []) (va_A [(h0, .inr (15, [.ref h1, .int 0, .int 0, .ref h2, .int 0, .int (-1), .int 0, .int 0, .int 0, .int 0, .int 0, .int 2, .int 0, .int 0, .int 0, .ref h3, .ref h4, .ref h5, .ref h6, .int 2, .int 0, .int 0, .int 0, .int 0, .ref h7, .ref h8, .ref h9, .ref h10, .int 2, .ref h11, .int 1, .ref h12, .ref h13, .int 1, .ref h14, .ref h15, .ref h16, .int 0, .ref h17, .ref h18, .ref h19, .ref h20, .ref h21, .ref h22, .ref h23, .ref h24, .ref h25, .int 0, .ref h26, .ref h27, .ref h28, .int (-1), .ref h29, .long 0, .long 0, .int 0, .int 0, .long 0, .long 0, .ref h30, .ref h31, .ref h32, .ref h33, .ref h34, .ref h35, .long 0]))] sz)) 0 0 (va_A [(h0, .inr (15, [.ref h1, .int 0, .int 0, .ref h2, .int 0, .int (-1), .int 0, .int 0, .int 0, .int 0, .int 0, .int 2, .int 0, .int 0, .int 0, .ref h3, .ref h4, .ref h5, .ref h6, .int 2, .int 0, .int 0, .int 0, .int 0, .ref h7, .ref h8, .ref h9, .ref h10, .int 2, .ref h11, .int 1, .ref h12, .ref h13, .int 1, .ref h14, .ref h15, .ref h16, .int 0, .ref h17, .ref h18, .ref h19, .ref h20, .ref h21, .ref h22, .ref h23, .ref h24, .ref h25, .int 0, .ref h26, .ref h27, .ref h28, .int (-1), .ref h29, .long 0, .long 0, .int 0, .int 0, .long 0, .long 0, .ref h30, .ref h31, .ref h32, .ref h33, .ref h34, .ref h35, .long 0]))] sz) := by
  refine jw_met (fun A => jw_Qi D (fun r => r = 0) (fun w => w = []) A) (cc := cX12_arrange) (maxL := 3) (ret := (some .boolean)) pn_X12_arrange rfl rfl ?_
  intro p e s m below meth c A H locs ls hx hb hml hr hts hown hlocks hin hP hD hA hS hE hl
  have hown : s.vm.findClass RX12 = some m.cls := hown
  have hl : lv_has ls 3 [(0, .ref h0), (1, .int p1)] := hl
  refine lv_aload_n hx hb dX12_arrange_0 rfl (lv_at hl 0 rfl) ?_
  refine lv_iconst (v := 0) hx hb dX12_arrange_1 (by decide +kernel) ?_
  refine va_put (D := D) (ci := 15) (v := .int 0) (C := RX12) (T := TX12) (N := 66) hx hb hts iw_X12_arrange__X12 tyX12 tyX12_ok nmX12 hown hE.1 hP hD hS 0 rfl rfl 2 (by decide) (hts _ mw_X12_arrange__1) (fun _ h9 => h9) rfl (tyX12_ok 2 (by decide)) rfl rfl (Nat.le_of_ble_eq_true rfl) dX12_arrange_2 (fun H locs hP hD hS => ?_)
  have hP : va_P D vwCl [(h0, .inr (15, [.ref h1, .int 0, .int 0, .ref h2, .int 0, .int (-1), .int 0, .int 0, .int 0, .int 0, .int 0, .int 2, .int 0, .int 0, .int 0, .ref h3, .ref h4, .ref h5, .ref h6, .int 2, .int 0, .int 0, .int 0, .int 0, .ref h7, .ref h8, .ref h9, .ref h10, .int 2, .ref h11, .int 1, .ref h12, .ref h13, .int 1, .ref h14, .ref h15, .ref h16, .int 0, .ref h17, .ref h18, .ref h19, .ref h20, .ref h21, .ref h22, .ref h23, .ref h24, .ref h25, .int 0, .ref h26, .ref h27, .ref h28, .int (-1), .ref h29, .long 0, .long 0, .int 0, .int 0, .long 0, .long 0, .ref h30, .ref h31, .ref h32, .ref h33, .ref h34, .ref h35, .long 0]))] H := hP
  have hD : va_D A [(h0, .inr (15, [.ref h1, .int 0, .int 0, .ref h2, .int 0, .int (-1), .int 0, .int 0, .int 0, .int 0, .int 0, .int 2, .int 0, .int 0, .int 0, .ref h3, .ref h4, .ref h5, .ref h6, .int 2, .int 0, .int 0, .int 0, .int 0, .ref h7, .ref h8, .ref h9, .ref h10, .int 2, .ref h11, .int 1, .ref h12, .ref h13, .int 1, .ref h14, .ref h15, .ref h16, .int 0, .ref h17, .ref h18, .ref h19, .ref h20, .ref h21, .ref h22, .ref h23, .ref h24, .ref h25, .int 0, .ref h26, .ref h27, .ref h28, .int (-1), .ref h29, .long 0, .long 0, .int 0, .int 0, .long 0, .long 0, .ref h30, .ref h31, .ref h32, .ref h33, .ref h34, .ref h35, .long 0]))] := hD
  refine lv_iload_n hx hb dX12_arrange_5 rfl (lv_at hl 1 rfl) ?_
  refine lv_aload_n hx hb dX12_arrange_6 rfl (lv_at hl 0 rfl) ?_
  refine va_get (D := D) (ci := 15) (v := .int 2) (C := RX12) (T := TX12) (N := 66) hx hb hts iw_X12_arrange__X12 hown hE.1 hP 0 rfl rfl 11 (by decide) (hts _ mw_X12_arrange__2) (fun _ h9 => h9) rfl dX12_arrange_7 ?_
  refine jw_mi (wc := []) (cs := 0) (ss := 0) (va_runS (As := [.int p1, .int 2]) (rest := []) ⟨hx, hb, hml, hown, hts⟩ (k590_X12_isOnce p1 g_p1 H.size) (va_cwS 2 hts gX12_arrange_X12_isOnce rfl rfl rfl ydS_X12_isOnce ⟨Nat.le_of_ble_eq_true rfl, Nat.le_of_ble_eq_true rfl⟩) (jw_mpreS hP hD hS hA hE [] rfl) rfl rfl hl.1 rfl (lv_room (Nat.le_of_ble_eq_true rfl)) dX12_arrange_10 ⟨Nat.le_of_ble_eq_true rfl, Nat.le_of_ble_eq_true rfl⟩) hP hD hS hA [] rfl rfl rfl (fun r9 w1 H locs hr9 hw9 hP hD hS => ?_)
  subst hr9
  subst hw9
  have hP : va_P D vwCl [(h0, .inr (15, [.ref h1, .int 0, .int 0, .ref h2, .int 0, .int (-1), .int 0, .int 0, .int 0, .int 0, .int 0, .int 2, .int 0, .int 0, .int 0, .ref h3, .ref h4, .ref h5, .ref h6, .int 2, .int 0, .int 0, .int 0, .int 0, .ref h7, .ref h8, .ref h9, .ref h10, .int 2, .ref h11, .int 1, .ref h12, .ref h13, .int 1, .ref h14, .ref h15, .ref h16, .int 0, .ref h17, .ref h18, .ref h19, .ref h20, .ref h21, .ref h22, .ref h23, .ref h24, .ref h25, .int 0, .ref h26, .ref h27, .ref h28, .int (-1), .ref h29, .long 0, .long 0, .int 0, .int 0, .long 0, .long 0, .ref h30, .ref h31, .ref h32, .ref h33, .ref h34, .ref h35, .long 0]))] H := hP
  have hD : va_D A [(h0, .inr (15, [.ref h1, .int 0, .int 0, .ref h2, .int 0, .int (-1), .int 0, .int 0, .int 0, .int 0, .int 0, .int 2, .int 0, .int 0, .int 0, .ref h3, .ref h4, .ref h5, .ref h6, .int 2, .int 0, .int 0, .int 0, .int 0, .ref h7, .ref h8, .ref h9, .ref h10, .int 2, .ref h11, .int 1, .ref h12, .ref h13, .int 1, .ref h14, .ref h15, .ref h16, .int 0, .ref h17, .ref h18, .ref h19, .ref h20, .ref h21, .ref h22, .ref h23, .ref h24, .ref h25, .int 0, .ref h26, .ref h27, .ref h28, .int (-1), .ref h29, .long 0, .long 0, .int 0, .int 0, .long 0, .long 0, .ref h30, .ref h31, .ref h32, .ref h33, .ref h34, .ref h35, .long 0]))] := hD
  refine lv_if_ne (tgt := 18) hx hb dX12_arrange_13 (by decide) (fun c9 => absurd (by decide +kernel) c9) (fun _ => ?_)
  refine lv_iconst (v := 0) hx hb dX12_arrange_16 (by decide +kernel) ?_
  refine W.widen (k := 0) (n := 0) (Nat.le_of_ble_eq_true rfl) (Nat.le_of_ble_eq_true rfl) ?_
  have hP : va_P D vwCl [] H := hP.sub [] rfl
  have hD : va_D A [] := hD.sub [] rfl rfl
  exact jw_zret hx hb hr hlocks rfl rfl rfl hP hD hS dX12_arrange_17
set_option maxHeartbeats 4000000 in
set_option maxRecDepth 100000 in
theorem k592_X11_readTurns {l : Launch} {D : va_G} {Y : Nat → ClassId} {tt : Nat → Nat} (h0 : Nat) (p0 : Int32) (g_p0 : p0.toBitVec.toNat % 16 = 3) (sz : Nat) : Met l yX11_readTurns wsX11_readTurns ({ frames := 0, cells := 0, slots := 0, locals := 0 }) (jw_Pc D Y tt [.int p0, .int 2, .ref h0] [] sz) (jw_Qi D (fun r => r = 0) (fun w => w = []) (va_A [] sz)) 0 0 (va_A [] sz) := by
  refine jw_met (fun A => jw_Qi D (fun r => r = 0) (fun w => w = []) A) (cc := cX11_readTurns) (maxL := 5) (ret := (some .boolean)) pn_X11_readTurns rfl rfl ?_
  intro p e s m below meth c A H locs ls hx hb hml hr hts hown hlocks hin hP hD hA hS hE hl
  have hown : s.vm.findClass RX11 = some m.cls := hown
  have hl : lv_has ls 5 [(0, .int p0), (1, .int 2), (2, .ref h0)] := hl
  refine lv_iconst (v := 0) hx hb dX11_readTurns_0 (by decide +kernel) ?_
  refine lv_istore_n (lv' := [(3, .int 0), (0, .int p0), (1, .int 2), (2, .ref h0)]) hx hb dX11_readTurns_1 rfl hl (by decide) rfl (fun ls hl => ?_)
  refine lv_iconst (v := 0) hx hb dX11_readTurns_2 (by decide +kernel) ?_
  refine lv_istore (lv' := [(4, .int 0), (3, .int 0), (0, .int p0), (1, .int 2), (2, .ref h0)]) hx hb dX11_readTurns_3 hl (by decide) rfl (fun ls hl => ?_)
  refine lv_iload hx hb dX11_readTurns_5 (lv_at hl 0 rfl) ?_
  refine lv_iload_n hx hb dX11_readTurns_7 rfl (lv_at hl 3 rfl) ?_
  refine lv_icmp_ge (tgt := 30) hx hb dX11_readTurns_8 (by decide) (fun c9 => absurd c9 (by decide +kernel)) (fun _ => ?_)
  refine lv_iload_n hx hb dX11_readTurns_11 rfl (lv_at hl 1 rfl) ?_
  refine lv_iconst (v := 1) hx hb dX11_readTurns_12 (by decide +kernel) ?_
  refine lv_iload_n hx hb dX11_readTurns_13 rfl (lv_at hl 2 rfl) ?_
  refine lv_iconst (v := 2) hx hb dX11_readTurns_14 (by decide +kernel) ?_
  refine lv_iload hx hb dX11_readTurns_15 (lv_at hl 0 rfl) ?_
  refine jw_imul (v := 0) hx hb dX11_readTurns_17 (by decide +kernel) ?_
  refine lv_iushr (v := (p0.toUInt32 >>> ((0 : Int32).toUInt32 &&& Int32.toUInt32 31)).toInt32) hx hb dX11_readTurns_18 rfl ?_
  refine lv_iconst (v := 3) hx hb dX11_readTurns_19 (by decide +kernel) ?_
  refine jw_iand (v := 3) hx hb dX11_readTurns_20 (jw_bu0 g_p0 (by decide +kernel)) ?_
  refine jw_ishl (v := 8) hx hb dX11_readTurns_21 (by decide +kernel) ?_
  refine jw_ior (v := 8) hx hb dX11_readTurns_22 (by decide +kernel) ?_
  refine lv_istore_n (lv' := [(3, .int 8), (4, .int 0), (0, .int p0), (1, .int 2), (2, .ref h0)]) hx hb dX11_readTurns_23 rfl hl (by decide) rfl (fun ls hl => ?_)
  refine lv_iinc (v := 1) (lv' := [(4, .int 1), (3, .int 8), (0, .int p0), (1, .int 2), (2, .ref h0)]) hx hb dX11_readTurns_24 hl (k := 1) rfl (by decide +kernel) (by decide) rfl (fun ls hl => ?_)
  refine lv_goto (tgt := 5) hx hb dX11_readTurns_27 (by decide) ?_
  refine lv_iload hx hb dX11_readTurns_5 (lv_at hl 0 rfl) ?_
  refine lv_iload_n hx hb dX11_readTurns_7 rfl (lv_at hl 3 rfl) ?_
  refine lv_icmp_ge (tgt := 30) hx hb dX11_readTurns_8 (by decide) (fun c9 => absurd c9 (by decide +kernel)) (fun _ => ?_)
  refine lv_iload_n hx hb dX11_readTurns_11 rfl (lv_at hl 1 rfl) ?_
  refine lv_iconst (v := 1) hx hb dX11_readTurns_12 (by decide +kernel) ?_
  refine lv_iload_n hx hb dX11_readTurns_13 rfl (lv_at hl 2 rfl) ?_
  refine lv_iconst (v := 2) hx hb dX11_readTurns_14 (by decide +kernel) ?_
  refine lv_iload hx hb dX11_readTurns_15 (lv_at hl 0 rfl) ?_
  refine jw_imul (v := 2) hx hb dX11_readTurns_17 (by decide +kernel) ?_
  refine lv_iushr (v := (p0.toUInt32 >>> ((2 : Int32).toUInt32 &&& Int32.toUInt32 31)).toInt32) hx hb dX11_readTurns_18 rfl ?_
  refine lv_iconst (v := 3) hx hb dX11_readTurns_19 (by decide +kernel) ?_
  refine jw_iand (v := 0) hx hb dX11_readTurns_20 (jw_bu1 g_p0 (by decide +kernel)) ?_
  refine jw_ishl (v := 1) hx hb dX11_readTurns_21 (by decide +kernel) ?_
  refine jw_ior (v := 9) hx hb dX11_readTurns_22 (by decide +kernel) ?_
  refine lv_istore_n (lv' := [(3, .int 9), (4, .int 1), (0, .int p0), (1, .int 2), (2, .ref h0)]) hx hb dX11_readTurns_23 rfl hl (by decide) rfl (fun ls hl => ?_)
  refine lv_iinc (v := 2) (lv' := [(4, .int 2), (3, .int 9), (0, .int p0), (1, .int 2), (2, .ref h0)]) hx hb dX11_readTurns_24 hl (k := 1) rfl (by decide +kernel) (by decide) rfl (fun ls hl => ?_)
  refine lv_goto (tgt := 5) hx hb dX11_readTurns_27 (by decide) ?_
  refine lv_iload hx hb dX11_readTurns_5 (lv_at hl 0 rfl) ?_
  refine lv_iload_n hx hb dX11_readTurns_7 rfl (lv_at hl 3 rfl) ?_
  refine lv_icmp_ge (tgt := 30) hx hb dX11_readTurns_8 (by decide) (fun _ => ?_) (fun c9 => absurd (by decide +kernel) c9)
  refine lv_iload_n hx hb dX11_readTurns_30 rfl (lv_at hl 1 rfl) ?_
  refine lv_iconst (v := 1) hx hb dX11_readTurns_31 (by decide +kernel) ?_
  refine lv_iload_n hx hb dX11_readTurns_32 rfl (lv_at hl 3 rfl) ?_
  refine jw_ishl (v := 4) hx hb dX11_readTurns_33 (by decide +kernel) ?_
  refine lv_iconst (v := 1) hx hb dX11_readTurns_34 (by decide +kernel) ?_
  refine jw_isub (v := 3) hx hb dX11_readTurns_35 (by decide +kernel) ?_
  refine lv_icmp_eq (tgt := 41) hx hb dX11_readTurns_36 (by decide) (fun c9 => absurd c9 (by decide +kernel)) (fun _ => ?_)
  refine lv_iconst (v := 0) hx hb dX11_readTurns_39 (by decide +kernel) ?_
  refine W.widen (k := 0) (n := 0) (Nat.le_of_ble_eq_true rfl) (Nat.le_of_ble_eq_true rfl) ?_
  exact jw_zret hx hb hr hlocks rfl rfl rfl hP hD hS dX11_readTurns_40
set_option maxHeartbeats 4000000 in
set_option maxRecDepth 100000 in
theorem k593_X11_arrange {l : Launch} {D : va_G} {Y : Nat → ClassId} {tt : Nat → Nat} (h0 h1 h2 h3 h4 h5 h6 h7 h8 h9 h10 h11 h12 h13 h14 h15 h16 h17 h18 h19 h20 h21 h22 h23 h24 h25 : Nat) (p1 : Int32) (g_p1 : p1.toBitVec.toNat % 16 = 3) (sz : Nat) : Met l yX11_arrange wsX11_arrange ({ frames := 1, cells := 0, slots := 0, locals := 24 }) (jw_Pc D Y tt [.ref h0, .int p1] [(h0, .inr (14, [.ref h3, .int 0, .ref h1, .ref h4, .ref h5, .ref h6, .ref h2, .ref h7, .ref h8, .ref h9, .ref h10, .ref h11, .ref h12, .ref h13, .ref h14, .ref h15, .int (-3), .int (-3)])), (h1, .inr (6, [.int 2, .int 0, .int 0, .int 0, .int 0, .ref h16, .ref h17, .ref h18, .ref h19, .ref h20, .int 0])), (h2, .inr (11, [.ref h1, .ref h5, .ref h21, .ref h22, .ref h23, .ref h24, .int 0, .ref h25]))] sz) (jw_Qi D (fun r => r = 0) (fun w => w = []) (va_A [(h0, .inr (14, [.ref h3, .int 0, .ref h1, .ref h4, .ref h5, .ref h6, .ref h2, .ref h7, .ref h8, .ref h9, .ref h10, .ref h11, .ref h12, .ref h13, .ref h14, .ref h15, .int (-3), .int (-3)])), (h1, .inr (6, [.int 2, .int 0, .int 0, .int 0, .int 0, .ref h16, .ref h17, .ref h18, .ref h19, .ref h20, .int 0])), (h2, .inr (11, [.ref h1, .ref h5, .ref h21, .ref h22, .ref h23, .ref h24, .int 0, .ref h25]))] sz)) 0 0 (va_A [(h0, .inr (14, [.ref h3, .int 0, .ref h1, .ref h4, .ref h5, .ref h6, .ref h2, .ref h7, .ref h8, .ref h9, .ref h10, .ref h11, .ref h12, .ref h13, .ref h14, .ref h15, .int (-3), .int (-3)])), (h1, .inr (6, [.int 2, .int 0, .int 0, .int 0, .int 0, .ref h16, .ref h17, .ref h18, .ref h19, .ref h20, .int 0])), (h2, .inr (11, [.ref h1, .ref h5, .ref h21, .ref h22, .ref h23, .ref h24, .int 0, .ref h25]))] sz) := by
  refine jw_met (fun A => jw_Qi D (fun r => r = 0) (fun w => w = []) A) (cc := cX11_arrange) (maxL := 2) (ret := (some .boolean)) pn_X11_arrange rfl rfl ?_
  intro p e s m below meth c A H locs ls hx hb hml hr hts hown hlocks hin hP hD hA hS hE hl
  have hown : s.vm.findClass RX11 = some m.cls := hown
  have hl : lv_has ls 2 [(0, .ref h0), (1, .int p1)] := hl
  refine lv_iload_n hx hb dX11_arrange_0 rfl (lv_at hl 1 rfl) ?_
  refine lv_aload_n hx hb dX11_arrange_1 rfl (lv_at hl 0 rfl) ?_
  refine va_get (D := D) (ci := 14) (v := .ref h1) (C := RX11) (T := TX11) (N := 18) hx hb hts iw_X11_arrange__X11 hown hE.1 hP 0 rfl rfl 2 (by decide) (hts _ mw_X11_arrange__1) (fun _ h9 => h9) rfl dX11_arrange_2 ?_
  refine va_getN (D := D) (ci := 6) (v := .int 2) (C := RX3) (T := TX3) (N := 11) hx hb hts iw_X11_arrange__X3 hown hE.1 hP 1 rfl rfl 0 (by decide) (nf_X11_133 hE) (fun _ h9 => h9) rfl dX11_arrange_5 ?_
  refine lv_aload_n hx hb dX11_arrange_8 rfl (lv_at hl 0 rfl) ?_
  refine va_get (D := D) (ci := 14) (v := .ref h2) (C := RX11) (T := TX11) (N := 18) hx hb hts iw_X11_arrange__X11 hown hE.1 hP 0 rfl rfl 6 (by decide) (hts _ mw_X11_arrange__2) (fun _ h9 => h9) rfl dX11_arrange_9 ?_
  refine va_getN (D := D) (ci := 11) (v := .ref h22) (C := RX8) (T := TX8) (N := 8) hx hb hts iw_X11_arrange__X8 hown hE.1 hP 2 rfl rfl 3 (by decide) (nf_X11_221 hE) (fun _ h9 => h9) rfl dX11_arrange_12 ?_
  refine jw_mi (wc := []) (cs := 0) (ss := 0) (va_runS (As := [.int p1, .int 2, .ref h22]) (rest := []) ⟨hx, hb, hml, hown, hts⟩ (k592_X11_readTurns h22 p1 g_p1 H.size) (va_cwS 3 hts gX11_arrange_X11_readTurns rfl rfl rfl ydS_X11_readTurns ⟨Nat.le_of_ble_eq_true rfl, Nat.le_of_ble_eq_true rfl⟩) (jw_mpreS hP hD hS hA hE [] rfl) rfl rfl hl.1 rfl (lv_room (Nat.le_of_ble_eq_true rfl)) dX11_arrange_15 ⟨Nat.le_of_ble_eq_true rfl, Nat.le_of_ble_eq_true rfl⟩) hP hD hS hA [] rfl rfl rfl (fun r9 w1 H locs hr9 hw9 hP hD hS => ?_)
  subst hr9
  subst hw9
  have hP : va_P D vwCl [(h0, .inr (14, [.ref h3, .int 0, .ref h1, .ref h4, .ref h5, .ref h6, .ref h2, .ref h7, .ref h8, .ref h9, .ref h10, .ref h11, .ref h12, .ref h13, .ref h14, .ref h15, .int (-3), .int (-3)])), (h1, .inr (6, [.int 2, .int 0, .int 0, .int 0, .int 0, .ref h16, .ref h17, .ref h18, .ref h19, .ref h20, .int 0])), (h2, .inr (11, [.ref h1, .ref h5, .ref h21, .ref h22, .ref h23, .ref h24, .int 0, .ref h25]))] H := hP
  have hD : va_D A [(h0, .inr (14, [.ref h3, .int 0, .ref h1, .ref h4, .ref h5, .ref h6, .ref h2, .ref h7, .ref h8, .ref h9, .ref h10, .ref h11, .ref h12, .ref h13, .ref h14, .ref h15, .int (-3), .int (-3)])), (h1, .inr (6, [.int 2, .int 0, .int 0, .int 0, .int 0, .ref h16, .ref h17, .ref h18, .ref h19, .ref h20, .int 0])), (h2, .inr (11, [.ref h1, .ref h5, .ref h21, .ref h22, .ref h23, .ref h24, .int 0, .ref h25]))] := hD
  refine lv_if_ne (tgt := 23) hx hb dX11_arrange_18 (by decide) (fun c9 => absurd (by decide +kernel) c9) (fun _ => ?_)
  refine lv_iconst (v := 0) hx hb dX11_arrange_21 (by decide +kernel) ?_
  refine W.widen (k := 0) (n := 0) (Nat.le_of_ble_eq_true rfl) (Nat.le_of_ble_eq_true rfl) ?_
  have hP : va_P D vwCl [] H := hP.sub [] rfl
  have hD : va_D A [] := hD.sub [] rfl rfl
  exact jw_zret hx hb hr hlocks rfl rfl rfl hP hD hS dX11_arrange_22
set_option maxHeartbeats 4000000 in
set_option maxRecDepth 100000 in
theorem k594_X12_isOnce {l : Launch} {D : va_G} {Y : Nat → ClassId} {tt : Nat → Nat} (p0 : Int32) (g_p0 : p0.toBitVec.toNat % 16 = 3) (sz : Nat) : Met l yX12_isOnce wsX12_isOnce ({ frames := 0, cells := 0, slots := 0, locals := 0 }) (jw_Pc D Y tt [.int p0, .int 2] [] sz) (jw_Qi D (fun r => r = 0) (fun w => w = []) (va_A [] sz)) 0 0 (va_A [] sz) := by
  refine jw_met (fun A => jw_Qi D (fun r => r = 0) (fun w => w = []) A) (cc := cX12_isOnce) (maxL := 4) (ret := (some .boolean)) pn_X12_isOnce rfl rfl ?_
  intro p e s m below meth c A H locs ls hx hb hml hr hts hown hlocks hin hP hD hA hS hE hl
  have hown : s.vm.findClass RX12 = some m.cls := hown
  have hl : lv_has ls 4 [(0, .int p0), (1, .int 2)] := hl
  refine lv_iconst (v := 0) hx hb dX12_isOnce_0 (by decide +kernel) ?_
  refine lv_istore_n (lv' := [(2, .int 0), (0, .int p0), (1, .int 2)]) hx hb dX12_isOnce_1 rfl hl (by decide) rfl (fun ls hl => ?_)
  refine lv_iconst (v := 0) hx hb dX12_isOnce_2 (by decide +kernel) ?_
  refine lv_istore_n (lv' := [(3, .int 0), (2, .int 0), (0, .int p0), (1, .int 2)]) hx hb dX12_isOnce_3 rfl hl (by decide) rfl (fun ls hl => ?_)
  refine lv_iload_n hx hb dX12_isOnce_4 rfl (lv_at hl 0 rfl) ?_
  refine lv_iload_n hx hb dX12_isOnce_5 rfl (lv_at hl 3 rfl) ?_
  refine lv_icmp_ge (tgt := 27) hx hb dX12_isOnce_6 (by decide) (fun c9 => absurd c9 (by decide +kernel)) (fun _ => ?_)
  refine lv_iload_n hx hb dX12_isOnce_9 rfl (lv_at hl 1 rfl) ?_
  refine lv_iconst (v := 1) hx hb dX12_isOnce_10 (by decide +kernel) ?_
  refine lv_iload_n hx hb dX12_isOnce_11 rfl (lv_at hl 2 rfl) ?_
  refine lv_iconst (v := 2) hx hb dX12_isOnce_12 (by decide +kernel) ?_
  refine lv_iload_n hx hb dX12_isOnce_13 rfl (lv_at hl 0 rfl) ?_
  refine jw_imul (v := 0) hx hb dX12_isOnce_14 (by decide +kernel) ?_
  refine jw_ishr (v := (p0 >>> (0 &&& 31))) hx hb dX12_isOnce_15 rfl ?_
  refine lv_iconst (v := 3) hx hb dX12_isOnce_16 (by decide +kernel) ?_
  refine jw_iand (v := 3) hx hb dX12_isOnce_17 (jw_bs0 g_p0 (by decide +kernel)) ?_
  refine jw_ishl (v := 8) hx hb dX12_isOnce_18 (by decide +kernel) ?_
  refine jw_ior (v := 8) hx hb dX12_isOnce_19 (by decide +kernel) ?_
  refine lv_istore_n (lv' := [(2, .int 8), (3, .int 0), (0, .int p0), (1, .int 2)]) hx hb dX12_isOnce_20 rfl hl (by decide) rfl (fun ls hl => ?_)
  refine lv_iinc (v := 1) (lv' := [(3, .int 1), (2, .int 8), (0, .int p0), (1, .int 2)]) hx hb dX12_isOnce_21 hl (k := 1) rfl (by decide +kernel) (by decide) rfl (fun ls hl => ?_)
  refine lv_goto (tgt := 4) hx hb dX12_isOnce_24 (by decide) ?_
  refine lv_iload_n hx hb dX12_isOnce_4 rfl (lv_at hl 0 rfl) ?_
  refine lv_iload_n hx hb dX12_isOnce_5 rfl (lv_at hl 3 rfl) ?_
  refine lv_icmp_ge (tgt := 27) hx hb dX12_isOnce_6 (by decide) (fun c9 => absurd c9 (by decide +kernel)) (fun _ => ?_)
  refine lv_iload_n hx hb dX12_isOnce_9 rfl (lv_at hl 1 rfl) ?_
  refine lv_iconst (v := 1) hx hb dX12_isOnce_10 (by decide +kernel) ?_
  refine lv_iload_n hx hb dX12_isOnce_11 rfl (lv_at hl 2 rfl) ?_
  refine lv_iconst (v := 2) hx hb dX12_isOnce_12 (by decide +kernel) ?_
  refine lv_iload_n hx hb dX12_isOnce_13 rfl (lv_at hl 0 rfl) ?_
  refine jw_imul (v := 2) hx hb dX12_isOnce_14 (by decide +kernel) ?_
  refine jw_ishr (v := (p0 >>> (2 &&& 31))) hx hb dX12_isOnce_15 rfl ?_
  refine lv_iconst (v := 3) hx hb dX12_isOnce_16 (by decide +kernel) ?_
  refine jw_iand (v := 0) hx hb dX12_isOnce_17 (jw_bs1 g_p0 (by decide +kernel)) ?_
  refine jw_ishl (v := 1) hx hb dX12_isOnce_18 (by decide +kernel) ?_
  refine jw_ior (v := 9) hx hb dX12_isOnce_19 (by decide +kernel) ?_
  refine lv_istore_n (lv' := [(2, .int 9), (3, .int 1), (0, .int p0), (1, .int 2)]) hx hb dX12_isOnce_20 rfl hl (by decide) rfl (fun ls hl => ?_)
  refine lv_iinc (v := 2) (lv' := [(3, .int 2), (2, .int 9), (0, .int p0), (1, .int 2)]) hx hb dX12_isOnce_21 hl (k := 1) rfl (by decide +kernel) (by decide) rfl (fun ls hl => ?_)
  refine lv_goto (tgt := 4) hx hb dX12_isOnce_24 (by decide) ?_
  refine lv_iload_n hx hb dX12_isOnce_4 rfl (lv_at hl 0 rfl) ?_
  refine lv_iload_n hx hb dX12_isOnce_5 rfl (lv_at hl 3 rfl) ?_
  refine lv_icmp_ge (tgt := 27) hx hb dX12_isOnce_6 (by decide) (fun _ => ?_) (fun c9 => absurd (by decide +kernel) c9)
  refine lv_iload_n hx hb dX12_isOnce_27 rfl (lv_at hl 1 rfl) ?_
  refine lv_iconst (v := 1) hx hb dX12_isOnce_28 (by decide +kernel) ?_
  refine lv_iload_n hx hb dX12_isOnce_29 rfl (lv_at hl 3 rfl) ?_
  refine jw_ishl (v := 4) hx hb dX12_isOnce_30 (by decide +kernel) ?_
  refine lv_iconst (v := 1) hx hb dX12_isOnce_31 (by decide +kernel) ?_
  refine jw_isub (v := 3) hx hb dX12_isOnce_32 (by decide +kernel) ?_
  refine lv_icmp_ne (tgt := 40) hx hb dX12_isOnce_33 (by decide) (fun _ => ?_) (fun c9 => absurd c9 (by decide +kernel))
  refine lv_iconst (v := 0) hx hb dX12_isOnce_40 (by decide +kernel) ?_
  refine W.widen (k := 0) (n := 0) (Nat.le_of_ble_eq_true rfl) (Nat.le_of_ble_eq_true rfl) ?_
  exact jw_zret hx hb hr hlocks rfl rfl rfl hP hD hS dX12_isOnce_41
set_option maxHeartbeats 4000000 in
set_option maxRecDepth 100000 in
theorem k595_X12_arrange {l : Launch} {D : va_G} {Y : Nat → ClassId} {tt : Nat → Nat} (h0 h1 h2 h3 h4 h5 h6 h7 h8 h9 h10 h11 h12 h13 h14 h15 h16 h17 h18 h19 h20 h21 h22 h23 h24 h25 h26 h27 h28 h29 h30 h31 h32 h33 h34 h35 : Nat) (p1 : Int32) (g_p1 : p1.toBitVec.toNat % 16 = 3) (sz : Nat) : Met l yX12_arrange wsX12_arrange ({ frames := 1, cells := 0, slots := 0, locals := 23 }) (jw_Pc D Y tt [.ref h0, .int p1] [(h0, .inr (15, [.ref h1, .int 0, .int 0, .ref h2, .int 0, .int (-1), .int 0, .int 0, .int 0, .int 0, .int 0, .int 2, .int 0, .int 0, .int 0, .ref h3, .ref h4, .ref h5, .ref h6, .int 2, .int 0, .int 0, .int 0, .int 0, .ref h7, .ref h8, .ref h9, .ref h10, .int 2, .ref h11, .int 1, .ref h12, .ref h13, .int 1, .ref h14, .ref h15, .ref h16, .int 0, .ref h17, .ref h18, .ref h19, .ref h20, .ref h21, .ref h22, .ref h23, .ref h24, .ref h25, .int 0, .ref h26, .ref h27, .ref h28, .int (-1), .ref h29, .long 0, .long 0, .int 0, .int 0, .long 0, .long 0, .ref h30, .ref h31, .ref h32, .ref h33, .ref h34, .ref h35, .long 0]))] sz) (jw_Qi D (fun r => r = 0) (fun w => w = []) (va_A [(h0, .inr (15, [.ref h1, .int 0, .int 0, .ref h2, .int 0, .int (-1), .int 0, .int 0, .int 0, .int 0, .int 0, .int 2, .int 0, .int 0, .int 0, .ref h3, .ref h4, .ref h5, .ref h6, .int 2, .int 0, .int 0, .int 0, .int 0, .ref h7, .ref h8, .ref h9, .ref h10, .int 2, .ref h11, .int 1, .ref h12, .ref h13, .int 1, .ref h14, .ref h15, .ref h16, .int 0, .ref h17, .ref h18, .ref h19, .ref h20, .ref h21, .ref h22, .ref h23, .ref h24, .ref h25, .int 0, .ref h26, .ref h27, .ref h28, .int (-1), .ref h29, .long 0, .long 0, .int 0, .int 0, .long 0, .long 0, .ref h30, .ref h31, .ref h32, .ref h33, .ref h34, .ref h35, .long 0]))] sz)) 0 0 (va_A [(h0, .inr (15, [.ref h1, .int 0, .int 0, .ref h2, .int 0, .int (-1), .int 0, .int 0, .int 0, .int 0, .int 0, .int 2, .int 0, .int 0, .int 0, .ref h3, .ref h4, .ref h5, .ref h6, .int 2, .int 0, .int 0, .int 0, .int 0, .ref h7, .ref h8, .ref h9, .ref h10, .int 2, .ref h11, .int 1, .ref h12, .ref h13, .int 1, .ref h14, .ref h15, .ref h16, .int 0, .ref h17, .ref h18, .ref h19, .ref h20, .ref h21, .ref h22, .ref h23, .ref h24, .ref h25, .int 0, .ref h26, .ref h27, .ref h28, .int (-1), .ref h29, .long 0, .long 0, .int 0, .int 0, .long 0, .long 0, .ref h30, .ref h31, .ref h32, .ref h33, .ref h34, .ref h35, .long 0]))] sz) := by
  refine jw_met (fun A => jw_Qi D (fun r => r = 0) (fun w => w = []) A) (cc := cX12_arrange) (maxL := 3) (ret := (some .boolean)) pn_X12_arrange rfl rfl ?_
  intro p e s m below meth c A H locs ls hx hb hml hr hts hown hlocks hin hP hD hA hS hE hl
  have hown : s.vm.findClass RX12 = some m.cls := hown
  have hl : lv_has ls 3 [(0, .ref h0), (1, .int p1)] := hl
  refine lv_aload_n hx hb dX12_arrange_0 rfl (lv_at hl 0 rfl) ?_
  refine lv_iconst (v := 0) hx hb dX12_arrange_1 (by decide +kernel) ?_
  refine va_put (D := D) (ci := 15) (v := .int 0) (C := RX12) (T := TX12) (N := 66) hx hb hts iw_X12_arrange__X12 tyX12 tyX12_ok nmX12 hown hE.1 hP hD hS 0 rfl rfl 2 (by decide) (hts _ mw_X12_arrange__1) (fun _ h9 => h9) rfl (tyX12_ok 2 (by decide)) rfl rfl (Nat.le_of_ble_eq_true rfl) dX12_arrange_2 (fun H locs hP hD hS => ?_)
  have hP : va_P D vwCl [(h0, .inr (15, [.ref h1, .int 0, .int 0, .ref h2, .int 0, .int (-1), .int 0, .int 0, .int 0, .int 0, .int 0, .int 2, .int 0, .int 0, .int 0, .ref h3, .ref h4, .ref h5, .ref h6, .int 2, .int 0, .int 0, .int 0, .int 0, .ref h7, .ref h8, .ref h9, .ref h10, .int 2, .ref h11, .int 1, .ref h12, .ref h13, .int 1, .ref h14, .ref h15, .ref h16, .int 0, .ref h17, .ref h18, .ref h19, .ref h20, .ref h21, .ref h22, .ref h23, .ref h24, .ref h25, .int 0, .ref h26, .ref h27, .ref h28, .int (-1), .ref h29, .long 0, .long 0, .int 0, .int 0, .long 0, .long 0, .ref h30, .ref h31, .ref h32, .ref h33, .ref h34, .ref h35, .long 0]))] H := hP
  have hD : va_D A [(h0, .inr (15, [.ref h1, .int 0, .int 0, .ref h2, .int 0, .int (-1), .int 0, .int 0, .int 0, .int 0, .int 0, .int 2, .int 0, .int 0, .int 0, .ref h3, .ref h4, .ref h5, .ref h6, .int 2, .int 0, .int 0, .int 0, .int 0, .ref h7, .ref h8, .ref h9, .ref h10, .int 2, .ref h11, .int 1, .ref h12, .ref h13, .int 1, .ref h14, .ref h15, .ref h16, .int 0, .ref h17, .ref h18, .ref h19, .ref h20, .ref h21, .ref h22, .ref h23, .ref h24, .ref h25, .int 0, .ref h26, .ref h27, .ref h28, .int (-1), .ref h29, .long 0, .long 0, .int 0, .int 0, .long 0, .long 0, .ref h30, .ref h31, .ref h32, .ref h33, .ref h34, .ref h35, .long 0]))] := hD
  refine lv_iload_n hx hb dX12_arrange_5 rfl (lv_at hl 1 rfl) ?_
  refine lv_aload_n hx hb dX12_arrange_6 rfl (lv_at hl 0 rfl) ?_
  refine va_get (D := D) (ci := 15) (v := .int 2) (C := RX12) (T := TX12) (N := 66) hx hb hts iw_X12_arrange__X12 hown hE.1 hP 0 rfl rfl 11 (by decide) (hts _ mw_X12_arrange__2) (fun _ h9 => h9) rfl dX12_arrange_7 ?_
  refine jw_mi (wc := []) (cs := 0) (ss := 0) (va_runS (As := [.int p1, .int 2]) (rest := []) ⟨hx, hb, hml, hown, hts⟩ (k594_X12_isOnce p1 g_p1 H.size) (va_cwS 2 hts gX12_arrange_X12_isOnce rfl rfl rfl ydS_X12_isOnce ⟨Nat.le_of_ble_eq_true rfl, Nat.le_of_ble_eq_true rfl⟩) (jw_mpreS hP hD hS hA hE [] rfl) rfl rfl hl.1 rfl (lv_room (Nat.le_of_ble_eq_true rfl)) dX12_arrange_10 ⟨Nat.le_of_ble_eq_true rfl, Nat.le_of_ble_eq_true rfl⟩) hP hD hS hA [] rfl rfl rfl (fun r9 w1 H locs hr9 hw9 hP hD hS => ?_)
  subst hr9
  subst hw9
  have hP : va_P D vwCl [(h0, .inr (15, [.ref h1, .int 0, .int 0, .ref h2, .int 0, .int (-1), .int 0, .int 0, .int 0, .int 0, .int 0, .int 2, .int 0, .int 0, .int 0, .ref h3, .ref h4, .ref h5, .ref h6, .int 2, .int 0, .int 0, .int 0, .int 0, .ref h7, .ref h8, .ref h9, .ref h10, .int 2, .ref h11, .int 1, .ref h12, .ref h13, .int 1, .ref h14, .ref h15, .ref h16, .int 0, .ref h17, .ref h18, .ref h19, .ref h20, .ref h21, .ref h22, .ref h23, .ref h24, .ref h25, .int 0, .ref h26, .ref h27, .ref h28, .int (-1), .ref h29, .long 0, .long 0, .int 0, .int 0, .long 0, .long 0, .ref h30, .ref h31, .ref h32, .ref h33, .ref h34, .ref h35, .long 0]))] H := hP
  have hD : va_D A [(h0, .inr (15, [.ref h1, .int 0, .int 0, .ref h2, .int 0, .int (-1), .int 0, .int 0, .int 0, .int 0, .int 0, .int 2, .int 0, .int 0, .int 0, .ref h3, .ref h4, .ref h5, .ref h6, .int 2, .int 0, .int 0, .int 0, .int 0, .ref h7, .ref h8, .ref h9, .ref h10, .int 2, .ref h11, .int 1, .ref h12, .ref h13, .int 1, .ref h14, .ref h15, .ref h16, .int 0, .ref h17, .ref h18, .ref h19, .ref h20, .ref h21, .ref h22, .ref h23, .ref h24, .ref h25, .int 0, .ref h26, .ref h27, .ref h28, .int (-1), .ref h29, .long 0, .long 0, .int 0, .int 0, .long 0, .long 0, .ref h30, .ref h31, .ref h32, .ref h33, .ref h34, .ref h35, .long 0]))] := hD
  refine lv_if_ne (tgt := 18) hx hb dX12_arrange_13 (by decide) (fun c9 => absurd (by decide +kernel) c9) (fun _ => ?_)
  refine lv_iconst (v := 0) hx hb dX12_arrange_16 (by decide +kernel) ?_
  refine W.widen (k := 0) (n := 0) (Nat.le_of_ble_eq_true rfl) (Nat.le_of_ble_eq_true rfl) ?_
  have hP : va_P D vwCl [] H := hP.sub [] rfl
  have hD : va_D A [] := hD.sub [] rfl rfl
  exact jw_zret hx hb hr hlocks rfl rfl rfl hP hD hS dX12_arrange_17
set_option maxHeartbeats 4000000 in
set_option maxRecDepth 100000 in
theorem k596_X11_readTurns {l : Launch} {D : va_G} {Y : Nat → ClassId} {tt : Nat → Nat} (h0 : Nat) (p0 : Int32) (g_p0 : p0.toBitVec.toNat % 16 = 4) (sz : Nat) : Met l yX11_readTurns wsX11_readTurns ({ frames := 0, cells := 0, slots := 0, locals := 0 }) (jw_Pc D Y tt [.int p0, .int 2, .ref h0] [(h0, .inl (Y 1, 4, .inl (jw_l 0 [0, 1, 2, 3])))] sz) (jw_Qi D (fun r => r = 1) (fun w => w = [(h0, .inl (Y 1, 4, .inl (jw_l 0 [0, 1, 2, 3])))]) (va_A [(h0, .inl (Y 1, 4, .inl (jw_l 0 [0, 1, 2, 3])))] sz)) 0 0 (va_A [(h0, .inl (Y 1, 4, .inl (jw_l 0 [0, 1, 2, 3])))] sz) := by
  refine jw_met (fun A => jw_Qi D (fun r => r = 1) (fun w => w = [(h0, .inl (Y 1, 4, .inl (jw_l 0 [0, 1, 2, 3])))]) A) (cc := cX11_readTurns) (maxL := 5) (ret := (some .boolean)) pn_X11_readTurns rfl rfl ?_
  intro p e s m below meth c A H locs ls hx hb hml hr hts hown hlocks hin hP hD hA hS hE hl
  have hown : s.vm.findClass RX11 = some m.cls := hown
  have hl : lv_has ls 5 [(0, .int p0), (1, .int 2), (2, .ref h0)] := hl
  refine lv_iconst (v := 0) hx hb dX11_readTurns_0 (by decide +kernel) ?_
  refine lv_istore_n (lv' := [(3, .int 0), (0, .int p0), (1, .int 2), (2, .ref h0)]) hx hb dX11_readTurns_1 rfl hl (by decide) rfl (fun ls hl => ?_)
  refine lv_iconst (v := 0) hx hb dX11_readTurns_2 (by decide +kernel) ?_
  refine lv_istore (lv' := [(4, .int 0), (3, .int 0), (0, .int p0), (1, .int 2), (2, .ref h0)]) hx hb dX11_readTurns_3 hl (by decide) rfl (fun ls hl => ?_)
  refine lv_iload hx hb dX11_readTurns_5 (lv_at hl 0 rfl) ?_
  refine lv_iload_n hx hb dX11_readTurns_7 rfl (lv_at hl 3 rfl) ?_
  refine lv_icmp_ge (tgt := 30) hx hb dX11_readTurns_8 (by decide) (fun c9 => absurd c9 (by decide +kernel)) (fun _ => ?_)
  refine lv_iload_n hx hb dX11_readTurns_11 rfl (lv_at hl 1 rfl) ?_
  refine lv_iconst (v := 1) hx hb dX11_readTurns_12 (by decide +kernel) ?_
  refine lv_iload_n hx hb dX11_readTurns_13 rfl (lv_at hl 2 rfl) ?_
  refine lv_iconst (v := 2) hx hb dX11_readTurns_14 (by decide +kernel) ?_
  refine lv_iload hx hb dX11_readTurns_15 (lv_at hl 0 rfl) ?_
  refine jw_imul (v := 0) hx hb dX11_readTurns_17 (by decide +kernel) ?_
  refine lv_iushr (v := (p0.toUInt32 >>> ((0 : Int32).toUInt32 &&& Int32.toUInt32 31)).toInt32) hx hb dX11_readTurns_18 rfl ?_
  refine lv_iconst (v := 3) hx hb dX11_readTurns_19 (by decide +kernel) ?_
  refine jw_iand (v := 0) hx hb dX11_readTurns_20 (jw_bu0 g_p0 (by decide +kernel)) ?_
  refine jw_ishl (v := 1) hx hb dX11_readTurns_21 (by decide +kernel) ?_
  refine jw_ior (v := 1) hx hb dX11_readTurns_22 (by decide +kernel) ?_
  refine lv_istore_n (lv' := [(3, .int 1), (4, .int 0), (0, .int p0), (1, .int 2), (2, .ref h0)]) hx hb dX11_readTurns_23 rfl hl (by decide) rfl (fun ls hl => ?_)
  refine lv_iinc (v := 1) (lv' := [(4, .int 1), (3, .int 1), (0, .int p0), (1, .int 2), (2, .ref h0)]) hx hb dX11_readTurns_24 hl (k := 1) rfl (by decide +kernel) (by decide) rfl (fun ls hl => ?_)
  refine lv_goto (tgt := 5) hx hb dX11_readTurns_27 (by decide) ?_
  refine lv_iload hx hb dX11_readTurns_5 (lv_at hl 0 rfl) ?_
  refine lv_iload_n hx hb dX11_readTurns_7 rfl (lv_at hl 3 rfl) ?_
  refine lv_icmp_ge (tgt := 30) hx hb dX11_readTurns_8 (by decide) (fun c9 => absurd c9 (by decide +kernel)) (fun _ => ?_)
  refine lv_iload_n hx hb dX11_readTurns_11 rfl (lv_at hl 1 rfl) ?_
  refine lv_iconst (v := 1) hx hb dX11_readTurns_12 (by decide +kernel) ?_
  refine lv_iload_n hx hb dX11_readTurns_13 rfl (lv_at hl 2 rfl) ?_
  refine lv_iconst (v := 2) hx hb dX11_readTurns_14 (by decide +kernel) ?_
  refine lv_iload hx hb dX11_readTurns_15 (lv_at hl 0 rfl) ?_
  refine jw_imul (v := 2) hx hb dX11_readTurns_17 (by decide +kernel) ?_
  refine lv_iushr (v := (p0.toUInt32 >>> ((2 : Int32).toUInt32 &&& Int32.toUInt32 31)).toInt32) hx hb dX11_readTurns_18 rfl ?_
  refine lv_iconst (v := 3) hx hb dX11_readTurns_19 (by decide +kernel) ?_
  refine jw_iand (v := 1) hx hb dX11_readTurns_20 (jw_bu1 g_p0 (by decide +kernel)) ?_
  refine jw_ishl (v := 2) hx hb dX11_readTurns_21 (by decide +kernel) ?_
  refine jw_ior (v := 3) hx hb dX11_readTurns_22 (by decide +kernel) ?_
  refine lv_istore_n (lv' := [(3, .int 3), (4, .int 1), (0, .int p0), (1, .int 2), (2, .ref h0)]) hx hb dX11_readTurns_23 rfl hl (by decide) rfl (fun ls hl => ?_)
  refine lv_iinc (v := 2) (lv' := [(4, .int 2), (3, .int 3), (0, .int p0), (1, .int 2), (2, .ref h0)]) hx hb dX11_readTurns_24 hl (k := 1) rfl (by decide +kernel) (by decide) rfl (fun ls hl => ?_)
  refine lv_goto (tgt := 5) hx hb dX11_readTurns_27 (by decide) ?_
  refine lv_iload hx hb dX11_readTurns_5 (lv_at hl 0 rfl) ?_
  refine lv_iload_n hx hb dX11_readTurns_7 rfl (lv_at hl 3 rfl) ?_
  refine lv_icmp_ge (tgt := 30) hx hb dX11_readTurns_8 (by decide) (fun _ => ?_) (fun c9 => absurd (by decide +kernel) c9)
  refine lv_iload_n hx hb dX11_readTurns_30 rfl (lv_at hl 1 rfl) ?_
  refine lv_iconst (v := 1) hx hb dX11_readTurns_31 (by decide +kernel) ?_
  refine lv_iload_n hx hb dX11_readTurns_32 rfl (lv_at hl 3 rfl) ?_
  refine jw_ishl (v := 4) hx hb dX11_readTurns_33 (by decide +kernel) ?_
  refine lv_iconst (v := 1) hx hb dX11_readTurns_34 (by decide +kernel) ?_
  refine jw_isub (v := 3) hx hb dX11_readTurns_35 (by decide +kernel) ?_
  refine lv_icmp_eq (tgt := 41) hx hb dX11_readTurns_36 (by decide) (fun _ => ?_) (fun c9 => absurd (by decide +kernel) c9)
  refine lv_iconst (v := 0) hx hb dX11_readTurns_41 (by decide +kernel) ?_
  refine lv_istore (lv' := [(4, .int 0), (3, .int 3), (0, .int p0), (1, .int 2), (2, .ref h0)]) hx hb dX11_readTurns_42 hl (by decide) rfl (fun ls hl => ?_)
  refine lv_iload hx hb dX11_readTurns_44 (lv_at hl 0 rfl) ?_
  refine lv_iload_n hx hb dX11_readTurns_46 rfl (lv_at hl 3 rfl) ?_
  refine lv_icmp_ge (tgt := 75) hx hb dX11_readTurns_47 (by decide) (fun c9 => absurd c9 (by decide +kernel)) (fun _ => ?_)
  refine lv_iload hx hb dX11_readTurns_50 (lv_at hl 0 rfl) ?_
  refine lv_aload_n hx hb dX11_readTurns_52 rfl (lv_at hl 4 rfl) ?_
  refine jw_alen (v := 4) hx hb hE hP 0 1 rfl rfl (by decide +kernel) dX11_readTurns_53 ?_
  refine lv_icmp_ge (tgt := 75) hx hb dX11_readTurns_54 (by decide) (fun c9 => absurd c9 (by decide +kernel)) (fun _ => ?_)
  refine lv_aload_n hx hb dX11_readTurns_57 rfl (lv_at hl 4 rfl) ?_
  refine lv_iload hx hb dX11_readTurns_58 (lv_at hl 0 rfl) ?_
  refine lv_iload_n hx hb dX11_readTurns_60 rfl (lv_at hl 2 rfl) ?_
  refine lv_iconst (v := 2) hx hb dX11_readTurns_61 (by decide +kernel) ?_
  refine lv_iload hx hb dX11_readTurns_62 (lv_at hl 0 rfl) ?_
  refine jw_imul (v := 0) hx hb dX11_readTurns_64 (by decide +kernel) ?_
  refine lv_iushr (v := (p0.toUInt32 >>> ((0 : Int32).toUInt32 &&& Int32.toUInt32 31)).toInt32) hx hb dX11_readTurns_65 rfl ?_
  refine lv_iconst (v := 3) hx hb dX11_readTurns_66 (by decide +kernel) ?_
  refine jw_iand (v := 0) hx hb dX11_readTurns_67 (jw_bu0 g_p0 (by decide +kernel)) ?_
  refine jw_iast (ws' := [(h0, .inl (Y 1, 4, .inl (jw_l 0 [0, 1, 2, 3])))]) hx hb hE hP hD hS 0 0 [0, 1, 2, 3] rfl (by decide +kernel) (by decide +kernel) rfl dX11_readTurns_68 (fun H locs hP hD hS => ?_)
  refine lv_iinc (v := 1) (lv' := [(4, .int 1), (3, .int 3), (0, .int p0), (1, .int 2), (2, .ref h0)]) hx hb dX11_readTurns_69 hl (k := 0) rfl (by decide +kernel) (by decide) rfl (fun ls hl => ?_)
  refine lv_goto (tgt := 44) hx hb dX11_readTurns_72 (by decide) ?_
  refine lv_iload hx hb dX11_readTurns_44 (lv_at hl 0 rfl) ?_
  refine lv_iload_n hx hb dX11_readTurns_46 rfl (lv_at hl 3 rfl) ?_
  refine lv_icmp_ge (tgt := 75) hx hb dX11_readTurns_47 (by decide) (fun c9 => absurd c9 (by decide +kernel)) (fun _ => ?_)
  refine lv_iload hx hb dX11_readTurns_50 (lv_at hl 0 rfl) ?_
  refine lv_aload_n hx hb dX11_readTurns_52 rfl (lv_at hl 4 rfl) ?_
  refine jw_alen (v := 4) hx hb hE hP 0 1 rfl rfl (by decide +kernel) dX11_readTurns_53 ?_
  refine lv_icmp_ge (tgt := 75) hx hb dX11_readTurns_54 (by decide) (fun c9 => absurd c9 (by decide +kernel)) (fun _ => ?_)
  refine lv_aload_n hx hb dX11_readTurns_57 rfl (lv_at hl 4 rfl) ?_
  refine lv_iload hx hb dX11_readTurns_58 (lv_at hl 0 rfl) ?_
  refine lv_iload_n hx hb dX11_readTurns_60 rfl (lv_at hl 2 rfl) ?_
  refine lv_iconst (v := 2) hx hb dX11_readTurns_61 (by decide +kernel) ?_
  refine lv_iload hx hb dX11_readTurns_62 (lv_at hl 0 rfl) ?_
  refine jw_imul (v := 2) hx hb dX11_readTurns_64 (by decide +kernel) ?_
  refine lv_iushr (v := (p0.toUInt32 >>> ((2 : Int32).toUInt32 &&& Int32.toUInt32 31)).toInt32) hx hb dX11_readTurns_65 rfl ?_
  refine lv_iconst (v := 3) hx hb dX11_readTurns_66 (by decide +kernel) ?_
  refine jw_iand (v := 1) hx hb dX11_readTurns_67 (jw_bu1 g_p0 (by decide +kernel)) ?_
  refine jw_iast (ws' := [(h0, .inl (Y 1, 4, .inl (jw_l 0 [0, 1, 2, 3])))]) hx hb hE hP hD hS 0 1 [0, 1, 2, 3] rfl (by decide +kernel) (by decide +kernel) rfl dX11_readTurns_68 (fun H locs hP hD hS => ?_)
  refine lv_iinc (v := 2) (lv' := [(4, .int 2), (3, .int 3), (0, .int p0), (1, .int 2), (2, .ref h0)]) hx hb dX11_readTurns_69 hl (k := 0) rfl (by decide +kernel) (by decide) rfl (fun ls hl => ?_)
  refine lv_goto (tgt := 44) hx hb dX11_readTurns_72 (by decide) ?_
  refine lv_iload hx hb dX11_readTurns_44 (lv_at hl 0 rfl) ?_
  refine lv_iload_n hx hb dX11_readTurns_46 rfl (lv_at hl 3 rfl) ?_
  refine lv_icmp_ge (tgt := 75) hx hb dX11_readTurns_47 (by decide) (fun _ => ?_) (fun c9 => absurd (by decide +kernel) c9)
  refine lv_iconst (v := 1) hx hb dX11_readTurns_75 (by decide +kernel) ?_
  refine W.widen (k := 0) (n := 0) (Nat.le_of_ble_eq_true rfl) (Nat.le_of_ble_eq_true rfl) ?_
  exact jw_zret hx hb hr hlocks rfl rfl rfl hP hD hS dX11_readTurns_76
set_option maxHeartbeats 4000000 in
set_option maxRecDepth 100000 in
theorem k597_X11_arrange {l : Launch} {D : va_G} {Y : Nat → ClassId} {tt : Nat → Nat} (h0 h1 h2 h3 h4 h5 h6 h7 h8 h9 h10 h11 h12 h13 h14 h15 h16 h17 h18 h19 h20 h21 h22 h23 h24 h25 h26 h27 h28 h29 h30 h31 h32 h33 h34 h35 h36 h37 h38 h39 h40 h41 : Nat) (p1 : Int32) (g_p1 : p1.toBitVec.toNat % 16 = 4) (sz : Nat) : Met l yX11_arrange wsX11_arrange ({ frames := 2, cells := 0, slots := 0, locals := 43 }) (jw_Pc D Y tt [.ref h0, .int p1] [(h0, .inr (14, [.ref h12, .int 0, .ref h1, .ref h13, .ref h14, .ref h15, .ref h2, .ref h16, .ref h17, .ref h18, .ref h19, .ref h5, .ref h6, .ref h20, .ref h21, .ref h22, .int (-3), .int (-3)])), (h1, .inr (6, [.int 2, .int 0, .int 0, .int 0, .int 0, .ref h23, .ref h24, .ref h25, .ref h26, .ref h27, .int 0])), (h2, .inr (11, [.ref h1, .ref h14, .ref h28, .ref h3, .ref h4, .ref h29, .int 0, .ref h30])), (h3, .inl (Y 1, 4, .inl (jw_l 0 [0, 1, 2, 3]))), (h4, .inl (Y 1, 12, .inl (jw_l (-1) []))), (h5, .inl (Y 4, 3, .inr (.inr (.inr (.inr (jw_R [some h7, some h31, some h10])))))), (h6, .inl (Y 4, 3, .inr (.inr (.inr (.inr (jw_R [some h8, some h9, some h11])))))), (h7, .inr (4, [.ref h32, .ref h33, .long 0, .int 0])), (h8, .inr (4, [.ref h34, .ref h35, .long 0, .int 0])), (h9, .inr (4, [.ref h36, .ref h37, .long 0, .int 0])), (h10, .inr (4, [.ref h38, .ref h39, .long 0, .int 0])), (h11, .inr (4, [.ref h40, .ref h41, .long 0, .int 0]))] sz) (jw_Qi D (fun r => r = 1) (fun w => w = []) (va_A [(h0, .inr (14, [.ref h12, .int 0, .ref h1, .ref h13, .ref h14, .ref h15, .ref h2, .ref h16, .ref h17, .ref h18, .ref h19, .ref h5, .ref h6, .ref h20, .ref h21, .ref h22, .int (-3), .int (-3)])), (h1, .inr (6, [.int 2, .int 0, .int 0, .int 0, .int 0, .ref h23, .ref h24, .ref h25, .ref h26, .ref h27, .int 0])), (h2, .inr (11, [.ref h1, .ref h14, .ref h28, .ref h3, .ref h4, .ref h29, .int 0, .ref h30])), (h3, .inl (Y 1, 4, .inl (jw_l 0 [0, 1, 2, 3]))), (h4, .inl (Y 1, 12, .inl (jw_l (-1) []))), (h5, .inl (Y 4, 3, .inr (.inr (.inr (.inr (jw_R [some h7, some h31, some h10])))))), (h6, .inl (Y 4, 3, .inr (.inr (.inr (.inr (jw_R [some h8, some h9, some h11])))))), (h7, .inr (4, [.ref h32, .ref h33, .long 0, .int 0])), (h8, .inr (4, [.ref h34, .ref h35, .long 0, .int 0])), (h9, .inr (4, [.ref h36, .ref h37, .long 0, .int 0])), (h10, .inr (4, [.ref h38, .ref h39, .long 0, .int 0])), (h11, .inr (4, [.ref h40, .ref h41, .long 0, .int 0]))] sz)) 0 0 (va_A [(h0, .inr (14, [.ref h12, .int 0, .ref h1, .ref h13, .ref h14, .ref h15, .ref h2, .ref h16, .ref h17, .ref h18, .ref h19, .ref h5, .ref h6, .ref h20, .ref h21, .ref h22, .int (-3), .int (-3)])), (h1, .inr (6, [.int 2, .int 0, .int 0, .int 0, .int 0, .ref h23, .ref h24, .ref h25, .ref h26, .ref h27, .int 0])), (h2, .inr (11, [.ref h1, .ref h14, .ref h28, .ref h3, .ref h4, .ref h29, .int 0, .ref h30])), (h3, .inl (Y 1, 4, .inl (jw_l 0 [0, 1, 2, 3]))), (h4, .inl (Y 1, 12, .inl (jw_l (-1) []))), (h5, .inl (Y 4, 3, .inr (.inr (.inr (.inr (jw_R [some h7, some h31, some h10])))))), (h6, .inl (Y 4, 3, .inr (.inr (.inr (.inr (jw_R [some h8, some h9, some h11])))))), (h7, .inr (4, [.ref h32, .ref h33, .long 0, .int 0])), (h8, .inr (4, [.ref h34, .ref h35, .long 0, .int 0])), (h9, .inr (4, [.ref h36, .ref h37, .long 0, .int 0])), (h10, .inr (4, [.ref h38, .ref h39, .long 0, .int 0])), (h11, .inr (4, [.ref h40, .ref h41, .long 0, .int 0]))] sz) := by
  refine jw_met (fun A => jw_Qi D (fun r => r = 1) (fun w => w = []) A) (cc := cX11_arrange) (maxL := 2) (ret := (some .boolean)) pn_X11_arrange rfl rfl ?_
  intro p e s m below meth c A H locs ls hx hb hml hr hts hown hlocks hin hP hD hA hS hE hl
  have hown : s.vm.findClass RX11 = some m.cls := hown
  have hl : lv_has ls 2 [(0, .ref h0), (1, .int p1)] := hl
  refine lv_iload_n hx hb dX11_arrange_0 rfl (lv_at hl 1 rfl) ?_
  refine lv_aload_n hx hb dX11_arrange_1 rfl (lv_at hl 0 rfl) ?_
  refine va_get (D := D) (ci := 14) (v := .ref h1) (C := RX11) (T := TX11) (N := 18) hx hb hts iw_X11_arrange__X11 hown hE.1 hP 0 rfl rfl 2 (by decide) (hts _ mw_X11_arrange__1) (fun _ h9 => h9) rfl dX11_arrange_2 ?_
  refine va_getN (D := D) (ci := 6) (v := .int 2) (C := RX3) (T := TX3) (N := 11) hx hb hts iw_X11_arrange__X3 hown hE.1 hP 1 rfl rfl 0 (by decide) (nf_X11_133 hE) (fun _ h9 => h9) rfl dX11_arrange_5 ?_
  refine lv_aload_n hx hb dX11_arrange_8 rfl (lv_at hl 0 rfl) ?_
  refine va_get (D := D) (ci := 14) (v := .ref h2) (C := RX11) (T := TX11) (N := 18) hx hb hts iw_X11_arrange__X11 hown hE.1 hP 0 rfl rfl 6 (by decide) (hts _ mw_X11_arrange__2) (fun _ h9 => h9) rfl dX11_arrange_9 ?_
  refine va_getN (D := D) (ci := 11) (v := .ref h3) (C := RX8) (T := TX8) (N := 8) hx hb hts iw_X11_arrange__X8 hown hE.1 hP 2 rfl rfl 3 (by decide) (nf_X11_221 hE) (fun _ h9 => h9) rfl dX11_arrange_12 ?_
  refine jw_mi (wc := [(h3, .inl (Y 1, 4, .inl (jw_l 0 [0, 1, 2, 3])))]) (cs := 0) (ss := 0) (va_runS (As := [.int p1, .int 2, .ref h3]) (rest := []) ⟨hx, hb, hml, hown, hts⟩ (k596_X11_readTurns h3 p1 g_p1 H.size) (va_cwS 3 hts gX11_arrange_X11_readTurns rfl rfl rfl ydS_X11_readTurns ⟨Nat.le_of_ble_eq_true rfl, Nat.le_of_ble_eq_true rfl⟩) (jw_mpreS hP hD hS hA hE [false, false, false, true] rfl) rfl rfl hl.1 rfl (lv_room (Nat.le_of_ble_eq_true rfl)) dX11_arrange_15 ⟨Nat.le_of_ble_eq_true rfl, Nat.le_of_ble_eq_true rfl⟩) hP hD hS hA [false, false, false, true] rfl rfl rfl (fun r9 w1 H locs hr9 hw9 hP hD hS => ?_)
  subst hr9
  subst hw9
  have hP : va_P D vwCl [(h0, .inr (14, [.ref h12, .int 0, .ref h1, .ref h13, .ref h14, .ref h15, .ref h2, .ref h16, .ref h17, .ref h18, .ref h19, .ref h5, .ref h6, .ref h20, .ref h21, .ref h22, .int (-3), .int (-3)])), (h1, .inr (6, [.int 2, .int 0, .int 0, .int 0, .int 0, .ref h23, .ref h24, .ref h25, .ref h26, .ref h27, .int 0])), (h2, .inr (11, [.ref h1, .ref h14, .ref h28, .ref h3, .ref h4, .ref h29, .int 0, .ref h30])), (h3, .inl (Y 1, 4, .inl (jw_l 0 [0, 1, 2, 3]))), (h4, .inl (Y 1, 12, .inl (jw_l (-1) []))), (h5, .inl (Y 4, 3, .inr (.inr (.inr (.inr (jw_R [some h7, some h31, some h10])))))), (h6, .inl (Y 4, 3, .inr (.inr (.inr (.inr (jw_R [some h8, some h9, some h11])))))), (h7, .inr (4, [.ref h32, .ref h33, .long 0, .int 0])), (h8, .inr (4, [.ref h34, .ref h35, .long 0, .int 0])), (h9, .inr (4, [.ref h36, .ref h37, .long 0, .int 0])), (h10, .inr (4, [.ref h38, .ref h39, .long 0, .int 0])), (h11, .inr (4, [.ref h40, .ref h41, .long 0, .int 0]))] H := hP
  have hD : va_D A [(h0, .inr (14, [.ref h12, .int 0, .ref h1, .ref h13, .ref h14, .ref h15, .ref h2, .ref h16, .ref h17, .ref h18, .ref h19, .ref h5, .ref h6, .ref h20, .ref h21, .ref h22, .int (-3), .int (-3)])), (h1, .inr (6, [.int 2, .int 0, .int 0, .int 0, .int 0, .ref h23, .ref h24, .ref h25, .ref h26, .ref h27, .int 0])), (h2, .inr (11, [.ref h1, .ref h14, .ref h28, .ref h3, .ref h4, .ref h29, .int 0, .ref h30])), (h3, .inl (Y 1, 4, .inl (jw_l 0 [0, 1, 2, 3]))), (h4, .inl (Y 1, 12, .inl (jw_l (-1) []))), (h5, .inl (Y 4, 3, .inr (.inr (.inr (.inr (jw_R [some h7, some h31, some h10])))))), (h6, .inl (Y 4, 3, .inr (.inr (.inr (.inr (jw_R [some h8, some h9, some h11])))))), (h7, .inr (4, [.ref h32, .ref h33, .long 0, .int 0])), (h8, .inr (4, [.ref h34, .ref h35, .long 0, .int 0])), (h9, .inr (4, [.ref h36, .ref h37, .long 0, .int 0])), (h10, .inr (4, [.ref h38, .ref h39, .long 0, .int 0])), (h11, .inr (4, [.ref h40, .ref h41, .long 0, .int 0]))] := hD
  refine lv_if_ne (tgt := 23) hx hb dX11_arrange_18 (by decide) (fun _ => ?_) (fun c9 => absurd c9 (by decide +kernel))
  refine lv_aload_n hx hb dX11_arrange_23 rfl (lv_at hl 0 rfl) ?_
  refine va_get (D := D) (ci := 14) (v := .ref h2) (C := RX11) (T := TX11) (N := 18) hx hb hts iw_X11_arrange__X11 hown hE.1 hP 0 rfl rfl 6 (by decide) (hts _ mw_X11_arrange__2) (fun _ h9 => h9) rfl dX11_arrange_24 ?_
  refine jw_mv (wc := [(h2, .inr (11, [.ref h1, .ref h14, .ref h28, .ref h3, .ref h4, .ref h29, .int 0, .ref h30])), (h4, .inl (Y 1, 12, .inl (jw_l (-1) [])))]) (cs := 0) (ss := 0) (va_runV (As := []) (rest := []) ⟨hx, hb, hml, hown, hts⟩ (k76_X8_empty h2 h4 h1 h14 h28 h3 h29 h30 H.size) (cwV 0 hts gX11_arrange_X8_empty rfl rfl rfl ydV_X8_empty ⟨Nat.le_of_ble_eq_true rfl, Nat.le_of_ble_eq_true rfl⟩) (jw_mpreV (ci := 11) (q0 := 2) hP hD hS hA hE [false, false, true, false, true] rfl rfl rfl) rfl rfl hl.1 rfl (lv_room (Nat.le_of_ble_eq_true rfl)) dX11_arrange_27 ⟨Nat.le_of_ble_eq_true rfl, Nat.le_of_ble_eq_true rfl⟩) hP hD hS hA [false, false, true, false, true] rfl rfl rfl (fun w1 H locs hw9 hP hD hS => ?_)
  subst hw9
  have hP : va_P D vwCl [(h0, .inr (14, [.ref h12, .int 0, .ref h1, .ref h13, .ref h14, .ref h15, .ref h2, .ref h16, .ref h17, .ref h18, .ref h19, .ref h5, .ref h6, .ref h20, .ref h21, .ref h22, .int (-3), .int (-3)])), (h1, .inr (6, [.int 2, .int 0, .int 0, .int 0, .int 0, .ref h23, .ref h24, .ref h25, .ref h26, .ref h27, .int 0])), (h2, .inr (11, [.ref h1, .ref h14, .ref h28, .ref h3, .ref h4, .ref h29, .int 0, .ref h30])), (h3, .inl (Y 1, 4, .inl (jw_l 0 [0, 1, 2, 3]))), (h4, .inl (Y 1, 12, .inl (jw_l (-1) []))), (h5, .inl (Y 4, 3, .inr (.inr (.inr (.inr (jw_R [some h7, some h31, some h10])))))), (h6, .inl (Y 4, 3, .inr (.inr (.inr (.inr (jw_R [some h8, some h9, some h11])))))), (h7, .inr (4, [.ref h32, .ref h33, .long 0, .int 0])), (h8, .inr (4, [.ref h34, .ref h35, .long 0, .int 0])), (h9, .inr (4, [.ref h36, .ref h37, .long 0, .int 0])), (h10, .inr (4, [.ref h38, .ref h39, .long 0, .int 0])), (h11, .inr (4, [.ref h40, .ref h41, .long 0, .int 0]))] H := hP
  have hD : va_D A [(h0, .inr (14, [.ref h12, .int 0, .ref h1, .ref h13, .ref h14, .ref h15, .ref h2, .ref h16, .ref h17, .ref h18, .ref h19, .ref h5, .ref h6, .ref h20, .ref h21, .ref h22, .int (-3), .int (-3)])), (h1, .inr (6, [.int 2, .int 0, .int 0, .int 0, .int 0, .ref h23, .ref h24, .ref h25, .ref h26, .ref h27, .int 0])), (h2, .inr (11, [.ref h1, .ref h14, .ref h28, .ref h3, .ref h4, .ref h29, .int 0, .ref h30])), (h3, .inl (Y 1, 4, .inl (jw_l 0 [0, 1, 2, 3]))), (h4, .inl (Y 1, 12, .inl (jw_l (-1) []))), (h5, .inl (Y 4, 3, .inr (.inr (.inr (.inr (jw_R [some h7, some h31, some h10])))))), (h6, .inl (Y 4, 3, .inr (.inr (.inr (.inr (jw_R [some h8, some h9, some h11])))))), (h7, .inr (4, [.ref h32, .ref h33, .long 0, .int 0])), (h8, .inr (4, [.ref h34, .ref h35, .long 0, .int 0])), (h9, .inr (4, [.ref h36, .ref h37, .long 0, .int 0])), (h10, .inr (4, [.ref h38, .ref h39, .long 0, .int 0])), (h11, .inr (4, [.ref h40, .ref h41, .long 0, .int 0]))] := hD
  refine lv_aload_n hx hb dX11_arrange_30 rfl (lv_at hl 0 rfl) ?_
  refine lv_bipush (v := (-3)) hx hb dX11_arrange_31 (by decide +kernel) ?_
  refine va_put (D := D) (ci := 14) (v := .int (-3)) (C := RX11) (T := TX11) (N := 18) hx hb hts iw_X11_arrange__X11 tyX11 tyX11_ok nmX11 hown hE.1 hP hD hS 0 rfl rfl 16 (by decide) (hts _ mw_X11_arrange__3) (fun _ h9 => h9) rfl (tyX11_ok 16 (by decide)) rfl rfl (Nat.le_of_ble_eq_true rfl) dX11_arrange_33 (fun H locs hP hD hS => ?_)
  have hP : va_P D vwCl [(h0, .inr (14, [.ref h12, .int 0, .ref h1, .ref h13, .ref h14, .ref h15, .ref h2, .ref h16, .ref h17, .ref h18, .ref h19, .ref h5, .ref h6, .ref h20, .ref h21, .ref h22, .int (-3), .int (-3)])), (h1, .inr (6, [.int 2, .int 0, .int 0, .int 0, .int 0, .ref h23, .ref h24, .ref h25, .ref h26, .ref h27, .int 0])), (h2, .inr (11, [.ref h1, .ref h14, .ref h28, .ref h3, .ref h4, .ref h29, .int 0, .ref h30])), (h3, .inl (Y 1, 4, .inl (jw_l 0 [0, 1, 2, 3]))), (h4, .inl (Y 1, 12, .inl (jw_l (-1) []))), (h5, .inl (Y 4, 3, .inr (.inr (.inr (.inr (jw_R [some h7, some h31, some h10])))))), (h6, .inl (Y 4, 3, .inr (.inr (.inr (.inr (jw_R [some h8, some h9, some h11])))))), (h7, .inr (4, [.ref h32, .ref h33, .long 0, .int 0])), (h8, .inr (4, [.ref h34, .ref h35, .long 0, .int 0])), (h9, .inr (4, [.ref h36, .ref h37, .long 0, .int 0])), (h10, .inr (4, [.ref h38, .ref h39, .long 0, .int 0])), (h11, .inr (4, [.ref h40, .ref h41, .long 0, .int 0]))] H := hP
  have hD : va_D A [(h0, .inr (14, [.ref h12, .int 0, .ref h1, .ref h13, .ref h14, .ref h15, .ref h2, .ref h16, .ref h17, .ref h18, .ref h19, .ref h5, .ref h6, .ref h20, .ref h21, .ref h22, .int (-3), .int (-3)])), (h1, .inr (6, [.int 2, .int 0, .int 0, .int 0, .int 0, .ref h23, .ref h24, .ref h25, .ref h26, .ref h27, .int 0])), (h2, .inr (11, [.ref h1, .ref h14, .ref h28, .ref h3, .ref h4, .ref h29, .int 0, .ref h30])), (h3, .inl (Y 1, 4, .inl (jw_l 0 [0, 1, 2, 3]))), (h4, .inl (Y 1, 12, .inl (jw_l (-1) []))), (h5, .inl (Y 4, 3, .inr (.inr (.inr (.inr (jw_R [some h7, some h31, some h10])))))), (h6, .inl (Y 4, 3, .inr (.inr (.inr (.inr (jw_R [some h8, some h9, some h11])))))), (h7, .inr (4, [.ref h32, .ref h33, .long 0, .int 0])), (h8, .inr (4, [.ref h34, .ref h35, .long 0, .int 0])), (h9, .inr (4, [.ref h36, .ref h37, .long 0, .int 0])), (h10, .inr (4, [.ref h38, .ref h39, .long 0, .int 0])), (h11, .inr (4, [.ref h40, .ref h41, .long 0, .int 0]))] := hD
  refine lv_aload_n hx hb dX11_arrange_36 rfl (lv_at hl 0 rfl) ?_
  refine jw_mv (wc := [(h0, .inr (14, [.ref h12, .int 0, .ref h1, .ref h13, .ref h14, .ref h15, .ref h2, .ref h16, .ref h17, .ref h18, .ref h19, .ref h5, .ref h6, .ref h20, .ref h21, .ref h22, .int (-3), .int (-3)])), (h5, .inl (Y 4, 3, .inr (.inr (.inr (.inr (jw_R [some h7, some h31, some h10])))))), (h6, .inl (Y 4, 3, .inr (.inr (.inr (.inr (jw_R [some h8, some h9, some h11])))))), (h7, .inr (4, [.ref h32, .ref h33, .long 0, .int 0])), (h8, .inr (4, [.ref h34, .ref h35, .long 0, .int 0])), (h9, .inr (4, [.ref h36, .ref h37, .long 0, .int 0])), (h10, .inr (4, [.ref h38, .ref h39, .long 0, .int 0])), (h11, .inr (4, [.ref h40, .ref h41, .long 0, .int 0]))]) (cs := 0) (ss := 0) (va_runV (As := []) (rest := []) ⟨hx, hb, hml, hown, hts⟩ (k52_X11_startChanged h0 h5 h6 h7 h8 h9 h10 h11 h12 h1 h13 h14 h15 h2 h16 h17 h18 h19 h20 h21 h22 h31 h32 h33 h34 h35 h36 h37 h38 h39 h40 h41 H.size) (cwV 0 hts gX11_arrange_X11_startChanged rfl rfl rfl ydV_X11_startChanged ⟨Nat.le_of_ble_eq_true rfl, Nat.le_of_ble_eq_true rfl⟩) (jw_mpreV (ci := 14) (q0 := 0) hP hD hS hA hE [true, false, false, false, false, true, true, true, true, true, true, true] rfl rfl rfl) rfl rfl hl.1 rfl (lv_room (Nat.le_of_ble_eq_true rfl)) dX11_arrange_37 ⟨Nat.le_of_ble_eq_true rfl, Nat.le_of_ble_eq_true rfl⟩) hP hD hS hA [true, false, false, false, false, true, true, true, true, true, true, true] rfl rfl rfl (fun w1 H locs hw9 hP hD hS => ?_)
  subst hw9
  have hP : va_P D vwCl [(h0, .inr (14, [.ref h12, .int 0, .ref h1, .ref h13, .ref h14, .ref h15, .ref h2, .ref h16, .ref h17, .ref h18, .ref h19, .ref h5, .ref h6, .ref h20, .ref h21, .ref h22, .int (-3), .int (-3)])), (h1, .inr (6, [.int 2, .int 0, .int 0, .int 0, .int 0, .ref h23, .ref h24, .ref h25, .ref h26, .ref h27, .int 0])), (h2, .inr (11, [.ref h1, .ref h14, .ref h28, .ref h3, .ref h4, .ref h29, .int 0, .ref h30])), (h3, .inl (Y 1, 4, .inl (jw_l 0 [0, 1, 2, 3]))), (h4, .inl (Y 1, 12, .inl (jw_l (-1) []))), (h5, .inl (Y 4, 3, .inr (.inr (.inr (.inr (jw_R [some h7, some h31, some h10])))))), (h6, .inl (Y 4, 3, .inr (.inr (.inr (.inr (jw_R [some h8, some h9, some h11])))))), (h7, .inr (4, [.ref h32, .ref h33, .long 0, .int 0])), (h8, .inr (4, [.ref h34, .ref h35, .long 0, .int 0])), (h9, .inr (4, [.ref h36, .ref h37, .long 0, .int 0])), (h10, .inr (4, [.ref h38, .ref h39, .long 0, .int 0])), (h11, .inr (4, [.ref h40, .ref h41, .long 0, .int 0]))] H := hP
  have hD : va_D A [(h0, .inr (14, [.ref h12, .int 0, .ref h1, .ref h13, .ref h14, .ref h15, .ref h2, .ref h16, .ref h17, .ref h18, .ref h19, .ref h5, .ref h6, .ref h20, .ref h21, .ref h22, .int (-3), .int (-3)])), (h1, .inr (6, [.int 2, .int 0, .int 0, .int 0, .int 0, .ref h23, .ref h24, .ref h25, .ref h26, .ref h27, .int 0])), (h2, .inr (11, [.ref h1, .ref h14, .ref h28, .ref h3, .ref h4, .ref h29, .int 0, .ref h30])), (h3, .inl (Y 1, 4, .inl (jw_l 0 [0, 1, 2, 3]))), (h4, .inl (Y 1, 12, .inl (jw_l (-1) []))), (h5, .inl (Y 4, 3, .inr (.inr (.inr (.inr (jw_R [some h7, some h31, some h10])))))), (h6, .inl (Y 4, 3, .inr (.inr (.inr (.inr (jw_R [some h8, some h9, some h11])))))), (h7, .inr (4, [.ref h32, .ref h33, .long 0, .int 0])), (h8, .inr (4, [.ref h34, .ref h35, .long 0, .int 0])), (h9, .inr (4, [.ref h36, .ref h37, .long 0, .int 0])), (h10, .inr (4, [.ref h38, .ref h39, .long 0, .int 0])), (h11, .inr (4, [.ref h40, .ref h41, .long 0, .int 0]))] := hD
  refine lv_iconst (v := 1) hx hb dX11_arrange_40 (by decide +kernel) ?_
  refine W.widen (k := 0) (n := 0) (Nat.le_of_ble_eq_true rfl) (Nat.le_of_ble_eq_true rfl) ?_
  have hP : va_P D vwCl [] H := hP.sub [] rfl
  have hD : va_D A [] := hD.sub [] rfl rfl
  exact jw_zret hx hb hr hlocks rfl rfl rfl hP hD hS dX11_arrange_41
set_option maxHeartbeats 4000000 in
set_option maxRecDepth 100000 in
theorem k598_X12_isOnce {l : Launch} {D : va_G} {Y : Nat → ClassId} {tt : Nat → Nat} (p0 : Int32) (g_p0 : p0.toBitVec.toNat % 16 = 4) (sz : Nat) : Met l yX12_isOnce wsX12_isOnce ({ frames := 0, cells := 0, slots := 0, locals := 0 }) (jw_Pc D Y tt [.int p0, .int 2] [] sz) (jw_Qi D (fun r => r = 1) (fun w => w = []) (va_A [] sz)) 0 0 (va_A [] sz) := by
  refine jw_met (fun A => jw_Qi D (fun r => r = 1) (fun w => w = []) A) (cc := cX12_isOnce) (maxL := 4) (ret := (some .boolean)) pn_X12_isOnce rfl rfl ?_
  intro p e s m below meth c A H locs ls hx hb hml hr hts hown hlocks hin hP hD hA hS hE hl
  have hown : s.vm.findClass RX12 = some m.cls := hown
  have hl : lv_has ls 4 [(0, .int p0), (1, .int 2)] := hl
  refine lv_iconst (v := 0) hx hb dX12_isOnce_0 (by decide +kernel) ?_
  refine lv_istore_n (lv' := [(2, .int 0), (0, .int p0), (1, .int 2)]) hx hb dX12_isOnce_1 rfl hl (by decide) rfl (fun ls hl => ?_)
  refine lv_iconst (v := 0) hx hb dX12_isOnce_2 (by decide +kernel) ?_
  refine lv_istore_n (lv' := [(3, .int 0), (2, .int 0), (0, .int p0), (1, .int 2)]) hx hb dX12_isOnce_3 rfl hl (by decide) rfl (fun ls hl => ?_)
  refine lv_iload_n hx hb dX12_isOnce_4 rfl (lv_at hl 0 rfl) ?_
  refine lv_iload_n hx hb dX12_isOnce_5 rfl (lv_at hl 3 rfl) ?_
  refine lv_icmp_ge (tgt := 27) hx hb dX12_isOnce_6 (by decide) (fun c9 => absurd c9 (by decide +kernel)) (fun _ => ?_)
  refine lv_iload_n hx hb dX12_isOnce_9 rfl (lv_at hl 1 rfl) ?_
  refine lv_iconst (v := 1) hx hb dX12_isOnce_10 (by decide +kernel) ?_
  refine lv_iload_n hx hb dX12_isOnce_11 rfl (lv_at hl 2 rfl) ?_
  refine lv_iconst (v := 2) hx hb dX12_isOnce_12 (by decide +kernel) ?_
  refine lv_iload_n hx hb dX12_isOnce_13 rfl (lv_at hl 0 rfl) ?_
  refine jw_imul (v := 0) hx hb dX12_isOnce_14 (by decide +kernel) ?_
  refine jw_ishr (v := (p0 >>> (0 &&& 31))) hx hb dX12_isOnce_15 rfl ?_
  refine lv_iconst (v := 3) hx hb dX12_isOnce_16 (by decide +kernel) ?_
  refine jw_iand (v := 0) hx hb dX12_isOnce_17 (jw_bs0 g_p0 (by decide +kernel)) ?_
  refine jw_ishl (v := 1) hx hb dX12_isOnce_18 (by decide +kernel) ?_
  refine jw_ior (v := 1) hx hb dX12_isOnce_19 (by decide +kernel) ?_
  refine lv_istore_n (lv' := [(2, .int 1), (3, .int 0), (0, .int p0), (1, .int 2)]) hx hb dX12_isOnce_20 rfl hl (by decide) rfl (fun ls hl => ?_)
  refine lv_iinc (v := 1) (lv' := [(3, .int 1), (2, .int 1), (0, .int p0), (1, .int 2)]) hx hb dX12_isOnce_21 hl (k := 1) rfl (by decide +kernel) (by decide) rfl (fun ls hl => ?_)
  refine lv_goto (tgt := 4) hx hb dX12_isOnce_24 (by decide) ?_
  refine lv_iload_n hx hb dX12_isOnce_4 rfl (lv_at hl 0 rfl) ?_
  refine lv_iload_n hx hb dX12_isOnce_5 rfl (lv_at hl 3 rfl) ?_
  refine lv_icmp_ge (tgt := 27) hx hb dX12_isOnce_6 (by decide) (fun c9 => absurd c9 (by decide +kernel)) (fun _ => ?_)
  refine lv_iload_n hx hb dX12_isOnce_9 rfl (lv_at hl 1 rfl) ?_
  refine lv_iconst (v := 1) hx hb dX12_isOnce_10 (by decide +kernel) ?_
  refine lv_iload_n hx hb dX12_isOnce_11 rfl (lv_at hl 2 rfl) ?_
  refine lv_iconst (v := 2) hx hb dX12_isOnce_12 (by decide +kernel) ?_
  refine lv_iload_n hx hb dX12_isOnce_13 rfl (lv_at hl 0 rfl) ?_
  refine jw_imul (v := 2) hx hb dX12_isOnce_14 (by decide +kernel) ?_
  refine jw_ishr (v := (p0 >>> (2 &&& 31))) hx hb dX12_isOnce_15 rfl ?_
  refine lv_iconst (v := 3) hx hb dX12_isOnce_16 (by decide +kernel) ?_
  refine jw_iand (v := 1) hx hb dX12_isOnce_17 (jw_bs1 g_p0 (by decide +kernel)) ?_
  refine jw_ishl (v := 2) hx hb dX12_isOnce_18 (by decide +kernel) ?_
  refine jw_ior (v := 3) hx hb dX12_isOnce_19 (by decide +kernel) ?_
  refine lv_istore_n (lv' := [(2, .int 3), (3, .int 1), (0, .int p0), (1, .int 2)]) hx hb dX12_isOnce_20 rfl hl (by decide) rfl (fun ls hl => ?_)
  refine lv_iinc (v := 2) (lv' := [(3, .int 2), (2, .int 3), (0, .int p0), (1, .int 2)]) hx hb dX12_isOnce_21 hl (k := 1) rfl (by decide +kernel) (by decide) rfl (fun ls hl => ?_)
  refine lv_goto (tgt := 4) hx hb dX12_isOnce_24 (by decide) ?_
  refine lv_iload_n hx hb dX12_isOnce_4 rfl (lv_at hl 0 rfl) ?_
  refine lv_iload_n hx hb dX12_isOnce_5 rfl (lv_at hl 3 rfl) ?_
  refine lv_icmp_ge (tgt := 27) hx hb dX12_isOnce_6 (by decide) (fun _ => ?_) (fun c9 => absurd (by decide +kernel) c9)
  refine lv_iload_n hx hb dX12_isOnce_27 rfl (lv_at hl 1 rfl) ?_
  refine lv_iconst (v := 1) hx hb dX12_isOnce_28 (by decide +kernel) ?_
  refine lv_iload_n hx hb dX12_isOnce_29 rfl (lv_at hl 3 rfl) ?_
  refine jw_ishl (v := 4) hx hb dX12_isOnce_30 (by decide +kernel) ?_
  refine lv_iconst (v := 1) hx hb dX12_isOnce_31 (by decide +kernel) ?_
  refine jw_isub (v := 3) hx hb dX12_isOnce_32 (by decide +kernel) ?_
  refine lv_icmp_ne (tgt := 40) hx hb dX12_isOnce_33 (by decide) (fun c9 => absurd (by decide +kernel) c9) (fun _ => ?_)
  refine lv_iconst (v := 1) hx hb dX12_isOnce_36 (by decide +kernel) ?_
  refine lv_goto (tgt := 41) hx hb dX12_isOnce_37 (by decide) ?_
  refine W.widen (k := 0) (n := 0) (Nat.le_of_ble_eq_true rfl) (Nat.le_of_ble_eq_true rfl) ?_
  exact jw_zret hx hb hr hlocks rfl rfl rfl hP hD hS dX12_isOnce_41
set_option maxHeartbeats 4000000 in
set_option maxRecDepth 100000 in
theorem k599_X12_arrange {l : Launch} {D : va_G} {Y : Nat → ClassId} {tt : Nat → Nat} (h0 h1 h2 h3 h4 h5 h6 h7 h8 h9 h10 h11 h12 h13 h14 h15 h16 h17 h18 h19 h20 h21 h22 h23 h24 h25 h26 h27 h28 h29 h30 h31 h32 h33 h34 h35 : Nat) (p1 : Int32) (g_p1 : p1.toBitVec.toNat % 16 = 4) (sz : Nat) : Met l yX12_arrange wsX12_arrange ({ frames := 1, cells := 0, slots := 0, locals := 23 }) (jw_Pc D Y tt [.ref h0, .int p1] [(h0, .inr (15, [.ref h2, .int 0, .int 0, .ref h3, .int 0, .int (-1), .int 0, .int 0, .int 0, .int 0, .int 0, .int 2, .int 0, .int 0, .int 0, .ref h4, .ref h5, .ref h6, .ref h7, .int 2, .int 0, .int 0, .int 0, .int 0, .ref h8, .ref h9, .ref h10, .ref h11, .int 2, .ref h12, .int 1, .ref h13, .ref h14, .int 1, .ref h15, .ref h16, .ref h1, .int 0, .ref h17, .ref h18, .ref h19, .ref h20, .ref h21, .ref h22, .ref h23, .ref h24, .ref h25, .int 0, .ref h26, .ref h27, .ref h28, .int (-1), .ref h29, .long 0, .long 0, .int 0, .int 0, .long 0, .long 0, .ref h30, .ref h31, .ref h32, .ref h33, .ref h34, .ref h35, .long 0])), (h1, .inl (Y 1, 4, .inl (jw_l 0 [0, 1, 2, 3])))] sz) (jw_Qi D (fun r => r = 1) (fun w => w = []) (va_A [(h0, .inr (15, [.ref h2, .int 0, .int 0, .ref h3, .int 0, .int (-1), .int 0, .int 0, .int 0, .int 0, .int 0, .int 2, .int 0, .int 0, .int 0, .ref h4, .ref h5, .ref h6, .ref h7, .int 2, .int 0, .int 0, .int 0, .int 0, .ref h8, .ref h9, .ref h10, .ref h11, .int 2, .ref h12, .int 1, .ref h13, .ref h14, .int 1, .ref h15, .ref h16, .ref h1, .int 0, .ref h17, .ref h18, .ref h19, .ref h20, .ref h21, .ref h22, .ref h23, .ref h24, .ref h25, .int 0, .ref h26, .ref h27, .ref h28, .int (-1), .ref h29, .long 0, .long 0, .int 0, .int 0, .long 0, .long 0, .ref h30, .ref h31, .ref h32, .ref h33, .ref h34, .ref h35, .long 0])), (h1, .inl (Y 1, 4, .inl (jw_l 0 [0, 1, 2, 3])))] sz)) 0 0 (va_A [(h0, .inr (15, [.ref h2, .int 0, .int 0, .ref h3, .int 0, .int (-1), .int 0, .int 0, .int 0, .int 0, .int 0, .int 2, .int 0, .int 0, .int 0, .ref h4, .ref h5, .ref h6, .ref h7, .int 2, .int 0, .int 0, .int 0, .int 0, .ref h8, .ref h9, .ref h10, .ref h11, .int 2, .ref h12, .int 1, .ref h13, .ref h14, .int 1, .ref h15, .ref h16, .ref h1, .int 0, .ref h17, .ref h18, .ref h19, .ref h20, .ref h21, .ref h22, .ref h23, .ref h24, .ref h25, .int 0, .ref h26, .ref h27, .ref h28, .int (-1), .ref h29, .long 0, .long 0, .int 0, .int 0, .long 0, .long 0, .ref h30, .ref h31, .ref h32, .ref h33, .ref h34, .ref h35, .long 0])), (h1, .inl (Y 1, 4, .inl (jw_l 0 [0, 1, 2, 3])))] sz) := by
  refine jw_met (fun A => jw_Qi D (fun r => r = 1) (fun w => w = []) A) (cc := cX12_arrange) (maxL := 3) (ret := (some .boolean)) pn_X12_arrange rfl rfl ?_
  intro p e s m below meth c A H locs ls hx hb hml hr hts hown hlocks hin hP hD hA hS hE hl
  have hown : s.vm.findClass RX12 = some m.cls := hown
  have hl : lv_has ls 3 [(0, .ref h0), (1, .int p1)] := hl
  refine lv_aload_n hx hb dX12_arrange_0 rfl (lv_at hl 0 rfl) ?_
  refine lv_iconst (v := 0) hx hb dX12_arrange_1 (by decide +kernel) ?_
  refine va_put (D := D) (ci := 15) (v := .int 0) (C := RX12) (T := TX12) (N := 66) hx hb hts iw_X12_arrange__X12 tyX12 tyX12_ok nmX12 hown hE.1 hP hD hS 0 rfl rfl 2 (by decide) (hts _ mw_X12_arrange__1) (fun _ h9 => h9) rfl (tyX12_ok 2 (by decide)) rfl rfl (Nat.le_of_ble_eq_true rfl) dX12_arrange_2 (fun H locs hP hD hS => ?_)
  have hP : va_P D vwCl [(h0, .inr (15, [.ref h2, .int 0, .int 0, .ref h3, .int 0, .int (-1), .int 0, .int 0, .int 0, .int 0, .int 0, .int 2, .int 0, .int 0, .int 0, .ref h4, .ref h5, .ref h6, .ref h7, .int 2, .int 0, .int 0, .int 0, .int 0, .ref h8, .ref h9, .ref h10, .ref h11, .int 2, .ref h12, .int 1, .ref h13, .ref h14, .int 1, .ref h15, .ref h16, .ref h1, .int 0, .ref h17, .ref h18, .ref h19, .ref h20, .ref h21, .ref h22, .ref h23, .ref h24, .ref h25, .int 0, .ref h26, .ref h27, .ref h28, .int (-1), .ref h29, .long 0, .long 0, .int 0, .int 0, .long 0, .long 0, .ref h30, .ref h31, .ref h32, .ref h33, .ref h34, .ref h35, .long 0])), (h1, .inl (Y 1, 4, .inl (jw_l 0 [0, 1, 2, 3])))] H := hP
  have hD : va_D A [(h0, .inr (15, [.ref h2, .int 0, .int 0, .ref h3, .int 0, .int (-1), .int 0, .int 0, .int 0, .int 0, .int 0, .int 2, .int 0, .int 0, .int 0, .ref h4, .ref h5, .ref h6, .ref h7, .int 2, .int 0, .int 0, .int 0, .int 0, .ref h8, .ref h9, .ref h10, .ref h11, .int 2, .ref h12, .int 1, .ref h13, .ref h14, .int 1, .ref h15, .ref h16, .ref h1, .int 0, .ref h17, .ref h18, .ref h19, .ref h20, .ref h21, .ref h22, .ref h23, .ref h24, .ref h25, .int 0, .ref h26, .ref h27, .ref h28, .int (-1), .ref h29, .long 0, .long 0, .int 0, .int 0, .long 0, .long 0, .ref h30, .ref h31, .ref h32, .ref h33, .ref h34, .ref h35, .long 0])), (h1, .inl (Y 1, 4, .inl (jw_l 0 [0, 1, 2, 3])))] := hD
  refine lv_iload_n hx hb dX12_arrange_5 rfl (lv_at hl 1 rfl) ?_
  refine lv_aload_n hx hb dX12_arrange_6 rfl (lv_at hl 0 rfl) ?_
  refine va_get (D := D) (ci := 15) (v := .int 2) (C := RX12) (T := TX12) (N := 66) hx hb hts iw_X12_arrange__X12 hown hE.1 hP 0 rfl rfl 11 (by decide) (hts _ mw_X12_arrange__2) (fun _ h9 => h9) rfl dX12_arrange_7 ?_
  refine jw_mi (wc := []) (cs := 0) (ss := 0) (va_runS (As := [.int p1, .int 2]) (rest := []) ⟨hx, hb, hml, hown, hts⟩ (k598_X12_isOnce p1 g_p1 H.size) (va_cwS 2 hts gX12_arrange_X12_isOnce rfl rfl rfl ydS_X12_isOnce ⟨Nat.le_of_ble_eq_true rfl, Nat.le_of_ble_eq_true rfl⟩) (jw_mpreS hP hD hS hA hE [] rfl) rfl rfl hl.1 rfl (lv_room (Nat.le_of_ble_eq_true rfl)) dX12_arrange_10 ⟨Nat.le_of_ble_eq_true rfl, Nat.le_of_ble_eq_true rfl⟩) hP hD hS hA [] rfl rfl rfl (fun r9 w1 H locs hr9 hw9 hP hD hS => ?_)
  subst hr9
  subst hw9
  have hP : va_P D vwCl [(h0, .inr (15, [.ref h2, .int 0, .int 0, .ref h3, .int 0, .int (-1), .int 0, .int 0, .int 0, .int 0, .int 0, .int 2, .int 0, .int 0, .int 0, .ref h4, .ref h5, .ref h6, .ref h7, .int 2, .int 0, .int 0, .int 0, .int 0, .ref h8, .ref h9, .ref h10, .ref h11, .int 2, .ref h12, .int 1, .ref h13, .ref h14, .int 1, .ref h15, .ref h16, .ref h1, .int 0, .ref h17, .ref h18, .ref h19, .ref h20, .ref h21, .ref h22, .ref h23, .ref h24, .ref h25, .int 0, .ref h26, .ref h27, .ref h28, .int (-1), .ref h29, .long 0, .long 0, .int 0, .int 0, .long 0, .long 0, .ref h30, .ref h31, .ref h32, .ref h33, .ref h34, .ref h35, .long 0])), (h1, .inl (Y 1, 4, .inl (jw_l 0 [0, 1, 2, 3])))] H := hP
  have hD : va_D A [(h0, .inr (15, [.ref h2, .int 0, .int 0, .ref h3, .int 0, .int (-1), .int 0, .int 0, .int 0, .int 0, .int 0, .int 2, .int 0, .int 0, .int 0, .ref h4, .ref h5, .ref h6, .ref h7, .int 2, .int 0, .int 0, .int 0, .int 0, .ref h8, .ref h9, .ref h10, .ref h11, .int 2, .ref h12, .int 1, .ref h13, .ref h14, .int 1, .ref h15, .ref h16, .ref h1, .int 0, .ref h17, .ref h18, .ref h19, .ref h20, .ref h21, .ref h22, .ref h23, .ref h24, .ref h25, .int 0, .ref h26, .ref h27, .ref h28, .int (-1), .ref h29, .long 0, .long 0, .int 0, .int 0, .long 0, .long 0, .ref h30, .ref h31, .ref h32, .ref h33, .ref h34, .ref h35, .long 0])), (h1, .inl (Y 1, 4, .inl (jw_l 0 [0, 1, 2, 3])))] := hD
  refine lv_if_ne (tgt := 18) hx hb dX12_arrange_13 (by decide) (fun _ => ?_) (fun c9 => absurd c9 (by decide +kernel))
  refine lv_iconst (v := 0) hx hb dX12_arrange_18 (by decide +kernel) ?_
  refine lv_istore_n (lv' := [(2, .int 0), (0, .ref h0), (1, .int p1)]) hx hb dX12_arrange_19 rfl hl (by decide) rfl (fun ls hl => ?_)
  refine lv_iload_n hx hb dX12_arrange_20 rfl (lv_at hl 0 rfl) ?_
  refine lv_aload_n hx hb dX12_arrange_21 rfl (lv_at hl 1 rfl) ?_
  refine va_get (D := D) (ci := 15) (v := .int 2) (C := RX12) (T := TX12) (N := 66) hx hb hts iw_X12_arrange__X12 hown hE.1 hP 0 rfl rfl 11 (by decide) (hts _ mw_X12_arrange__2) (fun _ h9 => h9) rfl dX12_arrange_22 ?_
  refine lv_icmp_ge (tgt := 47) hx hb dX12_arrange_25 (by decide) (fun c9 => absurd c9 (by decide +kernel)) (fun _ => ?_)
  refine lv_aload_n hx hb dX12_arrange_28 rfl (lv_at hl 1 rfl) ?_
  refine va_get (D := D) (ci := 15) (v := .ref h1) (C := RX12) (T := TX12) (N := 66) hx hb hts iw_X12_arrange__X12 hown hE.1 hP 0 rfl rfl 36 (by decide) (hts _ mw_X12_arrange__3) (fun _ h9 => h9) rfl dX12_arrange_29 ?_
  refine lv_iload_n hx hb dX12_arrange_32 rfl (lv_at hl 0 rfl) ?_
  refine lv_iload_n hx hb dX12_arrange_33 rfl (lv_at hl 2 rfl) ?_
  refine lv_iconst (v := 2) hx hb dX12_arrange_34 (by decide +kernel) ?_
  refine lv_iload_n hx hb dX12_arrange_35 rfl (lv_at hl 0 rfl) ?_
  refine jw_imul (v := 0) hx hb dX12_arrange_36 (by decide +kernel) ?_
  refine jw_ishr (v := (p1 >>> (0 &&& 31))) hx hb dX12_arrange_37 rfl ?_
  refine lv_iconst (v := 3) hx hb dX12_arrange_38 (by decide +kernel) ?_
  refine jw_iand (v := 0) hx hb dX12_arrange_39 (jw_bs0 g_p1 (by decide +kernel)) ?_
  refine jw_iast (ws' := [(h0, .inr (15, [.ref h2, .int 0, .int 0, .ref h3, .int 0, .int (-1), .int 0, .int 0, .int 0, .int 0, .int 0, .int 2, .int 0, .int 0, .int 0, .ref h4, .ref h5, .ref h6, .ref h7, .int 2, .int 0, .int 0, .int 0, .int 0, .ref h8, .ref h9, .ref h10, .ref h11, .int 2, .ref h12, .int 1, .ref h13, .ref h14, .int 1, .ref h15, .ref h16, .ref h1, .int 0, .ref h17, .ref h18, .ref h19, .ref h20, .ref h21, .ref h22, .ref h23, .ref h24, .ref h25, .int 0, .ref h26, .ref h27, .ref h28, .int (-1), .ref h29, .long 0, .long 0, .int 0, .int 0, .long 0, .long 0, .ref h30, .ref h31, .ref h32, .ref h33, .ref h34, .ref h35, .long 0])), (h1, .inl (Y 1, 4, .inl (jw_l 0 [0, 1, 2, 3])))]) hx hb hE hP hD hS 1 0 [0, 1, 2, 3] rfl (by decide +kernel) (by decide +kernel) rfl dX12_arrange_40 (fun H locs hP hD hS => ?_)
  refine lv_iinc (v := 1) (lv' := [(2, .int 1), (0, .ref h0), (1, .int p1)]) hx hb dX12_arrange_41 hl (k := 0) rfl (by decide +kernel) (by decide) rfl (fun ls hl => ?_)
  refine lv_goto (tgt := 20) hx hb dX12_arrange_44 (by decide) ?_
  refine lv_iload_n hx hb dX12_arrange_20 rfl (lv_at hl 0 rfl) ?_
  refine lv_aload_n hx hb dX12_arrange_21 rfl (lv_at hl 1 rfl) ?_
  refine va_get (D := D) (ci := 15) (v := .int 2) (C := RX12) (T := TX12) (N := 66) hx hb hts iw_X12_arrange__X12 hown hE.1 hP 0 rfl rfl 11 (by decide) (hts _ mw_X12_arrange__2) (fun _ h9 => h9) rfl dX12_arrange_22 ?_
  refine lv_icmp_ge (tgt := 47) hx hb dX12_arrange_25 (by decide) (fun c9 => absurd c9 (by decide +kernel)) (fun _ => ?_)
  refine lv_aload_n hx hb dX12_arrange_28 rfl (lv_at hl 1 rfl) ?_
  refine va_get (D := D) (ci := 15) (v := .ref h1) (C := RX12) (T := TX12) (N := 66) hx hb hts iw_X12_arrange__X12 hown hE.1 hP 0 rfl rfl 36 (by decide) (hts _ mw_X12_arrange__3) (fun _ h9 => h9) rfl dX12_arrange_29 ?_
  refine lv_iload_n hx hb dX12_arrange_32 rfl (lv_at hl 0 rfl) ?_
  refine lv_iload_n hx hb dX12_arrange_33 rfl (lv_at hl 2 rfl) ?_
  refine lv_iconst (v := 2) hx hb dX12_arrange_34 (by decide +kernel) ?_
  refine lv_iload_n hx hb dX12_arrange_35 rfl (lv_at hl 0 rfl) ?_
  refine jw_imul (v := 2) hx hb dX12_arrange_36 (by decide +kernel) ?_
  refine jw_ishr (v := (p1 >>> (2 &&& 31))) hx hb dX12_arrange_37 rfl ?_
  refine lv_iconst (v := 3) hx hb dX12_arrange_38 (by decide +kernel) ?_
  refine jw_iand (v := 1) hx hb dX12_arrange_39 (jw_bs1 g_p1 (by decide +kernel)) ?_
  refine jw_iast (ws' := [(h0, .inr (15, [.ref h2, .int 0, .int 0, .ref h3, .int 0, .int (-1), .int 0, .int 0, .int 0, .int 0, .int 0, .int 2, .int 0, .int 0, .int 0, .ref h4, .ref h5, .ref h6, .ref h7, .int 2, .int 0, .int 0, .int 0, .int 0, .ref h8, .ref h9, .ref h10, .ref h11, .int 2, .ref h12, .int 1, .ref h13, .ref h14, .int 1, .ref h15, .ref h16, .ref h1, .int 0, .ref h17, .ref h18, .ref h19, .ref h20, .ref h21, .ref h22, .ref h23, .ref h24, .ref h25, .int 0, .ref h26, .ref h27, .ref h28, .int (-1), .ref h29, .long 0, .long 0, .int 0, .int 0, .long 0, .long 0, .ref h30, .ref h31, .ref h32, .ref h33, .ref h34, .ref h35, .long 0])), (h1, .inl (Y 1, 4, .inl (jw_l 0 [0, 1, 2, 3])))]) hx hb hE hP hD hS 1 1 [0, 1, 2, 3] rfl (by decide +kernel) (by decide +kernel) rfl dX12_arrange_40 (fun H locs hP hD hS => ?_)
  refine lv_iinc (v := 2) (lv' := [(2, .int 2), (0, .ref h0), (1, .int p1)]) hx hb dX12_arrange_41 hl (k := 0) rfl (by decide +kernel) (by decide) rfl (fun ls hl => ?_)
  refine lv_goto (tgt := 20) hx hb dX12_arrange_44 (by decide) ?_
  refine lv_iload_n hx hb dX12_arrange_20 rfl (lv_at hl 0 rfl) ?_
  refine lv_aload_n hx hb dX12_arrange_21 rfl (lv_at hl 1 rfl) ?_
  refine va_get (D := D) (ci := 15) (v := .int 2) (C := RX12) (T := TX12) (N := 66) hx hb hts iw_X12_arrange__X12 hown hE.1 hP 0 rfl rfl 11 (by decide) (hts _ mw_X12_arrange__2) (fun _ h9 => h9) rfl dX12_arrange_22 ?_
  refine lv_icmp_ge (tgt := 47) hx hb dX12_arrange_25 (by decide) (fun _ => ?_) (fun c9 => absurd (by decide +kernel) c9)
  refine lv_aload_n hx hb dX12_arrange_47 rfl (lv_at hl 1 rfl) ?_
  refine lv_iconst (v := 0) hx hb dX12_arrange_48 (by decide +kernel) ?_
  refine va_put (D := D) (ci := 15) (v := .int 0) (C := RX12) (T := TX12) (N := 66) hx hb hts iw_X12_arrange__X12 tyX12 tyX12_ok nmX12 hown hE.1 hP hD hS 0 rfl rfl 37 (by decide) (hts _ mw_X12_arrange__4) (fun _ h9 => h9) rfl (tyX12_ok 37 (by decide)) rfl rfl (Nat.le_of_ble_eq_true rfl) dX12_arrange_49 (fun H locs hP hD hS => ?_)
  have hP : va_P D vwCl [(h0, .inr (15, [.ref h2, .int 0, .int 0, .ref h3, .int 0, .int (-1), .int 0, .int 0, .int 0, .int 0, .int 0, .int 2, .int 0, .int 0, .int 0, .ref h4, .ref h5, .ref h6, .ref h7, .int 2, .int 0, .int 0, .int 0, .int 0, .ref h8, .ref h9, .ref h10, .ref h11, .int 2, .ref h12, .int 1, .ref h13, .ref h14, .int 1, .ref h15, .ref h16, .ref h1, .int 0, .ref h17, .ref h18, .ref h19, .ref h20, .ref h21, .ref h22, .ref h23, .ref h24, .ref h25, .int 0, .ref h26, .ref h27, .ref h28, .int (-1), .ref h29, .long 0, .long 0, .int 0, .int 0, .long 0, .long 0, .ref h30, .ref h31, .ref h32, .ref h33, .ref h34, .ref h35, .long 0])), (h1, .inl (Y 1, 4, .inl (jw_l 0 [0, 1, 2, 3])))] H := hP
  have hD : va_D A [(h0, .inr (15, [.ref h2, .int 0, .int 0, .ref h3, .int 0, .int (-1), .int 0, .int 0, .int 0, .int 0, .int 0, .int 2, .int 0, .int 0, .int 0, .ref h4, .ref h5, .ref h6, .ref h7, .int 2, .int 0, .int 0, .int 0, .int 0, .ref h8, .ref h9, .ref h10, .ref h11, .int 2, .ref h12, .int 1, .ref h13, .ref h14, .int 1, .ref h15, .ref h16, .ref h1, .int 0, .ref h17, .ref h18, .ref h19, .ref h20, .ref h21, .ref h22, .ref h23, .ref h24, .ref h25, .int 0, .ref h26, .ref h27, .ref h28, .int (-1), .ref h29, .long 0, .long 0, .int 0, .int 0, .long 0, .long 0, .ref h30, .ref h31, .ref h32, .ref h33, .ref h34, .ref h35, .long 0])), (h1, .inl (Y 1, 4, .inl (jw_l 0 [0, 1, 2, 3])))] := hD
  refine lv_aload_n hx hb dX12_arrange_52 rfl (lv_at hl 1 rfl) ?_
  refine lv_iconst (v := (-1)) hx hb dX12_arrange_53 (by decide +kernel) ?_
  refine va_put (D := D) (ci := 15) (v := .int (-1)) (C := RX12) (T := TX12) (N := 66) hx hb hts iw_X12_arrange__X12 tyX12 tyX12_ok nmX12 hown hE.1 hP hD hS 0 rfl rfl 51 (by decide) (hts _ mw_X12_arrange__5) (fun _ h9 => h9) rfl (tyX12_ok 51 (by decide)) rfl rfl (Nat.le_of_ble_eq_true rfl) dX12_arrange_54 (fun H locs hP hD hS => ?_)
  have hP : va_P D vwCl [(h0, .inr (15, [.ref h2, .int 0, .int 0, .ref h3, .int 0, .int (-1), .int 0, .int 0, .int 0, .int 0, .int 0, .int 2, .int 0, .int 0, .int 0, .ref h4, .ref h5, .ref h6, .ref h7, .int 2, .int 0, .int 0, .int 0, .int 0, .ref h8, .ref h9, .ref h10, .ref h11, .int 2, .ref h12, .int 1, .ref h13, .ref h14, .int 1, .ref h15, .ref h16, .ref h1, .int 0, .ref h17, .ref h18, .ref h19, .ref h20, .ref h21, .ref h22, .ref h23, .ref h24, .ref h25, .int 0, .ref h26, .ref h27, .ref h28, .int (-1), .ref h29, .long 0, .long 0, .int 0, .int 0, .long 0, .long 0, .ref h30, .ref h31, .ref h32, .ref h33, .ref h34, .ref h35, .long 0])), (h1, .inl (Y 1, 4, .inl (jw_l 0 [0, 1, 2, 3])))] H := hP
  have hD : va_D A [(h0, .inr (15, [.ref h2, .int 0, .int 0, .ref h3, .int 0, .int (-1), .int 0, .int 0, .int 0, .int 0, .int 0, .int 2, .int 0, .int 0, .int 0, .ref h4, .ref h5, .ref h6, .ref h7, .int 2, .int 0, .int 0, .int 0, .int 0, .ref h8, .ref h9, .ref h10, .ref h11, .int 2, .ref h12, .int 1, .ref h13, .ref h14, .int 1, .ref h15, .ref h16, .ref h1, .int 0, .ref h17, .ref h18, .ref h19, .ref h20, .ref h21, .ref h22, .ref h23, .ref h24, .ref h25, .int 0, .ref h26, .ref h27, .ref h28, .int (-1), .ref h29, .long 0, .long 0, .int 0, .int 0, .long 0, .long 0, .ref h30, .ref h31, .ref h32, .ref h33, .ref h34, .ref h35, .long 0])), (h1, .inl (Y 1, 4, .inl (jw_l 0 [0, 1, 2, 3])))] := hD
  refine lv_iconst (v := 1) hx hb dX12_arrange_57 (by decide +kernel) ?_
  refine W.widen (k := 0) (n := 0) (Nat.le_of_ble_eq_true rfl) (Nat.le_of_ble_eq_true rfl) ?_
  have hP : va_P D vwCl [] H := hP.sub [] rfl
  have hD : va_D A [] := hD.sub [] rfl rfl
  exact jw_zret hx hb hr hlocks rfl rfl rfl hP hD hS dX12_arrange_58
set_option maxHeartbeats 4000000 in
set_option maxRecDepth 100000 in
theorem k600_X11_readTurns {l : Launch} {D : va_G} {Y : Nat → ClassId} {tt : Nat → Nat} (h0 : Nat) (p0 : Int32) (g_p0 : p0.toBitVec.toNat % 16 = 5) (sz : Nat) : Met l yX11_readTurns wsX11_readTurns ({ frames := 0, cells := 0, slots := 0, locals := 0 }) (jw_Pc D Y tt [.int p0, .int 2, .ref h0] [] sz) (jw_Qi D (fun r => r = 0) (fun w => w = []) (va_A [] sz)) 0 0 (va_A [] sz) := by
  refine jw_met (fun A => jw_Qi D (fun r => r = 0) (fun w => w = []) A) (cc := cX11_readTurns) (maxL := 5) (ret := (some .boolean)) pn_X11_readTurns rfl rfl ?_
  intro p e s m below meth c A H locs ls hx hb hml hr hts hown hlocks hin hP hD hA hS hE hl
  have hown : s.vm.findClass RX11 = some m.cls := hown
  have hl : lv_has ls 5 [(0, .int p0), (1, .int 2), (2, .ref h0)] := hl
  refine lv_iconst (v := 0) hx hb dX11_readTurns_0 (by decide +kernel) ?_
  refine lv_istore_n (lv' := [(3, .int 0), (0, .int p0), (1, .int 2), (2, .ref h0)]) hx hb dX11_readTurns_1 rfl hl (by decide) rfl (fun ls hl => ?_)
  refine lv_iconst (v := 0) hx hb dX11_readTurns_2 (by decide +kernel) ?_
  refine lv_istore (lv' := [(4, .int 0), (3, .int 0), (0, .int p0), (1, .int 2), (2, .ref h0)]) hx hb dX11_readTurns_3 hl (by decide) rfl (fun ls hl => ?_)
  refine lv_iload hx hb dX11_readTurns_5 (lv_at hl 0 rfl) ?_
  refine lv_iload_n hx hb dX11_readTurns_7 rfl (lv_at hl 3 rfl) ?_
  refine lv_icmp_ge (tgt := 30) hx hb dX11_readTurns_8 (by decide) (fun c9 => absurd c9 (by decide +kernel)) (fun _ => ?_)
  refine lv_iload_n hx hb dX11_readTurns_11 rfl (lv_at hl 1 rfl) ?_
  refine lv_iconst (v := 1) hx hb dX11_readTurns_12 (by decide +kernel) ?_
  refine lv_iload_n hx hb dX11_readTurns_13 rfl (lv_at hl 2 rfl) ?_
  refine lv_iconst (v := 2) hx hb dX11_readTurns_14 (by decide +kernel) ?_
  refine lv_iload hx hb dX11_readTurns_15 (lv_at hl 0 rfl) ?_
  refine jw_imul (v := 0) hx hb dX11_readTurns_17 (by decide +kernel) ?_
  refine lv_iushr (v := (p0.toUInt32 >>> ((0 : Int32).toUInt32 &&& Int32.toUInt32 31)).toInt32) hx hb dX11_readTurns_18 rfl ?_
  refine lv_iconst (v := 3) hx hb dX11_readTurns_19 (by decide +kernel) ?_
  refine jw_iand (v := 1) hx hb dX11_readTurns_20 (jw_bu0 g_p0 (by decide +kernel)) ?_
  refine jw_ishl (v := 2) hx hb dX11_readTurns_21 (by decide +kernel) ?_
  refine jw_ior (v := 2) hx hb dX11_readTurns_22 (by decide +kernel) ?_
  refine lv_istore_n (lv' := [(3, .int 2), (4, .int 0), (0, .int p0), (1, .int 2), (2, .ref h0)]) hx hb dX11_readTurns_23 rfl hl (by decide) rfl (fun ls hl => ?_)
  refine lv_iinc (v := 1) (lv' := [(4, .int 1), (3, .int 2), (0, .int p0), (1, .int 2), (2, .ref h0)]) hx hb dX11_readTurns_24 hl (k := 1) rfl (by decide +kernel) (by decide) rfl (fun ls hl => ?_)
  refine lv_goto (tgt := 5) hx hb dX11_readTurns_27 (by decide) ?_
  refine lv_iload hx hb dX11_readTurns_5 (lv_at hl 0 rfl) ?_
  refine lv_iload_n hx hb dX11_readTurns_7 rfl (lv_at hl 3 rfl) ?_
  refine lv_icmp_ge (tgt := 30) hx hb dX11_readTurns_8 (by decide) (fun c9 => absurd c9 (by decide +kernel)) (fun _ => ?_)
  refine lv_iload_n hx hb dX11_readTurns_11 rfl (lv_at hl 1 rfl) ?_
  refine lv_iconst (v := 1) hx hb dX11_readTurns_12 (by decide +kernel) ?_
  refine lv_iload_n hx hb dX11_readTurns_13 rfl (lv_at hl 2 rfl) ?_
  refine lv_iconst (v := 2) hx hb dX11_readTurns_14 (by decide +kernel) ?_
  refine lv_iload hx hb dX11_readTurns_15 (lv_at hl 0 rfl) ?_
  refine jw_imul (v := 2) hx hb dX11_readTurns_17 (by decide +kernel) ?_
  refine lv_iushr (v := (p0.toUInt32 >>> ((2 : Int32).toUInt32 &&& Int32.toUInt32 31)).toInt32) hx hb dX11_readTurns_18 rfl ?_
  refine lv_iconst (v := 3) hx hb dX11_readTurns_19 (by decide +kernel) ?_
  refine jw_iand (v := 1) hx hb dX11_readTurns_20 (jw_bu1 g_p0 (by decide +kernel)) ?_
  refine jw_ishl (v := 2) hx hb dX11_readTurns_21 (by decide +kernel) ?_
  refine jw_ior (v := 2) hx hb dX11_readTurns_22 (by decide +kernel) ?_
  refine lv_istore_n (lv' := [(3, .int 2), (4, .int 1), (0, .int p0), (1, .int 2), (2, .ref h0)]) hx hb dX11_readTurns_23 rfl hl (by decide) rfl (fun ls hl => ?_)
  refine lv_iinc (v := 2) (lv' := [(4, .int 2), (3, .int 2), (0, .int p0), (1, .int 2), (2, .ref h0)]) hx hb dX11_readTurns_24 hl (k := 1) rfl (by decide +kernel) (by decide) rfl (fun ls hl => ?_)
  refine lv_goto (tgt := 5) hx hb dX11_readTurns_27 (by decide) ?_
  refine lv_iload hx hb dX11_readTurns_5 (lv_at hl 0 rfl) ?_
  refine lv_iload_n hx hb dX11_readTurns_7 rfl (lv_at hl 3 rfl) ?_
  refine lv_icmp_ge (tgt := 30) hx hb dX11_readTurns_8 (by decide) (fun _ => ?_) (fun c9 => absurd (by decide +kernel) c9)
  refine lv_iload_n hx hb dX11_readTurns_30 rfl (lv_at hl 1 rfl) ?_
  refine lv_iconst (v := 1) hx hb dX11_readTurns_31 (by decide +kernel) ?_
  refine lv_iload_n hx hb dX11_readTurns_32 rfl (lv_at hl 3 rfl) ?_
  refine jw_ishl (v := 4) hx hb dX11_readTurns_33 (by decide +kernel) ?_
  refine lv_iconst (v := 1) hx hb dX11_readTurns_34 (by decide +kernel) ?_
  refine jw_isub (v := 3) hx hb dX11_readTurns_35 (by decide +kernel) ?_
  refine lv_icmp_eq (tgt := 41) hx hb dX11_readTurns_36 (by decide) (fun c9 => absurd c9 (by decide +kernel)) (fun _ => ?_)
  refine lv_iconst (v := 0) hx hb dX11_readTurns_39 (by decide +kernel) ?_
  refine W.widen (k := 0) (n := 0) (Nat.le_of_ble_eq_true rfl) (Nat.le_of_ble_eq_true rfl) ?_
  exact jw_zret hx hb hr hlocks rfl rfl rfl hP hD hS dX11_readTurns_40
set_option maxHeartbeats 4000000 in
set_option maxRecDepth 100000 in
theorem k601_X11_arrange {l : Launch} {D : va_G} {Y : Nat → ClassId} {tt : Nat → Nat} (h0 h1 h2 h3 h4 h5 h6 h7 h8 h9 h10 h11 h12 h13 h14 h15 h16 h17 h18 h19 h20 h21 h22 h23 h24 h25 : Nat) (p1 : Int32) (g_p1 : p1.toBitVec.toNat % 16 = 5) (sz : Nat) : Met l yX11_arrange wsX11_arrange ({ frames := 1, cells := 0, slots := 0, locals := 24 }) (jw_Pc D Y tt [.ref h0, .int p1] [(h0, .inr (14, [.ref h3, .int 0, .ref h1, .ref h4, .ref h5, .ref h6, .ref h2, .ref h7, .ref h8, .ref h9, .ref h10, .ref h11, .ref h12, .ref h13, .ref h14, .ref h15, .int (-3), .int (-3)])), (h1, .inr (6, [.int 2, .int 0, .int 0, .int 0, .int 0, .ref h16, .ref h17, .ref h18, .ref h19, .ref h20, .int 0])), (h2, .inr (11, [.ref h1, .ref h5, .ref h21, .ref h22, .ref h23, .ref h24, .int 0, .ref h25]))] sz) (jw_Qi D (fun r => r = 0) (fun w => w = []) (va_A [(h0, .inr (14, [.ref h3, .int 0, .ref h1, .ref h4, .ref h5, .ref h6, .ref h2, .ref h7, .ref h8, .ref h9, .ref h10, .ref h11, .ref h12, .ref h13, .ref h14, .ref h15, .int (-3), .int (-3)])), (h1, .inr (6, [.int 2, .int 0, .int 0, .int 0, .int 0, .ref h16, .ref h17, .ref h18, .ref h19, .ref h20, .int 0])), (h2, .inr (11, [.ref h1, .ref h5, .ref h21, .ref h22, .ref h23, .ref h24, .int 0, .ref h25]))] sz)) 0 0 (va_A [(h0, .inr (14, [.ref h3, .int 0, .ref h1, .ref h4, .ref h5, .ref h6, .ref h2, .ref h7, .ref h8, .ref h9, .ref h10, .ref h11, .ref h12, .ref h13, .ref h14, .ref h15, .int (-3), .int (-3)])), (h1, .inr (6, [.int 2, .int 0, .int 0, .int 0, .int 0, .ref h16, .ref h17, .ref h18, .ref h19, .ref h20, .int 0])), (h2, .inr (11, [.ref h1, .ref h5, .ref h21, .ref h22, .ref h23, .ref h24, .int 0, .ref h25]))] sz) := by
  refine jw_met (fun A => jw_Qi D (fun r => r = 0) (fun w => w = []) A) (cc := cX11_arrange) (maxL := 2) (ret := (some .boolean)) pn_X11_arrange rfl rfl ?_
  intro p e s m below meth c A H locs ls hx hb hml hr hts hown hlocks hin hP hD hA hS hE hl
  have hown : s.vm.findClass RX11 = some m.cls := hown
  have hl : lv_has ls 2 [(0, .ref h0), (1, .int p1)] := hl
  refine lv_iload_n hx hb dX11_arrange_0 rfl (lv_at hl 1 rfl) ?_
  refine lv_aload_n hx hb dX11_arrange_1 rfl (lv_at hl 0 rfl) ?_
  refine va_get (D := D) (ci := 14) (v := .ref h1) (C := RX11) (T := TX11) (N := 18) hx hb hts iw_X11_arrange__X11 hown hE.1 hP 0 rfl rfl 2 (by decide) (hts _ mw_X11_arrange__1) (fun _ h9 => h9) rfl dX11_arrange_2 ?_
  refine va_getN (D := D) (ci := 6) (v := .int 2) (C := RX3) (T := TX3) (N := 11) hx hb hts iw_X11_arrange__X3 hown hE.1 hP 1 rfl rfl 0 (by decide) (nf_X11_133 hE) (fun _ h9 => h9) rfl dX11_arrange_5 ?_
  refine lv_aload_n hx hb dX11_arrange_8 rfl (lv_at hl 0 rfl) ?_
  refine va_get (D := D) (ci := 14) (v := .ref h2) (C := RX11) (T := TX11) (N := 18) hx hb hts iw_X11_arrange__X11 hown hE.1 hP 0 rfl rfl 6 (by decide) (hts _ mw_X11_arrange__2) (fun _ h9 => h9) rfl dX11_arrange_9 ?_
  refine va_getN (D := D) (ci := 11) (v := .ref h22) (C := RX8) (T := TX8) (N := 8) hx hb hts iw_X11_arrange__X8 hown hE.1 hP 2 rfl rfl 3 (by decide) (nf_X11_221 hE) (fun _ h9 => h9) rfl dX11_arrange_12 ?_
  refine jw_mi (wc := []) (cs := 0) (ss := 0) (va_runS (As := [.int p1, .int 2, .ref h22]) (rest := []) ⟨hx, hb, hml, hown, hts⟩ (k600_X11_readTurns h22 p1 g_p1 H.size) (va_cwS 3 hts gX11_arrange_X11_readTurns rfl rfl rfl ydS_X11_readTurns ⟨Nat.le_of_ble_eq_true rfl, Nat.le_of_ble_eq_true rfl⟩) (jw_mpreS hP hD hS hA hE [] rfl) rfl rfl hl.1 rfl (lv_room (Nat.le_of_ble_eq_true rfl)) dX11_arrange_15 ⟨Nat.le_of_ble_eq_true rfl, Nat.le_of_ble_eq_true rfl⟩) hP hD hS hA [] rfl rfl rfl (fun r9 w1 H locs hr9 hw9 hP hD hS => ?_)
  subst hr9
  subst hw9
  have hP : va_P D vwCl [(h0, .inr (14, [.ref h3, .int 0, .ref h1, .ref h4, .ref h5, .ref h6, .ref h2, .ref h7, .ref h8, .ref h9, .ref h10, .ref h11, .ref h12, .ref h13, .ref h14, .ref h15, .int (-3), .int (-3)])), (h1, .inr (6, [.int 2, .int 0, .int 0, .int 0, .int 0, .ref h16, .ref h17, .ref h18, .ref h19, .ref h20, .int 0])), (h2, .inr (11, [.ref h1, .ref h5, .ref h21, .ref h22, .ref h23, .ref h24, .int 0, .ref h25]))] H := hP
  have hD : va_D A [(h0, .inr (14, [.ref h3, .int 0, .ref h1, .ref h4, .ref h5, .ref h6, .ref h2, .ref h7, .ref h8, .ref h9, .ref h10, .ref h11, .ref h12, .ref h13, .ref h14, .ref h15, .int (-3), .int (-3)])), (h1, .inr (6, [.int 2, .int 0, .int 0, .int 0, .int 0, .ref h16, .ref h17, .ref h18, .ref h19, .ref h20, .int 0])), (h2, .inr (11, [.ref h1, .ref h5, .ref h21, .ref h22, .ref h23, .ref h24, .int 0, .ref h25]))] := hD
  refine lv_if_ne (tgt := 23) hx hb dX11_arrange_18 (by decide) (fun c9 => absurd (by decide +kernel) c9) (fun _ => ?_)
  refine lv_iconst (v := 0) hx hb dX11_arrange_21 (by decide +kernel) ?_
  refine W.widen (k := 0) (n := 0) (Nat.le_of_ble_eq_true rfl) (Nat.le_of_ble_eq_true rfl) ?_
  have hP : va_P D vwCl [] H := hP.sub [] rfl
  have hD : va_D A [] := hD.sub [] rfl rfl
  exact jw_zret hx hb hr hlocks rfl rfl rfl hP hD hS dX11_arrange_22
set_option maxHeartbeats 4000000 in
set_option maxRecDepth 100000 in
theorem k602_X12_isOnce {l : Launch} {D : va_G} {Y : Nat → ClassId} {tt : Nat → Nat} (p0 : Int32) (g_p0 : p0.toBitVec.toNat % 16 = 5) (sz : Nat) : Met l yX12_isOnce wsX12_isOnce ({ frames := 0, cells := 0, slots := 0, locals := 0 }) (jw_Pc D Y tt [.int p0, .int 2] [] sz) (jw_Qi D (fun r => r = 0) (fun w => w = []) (va_A [] sz)) 0 0 (va_A [] sz) := by
  refine jw_met (fun A => jw_Qi D (fun r => r = 0) (fun w => w = []) A) (cc := cX12_isOnce) (maxL := 4) (ret := (some .boolean)) pn_X12_isOnce rfl rfl ?_
  intro p e s m below meth c A H locs ls hx hb hml hr hts hown hlocks hin hP hD hA hS hE hl
  have hown : s.vm.findClass RX12 = some m.cls := hown
  have hl : lv_has ls 4 [(0, .int p0), (1, .int 2)] := hl
  refine lv_iconst (v := 0) hx hb dX12_isOnce_0 (by decide +kernel) ?_
  refine lv_istore_n (lv' := [(2, .int 0), (0, .int p0), (1, .int 2)]) hx hb dX12_isOnce_1 rfl hl (by decide) rfl (fun ls hl => ?_)
  refine lv_iconst (v := 0) hx hb dX12_isOnce_2 (by decide +kernel) ?_
  refine lv_istore_n (lv' := [(3, .int 0), (2, .int 0), (0, .int p0), (1, .int 2)]) hx hb dX12_isOnce_3 rfl hl (by decide) rfl (fun ls hl => ?_)
  refine lv_iload_n hx hb dX12_isOnce_4 rfl (lv_at hl 0 rfl) ?_
  refine lv_iload_n hx hb dX12_isOnce_5 rfl (lv_at hl 3 rfl) ?_
  refine lv_icmp_ge (tgt := 27) hx hb dX12_isOnce_6 (by decide) (fun c9 => absurd c9 (by decide +kernel)) (fun _ => ?_)
  refine lv_iload_n hx hb dX12_isOnce_9 rfl (lv_at hl 1 rfl) ?_
  refine lv_iconst (v := 1) hx hb dX12_isOnce_10 (by decide +kernel) ?_
  refine lv_iload_n hx hb dX12_isOnce_11 rfl (lv_at hl 2 rfl) ?_
  refine lv_iconst (v := 2) hx hb dX12_isOnce_12 (by decide +kernel) ?_
  refine lv_iload_n hx hb dX12_isOnce_13 rfl (lv_at hl 0 rfl) ?_
  refine jw_imul (v := 0) hx hb dX12_isOnce_14 (by decide +kernel) ?_
  refine jw_ishr (v := (p0 >>> (0 &&& 31))) hx hb dX12_isOnce_15 rfl ?_
  refine lv_iconst (v := 3) hx hb dX12_isOnce_16 (by decide +kernel) ?_
  refine jw_iand (v := 1) hx hb dX12_isOnce_17 (jw_bs0 g_p0 (by decide +kernel)) ?_
  refine jw_ishl (v := 2) hx hb dX12_isOnce_18 (by decide +kernel) ?_
  refine jw_ior (v := 2) hx hb dX12_isOnce_19 (by decide +kernel) ?_
  refine lv_istore_n (lv' := [(2, .int 2), (3, .int 0), (0, .int p0), (1, .int 2)]) hx hb dX12_isOnce_20 rfl hl (by decide) rfl (fun ls hl => ?_)
  refine lv_iinc (v := 1) (lv' := [(3, .int 1), (2, .int 2), (0, .int p0), (1, .int 2)]) hx hb dX12_isOnce_21 hl (k := 1) rfl (by decide +kernel) (by decide) rfl (fun ls hl => ?_)
  refine lv_goto (tgt := 4) hx hb dX12_isOnce_24 (by decide) ?_
  refine lv_iload_n hx hb dX12_isOnce_4 rfl (lv_at hl 0 rfl) ?_
  refine lv_iload_n hx hb dX12_isOnce_5 rfl (lv_at hl 3 rfl) ?_
  refine lv_icmp_ge (tgt := 27) hx hb dX12_isOnce_6 (by decide) (fun c9 => absurd c9 (by decide +kernel)) (fun _ => ?_)
  refine lv_iload_n hx hb dX12_isOnce_9 rfl (lv_at hl 1 rfl) ?_
  refine lv_iconst (v := 1) hx hb dX12_isOnce_10 (by decide +kernel) ?_
  refine lv_iload_n hx hb dX12_isOnce_11 rfl (lv_at hl 2 rfl) ?_
  refine lv_iconst (v := 2) hx hb dX12_isOnce_12 (by decide +kernel) ?_
  refine lv_iload_n hx hb dX12_isOnce_13 rfl (lv_at hl 0 rfl) ?_
  refine jw_imul (v := 2) hx hb dX12_isOnce_14 (by decide +kernel) ?_
  refine jw_ishr (v := (p0 >>> (2 &&& 31))) hx hb dX12_isOnce_15 rfl ?_
  refine lv_iconst (v := 3) hx hb dX12_isOnce_16 (by decide +kernel) ?_
  refine jw_iand (v := 1) hx hb dX12_isOnce_17 (jw_bs1 g_p0 (by decide +kernel)) ?_
  refine jw_ishl (v := 2) hx hb dX12_isOnce_18 (by decide +kernel) ?_
  refine jw_ior (v := 2) hx hb dX12_isOnce_19 (by decide +kernel) ?_
  refine lv_istore_n (lv' := [(2, .int 2), (3, .int 1), (0, .int p0), (1, .int 2)]) hx hb dX12_isOnce_20 rfl hl (by decide) rfl (fun ls hl => ?_)
  refine lv_iinc (v := 2) (lv' := [(3, .int 2), (2, .int 2), (0, .int p0), (1, .int 2)]) hx hb dX12_isOnce_21 hl (k := 1) rfl (by decide +kernel) (by decide) rfl (fun ls hl => ?_)
  refine lv_goto (tgt := 4) hx hb dX12_isOnce_24 (by decide) ?_
  refine lv_iload_n hx hb dX12_isOnce_4 rfl (lv_at hl 0 rfl) ?_
  refine lv_iload_n hx hb dX12_isOnce_5 rfl (lv_at hl 3 rfl) ?_
  refine lv_icmp_ge (tgt := 27) hx hb dX12_isOnce_6 (by decide) (fun _ => ?_) (fun c9 => absurd (by decide +kernel) c9)
  refine lv_iload_n hx hb dX12_isOnce_27 rfl (lv_at hl 1 rfl) ?_
  refine lv_iconst (v := 1) hx hb dX12_isOnce_28 (by decide +kernel) ?_
  refine lv_iload_n hx hb dX12_isOnce_29 rfl (lv_at hl 3 rfl) ?_
  refine jw_ishl (v := 4) hx hb dX12_isOnce_30 (by decide +kernel) ?_
  refine lv_iconst (v := 1) hx hb dX12_isOnce_31 (by decide +kernel) ?_
  refine jw_isub (v := 3) hx hb dX12_isOnce_32 (by decide +kernel) ?_
  refine lv_icmp_ne (tgt := 40) hx hb dX12_isOnce_33 (by decide) (fun _ => ?_) (fun c9 => absurd c9 (by decide +kernel))
  refine lv_iconst (v := 0) hx hb dX12_isOnce_40 (by decide +kernel) ?_
  refine W.widen (k := 0) (n := 0) (Nat.le_of_ble_eq_true rfl) (Nat.le_of_ble_eq_true rfl) ?_
  exact jw_zret hx hb hr hlocks rfl rfl rfl hP hD hS dX12_isOnce_41
set_option maxHeartbeats 4000000 in
set_option maxRecDepth 100000 in
theorem k603_X12_arrange {l : Launch} {D : va_G} {Y : Nat → ClassId} {tt : Nat → Nat} (h0 h1 h2 h3 h4 h5 h6 h7 h8 h9 h10 h11 h12 h13 h14 h15 h16 h17 h18 h19 h20 h21 h22 h23 h24 h25 h26 h27 h28 h29 h30 h31 h32 h33 h34 h35 : Nat) (p1 : Int32) (g_p1 : p1.toBitVec.toNat % 16 = 5) (sz : Nat) : Met l yX12_arrange wsX12_arrange ({ frames := 1, cells := 0, slots := 0, locals := 23 }) (jw_Pc D Y tt [.ref h0, .int p1] [(h0, .inr (15, [.ref h1, .int 0, .int 0, .ref h2, .int 0, .int (-1), .int 0, .int 0, .int 0, .int 0, .int 0, .int 2, .int 0, .int 0, .int 0, .ref h3, .ref h4, .ref h5, .ref h6, .int 2, .int 0, .int 0, .int 0, .int 0, .ref h7, .ref h8, .ref h9, .ref h10, .int 2, .ref h11, .int 1, .ref h12, .ref h13, .int 1, .ref h14, .ref h15, .ref h16, .int 0, .ref h17, .ref h18, .ref h19, .ref h20, .ref h21, .ref h22, .ref h23, .ref h24, .ref h25, .int 0, .ref h26, .ref h27, .ref h28, .int (-1), .ref h29, .long 0, .long 0, .int 0, .int 0, .long 0, .long 0, .ref h30, .ref h31, .ref h32, .ref h33, .ref h34, .ref h35, .long 0]))] sz) (jw_Qi D (fun r => r = 0) (fun w => w = []) (va_A [(h0, .inr (15, [.ref h1, .int 0, .int 0, .ref h2, .int 0, .int (-1), .int 0, .int 0, .int 0, .int 0, .int 0, .int 2, .int 0, .int 0, .int 0, .ref h3, .ref h4, .ref h5, .ref h6, .int 2, .int 0, .int 0, .int 0, .int 0, .ref h7, .ref h8, .ref h9, .ref h10, .int 2, .ref h11, .int 1, .ref h12, .ref h13, .int 1, .ref h14, .ref h15, .ref h16, .int 0, .ref h17, .ref h18, .ref h19, .ref h20, .ref h21, .ref h22, .ref h23, .ref h24, .ref h25, .int 0, .ref h26, .ref h27, .ref h28, .int (-1), .ref h29, .long 0, .long 0, .int 0, .int 0, .long 0, .long 0, .ref h30, .ref h31, .ref h32, .ref h33, .ref h34, .ref h35, .long 0]))] sz)) 0 0 (va_A [(h0, .inr (15, [.ref h1, .int 0, .int 0, .ref h2, .int 0, .int (-1), .int 0, .int 0, .int 0, .int 0, .int 0, .int 2, .int 0, .int 0, .int 0, .ref h3, .ref h4, .ref h5, .ref h6, .int 2, .int 0, .int 0, .int 0, .int 0, .ref h7, .ref h8, .ref h9, .ref h10, .int 2, .ref h11, .int 1, .ref h12, .ref h13, .int 1, .ref h14, .ref h15, .ref h16, .int 0, .ref h17, .ref h18, .ref h19, .ref h20, .ref h21, .ref h22, .ref h23, .ref h24, .ref h25, .int 0, .ref h26, .ref h27, .ref h28, .int (-1), .ref h29, .long 0, .long 0, .int 0, .int 0, .long 0, .long 0, .ref h30, .ref h31, .ref h32, .ref h33, .ref h34, .ref h35, .long 0]))] sz) := by
  refine jw_met (fun A => jw_Qi D (fun r => r = 0) (fun w => w = []) A) (cc := cX12_arrange) (maxL := 3) (ret := (some .boolean)) pn_X12_arrange rfl rfl ?_
  intro p e s m below meth c A H locs ls hx hb hml hr hts hown hlocks hin hP hD hA hS hE hl
  have hown : s.vm.findClass RX12 = some m.cls := hown
  have hl : lv_has ls 3 [(0, .ref h0), (1, .int p1)] := hl
  refine lv_aload_n hx hb dX12_arrange_0 rfl (lv_at hl 0 rfl) ?_
  refine lv_iconst (v := 0) hx hb dX12_arrange_1 (by decide +kernel) ?_
  refine va_put (D := D) (ci := 15) (v := .int 0) (C := RX12) (T := TX12) (N := 66) hx hb hts iw_X12_arrange__X12 tyX12 tyX12_ok nmX12 hown hE.1 hP hD hS 0 rfl rfl 2 (by decide) (hts _ mw_X12_arrange__1) (fun _ h9 => h9) rfl (tyX12_ok 2 (by decide)) rfl rfl (Nat.le_of_ble_eq_true rfl) dX12_arrange_2 (fun H locs hP hD hS => ?_)
  have hP : va_P D vwCl [(h0, .inr (15, [.ref h1, .int 0, .int 0, .ref h2, .int 0, .int (-1), .int 0, .int 0, .int 0, .int 0, .int 0, .int 2, .int 0, .int 0, .int 0, .ref h3, .ref h4, .ref h5, .ref h6, .int 2, .int 0, .int 0, .int 0, .int 0, .ref h7, .ref h8, .ref h9, .ref h10, .int 2, .ref h11, .int 1, .ref h12, .ref h13, .int 1, .ref h14, .ref h15, .ref h16, .int 0, .ref h17, .ref h18, .ref h19, .ref h20, .ref h21, .ref h22, .ref h23, .ref h24, .ref h25, .int 0, .ref h26, .ref h27, .ref h28, .int (-1), .ref h29, .long 0, .long 0, .int 0, .int 0, .long 0, .long 0, .ref h30, .ref h31, .ref h32, .ref h33, .ref h34, .ref h35, .long 0]))] H := hP
  have hD : va_D A [(h0, .inr (15, [.ref h1, .int 0, .int 0, .ref h2, .int 0, .int (-1), .int 0, .int 0, .int 0, .int 0, .int 0, .int 2, .int 0, .int 0, .int 0, .ref h3, .ref h4, .ref h5, .ref h6, .int 2, .int 0, .int 0, .int 0, .int 0, .ref h7, .ref h8, .ref h9, .ref h10, .int 2, .ref h11, .int 1, .ref h12, .ref h13, .int 1, .ref h14, .ref h15, .ref h16, .int 0, .ref h17, .ref h18, .ref h19, .ref h20, .ref h21, .ref h22, .ref h23, .ref h24, .ref h25, .int 0, .ref h26, .ref h27, .ref h28, .int (-1), .ref h29, .long 0, .long 0, .int 0, .int 0, .long 0, .long 0, .ref h30, .ref h31, .ref h32, .ref h33, .ref h34, .ref h35, .long 0]))] := hD
  refine lv_iload_n hx hb dX12_arrange_5 rfl (lv_at hl 1 rfl) ?_
  refine lv_aload_n hx hb dX12_arrange_6 rfl (lv_at hl 0 rfl) ?_
  refine va_get (D := D) (ci := 15) (v := .int 2) (C := RX12) (T := TX12) (N := 66) hx hb hts iw_X12_arrange__X12 hown hE.1 hP 0 rfl rfl 11 (by decide) (hts _ mw_X12_arrange__2) (fun _ h9 => h9) rfl dX12_arrange_7 ?_
  refine jw_mi (wc := []) (cs := 0) (ss := 0) (va_runS (As := [.int p1, .int 2]) (rest := []) ⟨hx, hb, hml, hown, hts⟩ (k602_X12_isOnce p1 g_p1 H.size) (va_cwS 2 hts gX12_arrange_X12_isOnce rfl rfl rfl ydS_X12_isOnce ⟨Nat.le_of_ble_eq_true rfl, Nat.le_of_ble_eq_true rfl⟩) (jw_mpreS hP hD hS hA hE [] rfl) rfl rfl hl.1 rfl (lv_room (Nat.le_of_ble_eq_true rfl)) dX12_arrange_10 ⟨Nat.le_of_ble_eq_true rfl, Nat.le_of_ble_eq_true rfl⟩) hP hD hS hA [] rfl rfl rfl (fun r9 w1 H locs hr9 hw9 hP hD hS => ?_)
  subst hr9
  subst hw9
  have hP : va_P D vwCl [(h0, .inr (15, [.ref h1, .int 0, .int 0, .ref h2, .int 0, .int (-1), .int 0, .int 0, .int 0, .int 0, .int 0, .int 2, .int 0, .int 0, .int 0, .ref h3, .ref h4, .ref h5, .ref h6, .int 2, .int 0, .int 0, .int 0, .int 0, .ref h7, .ref h8, .ref h9, .ref h10, .int 2, .ref h11, .int 1, .ref h12, .ref h13, .int 1, .ref h14, .ref h15, .ref h16, .int 0, .ref h17, .ref h18, .ref h19, .ref h20, .ref h21, .ref h22, .ref h23, .ref h24, .ref h25, .int 0, .ref h26, .ref h27, .ref h28, .int (-1), .ref h29, .long 0, .long 0, .int 0, .int 0, .long 0, .long 0, .ref h30, .ref h31, .ref h32, .ref h33, .ref h34, .ref h35, .long 0]))] H := hP
  have hD : va_D A [(h0, .inr (15, [.ref h1, .int 0, .int 0, .ref h2, .int 0, .int (-1), .int 0, .int 0, .int 0, .int 0, .int 0, .int 2, .int 0, .int 0, .int 0, .ref h3, .ref h4, .ref h5, .ref h6, .int 2, .int 0, .int 0, .int 0, .int 0, .ref h7, .ref h8, .ref h9, .ref h10, .int 2, .ref h11, .int 1, .ref h12, .ref h13, .int 1, .ref h14, .ref h15, .ref h16, .int 0, .ref h17, .ref h18, .ref h19, .ref h20, .ref h21, .ref h22, .ref h23, .ref h24, .ref h25, .int 0, .ref h26, .ref h27, .ref h28, .int (-1), .ref h29, .long 0, .long 0, .int 0, .int 0, .long 0, .long 0, .ref h30, .ref h31, .ref h32, .ref h33, .ref h34, .ref h35, .long 0]))] := hD
  refine lv_if_ne (tgt := 18) hx hb dX12_arrange_13 (by decide) (fun c9 => absurd (by decide +kernel) c9) (fun _ => ?_)
  refine lv_iconst (v := 0) hx hb dX12_arrange_16 (by decide +kernel) ?_
  refine W.widen (k := 0) (n := 0) (Nat.le_of_ble_eq_true rfl) (Nat.le_of_ble_eq_true rfl) ?_
  have hP : va_P D vwCl [] H := hP.sub [] rfl
  have hD : va_D A [] := hD.sub [] rfl rfl
  exact jw_zret hx hb hr hlocks rfl rfl rfl hP hD hS dX12_arrange_17
set_option maxHeartbeats 4000000 in
set_option maxRecDepth 100000 in
theorem k604_X11_readTurns {l : Launch} {D : va_G} {Y : Nat → ClassId} {tt : Nat → Nat} (h0 : Nat) (p0 : Int32) (g_p0 : p0.toBitVec.toNat % 16 = 6) (sz : Nat) : Met l yX11_readTurns wsX11_readTurns ({ frames := 0, cells := 0, slots := 0, locals := 0 }) (jw_Pc D Y tt [.int p0, .int 2, .ref h0] [] sz) (jw_Qi D (fun r => r = 0) (fun w => w = []) (va_A [] sz)) 0 0 (va_A [] sz) := by
  refine jw_met (fun A => jw_Qi D (fun r => r = 0) (fun w => w = []) A) (cc := cX11_readTurns) (maxL := 5) (ret := (some .boolean)) pn_X11_readTurns rfl rfl ?_
  intro p e s m below meth c A H locs ls hx hb hml hr hts hown hlocks hin hP hD hA hS hE hl
  have hown : s.vm.findClass RX11 = some m.cls := hown
  have hl : lv_has ls 5 [(0, .int p0), (1, .int 2), (2, .ref h0)] := hl
  refine lv_iconst (v := 0) hx hb dX11_readTurns_0 (by decide +kernel) ?_
  refine lv_istore_n (lv' := [(3, .int 0), (0, .int p0), (1, .int 2), (2, .ref h0)]) hx hb dX11_readTurns_1 rfl hl (by decide) rfl (fun ls hl => ?_)
  refine lv_iconst (v := 0) hx hb dX11_readTurns_2 (by decide +kernel) ?_
  refine lv_istore (lv' := [(4, .int 0), (3, .int 0), (0, .int p0), (1, .int 2), (2, .ref h0)]) hx hb dX11_readTurns_3 hl (by decide) rfl (fun ls hl => ?_)
  refine lv_iload hx hb dX11_readTurns_5 (lv_at hl 0 rfl) ?_
  refine lv_iload_n hx hb dX11_readTurns_7 rfl (lv_at hl 3 rfl) ?_
  refine lv_icmp_ge (tgt := 30) hx hb dX11_readTurns_8 (by decide) (fun c9 => absurd c9 (by decide +kernel)) (fun _ => ?_)
  refine lv_iload_n hx hb dX11_readTurns_11 rfl (lv_at hl 1 rfl) ?_
  refine lv_iconst (v := 1) hx hb dX11_readTurns_12 (by decide +kernel) ?_
  refine lv_iload_n hx hb dX11_readTurns_13 rfl (lv_at hl 2 rfl) ?_
  refine lv_iconst (v := 2) hx hb dX11_readTurns_14 (by decide +kernel) ?_
  refine lv_iload hx hb dX11_readTurns_15 (lv_at hl 0 rfl) ?_
  refine jw_imul (v := 0) hx hb dX11_readTurns_17 (by decide +kernel) ?_
  refine lv_iushr (v := (p0.toUInt32 >>> ((0 : Int32).toUInt32 &&& Int32.toUInt32 31)).toInt32) hx hb dX11_readTurns_18 rfl ?_
  refine lv_iconst (v := 3) hx hb dX11_readTurns_19 (by decide +kernel) ?_
  refine jw_iand (v := 2) hx hb dX11_readTurns_20 (jw_bu0 g_p0 (by decide +kernel)) ?_
  refine jw_ishl (v := 4) hx hb dX11_readTurns_21 (by decide +kernel) ?_
  refine jw_ior (v := 4) hx hb dX11_readTurns_22 (by decide +kernel) ?_
  refine lv_istore_n (lv' := [(3, .int 4), (4, .int 0), (0, .int p0), (1, .int 2), (2, .ref h0)]) hx hb dX11_readTurns_23 rfl hl (by decide) rfl (fun ls hl => ?_)
  refine lv_iinc (v := 1) (lv' := [(4, .int 1), (3, .int 4), (0, .int p0), (1, .int 2), (2, .ref h0)]) hx hb dX11_readTurns_24 hl (k := 1) rfl (by decide +kernel) (by decide) rfl (fun ls hl => ?_)
  refine lv_goto (tgt := 5) hx hb dX11_readTurns_27 (by decide) ?_
  refine lv_iload hx hb dX11_readTurns_5 (lv_at hl 0 rfl) ?_
  refine lv_iload_n hx hb dX11_readTurns_7 rfl (lv_at hl 3 rfl) ?_
  refine lv_icmp_ge (tgt := 30) hx hb dX11_readTurns_8 (by decide) (fun c9 => absurd c9 (by decide +kernel)) (fun _ => ?_)
  refine lv_iload_n hx hb dX11_readTurns_11 rfl (lv_at hl 1 rfl) ?_
  refine lv_iconst (v := 1) hx hb dX11_readTurns_12 (by decide +kernel) ?_
  refine lv_iload_n hx hb dX11_readTurns_13 rfl (lv_at hl 2 rfl) ?_
  refine lv_iconst (v := 2) hx hb dX11_readTurns_14 (by decide +kernel) ?_
  refine lv_iload hx hb dX11_readTurns_15 (lv_at hl 0 rfl) ?_
  refine jw_imul (v := 2) hx hb dX11_readTurns_17 (by decide +kernel) ?_
  refine lv_iushr (v := (p0.toUInt32 >>> ((2 : Int32).toUInt32 &&& Int32.toUInt32 31)).toInt32) hx hb dX11_readTurns_18 rfl ?_
  refine lv_iconst (v := 3) hx hb dX11_readTurns_19 (by decide +kernel) ?_
  refine jw_iand (v := 1) hx hb dX11_readTurns_20 (jw_bu1 g_p0 (by decide +kernel)) ?_
  refine jw_ishl (v := 2) hx hb dX11_readTurns_21 (by decide +kernel) ?_
  refine jw_ior (v := 6) hx hb dX11_readTurns_22 (by decide +kernel) ?_
  refine lv_istore_n (lv' := [(3, .int 6), (4, .int 1), (0, .int p0), (1, .int 2), (2, .ref h0)]) hx hb dX11_readTurns_23 rfl hl (by decide) rfl (fun ls hl => ?_)
  refine lv_iinc (v := 2) (lv' := [(4, .int 2), (3, .int 6), (0, .int p0), (1, .int 2), (2, .ref h0)]) hx hb dX11_readTurns_24 hl (k := 1) rfl (by decide +kernel) (by decide) rfl (fun ls hl => ?_)
  refine lv_goto (tgt := 5) hx hb dX11_readTurns_27 (by decide) ?_
  refine lv_iload hx hb dX11_readTurns_5 (lv_at hl 0 rfl) ?_
  refine lv_iload_n hx hb dX11_readTurns_7 rfl (lv_at hl 3 rfl) ?_
  refine lv_icmp_ge (tgt := 30) hx hb dX11_readTurns_8 (by decide) (fun _ => ?_) (fun c9 => absurd (by decide +kernel) c9)
  refine lv_iload_n hx hb dX11_readTurns_30 rfl (lv_at hl 1 rfl) ?_
  refine lv_iconst (v := 1) hx hb dX11_readTurns_31 (by decide +kernel) ?_
  refine lv_iload_n hx hb dX11_readTurns_32 rfl (lv_at hl 3 rfl) ?_
  refine jw_ishl (v := 4) hx hb dX11_readTurns_33 (by decide +kernel) ?_
  refine lv_iconst (v := 1) hx hb dX11_readTurns_34 (by decide +kernel) ?_
  refine jw_isub (v := 3) hx hb dX11_readTurns_35 (by decide +kernel) ?_
  refine lv_icmp_eq (tgt := 41) hx hb dX11_readTurns_36 (by decide) (fun c9 => absurd c9 (by decide +kernel)) (fun _ => ?_)
  refine lv_iconst (v := 0) hx hb dX11_readTurns_39 (by decide +kernel) ?_
  refine W.widen (k := 0) (n := 0) (Nat.le_of_ble_eq_true rfl) (Nat.le_of_ble_eq_true rfl) ?_
  exact jw_zret hx hb hr hlocks rfl rfl rfl hP hD hS dX11_readTurns_40
set_option maxHeartbeats 4000000 in
set_option maxRecDepth 100000 in
theorem k605_X11_arrange {l : Launch} {D : va_G} {Y : Nat → ClassId} {tt : Nat → Nat} (h0 h1 h2 h3 h4 h5 h6 h7 h8 h9 h10 h11 h12 h13 h14 h15 h16 h17 h18 h19 h20 h21 h22 h23 h24 h25 : Nat) (p1 : Int32) (g_p1 : p1.toBitVec.toNat % 16 = 6) (sz : Nat) : Met l yX11_arrange wsX11_arrange ({ frames := 1, cells := 0, slots := 0, locals := 24 }) (jw_Pc D Y tt [.ref h0, .int p1] [(h0, .inr (14, [.ref h3, .int 0, .ref h1, .ref h4, .ref h5, .ref h6, .ref h2, .ref h7, .ref h8, .ref h9, .ref h10, .ref h11, .ref h12, .ref h13, .ref h14, .ref h15, .int (-3), .int (-3)])), (h1, .inr (6, [.int 2, .int 0, .int 0, .int 0, .int 0, .ref h16, .ref h17, .ref h18, .ref h19, .ref h20, .int 0])), (h2, .inr (11, [.ref h1, .ref h5, .ref h21, .ref h22, .ref h23, .ref h24, .int 0, .ref h25]))] sz) (jw_Qi D (fun r => r = 0) (fun w => w = []) (va_A [(h0, .inr (14, [.ref h3, .int 0, .ref h1, .ref h4, .ref h5, .ref h6, .ref h2, .ref h7, .ref h8, .ref h9, .ref h10, .ref h11, .ref h12, .ref h13, .ref h14, .ref h15, .int (-3), .int (-3)])), (h1, .inr (6, [.int 2, .int 0, .int 0, .int 0, .int 0, .ref h16, .ref h17, .ref h18, .ref h19, .ref h20, .int 0])), (h2, .inr (11, [.ref h1, .ref h5, .ref h21, .ref h22, .ref h23, .ref h24, .int 0, .ref h25]))] sz)) 0 0 (va_A [(h0, .inr (14, [.ref h3, .int 0, .ref h1, .ref h4, .ref h5, .ref h6, .ref h2, .ref h7, .ref h8, .ref h9, .ref h10, .ref h11, .ref h12, .ref h13, .ref h14, .ref h15, .int (-3), .int (-3)])), (h1, .inr (6, [.int 2, .int 0, .int 0, .int 0, .int 0, .ref h16, .ref h17, .ref h18, .ref h19, .ref h20, .int 0])), (h2, .inr (11, [.ref h1, .ref h5, .ref h21, .ref h22, .ref h23, .ref h24, .int 0, .ref h25]))] sz) := by
  refine jw_met (fun A => jw_Qi D (fun r => r = 0) (fun w => w = []) A) (cc := cX11_arrange) (maxL := 2) (ret := (some .boolean)) pn_X11_arrange rfl rfl ?_
  intro p e s m below meth c A H locs ls hx hb hml hr hts hown hlocks hin hP hD hA hS hE hl
  have hown : s.vm.findClass RX11 = some m.cls := hown
  have hl : lv_has ls 2 [(0, .ref h0), (1, .int p1)] := hl
  refine lv_iload_n hx hb dX11_arrange_0 rfl (lv_at hl 1 rfl) ?_
  refine lv_aload_n hx hb dX11_arrange_1 rfl (lv_at hl 0 rfl) ?_
  refine va_get (D := D) (ci := 14) (v := .ref h1) (C := RX11) (T := TX11) (N := 18) hx hb hts iw_X11_arrange__X11 hown hE.1 hP 0 rfl rfl 2 (by decide) (hts _ mw_X11_arrange__1) (fun _ h9 => h9) rfl dX11_arrange_2 ?_
  refine va_getN (D := D) (ci := 6) (v := .int 2) (C := RX3) (T := TX3) (N := 11) hx hb hts iw_X11_arrange__X3 hown hE.1 hP 1 rfl rfl 0 (by decide) (nf_X11_133 hE) (fun _ h9 => h9) rfl dX11_arrange_5 ?_
  refine lv_aload_n hx hb dX11_arrange_8 rfl (lv_at hl 0 rfl) ?_
  refine va_get (D := D) (ci := 14) (v := .ref h2) (C := RX11) (T := TX11) (N := 18) hx hb hts iw_X11_arrange__X11 hown hE.1 hP 0 rfl rfl 6 (by decide) (hts _ mw_X11_arrange__2) (fun _ h9 => h9) rfl dX11_arrange_9 ?_
  refine va_getN (D := D) (ci := 11) (v := .ref h22) (C := RX8) (T := TX8) (N := 8) hx hb hts iw_X11_arrange__X8 hown hE.1 hP 2 rfl rfl 3 (by decide) (nf_X11_221 hE) (fun _ h9 => h9) rfl dX11_arrange_12 ?_
  refine jw_mi (wc := []) (cs := 0) (ss := 0) (va_runS (As := [.int p1, .int 2, .ref h22]) (rest := []) ⟨hx, hb, hml, hown, hts⟩ (k604_X11_readTurns h22 p1 g_p1 H.size) (va_cwS 3 hts gX11_arrange_X11_readTurns rfl rfl rfl ydS_X11_readTurns ⟨Nat.le_of_ble_eq_true rfl, Nat.le_of_ble_eq_true rfl⟩) (jw_mpreS hP hD hS hA hE [] rfl) rfl rfl hl.1 rfl (lv_room (Nat.le_of_ble_eq_true rfl)) dX11_arrange_15 ⟨Nat.le_of_ble_eq_true rfl, Nat.le_of_ble_eq_true rfl⟩) hP hD hS hA [] rfl rfl rfl (fun r9 w1 H locs hr9 hw9 hP hD hS => ?_)
  subst hr9
  subst hw9
  have hP : va_P D vwCl [(h0, .inr (14, [.ref h3, .int 0, .ref h1, .ref h4, .ref h5, .ref h6, .ref h2, .ref h7, .ref h8, .ref h9, .ref h10, .ref h11, .ref h12, .ref h13, .ref h14, .ref h15, .int (-3), .int (-3)])), (h1, .inr (6, [.int 2, .int 0, .int 0, .int 0, .int 0, .ref h16, .ref h17, .ref h18, .ref h19, .ref h20, .int 0])), (h2, .inr (11, [.ref h1, .ref h5, .ref h21, .ref h22, .ref h23, .ref h24, .int 0, .ref h25]))] H := hP
  have hD : va_D A [(h0, .inr (14, [.ref h3, .int 0, .ref h1, .ref h4, .ref h5, .ref h6, .ref h2, .ref h7, .ref h8, .ref h9, .ref h10, .ref h11, .ref h12, .ref h13, .ref h14, .ref h15, .int (-3), .int (-3)])), (h1, .inr (6, [.int 2, .int 0, .int 0, .int 0, .int 0, .ref h16, .ref h17, .ref h18, .ref h19, .ref h20, .int 0])), (h2, .inr (11, [.ref h1, .ref h5, .ref h21, .ref h22, .ref h23, .ref h24, .int 0, .ref h25]))] := hD
  refine lv_if_ne (tgt := 23) hx hb dX11_arrange_18 (by decide) (fun c9 => absurd (by decide +kernel) c9) (fun _ => ?_)
  refine lv_iconst (v := 0) hx hb dX11_arrange_21 (by decide +kernel) ?_
  refine W.widen (k := 0) (n := 0) (Nat.le_of_ble_eq_true rfl) (Nat.le_of_ble_eq_true rfl) ?_
  have hP : va_P D vwCl [] H := hP.sub [] rfl
  have hD : va_D A [] := hD.sub [] rfl rfl
  exact jw_zret hx hb hr hlocks rfl rfl rfl hP hD hS dX11_arrange_22
set_option maxHeartbeats 4000000 in
set_option maxRecDepth 100000 in
theorem k606_X12_isOnce {l : Launch} {D : va_G} {Y : Nat → ClassId} {tt : Nat → Nat} (p0 : Int32) (g_p0 : p0.toBitVec.toNat % 16 = 6) (sz : Nat) : Met l yX12_isOnce wsX12_isOnce ({ frames := 0, cells := 0, slots := 0, locals := 0 }) (jw_Pc D Y tt [.int p0, .int 2] [] sz) (jw_Qi D (fun r => r = 0) (fun w => w = []) (va_A [] sz)) 0 0 (va_A [] sz) := by
  refine jw_met (fun A => jw_Qi D (fun r => r = 0) (fun w => w = []) A) (cc := cX12_isOnce) (maxL := 4) (ret := (some .boolean)) pn_X12_isOnce rfl rfl ?_
  intro p e s m below meth c A H locs ls hx hb hml hr hts hown hlocks hin hP hD hA hS hE hl
  have hown : s.vm.findClass RX12 = some m.cls := hown
  have hl : lv_has ls 4 [(0, .int p0), (1, .int 2)] := hl
  refine lv_iconst (v := 0) hx hb dX12_isOnce_0 (by decide +kernel) ?_
  refine lv_istore_n (lv' := [(2, .int 0), (0, .int p0), (1, .int 2)]) hx hb dX12_isOnce_1 rfl hl (by decide) rfl (fun ls hl => ?_)
  refine lv_iconst (v := 0) hx hb dX12_isOnce_2 (by decide +kernel) ?_
  refine lv_istore_n (lv' := [(3, .int 0), (2, .int 0), (0, .int p0), (1, .int 2)]) hx hb dX12_isOnce_3 rfl hl (by decide) rfl (fun ls hl => ?_)
  refine lv_iload_n hx hb dX12_isOnce_4 rfl (lv_at hl 0 rfl) ?_
  refine lv_iload_n hx hb dX12_isOnce_5 rfl (lv_at hl 3 rfl) ?_
  refine lv_icmp_ge (tgt := 27) hx hb dX12_isOnce_6 (by decide) (fun c9 => absurd c9 (by decide +kernel)) (fun _ => ?_)
  refine lv_iload_n hx hb dX12_isOnce_9 rfl (lv_at hl 1 rfl) ?_
  refine lv_iconst (v := 1) hx hb dX12_isOnce_10 (by decide +kernel) ?_
  refine lv_iload_n hx hb dX12_isOnce_11 rfl (lv_at hl 2 rfl) ?_
  refine lv_iconst (v := 2) hx hb dX12_isOnce_12 (by decide +kernel) ?_
  refine lv_iload_n hx hb dX12_isOnce_13 rfl (lv_at hl 0 rfl) ?_
  refine jw_imul (v := 0) hx hb dX12_isOnce_14 (by decide +kernel) ?_
  refine jw_ishr (v := (p0 >>> (0 &&& 31))) hx hb dX12_isOnce_15 rfl ?_
  refine lv_iconst (v := 3) hx hb dX12_isOnce_16 (by decide +kernel) ?_
  refine jw_iand (v := 2) hx hb dX12_isOnce_17 (jw_bs0 g_p0 (by decide +kernel)) ?_
  refine jw_ishl (v := 4) hx hb dX12_isOnce_18 (by decide +kernel) ?_
  refine jw_ior (v := 4) hx hb dX12_isOnce_19 (by decide +kernel) ?_
  refine lv_istore_n (lv' := [(2, .int 4), (3, .int 0), (0, .int p0), (1, .int 2)]) hx hb dX12_isOnce_20 rfl hl (by decide) rfl (fun ls hl => ?_)
  refine lv_iinc (v := 1) (lv' := [(3, .int 1), (2, .int 4), (0, .int p0), (1, .int 2)]) hx hb dX12_isOnce_21 hl (k := 1) rfl (by decide +kernel) (by decide) rfl (fun ls hl => ?_)
  refine lv_goto (tgt := 4) hx hb dX12_isOnce_24 (by decide) ?_
  refine lv_iload_n hx hb dX12_isOnce_4 rfl (lv_at hl 0 rfl) ?_
  refine lv_iload_n hx hb dX12_isOnce_5 rfl (lv_at hl 3 rfl) ?_
  refine lv_icmp_ge (tgt := 27) hx hb dX12_isOnce_6 (by decide) (fun c9 => absurd c9 (by decide +kernel)) (fun _ => ?_)
  refine lv_iload_n hx hb dX12_isOnce_9 rfl (lv_at hl 1 rfl) ?_
  refine lv_iconst (v := 1) hx hb dX12_isOnce_10 (by decide +kernel) ?_
  refine lv_iload_n hx hb dX12_isOnce_11 rfl (lv_at hl 2 rfl) ?_
  refine lv_iconst (v := 2) hx hb dX12_isOnce_12 (by decide +kernel) ?_
  refine lv_iload_n hx hb dX12_isOnce_13 rfl (lv_at hl 0 rfl) ?_
  refine jw_imul (v := 2) hx hb dX12_isOnce_14 (by decide +kernel) ?_
  refine jw_ishr (v := (p0 >>> (2 &&& 31))) hx hb dX12_isOnce_15 rfl ?_
  refine lv_iconst (v := 3) hx hb dX12_isOnce_16 (by decide +kernel) ?_
  refine jw_iand (v := 1) hx hb dX12_isOnce_17 (jw_bs1 g_p0 (by decide +kernel)) ?_
  refine jw_ishl (v := 2) hx hb dX12_isOnce_18 (by decide +kernel) ?_
  refine jw_ior (v := 6) hx hb dX12_isOnce_19 (by decide +kernel) ?_
  refine lv_istore_n (lv' := [(2, .int 6), (3, .int 1), (0, .int p0), (1, .int 2)]) hx hb dX12_isOnce_20 rfl hl (by decide) rfl (fun ls hl => ?_)
  refine lv_iinc (v := 2) (lv' := [(3, .int 2), (2, .int 6), (0, .int p0), (1, .int 2)]) hx hb dX12_isOnce_21 hl (k := 1) rfl (by decide +kernel) (by decide) rfl (fun ls hl => ?_)
  refine lv_goto (tgt := 4) hx hb dX12_isOnce_24 (by decide) ?_
  refine lv_iload_n hx hb dX12_isOnce_4 rfl (lv_at hl 0 rfl) ?_
  refine lv_iload_n hx hb dX12_isOnce_5 rfl (lv_at hl 3 rfl) ?_
  refine lv_icmp_ge (tgt := 27) hx hb dX12_isOnce_6 (by decide) (fun _ => ?_) (fun c9 => absurd (by decide +kernel) c9)
  refine lv_iload_n hx hb dX12_isOnce_27 rfl (lv_at hl 1 rfl) ?_
  refine lv_iconst (v := 1) hx hb dX12_isOnce_28 (by decide +kernel) ?_
  refine lv_iload_n hx hb dX12_isOnce_29 rfl (lv_at hl 3 rfl) ?_
  refine jw_ishl (v := 4) hx hb dX12_isOnce_30 (by decide +kernel) ?_
  refine lv_iconst (v := 1) hx hb dX12_isOnce_31 (by decide +kernel) ?_
  refine jw_isub (v := 3) hx hb dX12_isOnce_32 (by decide +kernel) ?_
  refine lv_icmp_ne (tgt := 40) hx hb dX12_isOnce_33 (by decide) (fun _ => ?_) (fun c9 => absurd c9 (by decide +kernel))
  refine lv_iconst (v := 0) hx hb dX12_isOnce_40 (by decide +kernel) ?_
  refine W.widen (k := 0) (n := 0) (Nat.le_of_ble_eq_true rfl) (Nat.le_of_ble_eq_true rfl) ?_
  exact jw_zret hx hb hr hlocks rfl rfl rfl hP hD hS dX12_isOnce_41
set_option maxHeartbeats 4000000 in
set_option maxRecDepth 100000 in
theorem k607_X12_arrange {l : Launch} {D : va_G} {Y : Nat → ClassId} {tt : Nat → Nat} (h0 h1 h2 h3 h4 h5 h6 h7 h8 h9 h10 h11 h12 h13 h14 h15 h16 h17 h18 h19 h20 h21 h22 h23 h24 h25 h26 h27 h28 h29 h30 h31 h32 h33 h34 h35 : Nat) (p1 : Int32) (g_p1 : p1.toBitVec.toNat % 16 = 6) (sz : Nat) : Met l yX12_arrange wsX12_arrange ({ frames := 1, cells := 0, slots := 0, locals := 23 }) (jw_Pc D Y tt [.ref h0, .int p1] [(h0, .inr (15, [.ref h1, .int 0, .int 0, .ref h2, .int 0, .int (-1), .int 0, .int 0, .int 0, .int 0, .int 0, .int 2, .int 0, .int 0, .int 0, .ref h3, .ref h4, .ref h5, .ref h6, .int 2, .int 0, .int 0, .int 0, .int 0, .ref h7, .ref h8, .ref h9, .ref h10, .int 2, .ref h11, .int 1, .ref h12, .ref h13, .int 1, .ref h14, .ref h15, .ref h16, .int 0, .ref h17, .ref h18, .ref h19, .ref h20, .ref h21, .ref h22, .ref h23, .ref h24, .ref h25, .int 0, .ref h26, .ref h27, .ref h28, .int (-1), .ref h29, .long 0, .long 0, .int 0, .int 0, .long 0, .long 0, .ref h30, .ref h31, .ref h32, .ref h33, .ref h34, .ref h35, .long 0]))] sz) (jw_Qi D (fun r => r = 0) (fun w => w = []) (va_A [(h0, .inr (15, [.ref h1, .int 0, .int 0, .ref h2, .int 0, .int (-1), .int 0, .int 0, .int 0, .int 0, .int 0, .int 2, .int 0, .int 0, .int 0, .ref h3, .ref h4, .ref h5, .ref h6, .int 2, .int 0, .int 0, .int 0, .int 0, .ref h7, .ref h8, .ref h9, .ref h10, .int 2, .ref h11, .int 1, .ref h12, .ref h13, .int 1, .ref h14, .ref h15, .ref h16, .int 0, .ref h17, .ref h18, .ref h19, .ref h20, .ref h21, .ref h22, .ref h23, .ref h24, .ref h25, .int 0, .ref h26, .ref h27, .ref h28, .int (-1), .ref h29, .long 0, .long 0, .int 0, .int 0, .long 0, .long 0, .ref h30, .ref h31, .ref h32, .ref h33, .ref h34, .ref h35, .long 0]))] sz)) 0 0 (va_A [(h0, .inr (15, [.ref h1, .int 0, .int 0, .ref h2, .int 0, .int (-1), .int 0, .int 0, .int 0, .int 0, .int 0, .int 2, .int 0, .int 0, .int 0, .ref h3, .ref h4, .ref h5, .ref h6, .int 2, .int 0, .int 0, .int 0, .int 0, .ref h7, .ref h8, .ref h9, .ref h10, .int 2, .ref h11, .int 1, .ref h12, .ref h13, .int 1, .ref h14, .ref h15, .ref h16, .int 0, .ref h17, .ref h18, .ref h19, .ref h20, .ref h21, .ref h22, .ref h23, .ref h24, .ref h25, .int 0, .ref h26, .ref h27, .ref h28, .int (-1), .ref h29, .long 0, .long 0, .int 0, .int 0, .long 0, .long 0, .ref h30, .ref h31, .ref h32, .ref h33, .ref h34, .ref h35, .long 0]))] sz) := by
  refine jw_met (fun A => jw_Qi D (fun r => r = 0) (fun w => w = []) A) (cc := cX12_arrange) (maxL := 3) (ret := (some .boolean)) pn_X12_arrange rfl rfl ?_
  intro p e s m below meth c A H locs ls hx hb hml hr hts hown hlocks hin hP hD hA hS hE hl
  have hown : s.vm.findClass RX12 = some m.cls := hown
  have hl : lv_has ls 3 [(0, .ref h0), (1, .int p1)] := hl
  refine lv_aload_n hx hb dX12_arrange_0 rfl (lv_at hl 0 rfl) ?_
  refine lv_iconst (v := 0) hx hb dX12_arrange_1 (by decide +kernel) ?_
  refine va_put (D := D) (ci := 15) (v := .int 0) (C := RX12) (T := TX12) (N := 66) hx hb hts iw_X12_arrange__X12 tyX12 tyX12_ok nmX12 hown hE.1 hP hD hS 0 rfl rfl 2 (by decide) (hts _ mw_X12_arrange__1) (fun _ h9 => h9) rfl (tyX12_ok 2 (by decide)) rfl rfl (Nat.le_of_ble_eq_true rfl) dX12_arrange_2 (fun H locs hP hD hS => ?_)
  have hP : va_P D vwCl [(h0, .inr (15, [.ref h1, .int 0, .int 0, .ref h2, .int 0, .int (-1), .int 0, .int 0, .int 0, .int 0, .int 0, .int 2, .int 0, .int 0, .int 0, .ref h3, .ref h4, .ref h5, .ref h6, .int 2, .int 0, .int 0, .int 0, .int 0, .ref h7, .ref h8, .ref h9, .ref h10, .int 2, .ref h11, .int 1, .ref h12, .ref h13, .int 1, .ref h14, .ref h15, .ref h16, .int 0, .ref h17, .ref h18, .ref h19, .ref h20, .ref h21, .ref h22, .ref h23, .ref h24, .ref h25, .int 0, .ref h26, .ref h27, .ref h28, .int (-1), .ref h29, .long 0, .long 0, .int 0, .int 0, .long 0, .long 0, .ref h30, .ref h31, .ref h32, .ref h33, .ref h34, .ref h35, .long 0]))] H := hP
  have hD : va_D A [(h0, .inr (15, [.ref h1, .int 0, .int 0, .ref h2, .int 0, .int (-1), .int 0, .int 0, .int 0, .int 0, .int 0, .int 2, .int 0, .int 0, .int 0, .ref h3, .ref h4, .ref h5, .ref h6, .int 2, .int 0, .int 0, .int 0, .int 0, .ref h7, .ref h8, .ref h9, .ref h10, .int 2, .ref h11, .int 1, .ref h12, .ref h13, .int 1, .ref h14, .ref h15, .ref h16, .int 0, .ref h17, .ref h18, .ref h19, .ref h20, .ref h21, .ref h22, .ref h23, .ref h24, .ref h25, .int 0, .ref h26, .ref h27, .ref h28, .int (-1), .ref h29, .long 0, .long 0, .int 0, .int 0, .long 0, .long 0, .ref h30, .ref h31, .ref h32, .ref h33, .ref h34, .ref h35, .long 0]))] := hD
  refine lv_iload_n hx hb dX12_arrange_5 rfl (lv_at hl 1 rfl) ?_
  refine lv_aload_n hx hb dX12_arrange_6 rfl (lv_at hl 0 rfl) ?_
  refine va_get (D := D) (ci := 15) (v := .int 2) (C := RX12) (T := TX12) (N := 66) hx hb hts iw_X12_arrange__X12 hown hE.1 hP 0 rfl rfl 11 (by decide) (hts _ mw_X12_arrange__2) (fun _ h9 => h9) rfl dX12_arrange_7 ?_
  refine jw_mi (wc := []) (cs := 0) (ss := 0) (va_runS (As := [.int p1, .int 2]) (rest := []) ⟨hx, hb, hml, hown, hts⟩ (k606_X12_isOnce p1 g_p1 H.size) (va_cwS 2 hts gX12_arrange_X12_isOnce rfl rfl rfl ydS_X12_isOnce ⟨Nat.le_of_ble_eq_true rfl, Nat.le_of_ble_eq_true rfl⟩) (jw_mpreS hP hD hS hA hE [] rfl) rfl rfl hl.1 rfl (lv_room (Nat.le_of_ble_eq_true rfl)) dX12_arrange_10 ⟨Nat.le_of_ble_eq_true rfl, Nat.le_of_ble_eq_true rfl⟩) hP hD hS hA [] rfl rfl rfl (fun r9 w1 H locs hr9 hw9 hP hD hS => ?_)
  subst hr9
  subst hw9
  have hP : va_P D vwCl [(h0, .inr (15, [.ref h1, .int 0, .int 0, .ref h2, .int 0, .int (-1), .int 0, .int 0, .int 0, .int 0, .int 0, .int 2, .int 0, .int 0, .int 0, .ref h3, .ref h4, .ref h5, .ref h6, .int 2, .int 0, .int 0, .int 0, .int 0, .ref h7, .ref h8, .ref h9, .ref h10, .int 2, .ref h11, .int 1, .ref h12, .ref h13, .int 1, .ref h14, .ref h15, .ref h16, .int 0, .ref h17, .ref h18, .ref h19, .ref h20, .ref h21, .ref h22, .ref h23, .ref h24, .ref h25, .int 0, .ref h26, .ref h27, .ref h28, .int (-1), .ref h29, .long 0, .long 0, .int 0, .int 0, .long 0, .long 0, .ref h30, .ref h31, .ref h32, .ref h33, .ref h34, .ref h35, .long 0]))] H := hP
  have hD : va_D A [(h0, .inr (15, [.ref h1, .int 0, .int 0, .ref h2, .int 0, .int (-1), .int 0, .int 0, .int 0, .int 0, .int 0, .int 2, .int 0, .int 0, .int 0, .ref h3, .ref h4, .ref h5, .ref h6, .int 2, .int 0, .int 0, .int 0, .int 0, .ref h7, .ref h8, .ref h9, .ref h10, .int 2, .ref h11, .int 1, .ref h12, .ref h13, .int 1, .ref h14, .ref h15, .ref h16, .int 0, .ref h17, .ref h18, .ref h19, .ref h20, .ref h21, .ref h22, .ref h23, .ref h24, .ref h25, .int 0, .ref h26, .ref h27, .ref h28, .int (-1), .ref h29, .long 0, .long 0, .int 0, .int 0, .long 0, .long 0, .ref h30, .ref h31, .ref h32, .ref h33, .ref h34, .ref h35, .long 0]))] := hD
  refine lv_if_ne (tgt := 18) hx hb dX12_arrange_13 (by decide) (fun c9 => absurd (by decide +kernel) c9) (fun _ => ?_)
  refine lv_iconst (v := 0) hx hb dX12_arrange_16 (by decide +kernel) ?_
  refine W.widen (k := 0) (n := 0) (Nat.le_of_ble_eq_true rfl) (Nat.le_of_ble_eq_true rfl) ?_
  have hP : va_P D vwCl [] H := hP.sub [] rfl
  have hD : va_D A [] := hD.sub [] rfl rfl
  exact jw_zret hx hb hr hlocks rfl rfl rfl hP hD hS dX12_arrange_17
set_option maxHeartbeats 4000000 in
set_option maxRecDepth 100000 in
theorem k608_X11_readTurns {l : Launch} {D : va_G} {Y : Nat → ClassId} {tt : Nat → Nat} (h0 : Nat) (p0 : Int32) (g_p0 : p0.toBitVec.toNat % 16 = 7) (sz : Nat) : Met l yX11_readTurns wsX11_readTurns ({ frames := 0, cells := 0, slots := 0, locals := 0 }) (jw_Pc D Y tt [.int p0, .int 2, .ref h0] [] sz) (jw_Qi D (fun r => r = 0) (fun w => w = []) (va_A [] sz)) 0 0 (va_A [] sz) := by
  refine jw_met (fun A => jw_Qi D (fun r => r = 0) (fun w => w = []) A) (cc := cX11_readTurns) (maxL := 5) (ret := (some .boolean)) pn_X11_readTurns rfl rfl ?_
  intro p e s m below meth c A H locs ls hx hb hml hr hts hown hlocks hin hP hD hA hS hE hl
  have hown : s.vm.findClass RX11 = some m.cls := hown
  have hl : lv_has ls 5 [(0, .int p0), (1, .int 2), (2, .ref h0)] := hl
  refine lv_iconst (v := 0) hx hb dX11_readTurns_0 (by decide +kernel) ?_
  refine lv_istore_n (lv' := [(3, .int 0), (0, .int p0), (1, .int 2), (2, .ref h0)]) hx hb dX11_readTurns_1 rfl hl (by decide) rfl (fun ls hl => ?_)
  refine lv_iconst (v := 0) hx hb dX11_readTurns_2 (by decide +kernel) ?_
  refine lv_istore (lv' := [(4, .int 0), (3, .int 0), (0, .int p0), (1, .int 2), (2, .ref h0)]) hx hb dX11_readTurns_3 hl (by decide) rfl (fun ls hl => ?_)
  refine lv_iload hx hb dX11_readTurns_5 (lv_at hl 0 rfl) ?_
  refine lv_iload_n hx hb dX11_readTurns_7 rfl (lv_at hl 3 rfl) ?_
  refine lv_icmp_ge (tgt := 30) hx hb dX11_readTurns_8 (by decide) (fun c9 => absurd c9 (by decide +kernel)) (fun _ => ?_)
  refine lv_iload_n hx hb dX11_readTurns_11 rfl (lv_at hl 1 rfl) ?_
  refine lv_iconst (v := 1) hx hb dX11_readTurns_12 (by decide +kernel) ?_
  refine lv_iload_n hx hb dX11_readTurns_13 rfl (lv_at hl 2 rfl) ?_
  refine lv_iconst (v := 2) hx hb dX11_readTurns_14 (by decide +kernel) ?_
  refine lv_iload hx hb dX11_readTurns_15 (lv_at hl 0 rfl) ?_
  refine jw_imul (v := 0) hx hb dX11_readTurns_17 (by decide +kernel) ?_
  refine lv_iushr (v := (p0.toUInt32 >>> ((0 : Int32).toUInt32 &&& Int32.toUInt32 31)).toInt32) hx hb dX11_readTurns_18 rfl ?_
  refine lv_iconst (v := 3) hx hb dX11_readTurns_19 (by decide +kernel) ?_
  refine jw_iand (v := 3) hx hb dX11_readTurns_20 (jw_bu0 g_p0 (by decide +kernel)) ?_
  refine jw_ishl (v := 8) hx hb dX11_readTurns_21 (by decide +kernel) ?_
  refine jw_ior (v := 8) hx hb dX11_readTurns_22 (by decide +kernel) ?_
  refine lv_istore_n (lv' := [(3, .int 8), (4, .int 0), (0, .int p0), (1, .int 2), (2, .ref h0)]) hx hb dX11_readTurns_23 rfl hl (by decide) rfl (fun ls hl => ?_)
  refine lv_iinc (v := 1) (lv' := [(4, .int 1), (3, .int 8), (0, .int p0), (1, .int 2), (2, .ref h0)]) hx hb dX11_readTurns_24 hl (k := 1) rfl (by decide +kernel) (by decide) rfl (fun ls hl => ?_)
  refine lv_goto (tgt := 5) hx hb dX11_readTurns_27 (by decide) ?_
  refine lv_iload hx hb dX11_readTurns_5 (lv_at hl 0 rfl) ?_
  refine lv_iload_n hx hb dX11_readTurns_7 rfl (lv_at hl 3 rfl) ?_
  refine lv_icmp_ge (tgt := 30) hx hb dX11_readTurns_8 (by decide) (fun c9 => absurd c9 (by decide +kernel)) (fun _ => ?_)
  refine lv_iload_n hx hb dX11_readTurns_11 rfl (lv_at hl 1 rfl) ?_
  refine lv_iconst (v := 1) hx hb dX11_readTurns_12 (by decide +kernel) ?_
  refine lv_iload_n hx hb dX11_readTurns_13 rfl (lv_at hl 2 rfl) ?_
  refine lv_iconst (v := 2) hx hb dX11_readTurns_14 (by decide +kernel) ?_
  refine lv_iload hx hb dX11_readTurns_15 (lv_at hl 0 rfl) ?_
  refine jw_imul (v := 2) hx hb dX11_readTurns_17 (by decide +kernel) ?_
  refine lv_iushr (v := (p0.toUInt32 >>> ((2 : Int32).toUInt32 &&& Int32.toUInt32 31)).toInt32) hx hb dX11_readTurns_18 rfl ?_
  refine lv_iconst (v := 3) hx hb dX11_readTurns_19 (by decide +kernel) ?_
  refine jw_iand (v := 1) hx hb dX11_readTurns_20 (jw_bu1 g_p0 (by decide +kernel)) ?_
  refine jw_ishl (v := 2) hx hb dX11_readTurns_21 (by decide +kernel) ?_
  refine jw_ior (v := 10) hx hb dX11_readTurns_22 (by decide +kernel) ?_
  refine lv_istore_n (lv' := [(3, .int 10), (4, .int 1), (0, .int p0), (1, .int 2), (2, .ref h0)]) hx hb dX11_readTurns_23 rfl hl (by decide) rfl (fun ls hl => ?_)
  refine lv_iinc (v := 2) (lv' := [(4, .int 2), (3, .int 10), (0, .int p0), (1, .int 2), (2, .ref h0)]) hx hb dX11_readTurns_24 hl (k := 1) rfl (by decide +kernel) (by decide) rfl (fun ls hl => ?_)
  refine lv_goto (tgt := 5) hx hb dX11_readTurns_27 (by decide) ?_
  refine lv_iload hx hb dX11_readTurns_5 (lv_at hl 0 rfl) ?_
  refine lv_iload_n hx hb dX11_readTurns_7 rfl (lv_at hl 3 rfl) ?_
  refine lv_icmp_ge (tgt := 30) hx hb dX11_readTurns_8 (by decide) (fun _ => ?_) (fun c9 => absurd (by decide +kernel) c9)
  refine lv_iload_n hx hb dX11_readTurns_30 rfl (lv_at hl 1 rfl) ?_
  refine lv_iconst (v := 1) hx hb dX11_readTurns_31 (by decide +kernel) ?_
  refine lv_iload_n hx hb dX11_readTurns_32 rfl (lv_at hl 3 rfl) ?_
  refine jw_ishl (v := 4) hx hb dX11_readTurns_33 (by decide +kernel) ?_
  refine lv_iconst (v := 1) hx hb dX11_readTurns_34 (by decide +kernel) ?_
  refine jw_isub (v := 3) hx hb dX11_readTurns_35 (by decide +kernel) ?_
  refine lv_icmp_eq (tgt := 41) hx hb dX11_readTurns_36 (by decide) (fun c9 => absurd c9 (by decide +kernel)) (fun _ => ?_)
  refine lv_iconst (v := 0) hx hb dX11_readTurns_39 (by decide +kernel) ?_
  refine W.widen (k := 0) (n := 0) (Nat.le_of_ble_eq_true rfl) (Nat.le_of_ble_eq_true rfl) ?_
  exact jw_zret hx hb hr hlocks rfl rfl rfl hP hD hS dX11_readTurns_40
set_option maxHeartbeats 4000000 in
set_option maxRecDepth 100000 in
theorem k609_X11_arrange {l : Launch} {D : va_G} {Y : Nat → ClassId} {tt : Nat → Nat} (h0 h1 h2 h3 h4 h5 h6 h7 h8 h9 h10 h11 h12 h13 h14 h15 h16 h17 h18 h19 h20 h21 h22 h23 h24 h25 : Nat) (p1 : Int32) (g_p1 : p1.toBitVec.toNat % 16 = 7) (sz : Nat) : Met l yX11_arrange wsX11_arrange ({ frames := 1, cells := 0, slots := 0, locals := 24 }) (jw_Pc D Y tt [.ref h0, .int p1] [(h0, .inr (14, [.ref h3, .int 0, .ref h1, .ref h4, .ref h5, .ref h6, .ref h2, .ref h7, .ref h8, .ref h9, .ref h10, .ref h11, .ref h12, .ref h13, .ref h14, .ref h15, .int (-3), .int (-3)])), (h1, .inr (6, [.int 2, .int 0, .int 0, .int 0, .int 0, .ref h16, .ref h17, .ref h18, .ref h19, .ref h20, .int 0])), (h2, .inr (11, [.ref h1, .ref h5, .ref h21, .ref h22, .ref h23, .ref h24, .int 0, .ref h25]))] sz) (jw_Qi D (fun r => r = 0) (fun w => w = []) (va_A [(h0, .inr (14, [.ref h3, .int 0, .ref h1, .ref h4, .ref h5, .ref h6, .ref h2, .ref h7, .ref h8, .ref h9, .ref h10, .ref h11, .ref h12, .ref h13, .ref h14, .ref h15, .int (-3), .int (-3)])), (h1, .inr (6, [.int 2, .int 0, .int 0, .int 0, .int 0, .ref h16, .ref h17, .ref h18, .ref h19, .ref h20, .int 0])), (h2, .inr (11, [.ref h1, .ref h5, .ref h21, .ref h22, .ref h23, .ref h24, .int 0, .ref h25]))] sz)) 0 0 (va_A [(h0, .inr (14, [.ref h3, .int 0, .ref h1, .ref h4, .ref h5, .ref h6, .ref h2, .ref h7, .ref h8, .ref h9, .ref h10, .ref h11, .ref h12, .ref h13, .ref h14, .ref h15, .int (-3), .int (-3)])), (h1, .inr (6, [.int 2, .int 0, .int 0, .int 0, .int 0, .ref h16, .ref h17, .ref h18, .ref h19, .ref h20, .int 0])), (h2, .inr (11, [.ref h1, .ref h5, .ref h21, .ref h22, .ref h23, .ref h24, .int 0, .ref h25]))] sz) := by
  refine jw_met (fun A => jw_Qi D (fun r => r = 0) (fun w => w = []) A) (cc := cX11_arrange) (maxL := 2) (ret := (some .boolean)) pn_X11_arrange rfl rfl ?_
  intro p e s m below meth c A H locs ls hx hb hml hr hts hown hlocks hin hP hD hA hS hE hl
  have hown : s.vm.findClass RX11 = some m.cls := hown
  have hl : lv_has ls 2 [(0, .ref h0), (1, .int p1)] := hl
  refine lv_iload_n hx hb dX11_arrange_0 rfl (lv_at hl 1 rfl) ?_
  refine lv_aload_n hx hb dX11_arrange_1 rfl (lv_at hl 0 rfl) ?_
  refine va_get (D := D) (ci := 14) (v := .ref h1) (C := RX11) (T := TX11) (N := 18) hx hb hts iw_X11_arrange__X11 hown hE.1 hP 0 rfl rfl 2 (by decide) (hts _ mw_X11_arrange__1) (fun _ h9 => h9) rfl dX11_arrange_2 ?_
  refine va_getN (D := D) (ci := 6) (v := .int 2) (C := RX3) (T := TX3) (N := 11) hx hb hts iw_X11_arrange__X3 hown hE.1 hP 1 rfl rfl 0 (by decide) (nf_X11_133 hE) (fun _ h9 => h9) rfl dX11_arrange_5 ?_
  refine lv_aload_n hx hb dX11_arrange_8 rfl (lv_at hl 0 rfl) ?_
  refine va_get (D := D) (ci := 14) (v := .ref h2) (C := RX11) (T := TX11) (N := 18) hx hb hts iw_X11_arrange__X11 hown hE.1 hP 0 rfl rfl 6 (by decide) (hts _ mw_X11_arrange__2) (fun _ h9 => h9) rfl dX11_arrange_9 ?_
  refine va_getN (D := D) (ci := 11) (v := .ref h22) (C := RX8) (T := TX8) (N := 8) hx hb hts iw_X11_arrange__X8 hown hE.1 hP 2 rfl rfl 3 (by decide) (nf_X11_221 hE) (fun _ h9 => h9) rfl dX11_arrange_12 ?_
  refine jw_mi (wc := []) (cs := 0) (ss := 0) (va_runS (As := [.int p1, .int 2, .ref h22]) (rest := []) ⟨hx, hb, hml, hown, hts⟩ (k608_X11_readTurns h22 p1 g_p1 H.size) (va_cwS 3 hts gX11_arrange_X11_readTurns rfl rfl rfl ydS_X11_readTurns ⟨Nat.le_of_ble_eq_true rfl, Nat.le_of_ble_eq_true rfl⟩) (jw_mpreS hP hD hS hA hE [] rfl) rfl rfl hl.1 rfl (lv_room (Nat.le_of_ble_eq_true rfl)) dX11_arrange_15 ⟨Nat.le_of_ble_eq_true rfl, Nat.le_of_ble_eq_true rfl⟩) hP hD hS hA [] rfl rfl rfl (fun r9 w1 H locs hr9 hw9 hP hD hS => ?_)
  subst hr9
  subst hw9
  have hP : va_P D vwCl [(h0, .inr (14, [.ref h3, .int 0, .ref h1, .ref h4, .ref h5, .ref h6, .ref h2, .ref h7, .ref h8, .ref h9, .ref h10, .ref h11, .ref h12, .ref h13, .ref h14, .ref h15, .int (-3), .int (-3)])), (h1, .inr (6, [.int 2, .int 0, .int 0, .int 0, .int 0, .ref h16, .ref h17, .ref h18, .ref h19, .ref h20, .int 0])), (h2, .inr (11, [.ref h1, .ref h5, .ref h21, .ref h22, .ref h23, .ref h24, .int 0, .ref h25]))] H := hP
  have hD : va_D A [(h0, .inr (14, [.ref h3, .int 0, .ref h1, .ref h4, .ref h5, .ref h6, .ref h2, .ref h7, .ref h8, .ref h9, .ref h10, .ref h11, .ref h12, .ref h13, .ref h14, .ref h15, .int (-3), .int (-3)])), (h1, .inr (6, [.int 2, .int 0, .int 0, .int 0, .int 0, .ref h16, .ref h17, .ref h18, .ref h19, .ref h20, .int 0])), (h2, .inr (11, [.ref h1, .ref h5, .ref h21, .ref h22, .ref h23, .ref h24, .int 0, .ref h25]))] := hD
  refine lv_if_ne (tgt := 23) hx hb dX11_arrange_18 (by decide) (fun c9 => absurd (by decide +kernel) c9) (fun _ => ?_)
  refine lv_iconst (v := 0) hx hb dX11_arrange_21 (by decide +kernel) ?_
  refine W.widen (k := 0) (n := 0) (Nat.le_of_ble_eq_true rfl) (Nat.le_of_ble_eq_true rfl) ?_
  have hP : va_P D vwCl [] H := hP.sub [] rfl
  have hD : va_D A [] := hD.sub [] rfl rfl
  exact jw_zret hx hb hr hlocks rfl rfl rfl hP hD hS dX11_arrange_22
set_option maxHeartbeats 4000000 in
set_option maxRecDepth 100000 in
theorem k610_X12_isOnce {l : Launch} {D : va_G} {Y : Nat → ClassId} {tt : Nat → Nat} (p0 : Int32) (g_p0 : p0.toBitVec.toNat % 16 = 7) (sz : Nat) : Met l yX12_isOnce wsX12_isOnce ({ frames := 0, cells := 0, slots := 0, locals := 0 }) (jw_Pc D Y tt [.int p0, .int 2] [] sz) (jw_Qi D (fun r => r = 0) (fun w => w = []) (va_A [] sz)) 0 0 (va_A [] sz) := by
  refine jw_met (fun A => jw_Qi D (fun r => r = 0) (fun w => w = []) A) (cc := cX12_isOnce) (maxL := 4) (ret := (some .boolean)) pn_X12_isOnce rfl rfl ?_
  intro p e s m below meth c A H locs ls hx hb hml hr hts hown hlocks hin hP hD hA hS hE hl
  have hown : s.vm.findClass RX12 = some m.cls := hown
  have hl : lv_has ls 4 [(0, .int p0), (1, .int 2)] := hl
  refine lv_iconst (v := 0) hx hb dX12_isOnce_0 (by decide +kernel) ?_
  refine lv_istore_n (lv' := [(2, .int 0), (0, .int p0), (1, .int 2)]) hx hb dX12_isOnce_1 rfl hl (by decide) rfl (fun ls hl => ?_)
  refine lv_iconst (v := 0) hx hb dX12_isOnce_2 (by decide +kernel) ?_
  refine lv_istore_n (lv' := [(3, .int 0), (2, .int 0), (0, .int p0), (1, .int 2)]) hx hb dX12_isOnce_3 rfl hl (by decide) rfl (fun ls hl => ?_)
  refine lv_iload_n hx hb dX12_isOnce_4 rfl (lv_at hl 0 rfl) ?_
  refine lv_iload_n hx hb dX12_isOnce_5 rfl (lv_at hl 3 rfl) ?_
  refine lv_icmp_ge (tgt := 27) hx hb dX12_isOnce_6 (by decide) (fun c9 => absurd c9 (by decide +kernel)) (fun _ => ?_)
  refine lv_iload_n hx hb dX12_isOnce_9 rfl (lv_at hl 1 rfl) ?_
  refine lv_iconst (v := 1) hx hb dX12_isOnce_10 (by decide +kernel) ?_
  refine lv_iload_n hx hb dX12_isOnce_11 rfl (lv_at hl 2 rfl) ?_
  refine lv_iconst (v := 2) hx hb dX12_isOnce_12 (by decide +kernel) ?_
  refine lv_iload_n hx hb dX12_isOnce_13 rfl (lv_at hl 0 rfl) ?_
  refine jw_imul (v := 0) hx hb dX12_isOnce_14 (by decide +kernel) ?_
  refine jw_ishr (v := (p0 >>> (0 &&& 31))) hx hb dX12_isOnce_15 rfl ?_
  refine lv_iconst (v := 3) hx hb dX12_isOnce_16 (by decide +kernel) ?_
  refine jw_iand (v := 3) hx hb dX12_isOnce_17 (jw_bs0 g_p0 (by decide +kernel)) ?_
  refine jw_ishl (v := 8) hx hb dX12_isOnce_18 (by decide +kernel) ?_
  refine jw_ior (v := 8) hx hb dX12_isOnce_19 (by decide +kernel) ?_
  refine lv_istore_n (lv' := [(2, .int 8), (3, .int 0), (0, .int p0), (1, .int 2)]) hx hb dX12_isOnce_20 rfl hl (by decide) rfl (fun ls hl => ?_)
  refine lv_iinc (v := 1) (lv' := [(3, .int 1), (2, .int 8), (0, .int p0), (1, .int 2)]) hx hb dX12_isOnce_21 hl (k := 1) rfl (by decide +kernel) (by decide) rfl (fun ls hl => ?_)
  refine lv_goto (tgt := 4) hx hb dX12_isOnce_24 (by decide) ?_
  refine lv_iload_n hx hb dX12_isOnce_4 rfl (lv_at hl 0 rfl) ?_
  refine lv_iload_n hx hb dX12_isOnce_5 rfl (lv_at hl 3 rfl) ?_
  refine lv_icmp_ge (tgt := 27) hx hb dX12_isOnce_6 (by decide) (fun c9 => absurd c9 (by decide +kernel)) (fun _ => ?_)
  refine lv_iload_n hx hb dX12_isOnce_9 rfl (lv_at hl 1 rfl) ?_
  refine lv_iconst (v := 1) hx hb dX12_isOnce_10 (by decide +kernel) ?_
  refine lv_iload_n hx hb dX12_isOnce_11 rfl (lv_at hl 2 rfl) ?_
  refine lv_iconst (v := 2) hx hb dX12_isOnce_12 (by decide +kernel) ?_
  refine lv_iload_n hx hb dX12_isOnce_13 rfl (lv_at hl 0 rfl) ?_
  refine jw_imul (v := 2) hx hb dX12_isOnce_14 (by decide +kernel) ?_
  refine jw_ishr (v := (p0 >>> (2 &&& 31))) hx hb dX12_isOnce_15 rfl ?_
  refine lv_iconst (v := 3) hx hb dX12_isOnce_16 (by decide +kernel) ?_
  refine jw_iand (v := 1) hx hb dX12_isOnce_17 (jw_bs1 g_p0 (by decide +kernel)) ?_
  refine jw_ishl (v := 2) hx hb dX12_isOnce_18 (by decide +kernel) ?_
  refine jw_ior (v := 10) hx hb dX12_isOnce_19 (by decide +kernel) ?_
  refine lv_istore_n (lv' := [(2, .int 10), (3, .int 1), (0, .int p0), (1, .int 2)]) hx hb dX12_isOnce_20 rfl hl (by decide) rfl (fun ls hl => ?_)
  refine lv_iinc (v := 2) (lv' := [(3, .int 2), (2, .int 10), (0, .int p0), (1, .int 2)]) hx hb dX12_isOnce_21 hl (k := 1) rfl (by decide +kernel) (by decide) rfl (fun ls hl => ?_)
  refine lv_goto (tgt := 4) hx hb dX12_isOnce_24 (by decide) ?_
  refine lv_iload_n hx hb dX12_isOnce_4 rfl (lv_at hl 0 rfl) ?_
  refine lv_iload_n hx hb dX12_isOnce_5 rfl (lv_at hl 3 rfl) ?_
  refine lv_icmp_ge (tgt := 27) hx hb dX12_isOnce_6 (by decide) (fun _ => ?_) (fun c9 => absurd (by decide +kernel) c9)
  refine lv_iload_n hx hb dX12_isOnce_27 rfl (lv_at hl 1 rfl) ?_
  refine lv_iconst (v := 1) hx hb dX12_isOnce_28 (by decide +kernel) ?_
  refine lv_iload_n hx hb dX12_isOnce_29 rfl (lv_at hl 3 rfl) ?_
  refine jw_ishl (v := 4) hx hb dX12_isOnce_30 (by decide +kernel) ?_
  refine lv_iconst (v := 1) hx hb dX12_isOnce_31 (by decide +kernel) ?_
  refine jw_isub (v := 3) hx hb dX12_isOnce_32 (by decide +kernel) ?_
  refine lv_icmp_ne (tgt := 40) hx hb dX12_isOnce_33 (by decide) (fun _ => ?_) (fun c9 => absurd c9 (by decide +kernel))
  refine lv_iconst (v := 0) hx hb dX12_isOnce_40 (by decide +kernel) ?_
  refine W.widen (k := 0) (n := 0) (Nat.le_of_ble_eq_true rfl) (Nat.le_of_ble_eq_true rfl) ?_
  exact jw_zret hx hb hr hlocks rfl rfl rfl hP hD hS dX12_isOnce_41
set_option maxHeartbeats 4000000 in
set_option maxRecDepth 100000 in
theorem k611_X12_arrange {l : Launch} {D : va_G} {Y : Nat → ClassId} {tt : Nat → Nat} (h0 h1 h2 h3 h4 h5 h6 h7 h8 h9 h10 h11 h12 h13 h14 h15 h16 h17 h18 h19 h20 h21 h22 h23 h24 h25 h26 h27 h28 h29 h30 h31 h32 h33 h34 h35 : Nat) (p1 : Int32) (g_p1 : p1.toBitVec.toNat % 16 = 7) (sz : Nat) : Met l yX12_arrange wsX12_arrange ({ frames := 1, cells := 0, slots := 0, locals := 23 }) (jw_Pc D Y tt [.ref h0, .int p1] [(h0, .inr (15, [.ref h1, .int 0, .int 0, .ref h2, .int 0, .int (-1), .int 0, .int 0, .int 0, .int 0, .int 0, .int 2, .int 0, .int 0, .int 0, .ref h3, .ref h4, .ref h5, .ref h6, .int 2, .int 0, .int 0, .int 0, .int 0, .ref h7, .ref h8, .ref h9, .ref h10, .int 2, .ref h11, .int 1, .ref h12, .ref h13, .int 1, .ref h14, .ref h15, .ref h16, .int 0, .ref h17, .ref h18, .ref h19, .ref h20, .ref h21, .ref h22, .ref h23, .ref h24, .ref h25, .int 0, .ref h26, .ref h27, .ref h28, .int (-1), .ref h29, .long 0, .long 0, .int 0, .int 0, .long 0, .long 0, .ref h30, .ref h31, .ref h32, .ref h33, .ref h34, .ref h35, .long 0]))] sz) (jw_Qi D (fun r => r = 0) (fun w => w = []) (va_A [(h0, .inr (15, [.ref h1, .int 0, .int 0, .ref h2, .int 0, .int (-1), .int 0, .int 0, .int 0, .int 0, .int 0, .int 2, .int 0, .int 0, .int 0, .ref h3, .ref h4, .ref h5, .ref h6, .int 2, .int 0, .int 0, .int 0, .int 0, .ref h7, .ref h8, .ref h9, .ref h10, .int 2, .ref h11, .int 1, .ref h12, .ref h13, .int 1, .ref h14, .ref h15, .ref h16, .int 0, .ref h17, .ref h18, .ref h19, .ref h20, .ref h21, .ref h22, .ref h23, .ref h24, .ref h25, .int 0, .ref h26, .ref h27, .ref h28, .int (-1), .ref h29, .long 0, .long 0, .int 0, .int 0, .long 0, .long 0, .ref h30, .ref h31, .ref h32, .ref h33, .ref h34, .ref h35, .long 0]))] sz)) 0 0 (va_A [(h0, .inr (15, [.ref h1, .int 0, .int 0, .ref h2, .int 0, .int (-1), .int 0, .int 0, .int 0, .int 0, .int 0, .int 2, .int 0, .int 0, .int 0, .ref h3, .ref h4, .ref h5, .ref h6, .int 2, .int 0, .int 0, .int 0, .int 0, .ref h7, .ref h8, .ref h9, .ref h10, .int 2, .ref h11, .int 1, .ref h12, .ref h13, .int 1, .ref h14, .ref h15, .ref h16, .int 0, .ref h17, .ref h18, .ref h19, .ref h20, .ref h21, .ref h22, .ref h23, .ref h24, .ref h25, .int 0, .ref h26, .ref h27, .ref h28, .int (-1), .ref h29, .long 0, .long 0, .int 0, .int 0, .long 0, .long 0, .ref h30, .ref h31, .ref h32, .ref h33, .ref h34, .ref h35, .long 0]))] sz) := by
  refine jw_met (fun A => jw_Qi D (fun r => r = 0) (fun w => w = []) A) (cc := cX12_arrange) (maxL := 3) (ret := (some .boolean)) pn_X12_arrange rfl rfl ?_
  intro p e s m below meth c A H locs ls hx hb hml hr hts hown hlocks hin hP hD hA hS hE hl
  have hown : s.vm.findClass RX12 = some m.cls := hown
  have hl : lv_has ls 3 [(0, .ref h0), (1, .int p1)] := hl
  refine lv_aload_n hx hb dX12_arrange_0 rfl (lv_at hl 0 rfl) ?_
  refine lv_iconst (v := 0) hx hb dX12_arrange_1 (by decide +kernel) ?_
  refine va_put (D := D) (ci := 15) (v := .int 0) (C := RX12) (T := TX12) (N := 66) hx hb hts iw_X12_arrange__X12 tyX12 tyX12_ok nmX12 hown hE.1 hP hD hS 0 rfl rfl 2 (by decide) (hts _ mw_X12_arrange__1) (fun _ h9 => h9) rfl (tyX12_ok 2 (by decide)) rfl rfl (Nat.le_of_ble_eq_true rfl) dX12_arrange_2 (fun H locs hP hD hS => ?_)
  have hP : va_P D vwCl [(h0, .inr (15, [.ref h1, .int 0, .int 0, .ref h2, .int 0, .int (-1), .int 0, .int 0, .int 0, .int 0, .int 0, .int 2, .int 0, .int 0, .int 0, .ref h3, .ref h4, .ref h5, .ref h6, .int 2, .int 0, .int 0, .int 0, .int 0, .ref h7, .ref h8, .ref h9, .ref h10, .int 2, .ref h11, .int 1, .ref h12, .ref h13, .int 1, .ref h14, .ref h15, .ref h16, .int 0, .ref h17, .ref h18, .ref h19, .ref h20, .ref h21, .ref h22, .ref h23, .ref h24, .ref h25, .int 0, .ref h26, .ref h27, .ref h28, .int (-1), .ref h29, .long 0, .long 0, .int 0, .int 0, .long 0, .long 0, .ref h30, .ref h31, .ref h32, .ref h33, .ref h34, .ref h35, .long 0]))] H := hP
  have hD : va_D A [(h0, .inr (15, [.ref h1, .int 0, .int 0, .ref h2, .int 0, .int (-1), .int 0, .int 0, .int 0, .int 0, .int 0, .int 2, .int 0, .int 0, .int 0, .ref h3, .ref h4, .ref h5, .ref h6, .int 2, .int 0, .int 0, .int 0, .int 0, .ref h7, .ref h8, .ref h9, .ref h10, .int 2, .ref h11, .int 1, .ref h12, .ref h13, .int 1, .ref h14, .ref h15, .ref h16, .int 0, .ref h17, .ref h18, .ref h19, .ref h20, .ref h21, .ref h22, .ref h23, .ref h24, .ref h25, .int 0, .ref h26, .ref h27, .ref h28, .int (-1), .ref h29, .long 0, .long 0, .int 0, .int 0, .long 0, .long 0, .ref h30, .ref h31, .ref h32, .ref h33, .ref h34, .ref h35, .long 0]))] := hD
  refine lv_iload_n hx hb dX12_arrange_5 rfl (lv_at hl 1 rfl) ?_
  refine lv_aload_n hx hb dX12_arrange_6 rfl (lv_at hl 0 rfl) ?_
  refine va_get (D := D) (ci := 15) (v := .int 2) (C := RX12) (T := TX12) (N := 66) hx hb hts iw_X12_arrange__X12 hown hE.1 hP 0 rfl rfl 11 (by decide) (hts _ mw_X12_arrange__2) (fun _ h9 => h9) rfl dX12_arrange_7 ?_
  refine jw_mi (wc := []) (cs := 0) (ss := 0) (va_runS (As := [.int p1, .int 2]) (rest := []) ⟨hx, hb, hml, hown, hts⟩ (k610_X12_isOnce p1 g_p1 H.size) (va_cwS 2 hts gX12_arrange_X12_isOnce rfl rfl rfl ydS_X12_isOnce ⟨Nat.le_of_ble_eq_true rfl, Nat.le_of_ble_eq_true rfl⟩) (jw_mpreS hP hD hS hA hE [] rfl) rfl rfl hl.1 rfl (lv_room (Nat.le_of_ble_eq_true rfl)) dX12_arrange_10 ⟨Nat.le_of_ble_eq_true rfl, Nat.le_of_ble_eq_true rfl⟩) hP hD hS hA [] rfl rfl rfl (fun r9 w1 H locs hr9 hw9 hP hD hS => ?_)
  subst hr9
  subst hw9
  have hP : va_P D vwCl [(h0, .inr (15, [.ref h1, .int 0, .int 0, .ref h2, .int 0, .int (-1), .int 0, .int 0, .int 0, .int 0, .int 0, .int 2, .int 0, .int 0, .int 0, .ref h3, .ref h4, .ref h5, .ref h6, .int 2, .int 0, .int 0, .int 0, .int 0, .ref h7, .ref h8, .ref h9, .ref h10, .int 2, .ref h11, .int 1, .ref h12, .ref h13, .int 1, .ref h14, .ref h15, .ref h16, .int 0, .ref h17, .ref h18, .ref h19, .ref h20, .ref h21, .ref h22, .ref h23, .ref h24, .ref h25, .int 0, .ref h26, .ref h27, .ref h28, .int (-1), .ref h29, .long 0, .long 0, .int 0, .int 0, .long 0, .long 0, .ref h30, .ref h31, .ref h32, .ref h33, .ref h34, .ref h35, .long 0]))] H := hP
  have hD : va_D A [(h0, .inr (15, [.ref h1, .int 0, .int 0, .ref h2, .int 0, .int (-1), .int 0, .int 0, .int 0, .int 0, .int 0, .int 2, .int 0, .int 0, .int 0, .ref h3, .ref h4, .ref h5, .ref h6, .int 2, .int 0, .int 0, .int 0, .int 0, .ref h7, .ref h8, .ref h9, .ref h10, .int 2, .ref h11, .int 1, .ref h12, .ref h13, .int 1, .ref h14, .ref h15, .ref h16, .int 0, .ref h17, .ref h18, .ref h19, .ref h20, .ref h21, .ref h22, .ref h23, .ref h24, .ref h25, .int 0, .ref h26, .ref h27, .ref h28, .int (-1), .ref h29, .long 0, .long 0, .int 0, .int 0, .long 0, .long 0, .ref h30, .ref h31, .ref h32, .ref h33, .ref h34, .ref h35, .long 0]))] := hD
  refine lv_if_ne (tgt := 18) hx hb dX12_arrange_13 (by decide) (fun c9 => absurd (by decide +kernel) c9) (fun _ => ?_)
  refine lv_iconst (v := 0) hx hb dX12_arrange_16 (by decide +kernel) ?_
  refine W.widen (k := 0) (n := 0) (Nat.le_of_ble_eq_true rfl) (Nat.le_of_ble_eq_true rfl) ?_
  have hP : va_P D vwCl [] H := hP.sub [] rfl
  have hD : va_D A [] := hD.sub [] rfl rfl
  exact jw_zret hx hb hr hlocks rfl rfl rfl hP hD hS dX12_arrange_17
set_option maxHeartbeats 4000000 in
set_option maxRecDepth 100000 in
theorem k612_X11_readTurns {l : Launch} {D : va_G} {Y : Nat → ClassId} {tt : Nat → Nat} (h0 : Nat) (p0 : Int32) (g_p0 : p0.toBitVec.toNat % 16 = 8) (sz : Nat) : Met l yX11_readTurns wsX11_readTurns ({ frames := 0, cells := 0, slots := 0, locals := 0 }) (jw_Pc D Y tt [.int p0, .int 2, .ref h0] [] sz) (jw_Qi D (fun r => r = 0) (fun w => w = []) (va_A [] sz)) 0 0 (va_A [] sz) := by
  refine jw_met (fun A => jw_Qi D (fun r => r = 0) (fun w => w = []) A) (cc := cX11_readTurns) (maxL := 5) (ret := (some .boolean)) pn_X11_readTurns rfl rfl ?_
  intro p e s m below meth c A H locs ls hx hb hml hr hts hown hlocks hin hP hD hA hS hE hl
  have hown : s.vm.findClass RX11 = some m.cls := hown
  have hl : lv_has ls 5 [(0, .int p0), (1, .int 2), (2, .ref h0)] := hl
  refine lv_iconst (v := 0) hx hb dX11_readTurns_0 (by decide +kernel) ?_
  refine lv_istore_n (lv' := [(3, .int 0), (0, .int p0), (1, .int 2), (2, .ref h0)]) hx hb dX11_readTurns_1 rfl hl (by decide) rfl (fun ls hl => ?_)
  refine lv_iconst (v := 0) hx hb dX11_readTurns_2 (by decide +kernel) ?_
  refine lv_istore (lv' := [(4, .int 0), (3, .int 0), (0, .int p0), (1, .int 2), (2, .ref h0)]) hx hb dX11_readTurns_3 hl (by decide) rfl (fun ls hl => ?_)
  refine lv_iload hx hb dX11_readTurns_5 (lv_at hl 0 rfl) ?_
  refine lv_iload_n hx hb dX11_readTurns_7 rfl (lv_at hl 3 rfl) ?_
  refine lv_icmp_ge (tgt := 30) hx hb dX11_readTurns_8 (by decide) (fun c9 => absurd c9 (by decide +kernel)) (fun _ => ?_)
  refine lv_iload_n hx hb dX11_readTurns_11 rfl (lv_at hl 1 rfl) ?_
  refine lv_iconst (v := 1) hx hb dX11_readTurns_12 (by decide +kernel) ?_
  refine lv_iload_n hx hb dX11_readTurns_13 rfl (lv_at hl 2 rfl) ?_
  refine lv_iconst (v := 2) hx hb dX11_readTurns_14 (by decide +kernel) ?_
  refine lv_iload hx hb dX11_readTurns_15 (lv_at hl 0 rfl) ?_
  refine jw_imul (v := 0) hx hb dX11_readTurns_17 (by decide +kernel) ?_
  refine lv_iushr (v := (p0.toUInt32 >>> ((0 : Int32).toUInt32 &&& Int32.toUInt32 31)).toInt32) hx hb dX11_readTurns_18 rfl ?_
  refine lv_iconst (v := 3) hx hb dX11_readTurns_19 (by decide +kernel) ?_
  refine jw_iand (v := 0) hx hb dX11_readTurns_20 (jw_bu0 g_p0 (by decide +kernel)) ?_
  refine jw_ishl (v := 1) hx hb dX11_readTurns_21 (by decide +kernel) ?_
  refine jw_ior (v := 1) hx hb dX11_readTurns_22 (by decide +kernel) ?_
  refine lv_istore_n (lv' := [(3, .int 1), (4, .int 0), (0, .int p0), (1, .int 2), (2, .ref h0)]) hx hb dX11_readTurns_23 rfl hl (by decide) rfl (fun ls hl => ?_)
  refine lv_iinc (v := 1) (lv' := [(4, .int 1), (3, .int 1), (0, .int p0), (1, .int 2), (2, .ref h0)]) hx hb dX11_readTurns_24 hl (k := 1) rfl (by decide +kernel) (by decide) rfl (fun ls hl => ?_)
  refine lv_goto (tgt := 5) hx hb dX11_readTurns_27 (by decide) ?_
  refine lv_iload hx hb dX11_readTurns_5 (lv_at hl 0 rfl) ?_
  refine lv_iload_n hx hb dX11_readTurns_7 rfl (lv_at hl 3 rfl) ?_
  refine lv_icmp_ge (tgt := 30) hx hb dX11_readTurns_8 (by decide) (fun c9 => absurd c9 (by decide +kernel)) (fun _ => ?_)
  refine lv_iload_n hx hb dX11_readTurns_11 rfl (lv_at hl 1 rfl) ?_
  refine lv_iconst (v := 1) hx hb dX11_readTurns_12 (by decide +kernel) ?_
  refine lv_iload_n hx hb dX11_readTurns_13 rfl (lv_at hl 2 rfl) ?_
  refine lv_iconst (v := 2) hx hb dX11_readTurns_14 (by decide +kernel) ?_
  refine lv_iload hx hb dX11_readTurns_15 (lv_at hl 0 rfl) ?_
  refine jw_imul (v := 2) hx hb dX11_readTurns_17 (by decide +kernel) ?_
  refine lv_iushr (v := (p0.toUInt32 >>> ((2 : Int32).toUInt32 &&& Int32.toUInt32 31)).toInt32) hx hb dX11_readTurns_18 rfl ?_
  refine lv_iconst (v := 3) hx hb dX11_readTurns_19 (by decide +kernel) ?_
  refine jw_iand (v := 2) hx hb dX11_readTurns_20 (jw_bu1 g_p0 (by decide +kernel)) ?_
  refine jw_ishl (v := 4) hx hb dX11_readTurns_21 (by decide +kernel) ?_
  refine jw_ior (v := 5) hx hb dX11_readTurns_22 (by decide +kernel) ?_
  refine lv_istore_n (lv' := [(3, .int 5), (4, .int 1), (0, .int p0), (1, .int 2), (2, .ref h0)]) hx hb dX11_readTurns_23 rfl hl (by decide) rfl (fun ls hl => ?_)
  refine lv_iinc (v := 2) (lv' := [(4, .int 2), (3, .int 5), (0, .int p0), (1, .int 2), (2, .ref h0)]) hx hb dX11_readTurns_24 hl (k := 1) rfl (by decide +kernel) (by decide) rfl (fun ls hl => ?_)
  refine lv_goto (tgt := 5) hx hb dX11_readTurns_27 (by decide) ?_
  refine lv_iload hx hb dX11_readTurns_5 (lv_at hl 0 rfl) ?_
  refine lv_iload_n hx hb dX11_readTurns_7 rfl (lv_at hl 3 rfl) ?_
  refine lv_icmp_ge (tgt := 30) hx hb dX11_readTurns_8 (by decide) (fun _ => ?_) (fun c9 => absurd (by decide +kernel) c9)
  refine lv_iload_n hx hb dX11_readTurns_30 rfl (lv_at hl 1 rfl) ?_
  refine lv_iconst (v := 1) hx hb dX11_readTurns_31 (by decide +kernel) ?_
  refine lv_iload_n hx hb dX11_readTurns_32 rfl (lv_at hl 3 rfl) ?_
  refine jw_ishl (v := 4) hx hb dX11_readTurns_33 (by decide +kernel) ?_
  refine lv_iconst (v := 1) hx hb dX11_readTurns_34 (by decide +kernel) ?_
  refine jw_isub (v := 3) hx hb dX11_readTurns_35 (by decide +kernel) ?_
  refine lv_icmp_eq (tgt := 41) hx hb dX11_readTurns_36 (by decide) (fun c9 => absurd c9 (by decide +kernel)) (fun _ => ?_)
  refine lv_iconst (v := 0) hx hb dX11_readTurns_39 (by decide +kernel) ?_
  refine W.widen (k := 0) (n := 0) (Nat.le_of_ble_eq_true rfl) (Nat.le_of_ble_eq_true rfl) ?_
  exact jw_zret hx hb hr hlocks rfl rfl rfl hP hD hS dX11_readTurns_40
set_option maxHeartbeats 4000000 in
set_option maxRecDepth 100000 in
theorem k613_X11_arrange {l : Launch} {D : va_G} {Y : Nat → ClassId} {tt : Nat → Nat} (h0 h1 h2 h3 h4 h5 h6 h7 h8 h9 h10 h11 h12 h13 h14 h15 h16 h17 h18 h19 h20 h21 h22 h23 h24 h25 : Nat) (p1 : Int32) (g_p1 : p1.toBitVec.toNat % 16 = 8) (sz : Nat) : Met l yX11_arrange wsX11_arrange ({ frames := 1, cells := 0, slots := 0, locals := 24 }) (jw_Pc D Y tt [.ref h0, .int p1] [(h0, .inr (14, [.ref h3, .int 0, .ref h1, .ref h4, .ref h5, .ref h6, .ref h2, .ref h7, .ref h8, .ref h9, .ref h10, .ref h11, .ref h12, .ref h13, .ref h14, .ref h15, .int (-3), .int (-3)])), (h1, .inr (6, [.int 2, .int 0, .int 0, .int 0, .int 0, .ref h16, .ref h17, .ref h18, .ref h19, .ref h20, .int 0])), (h2, .inr (11, [.ref h1, .ref h5, .ref h21, .ref h22, .ref h23, .ref h24, .int 0, .ref h25]))] sz) (jw_Qi D (fun r => r = 0) (fun w => w = []) (va_A [(h0, .inr (14, [.ref h3, .int 0, .ref h1, .ref h4, .ref h5, .ref h6, .ref h2, .ref h7, .ref h8, .ref h9, .ref h10, .ref h11, .ref h12, .ref h13, .ref h14, .ref h15, .int (-3), .int (-3)])), (h1, .inr (6, [.int 2, .int 0, .int 0, .int 0, .int 0, .ref h16, .ref h17, .ref h18, .ref h19, .ref h20, .int 0])), (h2, .inr (11, [.ref h1, .ref h5, .ref h21, .ref h22, .ref h23, .ref h24, .int 0, .ref h25]))] sz)) 0 0 (va_A [(h0, .inr (14, [.ref h3, .int 0, .ref h1, .ref h4, .ref h5, .ref h6, .ref h2, .ref h7, .ref h8, .ref h9, .ref h10, .ref h11, .ref h12, .ref h13, .ref h14, .ref h15, .int (-3), .int (-3)])), (h1, .inr (6, [.int 2, .int 0, .int 0, .int 0, .int 0, .ref h16, .ref h17, .ref h18, .ref h19, .ref h20, .int 0])), (h2, .inr (11, [.ref h1, .ref h5, .ref h21, .ref h22, .ref h23, .ref h24, .int 0, .ref h25]))] sz) := by
  refine jw_met (fun A => jw_Qi D (fun r => r = 0) (fun w => w = []) A) (cc := cX11_arrange) (maxL := 2) (ret := (some .boolean)) pn_X11_arrange rfl rfl ?_
  intro p e s m below meth c A H locs ls hx hb hml hr hts hown hlocks hin hP hD hA hS hE hl
  have hown : s.vm.findClass RX11 = some m.cls := hown
  have hl : lv_has ls 2 [(0, .ref h0), (1, .int p1)] := hl
  refine lv_iload_n hx hb dX11_arrange_0 rfl (lv_at hl 1 rfl) ?_
  refine lv_aload_n hx hb dX11_arrange_1 rfl (lv_at hl 0 rfl) ?_
  refine va_get (D := D) (ci := 14) (v := .ref h1) (C := RX11) (T := TX11) (N := 18) hx hb hts iw_X11_arrange__X11 hown hE.1 hP 0 rfl rfl 2 (by decide) (hts _ mw_X11_arrange__1) (fun _ h9 => h9) rfl dX11_arrange_2 ?_
  refine va_getN (D := D) (ci := 6) (v := .int 2) (C := RX3) (T := TX3) (N := 11) hx hb hts iw_X11_arrange__X3 hown hE.1 hP 1 rfl rfl 0 (by decide) (nf_X11_133 hE) (fun _ h9 => h9) rfl dX11_arrange_5 ?_
  refine lv_aload_n hx hb dX11_arrange_8 rfl (lv_at hl 0 rfl) ?_
  refine va_get (D := D) (ci := 14) (v := .ref h2) (C := RX11) (T := TX11) (N := 18) hx hb hts iw_X11_arrange__X11 hown hE.1 hP 0 rfl rfl 6 (by decide) (hts _ mw_X11_arrange__2) (fun _ h9 => h9) rfl dX11_arrange_9 ?_
  refine va_getN (D := D) (ci := 11) (v := .ref h22) (C := RX8) (T := TX8) (N := 8) hx hb hts iw_X11_arrange__X8 hown hE.1 hP 2 rfl rfl 3 (by decide) (nf_X11_221 hE) (fun _ h9 => h9) rfl dX11_arrange_12 ?_
  refine jw_mi (wc := []) (cs := 0) (ss := 0) (va_runS (As := [.int p1, .int 2, .ref h22]) (rest := []) ⟨hx, hb, hml, hown, hts⟩ (k612_X11_readTurns h22 p1 g_p1 H.size) (va_cwS 3 hts gX11_arrange_X11_readTurns rfl rfl rfl ydS_X11_readTurns ⟨Nat.le_of_ble_eq_true rfl, Nat.le_of_ble_eq_true rfl⟩) (jw_mpreS hP hD hS hA hE [] rfl) rfl rfl hl.1 rfl (lv_room (Nat.le_of_ble_eq_true rfl)) dX11_arrange_15 ⟨Nat.le_of_ble_eq_true rfl, Nat.le_of_ble_eq_true rfl⟩) hP hD hS hA [] rfl rfl rfl (fun r9 w1 H locs hr9 hw9 hP hD hS => ?_)
  subst hr9
  subst hw9
  have hP : va_P D vwCl [(h0, .inr (14, [.ref h3, .int 0, .ref h1, .ref h4, .ref h5, .ref h6, .ref h2, .ref h7, .ref h8, .ref h9, .ref h10, .ref h11, .ref h12, .ref h13, .ref h14, .ref h15, .int (-3), .int (-3)])), (h1, .inr (6, [.int 2, .int 0, .int 0, .int 0, .int 0, .ref h16, .ref h17, .ref h18, .ref h19, .ref h20, .int 0])), (h2, .inr (11, [.ref h1, .ref h5, .ref h21, .ref h22, .ref h23, .ref h24, .int 0, .ref h25]))] H := hP
  have hD : va_D A [(h0, .inr (14, [.ref h3, .int 0, .ref h1, .ref h4, .ref h5, .ref h6, .ref h2, .ref h7, .ref h8, .ref h9, .ref h10, .ref h11, .ref h12, .ref h13, .ref h14, .ref h15, .int (-3), .int (-3)])), (h1, .inr (6, [.int 2, .int 0, .int 0, .int 0, .int 0, .ref h16, .ref h17, .ref h18, .ref h19, .ref h20, .int 0])), (h2, .inr (11, [.ref h1, .ref h5, .ref h21, .ref h22, .ref h23, .ref h24, .int 0, .ref h25]))] := hD
  refine lv_if_ne (tgt := 23) hx hb dX11_arrange_18 (by decide) (fun c9 => absurd (by decide +kernel) c9) (fun _ => ?_)
  refine lv_iconst (v := 0) hx hb dX11_arrange_21 (by decide +kernel) ?_
  refine W.widen (k := 0) (n := 0) (Nat.le_of_ble_eq_true rfl) (Nat.le_of_ble_eq_true rfl) ?_
  have hP : va_P D vwCl [] H := hP.sub [] rfl
  have hD : va_D A [] := hD.sub [] rfl rfl
  exact jw_zret hx hb hr hlocks rfl rfl rfl hP hD hS dX11_arrange_22
set_option maxHeartbeats 4000000 in
set_option maxRecDepth 100000 in
theorem k614_X12_isOnce {l : Launch} {D : va_G} {Y : Nat → ClassId} {tt : Nat → Nat} (p0 : Int32) (g_p0 : p0.toBitVec.toNat % 16 = 8) (sz : Nat) : Met l yX12_isOnce wsX12_isOnce ({ frames := 0, cells := 0, slots := 0, locals := 0 }) (jw_Pc D Y tt [.int p0, .int 2] [] sz) (jw_Qi D (fun r => r = 0) (fun w => w = []) (va_A [] sz)) 0 0 (va_A [] sz) := by
  refine jw_met (fun A => jw_Qi D (fun r => r = 0) (fun w => w = []) A) (cc := cX12_isOnce) (maxL := 4) (ret := (some .boolean)) pn_X12_isOnce rfl rfl ?_
  intro p e s m below meth c A H locs ls hx hb hml hr hts hown hlocks hin hP hD hA hS hE hl
  have hown : s.vm.findClass RX12 = some m.cls := hown
  have hl : lv_has ls 4 [(0, .int p0), (1, .int 2)] := hl
  refine lv_iconst (v := 0) hx hb dX12_isOnce_0 (by decide +kernel) ?_
  refine lv_istore_n (lv' := [(2, .int 0), (0, .int p0), (1, .int 2)]) hx hb dX12_isOnce_1 rfl hl (by decide) rfl (fun ls hl => ?_)
  refine lv_iconst (v := 0) hx hb dX12_isOnce_2 (by decide +kernel) ?_
  refine lv_istore_n (lv' := [(3, .int 0), (2, .int 0), (0, .int p0), (1, .int 2)]) hx hb dX12_isOnce_3 rfl hl (by decide) rfl (fun ls hl => ?_)
  refine lv_iload_n hx hb dX12_isOnce_4 rfl (lv_at hl 0 rfl) ?_
  refine lv_iload_n hx hb dX12_isOnce_5 rfl (lv_at hl 3 rfl) ?_
  refine lv_icmp_ge (tgt := 27) hx hb dX12_isOnce_6 (by decide) (fun c9 => absurd c9 (by decide +kernel)) (fun _ => ?_)
  refine lv_iload_n hx hb dX12_isOnce_9 rfl (lv_at hl 1 rfl) ?_
  refine lv_iconst (v := 1) hx hb dX12_isOnce_10 (by decide +kernel) ?_
  refine lv_iload_n hx hb dX12_isOnce_11 rfl (lv_at hl 2 rfl) ?_
  refine lv_iconst (v := 2) hx hb dX12_isOnce_12 (by decide +kernel) ?_
  refine lv_iload_n hx hb dX12_isOnce_13 rfl (lv_at hl 0 rfl) ?_
  refine jw_imul (v := 0) hx hb dX12_isOnce_14 (by decide +kernel) ?_
  refine jw_ishr (v := (p0 >>> (0 &&& 31))) hx hb dX12_isOnce_15 rfl ?_
  refine lv_iconst (v := 3) hx hb dX12_isOnce_16 (by decide +kernel) ?_
  refine jw_iand (v := 0) hx hb dX12_isOnce_17 (jw_bs0 g_p0 (by decide +kernel)) ?_
  refine jw_ishl (v := 1) hx hb dX12_isOnce_18 (by decide +kernel) ?_
  refine jw_ior (v := 1) hx hb dX12_isOnce_19 (by decide +kernel) ?_
  refine lv_istore_n (lv' := [(2, .int 1), (3, .int 0), (0, .int p0), (1, .int 2)]) hx hb dX12_isOnce_20 rfl hl (by decide) rfl (fun ls hl => ?_)
  refine lv_iinc (v := 1) (lv' := [(3, .int 1), (2, .int 1), (0, .int p0), (1, .int 2)]) hx hb dX12_isOnce_21 hl (k := 1) rfl (by decide +kernel) (by decide) rfl (fun ls hl => ?_)
  refine lv_goto (tgt := 4) hx hb dX12_isOnce_24 (by decide) ?_
  refine lv_iload_n hx hb dX12_isOnce_4 rfl (lv_at hl 0 rfl) ?_
  refine lv_iload_n hx hb dX12_isOnce_5 rfl (lv_at hl 3 rfl) ?_
  refine lv_icmp_ge (tgt := 27) hx hb dX12_isOnce_6 (by decide) (fun c9 => absurd c9 (by decide +kernel)) (fun _ => ?_)
  refine lv_iload_n hx hb dX12_isOnce_9 rfl (lv_at hl 1 rfl) ?_
  refine lv_iconst (v := 1) hx hb dX12_isOnce_10 (by decide +kernel) ?_
  refine lv_iload_n hx hb dX12_isOnce_11 rfl (lv_at hl 2 rfl) ?_
  refine lv_iconst (v := 2) hx hb dX12_isOnce_12 (by decide +kernel) ?_
  refine lv_iload_n hx hb dX12_isOnce_13 rfl (lv_at hl 0 rfl) ?_
  refine jw_imul (v := 2) hx hb dX12_isOnce_14 (by decide +kernel) ?_
  refine jw_ishr (v := (p0 >>> (2 &&& 31))) hx hb dX12_isOnce_15 rfl ?_
  refine lv_iconst (v := 3) hx hb dX12_isOnce_16 (by decide +kernel) ?_
  refine jw_iand (v := 2) hx hb dX12_isOnce_17 (jw_bs1 g_p0 (by decide +kernel)) ?_
  refine jw_ishl (v := 4) hx hb dX12_isOnce_18 (by decide +kernel) ?_
  refine jw_ior (v := 5) hx hb dX12_isOnce_19 (by decide +kernel) ?_
  refine lv_istore_n (lv' := [(2, .int 5), (3, .int 1), (0, .int p0), (1, .int 2)]) hx hb dX12_isOnce_20 rfl hl (by decide) rfl (fun ls hl => ?_)
  refine lv_iinc (v := 2) (lv' := [(3, .int 2), (2, .int 5), (0, .int p0), (1, .int 2)]) hx hb dX12_isOnce_21 hl (k := 1) rfl (by decide +kernel) (by decide) rfl (fun ls hl => ?_)
  refine lv_goto (tgt := 4) hx hb dX12_isOnce_24 (by decide) ?_
  refine lv_iload_n hx hb dX12_isOnce_4 rfl (lv_at hl 0 rfl) ?_
  refine lv_iload_n hx hb dX12_isOnce_5 rfl (lv_at hl 3 rfl) ?_
  refine lv_icmp_ge (tgt := 27) hx hb dX12_isOnce_6 (by decide) (fun _ => ?_) (fun c9 => absurd (by decide +kernel) c9)
  refine lv_iload_n hx hb dX12_isOnce_27 rfl (lv_at hl 1 rfl) ?_
  refine lv_iconst (v := 1) hx hb dX12_isOnce_28 (by decide +kernel) ?_
  refine lv_iload_n hx hb dX12_isOnce_29 rfl (lv_at hl 3 rfl) ?_
  refine jw_ishl (v := 4) hx hb dX12_isOnce_30 (by decide +kernel) ?_
  refine lv_iconst (v := 1) hx hb dX12_isOnce_31 (by decide +kernel) ?_
  refine jw_isub (v := 3) hx hb dX12_isOnce_32 (by decide +kernel) ?_
  refine lv_icmp_ne (tgt := 40) hx hb dX12_isOnce_33 (by decide) (fun _ => ?_) (fun c9 => absurd c9 (by decide +kernel))
  refine lv_iconst (v := 0) hx hb dX12_isOnce_40 (by decide +kernel) ?_
  refine W.widen (k := 0) (n := 0) (Nat.le_of_ble_eq_true rfl) (Nat.le_of_ble_eq_true rfl) ?_
  exact jw_zret hx hb hr hlocks rfl rfl rfl hP hD hS dX12_isOnce_41
set_option maxHeartbeats 4000000 in
set_option maxRecDepth 100000 in
theorem k615_X12_arrange {l : Launch} {D : va_G} {Y : Nat → ClassId} {tt : Nat → Nat} (h0 h1 h2 h3 h4 h5 h6 h7 h8 h9 h10 h11 h12 h13 h14 h15 h16 h17 h18 h19 h20 h21 h22 h23 h24 h25 h26 h27 h28 h29 h30 h31 h32 h33 h34 h35 : Nat) (p1 : Int32) (g_p1 : p1.toBitVec.toNat % 16 = 8) (sz : Nat) : Met l yX12_arrange wsX12_arrange ({ frames := 1, cells := 0, slots := 0, locals := 23 }) (jw_Pc D Y tt [.ref h0, .int p1] [(h0, .inr (15, [.ref h1, .int 0, .int 0, .ref h2, .int 0, .int (-1), .int 0, .int 0, .int 0, .int 0, .int 0, .int 2, .int 0, .int 0, .int 0, .ref h3, .ref h4, .ref h5, .ref h6, .int 2, .int 0, .int 0, .int 0, .int 0, .ref h7, .ref h8, .ref h9, .ref h10, .int 2, .ref h11, .int 1, .ref h12, .ref h13, .int 1, .ref h14, .ref h15, .ref h16, .int 0, .ref h17, .ref h18, .ref h19, .ref h20, .ref h21, .ref h22, .ref h23, .ref h24, .ref h25, .int 0, .ref h26, .ref h27, .ref h28, .int (-1), .ref h29, .long 0, .long 0, .int 0, .int 0, .long 0, .long 0, .ref h30, .ref h31, .ref h32, .ref h33, .ref h34, .ref h35, .long 0]))] sz) (jw_Qi D (fun r => r = 0) (fun w => w = []) (va_A [(h0, .inr (15, [.ref h1, .int 0, .int 0, .ref h2, .int 0, .int (-1), .int 0, .int 0, .int 0, .int 0, .int 0, .int 2, .int 0, .int 0, .int 0, .ref h3, .ref h4, .ref h5, .ref h6, .int 2, .int 0, .int 0, .int 0, .int 0, .ref h7, .ref h8, .ref h9, .ref h10, .int 2, .ref h11, .int 1, .ref h12, .ref h13, .int 1, .ref h14, .ref h15, .ref h16, .int 0, .ref h17, .ref h18, .ref h19, .ref h20, .ref h21, .ref h22, .ref h23, .ref h24, .ref h25, .int 0, .ref h26, .ref h27, .ref h28, .int (-1), .ref h29, .long 0, .long 0, .int 0, .int 0, .long 0, .long 0, .ref h30, .ref h31, .ref h32, .ref h33, .ref h34, .ref h35, .long 0]))] sz)) 0 0 (va_A [(h0, .inr (15, [.ref h1, .int 0, .int 0, .ref h2, .int 0, .int (-1), .int 0, .int 0, .int 0, .int 0, .int 0, .int 2, .int 0, .int 0, .int 0, .ref h3, .ref h4, .ref h5, .ref h6, .int 2, .int 0, .int 0, .int 0, .int 0, .ref h7, .ref h8, .ref h9, .ref h10, .int 2, .ref h11, .int 1, .ref h12, .ref h13, .int 1, .ref h14, .ref h15, .ref h16, .int 0, .ref h17, .ref h18, .ref h19, .ref h20, .ref h21, .ref h22, .ref h23, .ref h24, .ref h25, .int 0, .ref h26, .ref h27, .ref h28, .int (-1), .ref h29, .long 0, .long 0, .int 0, .int 0, .long 0, .long 0, .ref h30, .ref h31, .ref h32, .ref h33, .ref h34, .ref h35, .long 0]))] sz) := by
  refine jw_met (fun A => jw_Qi D (fun r => r = 0) (fun w => w = []) A) (cc := cX12_arrange) (maxL := 3) (ret := (some .boolean)) pn_X12_arrange rfl rfl ?_
  intro p e s m below meth c A H locs ls hx hb hml hr hts hown hlocks hin hP hD hA hS hE hl
  have hown : s.vm.findClass RX12 = some m.cls := hown
  have hl : lv_has ls 3 [(0, .ref h0), (1, .int p1)] := hl
  refine lv_aload_n hx hb dX12_arrange_0 rfl (lv_at hl 0 rfl) ?_
  refine lv_iconst (v := 0) hx hb dX12_arrange_1 (by decide +kernel) ?_
  refine va_put (D := D) (ci := 15) (v := .int 0) (C := RX12) (T := TX12) (N := 66) hx hb hts iw_X12_arrange__X12 tyX12 tyX12_ok nmX12 hown hE.1 hP hD hS 0 rfl rfl 2 (by decide) (hts _ mw_X12_arrange__1) (fun _ h9 => h9) rfl (tyX12_ok 2 (by decide)) rfl rfl (Nat.le_of_ble_eq_true rfl) dX12_arrange_2 (fun H locs hP hD hS => ?_)
  have hP : va_P D vwCl [(h0, .inr (15, [.ref h1, .int 0, .int 0, .ref h2, .int 0, .int (-1), .int 0, .int 0, .int 0, .int 0, .int 0, .int 2, .int 0, .int 0, .int 0, .ref h3, .ref h4, .ref h5, .ref h6, .int 2, .int 0, .int 0, .int 0, .int 0, .ref h7, .ref h8, .ref h9, .ref h10, .int 2, .ref h11, .int 1, .ref h12, .ref h13, .int 1, .ref h14, .ref h15, .ref h16, .int 0, .ref h17, .ref h18, .ref h19, .ref h20, .ref h21, .ref h22, .ref h23, .ref h24, .ref h25, .int 0, .ref h26, .ref h27, .ref h28, .int (-1), .ref h29, .long 0, .long 0, .int 0, .int 0, .long 0, .long 0, .ref h30, .ref h31, .ref h32, .ref h33, .ref h34, .ref h35, .long 0]))] H := hP
  have hD : va_D A [(h0, .inr (15, [.ref h1, .int 0, .int 0, .ref h2, .int 0, .int (-1), .int 0, .int 0, .int 0, .int 0, .int 0, .int 2, .int 0, .int 0, .int 0, .ref h3, .ref h4, .ref h5, .ref h6, .int 2, .int 0, .int 0, .int 0, .int 0, .ref h7, .ref h8, .ref h9, .ref h10, .int 2, .ref h11, .int 1, .ref h12, .ref h13, .int 1, .ref h14, .ref h15, .ref h16, .int 0, .ref h17, .ref h18, .ref h19, .ref h20, .ref h21, .ref h22, .ref h23, .ref h24, .ref h25, .int 0, .ref h26, .ref h27, .ref h28, .int (-1), .ref h29, .long 0, .long 0, .int 0, .int 0, .long 0, .long 0, .ref h30, .ref h31, .ref h32, .ref h33, .ref h34, .ref h35, .long 0]))] := hD
  refine lv_iload_n hx hb dX12_arrange_5 rfl (lv_at hl 1 rfl) ?_
  refine lv_aload_n hx hb dX12_arrange_6 rfl (lv_at hl 0 rfl) ?_
  refine va_get (D := D) (ci := 15) (v := .int 2) (C := RX12) (T := TX12) (N := 66) hx hb hts iw_X12_arrange__X12 hown hE.1 hP 0 rfl rfl 11 (by decide) (hts _ mw_X12_arrange__2) (fun _ h9 => h9) rfl dX12_arrange_7 ?_
  refine jw_mi (wc := []) (cs := 0) (ss := 0) (va_runS (As := [.int p1, .int 2]) (rest := []) ⟨hx, hb, hml, hown, hts⟩ (k614_X12_isOnce p1 g_p1 H.size) (va_cwS 2 hts gX12_arrange_X12_isOnce rfl rfl rfl ydS_X12_isOnce ⟨Nat.le_of_ble_eq_true rfl, Nat.le_of_ble_eq_true rfl⟩) (jw_mpreS hP hD hS hA hE [] rfl) rfl rfl hl.1 rfl (lv_room (Nat.le_of_ble_eq_true rfl)) dX12_arrange_10 ⟨Nat.le_of_ble_eq_true rfl, Nat.le_of_ble_eq_true rfl⟩) hP hD hS hA [] rfl rfl rfl (fun r9 w1 H locs hr9 hw9 hP hD hS => ?_)
  subst hr9
  subst hw9
  have hP : va_P D vwCl [(h0, .inr (15, [.ref h1, .int 0, .int 0, .ref h2, .int 0, .int (-1), .int 0, .int 0, .int 0, .int 0, .int 0, .int 2, .int 0, .int 0, .int 0, .ref h3, .ref h4, .ref h5, .ref h6, .int 2, .int 0, .int 0, .int 0, .int 0, .ref h7, .ref h8, .ref h9, .ref h10, .int 2, .ref h11, .int 1, .ref h12, .ref h13, .int 1, .ref h14, .ref h15, .ref h16, .int 0, .ref h17, .ref h18, .ref h19, .ref h20, .ref h21, .ref h22, .ref h23, .ref h24, .ref h25, .int 0, .ref h26, .ref h27, .ref h28, .int (-1), .ref h29, .long 0, .long 0, .int 0, .int 0, .long 0, .long 0, .ref h30, .ref h31, .ref h32, .ref h33, .ref h34, .ref h35, .long 0]))] H := hP
  have hD : va_D A [(h0, .inr (15, [.ref h1, .int 0, .int 0, .ref h2, .int 0, .int (-1), .int 0, .int 0, .int 0, .int 0, .int 0, .int 2, .int 0, .int 0, .int 0, .ref h3, .ref h4, .ref h5, .ref h6, .int 2, .int 0, .int 0, .int 0, .int 0, .ref h7, .ref h8, .ref h9, .ref h10, .int 2, .ref h11, .int 1, .ref h12, .ref h13, .int 1, .ref h14, .ref h15, .ref h16, .int 0, .ref h17, .ref h18, .ref h19, .ref h20, .ref h21, .ref h22, .ref h23, .ref h24, .ref h25, .int 0, .ref h26, .ref h27, .ref h28, .int (-1), .ref h29, .long 0, .long 0, .int 0, .int 0, .long 0, .long 0, .ref h30, .ref h31, .ref h32, .ref h33, .ref h34, .ref h35, .long 0]))] := hD
  refine lv_if_ne (tgt := 18) hx hb dX12_arrange_13 (by decide) (fun c9 => absurd (by decide +kernel) c9) (fun _ => ?_)
  refine lv_iconst (v := 0) hx hb dX12_arrange_16 (by decide +kernel) ?_
  refine W.widen (k := 0) (n := 0) (Nat.le_of_ble_eq_true rfl) (Nat.le_of_ble_eq_true rfl) ?_
  have hP : va_P D vwCl [] H := hP.sub [] rfl
  have hD : va_D A [] := hD.sub [] rfl rfl
  exact jw_zret hx hb hr hlocks rfl rfl rfl hP hD hS dX12_arrange_17
set_option maxHeartbeats 4000000 in
set_option maxRecDepth 100000 in
theorem k616_X11_readTurns {l : Launch} {D : va_G} {Y : Nat → ClassId} {tt : Nat → Nat} (h0 : Nat) (p0 : Int32) (g_p0 : p0.toBitVec.toNat % 16 = 9) (sz : Nat) : Met l yX11_readTurns wsX11_readTurns ({ frames := 0, cells := 0, slots := 0, locals := 0 }) (jw_Pc D Y tt [.int p0, .int 2, .ref h0] [] sz) (jw_Qi D (fun r => r = 0) (fun w => w = []) (va_A [] sz)) 0 0 (va_A [] sz) := by
  refine jw_met (fun A => jw_Qi D (fun r => r = 0) (fun w => w = []) A) (cc := cX11_readTurns) (maxL := 5) (ret := (some .boolean)) pn_X11_readTurns rfl rfl ?_
  intro p e s m below meth c A H locs ls hx hb hml hr hts hown hlocks hin hP hD hA hS hE hl
  have hown : s.vm.findClass RX11 = some m.cls := hown
  have hl : lv_has ls 5 [(0, .int p0), (1, .int 2), (2, .ref h0)] := hl
  refine lv_iconst (v := 0) hx hb dX11_readTurns_0 (by decide +kernel) ?_
  refine lv_istore_n (lv' := [(3, .int 0), (0, .int p0), (1, .int 2), (2, .ref h0)]) hx hb dX11_readTurns_1 rfl hl (by decide) rfl (fun ls hl => ?_)
  refine lv_iconst (v := 0) hx hb dX11_readTurns_2 (by decide +kernel) ?_
  refine lv_istore (lv' := [(4, .int 0), (3, .int 0), (0, .int p0), (1, .int 2), (2, .ref h0)]) hx hb dX11_readTurns_3 hl (by decide) rfl (fun ls hl => ?_)
  refine lv_iload hx hb dX11_readTurns_5 (lv_at hl 0 rfl) ?_
  refine lv_iload_n hx hb dX11_readTurns_7 rfl (lv_at hl 3 rfl) ?_
  refine lv_icmp_ge (tgt := 30) hx hb dX11_readTurns_8 (by decide) (fun c9 => absurd c9 (by decide +kernel)) (fun _ => ?_)
  refine lv_iload_n hx hb dX11_readTurns_11 rfl (lv_at hl 1 rfl) ?_
  refine lv_iconst (v := 1) hx hb dX11_readTurns_12 (by decide +kernel) ?_
  refine lv_iload_n hx hb dX11_readTurns_13 rfl (lv_at hl 2 rfl) ?_
  refine lv_iconst (v := 2) hx hb dX11_readTurns_14 (by decide +kernel) ?_
  refine lv_iload hx hb dX11_readTurns_15 (lv_at hl 0 rfl) ?_
  refine jw_imul (v := 0) hx hb dX11_readTurns_17 (by decide +kernel) ?_
  refine lv_iushr (v := (p0.toUInt32 >>> ((0 : Int32).toUInt32 &&& Int32.toUInt32 31)).toInt32) hx hb dX11_readTurns_18 rfl ?_
  refine lv_iconst (v := 3) hx hb dX11_readTurns_19 (by decide +kernel) ?_
  refine jw_iand (v := 1) hx hb dX11_readTurns_20 (jw_bu0 g_p0 (by decide +kernel)) ?_
  refine jw_ishl (v := 2) hx hb dX11_readTurns_21 (by decide +kernel) ?_
  refine jw_ior (v := 2) hx hb dX11_readTurns_22 (by decide +kernel) ?_
  refine lv_istore_n (lv' := [(3, .int 2), (4, .int 0), (0, .int p0), (1, .int 2), (2, .ref h0)]) hx hb dX11_readTurns_23 rfl hl (by decide) rfl (fun ls hl => ?_)
  refine lv_iinc (v := 1) (lv' := [(4, .int 1), (3, .int 2), (0, .int p0), (1, .int 2), (2, .ref h0)]) hx hb dX11_readTurns_24 hl (k := 1) rfl (by decide +kernel) (by decide) rfl (fun ls hl => ?_)
  refine lv_goto (tgt := 5) hx hb dX11_readTurns_27 (by decide) ?_
  refine lv_iload hx hb dX11_readTurns_5 (lv_at hl 0 rfl) ?_
  refine lv_iload_n hx hb dX11_readTurns_7 rfl (lv_at hl 3 rfl) ?_
  refine lv_icmp_ge (tgt := 30) hx hb dX11_readTurns_8 (by decide) (fun c9 => absurd c9 (by decide +kernel)) (fun _ => ?_)
  refine lv_iload_n hx hb dX11_readTurns_11 rfl (lv_at hl 1 rfl) ?_
  refine lv_iconst (v := 1) hx hb dX11_readTurns_12 (by decide +kernel) ?_
  refine lv_iload_n hx hb dX11_readTurns_13 rfl (lv_at hl 2 rfl) ?_
  refine lv_iconst (v := 2) hx hb dX11_readTurns_14 (by decide +kernel) ?_
  refine lv_iload hx hb dX11_readTurns_15 (lv_at hl 0 rfl) ?_
  refine jw_imul (v := 2) hx hb dX11_readTurns_17 (by decide +kernel) ?_
  refine lv_iushr (v := (p0.toUInt32 >>> ((2 : Int32).toUInt32 &&& Int32.toUInt32 31)).toInt32) hx hb dX11_readTurns_18 rfl ?_
  refine lv_iconst (v := 3) hx hb dX11_readTurns_19 (by decide +kernel) ?_
  refine jw_iand (v := 2) hx hb dX11_readTurns_20 (jw_bu1 g_p0 (by decide +kernel)) ?_
  refine jw_ishl (v := 4) hx hb dX11_readTurns_21 (by decide +kernel) ?_
  refine jw_ior (v := 6) hx hb dX11_readTurns_22 (by decide +kernel) ?_
  refine lv_istore_n (lv' := [(3, .int 6), (4, .int 1), (0, .int p0), (1, .int 2), (2, .ref h0)]) hx hb dX11_readTurns_23 rfl hl (by decide) rfl (fun ls hl => ?_)
  refine lv_iinc (v := 2) (lv' := [(4, .int 2), (3, .int 6), (0, .int p0), (1, .int 2), (2, .ref h0)]) hx hb dX11_readTurns_24 hl (k := 1) rfl (by decide +kernel) (by decide) rfl (fun ls hl => ?_)
  refine lv_goto (tgt := 5) hx hb dX11_readTurns_27 (by decide) ?_
  refine lv_iload hx hb dX11_readTurns_5 (lv_at hl 0 rfl) ?_
  refine lv_iload_n hx hb dX11_readTurns_7 rfl (lv_at hl 3 rfl) ?_
  refine lv_icmp_ge (tgt := 30) hx hb dX11_readTurns_8 (by decide) (fun _ => ?_) (fun c9 => absurd (by decide +kernel) c9)
  refine lv_iload_n hx hb dX11_readTurns_30 rfl (lv_at hl 1 rfl) ?_
  refine lv_iconst (v := 1) hx hb dX11_readTurns_31 (by decide +kernel) ?_
  refine lv_iload_n hx hb dX11_readTurns_32 rfl (lv_at hl 3 rfl) ?_
  refine jw_ishl (v := 4) hx hb dX11_readTurns_33 (by decide +kernel) ?_
  refine lv_iconst (v := 1) hx hb dX11_readTurns_34 (by decide +kernel) ?_
  refine jw_isub (v := 3) hx hb dX11_readTurns_35 (by decide +kernel) ?_
  refine lv_icmp_eq (tgt := 41) hx hb dX11_readTurns_36 (by decide) (fun c9 => absurd c9 (by decide +kernel)) (fun _ => ?_)
  refine lv_iconst (v := 0) hx hb dX11_readTurns_39 (by decide +kernel) ?_
  refine W.widen (k := 0) (n := 0) (Nat.le_of_ble_eq_true rfl) (Nat.le_of_ble_eq_true rfl) ?_
  exact jw_zret hx hb hr hlocks rfl rfl rfl hP hD hS dX11_readTurns_40
set_option maxHeartbeats 4000000 in
set_option maxRecDepth 100000 in
theorem k617_X11_arrange {l : Launch} {D : va_G} {Y : Nat → ClassId} {tt : Nat → Nat} (h0 h1 h2 h3 h4 h5 h6 h7 h8 h9 h10 h11 h12 h13 h14 h15 h16 h17 h18 h19 h20 h21 h22 h23 h24 h25 : Nat) (p1 : Int32) (g_p1 : p1.toBitVec.toNat % 16 = 9) (sz : Nat) : Met l yX11_arrange wsX11_arrange ({ frames := 1, cells := 0, slots := 0, locals := 24 }) (jw_Pc D Y tt [.ref h0, .int p1] [(h0, .inr (14, [.ref h3, .int 0, .ref h1, .ref h4, .ref h5, .ref h6, .ref h2, .ref h7, .ref h8, .ref h9, .ref h10, .ref h11, .ref h12, .ref h13, .ref h14, .ref h15, .int (-3), .int (-3)])), (h1, .inr (6, [.int 2, .int 0, .int 0, .int 0, .int 0, .ref h16, .ref h17, .ref h18, .ref h19, .ref h20, .int 0])), (h2, .inr (11, [.ref h1, .ref h5, .ref h21, .ref h22, .ref h23, .ref h24, .int 0, .ref h25]))] sz) (jw_Qi D (fun r => r = 0) (fun w => w = []) (va_A [(h0, .inr (14, [.ref h3, .int 0, .ref h1, .ref h4, .ref h5, .ref h6, .ref h2, .ref h7, .ref h8, .ref h9, .ref h10, .ref h11, .ref h12, .ref h13, .ref h14, .ref h15, .int (-3), .int (-3)])), (h1, .inr (6, [.int 2, .int 0, .int 0, .int 0, .int 0, .ref h16, .ref h17, .ref h18, .ref h19, .ref h20, .int 0])), (h2, .inr (11, [.ref h1, .ref h5, .ref h21, .ref h22, .ref h23, .ref h24, .int 0, .ref h25]))] sz)) 0 0 (va_A [(h0, .inr (14, [.ref h3, .int 0, .ref h1, .ref h4, .ref h5, .ref h6, .ref h2, .ref h7, .ref h8, .ref h9, .ref h10, .ref h11, .ref h12, .ref h13, .ref h14, .ref h15, .int (-3), .int (-3)])), (h1, .inr (6, [.int 2, .int 0, .int 0, .int 0, .int 0, .ref h16, .ref h17, .ref h18, .ref h19, .ref h20, .int 0])), (h2, .inr (11, [.ref h1, .ref h5, .ref h21, .ref h22, .ref h23, .ref h24, .int 0, .ref h25]))] sz) := by
  refine jw_met (fun A => jw_Qi D (fun r => r = 0) (fun w => w = []) A) (cc := cX11_arrange) (maxL := 2) (ret := (some .boolean)) pn_X11_arrange rfl rfl ?_
  intro p e s m below meth c A H locs ls hx hb hml hr hts hown hlocks hin hP hD hA hS hE hl
  have hown : s.vm.findClass RX11 = some m.cls := hown
  have hl : lv_has ls 2 [(0, .ref h0), (1, .int p1)] := hl
  refine lv_iload_n hx hb dX11_arrange_0 rfl (lv_at hl 1 rfl) ?_
  refine lv_aload_n hx hb dX11_arrange_1 rfl (lv_at hl 0 rfl) ?_
  refine va_get (D := D) (ci := 14) (v := .ref h1) (C := RX11) (T := TX11) (N := 18) hx hb hts iw_X11_arrange__X11 hown hE.1 hP 0 rfl rfl 2 (by decide) (hts _ mw_X11_arrange__1) (fun _ h9 => h9) rfl dX11_arrange_2 ?_
  refine va_getN (D := D) (ci := 6) (v := .int 2) (C := RX3) (T := TX3) (N := 11) hx hb hts iw_X11_arrange__X3 hown hE.1 hP 1 rfl rfl 0 (by decide) (nf_X11_133 hE) (fun _ h9 => h9) rfl dX11_arrange_5 ?_
  refine lv_aload_n hx hb dX11_arrange_8 rfl (lv_at hl 0 rfl) ?_
  refine va_get (D := D) (ci := 14) (v := .ref h2) (C := RX11) (T := TX11) (N := 18) hx hb hts iw_X11_arrange__X11 hown hE.1 hP 0 rfl rfl 6 (by decide) (hts _ mw_X11_arrange__2) (fun _ h9 => h9) rfl dX11_arrange_9 ?_
  refine va_getN (D := D) (ci := 11) (v := .ref h22) (C := RX8) (T := TX8) (N := 8) hx hb hts iw_X11_arrange__X8 hown hE.1 hP 2 rfl rfl 3 (by decide) (nf_X11_221 hE) (fun _ h9 => h9) rfl dX11_arrange_12 ?_
  refine jw_mi (wc := []) (cs := 0) (ss := 0) (va_runS (As := [.int p1, .int 2, .ref h22]) (rest := []) ⟨hx, hb, hml, hown, hts⟩ (k616_X11_readTurns h22 p1 g_p1 H.size) (va_cwS 3 hts gX11_arrange_X11_readTurns rfl rfl rfl ydS_X11_readTurns ⟨Nat.le_of_ble_eq_true rfl, Nat.le_of_ble_eq_true rfl⟩) (jw_mpreS hP hD hS hA hE [] rfl) rfl rfl hl.1 rfl (lv_room (Nat.le_of_ble_eq_true rfl)) dX11_arrange_15 ⟨Nat.le_of_ble_eq_true rfl, Nat.le_of_ble_eq_true rfl⟩) hP hD hS hA [] rfl rfl rfl (fun r9 w1 H locs hr9 hw9 hP hD hS => ?_)
  subst hr9
  subst hw9
  have hP : va_P D vwCl [(h0, .inr (14, [.ref h3, .int 0, .ref h1, .ref h4, .ref h5, .ref h6, .ref h2, .ref h7, .ref h8, .ref h9, .ref h10, .ref h11, .ref h12, .ref h13, .ref h14, .ref h15, .int (-3), .int (-3)])), (h1, .inr (6, [.int 2, .int 0, .int 0, .int 0, .int 0, .ref h16, .ref h17, .ref h18, .ref h19, .ref h20, .int 0])), (h2, .inr (11, [.ref h1, .ref h5, .ref h21, .ref h22, .ref h23, .ref h24, .int 0, .ref h25]))] H := hP
  have hD : va_D A [(h0, .inr (14, [.ref h3, .int 0, .ref h1, .ref h4, .ref h5, .ref h6, .ref h2, .ref h7, .ref h8, .ref h9, .ref h10, .ref h11, .ref h12, .ref h13, .ref h14, .ref h15, .int (-3), .int (-3)])), (h1, .inr (6, [.int 2, .int 0, .int 0, .int 0, .int 0, .ref h16, .ref h17, .ref h18, .ref h19, .ref h20, .int 0])), (h2, .inr (11, [.ref h1, .ref h5, .ref h21, .ref h22, .ref h23, .ref h24, .int 0, .ref h25]))] := hD
  refine lv_if_ne (tgt := 23) hx hb dX11_arrange_18 (by decide) (fun c9 => absurd (by decide +kernel) c9) (fun _ => ?_)
  refine lv_iconst (v := 0) hx hb dX11_arrange_21 (by decide +kernel) ?_
  refine W.widen (k := 0) (n := 0) (Nat.le_of_ble_eq_true rfl) (Nat.le_of_ble_eq_true rfl) ?_
  have hP : va_P D vwCl [] H := hP.sub [] rfl
  have hD : va_D A [] := hD.sub [] rfl rfl
  exact jw_zret hx hb hr hlocks rfl rfl rfl hP hD hS dX11_arrange_22
set_option maxHeartbeats 4000000 in
set_option maxRecDepth 100000 in
theorem k618_X12_isOnce {l : Launch} {D : va_G} {Y : Nat → ClassId} {tt : Nat → Nat} (p0 : Int32) (g_p0 : p0.toBitVec.toNat % 16 = 9) (sz : Nat) : Met l yX12_isOnce wsX12_isOnce ({ frames := 0, cells := 0, slots := 0, locals := 0 }) (jw_Pc D Y tt [.int p0, .int 2] [] sz) (jw_Qi D (fun r => r = 0) (fun w => w = []) (va_A [] sz)) 0 0 (va_A [] sz) := by
  refine jw_met (fun A => jw_Qi D (fun r => r = 0) (fun w => w = []) A) (cc := cX12_isOnce) (maxL := 4) (ret := (some .boolean)) pn_X12_isOnce rfl rfl ?_
  intro p e s m below meth c A H locs ls hx hb hml hr hts hown hlocks hin hP hD hA hS hE hl
  have hown : s.vm.findClass RX12 = some m.cls := hown
  have hl : lv_has ls 4 [(0, .int p0), (1, .int 2)] := hl
  refine lv_iconst (v := 0) hx hb dX12_isOnce_0 (by decide +kernel) ?_
  refine lv_istore_n (lv' := [(2, .int 0), (0, .int p0), (1, .int 2)]) hx hb dX12_isOnce_1 rfl hl (by decide) rfl (fun ls hl => ?_)
  refine lv_iconst (v := 0) hx hb dX12_isOnce_2 (by decide +kernel) ?_
  refine lv_istore_n (lv' := [(3, .int 0), (2, .int 0), (0, .int p0), (1, .int 2)]) hx hb dX12_isOnce_3 rfl hl (by decide) rfl (fun ls hl => ?_)
  refine lv_iload_n hx hb dX12_isOnce_4 rfl (lv_at hl 0 rfl) ?_
  refine lv_iload_n hx hb dX12_isOnce_5 rfl (lv_at hl 3 rfl) ?_
  refine lv_icmp_ge (tgt := 27) hx hb dX12_isOnce_6 (by decide) (fun c9 => absurd c9 (by decide +kernel)) (fun _ => ?_)
  refine lv_iload_n hx hb dX12_isOnce_9 rfl (lv_at hl 1 rfl) ?_
  refine lv_iconst (v := 1) hx hb dX12_isOnce_10 (by decide +kernel) ?_
  refine lv_iload_n hx hb dX12_isOnce_11 rfl (lv_at hl 2 rfl) ?_
  refine lv_iconst (v := 2) hx hb dX12_isOnce_12 (by decide +kernel) ?_
  refine lv_iload_n hx hb dX12_isOnce_13 rfl (lv_at hl 0 rfl) ?_
  refine jw_imul (v := 0) hx hb dX12_isOnce_14 (by decide +kernel) ?_
  refine jw_ishr (v := (p0 >>> (0 &&& 31))) hx hb dX12_isOnce_15 rfl ?_
  refine lv_iconst (v := 3) hx hb dX12_isOnce_16 (by decide +kernel) ?_
  refine jw_iand (v := 1) hx hb dX12_isOnce_17 (jw_bs0 g_p0 (by decide +kernel)) ?_
  refine jw_ishl (v := 2) hx hb dX12_isOnce_18 (by decide +kernel) ?_
  refine jw_ior (v := 2) hx hb dX12_isOnce_19 (by decide +kernel) ?_
  refine lv_istore_n (lv' := [(2, .int 2), (3, .int 0), (0, .int p0), (1, .int 2)]) hx hb dX12_isOnce_20 rfl hl (by decide) rfl (fun ls hl => ?_)
  refine lv_iinc (v := 1) (lv' := [(3, .int 1), (2, .int 2), (0, .int p0), (1, .int 2)]) hx hb dX12_isOnce_21 hl (k := 1) rfl (by decide +kernel) (by decide) rfl (fun ls hl => ?_)
  refine lv_goto (tgt := 4) hx hb dX12_isOnce_24 (by decide) ?_
  refine lv_iload_n hx hb dX12_isOnce_4 rfl (lv_at hl 0 rfl) ?_
  refine lv_iload_n hx hb dX12_isOnce_5 rfl (lv_at hl 3 rfl) ?_
  refine lv_icmp_ge (tgt := 27) hx hb dX12_isOnce_6 (by decide) (fun c9 => absurd c9 (by decide +kernel)) (fun _ => ?_)
  refine lv_iload_n hx hb dX12_isOnce_9 rfl (lv_at hl 1 rfl) ?_
  refine lv_iconst (v := 1) hx hb dX12_isOnce_10 (by decide +kernel) ?_
  refine lv_iload_n hx hb dX12_isOnce_11 rfl (lv_at hl 2 rfl) ?_
  refine lv_iconst (v := 2) hx hb dX12_isOnce_12 (by decide +kernel) ?_
  refine lv_iload_n hx hb dX12_isOnce_13 rfl (lv_at hl 0 rfl) ?_
  refine jw_imul (v := 2) hx hb dX12_isOnce_14 (by decide +kernel) ?_
  refine jw_ishr (v := (p0 >>> (2 &&& 31))) hx hb dX12_isOnce_15 rfl ?_
  refine lv_iconst (v := 3) hx hb dX12_isOnce_16 (by decide +kernel) ?_
  refine jw_iand (v := 2) hx hb dX12_isOnce_17 (jw_bs1 g_p0 (by decide +kernel)) ?_
  refine jw_ishl (v := 4) hx hb dX12_isOnce_18 (by decide +kernel) ?_
  refine jw_ior (v := 6) hx hb dX12_isOnce_19 (by decide +kernel) ?_
  refine lv_istore_n (lv' := [(2, .int 6), (3, .int 1), (0, .int p0), (1, .int 2)]) hx hb dX12_isOnce_20 rfl hl (by decide) rfl (fun ls hl => ?_)
  refine lv_iinc (v := 2) (lv' := [(3, .int 2), (2, .int 6), (0, .int p0), (1, .int 2)]) hx hb dX12_isOnce_21 hl (k := 1) rfl (by decide +kernel) (by decide) rfl (fun ls hl => ?_)
  refine lv_goto (tgt := 4) hx hb dX12_isOnce_24 (by decide) ?_
  refine lv_iload_n hx hb dX12_isOnce_4 rfl (lv_at hl 0 rfl) ?_
  refine lv_iload_n hx hb dX12_isOnce_5 rfl (lv_at hl 3 rfl) ?_
  refine lv_icmp_ge (tgt := 27) hx hb dX12_isOnce_6 (by decide) (fun _ => ?_) (fun c9 => absurd (by decide +kernel) c9)
  refine lv_iload_n hx hb dX12_isOnce_27 rfl (lv_at hl 1 rfl) ?_
  refine lv_iconst (v := 1) hx hb dX12_isOnce_28 (by decide +kernel) ?_
  refine lv_iload_n hx hb dX12_isOnce_29 rfl (lv_at hl 3 rfl) ?_
  refine jw_ishl (v := 4) hx hb dX12_isOnce_30 (by decide +kernel) ?_
  refine lv_iconst (v := 1) hx hb dX12_isOnce_31 (by decide +kernel) ?_
  refine jw_isub (v := 3) hx hb dX12_isOnce_32 (by decide +kernel) ?_
  refine lv_icmp_ne (tgt := 40) hx hb dX12_isOnce_33 (by decide) (fun _ => ?_) (fun c9 => absurd c9 (by decide +kernel))
  refine lv_iconst (v := 0) hx hb dX12_isOnce_40 (by decide +kernel) ?_
  refine W.widen (k := 0) (n := 0) (Nat.le_of_ble_eq_true rfl) (Nat.le_of_ble_eq_true rfl) ?_
  exact jw_zret hx hb hr hlocks rfl rfl rfl hP hD hS dX12_isOnce_41
set_option maxHeartbeats 4000000 in
set_option maxRecDepth 100000 in
theorem k619_X12_arrange {l : Launch} {D : va_G} {Y : Nat → ClassId} {tt : Nat → Nat} (h0 h1 h2 h3 h4 h5 h6 h7 h8 h9 h10 h11 h12 h13 h14 h15 h16 h17 h18 h19 h20 h21 h22 h23 h24 h25 h26 h27 h28 h29 h30 h31 h32 h33 h34 h35 : Nat) (p1 : Int32) (g_p1 : p1.toBitVec.toNat % 16 = 9) (sz : Nat) : Met l yX12_arrange wsX12_arrange ({ frames := 1, cells := 0, slots := 0, locals := 23 }) (jw_Pc D Y tt [.ref h0, .int p1] [(h0, .inr (15, [.ref h1, .int 0, .int 0, .ref h2, .int 0, .int (-1), .int 0, .int 0, .int 0, .int 0, .int 0, .int 2, .int 0, .int 0, .int 0, .ref h3, .ref h4, .ref h5, .ref h6, .int 2, .int 0, .int 0, .int 0, .int 0, .ref h7, .ref h8, .ref h9, .ref h10, .int 2, .ref h11, .int 1, .ref h12, .ref h13, .int 1, .ref h14, .ref h15, .ref h16, .int 0, .ref h17, .ref h18, .ref h19, .ref h20, .ref h21, .ref h22, .ref h23, .ref h24, .ref h25, .int 0, .ref h26, .ref h27, .ref h28, .int (-1), .ref h29, .long 0, .long 0, .int 0, .int 0, .long 0, .long 0, .ref h30, .ref h31, .ref h32, .ref h33, .ref h34, .ref h35, .long 0]))] sz) (jw_Qi D (fun r => r = 0) (fun w => w = []) (va_A [(h0, .inr (15, [.ref h1, .int 0, .int 0, .ref h2, .int 0, .int (-1), .int 0, .int 0, .int 0, .int 0, .int 0, .int 2, .int 0, .int 0, .int 0, .ref h3, .ref h4, .ref h5, .ref h6, .int 2, .int 0, .int 0, .int 0, .int 0, .ref h7, .ref h8, .ref h9, .ref h10, .int 2, .ref h11, .int 1, .ref h12, .ref h13, .int 1, .ref h14, .ref h15, .ref h16, .int 0, .ref h17, .ref h18, .ref h19, .ref h20, .ref h21, .ref h22, .ref h23, .ref h24, .ref h25, .int 0, .ref h26, .ref h27, .ref h28, .int (-1), .ref h29, .long 0, .long 0, .int 0, .int 0, .long 0, .long 0, .ref h30, .ref h31, .ref h32, .ref h33, .ref h34, .ref h35, .long 0]))] sz)) 0 0 (va_A [(h0, .inr (15, [.ref h1, .int 0, .int 0, .ref h2, .int 0, .int (-1), .int 0, .int 0, .int 0, .int 0, .int 0, .int 2, .int 0, .int 0, .int 0, .ref h3, .ref h4, .ref h5, .ref h6, .int 2, .int 0, .int 0, .int 0, .int 0, .ref h7, .ref h8, .ref h9, .ref h10, .int 2, .ref h11, .int 1, .ref h12, .ref h13, .int 1, .ref h14, .ref h15, .ref h16, .int 0, .ref h17, .ref h18, .ref h19, .ref h20, .ref h21, .ref h22, .ref h23, .ref h24, .ref h25, .int 0, .ref h26, .ref h27, .ref h28, .int (-1), .ref h29, .long 0, .long 0, .int 0, .int 0, .long 0, .long 0, .ref h30, .ref h31, .ref h32, .ref h33, .ref h34, .ref h35, .long 0]))] sz) := by
  refine jw_met (fun A => jw_Qi D (fun r => r = 0) (fun w => w = []) A) (cc := cX12_arrange) (maxL := 3) (ret := (some .boolean)) pn_X12_arrange rfl rfl ?_
  intro p e s m below meth c A H locs ls hx hb hml hr hts hown hlocks hin hP hD hA hS hE hl
  have hown : s.vm.findClass RX12 = some m.cls := hown
  have hl : lv_has ls 3 [(0, .ref h0), (1, .int p1)] := hl
  refine lv_aload_n hx hb dX12_arrange_0 rfl (lv_at hl 0 rfl) ?_
  refine lv_iconst (v := 0) hx hb dX12_arrange_1 (by decide +kernel) ?_
  refine va_put (D := D) (ci := 15) (v := .int 0) (C := RX12) (T := TX12) (N := 66) hx hb hts iw_X12_arrange__X12 tyX12 tyX12_ok nmX12 hown hE.1 hP hD hS 0 rfl rfl 2 (by decide) (hts _ mw_X12_arrange__1) (fun _ h9 => h9) rfl (tyX12_ok 2 (by decide)) rfl rfl (Nat.le_of_ble_eq_true rfl) dX12_arrange_2 (fun H locs hP hD hS => ?_)
  have hP : va_P D vwCl [(h0, .inr (15, [.ref h1, .int 0, .int 0, .ref h2, .int 0, .int (-1), .int 0, .int 0, .int 0, .int 0, .int 0, .int 2, .int 0, .int 0, .int 0, .ref h3, .ref h4, .ref h5, .ref h6, .int 2, .int 0, .int 0, .int 0, .int 0, .ref h7, .ref h8, .ref h9, .ref h10, .int 2, .ref h11, .int 1, .ref h12, .ref h13, .int 1, .ref h14, .ref h15, .ref h16, .int 0, .ref h17, .ref h18, .ref h19, .ref h20, .ref h21, .ref h22, .ref h23, .ref h24, .ref h25, .int 0, .ref h26, .ref h27, .ref h28, .int (-1), .ref h29, .long 0, .long 0, .int 0, .int 0, .long 0, .long 0, .ref h30, .ref h31, .ref h32, .ref h33, .ref h34, .ref h35, .long 0]))] H := hP
  have hD : va_D A [(h0, .inr (15, [.ref h1, .int 0, .int 0, .ref h2, .int 0, .int (-1), .int 0, .int 0, .int 0, .int 0, .int 0, .int 2, .int 0, .int 0, .int 0, .ref h3, .ref h4, .ref h5, .ref h6, .int 2, .int 0, .int 0, .int 0, .int 0, .ref h7, .ref h8, .ref h9, .ref h10, .int 2, .ref h11, .int 1, .ref h12, .ref h13, .int 1, .ref h14, .ref h15, .ref h16, .int 0, .ref h17, .ref h18, .ref h19, .ref h20, .ref h21, .ref h22, .ref h23, .ref h24, .ref h25, .int 0, .ref h26, .ref h27, .ref h28, .int (-1), .ref h29, .long 0, .long 0, .int 0, .int 0, .long 0, .long 0, .ref h30, .ref h31, .ref h32, .ref h33, .ref h34, .ref h35, .long 0]))] := hD
  refine lv_iload_n hx hb dX12_arrange_5 rfl (lv_at hl 1 rfl) ?_
  refine lv_aload_n hx hb dX12_arrange_6 rfl (lv_at hl 0 rfl) ?_
  refine va_get (D := D) (ci := 15) (v := .int 2) (C := RX12) (T := TX12) (N := 66) hx hb hts iw_X12_arrange__X12 hown hE.1 hP 0 rfl rfl 11 (by decide) (hts _ mw_X12_arrange__2) (fun _ h9 => h9) rfl dX12_arrange_7 ?_
  refine jw_mi (wc := []) (cs := 0) (ss := 0) (va_runS (As := [.int p1, .int 2]) (rest := []) ⟨hx, hb, hml, hown, hts⟩ (k618_X12_isOnce p1 g_p1 H.size) (va_cwS 2 hts gX12_arrange_X12_isOnce rfl rfl rfl ydS_X12_isOnce ⟨Nat.le_of_ble_eq_true rfl, Nat.le_of_ble_eq_true rfl⟩) (jw_mpreS hP hD hS hA hE [] rfl) rfl rfl hl.1 rfl (lv_room (Nat.le_of_ble_eq_true rfl)) dX12_arrange_10 ⟨Nat.le_of_ble_eq_true rfl, Nat.le_of_ble_eq_true rfl⟩) hP hD hS hA [] rfl rfl rfl (fun r9 w1 H locs hr9 hw9 hP hD hS => ?_)
  subst hr9
  subst hw9
  have hP : va_P D vwCl [(h0, .inr (15, [.ref h1, .int 0, .int 0, .ref h2, .int 0, .int (-1), .int 0, .int 0, .int 0, .int 0, .int 0, .int 2, .int 0, .int 0, .int 0, .ref h3, .ref h4, .ref h5, .ref h6, .int 2, .int 0, .int 0, .int 0, .int 0, .ref h7, .ref h8, .ref h9, .ref h10, .int 2, .ref h11, .int 1, .ref h12, .ref h13, .int 1, .ref h14, .ref h15, .ref h16, .int 0, .ref h17, .ref h18, .ref h19, .ref h20, .ref h21, .ref h22, .ref h23, .ref h24, .ref h25, .int 0, .ref h26, .ref h27, .ref h28, .int (-1), .ref h29, .long 0, .long 0, .int 0, .int 0, .long 0, .long 0, .ref h30, .ref h31, .ref h32, .ref h33, .ref h34, .ref h35, .long 0]))] H := hP
  have hD : va_D A [(h0, .inr (15, [.ref h1, .int 0, .int 0, .ref h2, .int 0, .int (-1), .int 0, .int 0, .int 0, .int 0, .int 0, .int 2, .int 0, .int 0, .int 0, .ref h3, .ref h4, .ref h5, .ref h6, .int 2, .int 0, .int 0, .int 0, .int 0, .ref h7, .ref h8, .ref h9, .ref h10, .int 2, .ref h11, .int 1, .ref h12, .ref h13, .int 1, .ref h14, .ref h15, .ref h16, .int 0, .ref h17, .ref h18, .ref h19, .ref h20, .ref h21, .ref h22, .ref h23, .ref h24, .ref h25, .int 0, .ref h26, .ref h27, .ref h28, .int (-1), .ref h29, .long 0, .long 0, .int 0, .int 0, .long 0, .long 0, .ref h30, .ref h31, .ref h32, .ref h33, .ref h34, .ref h35, .long 0]))] := hD
  refine lv_if_ne (tgt := 18) hx hb dX12_arrange_13 (by decide) (fun c9 => absurd (by decide +kernel) c9) (fun _ => ?_)
  refine lv_iconst (v := 0) hx hb dX12_arrange_16 (by decide +kernel) ?_
  refine W.widen (k := 0) (n := 0) (Nat.le_of_ble_eq_true rfl) (Nat.le_of_ble_eq_true rfl) ?_
  have hP : va_P D vwCl [] H := hP.sub [] rfl
  have hD : va_D A [] := hD.sub [] rfl rfl
  exact jw_zret hx hb hr hlocks rfl rfl rfl hP hD hS dX12_arrange_17
set_option maxHeartbeats 4000000 in
set_option maxRecDepth 100000 in
theorem k620_X11_readTurns {l : Launch} {D : va_G} {Y : Nat → ClassId} {tt : Nat → Nat} (h0 : Nat) (p0 : Int32) (g_p0 : p0.toBitVec.toNat % 16 = 10) (sz : Nat) : Met l yX11_readTurns wsX11_readTurns ({ frames := 0, cells := 0, slots := 0, locals := 0 }) (jw_Pc D Y tt [.int p0, .int 2, .ref h0] [] sz) (jw_Qi D (fun r => r = 0) (fun w => w = []) (va_A [] sz)) 0 0 (va_A [] sz) := by
  refine jw_met (fun A => jw_Qi D (fun r => r = 0) (fun w => w = []) A) (cc := cX11_readTurns) (maxL := 5) (ret := (some .boolean)) pn_X11_readTurns rfl rfl ?_
  intro p e s m below meth c A H locs ls hx hb hml hr hts hown hlocks hin hP hD hA hS hE hl
  have hown : s.vm.findClass RX11 = some m.cls := hown
  have hl : lv_has ls 5 [(0, .int p0), (1, .int 2), (2, .ref h0)] := hl
  refine lv_iconst (v := 0) hx hb dX11_readTurns_0 (by decide +kernel) ?_
  refine lv_istore_n (lv' := [(3, .int 0), (0, .int p0), (1, .int 2), (2, .ref h0)]) hx hb dX11_readTurns_1 rfl hl (by decide) rfl (fun ls hl => ?_)
  refine lv_iconst (v := 0) hx hb dX11_readTurns_2 (by decide +kernel) ?_
  refine lv_istore (lv' := [(4, .int 0), (3, .int 0), (0, .int p0), (1, .int 2), (2, .ref h0)]) hx hb dX11_readTurns_3 hl (by decide) rfl (fun ls hl => ?_)
  refine lv_iload hx hb dX11_readTurns_5 (lv_at hl 0 rfl) ?_
  refine lv_iload_n hx hb dX11_readTurns_7 rfl (lv_at hl 3 rfl) ?_
  refine lv_icmp_ge (tgt := 30) hx hb dX11_readTurns_8 (by decide) (fun c9 => absurd c9 (by decide +kernel)) (fun _ => ?_)
  refine lv_iload_n hx hb dX11_readTurns_11 rfl (lv_at hl 1 rfl) ?_
  refine lv_iconst (v := 1) hx hb dX11_readTurns_12 (by decide +kernel) ?_
  refine lv_iload_n hx hb dX11_readTurns_13 rfl (lv_at hl 2 rfl) ?_
  refine lv_iconst (v := 2) hx hb dX11_readTurns_14 (by decide +kernel) ?_
  refine lv_iload hx hb dX11_readTurns_15 (lv_at hl 0 rfl) ?_
  refine jw_imul (v := 0) hx hb dX11_readTurns_17 (by decide +kernel) ?_
  refine lv_iushr (v := (p0.toUInt32 >>> ((0 : Int32).toUInt32 &&& Int32.toUInt32 31)).toInt32) hx hb dX11_readTurns_18 rfl ?_
  refine lv_iconst (v := 3) hx hb dX11_readTurns_19 (by decide +kernel) ?_
  refine jw_iand (v := 2) hx hb dX11_readTurns_20 (jw_bu0 g_p0 (by decide +kernel)) ?_
  refine jw_ishl (v := 4) hx hb dX11_readTurns_21 (by decide +kernel) ?_
  refine jw_ior (v := 4) hx hb dX11_readTurns_22 (by decide +kernel) ?_
  refine lv_istore_n (lv' := [(3, .int 4), (4, .int 0), (0, .int p0), (1, .int 2), (2, .ref h0)]) hx hb dX11_readTurns_23 rfl hl (by decide) rfl (fun ls hl => ?_)
  refine lv_iinc (v := 1) (lv' := [(4, .int 1), (3, .int 4), (0, .int p0), (1, .int 2), (2, .ref h0)]) hx hb dX11_readTurns_24 hl (k := 1) rfl (by decide +kernel) (by decide) rfl (fun ls hl => ?_)
  refine lv_goto (tgt := 5) hx hb dX11_readTurns_27 (by decide) ?_
  refine lv_iload hx hb dX11_readTurns_5 (lv_at hl 0 rfl) ?_
  refine lv_iload_n hx hb dX11_readTurns_7 rfl (lv_at hl 3 rfl) ?_
  refine lv_icmp_ge (tgt := 30) hx hb dX11_readTurns_8 (by decide) (fun c9 => absurd c9 (by decide +kernel)) (fun _ => ?_)
  refine lv_iload_n hx hb dX11_readTurns_11 rfl (lv_at hl 1 rfl) ?_
  refine lv_iconst (v := 1) hx hb dX11_readTurns_12 (by decide +kernel) ?_
  refine lv_iload_n hx hb dX11_readTurns_13 rfl (lv_at hl 2 rfl) ?_
  refine lv_iconst (v := 2) hx hb dX11_readTurns_14 (by decide +kernel) ?_
  refine lv_iload hx hb dX11_readTurns_15 (lv_at hl 0 rfl) ?_
  refine jw_imul (v := 2) hx hb dX11_readTurns_17 (by decide +kernel) ?_
  refine lv_iushr (v := (p0.toUInt32 >>> ((2 : Int32).toUInt32 &&& Int32.toUInt32 31)).toInt32) hx hb dX11_readTurns_18 rfl ?_
  refine lv_iconst (v := 3) hx hb dX11_readTurns_19 (by decide +kernel) ?_
  refine jw_iand (v := 2) hx hb dX11_readTurns_20 (jw_bu1 g_p0 (by decide +kernel)) ?_
  refine jw_ishl (v := 4) hx hb dX11_readTurns_21 (by decide +kernel) ?_
  refine jw_ior (v := 4) hx hb dX11_readTurns_22 (by decide +kernel) ?_
  refine lv_istore_n (lv' := [(3, .int 4), (4, .int 1), (0, .int p0), (1, .int 2), (2, .ref h0)]) hx hb dX11_readTurns_23 rfl hl (by decide) rfl (fun ls hl => ?_)
  refine lv_iinc (v := 2) (lv' := [(4, .int 2), (3, .int 4), (0, .int p0), (1, .int 2), (2, .ref h0)]) hx hb dX11_readTurns_24 hl (k := 1) rfl (by decide +kernel) (by decide) rfl (fun ls hl => ?_)
  refine lv_goto (tgt := 5) hx hb dX11_readTurns_27 (by decide) ?_
  refine lv_iload hx hb dX11_readTurns_5 (lv_at hl 0 rfl) ?_
  refine lv_iload_n hx hb dX11_readTurns_7 rfl (lv_at hl 3 rfl) ?_
  refine lv_icmp_ge (tgt := 30) hx hb dX11_readTurns_8 (by decide) (fun _ => ?_) (fun c9 => absurd (by decide +kernel) c9)
  refine lv_iload_n hx hb dX11_readTurns_30 rfl (lv_at hl 1 rfl) ?_
  refine lv_iconst (v := 1) hx hb dX11_readTurns_31 (by decide +kernel) ?_
  refine lv_iload_n hx hb dX11_readTurns_32 rfl (lv_at hl 3 rfl) ?_
  refine jw_ishl (v := 4) hx hb dX11_readTurns_33 (by decide +kernel) ?_
  refine lv_iconst (v := 1) hx hb dX11_readTurns_34 (by decide +kernel) ?_
  refine jw_isub (v := 3) hx hb dX11_readTurns_35 (by decide +kernel) ?_
  refine lv_icmp_eq (tgt := 41) hx hb dX11_readTurns_36 (by decide) (fun c9 => absurd c9 (by decide +kernel)) (fun _ => ?_)
  refine lv_iconst (v := 0) hx hb dX11_readTurns_39 (by decide +kernel) ?_
  refine W.widen (k := 0) (n := 0) (Nat.le_of_ble_eq_true rfl) (Nat.le_of_ble_eq_true rfl) ?_
  exact jw_zret hx hb hr hlocks rfl rfl rfl hP hD hS dX11_readTurns_40
set_option maxHeartbeats 4000000 in
set_option maxRecDepth 100000 in
theorem k621_X11_arrange {l : Launch} {D : va_G} {Y : Nat → ClassId} {tt : Nat → Nat} (h0 h1 h2 h3 h4 h5 h6 h7 h8 h9 h10 h11 h12 h13 h14 h15 h16 h17 h18 h19 h20 h21 h22 h23 h24 h25 : Nat) (p1 : Int32) (g_p1 : p1.toBitVec.toNat % 16 = 10) (sz : Nat) : Met l yX11_arrange wsX11_arrange ({ frames := 1, cells := 0, slots := 0, locals := 24 }) (jw_Pc D Y tt [.ref h0, .int p1] [(h0, .inr (14, [.ref h3, .int 0, .ref h1, .ref h4, .ref h5, .ref h6, .ref h2, .ref h7, .ref h8, .ref h9, .ref h10, .ref h11, .ref h12, .ref h13, .ref h14, .ref h15, .int (-3), .int (-3)])), (h1, .inr (6, [.int 2, .int 0, .int 0, .int 0, .int 0, .ref h16, .ref h17, .ref h18, .ref h19, .ref h20, .int 0])), (h2, .inr (11, [.ref h1, .ref h5, .ref h21, .ref h22, .ref h23, .ref h24, .int 0, .ref h25]))] sz) (jw_Qi D (fun r => r = 0) (fun w => w = []) (va_A [(h0, .inr (14, [.ref h3, .int 0, .ref h1, .ref h4, .ref h5, .ref h6, .ref h2, .ref h7, .ref h8, .ref h9, .ref h10, .ref h11, .ref h12, .ref h13, .ref h14, .ref h15, .int (-3), .int (-3)])), (h1, .inr (6, [.int 2, .int 0, .int 0, .int 0, .int 0, .ref h16, .ref h17, .ref h18, .ref h19, .ref h20, .int 0])), (h2, .inr (11, [.ref h1, .ref h5, .ref h21, .ref h22, .ref h23, .ref h24, .int 0, .ref h25]))] sz)) 0 0 (va_A [(h0, .inr (14, [.ref h3, .int 0, .ref h1, .ref h4, .ref h5, .ref h6, .ref h2, .ref h7, .ref h8, .ref h9, .ref h10, .ref h11, .ref h12, .ref h13, .ref h14, .ref h15, .int (-3), .int (-3)])), (h1, .inr (6, [.int 2, .int 0, .int 0, .int 0, .int 0, .ref h16, .ref h17, .ref h18, .ref h19, .ref h20, .int 0])), (h2, .inr (11, [.ref h1, .ref h5, .ref h21, .ref h22, .ref h23, .ref h24, .int 0, .ref h25]))] sz) := by
  refine jw_met (fun A => jw_Qi D (fun r => r = 0) (fun w => w = []) A) (cc := cX11_arrange) (maxL := 2) (ret := (some .boolean)) pn_X11_arrange rfl rfl ?_
  intro p e s m below meth c A H locs ls hx hb hml hr hts hown hlocks hin hP hD hA hS hE hl
  have hown : s.vm.findClass RX11 = some m.cls := hown
  have hl : lv_has ls 2 [(0, .ref h0), (1, .int p1)] := hl
  refine lv_iload_n hx hb dX11_arrange_0 rfl (lv_at hl 1 rfl) ?_
  refine lv_aload_n hx hb dX11_arrange_1 rfl (lv_at hl 0 rfl) ?_
  refine va_get (D := D) (ci := 14) (v := .ref h1) (C := RX11) (T := TX11) (N := 18) hx hb hts iw_X11_arrange__X11 hown hE.1 hP 0 rfl rfl 2 (by decide) (hts _ mw_X11_arrange__1) (fun _ h9 => h9) rfl dX11_arrange_2 ?_
  refine va_getN (D := D) (ci := 6) (v := .int 2) (C := RX3) (T := TX3) (N := 11) hx hb hts iw_X11_arrange__X3 hown hE.1 hP 1 rfl rfl 0 (by decide) (nf_X11_133 hE) (fun _ h9 => h9) rfl dX11_arrange_5 ?_
  refine lv_aload_n hx hb dX11_arrange_8 rfl (lv_at hl 0 rfl) ?_
  refine va_get (D := D) (ci := 14) (v := .ref h2) (C := RX11) (T := TX11) (N := 18) hx hb hts iw_X11_arrange__X11 hown hE.1 hP 0 rfl rfl 6 (by decide) (hts _ mw_X11_arrange__2) (fun _ h9 => h9) rfl dX11_arrange_9 ?_
  refine va_getN (D := D) (ci := 11) (v := .ref h22) (C := RX8) (T := TX8) (N := 8) hx hb hts iw_X11_arrange__X8 hown hE.1 hP 2 rfl rfl 3 (by decide) (nf_X11_221 hE) (fun _ h9 => h9) rfl dX11_arrange_12 ?_
  refine jw_mi (wc := []) (cs := 0) (ss := 0) (va_runS (As := [.int p1, .int 2, .ref h22]) (rest := []) ⟨hx, hb, hml, hown, hts⟩ (k620_X11_readTurns h22 p1 g_p1 H.size) (va_cwS 3 hts gX11_arrange_X11_readTurns rfl rfl rfl ydS_X11_readTurns ⟨Nat.le_of_ble_eq_true rfl, Nat.le_of_ble_eq_true rfl⟩) (jw_mpreS hP hD hS hA hE [] rfl) rfl rfl hl.1 rfl (lv_room (Nat.le_of_ble_eq_true rfl)) dX11_arrange_15 ⟨Nat.le_of_ble_eq_true rfl, Nat.le_of_ble_eq_true rfl⟩) hP hD hS hA [] rfl rfl rfl (fun r9 w1 H locs hr9 hw9 hP hD hS => ?_)
  subst hr9
  subst hw9
  have hP : va_P D vwCl [(h0, .inr (14, [.ref h3, .int 0, .ref h1, .ref h4, .ref h5, .ref h6, .ref h2, .ref h7, .ref h8, .ref h9, .ref h10, .ref h11, .ref h12, .ref h13, .ref h14, .ref h15, .int (-3), .int (-3)])), (h1, .inr (6, [.int 2, .int 0, .int 0, .int 0, .int 0, .ref h16, .ref h17, .ref h18, .ref h19, .ref h20, .int 0])), (h2, .inr (11, [.ref h1, .ref h5, .ref h21, .ref h22, .ref h23, .ref h24, .int 0, .ref h25]))] H := hP
  have hD : va_D A [(h0, .inr (14, [.ref h3, .int 0, .ref h1, .ref h4, .ref h5, .ref h6, .ref h2, .ref h7, .ref h8, .ref h9, .ref h10, .ref h11, .ref h12, .ref h13, .ref h14, .ref h15, .int (-3), .int (-3)])), (h1, .inr (6, [.int 2, .int 0, .int 0, .int 0, .int 0, .ref h16, .ref h17, .ref h18, .ref h19, .ref h20, .int 0])), (h2, .inr (11, [.ref h1, .ref h5, .ref h21, .ref h22, .ref h23, .ref h24, .int 0, .ref h25]))] := hD
  refine lv_if_ne (tgt := 23) hx hb dX11_arrange_18 (by decide) (fun c9 => absurd (by decide +kernel) c9) (fun _ => ?_)
  refine lv_iconst (v := 0) hx hb dX11_arrange_21 (by decide +kernel) ?_
  refine W.widen (k := 0) (n := 0) (Nat.le_of_ble_eq_true rfl) (Nat.le_of_ble_eq_true rfl) ?_
  have hP : va_P D vwCl [] H := hP.sub [] rfl
  have hD : va_D A [] := hD.sub [] rfl rfl
  exact jw_zret hx hb hr hlocks rfl rfl rfl hP hD hS dX11_arrange_22
set_option maxHeartbeats 4000000 in
set_option maxRecDepth 100000 in
theorem k622_X12_isOnce {l : Launch} {D : va_G} {Y : Nat → ClassId} {tt : Nat → Nat} (p0 : Int32) (g_p0 : p0.toBitVec.toNat % 16 = 10) (sz : Nat) : Met l yX12_isOnce wsX12_isOnce ({ frames := 0, cells := 0, slots := 0, locals := 0 }) (jw_Pc D Y tt [.int p0, .int 2] [] sz) (jw_Qi D (fun r => r = 0) (fun w => w = []) (va_A [] sz)) 0 0 (va_A [] sz) := by
  refine jw_met (fun A => jw_Qi D (fun r => r = 0) (fun w => w = []) A) (cc := cX12_isOnce) (maxL := 4) (ret := (some .boolean)) pn_X12_isOnce rfl rfl ?_
  intro p e s m below meth c A H locs ls hx hb hml hr hts hown hlocks hin hP hD hA hS hE hl
  have hown : s.vm.findClass RX12 = some m.cls := hown
  have hl : lv_has ls 4 [(0, .int p0), (1, .int 2)] := hl
  refine lv_iconst (v := 0) hx hb dX12_isOnce_0 (by decide +kernel) ?_
  refine lv_istore_n (lv' := [(2, .int 0), (0, .int p0), (1, .int 2)]) hx hb dX12_isOnce_1 rfl hl (by decide) rfl (fun ls hl => ?_)
  refine lv_iconst (v := 0) hx hb dX12_isOnce_2 (by decide +kernel) ?_
  refine lv_istore_n (lv' := [(3, .int 0), (2, .int 0), (0, .int p0), (1, .int 2)]) hx hb dX12_isOnce_3 rfl hl (by decide) rfl (fun ls hl => ?_)
  refine lv_iload_n hx hb dX12_isOnce_4 rfl (lv_at hl 0 rfl) ?_
  refine lv_iload_n hx hb dX12_isOnce_5 rfl (lv_at hl 3 rfl) ?_
  refine lv_icmp_ge (tgt := 27) hx hb dX12_isOnce_6 (by decide) (fun c9 => absurd c9 (by decide +kernel)) (fun _ => ?_)
  refine lv_iload_n hx hb dX12_isOnce_9 rfl (lv_at hl 1 rfl) ?_
  refine lv_iconst (v := 1) hx hb dX12_isOnce_10 (by decide +kernel) ?_
  refine lv_iload_n hx hb dX12_isOnce_11 rfl (lv_at hl 2 rfl) ?_
  refine lv_iconst (v := 2) hx hb dX12_isOnce_12 (by decide +kernel) ?_
  refine lv_iload_n hx hb dX12_isOnce_13 rfl (lv_at hl 0 rfl) ?_
  refine jw_imul (v := 0) hx hb dX12_isOnce_14 (by decide +kernel) ?_
  refine jw_ishr (v := (p0 >>> (0 &&& 31))) hx hb dX12_isOnce_15 rfl ?_
  refine lv_iconst (v := 3) hx hb dX12_isOnce_16 (by decide +kernel) ?_
  refine jw_iand (v := 2) hx hb dX12_isOnce_17 (jw_bs0 g_p0 (by decide +kernel)) ?_
  refine jw_ishl (v := 4) hx hb dX12_isOnce_18 (by decide +kernel) ?_
  refine jw_ior (v := 4) hx hb dX12_isOnce_19 (by decide +kernel) ?_
  refine lv_istore_n (lv' := [(2, .int 4), (3, .int 0), (0, .int p0), (1, .int 2)]) hx hb dX12_isOnce_20 rfl hl (by decide) rfl (fun ls hl => ?_)
  refine lv_iinc (v := 1) (lv' := [(3, .int 1), (2, .int 4), (0, .int p0), (1, .int 2)]) hx hb dX12_isOnce_21 hl (k := 1) rfl (by decide +kernel) (by decide) rfl (fun ls hl => ?_)
  refine lv_goto (tgt := 4) hx hb dX12_isOnce_24 (by decide) ?_
  refine lv_iload_n hx hb dX12_isOnce_4 rfl (lv_at hl 0 rfl) ?_
  refine lv_iload_n hx hb dX12_isOnce_5 rfl (lv_at hl 3 rfl) ?_
  refine lv_icmp_ge (tgt := 27) hx hb dX12_isOnce_6 (by decide) (fun c9 => absurd c9 (by decide +kernel)) (fun _ => ?_)
  refine lv_iload_n hx hb dX12_isOnce_9 rfl (lv_at hl 1 rfl) ?_
  refine lv_iconst (v := 1) hx hb dX12_isOnce_10 (by decide +kernel) ?_
  refine lv_iload_n hx hb dX12_isOnce_11 rfl (lv_at hl 2 rfl) ?_
  refine lv_iconst (v := 2) hx hb dX12_isOnce_12 (by decide +kernel) ?_
  refine lv_iload_n hx hb dX12_isOnce_13 rfl (lv_at hl 0 rfl) ?_
  refine jw_imul (v := 2) hx hb dX12_isOnce_14 (by decide +kernel) ?_
  refine jw_ishr (v := (p0 >>> (2 &&& 31))) hx hb dX12_isOnce_15 rfl ?_
  refine lv_iconst (v := 3) hx hb dX12_isOnce_16 (by decide +kernel) ?_
  refine jw_iand (v := 2) hx hb dX12_isOnce_17 (jw_bs1 g_p0 (by decide +kernel)) ?_
  refine jw_ishl (v := 4) hx hb dX12_isOnce_18 (by decide +kernel) ?_
  refine jw_ior (v := 4) hx hb dX12_isOnce_19 (by decide +kernel) ?_
  refine lv_istore_n (lv' := [(2, .int 4), (3, .int 1), (0, .int p0), (1, .int 2)]) hx hb dX12_isOnce_20 rfl hl (by decide) rfl (fun ls hl => ?_)
  refine lv_iinc (v := 2) (lv' := [(3, .int 2), (2, .int 4), (0, .int p0), (1, .int 2)]) hx hb dX12_isOnce_21 hl (k := 1) rfl (by decide +kernel) (by decide) rfl (fun ls hl => ?_)
  refine lv_goto (tgt := 4) hx hb dX12_isOnce_24 (by decide) ?_
  refine lv_iload_n hx hb dX12_isOnce_4 rfl (lv_at hl 0 rfl) ?_
  refine lv_iload_n hx hb dX12_isOnce_5 rfl (lv_at hl 3 rfl) ?_
  refine lv_icmp_ge (tgt := 27) hx hb dX12_isOnce_6 (by decide) (fun _ => ?_) (fun c9 => absurd (by decide +kernel) c9)
  refine lv_iload_n hx hb dX12_isOnce_27 rfl (lv_at hl 1 rfl) ?_
  refine lv_iconst (v := 1) hx hb dX12_isOnce_28 (by decide +kernel) ?_
  refine lv_iload_n hx hb dX12_isOnce_29 rfl (lv_at hl 3 rfl) ?_
  refine jw_ishl (v := 4) hx hb dX12_isOnce_30 (by decide +kernel) ?_
  refine lv_iconst (v := 1) hx hb dX12_isOnce_31 (by decide +kernel) ?_
  refine jw_isub (v := 3) hx hb dX12_isOnce_32 (by decide +kernel) ?_
  refine lv_icmp_ne (tgt := 40) hx hb dX12_isOnce_33 (by decide) (fun _ => ?_) (fun c9 => absurd c9 (by decide +kernel))
  refine lv_iconst (v := 0) hx hb dX12_isOnce_40 (by decide +kernel) ?_
  refine W.widen (k := 0) (n := 0) (Nat.le_of_ble_eq_true rfl) (Nat.le_of_ble_eq_true rfl) ?_
  exact jw_zret hx hb hr hlocks rfl rfl rfl hP hD hS dX12_isOnce_41
set_option maxHeartbeats 4000000 in
set_option maxRecDepth 100000 in
theorem k623_X12_arrange {l : Launch} {D : va_G} {Y : Nat → ClassId} {tt : Nat → Nat} (h0 h1 h2 h3 h4 h5 h6 h7 h8 h9 h10 h11 h12 h13 h14 h15 h16 h17 h18 h19 h20 h21 h22 h23 h24 h25 h26 h27 h28 h29 h30 h31 h32 h33 h34 h35 : Nat) (p1 : Int32) (g_p1 : p1.toBitVec.toNat % 16 = 10) (sz : Nat) : Met l yX12_arrange wsX12_arrange ({ frames := 1, cells := 0, slots := 0, locals := 23 }) (jw_Pc D Y tt [.ref h0, .int p1] [(h0, .inr (15, [.ref h1, .int 0, .int 0, .ref h2, .int 0, .int (-1), .int 0, .int 0, .int 0, .int 0, .int 0, .int 2, .int 0, .int 0, .int 0, .ref h3, .ref h4, .ref h5, .ref h6, .int 2, .int 0, .int 0, .int 0, .int 0, .ref h7, .ref h8, .ref h9, .ref h10, .int 2, .ref h11, .int 1, .ref h12, .ref h13, .int 1, .ref h14, .ref h15, .ref h16, .int 0, .ref h17, .ref h18, .ref h19, .ref h20, .ref h21, .ref h22, .ref h23, .ref h24, .ref h25, .int 0, .ref h26, .ref h27, .ref h28, .int (-1), .ref h29, .long 0, .long 0, .int 0, .int 0, .long 0, .long 0, .ref h30, .ref h31, .ref h32, .ref h33, .ref h34, .ref h35, .long 0]))] sz) (jw_Qi D (fun r => r = 0) (fun w => w = []) (va_A [(h0, .inr (15, [.ref h1, .int 0, .int 0, .ref h2, .int 0, .int (-1), .int 0, .int 0, .int 0, .int 0, .int 0, .int 2, .int 0, .int 0, .int 0, .ref h3, .ref h4, .ref h5, .ref h6, .int 2, .int 0, .int 0, .int 0, .int 0, .ref h7, .ref h8, .ref h9, .ref h10, .int 2, .ref h11, .int 1, .ref h12, .ref h13, .int 1, .ref h14, .ref h15, .ref h16, .int 0, .ref h17, .ref h18, .ref h19, .ref h20, .ref h21, .ref h22, .ref h23, .ref h24, .ref h25, .int 0, .ref h26, .ref h27, .ref h28, .int (-1), .ref h29, .long 0, .long 0, .int 0, .int 0, .long 0, .long 0, .ref h30, .ref h31, .ref h32, .ref h33, .ref h34, .ref h35, .long 0]))] sz)) 0 0 (va_A [(h0, .inr (15, [.ref h1, .int 0, .int 0, .ref h2, .int 0, .int (-1), .int 0, .int 0, .int 0, .int 0, .int 0, .int 2, .int 0, .int 0, .int 0, .ref h3, .ref h4, .ref h5, .ref h6, .int 2, .int 0, .int 0, .int 0, .int 0, .ref h7, .ref h8, .ref h9, .ref h10, .int 2, .ref h11, .int 1, .ref h12, .ref h13, .int 1, .ref h14, .ref h15, .ref h16, .int 0, .ref h17, .ref h18, .ref h19, .ref h20, .ref h21, .ref h22, .ref h23, .ref h24, .ref h25, .int 0, .ref h26, .ref h27, .ref h28, .int (-1), .ref h29, .long 0, .long 0, .int 0, .int 0, .long 0, .long 0, .ref h30, .ref h31, .ref h32, .ref h33, .ref h34, .ref h35, .long 0]))] sz) := by
  refine jw_met (fun A => jw_Qi D (fun r => r = 0) (fun w => w = []) A) (cc := cX12_arrange) (maxL := 3) (ret := (some .boolean)) pn_X12_arrange rfl rfl ?_
  intro p e s m below meth c A H locs ls hx hb hml hr hts hown hlocks hin hP hD hA hS hE hl
  have hown : s.vm.findClass RX12 = some m.cls := hown
  have hl : lv_has ls 3 [(0, .ref h0), (1, .int p1)] := hl
  refine lv_aload_n hx hb dX12_arrange_0 rfl (lv_at hl 0 rfl) ?_
  refine lv_iconst (v := 0) hx hb dX12_arrange_1 (by decide +kernel) ?_
  refine va_put (D := D) (ci := 15) (v := .int 0) (C := RX12) (T := TX12) (N := 66) hx hb hts iw_X12_arrange__X12 tyX12 tyX12_ok nmX12 hown hE.1 hP hD hS 0 rfl rfl 2 (by decide) (hts _ mw_X12_arrange__1) (fun _ h9 => h9) rfl (tyX12_ok 2 (by decide)) rfl rfl (Nat.le_of_ble_eq_true rfl) dX12_arrange_2 (fun H locs hP hD hS => ?_)
  have hP : va_P D vwCl [(h0, .inr (15, [.ref h1, .int 0, .int 0, .ref h2, .int 0, .int (-1), .int 0, .int 0, .int 0, .int 0, .int 0, .int 2, .int 0, .int 0, .int 0, .ref h3, .ref h4, .ref h5, .ref h6, .int 2, .int 0, .int 0, .int 0, .int 0, .ref h7, .ref h8, .ref h9, .ref h10, .int 2, .ref h11, .int 1, .ref h12, .ref h13, .int 1, .ref h14, .ref h15, .ref h16, .int 0, .ref h17, .ref h18, .ref h19, .ref h20, .ref h21, .ref h22, .ref h23, .ref h24, .ref h25, .int 0, .ref h26, .ref h27, .ref h28, .int (-1), .ref h29, .long 0, .long 0, .int 0, .int 0, .long 0, .long 0, .ref h30, .ref h31, .ref h32, .ref h33, .ref h34, .ref h35, .long 0]))] H := hP
  have hD : va_D A [(h0, .inr (15, [.ref h1, .int 0, .int 0, .ref h2, .int 0, .int (-1), .int 0, .int 0, .int 0, .int 0, .int 0, .int 2, .int 0, .int 0, .int 0, .ref h3, .ref h4, .ref h5, .ref h6, .int 2, .int 0, .int 0, .int 0, .int 0, .ref h7, .ref h8, .ref h9, .ref h10, .int 2, .ref h11, .int 1, .ref h12, .ref h13, .int 1, .ref h14, .ref h15, .ref h16, .int 0, .ref h17, .ref h18, .ref h19, .ref h20, .ref h21, .ref h22, .ref h23, .ref h24, .ref h25, .int 0, .ref h26, .ref h27, .ref h28, .int (-1), .ref h29, .long 0, .long 0, .int 0, .int 0, .long 0, .long 0, .ref h30, .ref h31, .ref h32, .ref h33, .ref h34, .ref h35, .long 0]))] := hD
  refine lv_iload_n hx hb dX12_arrange_5 rfl (lv_at hl 1 rfl) ?_
  refine lv_aload_n hx hb dX12_arrange_6 rfl (lv_at hl 0 rfl) ?_
  refine va_get (D := D) (ci := 15) (v := .int 2) (C := RX12) (T := TX12) (N := 66) hx hb hts iw_X12_arrange__X12 hown hE.1 hP 0 rfl rfl 11 (by decide) (hts _ mw_X12_arrange__2) (fun _ h9 => h9) rfl dX12_arrange_7 ?_
  refine jw_mi (wc := []) (cs := 0) (ss := 0) (va_runS (As := [.int p1, .int 2]) (rest := []) ⟨hx, hb, hml, hown, hts⟩ (k622_X12_isOnce p1 g_p1 H.size) (va_cwS 2 hts gX12_arrange_X12_isOnce rfl rfl rfl ydS_X12_isOnce ⟨Nat.le_of_ble_eq_true rfl, Nat.le_of_ble_eq_true rfl⟩) (jw_mpreS hP hD hS hA hE [] rfl) rfl rfl hl.1 rfl (lv_room (Nat.le_of_ble_eq_true rfl)) dX12_arrange_10 ⟨Nat.le_of_ble_eq_true rfl, Nat.le_of_ble_eq_true rfl⟩) hP hD hS hA [] rfl rfl rfl (fun r9 w1 H locs hr9 hw9 hP hD hS => ?_)
  subst hr9
  subst hw9
  have hP : va_P D vwCl [(h0, .inr (15, [.ref h1, .int 0, .int 0, .ref h2, .int 0, .int (-1), .int 0, .int 0, .int 0, .int 0, .int 0, .int 2, .int 0, .int 0, .int 0, .ref h3, .ref h4, .ref h5, .ref h6, .int 2, .int 0, .int 0, .int 0, .int 0, .ref h7, .ref h8, .ref h9, .ref h10, .int 2, .ref h11, .int 1, .ref h12, .ref h13, .int 1, .ref h14, .ref h15, .ref h16, .int 0, .ref h17, .ref h18, .ref h19, .ref h20, .ref h21, .ref h22, .ref h23, .ref h24, .ref h25, .int 0, .ref h26, .ref h27, .ref h28, .int (-1), .ref h29, .long 0, .long 0, .int 0, .int 0, .long 0, .long 0, .ref h30, .ref h31, .ref h32, .ref h33, .ref h34, .ref h35, .long 0]))] H := hP
  have hD : va_D A [(h0, .inr (15, [.ref h1, .int 0, .int 0, .ref h2, .int 0, .int (-1), .int 0, .int 0, .int 0, .int 0, .int 0, .int 2, .int 0, .int 0, .int 0, .ref h3, .ref h4, .ref h5, .ref h6, .int 2, .int 0, .int 0, .int 0, .int 0, .ref h7, .ref h8, .ref h9, .ref h10, .int 2, .ref h11, .int 1, .ref h12, .ref h13, .int 1, .ref h14, .ref h15, .ref h16, .int 0, .ref h17, .ref h18, .ref h19, .ref h20, .ref h21, .ref h22, .ref h23, .ref h24, .ref h25, .int 0, .ref h26, .ref h27, .ref h28, .int (-1), .ref h29, .long 0, .long 0, .int 0, .int 0, .long 0, .long 0, .ref h30, .ref h31, .ref h32, .ref h33, .ref h34, .ref h35, .long 0]))] := hD
  refine lv_if_ne (tgt := 18) hx hb dX12_arrange_13 (by decide) (fun c9 => absurd (by decide +kernel) c9) (fun _ => ?_)
  refine lv_iconst (v := 0) hx hb dX12_arrange_16 (by decide +kernel) ?_
  refine W.widen (k := 0) (n := 0) (Nat.le_of_ble_eq_true rfl) (Nat.le_of_ble_eq_true rfl) ?_
  have hP : va_P D vwCl [] H := hP.sub [] rfl
  have hD : va_D A [] := hD.sub [] rfl rfl
  exact jw_zret hx hb hr hlocks rfl rfl rfl hP hD hS dX12_arrange_17
set_option maxHeartbeats 4000000 in
set_option maxRecDepth 100000 in
theorem k624_X11_readTurns {l : Launch} {D : va_G} {Y : Nat → ClassId} {tt : Nat → Nat} (h0 : Nat) (p0 : Int32) (g_p0 : p0.toBitVec.toNat % 16 = 11) (sz : Nat) : Met l yX11_readTurns wsX11_readTurns ({ frames := 0, cells := 0, slots := 0, locals := 0 }) (jw_Pc D Y tt [.int p0, .int 2, .ref h0] [] sz) (jw_Qi D (fun r => r = 0) (fun w => w = []) (va_A [] sz)) 0 0 (va_A [] sz) := by
  refine jw_met (fun A => jw_Qi D (fun r => r = 0) (fun w => w = []) A) (cc := cX11_readTurns) (maxL := 5) (ret := (some .boolean)) pn_X11_readTurns rfl rfl ?_
  intro p e s m below meth c A H locs ls hx hb hml hr hts hown hlocks hin hP hD hA hS hE hl
  have hown : s.vm.findClass RX11 = some m.cls := hown
  have hl : lv_has ls 5 [(0, .int p0), (1, .int 2), (2, .ref h0)] := hl
  refine lv_iconst (v := 0) hx hb dX11_readTurns_0 (by decide +kernel) ?_
  refine lv_istore_n (lv' := [(3, .int 0), (0, .int p0), (1, .int 2), (2, .ref h0)]) hx hb dX11_readTurns_1 rfl hl (by decide) rfl (fun ls hl => ?_)
  refine lv_iconst (v := 0) hx hb dX11_readTurns_2 (by decide +kernel) ?_
  refine lv_istore (lv' := [(4, .int 0), (3, .int 0), (0, .int p0), (1, .int 2), (2, .ref h0)]) hx hb dX11_readTurns_3 hl (by decide) rfl (fun ls hl => ?_)
  refine lv_iload hx hb dX11_readTurns_5 (lv_at hl 0 rfl) ?_
  refine lv_iload_n hx hb dX11_readTurns_7 rfl (lv_at hl 3 rfl) ?_
  refine lv_icmp_ge (tgt := 30) hx hb dX11_readTurns_8 (by decide) (fun c9 => absurd c9 (by decide +kernel)) (fun _ => ?_)
  refine lv_iload_n hx hb dX11_readTurns_11 rfl (lv_at hl 1 rfl) ?_
  refine lv_iconst (v := 1) hx hb dX11_readTurns_12 (by decide +kernel) ?_
  refine lv_iload_n hx hb dX11_readTurns_13 rfl (lv_at hl 2 rfl) ?_
  refine lv_iconst (v := 2) hx hb dX11_readTurns_14 (by decide +kernel) ?_
  refine lv_iload hx hb dX11_readTurns_15 (lv_at hl 0 rfl) ?_
  refine jw_imul (v := 0) hx hb dX11_readTurns_17 (by decide +kernel) ?_
  refine lv_iushr (v := (p0.toUInt32 >>> ((0 : Int32).toUInt32 &&& Int32.toUInt32 31)).toInt32) hx hb dX11_readTurns_18 rfl ?_
  refine lv_iconst (v := 3) hx hb dX11_readTurns_19 (by decide +kernel) ?_
  refine jw_iand (v := 3) hx hb dX11_readTurns_20 (jw_bu0 g_p0 (by decide +kernel)) ?_
  refine jw_ishl (v := 8) hx hb dX11_readTurns_21 (by decide +kernel) ?_
  refine jw_ior (v := 8) hx hb dX11_readTurns_22 (by decide +kernel) ?_
  refine lv_istore_n (lv' := [(3, .int 8), (4, .int 0), (0, .int p0), (1, .int 2), (2, .ref h0)]) hx hb dX11_readTurns_23 rfl hl (by decide) rfl (fun ls hl => ?_)
  refine lv_iinc (v := 1) (lv' := [(4, .int 1), (3, .int 8), (0, .int p0), (1, .int 2), (2, .ref h0)]) hx hb dX11_readTurns_24 hl (k := 1) rfl (by decide +kernel) (by decide) rfl (fun ls hl => ?_)
  refine lv_goto (tgt := 5) hx hb dX11_readTurns_27 (by decide) ?_
  refine lv_iload hx hb dX11_readTurns_5 (lv_at hl 0 rfl) ?_
  refine lv_iload_n hx hb dX11_readTurns_7 rfl (lv_at hl 3 rfl) ?_
  refine lv_icmp_ge (tgt := 30) hx hb dX11_readTurns_8 (by decide) (fun c9 => absurd c9 (by decide +kernel)) (fun _ => ?_)
  refine lv_iload_n hx hb dX11_readTurns_11 rfl (lv_at hl 1 rfl) ?_
  refine lv_iconst (v := 1) hx hb dX11_readTurns_12 (by decide +kernel) ?_
  refine lv_iload_n hx hb dX11_readTurns_13 rfl (lv_at hl 2 rfl) ?_
  refine lv_iconst (v := 2) hx hb dX11_readTurns_14 (by decide +kernel) ?_
  refine lv_iload hx hb dX11_readTurns_15 (lv_at hl 0 rfl) ?_
  refine jw_imul (v := 2) hx hb dX11_readTurns_17 (by decide +kernel) ?_
  refine lv_iushr (v := (p0.toUInt32 >>> ((2 : Int32).toUInt32 &&& Int32.toUInt32 31)).toInt32) hx hb dX11_readTurns_18 rfl ?_
  refine lv_iconst (v := 3) hx hb dX11_readTurns_19 (by decide +kernel) ?_
  refine jw_iand (v := 2) hx hb dX11_readTurns_20 (jw_bu1 g_p0 (by decide +kernel)) ?_
  refine jw_ishl (v := 4) hx hb dX11_readTurns_21 (by decide +kernel) ?_
  refine jw_ior (v := 12) hx hb dX11_readTurns_22 (by decide +kernel) ?_
  refine lv_istore_n (lv' := [(3, .int 12), (4, .int 1), (0, .int p0), (1, .int 2), (2, .ref h0)]) hx hb dX11_readTurns_23 rfl hl (by decide) rfl (fun ls hl => ?_)
  refine lv_iinc (v := 2) (lv' := [(4, .int 2), (3, .int 12), (0, .int p0), (1, .int 2), (2, .ref h0)]) hx hb dX11_readTurns_24 hl (k := 1) rfl (by decide +kernel) (by decide) rfl (fun ls hl => ?_)
  refine lv_goto (tgt := 5) hx hb dX11_readTurns_27 (by decide) ?_
  refine lv_iload hx hb dX11_readTurns_5 (lv_at hl 0 rfl) ?_
  refine lv_iload_n hx hb dX11_readTurns_7 rfl (lv_at hl 3 rfl) ?_
  refine lv_icmp_ge (tgt := 30) hx hb dX11_readTurns_8 (by decide) (fun _ => ?_) (fun c9 => absurd (by decide +kernel) c9)
  refine lv_iload_n hx hb dX11_readTurns_30 rfl (lv_at hl 1 rfl) ?_
  refine lv_iconst (v := 1) hx hb dX11_readTurns_31 (by decide +kernel) ?_
  refine lv_iload_n hx hb dX11_readTurns_32 rfl (lv_at hl 3 rfl) ?_
  refine jw_ishl (v := 4) hx hb dX11_readTurns_33 (by decide +kernel) ?_
  refine lv_iconst (v := 1) hx hb dX11_readTurns_34 (by decide +kernel) ?_
  refine jw_isub (v := 3) hx hb dX11_readTurns_35 (by decide +kernel) ?_
  refine lv_icmp_eq (tgt := 41) hx hb dX11_readTurns_36 (by decide) (fun c9 => absurd c9 (by decide +kernel)) (fun _ => ?_)
  refine lv_iconst (v := 0) hx hb dX11_readTurns_39 (by decide +kernel) ?_
  refine W.widen (k := 0) (n := 0) (Nat.le_of_ble_eq_true rfl) (Nat.le_of_ble_eq_true rfl) ?_
  exact jw_zret hx hb hr hlocks rfl rfl rfl hP hD hS dX11_readTurns_40
set_option maxHeartbeats 4000000 in
set_option maxRecDepth 100000 in
theorem k625_X11_arrange {l : Launch} {D : va_G} {Y : Nat → ClassId} {tt : Nat → Nat} (h0 h1 h2 h3 h4 h5 h6 h7 h8 h9 h10 h11 h12 h13 h14 h15 h16 h17 h18 h19 h20 h21 h22 h23 h24 h25 : Nat) (p1 : Int32) (g_p1 : p1.toBitVec.toNat % 16 = 11) (sz : Nat) : Met l yX11_arrange wsX11_arrange ({ frames := 1, cells := 0, slots := 0, locals := 24 }) (jw_Pc D Y tt [.ref h0, .int p1] [(h0, .inr (14, [.ref h3, .int 0, .ref h1, .ref h4, .ref h5, .ref h6, .ref h2, .ref h7, .ref h8, .ref h9, .ref h10, .ref h11, .ref h12, .ref h13, .ref h14, .ref h15, .int (-3), .int (-3)])), (h1, .inr (6, [.int 2, .int 0, .int 0, .int 0, .int 0, .ref h16, .ref h17, .ref h18, .ref h19, .ref h20, .int 0])), (h2, .inr (11, [.ref h1, .ref h5, .ref h21, .ref h22, .ref h23, .ref h24, .int 0, .ref h25]))] sz) (jw_Qi D (fun r => r = 0) (fun w => w = []) (va_A [(h0, .inr (14, [.ref h3, .int 0, .ref h1, .ref h4, .ref h5, .ref h6, .ref h2, .ref h7, .ref h8, .ref h9, .ref h10, .ref h11, .ref h12, .ref h13, .ref h14, .ref h15, .int (-3), .int (-3)])), (h1, .inr (6, [.int 2, .int 0, .int 0, .int 0, .int 0, .ref h16, .ref h17, .ref h18, .ref h19, .ref h20, .int 0])), (h2, .inr (11, [.ref h1, .ref h5, .ref h21, .ref h22, .ref h23, .ref h24, .int 0, .ref h25]))] sz)) 0 0 (va_A [(h0, .inr (14, [.ref h3, .int 0, .ref h1, .ref h4, .ref h5, .ref h6, .ref h2, .ref h7, .ref h8, .ref h9, .ref h10, .ref h11, .ref h12, .ref h13, .ref h14, .ref h15, .int (-3), .int (-3)])), (h1, .inr (6, [.int 2, .int 0, .int 0, .int 0, .int 0, .ref h16, .ref h17, .ref h18, .ref h19, .ref h20, .int 0])), (h2, .inr (11, [.ref h1, .ref h5, .ref h21, .ref h22, .ref h23, .ref h24, .int 0, .ref h25]))] sz) := by
  refine jw_met (fun A => jw_Qi D (fun r => r = 0) (fun w => w = []) A) (cc := cX11_arrange) (maxL := 2) (ret := (some .boolean)) pn_X11_arrange rfl rfl ?_
  intro p e s m below meth c A H locs ls hx hb hml hr hts hown hlocks hin hP hD hA hS hE hl
  have hown : s.vm.findClass RX11 = some m.cls := hown
  have hl : lv_has ls 2 [(0, .ref h0), (1, .int p1)] := hl
  refine lv_iload_n hx hb dX11_arrange_0 rfl (lv_at hl 1 rfl) ?_
  refine lv_aload_n hx hb dX11_arrange_1 rfl (lv_at hl 0 rfl) ?_
  refine va_get (D := D) (ci := 14) (v := .ref h1) (C := RX11) (T := TX11) (N := 18) hx hb hts iw_X11_arrange__X11 hown hE.1 hP 0 rfl rfl 2 (by decide) (hts _ mw_X11_arrange__1) (fun _ h9 => h9) rfl dX11_arrange_2 ?_
  refine va_getN (D := D) (ci := 6) (v := .int 2) (C := RX3) (T := TX3) (N := 11) hx hb hts iw_X11_arrange__X3 hown hE.1 hP 1 rfl rfl 0 (by decide) (nf_X11_133 hE) (fun _ h9 => h9) rfl dX11_arrange_5 ?_
  refine lv_aload_n hx hb dX11_arrange_8 rfl (lv_at hl 0 rfl) ?_
  refine va_get (D := D) (ci := 14) (v := .ref h2) (C := RX11) (T := TX11) (N := 18) hx hb hts iw_X11_arrange__X11 hown hE.1 hP 0 rfl rfl 6 (by decide) (hts _ mw_X11_arrange__2) (fun _ h9 => h9) rfl dX11_arrange_9 ?_
  refine va_getN (D := D) (ci := 11) (v := .ref h22) (C := RX8) (T := TX8) (N := 8) hx hb hts iw_X11_arrange__X8 hown hE.1 hP 2 rfl rfl 3 (by decide) (nf_X11_221 hE) (fun _ h9 => h9) rfl dX11_arrange_12 ?_
  refine jw_mi (wc := []) (cs := 0) (ss := 0) (va_runS (As := [.int p1, .int 2, .ref h22]) (rest := []) ⟨hx, hb, hml, hown, hts⟩ (k624_X11_readTurns h22 p1 g_p1 H.size) (va_cwS 3 hts gX11_arrange_X11_readTurns rfl rfl rfl ydS_X11_readTurns ⟨Nat.le_of_ble_eq_true rfl, Nat.le_of_ble_eq_true rfl⟩) (jw_mpreS hP hD hS hA hE [] rfl) rfl rfl hl.1 rfl (lv_room (Nat.le_of_ble_eq_true rfl)) dX11_arrange_15 ⟨Nat.le_of_ble_eq_true rfl, Nat.le_of_ble_eq_true rfl⟩) hP hD hS hA [] rfl rfl rfl (fun r9 w1 H locs hr9 hw9 hP hD hS => ?_)
  subst hr9
  subst hw9
  have hP : va_P D vwCl [(h0, .inr (14, [.ref h3, .int 0, .ref h1, .ref h4, .ref h5, .ref h6, .ref h2, .ref h7, .ref h8, .ref h9, .ref h10, .ref h11, .ref h12, .ref h13, .ref h14, .ref h15, .int (-3), .int (-3)])), (h1, .inr (6, [.int 2, .int 0, .int 0, .int 0, .int 0, .ref h16, .ref h17, .ref h18, .ref h19, .ref h20, .int 0])), (h2, .inr (11, [.ref h1, .ref h5, .ref h21, .ref h22, .ref h23, .ref h24, .int 0, .ref h25]))] H := hP
  have hD : va_D A [(h0, .inr (14, [.ref h3, .int 0, .ref h1, .ref h4, .ref h5, .ref h6, .ref h2, .ref h7, .ref h8, .ref h9, .ref h10, .ref h11, .ref h12, .ref h13, .ref h14, .ref h15, .int (-3), .int (-3)])), (h1, .inr (6, [.int 2, .int 0, .int 0, .int 0, .int 0, .ref h16, .ref h17, .ref h18, .ref h19, .ref h20, .int 0])), (h2, .inr (11, [.ref h1, .ref h5, .ref h21, .ref h22, .ref h23, .ref h24, .int 0, .ref h25]))] := hD
  refine lv_if_ne (tgt := 23) hx hb dX11_arrange_18 (by decide) (fun c9 => absurd (by decide +kernel) c9) (fun _ => ?_)
  refine lv_iconst (v := 0) hx hb dX11_arrange_21 (by decide +kernel) ?_
  refine W.widen (k := 0) (n := 0) (Nat.le_of_ble_eq_true rfl) (Nat.le_of_ble_eq_true rfl) ?_
  have hP : va_P D vwCl [] H := hP.sub [] rfl
  have hD : va_D A [] := hD.sub [] rfl rfl
  exact jw_zret hx hb hr hlocks rfl rfl rfl hP hD hS dX11_arrange_22
set_option maxHeartbeats 4000000 in
set_option maxRecDepth 100000 in
theorem k626_X12_isOnce {l : Launch} {D : va_G} {Y : Nat → ClassId} {tt : Nat → Nat} (p0 : Int32) (g_p0 : p0.toBitVec.toNat % 16 = 11) (sz : Nat) : Met l yX12_isOnce wsX12_isOnce ({ frames := 0, cells := 0, slots := 0, locals := 0 }) (jw_Pc D Y tt [.int p0, .int 2] [] sz) (jw_Qi D (fun r => r = 0) (fun w => w = []) (va_A [] sz)) 0 0 (va_A [] sz) := by
  refine jw_met (fun A => jw_Qi D (fun r => r = 0) (fun w => w = []) A) (cc := cX12_isOnce) (maxL := 4) (ret := (some .boolean)) pn_X12_isOnce rfl rfl ?_
  intro p e s m below meth c A H locs ls hx hb hml hr hts hown hlocks hin hP hD hA hS hE hl
  have hown : s.vm.findClass RX12 = some m.cls := hown
  have hl : lv_has ls 4 [(0, .int p0), (1, .int 2)] := hl
  refine lv_iconst (v := 0) hx hb dX12_isOnce_0 (by decide +kernel) ?_
  refine lv_istore_n (lv' := [(2, .int 0), (0, .int p0), (1, .int 2)]) hx hb dX12_isOnce_1 rfl hl (by decide) rfl (fun ls hl => ?_)
  refine lv_iconst (v := 0) hx hb dX12_isOnce_2 (by decide +kernel) ?_
  refine lv_istore_n (lv' := [(3, .int 0), (2, .int 0), (0, .int p0), (1, .int 2)]) hx hb dX12_isOnce_3 rfl hl (by decide) rfl (fun ls hl => ?_)
  refine lv_iload_n hx hb dX12_isOnce_4 rfl (lv_at hl 0 rfl) ?_
  refine lv_iload_n hx hb dX12_isOnce_5 rfl (lv_at hl 3 rfl) ?_
  refine lv_icmp_ge (tgt := 27) hx hb dX12_isOnce_6 (by decide) (fun c9 => absurd c9 (by decide +kernel)) (fun _ => ?_)
  refine lv_iload_n hx hb dX12_isOnce_9 rfl (lv_at hl 1 rfl) ?_
  refine lv_iconst (v := 1) hx hb dX12_isOnce_10 (by decide +kernel) ?_
  refine lv_iload_n hx hb dX12_isOnce_11 rfl (lv_at hl 2 rfl) ?_
  refine lv_iconst (v := 2) hx hb dX12_isOnce_12 (by decide +kernel) ?_
  refine lv_iload_n hx hb dX12_isOnce_13 rfl (lv_at hl 0 rfl) ?_
  refine jw_imul (v := 0) hx hb dX12_isOnce_14 (by decide +kernel) ?_
  refine jw_ishr (v := (p0 >>> (0 &&& 31))) hx hb dX12_isOnce_15 rfl ?_
  refine lv_iconst (v := 3) hx hb dX12_isOnce_16 (by decide +kernel) ?_
  refine jw_iand (v := 3) hx hb dX12_isOnce_17 (jw_bs0 g_p0 (by decide +kernel)) ?_
  refine jw_ishl (v := 8) hx hb dX12_isOnce_18 (by decide +kernel) ?_
  refine jw_ior (v := 8) hx hb dX12_isOnce_19 (by decide +kernel) ?_
  refine lv_istore_n (lv' := [(2, .int 8), (3, .int 0), (0, .int p0), (1, .int 2)]) hx hb dX12_isOnce_20 rfl hl (by decide) rfl (fun ls hl => ?_)
  refine lv_iinc (v := 1) (lv' := [(3, .int 1), (2, .int 8), (0, .int p0), (1, .int 2)]) hx hb dX12_isOnce_21 hl (k := 1) rfl (by decide +kernel) (by decide) rfl (fun ls hl => ?_)
  refine lv_goto (tgt := 4) hx hb dX12_isOnce_24 (by decide) ?_
  refine lv_iload_n hx hb dX12_isOnce_4 rfl (lv_at hl 0 rfl) ?_
  refine lv_iload_n hx hb dX12_isOnce_5 rfl (lv_at hl 3 rfl) ?_
  refine lv_icmp_ge (tgt := 27) hx hb dX12_isOnce_6 (by decide) (fun c9 => absurd c9 (by decide +kernel)) (fun _ => ?_)
  refine lv_iload_n hx hb dX12_isOnce_9 rfl (lv_at hl 1 rfl) ?_
  refine lv_iconst (v := 1) hx hb dX12_isOnce_10 (by decide +kernel) ?_
  refine lv_iload_n hx hb dX12_isOnce_11 rfl (lv_at hl 2 rfl) ?_
  refine lv_iconst (v := 2) hx hb dX12_isOnce_12 (by decide +kernel) ?_
  refine lv_iload_n hx hb dX12_isOnce_13 rfl (lv_at hl 0 rfl) ?_
  refine jw_imul (v := 2) hx hb dX12_isOnce_14 (by decide +kernel) ?_
  refine jw_ishr (v := (p0 >>> (2 &&& 31))) hx hb dX12_isOnce_15 rfl ?_
  refine lv_iconst (v := 3) hx hb dX12_isOnce_16 (by decide +kernel) ?_
  refine jw_iand (v := 2) hx hb dX12_isOnce_17 (jw_bs1 g_p0 (by decide +kernel)) ?_
  refine jw_ishl (v := 4) hx hb dX12_isOnce_18 (by decide +kernel) ?_
  refine jw_ior (v := 12) hx hb dX12_isOnce_19 (by decide +kernel) ?_
  refine lv_istore_n (lv' := [(2, .int 12), (3, .int 1), (0, .int p0), (1, .int 2)]) hx hb dX12_isOnce_20 rfl hl (by decide) rfl (fun ls hl => ?_)
  refine lv_iinc (v := 2) (lv' := [(3, .int 2), (2, .int 12), (0, .int p0), (1, .int 2)]) hx hb dX12_isOnce_21 hl (k := 1) rfl (by decide +kernel) (by decide) rfl (fun ls hl => ?_)
  refine lv_goto (tgt := 4) hx hb dX12_isOnce_24 (by decide) ?_
  refine lv_iload_n hx hb dX12_isOnce_4 rfl (lv_at hl 0 rfl) ?_
  refine lv_iload_n hx hb dX12_isOnce_5 rfl (lv_at hl 3 rfl) ?_
  refine lv_icmp_ge (tgt := 27) hx hb dX12_isOnce_6 (by decide) (fun _ => ?_) (fun c9 => absurd (by decide +kernel) c9)
  refine lv_iload_n hx hb dX12_isOnce_27 rfl (lv_at hl 1 rfl) ?_
  refine lv_iconst (v := 1) hx hb dX12_isOnce_28 (by decide +kernel) ?_
  refine lv_iload_n hx hb dX12_isOnce_29 rfl (lv_at hl 3 rfl) ?_
  refine jw_ishl (v := 4) hx hb dX12_isOnce_30 (by decide +kernel) ?_
  refine lv_iconst (v := 1) hx hb dX12_isOnce_31 (by decide +kernel) ?_
  refine jw_isub (v := 3) hx hb dX12_isOnce_32 (by decide +kernel) ?_
  refine lv_icmp_ne (tgt := 40) hx hb dX12_isOnce_33 (by decide) (fun _ => ?_) (fun c9 => absurd c9 (by decide +kernel))
  refine lv_iconst (v := 0) hx hb dX12_isOnce_40 (by decide +kernel) ?_
  refine W.widen (k := 0) (n := 0) (Nat.le_of_ble_eq_true rfl) (Nat.le_of_ble_eq_true rfl) ?_
  exact jw_zret hx hb hr hlocks rfl rfl rfl hP hD hS dX12_isOnce_41
set_option maxHeartbeats 4000000 in
set_option maxRecDepth 100000 in
theorem k627_X12_arrange {l : Launch} {D : va_G} {Y : Nat → ClassId} {tt : Nat → Nat} (h0 h1 h2 h3 h4 h5 h6 h7 h8 h9 h10 h11 h12 h13 h14 h15 h16 h17 h18 h19 h20 h21 h22 h23 h24 h25 h26 h27 h28 h29 h30 h31 h32 h33 h34 h35 : Nat) (p1 : Int32) (g_p1 : p1.toBitVec.toNat % 16 = 11) (sz : Nat) : Met l yX12_arrange wsX12_arrange ({ frames := 1, cells := 0, slots := 0, locals := 23 }) (jw_Pc D Y tt [.ref h0, .int p1] [(h0, .inr (15, [.ref h1, .int 0, .int 0, .ref h2, .int 0, .int (-1), .int 0, .int 0, .int 0, .int 0, .int 0, .int 2, .int 0, .int 0, .int 0, .ref h3, .ref h4, .ref h5, .ref h6, .int 2, .int 0, .int 0, .int 0, .int 0, .ref h7, .ref h8, .ref h9, .ref h10, .int 2, .ref h11, .int 1, .ref h12, .ref h13, .int 1, .ref h14, .ref h15, .ref h16, .int 0, .ref h17, .ref h18, .ref h19, .ref h20, .ref h21, .ref h22, .ref h23, .ref h24, .ref h25, .int 0, .ref h26, .ref h27, .ref h28, .int (-1), .ref h29, .long 0, .long 0, .int 0, .int 0, .long 0, .long 0, .ref h30, .ref h31, .ref h32, .ref h33, .ref h34, .ref h35, .long 0]))] sz) (jw_Qi D (fun r => r = 0) (fun w => w = []) (va_A [(h0, .inr (15, [.ref h1, .int 0, .int 0, .ref h2, .int 0, .int (-1), .int 0, .int 0, .int 0, .int 0, .int 0, .int 2, .int 0, .int 0, .int 0, .ref h3, .ref h4, .ref h5, .ref h6, .int 2, .int 0, .int 0, .int 0, .int 0, .ref h7, .ref h8, .ref h9, .ref h10, .int 2, .ref h11, .int 1, .ref h12, .ref h13, .int 1, .ref h14, .ref h15, .ref h16, .int 0, .ref h17, .ref h18, .ref h19, .ref h20, .ref h21, .ref h22, .ref h23, .ref h24, .ref h25, .int 0, .ref h26, .ref h27, .ref h28, .int (-1), .ref h29, .long 0, .long 0, .int 0, .int 0, .long 0, .long 0, .ref h30, .ref h31, .ref h32, .ref h33, .ref h34, .ref h35, .long 0]))] sz)) 0 0 (va_A [(h0, .inr (15, [.ref h1, .int 0, .int 0, .ref h2, .int 0, .int (-1), .int 0, .int 0, .int 0, .int 0, .int 0, .int 2, .int 0, .int 0, .int 0, .ref h3, .ref h4, .ref h5, .ref h6, .int 2, .int 0, .int 0, .int 0, .int 0, .ref h7, .ref h8, .ref h9, .ref h10, .int 2, .ref h11, .int 1, .ref h12, .ref h13, .int 1, .ref h14, .ref h15, .ref h16, .int 0, .ref h17, .ref h18, .ref h19, .ref h20, .ref h21, .ref h22, .ref h23, .ref h24, .ref h25, .int 0, .ref h26, .ref h27, .ref h28, .int (-1), .ref h29, .long 0, .long 0, .int 0, .int 0, .long 0, .long 0, .ref h30, .ref h31, .ref h32, .ref h33, .ref h34, .ref h35, .long 0]))] sz) := by
  refine jw_met (fun A => jw_Qi D (fun r => r = 0) (fun w => w = []) A) (cc := cX12_arrange) (maxL := 3) (ret := (some .boolean)) pn_X12_arrange rfl rfl ?_
  intro p e s m below meth c A H locs ls hx hb hml hr hts hown hlocks hin hP hD hA hS hE hl
  have hown : s.vm.findClass RX12 = some m.cls := hown
  have hl : lv_has ls 3 [(0, .ref h0), (1, .int p1)] := hl
  refine lv_aload_n hx hb dX12_arrange_0 rfl (lv_at hl 0 rfl) ?_
  refine lv_iconst (v := 0) hx hb dX12_arrange_1 (by decide +kernel) ?_
  refine va_put (D := D) (ci := 15) (v := .int 0) (C := RX12) (T := TX12) (N := 66) hx hb hts iw_X12_arrange__X12 tyX12 tyX12_ok nmX12 hown hE.1 hP hD hS 0 rfl rfl 2 (by decide) (hts _ mw_X12_arrange__1) (fun _ h9 => h9) rfl (tyX12_ok 2 (by decide)) rfl rfl (Nat.le_of_ble_eq_true rfl) dX12_arrange_2 (fun H locs hP hD hS => ?_)
  have hP : va_P D vwCl [(h0, .inr (15, [.ref h1, .int 0, .int 0, .ref h2, .int 0, .int (-1), .int 0, .int 0, .int 0, .int 0, .int 0, .int 2, .int 0, .int 0, .int 0, .ref h3, .ref h4, .ref h5, .ref h6, .int 2, .int 0, .int 0, .int 0, .int 0, .ref h7, .ref h8, .ref h9, .ref h10, .int 2, .ref h11, .int 1, .ref h12, .ref h13, .int 1, .ref h14, .ref h15, .ref h16, .int 0, .ref h17, .ref h18, .ref h19, .ref h20, .ref h21, .ref h22, .ref h23, .ref h24, .ref h25, .int 0, .ref h26, .ref h27, .ref h28, .int (-1), .ref h29, .long 0, .long 0, .int 0, .int 0, .long 0, .long 0, .ref h30, .ref h31, .ref h32, .ref h33, .ref h34, .ref h35, .long 0]))] H := hP
  have hD : va_D A [(h0, .inr (15, [.ref h1, .int 0, .int 0, .ref h2, .int 0, .int (-1), .int 0, .int 0, .int 0, .int 0, .int 0, .int 2, .int 0, .int 0, .int 0, .ref h3, .ref h4, .ref h5, .ref h6, .int 2, .int 0, .int 0, .int 0, .int 0, .ref h7, .ref h8, .ref h9, .ref h10, .int 2, .ref h11, .int 1, .ref h12, .ref h13, .int 1, .ref h14, .ref h15, .ref h16, .int 0, .ref h17, .ref h18, .ref h19, .ref h20, .ref h21, .ref h22, .ref h23, .ref h24, .ref h25, .int 0, .ref h26, .ref h27, .ref h28, .int (-1), .ref h29, .long 0, .long 0, .int 0, .int 0, .long 0, .long 0, .ref h30, .ref h31, .ref h32, .ref h33, .ref h34, .ref h35, .long 0]))] := hD
  refine lv_iload_n hx hb dX12_arrange_5 rfl (lv_at hl 1 rfl) ?_
  refine lv_aload_n hx hb dX12_arrange_6 rfl (lv_at hl 0 rfl) ?_
  refine va_get (D := D) (ci := 15) (v := .int 2) (C := RX12) (T := TX12) (N := 66) hx hb hts iw_X12_arrange__X12 hown hE.1 hP 0 rfl rfl 11 (by decide) (hts _ mw_X12_arrange__2) (fun _ h9 => h9) rfl dX12_arrange_7 ?_
  refine jw_mi (wc := []) (cs := 0) (ss := 0) (va_runS (As := [.int p1, .int 2]) (rest := []) ⟨hx, hb, hml, hown, hts⟩ (k626_X12_isOnce p1 g_p1 H.size) (va_cwS 2 hts gX12_arrange_X12_isOnce rfl rfl rfl ydS_X12_isOnce ⟨Nat.le_of_ble_eq_true rfl, Nat.le_of_ble_eq_true rfl⟩) (jw_mpreS hP hD hS hA hE [] rfl) rfl rfl hl.1 rfl (lv_room (Nat.le_of_ble_eq_true rfl)) dX12_arrange_10 ⟨Nat.le_of_ble_eq_true rfl, Nat.le_of_ble_eq_true rfl⟩) hP hD hS hA [] rfl rfl rfl (fun r9 w1 H locs hr9 hw9 hP hD hS => ?_)
  subst hr9
  subst hw9
  have hP : va_P D vwCl [(h0, .inr (15, [.ref h1, .int 0, .int 0, .ref h2, .int 0, .int (-1), .int 0, .int 0, .int 0, .int 0, .int 0, .int 2, .int 0, .int 0, .int 0, .ref h3, .ref h4, .ref h5, .ref h6, .int 2, .int 0, .int 0, .int 0, .int 0, .ref h7, .ref h8, .ref h9, .ref h10, .int 2, .ref h11, .int 1, .ref h12, .ref h13, .int 1, .ref h14, .ref h15, .ref h16, .int 0, .ref h17, .ref h18, .ref h19, .ref h20, .ref h21, .ref h22, .ref h23, .ref h24, .ref h25, .int 0, .ref h26, .ref h27, .ref h28, .int (-1), .ref h29, .long 0, .long 0, .int 0, .int 0, .long 0, .long 0, .ref h30, .ref h31, .ref h32, .ref h33, .ref h34, .ref h35, .long 0]))] H := hP
  have hD : va_D A [(h0, .inr (15, [.ref h1, .int 0, .int 0, .ref h2, .int 0, .int (-1), .int 0, .int 0, .int 0, .int 0, .int 0, .int 2, .int 0, .int 0, .int 0, .ref h3, .ref h4, .ref h5, .ref h6, .int 2, .int 0, .int 0, .int 0, .int 0, .ref h7, .ref h8, .ref h9, .ref h10, .int 2, .ref h11, .int 1, .ref h12, .ref h13, .int 1, .ref h14, .ref h15, .ref h16, .int 0, .ref h17, .ref h18, .ref h19, .ref h20, .ref h21, .ref h22, .ref h23, .ref h24, .ref h25, .int 0, .ref h26, .ref h27, .ref h28, .int (-1), .ref h29, .long 0, .long 0, .int 0, .int 0, .long 0, .long 0, .ref h30, .ref h31, .ref h32, .ref h33, .ref h34, .ref h35, .long 0]))] := hD
  refine lv_if_ne (tgt := 18) hx hb dX12_arrange_13 (by decide) (fun c9 => absurd (by decide +kernel) c9) (fun _ => ?_)
  refine lv_iconst (v := 0) hx hb dX12_arrange_16 (by decide +kernel) ?_
  refine W.widen (k := 0) (n := 0) (Nat.le_of_ble_eq_true rfl) (Nat.le_of_ble_eq_true rfl) ?_
  have hP : va_P D vwCl [] H := hP.sub [] rfl
  have hD : va_D A [] := hD.sub [] rfl rfl
  exact jw_zret hx hb hr hlocks rfl rfl rfl hP hD hS dX12_arrange_17
set_option maxHeartbeats 4000000 in
set_option maxRecDepth 100000 in
theorem k628_X11_readTurns {l : Launch} {D : va_G} {Y : Nat → ClassId} {tt : Nat → Nat} (h0 : Nat) (p0 : Int32) (g_p0 : p0.toBitVec.toNat % 16 = 12) (sz : Nat) : Met l yX11_readTurns wsX11_readTurns ({ frames := 0, cells := 0, slots := 0, locals := 0 }) (jw_Pc D Y tt [.int p0, .int 2, .ref h0] [] sz) (jw_Qi D (fun r => r = 0) (fun w => w = []) (va_A [] sz)) 0 0 (va_A [] sz) := by
  refine jw_met (fun A => jw_Qi D (fun r => r = 0) (fun w => w = []) A) (cc := cX11_readTurns) (maxL := 5) (ret := (some .boolean)) pn_X11_readTurns rfl rfl ?_
  intro p e s m below meth c A H locs ls hx hb hml hr hts hown hlocks hin hP hD hA hS hE hl
  have hown : s.vm.findClass RX11 = some m.cls := hown
  have hl : lv_has ls 5 [(0, .int p0), (1, .int 2), (2, .ref h0)] := hl
  refine lv_iconst (v := 0) hx hb dX11_readTurns_0 (by decide +kernel) ?_
  refine lv_istore_n (lv' := [(3, .int 0), (0, .int p0), (1, .int 2), (2, .ref h0)]) hx hb dX11_readTurns_1 rfl hl (by decide) rfl (fun ls hl => ?_)
  refine lv_iconst (v := 0) hx hb dX11_readTurns_2 (by decide +kernel) ?_
  refine lv_istore (lv' := [(4, .int 0), (3, .int 0), (0, .int p0), (1, .int 2), (2, .ref h0)]) hx hb dX11_readTurns_3 hl (by decide) rfl (fun ls hl => ?_)
  refine lv_iload hx hb dX11_readTurns_5 (lv_at hl 0 rfl) ?_
  refine lv_iload_n hx hb dX11_readTurns_7 rfl (lv_at hl 3 rfl) ?_
  refine lv_icmp_ge (tgt := 30) hx hb dX11_readTurns_8 (by decide) (fun c9 => absurd c9 (by decide +kernel)) (fun _ => ?_)
  refine lv_iload_n hx hb dX11_readTurns_11 rfl (lv_at hl 1 rfl) ?_
  refine lv_iconst (v := 1) hx hb dX11_readTurns_12 (by decide +kernel) ?_
  refine lv_iload_n hx hb dX11_readTurns_13 rfl (lv_at hl 2 rfl) ?_
  refine lv_iconst (v := 2) hx hb dX11_readTurns_14 (by decide +kernel) ?_
  refine lv_iload hx hb dX11_readTurns_15 (lv_at hl 0 rfl) ?_
  refine jw_imul (v := 0) hx hb dX11_readTurns_17 (by decide +kernel) ?_
  refine lv_iushr (v := (p0.toUInt32 >>> ((0 : Int32).toUInt32 &&& Int32.toUInt32 31)).toInt32) hx hb dX11_readTurns_18 rfl ?_
  refine lv_iconst (v := 3) hx hb dX11_readTurns_19 (by decide +kernel) ?_
  refine jw_iand (v := 0) hx hb dX11_readTurns_20 (jw_bu0 g_p0 (by decide +kernel)) ?_
  refine jw_ishl (v := 1) hx hb dX11_readTurns_21 (by decide +kernel) ?_
  refine jw_ior (v := 1) hx hb dX11_readTurns_22 (by decide +kernel) ?_
  refine lv_istore_n (lv' := [(3, .int 1), (4, .int 0), (0, .int p0), (1, .int 2), (2, .ref h0)]) hx hb dX11_readTurns_23 rfl hl (by decide) rfl (fun ls hl => ?_)
  refine lv_iinc (v := 1) (lv' := [(4, .int 1), (3, .int 1), (0, .int p0), (1, .int 2), (2, .ref h0)]) hx hb dX11_readTurns_24 hl (k := 1) rfl (by decide +kernel) (by decide) rfl (fun ls hl => ?_)
  refine lv_goto (tgt := 5) hx hb dX11_readTurns_27 (by decide) ?_
  refine lv_iload hx hb dX11_readTurns_5 (lv_at hl 0 rfl) ?_
  refine lv_iload_n hx hb dX11_readTurns_7 rfl (lv_at hl 3 rfl) ?_
  refine lv_icmp_ge (tgt := 30) hx hb dX11_readTurns_8 (by decide) (fun c9 => absurd c9 (by decide +kernel)) (fun _ => ?_)
  refine lv_iload_n hx hb dX11_readTurns_11 rfl (lv_at hl 1 rfl) ?_
  refine lv_iconst (v := 1) hx hb dX11_readTurns_12 (by decide +kernel) ?_
  refine lv_iload_n hx hb dX11_readTurns_13 rfl (lv_at hl 2 rfl) ?_
  refine lv_iconst (v := 2) hx hb dX11_readTurns_14 (by decide +kernel) ?_
  refine lv_iload hx hb dX11_readTurns_15 (lv_at hl 0 rfl) ?_
  refine jw_imul (v := 2) hx hb dX11_readTurns_17 (by decide +kernel) ?_
  refine lv_iushr (v := (p0.toUInt32 >>> ((2 : Int32).toUInt32 &&& Int32.toUInt32 31)).toInt32) hx hb dX11_readTurns_18 rfl ?_
  refine lv_iconst (v := 3) hx hb dX11_readTurns_19 (by decide +kernel) ?_
  refine jw_iand (v := 3) hx hb dX11_readTurns_20 (jw_bu1 g_p0 (by decide +kernel)) ?_
  refine jw_ishl (v := 8) hx hb dX11_readTurns_21 (by decide +kernel) ?_
  refine jw_ior (v := 9) hx hb dX11_readTurns_22 (by decide +kernel) ?_
  refine lv_istore_n (lv' := [(3, .int 9), (4, .int 1), (0, .int p0), (1, .int 2), (2, .ref h0)]) hx hb dX11_readTurns_23 rfl hl (by decide) rfl (fun ls hl => ?_)
  refine lv_iinc (v := 2) (lv' := [(4, .int 2), (3, .int 9), (0, .int p0), (1, .int 2), (2, .ref h0)]) hx hb dX11_readTurns_24 hl (k := 1) rfl (by decide +kernel) (by decide) rfl (fun ls hl => ?_)
  refine lv_goto (tgt := 5) hx hb dX11_readTurns_27 (by decide) ?_
  refine lv_iload hx hb dX11_readTurns_5 (lv_at hl 0 rfl) ?_
  refine lv_iload_n hx hb dX11_readTurns_7 rfl (lv_at hl 3 rfl) ?_
  refine lv_icmp_ge (tgt := 30) hx hb dX11_readTurns_8 (by decide) (fun _ => ?_) (fun c9 => absurd (by decide +kernel) c9)
  refine lv_iload_n hx hb dX11_readTurns_30 rfl (lv_at hl 1 rfl) ?_
  refine lv_iconst (v := 1) hx hb dX11_readTurns_31 (by decide +kernel) ?_
  refine lv_iload_n hx hb dX11_readTurns_32 rfl (lv_at hl 3 rfl) ?_
  refine jw_ishl (v := 4) hx hb dX11_readTurns_33 (by decide +kernel) ?_
  refine lv_iconst (v := 1) hx hb dX11_readTurns_34 (by decide +kernel) ?_
  refine jw_isub (v := 3) hx hb dX11_readTurns_35 (by decide +kernel) ?_
  refine lv_icmp_eq (tgt := 41) hx hb dX11_readTurns_36 (by decide) (fun c9 => absurd c9 (by decide +kernel)) (fun _ => ?_)
  refine lv_iconst (v := 0) hx hb dX11_readTurns_39 (by decide +kernel) ?_
  refine W.widen (k := 0) (n := 0) (Nat.le_of_ble_eq_true rfl) (Nat.le_of_ble_eq_true rfl) ?_
  exact jw_zret hx hb hr hlocks rfl rfl rfl hP hD hS dX11_readTurns_40
set_option maxHeartbeats 4000000 in
set_option maxRecDepth 100000 in
theorem k629_X11_arrange {l : Launch} {D : va_G} {Y : Nat → ClassId} {tt : Nat → Nat} (h0 h1 h2 h3 h4 h5 h6 h7 h8 h9 h10 h11 h12 h13 h14 h15 h16 h17 h18 h19 h20 h21 h22 h23 h24 h25 : Nat) (p1 : Int32) (g_p1 : p1.toBitVec.toNat % 16 = 12) (sz : Nat) : Met l yX11_arrange wsX11_arrange ({ frames := 1, cells := 0, slots := 0, locals := 24 }) (jw_Pc D Y tt [.ref h0, .int p1] [(h0, .inr (14, [.ref h3, .int 0, .ref h1, .ref h4, .ref h5, .ref h6, .ref h2, .ref h7, .ref h8, .ref h9, .ref h10, .ref h11, .ref h12, .ref h13, .ref h14, .ref h15, .int (-3), .int (-3)])), (h1, .inr (6, [.int 2, .int 0, .int 0, .int 0, .int 0, .ref h16, .ref h17, .ref h18, .ref h19, .ref h20, .int 0])), (h2, .inr (11, [.ref h1, .ref h5, .ref h21, .ref h22, .ref h23, .ref h24, .int 0, .ref h25]))] sz) (jw_Qi D (fun r => r = 0) (fun w => w = []) (va_A [(h0, .inr (14, [.ref h3, .int 0, .ref h1, .ref h4, .ref h5, .ref h6, .ref h2, .ref h7, .ref h8, .ref h9, .ref h10, .ref h11, .ref h12, .ref h13, .ref h14, .ref h15, .int (-3), .int (-3)])), (h1, .inr (6, [.int 2, .int 0, .int 0, .int 0, .int 0, .ref h16, .ref h17, .ref h18, .ref h19, .ref h20, .int 0])), (h2, .inr (11, [.ref h1, .ref h5, .ref h21, .ref h22, .ref h23, .ref h24, .int 0, .ref h25]))] sz)) 0 0 (va_A [(h0, .inr (14, [.ref h3, .int 0, .ref h1, .ref h4, .ref h5, .ref h6, .ref h2, .ref h7, .ref h8, .ref h9, .ref h10, .ref h11, .ref h12, .ref h13, .ref h14, .ref h15, .int (-3), .int (-3)])), (h1, .inr (6, [.int 2, .int 0, .int 0, .int 0, .int 0, .ref h16, .ref h17, .ref h18, .ref h19, .ref h20, .int 0])), (h2, .inr (11, [.ref h1, .ref h5, .ref h21, .ref h22, .ref h23, .ref h24, .int 0, .ref h25]))] sz) := by
  refine jw_met (fun A => jw_Qi D (fun r => r = 0) (fun w => w = []) A) (cc := cX11_arrange) (maxL := 2) (ret := (some .boolean)) pn_X11_arrange rfl rfl ?_
  intro p e s m below meth c A H locs ls hx hb hml hr hts hown hlocks hin hP hD hA hS hE hl
  have hown : s.vm.findClass RX11 = some m.cls := hown
  have hl : lv_has ls 2 [(0, .ref h0), (1, .int p1)] := hl
  refine lv_iload_n hx hb dX11_arrange_0 rfl (lv_at hl 1 rfl) ?_
  refine lv_aload_n hx hb dX11_arrange_1 rfl (lv_at hl 0 rfl) ?_
  refine va_get (D := D) (ci := 14) (v := .ref h1) (C := RX11) (T := TX11) (N := 18) hx hb hts iw_X11_arrange__X11 hown hE.1 hP 0 rfl rfl 2 (by decide) (hts _ mw_X11_arrange__1) (fun _ h9 => h9) rfl dX11_arrange_2 ?_
  refine va_getN (D := D) (ci := 6) (v := .int 2) (C := RX3) (T := TX3) (N := 11) hx hb hts iw_X11_arrange__X3 hown hE.1 hP 1 rfl rfl 0 (by decide) (nf_X11_133 hE) (fun _ h9 => h9) rfl dX11_arrange_5 ?_
  refine lv_aload_n hx hb dX11_arrange_8 rfl (lv_at hl 0 rfl) ?_
  refine va_get (D := D) (ci := 14) (v := .ref h2) (C := RX11) (T := TX11) (N := 18) hx hb hts iw_X11_arrange__X11 hown hE.1 hP 0 rfl rfl 6 (by decide) (hts _ mw_X11_arrange__2) (fun _ h9 => h9) rfl dX11_arrange_9 ?_
  refine va_getN (D := D) (ci := 11) (v := .ref h22) (C := RX8) (T := TX8) (N := 8) hx hb hts iw_X11_arrange__X8 hown hE.1 hP 2 rfl rfl 3 (by decide) (nf_X11_221 hE) (fun _ h9 => h9) rfl dX11_arrange_12 ?_
  refine jw_mi (wc := []) (cs := 0) (ss := 0) (va_runS (As := [.int p1, .int 2, .ref h22]) (rest := []) ⟨hx, hb, hml, hown, hts⟩ (k628_X11_readTurns h22 p1 g_p1 H.size) (va_cwS 3 hts gX11_arrange_X11_readTurns rfl rfl rfl ydS_X11_readTurns ⟨Nat.le_of_ble_eq_true rfl, Nat.le_of_ble_eq_true rfl⟩) (jw_mpreS hP hD hS hA hE [] rfl) rfl rfl hl.1 rfl (lv_room (Nat.le_of_ble_eq_true rfl)) dX11_arrange_15 ⟨Nat.le_of_ble_eq_true rfl, Nat.le_of_ble_eq_true rfl⟩) hP hD hS hA [] rfl rfl rfl (fun r9 w1 H locs hr9 hw9 hP hD hS => ?_)
  subst hr9
  subst hw9
  have hP : va_P D vwCl [(h0, .inr (14, [.ref h3, .int 0, .ref h1, .ref h4, .ref h5, .ref h6, .ref h2, .ref h7, .ref h8, .ref h9, .ref h10, .ref h11, .ref h12, .ref h13, .ref h14, .ref h15, .int (-3), .int (-3)])), (h1, .inr (6, [.int 2, .int 0, .int 0, .int 0, .int 0, .ref h16, .ref h17, .ref h18, .ref h19, .ref h20, .int 0])), (h2, .inr (11, [.ref h1, .ref h5, .ref h21, .ref h22, .ref h23, .ref h24, .int 0, .ref h25]))] H := hP
  have hD : va_D A [(h0, .inr (14, [.ref h3, .int 0, .ref h1, .ref h4, .ref h5, .ref h6, .ref h2, .ref h7, .ref h8, .ref h9, .ref h10, .ref h11, .ref h12, .ref h13, .ref h14, .ref h15, .int (-3), .int (-3)])), (h1, .inr (6, [.int 2, .int 0, .int 0, .int 0, .int 0, .ref h16, .ref h17, .ref h18, .ref h19, .ref h20, .int 0])), (h2, .inr (11, [.ref h1, .ref h5, .ref h21, .ref h22, .ref h23, .ref h24, .int 0, .ref h25]))] := hD
  refine lv_if_ne (tgt := 23) hx hb dX11_arrange_18 (by decide) (fun c9 => absurd (by decide +kernel) c9) (fun _ => ?_)
  refine lv_iconst (v := 0) hx hb dX11_arrange_21 (by decide +kernel) ?_
  refine W.widen (k := 0) (n := 0) (Nat.le_of_ble_eq_true rfl) (Nat.le_of_ble_eq_true rfl) ?_
  have hP : va_P D vwCl [] H := hP.sub [] rfl
  have hD : va_D A [] := hD.sub [] rfl rfl
  exact jw_zret hx hb hr hlocks rfl rfl rfl hP hD hS dX11_arrange_22
