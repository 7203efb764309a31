set_option maxHeartbeats 4000000 in
set_option maxRecDepth 100000 in
theorem k630_X12_isOnce {l : Launch} {D : va_G} {Y : Nat → ClassId} {tt : Nat → Nat} (p0 : Int32) (g_p0 : p0.toBitVec.toNat % 16 = 12) (sz : Nat) : Met l yX12_isOnce wsX12_isOnce ({ frames := 0, cells := 0, slots := 0, locals := 0 }) (jw_Pc D Y tt [.int p0, .int 2] [] sz) (jw_Qi D (fun r => r = 0) (fun w => w = []) (va_A [] sz)) 0 0 (va_A [] sz) := by
  refine jw_met (fun A => jw_Qi D (fun r => r = 0) (fun w => w = []) A) (cc := cX12_isOnce) (maxL := 4) (ret := (some .boolean)) pn_X12_isOnce rfl rfl ?_
  intro p e s m below meth c A H locs ls hx hb hml hr hts hown hlocks hin hP hD hA hS hE hl
  have hown : s.vm.findClass RX12 = some m.cls := hown
  have hl : lv_has ls 4 [(0, .int p0), (1, .int 2)] := hl
  refine lv_iconst (v := 0) hx hb dX12_isOnce_0 (by decide +kernel) ?_
  refine lv_istore_n (lv' := [(2, .int 0), (0, .int p0), (1, .int 2)]) hx hb dX12_isOnce_1 rfl hl (by decide) rfl (fun ls hl => ?_)
  refine lv_iconst (v := 0) hx hb dX12_isOnce_2 (by decide +kernel) ?_
  refine lv_istore_n (lv' := [(3, .int 0), (2, .int 0), (0, .int p0), (1, .int 2)]) hx hb dX12_isOnce_3 rfl hl (by decide) rfl (fun ls hl => ?_)
  refine lv_iload_n hx hb dX12_isOnce_4 rfl (lv_at hl 0 rfl) ?_
  refine lv_iload_n hx hb dX12_isOnce_5 rfl (lv_at hl 3 rfl) ?_
  refine lv_icmp_ge (tgt := 27) hx hb dX12_isOnce_6 (by decide) (fun c9 => absurd c9 (by decide +kernel)) (fun _ => ?_)
  refine lv_iload_n hx hb dX12_isOnce_9 rfl (lv_at hl 1 rfl) ?_
  refine lv_iconst (v := 1) hx hb dX12_isOnce_10 (by decide +kernel) ?_
  refine lv_iload_n hx hb dX12_isOnce_11 rfl (lv_at hl 2 rfl) ?_
  refine lv_iconst (v := 2) hx hb dX12_isOnce_12 (by decide +kernel) ?_
  refine lv_iload_n hx hb dX12_isOnce_13 rfl (lv_at hl 0 rfl) ?_
  refine jw_imul (v := 0) hx hb dX12_isOnce_14 (by decide +kernel) ?_
  refine jw_ishr (v := (p0 >>> (0 &&& 31))) hx hb dX12_isOnce_15 rfl ?_
  refine lv_iconst (v := 3) hx hb dX12_isOnce_16 (by decide +kernel) ?_
  refine jw_iand (v := 0) hx hb dX12_isOnce_17 (jw_bs0 g_p0 (by decide +kernel)) ?_
  refine jw_ishl (v := 1) hx hb dX12_isOnce_18 (by decide +kernel) ?_
  refine jw_ior (v := 1) hx hb dX12_isOnce_19 (by decide +kernel) ?_
  refine lv_istore_n (lv' := [(2, .int 1), (3, .int 0), (0, .int p0), (1, .int 2)]) hx hb dX12_isOnce_20 rfl hl (by decide) rfl (fun ls hl => ?_)
  refine lv_iinc (v := 1) (lv' := [(3, .int 1), (2, .int 1), (0, .int p0), (1, .int 2)]) hx hb dX12_isOnce_21 hl (k := 1) rfl (by decide +kernel) (by decide) rfl (fun ls hl => ?_)
  refine lv_goto (tgt := 4) hx hb dX12_isOnce_24 (by decide) ?_
  refine lv_iload_n hx hb dX12_isOnce_4 rfl (lv_at hl 0 rfl) ?_
  refine lv_iload_n hx hb dX12_isOnce_5 rfl (lv_at hl 3 rfl) ?_
  refine lv_icmp_ge (tgt := 27) hx hb dX12_isOnce_6 (by decide) (fun c9 => absurd c9 (by decide +kernel)) (fun _ => ?_)
  refine lv_iload_n hx hb dX12_isOnce_9 rfl (lv_at hl 1 rfl) ?_
  refine lv_iconst (v := 1) hx hb dX12_isOnce_10 (by decide +kernel) ?_
  refine lv_iload_n hx hb dX12_isOnce_11 rfl (lv_at hl 2 rfl) ?_
  refine lv_iconst (v := 2) hx hb dX12_isOnce_12 (by decide +kernel) ?_
  refine lv_iload_n hx hb dX12_isOnce_13 rfl (lv_at hl 0 rfl) ?_
  refine jw_imul (v := 2) hx hb dX12_isOnce_14 (by decide +kernel) ?_
  refine jw_ishr (v := (p0 >>> (2 &&& 31))) hx hb dX12_isOnce_15 rfl ?_
  refine lv_iconst (v := 3) hx hb dX12_isOnce_16 (by decide +kernel) ?_
  refine jw_iand (v := 3) hx hb dX12_isOnce_17 (jw_bs1 g_p0 (by decide +kernel)) ?_
  refine jw_ishl (v := 8) hx hb dX12_isOnce_18 (by decide +kernel) ?_
  refine jw_ior (v := 9) hx hb dX12_isOnce_19 (by decide +kernel) ?_
  refine lv_istore_n (lv' := [(2, .int 9), (3, .int 1), (0, .int p0), (1, .int 2)]) hx hb dX12_isOnce_20 rfl hl (by decide) rfl (fun ls hl => ?_)
  refine lv_iinc (v := 2) (lv' := [(3, .int 2), (2, .int 9), (0, .int p0), (1, .int 2)]) hx hb dX12_isOnce_21 hl (k := 1) rfl (by decide +kernel) (by decide) rfl (fun ls hl => ?_)
  refine lv_goto (tgt := 4) hx hb dX12_isOnce_24 (by decide) ?_
  refine lv_iload_n hx hb dX12_isOnce_4 rfl (lv_at hl 0 rfl) ?_
  refine lv_iload_n hx hb dX12_isOnce_5 rfl (lv_at hl 3 rfl) ?_
  refine lv_icmp_ge (tgt := 27) hx hb dX12_isOnce_6 (by decide) (fun _ => ?_) (fun c9 => absurd (by decide +kernel) c9)
  refine lv_iload_n hx hb dX12_isOnce_27 rfl (lv_at hl 1 rfl) ?_
  refine lv_iconst (v := 1) hx hb dX12_isOnce_28 (by decide +kernel) ?_
  refine lv_iload_n hx hb dX12_isOnce_29 rfl (lv_at hl 3 rfl) ?_
  refine jw_ishl (v := 4) hx hb dX12_isOnce_30 (by decide +kernel) ?_
  refine lv_iconst (v := 1) hx hb dX12_isOnce_31 (by decide +kernel) ?_
  refine jw_isub (v := 3) hx hb dX12_isOnce_32 (by decide +kernel) ?_
  refine lv_icmp_ne (tgt := 40) hx hb dX12_isOnce_33 (by decide) (fun _ => ?_) (fun c9 => absurd c9 (by decide +kernel))
  refine lv_iconst (v := 0) hx hb dX12_isOnce_40 (by decide +kernel) ?_
  refine W.widen (k := 0) (n := 0) (Nat.le_of_ble_eq_true rfl) (Nat.le_of_ble_eq_true rfl) ?_
  exact jw_zret hx hb hr hlocks rfl rfl rfl hP hD hS dX12_isOnce_41
set_option maxHeartbeats 4000000 in
set_option maxRecDepth 100000 in
theorem k631_X12_arrange {l : Launch} {D : va_G} {Y : Nat → ClassId} {tt : Nat → Nat} (h0 h1 h2 h3 h4 h5 h6 h7 h8 h9 h10 h11 h12 h13 h14 h15 h16 h17 h18 h19 h20 h21 h22 h23 h24 h25 h26 h27 h28 h29 h30 h31 h32 h33 h34 h35 : Nat) (p1 : Int32) (g_p1 : p1.toBitVec.toNat % 16 = 12) (sz : Nat) : Met l yX12_arrange wsX12_arrange ({ frames := 1, cells := 0, slots := 0, locals := 23 }) (jw_Pc D Y tt [.ref h0, .int p1] [(h0, .inr (15, [.ref h1, .int 0, .int 0, .ref h2, .int 0, .int (-1), .int 0, .int 0, .int 0, .int 0, .int 0, .int 2, .int 0, .int 0, .int 0, .ref h3, .ref h4, .ref h5, .ref h6, .int 2, .int 0, .int 0, .int 0, .int 0, .ref h7, .ref h8, .ref h9, .ref h10, .int 2, .ref h11, .int 1, .ref h12, .ref h13, .int 1, .ref h14, .ref h15, .ref h16, .int 0, .ref h17, .ref h18, .ref h19, .ref h20, .ref h21, .ref h22, .ref h23, .ref h24, .ref h25, .int 0, .ref h26, .ref h27, .ref h28, .int (-1), .ref h29, .long 0, .long 0, .int 0, .int 0, .long 0, .long 0, .ref h30, .ref h31, .ref h32, .ref h33, .ref h34, .ref h35, .long 0]))] sz) (jw_Qi D (fun r => r = 0) (fun w => w = []) (va_A [(h0, .inr (15, [.ref h1, .int 0, .int 0, .ref h2, .int 0, .int (-1), .int 0, .int 0, .int 0, .int 0, .int 0, .int 2, .int 0, .int 0, .int 0, .ref h3, .ref h4, .ref h5, .ref h6, .int 2, .int 0, .int 0, .int 0, .int 0, .ref h7, .ref h8, .ref h9, .ref h10, .int 2, .ref h11, .int 1, .ref h12, .ref h13, .int 1, .ref h14, .ref h15, .ref h16, .int 0, .ref h17, .ref h18, .ref h19, .ref h20, .ref h21, .ref h22, .ref h23, .ref h24, .ref h25, .int 0, .ref h26, .ref h27, .ref h28, .int (-1), .ref h29, .long 0, .long 0, .int 0, .int 0, .long 0, .long 0, .ref h30, .ref h31, .ref h32, .ref h33, .ref h34, .ref h35, .long 0]))] sz)) 0 0 (va_A [(h0, .inr (15, [.ref h1, .int 0, .int 0, .ref h2, .int 0, .int (-1), .int 0, .int 0, .int 0, .int 0, .int 0, .int 2, .int 0, .int 0, .int 0, .ref h3, .ref h4, .ref h5, .ref h6, .int 2, .int 0, .int 0, .int 0, .int 0, .ref h7, .ref h8, .ref h9, .ref h10, .int 2, .ref h11, .int 1, .ref h12, .ref h13, .int 1, .ref h14, .ref h15, .ref h16, .int 0, .ref h17, .ref h18, .ref h19, .ref h20, .ref h21, .ref h22, .ref h23, .ref h24, .ref h25, .int 0, .ref h26, .ref h27, .ref h28, .int (-1), .ref h29, .long 0, .long 0, .int 0, .int 0, .long 0, .long 0, .ref h30, .ref h31, .ref h32, .ref h33, .ref h34, .ref h35, .long 0]))] sz) := by
  refine jw_met (fun A => jw_Qi D (fun r => r = 0) (fun w => w = []) A) (cc := cX12_arrange) (maxL := 3) (ret := (some .boolean)) pn_X12_arrange rfl rfl ?_
  intro p e s m below meth c A H locs ls hx hb hml hr hts hown hlocks hin hP hD hA hS hE hl
  have hown : s.vm.findClass RX12 = some m.cls := hown
  have hl : lv_has ls 3 [(0, .ref h0), (1, .int p1)] := hl
  refine lv_aload_n hx hb dX12_arrange_0 rfl (lv_at hl 0 rfl) ?_
  refine lv_iconst (v := 0) hx hb dX12_arrange_1 (by decide +kernel) ?_
  refine va_put (D := D) (ci := 15) (v := .int 0) (C := RX12) (T := TX12) (N := 66) hx hb hts iw_X12_arrange__X12 tyX12 tyX12_ok nmX12 hown hE.1 hP hD hS 0 rfl rfl 2 (by decide) (hts _ mw_X12_arrange__1) (fun _ h9 => h9) rfl (tyX12_ok 2 (by decide)) rfl rfl (Nat.le_of_ble_eq_true rfl) dX12_arrange_2 (fun H locs hP hD hS => ?_)
  have hP : va_P D vwCl [(h0, .inr (15, [.ref h1, .int 0, .int 0, .ref h2, .int 0, .int (-1), .int 0, .int 0, .int 0, .int 0, .int 0, .int 2, .int 0, .int 0, .int 0, .ref h3, .ref h4, .ref h5, .ref h6, .int 2, .int 0, .int 0, .int 0, .int 0, .ref h7, .ref h8, .ref h9, .ref h10, .int 2, .ref h11, .int 1, .ref h12, .ref h13, .int 1, .ref h14, .ref h15, .ref h16, .int 0, .ref h17, .ref h18, .ref h19, .ref h20, .ref h21, .ref h22, .ref h23, .ref h24, .ref h25, .int 0, .ref h26, .ref h27, .ref h28, .int (-1), .ref h29, .long 0, .long 0, .int 0, .int 0, .long 0, .long 0, .ref h30, .ref h31, .ref h32, .ref h33, .ref h34, .ref h35, .long 0]))] H := hP
  have hD : va_D A [(h0, .inr (15, [.ref h1, .int 0, .int 0, .ref h2, .int 0, .int (-1), .int 0, .int 0, .int 0, .int 0, .int 0, .int 2, .int 0, .int 0, .int 0, .ref h3, .ref h4, .ref h5, .ref h6, .int 2, .int 0, .int 0, .int 0, .int 0, .ref h7, .ref h8, .ref h9, .ref h10, .int 2, .ref h11, .int 1, .ref h12, .ref h13, .int 1, .ref h14, .ref h15, .ref h16, .int 0, .ref h17, .ref h18, .ref h19, .ref h20, .ref h21, .ref h22, .ref h23, .ref h24, .ref h25, .int 0, .ref h26, .ref h27, .ref h28, .int (-1), .ref h29, .long 0, .long 0, .int 0, .int 0, .long 0, .long 0, .ref h30, .ref h31, .ref h32, .ref h33, .ref h34, .ref h35, .long 0]))] := hD
  refine lv_iload_n hx hb dX12_arrange_5 rfl (lv_at hl 1 rfl) ?_
  refine lv_aload_n hx hb dX12_arrange_6 rfl (lv_at hl 0 rfl) ?_
  refine va_get (D := D) (ci := 15) (v := .int 2) (C := RX12) (T := TX12) (N := 66) hx hb hts iw_X12_arrange__X12 hown hE.1 hP 0 rfl rfl 11 (by decide) (hts _ mw_X12_arrange__2) (fun _ h9 => h9) rfl dX12_arrange_7 ?_
  refine jw_mi (wc := []) (cs := 0) (ss := 0) (va_runS (As := [.int p1, .int 2]) (rest := []) ⟨hx, hb, hml, hown, hts⟩ (k630_X12_isOnce p1 g_p1 H.size) (va_cwS 2 hts gX12_arrange_X12_isOnce rfl rfl rfl ydS_X12_isOnce ⟨Nat.le_of_ble_eq_true rfl, Nat.le_of_ble_eq_true rfl⟩) (jw_mpreS hP hD hS hA hE [] rfl) rfl rfl hl.1 rfl (lv_room (Nat.le_of_ble_eq_true rfl)) dX12_arrange_10 ⟨Nat.le_of_ble_eq_true rfl, Nat.le_of_ble_eq_true rfl⟩) hP hD hS hA [] rfl rfl rfl (fun r9 w1 H locs hr9 hw9 hP hD hS => ?_)
  subst hr9
  subst hw9
  have hP : va_P D vwCl [(h0, .inr (15, [.ref h1, .int 0, .int 0, .ref h2, .int 0, .int (-1), .int 0, .int 0, .int 0, .int 0, .int 0, .int 2, .int 0, .int 0, .int 0, .ref h3, .ref h4, .ref h5, .ref h6, .int 2, .int 0, .int 0, .int 0, .int 0, .ref h7, .ref h8, .ref h9, .ref h10, .int 2, .ref h11, .int 1, .ref h12, .ref h13, .int 1, .ref h14, .ref h15, .ref h16, .int 0, .ref h17, .ref h18, .ref h19, .ref h20, .ref h21, .ref h22, .ref h23, .ref h24, .ref h25, .int 0, .ref h26, .ref h27, .ref h28, .int (-1), .ref h29, .long 0, .long 0, .int 0, .int 0, .long 0, .long 0, .ref h30, .ref h31, .ref h32, .ref h33, .ref h34, .ref h35, .long 0]))] H := hP
  have hD : va_D A [(h0, .inr (15, [.ref h1, .int 0, .int 0, .ref h2, .int 0, .int (-1), .int 0, .int 0, .int 0, .int 0, .int 0, .int 2, .int 0, .int 0, .int 0, .ref h3, .ref h4, .ref h5, .ref h6, .int 2, .int 0, .int 0, .int 0, .int 0, .ref h7, .ref h8, .ref h9, .ref h10, .int 2, .ref h11, .int 1, .ref h12, .ref h13, .int 1, .ref h14, .ref h15, .ref h16, .int 0, .ref h17, .ref h18, .ref h19, .ref h20, .ref h21, .ref h22, .ref h23, .ref h24, .ref h25, .int 0, .ref h26, .ref h27, .ref h28, .int (-1), .ref h29, .long 0, .long 0, .int 0, .int 0, .long 0, .long 0, .ref h30, .ref h31, .ref h32, .ref h33, .ref h34, .ref h35, .long 0]))] := hD
  refine lv_if_ne (tgt := 18) hx hb dX12_arrange_13 (by decide) (fun c9 => absurd (by decide +kernel) c9) (fun _ => ?_)
  refine lv_iconst (v := 0) hx hb dX12_arrange_16 (by decide +kernel) ?_
  refine W.widen (k := 0) (n := 0) (Nat.le_of_ble_eq_true rfl) (Nat.le_of_ble_eq_true rfl) ?_
  have hP : va_P D vwCl [] H := hP.sub [] rfl
  have hD : va_D A [] := hD.sub [] rfl rfl
  exact jw_zret hx hb hr hlocks rfl rfl rfl hP hD hS dX12_arrange_17
set_option maxHeartbeats 4000000 in
set_option maxRecDepth 100000 in
theorem k632_X11_readTurns {l : Launch} {D : va_G} {Y : Nat → ClassId} {tt : Nat → Nat} (h0 : Nat) (p0 : Int32) (g_p0 : p0.toBitVec.toNat % 16 = 13) (sz : Nat) : Met l yX11_readTurns wsX11_readTurns ({ frames := 0, cells := 0, slots := 0, locals := 0 }) (jw_Pc D Y tt [.int p0, .int 2, .ref h0] [] sz) (jw_Qi D (fun r => r = 0) (fun w => w = []) (va_A [] sz)) 0 0 (va_A [] sz) := by
  refine jw_met (fun A => jw_Qi D (fun r => r = 0) (fun w => w = []) A) (cc := cX11_readTurns) (maxL := 5) (ret := (some .boolean)) pn_X11_readTurns rfl rfl ?_
  intro p e s m below meth c A H locs ls hx hb hml hr hts hown hlocks hin hP hD hA hS hE hl
  have hown : s.vm.findClass RX11 = some m.cls := hown
  have hl : lv_has ls 5 [(0, .int p0), (1, .int 2), (2, .ref h0)] := hl
  refine lv_iconst (v := 0) hx hb dX11_readTurns_0 (by decide +kernel) ?_
  refine lv_istore_n (lv' := [(3, .int 0), (0, .int p0), (1, .int 2), (2, .ref h0)]) hx hb dX11_readTurns_1 rfl hl (by decide) rfl (fun ls hl => ?_)
  refine lv_iconst (v := 0) hx hb dX11_readTurns_2 (by decide +kernel) ?_
  refine lv_istore (lv' := [(4, .int 0), (3, .int 0), (0, .int p0), (1, .int 2), (2, .ref h0)]) hx hb dX11_readTurns_3 hl (by decide) rfl (fun ls hl => ?_)
  refine lv_iload hx hb dX11_readTurns_5 (lv_at hl 0 rfl) ?_
  refine lv_iload_n hx hb dX11_readTurns_7 rfl (lv_at hl 3 rfl) ?_
  refine lv_icmp_ge (tgt := 30) hx hb dX11_readTurns_8 (by decide) (fun c9 => absurd c9 (by decide +kernel)) (fun _ => ?_)
  refine lv_iload_n hx hb dX11_readTurns_11 rfl (lv_at hl 1 rfl) ?_
  refine lv_iconst (v := 1) hx hb dX11_readTurns_12 (by decide +kernel) ?_
  refine lv_iload_n hx hb dX11_readTurns_13 rfl (lv_at hl 2 rfl) ?_
  refine lv_iconst (v := 2) hx hb dX11_readTurns_14 (by decide +kernel) ?_
  refine lv_iload hx hb dX11_readTurns_15 (lv_at hl 0 rfl) ?_
  refine jw_imul (v := 0) hx hb dX11_readTurns_17 (by decide +kernel) ?_
  refine lv_iushr (v := (p0.toUInt32 >>> ((0 : Int32).toUInt32 &&& Int32.toUInt32 31)).toInt32) hx hb dX11_readTurns_18 rfl ?_
  refine lv_iconst (v := 3) hx hb dX11_readTurns_19 (by decide +kernel) ?_
  refine jw_iand (v := 1) hx hb dX11_readTurns_20 (jw_bu0 g_p0 (by decide +kernel)) ?_
  refine jw_ishl (v := 2) hx hb dX11_readTurns_21 (by decide +kernel) ?_
  refine jw_ior (v := 2) hx hb dX11_readTurns_22 (by decide +kernel) ?_
  refine lv_istore_n (lv' := [(3, .int 2), (4, .int 0), (0, .int p0), (1, .int 2), (2, .ref h0)]) hx hb dX11_readTurns_23 rfl hl (by decide) rfl (fun ls hl => ?_)
  refine lv_iinc (v := 1) (lv' := [(4, .int 1), (3, .int 2), (0, .int p0), (1, .int 2), (2, .ref h0)]) hx hb dX11_readTurns_24 hl (k := 1) rfl (by decide +kernel) (by decide) rfl (fun ls hl => ?_)
  refine lv_goto (tgt := 5) hx hb dX11_readTurns_27 (by decide) ?_
  refine lv_iload hx hb dX11_readTurns_5 (lv_at hl 0 rfl) ?_
  refine lv_iload_n hx hb dX11_readTurns_7 rfl (lv_at hl 3 rfl) ?_
  refine lv_icmp_ge (tgt := 30) hx hb dX11_readTurns_8 (by decide) (fun c9 => absurd c9 (by decide +kernel)) (fun _ => ?_)
  refine lv_iload_n hx hb dX11_readTurns_11 rfl (lv_at hl 1 rfl) ?_
  refine lv_iconst (v := 1) hx hb dX11_readTurns_12 (by decide +kernel) ?_
  refine lv_iload_n hx hb dX11_readTurns_13 rfl (lv_at hl 2 rfl) ?_
  refine lv_iconst (v := 2) hx hb dX11_readTurns_14 (by decide +kernel) ?_
  refine lv_iload hx hb dX11_readTurns_15 (lv_at hl 0 rfl) ?_
  refine jw_imul (v := 2) hx hb dX11_readTurns_17 (by decide +kernel) ?_
  refine lv_iushr (v := (p0.toUInt32 >>> ((2 : Int32).toUInt32 &&& Int32.toUInt32 31)).toInt32) hx hb dX11_readTurns_18 rfl ?_
  refine lv_iconst (v := 3) hx hb dX11_readTurns_19 (by decide +kernel) ?_
  refine jw_iand (v := 3) hx hb dX11_readTurns_20 (jw_bu1 g_p0 (by decide +kernel)) ?_
  refine jw_ishl (v := 8) hx hb dX11_readTurns_21 (by decide +kernel) ?_
  refine jw_ior (v := 10) hx hb dX11_readTurns_22 (by decide +kernel) ?_
  refine lv_istore_n (lv' := [(3, .int 10), (4, .int 1), (0, .int p0), (1, .int 2), (2, .ref h0)]) hx hb dX11_readTurns_23 rfl hl (by decide) rfl (fun ls hl => ?_)
  refine lv_iinc (v := 2) (lv' := [(4, .int 2), (3, .int 10), (0, .int p0), (1, .int 2), (2, .ref h0)]) hx hb dX11_readTurns_24 hl (k := 1) rfl (by decide +kernel) (by decide) rfl (fun ls hl => ?_)
  refine lv_goto (tgt := 5) hx hb dX11_readTurns_27 (by decide) ?_
  refine lv_iload hx hb dX11_readTurns_5 (lv_at hl 0 rfl) ?_
  refine lv_iload_n hx hb dX11_readTurns_7 rfl (lv_at hl 3 rfl) ?_
  refine lv_icmp_ge (tgt := 30) hx hb dX11_readTurns_8 (by decide) (fun _ => ?_) (fun c9 => absurd (by decide +kernel) c9)
  refine lv_iload_n hx hb dX11_readTurns_30 rfl (lv_at hl 1 rfl) ?_
  refine lv_iconst (v := 1) hx hb dX11_readTurns_31 (by decide +kernel) ?_
  refine lv_iload_n hx hb dX11_readTurns_32 rfl (lv_at hl 3 rfl) ?_
  refine jw_ishl (v := 4) hx hb dX11_readTurns_33 (by decide +kernel) ?_
  refine lv_iconst (v := 1) hx hb dX11_readTurns_34 (by decide +kernel) ?_
  refine jw_isub (v := 3) hx hb dX11_readTurns_35 (by decide +kernel) ?_
  refine lv_icmp_eq (tgt := 41) hx hb dX11_readTurns_36 (by decide) (fun c9 => absurd c9 (by decide +kernel)) (fun _ => ?_)
  refine lv_iconst (v := 0) hx hb dX11_readTurns_39 (by decide +kernel) ?_
  refine W.widen (k := 0) (n := 0) (Nat.le_of_ble_eq_true rfl) (Nat.le_of_ble_eq_true rfl) ?_
  exact jw_zret hx hb hr hlocks rfl rfl rfl hP hD hS dX11_readTurns_40
set_option maxHeartbeats 4000000 in
set_option maxRecDepth 100000 in
theorem k633_X11_arrange {l : Launch} {D : va_G} {Y : Nat → ClassId} {tt : Nat → Nat} (h0 h1 h2 h3 h4 h5 h6 h7 h8 h9 h10 h11 h12 h13 h14 h15 h16 h17 h18 h19 h20 h21 h22 h23 h24 h25 : Nat) (p1 : Int32) (g_p1 : p1.toBitVec.toNat % 16 = 13) (sz : Nat) : Met l yX11_arrange wsX11_arrange ({ frames := 1, cells := 0, slots := 0, locals := 24 }) (jw_Pc D Y tt [.ref h0, .int p1] [(h0, .inr (14, [.ref h3, .int 0, .ref h1, .ref h4, .ref h5, .ref h6, .ref h2, .ref h7, .ref h8, .ref h9, .ref h10, .ref h11, .ref h12, .ref h13, .ref h14, .ref h15, .int (-3), .int (-3)])), (h1, .inr (6, [.int 2, .int 0, .int 0, .int 0, .int 0, .ref h16, .ref h17, .ref h18, .ref h19, .ref h20, .int 0])), (h2, .inr (11, [.ref h1, .ref h5, .ref h21, .ref h22, .ref h23, .ref h24, .int 0, .ref h25]))] sz) (jw_Qi D (fun r => r = 0) (fun w => w = []) (va_A [(h0, .inr (14, [.ref h3, .int 0, .ref h1, .ref h4, .ref h5, .ref h6, .ref h2, .ref h7, .ref h8, .ref h9, .ref h10, .ref h11, .ref h12, .ref h13, .ref h14, .ref h15, .int (-3), .int (-3)])), (h1, .inr (6, [.int 2, .int 0, .int 0, .int 0, .int 0, .ref h16, .ref h17, .ref h18, .ref h19, .ref h20, .int 0])), (h2, .inr (11, [.ref h1, .ref h5, .ref h21, .ref h22, .ref h23, .ref h24, .int 0, .ref h25]))] sz)) 0 0 (va_A [(h0, .inr (14, [.ref h3, .int 0, .ref h1, .ref h4, .ref h5, .ref h6, .ref h2, .ref h7, .ref h8, .ref h9, .ref h10, .ref h11, .ref h12, .ref h13, .ref h14, .ref h15, .int (-3), .int (-3)])), (h1, .inr (6, [.int 2, .int 0, .int 0, .int 0, .int 0, .ref h16, .ref h17, .ref h18, .ref h19, .ref h20, .int 0])), (h2, .inr (11, [.ref h1, .ref h5, .ref h21, .ref h22, .ref h23, .ref h24, .int 0, .ref h25]))] sz) := by
  refine jw_met (fun A => jw_Qi D (fun r => r = 0) (fun w => w = []) A) (cc := cX11_arrange) (maxL := 2) (ret := (some .boolean)) pn_X11_arrange rfl rfl ?_
  intro p e s m below meth c A H locs ls hx hb hml hr hts hown hlocks hin hP hD hA hS hE hl
  have hown : s.vm.findClass RX11 = some m.cls := hown
  have hl : lv_has ls 2 [(0, .ref h0), (1, .int p1)] := hl
  refine lv_iload_n hx hb dX11_arrange_0 rfl (lv_at hl 1 rfl) ?_
  refine lv_aload_n hx hb dX11_arrange_1 rfl (lv_at hl 0 rfl) ?_
  refine va_get (D := D) (ci := 14) (v := .ref h1) (C := RX11) (T := TX11) (N := 18) hx hb hts iw_X11_arrange__X11 hown hE.1 hP 0 rfl rfl 2 (by decide) (hts _ mw_X11_arrange__1) (fun _ h9 => h9) rfl dX11_arrange_2 ?_
  refine va_getN (D := D) (ci := 6) (v := .int 2) (C := RX3) (T := TX3) (N := 11) hx hb hts iw_X11_arrange__X3 hown hE.1 hP 1 rfl rfl 0 (by decide) (nf_X11_133 hE) (fun _ h9 => h9) rfl dX11_arrange_5 ?_
  refine lv_aload_n hx hb dX11_arrange_8 rfl (lv_at hl 0 rfl) ?_
  refine va_get (D := D) (ci := 14) (v := .ref h2) (C := RX11) (T := TX11) (N := 18) hx hb hts iw_X11_arrange__X11 hown hE.1 hP 0 rfl rfl 6 (by decide) (hts _ mw_X11_arrange__2) (fun _ h9 => h9) rfl dX11_arrange_9 ?_
  refine va_getN (D := D) (ci := 11) (v := .ref h22) (C := RX8) (T := TX8) (N := 8) hx hb hts iw_X11_arrange__X8 hown hE.1 hP 2 rfl rfl 3 (by decide) (nf_X11_221 hE) (fun _ h9 => h9) rfl dX11_arrange_12 ?_
  refine jw_mi (wc := []) (cs := 0) (ss := 0) (va_runS (As := [.int p1, .int 2, .ref h22]) (rest := []) ⟨hx, hb, hml, hown, hts⟩ (k632_X11_readTurns h22 p1 g_p1 H.size) (va_cwS 3 hts gX11_arrange_X11_readTurns rfl rfl rfl ydS_X11_readTurns ⟨Nat.le_of_ble_eq_true rfl, Nat.le_of_ble_eq_true rfl⟩) (jw_mpreS hP hD hS hA hE [] rfl) rfl rfl hl.1 rfl (lv_room (Nat.le_of_ble_eq_true rfl)) dX11_arrange_15 ⟨Nat.le_of_ble_eq_true rfl, Nat.le_of_ble_eq_true rfl⟩) hP hD hS hA [] rfl rfl rfl (fun r9 w1 H locs hr9 hw9 hP hD hS => ?_)
  subst hr9
  subst hw9
  have hP : va_P D vwCl [(h0, .inr (14, [.ref h3, .int 0, .ref h1, .ref h4, .ref h5, .ref h6, .ref h2, .ref h7, .ref h8, .ref h9, .ref h10, .ref h11, .ref h12, .ref h13, .ref h14, .ref h15, .int (-3), .int (-3)])), (h1, .inr (6, [.int 2, .int 0, .int 0, .int 0, .int 0, .ref h16, .ref h17, .ref h18, .ref h19, .ref h20, .int 0])), (h2, .inr (11, [.ref h1, .ref h5, .ref h21, .ref h22, .ref h23, .ref h24, .int 0, .ref h25]))] H := hP
  have hD : va_D A [(h0, .inr (14, [.ref h3, .int 0, .ref h1, .ref h4, .ref h5, .ref h6, .ref h2, .ref h7, .ref h8, .ref h9, .ref h10, .ref h11, .ref h12, .ref h13, .ref h14, .ref h15, .int (-3), .int (-3)])), (h1, .inr (6, [.int 2, .int 0, .int 0, .int 0, .int 0, .ref h16, .ref h17, .ref h18, .ref h19, .ref h20, .int 0])), (h2, .inr (11, [.ref h1, .ref h5, .ref h21, .ref h22, .ref h23, .ref h24, .int 0, .ref h25]))] := hD
  refine lv_if_ne (tgt := 23) hx hb dX11_arrange_18 (by decide) (fun c9 => absurd (by decide +kernel) c9) (fun _ => ?_)
  refine lv_iconst (v := 0) hx hb dX11_arrange_21 (by decide +kernel) ?_
  refine W.widen (k := 0) (n := 0) (Nat.le_of_ble_eq_true rfl) (Nat.le_of_ble_eq_true rfl) ?_
  have hP : va_P D vwCl [] H := hP.sub [] rfl
  have hD : va_D A [] := hD.sub [] rfl rfl
  exact jw_zret hx hb hr hlocks rfl rfl rfl hP hD hS dX11_arrange_22
set_option maxHeartbeats 4000000 in
set_option maxRecDepth 100000 in
theorem k634_X12_isOnce {l : Launch} {D : va_G} {Y : Nat → ClassId} {tt : Nat → Nat} (p0 : Int32) (g_p0 : p0.toBitVec.toNat % 16 = 13) (sz : Nat) : Met l yX12_isOnce wsX12_isOnce ({ frames := 0, cells := 0, slots := 0, locals := 0 }) (jw_Pc D Y tt [.int p0, .int 2] [] sz) (jw_Qi D (fun r => r = 0) (fun w => w = []) (va_A [] sz)) 0 0 (va_A [] sz) := by
  refine jw_met (fun A => jw_Qi D (fun r => r = 0) (fun w => w = []) A) (cc := cX12_isOnce) (maxL := 4) (ret := (some .boolean)) pn_X12_isOnce rfl rfl ?_
  intro p e s m below meth c A H locs ls hx hb hml hr hts hown hlocks hin hP hD hA hS hE hl
  have hown : s.vm.findClass RX12 = some m.cls := hown
  have hl : lv_has ls 4 [(0, .int p0), (1, .int 2)] := hl
  refine lv_iconst (v := 0) hx hb dX12_isOnce_0 (by decide +kernel) ?_
  refine lv_istore_n (lv' := [(2, .int 0), (0, .int p0), (1, .int 2)]) hx hb dX12_isOnce_1 rfl hl (by decide) rfl (fun ls hl => ?_)
  refine lv_iconst (v := 0) hx hb dX12_isOnce_2 (by decide +kernel) ?_
  refine lv_istore_n (lv' := [(3, .int 0), (2, .int 0), (0, .int p0), (1, .int 2)]) hx hb dX12_isOnce_3 rfl hl (by decide) rfl (fun ls hl => ?_)
  refine lv_iload_n hx hb dX12_isOnce_4 rfl (lv_at hl 0 rfl) ?_
  refine lv_iload_n hx hb dX12_isOnce_5 rfl (lv_at hl 3 rfl) ?_
  refine lv_icmp_ge (tgt := 27) hx hb dX12_isOnce_6 (by decide) (fun c9 => absurd c9 (by decide +kernel)) (fun _ => ?_)
  refine lv_iload_n hx hb dX12_isOnce_9 rfl (lv_at hl 1 rfl) ?_
  refine lv_iconst (v := 1) hx hb dX12_isOnce_10 (by decide +kernel) ?_
  refine lv_iload_n hx hb dX12_isOnce_11 rfl (lv_at hl 2 rfl) ?_
  refine lv_iconst (v := 2) hx hb dX12_isOnce_12 (by decide +kernel) ?_
  refine lv_iload_n hx hb dX12_isOnce_13 rfl (lv_at hl 0 rfl) ?_
  refine jw_imul (v := 0) hx hb dX12_isOnce_14 (by decide +kernel) ?_
  refine jw_ishr (v := (p0 >>> (0 &&& 31))) hx hb dX12_isOnce_15 rfl ?_
  refine lv_iconst (v := 3) hx hb dX12_isOnce_16 (by decide +kernel) ?_
  refine jw_iand (v := 1) hx hb dX12_isOnce_17 (jw_bs0 g_p0 (by decide +kernel)) ?_
  refine jw_ishl (v := 2) hx hb dX12_isOnce_18 (by decide +kernel) ?_
  refine jw_ior (v := 2) hx hb dX12_isOnce_19 (by decide +kernel) ?_
  refine lv_istore_n (lv' := [(2, .int 2), (3, .int 0), (0, .int p0), (1, .int 2)]) hx hb dX12_isOnce_20 rfl hl (by decide) rfl (fun ls hl => ?_)
  refine lv_iinc (v := 1) (lv' := [(3, .int 1), (2, .int 2), (0, .int p0), (1, .int 2)]) hx hb dX12_isOnce_21 hl (k := 1) rfl (by decide +kernel) (by decide) rfl (fun ls hl => ?_)
  refine lv_goto (tgt := 4) hx hb dX12_isOnce_24 (by decide) ?_
  refine lv_iload_n hx hb dX12_isOnce_4 rfl (lv_at hl 0 rfl) ?_
  refine lv_iload_n hx hb dX12_isOnce_5 rfl (lv_at hl 3 rfl) ?_
  refine lv_icmp_ge (tgt := 27) hx hb dX12_isOnce_6 (by decide) (fun c9 => absurd c9 (by decide +kernel)) (fun _ => ?_)
  refine lv_iload_n hx hb dX12_isOnce_9 rfl (lv_at hl 1 rfl) ?_
  refine lv_iconst (v := 1) hx hb dX12_isOnce_10 (by decide +kernel) ?_
  refine lv_iload_n hx hb dX12_isOnce_11 rfl (lv_at hl 2 rfl) ?_
  refine lv_iconst (v := 2) hx hb dX12_isOnce_12 (by decide +kernel) ?_
  refine lv_iload_n hx hb dX12_isOnce_13 rfl (lv_at hl 0 rfl) ?_
  refine jw_imul (v := 2) hx hb dX12_isOnce_14 (by decide +kernel) ?_
  refine jw_ishr (v := (p0 >>> (2 &&& 31))) hx hb dX12_isOnce_15 rfl ?_
  refine lv_iconst (v := 3) hx hb dX12_isOnce_16 (by decide +kernel) ?_
  refine jw_iand (v := 3) hx hb dX12_isOnce_17 (jw_bs1 g_p0 (by decide +kernel)) ?_
  refine jw_ishl (v := 8) hx hb dX12_isOnce_18 (by decide +kernel) ?_
  refine jw_ior (v := 10) hx hb dX12_isOnce_19 (by decide +kernel) ?_
  refine lv_istore_n (lv' := [(2, .int 10), (3, .int 1), (0, .int p0), (1, .int 2)]) hx hb dX12_isOnce_20 rfl hl (by decide) rfl (fun ls hl => ?_)
  refine lv_iinc (v := 2) (lv' := [(3, .int 2), (2, .int 10), (0, .int p0), (1, .int 2)]) hx hb dX12_isOnce_21 hl (k := 1) rfl (by decide +kernel) (by decide) rfl (fun ls hl => ?_)
  refine lv_goto (tgt := 4) hx hb dX12_isOnce_24 (by decide) ?_
  refine lv_iload_n hx hb dX12_isOnce_4 rfl (lv_at hl 0 rfl) ?_
  refine lv_iload_n hx hb dX12_isOnce_5 rfl (lv_at hl 3 rfl) ?_
  refine lv_icmp_ge (tgt := 27) hx hb dX12_isOnce_6 (by decide) (fun _ => ?_) (fun c9 => absurd (by decide +kernel) c9)
  refine lv_iload_n hx hb dX12_isOnce_27 rfl (lv_at hl 1 rfl) ?_
  refine lv_iconst (v := 1) hx hb dX12_isOnce_28 (by decide +kernel) ?_
  refine lv_iload_n hx hb dX12_isOnce_29 rfl (lv_at hl 3 rfl) ?_
  refine jw_ishl (v := 4) hx hb dX12_isOnce_30 (by decide +kernel) ?_
  refine lv_iconst (v := 1) hx hb dX12_isOnce_31 (by decide +kernel) ?_
  refine jw_isub (v := 3) hx hb dX12_isOnce_32 (by decide +kernel) ?_
  refine lv_icmp_ne (tgt := 40) hx hb dX12_isOnce_33 (by decide) (fun _ => ?_) (fun c9 => absurd c9 (by decide +kernel))
  refine lv_iconst (v := 0) hx hb dX12_isOnce_40 (by decide +kernel) ?_
  refine W.widen (k := 0) (n := 0) (Nat.le_of_ble_eq_true rfl) (Nat.le_of_ble_eq_true rfl) ?_
  exact jw_zret hx hb hr hlocks rfl rfl rfl hP hD hS dX12_isOnce_41
set_option maxHeartbeats 4000000 in
set_option maxRecDepth 100000 in
theorem k635_X12_arrange {l : Launch} {D : va_G} {Y : Nat → ClassId} {tt : Nat → Nat} (h0 h1 h2 h3 h4 h5 h6 h7 h8 h9 h10 h11 h12 h13 h14 h15 h16 h17 h18 h19 h20 h21 h22 h23 h24 h25 h26 h27 h28 h29 h30 h31 h32 h33 h34 h35 : Nat) (p1 : Int32) (g_p1 : p1.toBitVec.toNat % 16 = 13) (sz : Nat) : Met l yX12_arrange wsX12_arrange ({ frames := 1, cells := 0, slots := 0, locals := 23 }) (jw_Pc D Y tt [.ref h0, .int p1] [(h0, .inr (15, [.ref h1, .int 0, .int 0, .ref h2, .int 0, .int (-1), .int 0, .int 0, .int 0, .int 0, .int 0, .int 2, .int 0, .int 0, .int 0, .ref h3, .ref h4, .ref h5, .ref h6, .int 2, .int 0, .int 0, .int 0, .int 0, .ref h7, .ref h8, .ref h9, .ref h10, .int 2, .ref h11, .int 1, .ref h12, .ref h13, .int 1, .ref h14, .ref h15, .ref h16, .int 0, .ref h17, .ref h18, .ref h19, .ref h20, .ref h21, .ref h22, .ref h23, .ref h24, .ref h25, .int 0, .ref h26, .ref h27, .ref h28, .int (-1), .ref h29, .long 0, .long 0, .int 0, .int 0, .long 0, .long 0, .ref h30, .ref h31, .ref h32, .ref h33, .ref h34, .ref h35, .long 0]))] sz) (jw_Qi D (fun r => r = 0) (fun w => w = []) (va_A [(h0, .inr (15, [.ref h1, .int 0, .int 0, .ref h2, .int 0, .int (-1), .int 0, .int 0, .int 0, .int 0, .int 0, .int 2, .int 0, .int 0, .int 0, .ref h3, .ref h4, .ref h5, .ref h6, .int 2, .int 0, .int 0, .int 0, .int 0, .ref h7, .ref h8, .ref h9, .ref h10, .int 2, .ref h11, .int 1, .ref h12, .ref h13, .int 1, .ref h14, .ref h15, .ref h16, .int 0, .ref h17, .ref h18, .ref h19, .ref h20, .ref h21, .ref h22, .ref h23, .ref h24, .ref h25, .int 0, .ref h26, .ref h27, .ref h28, .int (-1), .ref h29, .long 0, .long 0, .int 0, .int 0, .long 0, .long 0, .ref h30, .ref h31, .ref h32, .ref h33, .ref h34, .ref h35, .long 0]))] sz)) 0 0 (va_A [(h0, .inr (15, [.ref h1, .int 0, .int 0, .ref h2, .int 0, .int (-1), .int 0, .int 0, .int 0, .int 0, .int 0, .int 2, .int 0, .int 0, .int 0, .ref h3, .ref h4, .ref h5, .ref h6, .int 2, .int 0, .int 0, .int 0, .int 0, .ref h7, .ref h8, .ref h9, .ref h10, .int 2, .ref h11, .int 1, .ref h12, .ref h13, .int 1, .ref h14, .ref h15, .ref h16, .int 0, .ref h17, .ref h18, .ref h19, .ref h20, .ref h21, .ref h22, .ref h23, .ref h24, .ref h25, .int 0, .ref h26, .ref h27, .ref h28, .int (-1), .ref h29, .long 0, .long 0, .int 0, .int 0, .long 0, .long 0, .ref h30, .ref h31, .ref h32, .ref h33, .ref h34, .ref h35, .long 0]))] sz) := by
  refine jw_met (fun A => jw_Qi D (fun r => r = 0) (fun w => w = []) A) (cc := cX12_arrange) (maxL := 3) (ret := (some .boolean)) pn_X12_arrange rfl rfl ?_
  intro p e s m below meth c A H locs ls hx hb hml hr hts hown hlocks hin hP hD hA hS hE hl
  have hown : s.vm.findClass RX12 = some m.cls := hown
  have hl : lv_has ls 3 [(0, .ref h0), (1, .int p1)] := hl
  refine lv_aload_n hx hb dX12_arrange_0 rfl (lv_at hl 0 rfl) ?_
  refine lv_iconst (v := 0) hx hb dX12_arrange_1 (by decide +kernel) ?_
  refine va_put (D := D) (ci := 15) (v := .int 0) (C := RX12) (T := TX12) (N := 66) hx hb hts iw_X12_arrange__X12 tyX12 tyX12_ok nmX12 hown hE.1 hP hD hS 0 rfl rfl 2 (by decide) (hts _ mw_X12_arrange__1) (fun _ h9 => h9) rfl (tyX12_ok 2 (by decide)) rfl rfl (Nat.le_of_ble_eq_true rfl) dX12_arrange_2 (fun H locs hP hD hS => ?_)
  have hP : va_P D vwCl [(h0, .inr (15, [.ref h1, .int 0, .int 0, .ref h2, .int 0, .int (-1), .int 0, .int 0, .int 0, .int 0, .int 0, .int 2, .int 0, .int 0, .int 0, .ref h3, .ref h4, .ref h5, .ref h6, .int 2, .int 0, .int 0, .int 0, .int 0, .ref h7, .ref h8, .ref h9, .ref h10, .int 2, .ref h11, .int 1, .ref h12, .ref h13, .int 1, .ref h14, .ref h15, .ref h16, .int 0, .ref h17, .ref h18, .ref h19, .ref h20, .ref h21, .ref h22, .ref h23, .ref h24, .ref h25, .int 0, .ref h26, .ref h27, .ref h28, .int (-1), .ref h29, .long 0, .long 0, .int 0, .int 0, .long 0, .long 0, .ref h30, .ref h31, .ref h32, .ref h33, .ref h34, .ref h35, .long 0]))] H := hP
  have hD : va_D A [(h0, .inr (15, [.ref h1, .int 0, .int 0, .ref h2, .int 0, .int (-1), .int 0, .int 0, .int 0, .int 0, .int 0, .int 2, .int 0, .int 0, .int 0, .ref h3, .ref h4, .ref h5, .ref h6, .int 2, .int 0, .int 0, .int 0, .int 0, .ref h7, .ref h8, .ref h9, .ref h10, .int 2, .ref h11, .int 1, .ref h12, .ref h13, .int 1, .ref h14, .ref h15, .ref h16, .int 0, .ref h17, .ref h18, .ref h19, .ref h20, .ref h21, .ref h22, .ref h23, .ref h24, .ref h25, .int 0, .ref h26, .ref h27, .ref h28, .int (-1), .ref h29, .long 0, .long 0, .int 0, .int 0, .long 0, .long 0, .ref h30, .ref h31, .ref h32, .ref h33, .ref h34, .ref h35, .long 0]))] := hD
  refine lv_iload_n hx hb dX12_arrange_5 rfl (lv_at hl 1 rfl) ?_
  refine lv_aload_n hx hb dX12_arrange_6 rfl (lv_at hl 0 rfl) ?_
  refine va_get (D := D) (ci := 15) (v := .int 2) (C := RX12) (T := TX12) (N := 66) hx hb hts iw_X12_arrange__X12 hown hE.1 hP 0 rfl rfl 11 (by decide) (hts _ mw_X12_arrange__2) (fun _ h9 => h9) rfl dX12_arrange_7 ?_
  refine jw_mi (wc := []) (cs := 0) (ss := 0) (va_runS (As := [.int p1, .int 2]) (rest := []) ⟨hx, hb, hml, hown, hts⟩ (k634_X12_isOnce p1 g_p1 H.size) (va_cwS 2 hts gX12_arrange_X12_isOnce rfl rfl rfl ydS_X12_isOnce ⟨Nat.le_of_ble_eq_true rfl, Nat.le_of_ble_eq_true rfl⟩) (jw_mpreS hP hD hS hA hE [] rfl) rfl rfl hl.1 rfl (lv_room (Nat.le_of_ble_eq_true rfl)) dX12_arrange_10 ⟨Nat.le_of_ble_eq_true rfl, Nat.le_of_ble_eq_true rfl⟩) hP hD hS hA [] rfl rfl rfl (fun r9 w1 H locs hr9 hw9 hP hD hS => ?_)
  subst hr9
  subst hw9
  have hP : va_P D vwCl [(h0, .inr (15, [.ref h1, .int 0, .int 0, .ref h2, .int 0, .int (-1), .int 0, .int 0, .int 0, .int 0, .int 0, .int 2, .int 0, .int 0, .int 0, .ref h3, .ref h4, .ref h5, .ref h6, .int 2, .int 0, .int 0, .int 0, .int 0, .ref h7, .ref h8, .ref h9, .ref h10, .int 2, .ref h11, .int 1, .ref h12, .ref h13, .int 1, .ref h14, .ref h15, .ref h16, .int 0, .ref h17, .ref h18, .ref h19, .ref h20, .ref h21, .ref h22, .ref h23, .ref h24, .ref h25, .int 0, .ref h26, .ref h27, .ref h28, .int (-1), .ref h29, .long 0, .long 0, .int 0, .int 0, .long 0, .long 0, .ref h30, .ref h31, .ref h32, .ref h33, .ref h34, .ref h35, .long 0]))] H := hP
  have hD : va_D A [(h0, .inr (15, [.ref h1, .int 0, .int 0, .ref h2, .int 0, .int (-1), .int 0, .int 0, .int 0, .int 0, .int 0, .int 2, .int 0, .int 0, .int 0, .ref h3, .ref h4, .ref h5, .ref h6, .int 2, .int 0, .int 0, .int 0, .int 0, .ref h7, .ref h8, .ref h9, .ref h10, .int 2, .ref h11, .int 1, .ref h12, .ref h13, .int 1, .ref h14, .ref h15, .ref h16, .int 0, .ref h17, .ref h18, .ref h19, .ref h20, .ref h21, .ref h22, .ref h23, .ref h24, .ref h25, .int 0, .ref h26, .ref h27, .ref h28, .int (-1), .ref h29, .long 0, .long 0, .int 0, .int 0, .long 0, .long 0, .ref h30, .ref h31, .ref h32, .ref h33, .ref h34, .ref h35, .long 0]))] := hD
  refine lv_if_ne (tgt := 18) hx hb dX12_arrange_13 (by decide) (fun c9 => absurd (by decide +kernel) c9) (fun _ => ?_)
  refine lv_iconst (v := 0) hx hb dX12_arrange_16 (by decide +kernel) ?_
  refine W.widen (k := 0) (n := 0) (Nat.le_of_ble_eq_true rfl) (Nat.le_of_ble_eq_true rfl) ?_
  have hP : va_P D vwCl [] H := hP.sub [] rfl
  have hD : va_D A [] := hD.sub [] rfl rfl
  exact jw_zret hx hb hr hlocks rfl rfl rfl hP hD hS dX12_arrange_17
set_option maxHeartbeats 4000000 in
set_option maxRecDepth 100000 in
theorem k636_X11_readTurns {l : Launch} {D : va_G} {Y : Nat → ClassId} {tt : Nat → Nat} (h0 : Nat) (p0 : Int32) (g_p0 : p0.toBitVec.toNat % 16 = 14) (sz : Nat) : Met l yX11_readTurns wsX11_readTurns ({ frames := 0, cells := 0, slots := 0, locals := 0 }) (jw_Pc D Y tt [.int p0, .int 2, .ref h0] [] sz) (jw_Qi D (fun r => r = 0) (fun w => w = []) (va_A [] sz)) 0 0 (va_A [] sz) := by
  refine jw_met (fun A => jw_Qi D (fun r => r = 0) (fun w => w = []) A) (cc := cX11_readTurns) (maxL := 5) (ret := (some .boolean)) pn_X11_readTurns rfl rfl ?_
  intro p e s m below meth c A H locs ls hx hb hml hr hts hown hlocks hin hP hD hA hS hE hl
  have hown : s.vm.findClass RX11 = some m.cls := hown
  have hl : lv_has ls 5 [(0, .int p0), (1, .int 2), (2, .ref h0)] := hl
  refine lv_iconst (v := 0) hx hb dX11_readTurns_0 (by decide +kernel) ?_
  refine lv_istore_n (lv' := [(3, .int 0), (0, .int p0), (1, .int 2), (2, .ref h0)]) hx hb dX11_readTurns_1 rfl hl (by decide) rfl (fun ls hl => ?_)
  refine lv_iconst (v := 0) hx hb dX11_readTurns_2 (by decide +kernel) ?_
  refine lv_istore (lv' := [(4, .int 0), (3, .int 0), (0, .int p0), (1, .int 2), (2, .ref h0)]) hx hb dX11_readTurns_3 hl (by decide) rfl (fun ls hl => ?_)
  refine lv_iload hx hb dX11_readTurns_5 (lv_at hl 0 rfl) ?_
  refine lv_iload_n hx hb dX11_readTurns_7 rfl (lv_at hl 3 rfl) ?_
  refine lv_icmp_ge (tgt := 30) hx hb dX11_readTurns_8 (by decide) (fun c9 => absurd c9 (by decide +kernel)) (fun _ => ?_)
  refine lv_iload_n hx hb dX11_readTurns_11 rfl (lv_at hl 1 rfl) ?_
  refine lv_iconst (v := 1) hx hb dX11_readTurns_12 (by decide +kernel) ?_
  refine lv_iload_n hx hb dX11_readTurns_13 rfl (lv_at hl 2 rfl) ?_
  refine lv_iconst (v := 2) hx hb dX11_readTurns_14 (by decide +kernel) ?_
  refine lv_iload hx hb dX11_readTurns_15 (lv_at hl 0 rfl) ?_
  refine jw_imul (v := 0) hx hb dX11_readTurns_17 (by decide +kernel) ?_
  refine lv_iushr (v := (p0.toUInt32 >>> ((0 : Int32).toUInt32 &&& Int32.toUInt32 31)).toInt32) hx hb dX11_readTurns_18 rfl ?_
  refine lv_iconst (v := 3) hx hb dX11_readTurns_19 (by decide +kernel) ?_
  refine jw_iand (v := 2) hx hb dX11_readTurns_20 (jw_bu0 g_p0 (by decide +kernel)) ?_
  refine jw_ishl (v := 4) hx hb dX11_readTurns_21 (by decide +kernel) ?_
  refine jw_ior (v := 4) hx hb dX11_readTurns_22 (by decide +kernel) ?_
  refine lv_istore_n (lv' := [(3, .int 4), (4, .int 0), (0, .int p0), (1, .int 2), (2, .ref h0)]) hx hb dX11_readTurns_23 rfl hl (by decide) rfl (fun ls hl => ?_)
  refine lv_iinc (v := 1) (lv' := [(4, .int 1), (3, .int 4), (0, .int p0), (1, .int 2), (2, .ref h0)]) hx hb dX11_readTurns_24 hl (k := 1) rfl (by decide +kernel) (by decide) rfl (fun ls hl => ?_)
  refine lv_goto (tgt := 5) hx hb dX11_readTurns_27 (by decide) ?_
  refine lv_iload hx hb dX11_readTurns_5 (lv_at hl 0 rfl) ?_
  refine lv_iload_n hx hb dX11_readTurns_7 rfl (lv_at hl 3 rfl) ?_
  refine lv_icmp_ge (tgt := 30) hx hb dX11_readTurns_8 (by decide) (fun c9 => absurd c9 (by decide +kernel)) (fun _ => ?_)
  refine lv_iload_n hx hb dX11_readTurns_11 rfl (lv_at hl 1 rfl) ?_
  refine lv_iconst (v := 1) hx hb dX11_readTurns_12 (by decide +kernel) ?_
  refine lv_iload_n hx hb dX11_readTurns_13 rfl (lv_at hl 2 rfl) ?_
  refine lv_iconst (v := 2) hx hb dX11_readTurns_14 (by decide +kernel) ?_
  refine lv_iload hx hb dX11_readTurns_15 (lv_at hl 0 rfl) ?_
  refine jw_imul (v := 2) hx hb dX11_readTurns_17 (by decide +kernel) ?_
  refine lv_iushr (v := (p0.toUInt32 >>> ((2 : Int32).toUInt32 &&& Int32.toUInt32 31)).toInt32) hx hb dX11_readTurns_18 rfl ?_
  refine lv_iconst (v := 3) hx hb dX11_readTurns_19 (by decide +kernel) ?_
  refine jw_iand (v := 3) hx hb dX11_readTurns_20 (jw_bu1 g_p0 (by decide +kernel)) ?_
  refine jw_ishl (v := 8) hx hb dX11_readTurns_21 (by decide +kernel) ?_
  refine jw_ior (v := 12) hx hb dX11_readTurns_22 (by decide +kernel) ?_
  refine lv_istore_n (lv' := [(3, .int 12), (4, .int 1), (0, .int p0), (1, .int 2), (2, .ref h0)]) hx hb dX11_readTurns_23 rfl hl (by decide) rfl (fun ls hl => ?_)
  refine lv_iinc (v := 2) (lv' := [(4, .int 2), (3, .int 12), (0, .int p0), (1, .int 2), (2, .ref h0)]) hx hb dX11_readTurns_24 hl (k := 1) rfl (by decide +kernel) (by decide) rfl (fun ls hl => ?_)
  refine lv_goto (tgt := 5) hx hb dX11_readTurns_27 (by decide) ?_
  refine lv_iload hx hb dX11_readTurns_5 (lv_at hl 0 rfl) ?_
  refine lv_iload_n hx hb dX11_readTurns_7 rfl (lv_at hl 3 rfl) ?_
  refine lv_icmp_ge (tgt := 30) hx hb dX11_readTurns_8 (by decide) (fun _ => ?_) (fun c9 => absurd (by decide +kernel) c9)
  refine lv_iload_n hx hb dX11_readTurns_30 rfl (lv_at hl 1 rfl) ?_
  refine lv_iconst (v := 1) hx hb dX11_readTurns_31 (by decide +kernel) ?_
  refine lv_iload_n hx hb dX11_readTurns_32 rfl (lv_at hl 3 rfl) ?_
  refine jw_ishl (v := 4) hx hb dX11_readTurns_33 (by decide +kernel) ?_
  refine lv_iconst (v := 1) hx hb dX11_readTurns_34 (by decide +kernel) ?_
  refine jw_isub (v := 3) hx hb dX11_readTurns_35 (by decide +kernel) ?_
  refine lv_icmp_eq (tgt := 41) hx hb dX11_readTurns_36 (by decide) (fun c9 => absurd c9 (by decide +kernel)) (fun _ => ?_)
  refine lv_iconst (v := 0) hx hb dX11_readTurns_39 (by decide +kernel) ?_
  refine W.widen (k := 0) (n := 0) (Nat.le_of_ble_eq_true rfl) (Nat.le_of_ble_eq_true rfl) ?_
  exact jw_zret hx hb hr hlocks rfl rfl rfl hP hD hS dX11_readTurns_40
set_option maxHeartbeats 4000000 in
set_option maxRecDepth 100000 in
theorem k637_X11_arrange {l : Launch} {D : va_G} {Y : Nat → ClassId} {tt : Nat → Nat} (h0 h1 h2 h3 h4 h5 h6 h7 h8 h9 h10 h11 h12 h13 h14 h15 h16 h17 h18 h19 h20 h21 h22 h23 h24 h25 : Nat) (p1 : Int32) (g_p1 : p1.toBitVec.toNat % 16 = 14) (sz : Nat) : Met l yX11_arrange wsX11_arrange ({ frames := 1, cells := 0, slots := 0, locals := 24 }) (jw_Pc D Y tt [.ref h0, .int p1] [(h0, .inr (14, [.ref h3, .int 0, .ref h1, .ref h4, .ref h5, .ref h6, .ref h2, .ref h7, .ref h8, .ref h9, .ref h10, .ref h11, .ref h12, .ref h13, .ref h14, .ref h15, .int (-3), .int (-3)])), (h1, .inr (6, [.int 2, .int 0, .int 0, .int 0, .int 0, .ref h16, .ref h17, .ref h18, .ref h19, .ref h20, .int 0])), (h2, .inr (11, [.ref h1, .ref h5, .ref h21, .ref h22, .ref h23, .ref h24, .int 0, .ref h25]))] sz) (jw_Qi D (fun r => r = 0) (fun w => w = []) (va_A [(h0, .inr (14, [.ref h3, .int 0, .ref h1, .ref h4, .ref h5, .ref h6, .ref h2, .ref h7, .ref h8, .ref h9, .ref h10, .ref h11, .ref h12, .ref h13, .ref h14, .ref h15, .int (-3), .int (-3)])), (h1, .inr (6, [.int 2, .int 0, .int 0, .int 0, .int 0, .ref h16, .ref h17, .ref h18, .ref h19, .ref h20, .int 0])), (h2, .inr (11, [.ref h1, .ref h5, .ref h21, .ref h22, .ref h23, .ref h24, .int 0, .ref h25]))] sz)) 0 0 (va_A [(h0, .inr (14, [.ref h3, .int 0, .ref h1, .ref h4, .ref h5, .ref h6, .ref h2, .ref h7, .ref h8, .ref h9, .ref h10, .ref h11, .ref h12, .ref h13, .ref h14, .ref h15, .int (-3), .int (-3)])), (h1, .inr (6, [.int 2, .int 0, .int 0, .int 0, .int 0, .ref h16, .ref h17, .ref h18, .ref h19, .ref h20, .int 0])), (h2, .inr (11, [.ref h1, .ref h5, .ref h21, .ref h22, .ref h23, .ref h24, .int 0, .ref h25]))] sz) := by
  refine jw_met (fun A => jw_Qi D (fun r => r = 0) (fun w => w = []) A) (cc := cX11_arrange) (maxL := 2) (ret := (some .boolean)) pn_X11_arrange rfl rfl ?_
  intro p e s m below meth c A H locs ls hx hb hml hr hts hown hlocks hin hP hD hA hS hE hl
  have hown : s.vm.findClass RX11 = some m.cls := hown
  have hl : lv_has ls 2 [(0, .ref h0), (1, .int p1)] := hl
  refine lv_iload_n hx hb dX11_arrange_0 rfl (lv_at hl 1 rfl) ?_
  refine lv_aload_n hx hb dX11_arrange_1 rfl (lv_at hl 0 rfl) ?_
  refine va_get (D := D) (ci := 14) (v := .ref h1) (C := RX11) (T := TX11) (N := 18) hx hb hts iw_X11_arrange__X11 hown hE.1 hP 0 rfl rfl 2 (by decide) (hts _ mw_X11_arrange__1) (fun _ h9 => h9) rfl dX11_arrange_2 ?_
  refine va_getN (D := D) (ci := 6) (v := .int 2) (C := RX3) (T := TX3) (N := 11) hx hb hts iw_X11_arrange__X3 hown hE.1 hP 1 rfl rfl 0 (by decide) (nf_X11_133 hE) (fun _ h9 => h9) rfl dX11_arrange_5 ?_
  refine lv_aload_n hx hb dX11_arrange_8 rfl (lv_at hl 0 rfl) ?_
  refine va_get (D := D) (ci := 14) (v := .ref h2) (C := RX11) (T := TX11) (N := 18) hx hb hts iw_X11_arrange__X11 hown hE.1 hP 0 rfl rfl 6 (by decide) (hts _ mw_X11_arrange__2) (fun _ h9 => h9) rfl dX11_arrange_9 ?_
  refine va_getN (D := D) (ci := 11) (v := .ref h22) (C := RX8) (T := TX8) (N := 8) hx hb hts iw_X11_arrange__X8 hown hE.1 hP 2 rfl rfl 3 (by decide) (nf_X11_221 hE) (fun _ h9 => h9) rfl dX11_arrange_12 ?_
  refine jw_mi (wc := []) (cs := 0) (ss := 0) (va_runS (As := [.int p1, .int 2, .ref h22]) (rest := []) ⟨hx, hb, hml, hown, hts⟩ (k636_X11_readTurns h22 p1 g_p1 H.size) (va_cwS 3 hts gX11_arrange_X11_readTurns rfl rfl rfl ydS_X11_readTurns ⟨Nat.le_of_ble_eq_true rfl, Nat.le_of_ble_eq_true rfl⟩) (jw_mpreS hP hD hS hA hE [] rfl) rfl rfl hl.1 rfl (lv_room (Nat.le_of_ble_eq_true rfl)) dX11_arrange_15 ⟨Nat.le_of_ble_eq_true rfl, Nat.le_of_ble_eq_true rfl⟩) hP hD hS hA [] rfl rfl rfl (fun r9 w1 H locs hr9 hw9 hP hD hS => ?_)
  subst hr9
  subst hw9
  have hP : va_P D vwCl [(h0, .inr (14, [.ref h3, .int 0, .ref h1, .ref h4, .ref h5, .ref h6, .ref h2, .ref h7, .ref h8, .ref h9, .ref h10, .ref h11, .ref h12, .ref h13, .ref h14, .ref h15, .int (-3), .int (-3)])), (h1, .inr (6, [.int 2, .int 0, .int 0, .int 0, .int 0, .ref h16, .ref h17, .ref h18, .ref h19, .ref h20, .int 0])), (h2, .inr (11, [.ref h1, .ref h5, .ref h21, .ref h22, .ref h23, .ref h24, .int 0, .ref h25]))] H := hP
  have hD : va_D A [(h0, .inr (14, [.ref h3, .int 0, .ref h1, .ref h4, .ref h5, .ref h6, .ref h2, .ref h7, .ref h8, .ref h9, .ref h10, .ref h11, .ref h12, .ref h13, .ref h14, .ref h15, .int (-3), .int (-3)])), (h1, .inr (6, [.int 2, .int 0, .int 0, .int 0, .int 0, .ref h16, .ref h17, .ref h18, .ref h19, .ref h20, .int 0])), (h2, .inr (11, [.ref h1, .ref h5, .ref h21, .ref h22, .ref h23, .ref h24, .int 0, .ref h25]))] := hD
  refine lv_if_ne (tgt := 23) hx hb dX11_arrange_18 (by decide) (fun c9 => absurd (by decide +kernel) c9) (fun _ => ?_)
  refine lv_iconst (v := 0) hx hb dX11_arrange_21 (by decide +kernel) ?_
  refine W.widen (k := 0) (n := 0) (Nat.le_of_ble_eq_true rfl) (Nat.le_of_ble_eq_true rfl) ?_
  have hP : va_P D vwCl [] H := hP.sub [] rfl
  have hD : va_D A [] := hD.sub [] rfl rfl
  exact jw_zret hx hb hr hlocks rfl rfl rfl hP hD hS dX11_arrange_22
set_option maxHeartbeats 4000000 in
set_option maxRecDepth 100000 in
theorem k638_X12_isOnce {l : Launch} {D : va_G} {Y : Nat → ClassId} {tt : Nat → Nat} (p0 : Int32) (g_p0 : p0.toBitVec.toNat % 16 = 14) (sz : Nat) : Met l yX12_isOnce wsX12_isOnce ({ frames := 0, cells := 0, slots := 0, locals := 0 }) (jw_Pc D Y tt [.int p0, .int 2] [] sz) (jw_Qi D (fun r => r = 0) (fun w => w = []) (va_A [] sz)) 0 0 (va_A [] sz) := by
  refine jw_met (fun A => jw_Qi D (fun r => r = 0) (fun w => w = []) A) (cc := cX12_isOnce) (maxL := 4) (ret := (some .boolean)) pn_X12_isOnce rfl rfl ?_
  intro p e s m below meth c A H locs ls hx hb hml hr hts hown hlocks hin hP hD hA hS hE hl
  have hown : s.vm.findClass RX12 = some m.cls := hown
  have hl : lv_has ls 4 [(0, .int p0), (1, .int 2)] := hl
  refine lv_iconst (v := 0) hx hb dX12_isOnce_0 (by decide +kernel) ?_
  refine lv_istore_n (lv' := [(2, .int 0), (0, .int p0), (1, .int 2)]) hx hb dX12_isOnce_1 rfl hl (by decide) rfl (fun ls hl => ?_)
  refine lv_iconst (v := 0) hx hb dX12_isOnce_2 (by decide +kernel) ?_
  refine lv_istore_n (lv' := [(3, .int 0), (2, .int 0), (0, .int p0), (1, .int 2)]) hx hb dX12_isOnce_3 rfl hl (by decide) rfl (fun ls hl => ?_)
  refine lv_iload_n hx hb dX12_isOnce_4 rfl (lv_at hl 0 rfl) ?_
  refine lv_iload_n hx hb dX12_isOnce_5 rfl (lv_at hl 3 rfl) ?_
  refine lv_icmp_ge (tgt := 27) hx hb dX12_isOnce_6 (by decide) (fun c9 => absurd c9 (by decide +kernel)) (fun _ => ?_)
  refine lv_iload_n hx hb dX12_isOnce_9 rfl (lv_at hl 1 rfl) ?_
  refine lv_iconst (v := 1) hx hb dX12_isOnce_10 (by decide +kernel) ?_
  refine lv_iload_n hx hb dX12_isOnce_11 rfl (lv_at hl 2 rfl) ?_
  refine lv_iconst (v := 2) hx hb dX12_isOnce_12 (by decide +kernel) ?_
  refine lv_iload_n hx hb dX12_isOnce_13 rfl (lv_at hl 0 rfl) ?_
  refine jw_imul (v := 0) hx hb dX12_isOnce_14 (by decide +kernel) ?_
  refine jw_ishr (v := (p0 >>> (0 &&& 31))) hx hb dX12_isOnce_15 rfl ?_
  refine lv_iconst (v := 3) hx hb dX12_isOnce_16 (by decide +kernel) ?_
  refine jw_iand (v := 2) hx hb dX12_isOnce_17 (jw_bs0 g_p0 (by decide +kernel)) ?_
  refine jw_ishl (v := 4) hx hb dX12_isOnce_18 (by decide +kernel) ?_
  refine jw_ior (v := 4) hx hb dX12_isOnce_19 (by decide +kernel) ?_
  refine lv_istore_n (lv' := [(2, .int 4), (3, .int 0), (0, .int p0), (1, .int 2)]) hx hb dX12_isOnce_20 rfl hl (by decide) rfl (fun ls hl => ?_)
  refine lv_iinc (v := 1) (lv' := [(3, .int 1), (2, .int 4), (0, .int p0), (1, .int 2)]) hx hb dX12_isOnce_21 hl (k := 1) rfl (by decide +kernel) (by decide) rfl (fun ls hl => ?_)
  refine lv_goto (tgt := 4) hx hb dX12_isOnce_24 (by decide) ?_
  refine lv_iload_n hx hb dX12_isOnce_4 rfl (lv_at hl 0 rfl) ?_
  refine lv_iload_n hx hb dX12_isOnce_5 rfl (lv_at hl 3 rfl) ?_
  refine lv_icmp_ge (tgt := 27) hx hb dX12_isOnce_6 (by decide) (fun c9 => absurd c9 (by decide +kernel)) (fun _ => ?_)
  refine lv_iload_n hx hb dX12_isOnce_9 rfl (lv_at hl 1 rfl) ?_
  refine lv_iconst (v := 1) hx hb dX12_isOnce_10 (by decide +kernel) ?_
  refine lv_iload_n hx hb dX12_isOnce_11 rfl (lv_at hl 2 rfl) ?_
  refine lv_iconst (v := 2) hx hb dX12_isOnce_12 (by decide +kernel) ?_
  refine lv_iload_n hx hb dX12_isOnce_13 rfl (lv_at hl 0 rfl) ?_
  refine jw_imul (v := 2) hx hb dX12_isOnce_14 (by decide +kernel) ?_
  refine jw_ishr (v := (p0 >>> (2 &&& 31))) hx hb dX12_isOnce_15 rfl ?_
  refine lv_iconst (v := 3) hx hb dX12_isOnce_16 (by decide +kernel) ?_
  refine jw_iand (v := 3) hx hb dX12_isOnce_17 (jw_bs1 g_p0 (by decide +kernel)) ?_
  refine jw_ishl (v := 8) hx hb dX12_isOnce_18 (by decide +kernel) ?_
  refine jw_ior (v := 12) hx hb dX12_isOnce_19 (by decide +kernel) ?_
  refine lv_istore_n (lv' := [(2, .int 12), (3, .int 1), (0, .int p0), (1, .int 2)]) hx hb dX12_isOnce_20 rfl hl (by decide) rfl (fun ls hl => ?_)
  refine lv_iinc (v := 2) (lv' := [(3, .int 2), (2, .int 12), (0, .int p0), (1, .int 2)]) hx hb dX12_isOnce_21 hl (k := 1) rfl (by decide +kernel) (by decide) rfl (fun ls hl => ?_)
  refine lv_goto (tgt := 4) hx hb dX12_isOnce_24 (by decide) ?_
  refine lv_iload_n hx hb dX12_isOnce_4 rfl (lv_at hl 0 rfl) ?_
  refine lv_iload_n hx hb dX12_isOnce_5 rfl (lv_at hl 3 rfl) ?_
  refine lv_icmp_ge (tgt := 27) hx hb dX12_isOnce_6 (by decide) (fun _ => ?_) (fun c9 => absurd (by decide +kernel) c9)
  refine lv_iload_n hx hb dX12_isOnce_27 rfl (lv_at hl 1 rfl) ?_
  refine lv_iconst (v := 1) hx hb dX12_isOnce_28 (by decide +kernel) ?_
  refine lv_iload_n hx hb dX12_isOnce_29 rfl (lv_at hl 3 rfl) ?_
  refine jw_ishl (v := 4) hx hb dX12_isOnce_30 (by decide +kernel) ?_
  refine lv_iconst (v := 1) hx hb dX12_isOnce_31 (by decide +kernel) ?_
  refine jw_isub (v := 3) hx hb dX12_isOnce_32 (by decide +kernel) ?_
  refine lv_icmp_ne (tgt := 40) hx hb dX12_isOnce_33 (by decide) (fun _ => ?_) (fun c9 => absurd c9 (by decide +kernel))
  refine lv_iconst (v := 0) hx hb dX12_isOnce_40 (by decide +kernel) ?_
  refine W.widen (k := 0) (n := 0) (Nat.le_of_ble_eq_true rfl) (Nat.le_of_ble_eq_true rfl) ?_
  exact jw_zret hx hb hr hlocks rfl rfl rfl hP hD hS dX12_isOnce_41
set_option maxHeartbeats 4000000 in
set_option maxRecDepth 100000 in
theorem k639_X12_arrange {l : Launch} {D : va_G} {Y : Nat → ClassId} {tt : Nat → Nat} (h0 h1 h2 h3 h4 h5 h6 h7 h8 h9 h10 h11 h12 h13 h14 h15 h16 h17 h18 h19 h20 h21 h22 h23 h24 h25 h26 h27 h28 h29 h30 h31 h32 h33 h34 h35 : Nat) (p1 : Int32) (g_p1 : p1.toBitVec.toNat % 16 = 14) (sz : Nat) : Met l yX12_arrange wsX12_arrange ({ frames := 1, cells := 0, slots := 0, locals := 23 }) (jw_Pc D Y tt [.ref h0, .int p1] [(h0, .inr (15, [.ref h1, .int 0, .int 0, .ref h2, .int 0, .int (-1), .int 0, .int 0, .int 0, .int 0, .int 0, .int 2, .int 0, .int 0, .int 0, .ref h3, .ref h4, .ref h5, .ref h6, .int 2, .int 0, .int 0, .int 0, .int 0, .ref h7, .ref h8, .ref h9, .ref h10, .int 2, .ref h11, .int 1, .ref h12, .ref h13, .int 1, .ref h14, .ref h15, .ref h16, .int 0, .ref h17, .ref h18, .ref h19, .ref h20, .ref h21, .ref h22, .ref h23, .ref h24, .ref h25, .int 0, .ref h26, .ref h27, .ref h28, .int (-1), .ref h29, .long 0, .long 0, .int 0, .int 0, .long 0, .long 0, .ref h30, .ref h31, .ref h32, .ref h33, .ref h34, .ref h35, .long 0]))] sz) (jw_Qi D (fun r => r = 0) (fun w => w = []) (va_A [(h0, .inr (15, [.ref h1, .int 0, .int 0, .ref h2, .int 0, .int (-1), .int 0, .int 0, .int 0, .int 0, .int 0, .int 2, .int 0, .int 0, .int 0, .ref h3, .ref h4, .ref h5, .ref h6, .int 2, .int 0, .int 0, .int 0, .int 0, .ref h7, .ref h8, .ref h9, .ref h10, .int 2, .ref h11, .int 1, .ref h12, .ref h13, .int 1, .ref h14, .ref h15, .ref h16, .int 0, .ref h17, .ref h18, .ref h19, .ref h20, .ref h21, .ref h22, .ref h23, .ref h24, .ref h25, .int 0, .ref h26, .ref h27, .ref h28, .int (-1), .ref h29, .long 0, .long 0, .int 0, .int 0, .long 0, .long 0, .ref h30, .ref h31, .ref h32, .ref h33, .ref h34, .ref h35, .long 0]))] sz)) 0 0 (va_A [(h0, .inr (15, [.ref h1, .int 0, .int 0, .ref h2, .int 0, .int (-1), .int 0, .int 0, .int 0, .int 0, .int 0, .int 2, .int 0, .int 0, .int 0, .ref h3, .ref h4, .ref h5, .ref h6, .int 2, .int 0, .int 0, .int 0, .int 0, .ref h7, .ref h8, .ref h9, .ref h10, .int 2, .ref h11, .int 1, .ref h12, .ref h13, .int 1, .ref h14, .ref h15, .ref h16, .int 0, .ref h17, .ref h18, .ref h19, .ref h20, .ref h21, .ref h22, .ref h23, .ref h24, .ref h25, .int 0, .ref h26, .ref h27, .ref h28, .int (-1), .ref h29, .long 0, .long 0, .int 0, .int 0, .long 0, .long 0, .ref h30, .ref h31, .ref h32, .ref h33, .ref h34, .ref h35, .long 0]))] sz) := by
  refine jw_met (fun A => jw_Qi D (fun r => r = 0) (fun w => w = []) A) (cc := cX12_arrange) (maxL := 3) (ret := (some .boolean)) pn_X12_arrange rfl rfl ?_
  intro p e s m below meth c A H locs ls hx hb hml hr hts hown hlocks hin hP hD hA hS hE hl
  have hown : s.vm.findClass RX12 = some m.cls := hown
  have hl : lv_has ls 3 [(0, .ref h0), (1, .int p1)] := hl
  refine lv_aload_n hx hb dX12_arrange_0 rfl (lv_at hl 0 rfl) ?_
  refine lv_iconst (v := 0) hx hb dX12_arrange_1 (by decide +kernel) ?_
  refine va_put (D := D) (ci := 15) (v := .int 0) (C := RX12) (T := TX12) (N := 66) hx hb hts iw_X12_arrange__X12 tyX12 tyX12_ok nmX12 hown hE.1 hP hD hS 0 rfl rfl 2 (by decide) (hts _ mw_X12_arrange__1) (fun _ h9 => h9) rfl (tyX12_ok 2 (by decide)) rfl rfl (Nat.le_of_ble_eq_true rfl) dX12_arrange_2 (fun H locs hP hD hS => ?_)
  have hP : va_P D vwCl [(h0, .inr (15, [.ref h1, .int 0, .int 0, .ref h2, .int 0, .int (-1), .int 0, .int 0, .int 0, .int 0, .int 0, .int 2, .int 0, .int 0, .int 0, .ref h3, .ref h4, .ref h5, .ref h6, .int 2, .int 0, .int 0, .int 0, .int 0, .ref h7, .ref h8, .ref h9, .ref h10, .int 2, .ref h11, .int 1, .ref h12, .ref h13, .int 1, .ref h14, .ref h15, .ref h16, .int 0, .ref h17, .ref h18, .ref h19, .ref h20, .ref h21, .ref h22, .ref h23, .ref h24, .ref h25, .int 0, .ref h26, .ref h27, .ref h28, .int (-1), .ref h29, .long 0, .long 0, .int 0, .int 0, .long 0, .long 0, .ref h30, .ref h31, .ref h32, .ref h33, .ref h34, .ref h35, .long 0]))] H := hP
  have hD : va_D A [(h0, .inr (15, [.ref h1, .int 0, .int 0, .ref h2, .int 0, .int (-1), .int 0, .int 0, .int 0, .int 0, .int 0, .int 2, .int 0, .int 0, .int 0, .ref h3, .ref h4, .ref h5, .ref h6, .int 2, .int 0, .int 0, .int 0, .int 0, .ref h7, .ref h8, .ref h9, .ref h10, .int 2, .ref h11, .int 1, .ref h12, .ref h13, .int 1, .ref h14, .ref h15, .ref h16, .int 0, .ref h17, .ref h18, .ref h19, .ref h20, .ref h21, .ref h22, .ref h23, .ref h24, .ref h25, .int 0, .ref h26, .ref h27, .ref h28, .int (-1), .ref h29, .long 0, .long 0, .int 0, .int 0, .long 0, .long 0, .ref h30, .ref h31, .ref h32, .ref h33, .ref h34, .ref h35, .long 0]))] := hD
  refine lv_iload_n hx hb dX12_arrange_5 rfl (lv_at hl 1 rfl) ?_
  refine lv_aload_n hx hb dX12_arrange_6 rfl (lv_at hl 0 rfl) ?_
  refine va_get (D := D) (ci := 15) (v := .int 2) (C := RX12) (T := TX12) (N := 66) hx hb hts iw_X12_arrange__X12 hown hE.1 hP 0 rfl rfl 11 (by decide) (hts _ mw_X12_arrange__2) (fun _ h9 => h9) rfl dX12_arrange_7 ?_
  refine jw_mi (wc := []) (cs := 0) (ss := 0) (va_runS (As := [.int p1, .int 2]) (rest := []) ⟨hx, hb, hml, hown, hts⟩ (k638_X12_isOnce p1 g_p1 H.size) (va_cwS 2 hts gX12_arrange_X12_isOnce rfl rfl rfl ydS_X12_isOnce ⟨Nat.le_of_ble_eq_true rfl, Nat.le_of_ble_eq_true rfl⟩) (jw_mpreS hP hD hS hA hE [] rfl) rfl rfl hl.1 rfl (lv_room (Nat.le_of_ble_eq_true rfl)) dX12_arrange_10 ⟨Nat.le_of_ble_eq_true rfl, Nat.le_of_ble_eq_true rfl⟩) hP hD hS hA [] rfl rfl rfl (fun r9 w1 H locs hr9 hw9 hP hD hS => ?_)
  subst hr9
  subst hw9
  have hP : va_P D vwCl [(h0, .inr (15, [.ref h1, .int 0, .int 0, .ref h2, .int 0, .int (-1), .int 0, .int 0, .int 0, .int 0, .int 0, .int 2, .int 0, .int 0, .int 0, .ref h3, .ref h4, .ref h5, .ref h6, .int 2, .int 0, .int 0, .int 0, .int 0, .ref h7, .ref h8, .ref h9, .ref h10, .int 2, .ref h11, .int 1, .ref h12, .ref h13, .int 1, .ref h14, .ref h15, .ref h16, .int 0, .ref h17, .ref h18, .ref h19, .ref h20, .ref h21, .ref h22, .ref h23, .ref h24, .ref h25, .int 0, .ref h26, .ref h27, .ref h28, .int (-1), .ref h29, .long 0, .long 0, .int 0, .int 0, .long 0, .long 0, .ref h30, .ref h31, .ref h32, .ref h33, .ref h34, .ref h35, .long 0]))] H := hP
  have hD : va_D A [(h0, .inr (15, [.ref h1, .int 0, .int 0, .ref h2, .int 0, .int (-1), .int 0, .int 0, .int 0, .int 0, .int 0, .int 2, .int 0, .int 0, .int 0, .ref h3, .ref h4, .ref h5, .ref h6, .int 2, .int 0, .int 0, .int 0, .int 0, .ref h7, .ref h8, .ref h9, .ref h10, .int 2, .ref h11, .int 1, .ref h12, .ref h13, .int 1, .ref h14, .ref h15, .ref h16, .int 0, .ref h17, .ref h18, .ref h19, .ref h20, .ref h21, .ref h22, .ref h23, .ref h24, .ref h25, .int 0, .ref h26, .ref h27, .ref h28, .int (-1), .ref h29, .long 0, .long 0, .int 0, .int 0, .long 0, .long 0, .ref h30, .ref h31, .ref h32, .ref h33, .ref h34, .ref h35, .long 0]))] := hD
  refine lv_if_ne (tgt := 18) hx hb dX12_arrange_13 (by decide) (fun c9 => absurd (by decide +kernel) c9) (fun _ => ?_)
  refine lv_iconst (v := 0) hx hb dX12_arrange_16 (by decide +kernel) ?_
  refine W.widen (k := 0) (n := 0) (Nat.le_of_ble_eq_true rfl) (Nat.le_of_ble_eq_true rfl) ?_
  have hP : va_P D vwCl [] H := hP.sub [] rfl
  have hD : va_D A [] := hD.sub [] rfl rfl
  exact jw_zret hx hb hr hlocks rfl rfl rfl hP hD hS dX12_arrange_17
set_option maxHeartbeats 4000000 in
set_option maxRecDepth 100000 in
theorem k640_X11_readTurns {l : Launch} {D : va_G} {Y : Nat → ClassId} {tt : Nat → Nat} (h0 : Nat) (p0 : Int32) (g_p0 : p0.toBitVec.toNat % 16 = 15) (sz : Nat) : Met l yX11_readTurns wsX11_readTurns ({ frames := 0, cells := 0, slots := 0, locals := 0 }) (jw_Pc D Y tt [.int p0, .int 2, .ref h0] [] sz) (jw_Qi D (fun r => r = 0) (fun w => w = []) (va_A [] sz)) 0 0 (va_A [] sz) := by
  refine jw_met (fun A => jw_Qi D (fun r => r = 0) (fun w => w = []) A) (cc := cX11_readTurns) (maxL := 5) (ret := (some .boolean)) pn_X11_readTurns rfl rfl ?_
  intro p e s m below meth c A H locs ls hx hb hml hr hts hown hlocks hin hP hD hA hS hE hl
  have hown : s.vm.findClass RX11 = some m.cls := hown
  have hl : lv_has ls 5 [(0, .int p0), (1, .int 2), (2, .ref h0)] := hl
  refine lv_iconst (v := 0) hx hb dX11_readTurns_0 (by decide +kernel) ?_
  refine lv_istore_n (lv' := [(3, .int 0), (0, .int p0), (1, .int 2), (2, .ref h0)]) hx hb dX11_readTurns_1 rfl hl (by decide) rfl (fun ls hl => ?_)
  refine lv_iconst (v := 0) hx hb dX11_readTurns_2 (by decide +kernel) ?_
  refine lv_istore (lv' := [(4, .int 0), (3, .int 0), (0, .int p0), (1, .int 2), (2, .ref h0)]) hx hb dX11_readTurns_3 hl (by decide) rfl (fun ls hl => ?_)
  refine lv_iload hx hb dX11_readTurns_5 (lv_at hl 0 rfl) ?_
  refine lv_iload_n hx hb dX11_readTurns_7 rfl (lv_at hl 3 rfl) ?_
  refine lv_icmp_ge (tgt := 30) hx hb dX11_readTurns_8 (by decide) (fun c9 => absurd c9 (by decide +kernel)) (fun _ => ?_)
  refine lv_iload_n hx hb dX11_readTurns_11 rfl (lv_at hl 1 rfl) ?_
  refine lv_iconst (v := 1) hx hb dX11_readTurns_12 (by decide +kernel) ?_
  refine lv_iload_n hx hb dX11_readTurns_13 rfl (lv_at hl 2 rfl) ?_
  refine lv_iconst (v := 2) hx hb dX11_readTurns_14 (by decide +kernel) ?_
  refine lv_iload hx hb dX11_readTurns_15 (lv_at hl 0 rfl) ?_
  refine jw_imul (v := 0) hx hb dX11_readTurns_17 (by decide +kernel) ?_
  refine lv_iushr (v := (p0.toUInt32 >>> ((0 : Int32).toUInt32 &&& Int32.toUInt32 31)).toInt32) hx hb dX11_readTurns_18 rfl ?_
  refine lv_iconst (v := 3) hx hb dX11_readTurns_19 (by decide +kernel) ?_
  refine jw_iand (v := 3) hx hb dX11_readTurns_20 (jw_bu0 g_p0 (by decide +kernel)) ?_
  refine jw_ishl (v := 8) hx hb dX11_readTurns_21 (by decide +kernel) ?_
  refine jw_ior (v := 8) hx hb dX11_readTurns_22 (by decide +kernel) ?_
  refine lv_istore_n (lv' := [(3, .int 8), (4, .int 0), (0, .int p0), (1, .int 2), (2, .ref h0)]) hx hb dX11_readTurns_23 rfl hl (by decide) rfl (fun ls hl => ?_)
  refine lv_iinc (v := 1) (lv' := [(4, .int 1), (3, .int 8), (0, .int p0), (1, .int 2), (2, .ref h0)]) hx hb dX11_readTurns_24 hl (k := 1) rfl (by decide +kernel) (by decide) rfl (fun ls hl => ?_)
  refine lv_goto (tgt := 5) hx hb dX11_readTurns_27 (by decide) ?_
  refine lv_iload hx hb dX11_readTurns_5 (lv_at hl 0 rfl) ?_
  refine lv_iload_n hx hb dX11_readTurns_7 rfl (lv_at hl 3 rfl) ?_
  refine lv_icmp_ge (tgt := 30) hx hb dX11_readTurns_8 (by decide) (fun c9 => absurd c9 (by decide +kernel)) (fun _ => ?_)
  refine lv_iload_n hx hb dX11_readTurns_11 rfl (lv_at hl 1 rfl) ?_
  refine lv_iconst (v := 1) hx hb dX11_readTurns_12 (by decide +kernel) ?_
  refine lv_iload_n hx hb dX11_readTurns_13 rfl (lv_at hl 2 rfl) ?_
  refine lv_iconst (v := 2) hx hb dX11_readTurns_14 (by decide +kernel) ?_
  refine lv_iload hx hb dX11_readTurns_15 (lv_at hl 0 rfl) ?_
  refine jw_imul (v := 2) hx hb dX11_readTurns_17 (by decide +kernel) ?_
  refine lv_iushr (v := (p0.toUInt32 >>> ((2 : Int32).toUInt32 &&& Int32.toUInt32 31)).toInt32) hx hb dX11_readTurns_18 rfl ?_
  refine lv_iconst (v := 3) hx hb dX11_readTurns_19 (by decide +kernel) ?_
  refine jw_iand (v := 3) hx hb dX11_readTurns_20 (jw_bu1 g_p0 (by decide +kernel)) ?_
  refine jw_ishl (v := 8) hx hb dX11_readTurns_21 (by decide +kernel) ?_
  refine jw_ior (v := 8) hx hb dX11_readTurns_22 (by decide +kernel) ?_
  refine lv_istore_n (lv' := [(3, .int 8), (4, .int 1), (0, .int p0), (1, .int 2), (2, .ref h0)]) hx hb dX11_readTurns_23 rfl hl (by decide) rfl (fun ls hl => ?_)
  refine lv_iinc (v := 2) (lv' := [(4, .int 2), (3, .int 8), (0, .int p0), (1, .int 2), (2, .ref h0)]) hx hb dX11_readTurns_24 hl (k := 1) rfl (by decide +kernel) (by decide) rfl (fun ls hl => ?_)
  refine lv_goto (tgt := 5) hx hb dX11_readTurns_27 (by decide) ?_
  refine lv_iload hx hb dX11_readTurns_5 (lv_at hl 0 rfl) ?_
  refine lv_iload_n hx hb dX11_readTurns_7 rfl (lv_at hl 3 rfl) ?_
  refine lv_icmp_ge (tgt := 30) hx hb dX11_readTurns_8 (by decide) (fun _ => ?_) (fun c9 => absurd (by decide +kernel) c9)
  refine lv_iload_n hx hb dX11_readTurns_30 rfl (lv_at hl 1 rfl) ?_
  refine lv_iconst (v := 1) hx hb dX11_readTurns_31 (by decide +kernel) ?_
  refine lv_iload_n hx hb dX11_readTurns_32 rfl (lv_at hl 3 rfl) ?_
  refine jw_ishl (v := 4) hx hb dX11_readTurns_33 (by decide +kernel) ?_
  refine lv_iconst (v := 1) hx hb dX11_readTurns_34 (by decide +kernel) ?_
  refine jw_isub (v := 3) hx hb dX11_readTurns_35 (by decide +kernel) ?_
  refine lv_icmp_eq (tgt := 41) hx hb dX11_readTurns_36 (by decide) (fun c9 => absurd c9 (by decide +kernel)) (fun _ => ?_)
  refine lv_iconst (v := 0) hx hb dX11_readTurns_39 (by decide +kernel) ?_
  refine W.widen (k := 0) (n := 0) (Nat.le_of_ble_eq_true rfl) (Nat.le_of_ble_eq_true rfl) ?_
  exact jw_zret hx hb hr hlocks rfl rfl rfl hP hD hS dX11_readTurns_40
set_option maxHeartbeats 4000000 in
set_option maxRecDepth 100000 in
theorem k641_X11_arrange {l : Launch} {D : va_G} {Y : Nat → ClassId} {tt : Nat → Nat} (h0 h1 h2 h3 h4 h5 h6 h7 h8 h9 h10 h11 h12 h13 h14 h15 h16 h17 h18 h19 h20 h21 h22 h23 h24 h25 : Nat) (p1 : Int32) (g_p1 : p1.toBitVec.toNat % 16 = 15) (sz : Nat) : Met l yX11_arrange wsX11_arrange ({ frames := 1, cells := 0, slots := 0, locals := 24 }) (jw_Pc D Y tt [.ref h0, .int p1] [(h0, .inr (14, [.ref h3, .int 0, .ref h1, .ref h4, .ref h5, .ref h6, .ref h2, .ref h7, .ref h8, .ref h9, .ref h10, .ref h11, .ref h12, .ref h13, .ref h14, .ref h15, .int (-3), .int (-3)])), (h1, .inr (6, [.int 2, .int 0, .int 0, .int 0, .int 0, .ref h16, .ref h17, .ref h18, .ref h19, .ref h20, .int 0])), (h2, .inr (11, [.ref h1, .ref h5, .ref h21, .ref h22, .ref h23, .ref h24, .int 0, .ref h25]))] sz) (jw_Qi D (fun r => r = 0) (fun w => w = []) (va_A [(h0, .inr (14, [.ref h3, .int 0, .ref h1, .ref h4, .ref h5, .ref h6, .ref h2, .ref h7, .ref h8, .ref h9, .ref h10, .ref h11, .ref h12, .ref h13, .ref h14, .ref h15, .int (-3), .int (-3)])), (h1, .inr (6, [.int 2, .int 0, .int 0, .int 0, .int 0, .ref h16, .ref h17, .ref h18, .ref h19, .ref h20, .int 0])), (h2, .inr (11, [.ref h1, .ref h5, .ref h21, .ref h22, .ref h23, .ref h24, .int 0, .ref h25]))] sz)) 0 0 (va_A [(h0, .inr (14, [.ref h3, .int 0, .ref h1, .ref h4, .ref h5, .ref h6, .ref h2, .ref h7, .ref h8, .ref h9, .ref h10, .ref h11, .ref h12, .ref h13, .ref h14, .ref h15, .int (-3), .int (-3)])), (h1, .inr (6, [.int 2, .int 0, .int 0, .int 0, .int 0, .ref h16, .ref h17, .ref h18, .ref h19, .ref h20, .int 0])), (h2, .inr (11, [.ref h1, .ref h5, .ref h21, .ref h22, .ref h23, .ref h24, .int 0, .ref h25]))] sz) := by
  refine jw_met (fun A => jw_Qi D (fun r => r = 0) (fun w => w = []) A) (cc := cX11_arrange) (maxL := 2) (ret := (some .boolean)) pn_X11_arrange rfl rfl ?_
  intro p e s m below meth c A H locs ls hx hb hml hr hts hown hlocks hin hP hD hA hS hE hl
  have hown : s.vm.findClass RX11 = some m.cls := hown
  have hl : lv_has ls 2 [(0, .ref h0), (1, .int p1)] := hl
  refine lv_iload_n hx hb dX11_arrange_0 rfl (lv_at hl 1 rfl) ?_
  refine lv_aload_n hx hb dX11_arrange_1 rfl (lv_at hl 0 rfl) ?_
  refine va_get (D := D) (ci := 14) (v := .ref h1) (C := RX11) (T := TX11) (N := 18) hx hb hts iw_X11_arrange__X11 hown hE.1 hP 0 rfl rfl 2 (by decide) (hts _ mw_X11_arrange__1) (fun _ h9 => h9) rfl dX11_arrange_2 ?_
  refine va_getN (D := D) (ci := 6) (v := .int 2) (C := RX3) (T := TX3) (N := 11) hx hb hts iw_X11_arrange__X3 hown hE.1 hP 1 rfl rfl 0 (by decide) (nf_X11_133 hE) (fun _ h9 => h9) rfl dX11_arrange_5 ?_
  refine lv_aload_n hx hb dX11_arrange_8 rfl (lv_at hl 0 rfl) ?_
  refine va_get (D := D) (ci := 14) (v := .ref h2) (C := RX11) (T := TX11) (N := 18) hx hb hts iw_X11_arrange__X11 hown hE.1 hP 0 rfl rfl 6 (by decide) (hts _ mw_X11_arrange__2) (fun _ h9 => h9) rfl dX11_arrange_9 ?_
  refine va_getN (D := D) (ci := 11) (v := .ref h22) (C := RX8) (T := TX8) (N := 8) hx hb hts iw_X11_arrange__X8 hown hE.1 hP 2 rfl rfl 3 (by decide) (nf_X11_221 hE) (fun _ h9 => h9) rfl dX11_arrange_12 ?_
  refine jw_mi (wc := []) (cs := 0) (ss := 0) (va_runS (As := [.int p1, .int 2, .ref h22]) (rest := []) ⟨hx, hb, hml, hown, hts⟩ (k640_X11_readTurns h22 p1 g_p1 H.size) (va_cwS 3 hts gX11_arrange_X11_readTurns rfl rfl rfl ydS_X11_readTurns ⟨Nat.le_of_ble_eq_true rfl, Nat.le_of_ble_eq_true rfl⟩) (jw_mpreS hP hD hS hA hE [] rfl) rfl rfl hl.1 rfl (lv_room (Nat.le_of_ble_eq_true rfl)) dX11_arrange_15 ⟨Nat.le_of_ble_eq_true rfl, Nat.le_of_ble_eq_true rfl⟩) hP hD hS hA [] rfl rfl rfl (fun r9 w1 H locs hr9 hw9 hP hD hS => ?_)
  subst hr9
  subst hw9
  have hP : va_P D vwCl [(h0, .inr (14, [.ref h3, .int 0, .ref h1, .ref h4, .ref h5, .ref h6, .ref h2, .ref h7, .ref h8, .ref h9, .ref h10, .ref h11, .ref h12, .ref h13, .ref h14, .ref h15, .int (-3), .int (-3)])), (h1, .inr (6, [.int 2, .int 0, .int 0, .int 0, .int 0, .ref h16, .ref h17, .ref h18, .ref h19, .ref h20, .int 0])), (h2, .inr (11, [.ref h1, .ref h5, .ref h21, .ref h22, .ref h23, .ref h24, .int 0, .ref h25]))] H := hP
  have hD : va_D A [(h0, .inr (14, [.ref h3, .int 0, .ref h1, .ref h4, .ref h5, .ref h6, .ref h2, .ref h7, .ref h8, .ref h9, .ref h10, .ref h11, .ref h12, .ref h13, .ref h14, .ref h15, .int (-3), .int (-3)])), (h1, .inr (6, [.int 2, .int 0, .int 0, .int 0, .int 0, .ref h16, .ref h17, .ref h18, .ref h19, .ref h20, .int 0])), (h2, .inr (11, [.ref h1, .ref h5, .ref h21, .ref h22, .ref h23, .ref h24, .int 0, .ref h25]))] := hD
  refine lv_if_ne (tgt := 23) hx hb dX11_arrange_18 (by decide) (fun c9 => absurd (by decide +kernel) c9) (fun _ => ?_)
  refine lv_iconst (v := 0) hx hb dX11_arrange_21 (by decide +kernel) ?_
  refine W.widen (k := 0) (n := 0) (Nat.le_of_ble_eq_true rfl) (Nat.le_of_ble_eq_true rfl) ?_
  have hP : va_P D vwCl [] H := hP.sub [] rfl
  have hD : va_D A [] := hD.sub [] rfl rfl
  exact jw_zret hx hb hr hlocks rfl rfl rfl hP hD hS dX11_arrange_22
set_option maxHeartbeats 4000000 in
set_option maxRecDepth 100000 in
theorem k642_X12_isOnce {l : Launch} {D : va_G} {Y : Nat → ClassId} {tt : Nat → Nat} (p0 : Int32) (g_p0 : p0.toBitVec.toNat % 16 = 15) (sz : Nat) : Met l yX12_isOnce wsX12_isOnce ({ frames := 0, cells := 0, slots := 0, locals := 0 }) (jw_Pc D Y tt [.int p0, .int 2] [] sz) (jw_Qi D (fun r => r = 0) (fun w => w = []) (va_A [] sz)) 0 0 (va_A [] sz) := by
  refine jw_met (fun A => jw_Qi D (fun r => r = 0) (fun w => w = []) A) (cc := cX12_isOnce) (maxL := 4) (ret := (some .boolean)) pn_X12_isOnce rfl rfl ?_
  intro p e s m below meth c A H locs ls hx hb hml hr hts hown hlocks hin hP hD hA hS hE hl
  have hown : s.vm.findClass RX12 = some m.cls := hown
  have hl : lv_has ls 4 [(0, .int p0), (1, .int 2)] := hl
  refine lv_iconst (v := 0) hx hb dX12_isOnce_0 (by decide +kernel) ?_
  refine lv_istore_n (lv' := [(2, .int 0), (0, .int p0), (1, .int 2)]) hx hb dX12_isOnce_1 rfl hl (by decide) rfl (fun ls hl => ?_)
  refine lv_iconst (v := 0) hx hb dX12_isOnce_2 (by decide +kernel) ?_
  refine lv_istore_n (lv' := [(3, .int 0), (2, .int 0), (0, .int p0), (1, .int 2)]) hx hb dX12_isOnce_3 rfl hl (by decide) rfl (fun ls hl => ?_)
  refine lv_iload_n hx hb dX12_isOnce_4 rfl (lv_at hl 0 rfl) ?_
  refine lv_iload_n hx hb dX12_isOnce_5 rfl (lv_at hl 3 rfl) ?_
  refine lv_icmp_ge (tgt := 27) hx hb dX12_isOnce_6 (by decide) (fun c9 => absurd c9 (by decide +kernel)) (fun _ => ?_)
  refine lv_iload_n hx hb dX12_isOnce_9 rfl (lv_at hl 1 rfl) ?_
  refine lv_iconst (v := 1) hx hb dX12_isOnce_10 (by decide +kernel) ?_
  refine lv_iload_n hx hb dX12_isOnce_11 rfl (lv_at hl 2 rfl) ?_
  refine lv_iconst (v := 2) hx hb dX12_isOnce_12 (by decide +kernel) ?_
  refine lv_iload_n hx hb dX12_isOnce_13 rfl (lv_at hl 0 rfl) ?_
  refine jw_imul (v := 0) hx hb dX12_isOnce_14 (by decide +kernel) ?_
  refine jw_ishr (v := (p0 >>> (0 &&& 31))) hx hb dX12_isOnce_15 rfl ?_
  refine lv_iconst (v := 3) hx hb dX12_isOnce_16 (by decide +kernel) ?_
  refine jw_iand (v := 3) hx hb dX12_isOnce_17 (jw_bs0 g_p0 (by decide +kernel)) ?_
  refine jw_ishl (v := 8) hx hb dX12_isOnce_18 (by decide +kernel) ?_
  refine jw_ior (v := 8) hx hb dX12_isOnce_19 (by decide +kernel) ?_
  refine lv_istore_n (lv' := [(2, .int 8), (3, .int 0), (0, .int p0), (1, .int 2)]) hx hb dX12_isOnce_20 rfl hl (by decide) rfl (fun ls hl => ?_)
  refine lv_iinc (v := 1) (lv' := [(3, .int 1), (2, .int 8), (0, .int p0), (1, .int 2)]) hx hb dX12_isOnce_21 hl (k := 1) rfl (by decide +kernel) (by decide) rfl (fun ls hl => ?_)
  refine lv_goto (tgt := 4) hx hb dX12_isOnce_24 (by decide) ?_
  refine lv_iload_n hx hb dX12_isOnce_4 rfl (lv_at hl 0 rfl) ?_
  refine lv_iload_n hx hb dX12_isOnce_5 rfl (lv_at hl 3 rfl) ?_
  refine lv_icmp_ge (tgt := 27) hx hb dX12_isOnce_6 (by decide) (fun c9 => absurd c9 (by decide +kernel)) (fun _ => ?_)
  refine lv_iload_n hx hb dX12_isOnce_9 rfl (lv_at hl 1 rfl) ?_
  refine lv_iconst (v := 1) hx hb dX12_isOnce_10 (by decide +kernel) ?_
  refine lv_iload_n hx hb dX12_isOnce_11 rfl (lv_at hl 2 rfl) ?_
  refine lv_iconst (v := 2) hx hb dX12_isOnce_12 (by decide +kernel) ?_
  refine lv_iload_n hx hb dX12_isOnce_13 rfl (lv_at hl 0 rfl) ?_
  refine jw_imul (v := 2) hx hb dX12_isOnce_14 (by decide +kernel) ?_
  refine jw_ishr (v := (p0 >>> (2 &&& 31))) hx hb dX12_isOnce_15 rfl ?_
  refine lv_iconst (v := 3) hx hb dX12_isOnce_16 (by decide +kernel) ?_
  refine jw_iand (v := 3) hx hb dX12_isOnce_17 (jw_bs1 g_p0 (by decide +kernel)) ?_
  refine jw_ishl (v := 8) hx hb dX12_isOnce_18 (by decide +kernel) ?_
  refine jw_ior (v := 8) hx hb dX12_isOnce_19 (by decide +kernel) ?_
  refine lv_istore_n (lv' := [(2, .int 8), (3, .int 1), (0, .int p0), (1, .int 2)]) hx hb dX12_isOnce_20 rfl hl (by decide) rfl (fun ls hl => ?_)
  refine lv_iinc (v := 2) (lv' := [(3, .int 2), (2, .int 8), (0, .int p0), (1, .int 2)]) hx hb dX12_isOnce_21 hl (k := 1) rfl (by decide +kernel) (by decide) rfl (fun ls hl => ?_)
  refine lv_goto (tgt := 4) hx hb dX12_isOnce_24 (by decide) ?_
  refine lv_iload_n hx hb dX12_isOnce_4 rfl (lv_at hl 0 rfl) ?_
  refine lv_iload_n hx hb dX12_isOnce_5 rfl (lv_at hl 3 rfl) ?_
  refine lv_icmp_ge (tgt := 27) hx hb dX12_isOnce_6 (by decide) (fun _ => ?_) (fun c9 => absurd (by decide +kernel) c9)
  refine lv_iload_n hx hb dX12_isOnce_27 rfl (lv_at hl 1 rfl) ?_
  refine lv_iconst (v := 1) hx hb dX12_isOnce_28 (by decide +kernel) ?_
  refine lv_iload_n hx hb dX12_isOnce_29 rfl (lv_at hl 3 rfl) ?_
  refine jw_ishl (v := 4) hx hb dX12_isOnce_30 (by decide +kernel) ?_
  refine lv_iconst (v := 1) hx hb dX12_isOnce_31 (by decide +kernel) ?_
  refine jw_isub (v := 3) hx hb dX12_isOnce_32 (by decide +kernel) ?_
  refine lv_icmp_ne (tgt := 40) hx hb dX12_isOnce_33 (by decide) (fun _ => ?_) (fun c9 => absurd c9 (by decide +kernel))
  refine lv_iconst (v := 0) hx hb dX12_isOnce_40 (by decide +kernel) ?_
  refine W.widen (k := 0) (n := 0) (Nat.le_of_ble_eq_true rfl) (Nat.le_of_ble_eq_true rfl) ?_
  exact jw_zret hx hb hr hlocks rfl rfl rfl hP hD hS dX12_isOnce_41
set_option maxHeartbeats 4000000 in
set_option maxRecDepth 100000 in
theorem k643_X12_arrange {l : Launch} {D : va_G} {Y : Nat → ClassId} {tt : Nat → Nat} (h0 h1 h2 h3 h4 h5 h6 h7 h8 h9 h10 h11 h12 h13 h14 h15 h16 h17 h18 h19 h20 h21 h22 h23 h24 h25 h26 h27 h28 h29 h30 h31 h32 h33 h34 h35 : Nat) (p1 : Int32) (g_p1 : p1.toBitVec.toNat % 16 = 15) (sz : Nat) : Met l yX12_arrange wsX12_arrange ({ frames := 1, cells := 0, slots := 0, locals := 23 }) (jw_Pc D Y tt [.ref h0, .int p1] [(h0, .inr (15, [.ref h1, .int 0, .int 0, .ref h2, .int 0, .int (-1), .int 0, .int 0, .int 0, .int 0, .int 0, .int 2, .int 0, .int 0, .int 0, .ref h3, .ref h4, .ref h5, .ref h6, .int 2, .int 0, .int 0, .int 0, .int 0, .ref h7, .ref h8, .ref h9, .ref h10, .int 2, .ref h11, .int 1, .ref h12, .ref h13, .int 1, .ref h14, .ref h15, .ref h16, .int 0, .ref h17, .ref h18, .ref h19, .ref h20, .ref h21, .ref h22, .ref h23, .ref h24, .ref h25, .int 0, .ref h26, .ref h27, .ref h28, .int (-1), .ref h29, .long 0, .long 0, .int 0, .int 0, .long 0, .long 0, .ref h30, .ref h31, .ref h32, .ref h33, .ref h34, .ref h35, .long 0]))] sz) (jw_Qi D (fun r => r = 0) (fun w => w = []) (va_A [(h0, .inr (15, [.ref h1, .int 0, .int 0, .ref h2, .int 0, .int (-1), .int 0, .int 0, .int 0, .int 0, .int 0, .int 2, .int 0, .int 0, .int 0, .ref h3, .ref h4, .ref h5, .ref h6, .int 2, .int 0, .int 0, .int 0, .int 0, .ref h7, .ref h8, .ref h9, .ref h10, .int 2, .ref h11, .int 1, .ref h12, .ref h13, .int 1, .ref h14, .ref h15, .ref h16, .int 0, .ref h17, .ref h18, .ref h19, .ref h20, .ref h21, .ref h22, .ref h23, .ref h24, .ref h25, .int 0, .ref h26, .ref h27, .ref h28, .int (-1), .ref h29, .long 0, .long 0, .int 0, .int 0, .long 0, .long 0, .ref h30, .ref h31, .ref h32, .ref h33, .ref h34, .ref h35, .long 0]))] sz)) 0 0 (va_A [(h0, .inr (15, [.ref h1, .int 0, .int 0, .ref h2, .int 0, .int (-1), .int 0, .int 0, .int 0, .int 0, .int 0, .int 2, .int 0, .int 0, .int 0, .ref h3, .ref h4, .ref h5, .ref h6, .int 2, .int 0, .int 0, .int 0, .int 0, .ref h7, .ref h8, .ref h9, .ref h10, .int 2, .ref h11, .int 1, .ref h12, .ref h13, .int 1, .ref h14, .ref h15, .ref h16, .int 0, .ref h17, .ref h18, .ref h19, .ref h20, .ref h21, .ref h22, .ref h23, .ref h24, .ref h25, .int 0, .ref h26, .ref h27, .ref h28, .int (-1), .ref h29, .long 0, .long 0, .int 0, .int 0, .long 0, .long 0, .ref h30, .ref h31, .ref h32, .ref h33, .ref h34, .ref h35, .long 0]))] sz) := by
  refine jw_met (fun A => jw_Qi D (fun r => r = 0) (fun w => w = []) A) (cc := cX12_arrange) (maxL := 3) (ret := (some .boolean)) pn_X12_arrange rfl rfl ?_
  intro p e s m below meth c A H locs ls hx hb hml hr hts hown hlocks hin hP hD hA hS hE hl
  have hown : s.vm.findClass RX12 = some m.cls := hown
  have hl : lv_has ls 3 [(0, .ref h0), (1, .int p1)] := hl
  refine lv_aload_n hx hb dX12_arrange_0 rfl (lv_at hl 0 rfl) ?_
  refine lv_iconst (v := 0) hx hb dX12_arrange_1 (by decide +kernel) ?_
  refine va_put (D := D) (ci := 15) (v := .int 0) (C := RX12) (T := TX12) (N := 66) hx hb hts iw_X12_arrange__X12 tyX12 tyX12_ok nmX12 hown hE.1 hP hD hS 0 rfl rfl 2 (by decide) (hts _ mw_X12_arrange__1) (fun _ h9 => h9) rfl (tyX12_ok 2 (by decide)) rfl rfl (Nat.le_of_ble_eq_true rfl) dX12_arrange_2 (fun H locs hP hD hS => ?_)
  have hP : va_P D vwCl [(h0, .inr (15, [.ref h1, .int 0, .int 0, .ref h2, .int 0, .int (-1), .int 0, .int 0, .int 0, .int 0, .int 0, .int 2, .int 0, .int 0, .int 0, .ref h3, .ref h4, .ref h5, .ref h6, .int 2, .int 0, .int 0, .int 0, .int 0, .ref h7, .ref h8, .ref h9, .ref h10, .int 2, .ref h11, .int 1, .ref h12, .ref h13, .int 1, .ref h14, .ref h15, .ref h16, .int 0, .ref h17, .ref h18, .ref h19, .ref h20, .ref h21, .ref h22, .ref h23, .ref h24, .ref h25, .int 0, .ref h26, .ref h27, .ref h28, .int (-1), .ref h29, .long 0, .long 0, .int 0, .int 0, .long 0, .long 0, .ref h30, .ref h31, .ref h32, .ref h33, .ref h34, .ref h35, .long 0]))] H := hP
  have hD : va_D A [(h0, .inr (15, [.ref h1, .int 0, .int 0, .ref h2, .int 0, .int (-1), .int 0, .int 0, .int 0, .int 0, .int 0, .int 2, .int 0, .int 0, .int 0, .ref h3, .ref h4, .ref h5, .ref h6, .int 2, .int 0, .int 0, .int 0, .int 0, .ref h7, .ref h8, .ref h9, .ref h10, .int 2, .ref h11, .int 1, .ref h12, .ref h13, .int 1, .ref h14, .ref h15, .ref h16, .int 0, .ref h17, .ref h18, .ref h19, .ref h20, .ref h21, .ref h22, .ref h23, .ref h24, .ref h25, .int 0, .ref h26, .ref h27, .ref h28, .int (-1), .ref h29, .long 0, .long 0, .int 0, .int 0, .long 0, .long 0, .ref h30, .ref h31, .ref h32, .ref h33, .ref h34, .ref h35, .long 0]))] := hD
  refine lv_iload_n hx hb dX12_arrange_5 rfl (lv_at hl 1 rfl) ?_
  refine lv_aload_n hx hb dX12_arrange_6 rfl (lv_at hl 0 rfl) ?_
  refine va_get (D := D) (ci := 15) (v := .int 2) (C := RX12) (T := TX12) (N := 66) hx hb hts iw_X12_arrange__X12 hown hE.1 hP 0 rfl rfl 11 (by decide) (hts _ mw_X12_arrange__2) (fun _ h9 => h9) rfl dX12_arrange_7 ?_
  refine jw_mi (wc := []) (cs := 0) (ss := 0) (va_runS (As := [.int p1, .int 2]) (rest := []) ⟨hx, hb, hml, hown, hts⟩ (k642_X12_isOnce p1 g_p1 H.size) (va_cwS 2 hts gX12_arrange_X12_isOnce rfl rfl rfl ydS_X12_isOnce ⟨Nat.le_of_ble_eq_true rfl, Nat.le_of_ble_eq_true rfl⟩) (jw_mpreS hP hD hS hA hE [] rfl) rfl rfl hl.1 rfl (lv_room (Nat.le_of_ble_eq_true rfl)) dX12_arrange_10 ⟨Nat.le_of_ble_eq_true rfl, Nat.le_of_ble_eq_true rfl⟩) hP hD hS hA [] rfl rfl rfl (fun r9 w1 H locs hr9 hw9 hP hD hS => ?_)
  subst hr9
  subst hw9
  have hP : va_P D vwCl [(h0, .inr (15, [.ref h1, .int 0, .int 0, .ref h2, .int 0, .int (-1), .int 0, .int 0, .int 0, .int 0, .int 0, .int 2, .int 0, .int 0, .int 0, .ref h3, .ref h4, .ref h5, .ref h6, .int 2, .int 0, .int 0, .int 0, .int 0, .ref h7, .ref h8, .ref h9, .ref h10, .int 2, .ref h11, .int 1, .ref h12, .ref h13, .int 1, .ref h14, .ref h15, .ref h16, .int 0, .ref h17, .ref h18, .ref h19, .ref h20, .ref h21, .ref h22, .ref h23, .ref h24, .ref h25, .int 0, .ref h26, .ref h27, .ref h28, .int (-1), .ref h29, .long 0, .long 0, .int 0, .int 0, .long 0, .long 0, .ref h30, .ref h31, .ref h32, .ref h33, .ref h34, .ref h35, .long 0]))] H := hP
  have hD : va_D A [(h0, .inr (15, [.ref h1, .int 0, .int 0, .ref h2, .int 0, .int (-1), .int 0, .int 0, .int 0, .int 0, .int 0, .int 2, .int 0, .int 0, .int 0, .ref h3, .ref h4, .ref h5, .ref h6, .int 2, .int 0, .int 0, .int 0, .int 0, .ref h7, .ref h8, .ref h9, .ref h10, .int 2, .ref h11, .int 1, .ref h12, .ref h13, .int 1, .ref h14, .ref h15, .ref h16, .int 0, .ref h17, .ref h18, .ref h19, .ref h20, .ref h21, .ref h22, .ref h23, .ref h24, .ref h25, .int 0, .ref h26, .ref h27, .ref h28, .int (-1), .ref h29, .long 0, .long 0, .int 0, .int 0, .long 0, .long 0, .ref h30, .ref h31, .ref h32, .ref h33, .ref h34, .ref h35, .long 0]))] := hD
  refine lv_if_ne (tgt := 18) hx hb dX12_arrange_13 (by decide) (fun c9 => absurd (by decide +kernel) c9) (fun _ => ?_)
  refine lv_iconst (v := 0) hx hb dX12_arrange_16 (by decide +kernel) ?_
  refine W.widen (k := 0) (n := 0) (Nat.le_of_ble_eq_true rfl) (Nat.le_of_ble_eq_true rfl) ?_
  have hP : va_P D vwCl [] H := hP.sub [] rfl
  have hD : va_D A [] := hD.sub [] rfl rfl
  exact jw_zret hx hb hr hlocks rfl rfl rfl hP hD hS dX12_arrange_17
set_option maxHeartbeats 4000000 in
set_option maxRecDepth 100000 in
theorem k644_X12_fails {l : Launch} {D : va_G} {Y : Nat → ClassId} {tt : Nat → Nat} (h0 h1 h2 h3 h4 h5 h6 h7 h8 h9 h10 h11 h12 h13 h14 h15 h16 h17 h18 h19 h20 h21 h22 h23 h24 h25 h26 h27 h28 h29 h30 h31 h32 h33 h34 h35 : Nat) (sz : Nat) : Met l yX12_fails wsX12_fails ({ frames := 0, cells := 0, slots := 0, locals := 0 }) (jw_Pc D Y tt [.ref h0, .int 1] [(h0, .inr (15, [.ref h1, .int 0, .int 0, .ref h2, .int 0, .int (-1), .int 0, .int 0, .int 0, .int 0, .int 0, .int 2, .int 0, .int 0, .int 0, .ref h3, .ref h4, .ref h5, .ref h6, .int 2, .int 0, .int 0, .int 0, .int 0, .ref h7, .ref h8, .ref h9, .ref h10, .int 2, .ref h11, .int 1, .ref h12, .ref h13, .int 1, .ref h14, .ref h15, .ref h16, .int 0, .ref h17, .ref h18, .ref h19, .ref h20, .ref h21, .ref h22, .ref h23, .ref h24, .ref h25, .int 0, .ref h26, .ref h27, .ref h28, .int (-1), .ref h29, .long 0, .long 0, .int 0, .int 0, .long 0, .long 0, .ref h30, .ref h31, .ref h32, .ref h33, .ref h34, .ref h35, .long 0]))] sz) (jw_Qi D (fun r => r = 0) (fun w => w = [(h0, .inr (15, [.ref h1, .int 0, .int 1, .ref h2, .int 0, .int (-1), .int 0, .int 0, .int 0, .int 0, .int 0, .int 2, .int 0, .int 0, .int 0, .ref h3, .ref h4, .ref h5, .ref h6, .int 2, .int 0, .int 0, .int 0, .int 0, .ref h7, .ref h8, .ref h9, .ref h10, .int 2, .ref h11, .int 1, .ref h12, .ref h13, .int 1, .ref h14, .ref h15, .ref h16, .int 0, .ref h17, .ref h18, .ref h19, .ref h20, .ref h21, .ref h22, .ref h23, .ref h24, .ref h25, .int 0, .ref h26, .ref h27, .ref h28, .int (-1), .ref h29, .long 0, .long 0, .int 0, .int 0, .long 0, .long 0, .ref h30, .ref h31, .ref h32, .ref h33, .ref h34, .ref h35, .long 0]))]) (va_A [(h0, .inr (15, [.ref h1, .int 0, .int 0, .ref h2, .int 0, .int (-1), .int 0, .int 0, .int 0, .int 0, .int 0, .int 2, .int 0, .int 0, .int 0, .ref h3, .ref h4, .ref h5, .ref h6, .int 2, .int 0, .int 0, .int 0, .int 0, .ref h7, .ref h8, .ref h9, .ref h10, .int 2, .ref h11, .int 1, .ref h12, .ref h13, .int 1, .ref h14, .ref h15, .ref h16, .int 0, .ref h17, .ref h18, .ref h19, .ref h20, .ref h21, .ref h22, .ref h23, .ref h24, .ref h25, .int 0, .ref h26, .ref h27, .ref h28, .int (-1), .ref h29, .long 0, .long 0, .int 0, .int 0, .long 0, .long 0, .ref h30, .ref h31, .ref h32, .ref h33, .ref h34, .ref h35, .long 0]))] sz)) 0 0 (va_A [(h0, .inr (15, [.ref h1, .int 0, .int 0, .ref h2, .int 0, .int (-1), .int 0, .int 0, .int 0, .int 0, .int 0, .int 2, .int 0, .int 0, .int 0, .ref h3, .ref h4, .ref h5, .ref h6, .int 2, .int 0, .int 0, .int 0, .int 0, .ref h7, .ref h8, .ref h9, .ref h10, .int 2, .ref h11, .int 1, .ref h12, .ref h13, .int 1, .ref h14, .ref h15, .ref h16, .int 0, .ref h17, .ref h18, .ref h19, .ref h20, .ref h21, .ref h22, .ref h23, .ref h24, .ref h25, .int 0, .ref h26, .ref h27, .ref h28, .int (-1), .ref h29, .long 0, .long 0, .int 0, .int 0, .long 0, .long 0, .ref h30, .ref h31, .ref h32, .ref h33, .ref h34, .ref h35, .long 0]))] sz) := by
  refine jw_met (fun A => jw_Qi D (fun r => r = 0) (fun w => w = [(h0, .inr (15, [.ref h1, .int 0, .int 1, .ref h2, .int 0, .int (-1), .int 0, .int 0, .int 0, .int 0, .int 0, .int 2, .int 0, .int 0, .int 0, .ref h3, .ref h4, .ref h5, .ref h6, .int 2, .int 0, .int 0, .int 0, .int 0, .ref h7, .ref h8, .ref h9, .ref h10, .int 2, .ref h11, .int 1, .ref h12, .ref h13, .int 1, .ref h14, .ref h15, .ref h16, .int 0, .ref h17, .ref h18, .ref h19, .ref h20, .ref h21, .ref h22, .ref h23, .ref h24, .ref h25, .int 0, .ref h26, .ref h27, .ref h28, .int (-1), .ref h29, .long 0, .long 0, .int 0, .int 0, .long 0, .long 0, .ref h30, .ref h31, .ref h32, .ref h33, .ref h34, .ref h35, .long 0]))]) A) (cc := cX12_fails) (maxL := 2) (ret := (some .int)) pn_X12_fails rfl rfl ?_
  intro p e s m below meth c A H locs ls hx hb hml hr hts hown hlocks hin hP hD hA hS hE hl
  have hown : s.vm.findClass RX12 = some m.cls := hown
  have hl : lv_has ls 2 [(0, .ref h0), (1, .int 1)] := hl
  refine lv_aload_n hx hb dX12_fails_0 rfl (lv_at hl 0 rfl) ?_
  refine lv_iload_n hx hb dX12_fails_1 rfl (lv_at hl 1 rfl) ?_
  refine va_put (D := D) (ci := 15) (v := .int 1) (C := RX12) (T := TX12) (N := 66) hx hb hts iw_X12_fails__X12 tyX12 tyX12_ok nmX12 hown hE.1 hP hD hS 0 rfl rfl 2 (by decide) (hts _ mw_X12_fails__1) (fun _ h9 => h9) rfl (tyX12_ok 2 (by decide)) rfl rfl (Nat.le_of_ble_eq_true rfl) dX12_fails_2 (fun H locs hP hD hS => ?_)
  have hP : va_P D vwCl [(h0, .inr (15, [.ref h1, .int 0, .int 1, .ref h2, .int 0, .int (-1), .int 0, .int 0, .int 0, .int 0, .int 0, .int 2, .int 0, .int 0, .int 0, .ref h3, .ref h4, .ref h5, .ref h6, .int 2, .int 0, .int 0, .int 0, .int 0, .ref h7, .ref h8, .ref h9, .ref h10, .int 2, .ref h11, .int 1, .ref h12, .ref h13, .int 1, .ref h14, .ref h15, .ref h16, .int 0, .ref h17, .ref h18, .ref h19, .ref h20, .ref h21, .ref h22, .ref h23, .ref h24, .ref h25, .int 0, .ref h26, .ref h27, .ref h28, .int (-1), .ref h29, .long 0, .long 0, .int 0, .int 0, .long 0, .long 0, .ref h30, .ref h31, .ref h32, .ref h33, .ref h34, .ref h35, .long 0]))] H := hP
  have hD : va_D A [(h0, .inr (15, [.ref h1, .int 0, .int 1, .ref h2, .int 0, .int (-1), .int 0, .int 0, .int 0, .int 0, .int 0, .int 2, .int 0, .int 0, .int 0, .ref h3, .ref h4, .ref h5, .ref h6, .int 2, .int 0, .int 0, .int 0, .int 0, .ref h7, .ref h8, .ref h9, .ref h10, .int 2, .ref h11, .int 1, .ref h12, .ref h13, .int 1, .ref h14, .ref h15, .ref h16, .int 0, .ref h17, .ref h18, .ref h19, .ref h20, .ref h21, .ref h22, .ref h23, .ref h24, .ref h25, .int 0, .ref h26, .ref h27, .ref h28, .int (-1), .ref h29, .long 0, .long 0, .int 0, .int 0, .long 0, .long 0, .ref h30, .ref h31, .ref h32, .ref h33, .ref h34, .ref h35, .long 0]))] := hD
  refine lv_iconst (v := 0) hx hb dX12_fails_5 (by decide +kernel) ?_
  refine W.widen (k := 0) (n := 0) (Nat.le_of_ble_eq_true rfl) (Nat.le_of_ble_eq_true rfl) ?_
  exact jw_iret hx hb hr hlocks rfl rfl hP hD hS dX12_fails_6
set_option maxHeartbeats 4000000 in
set_option maxRecDepth 100000 in
theorem k645_X12_look {l : Launch} {D : va_G} {Y : Nat → ClassId} {tt : Nat → Nat} (h0 h1 h2 h3 h4 h5 h6 h7 h8 h9 h10 h11 h12 h13 h14 h15 h16 h17 h18 h19 h20 h21 h22 h23 h24 h25 h26 h27 h28 h29 h30 h31 h32 h33 h34 h35 : Nat) (p1 : Int32) (p2 : Int32) (sz : Nat) : Met l yX12_look wsX12_look ({ frames := 2, cells := 0, slots := 0, locals := 41 }) (jw_Pc D Y tt [.ref h0, .int p1, .int p2] [(h0, .inr (15, [.ref h1, .int 0, .int 0, .ref h2, .int 0, .int (-1), .int 0, .int 0, .int 0, .int 0, .int 0, .int 2, .int 0, .int 0, .int 0, .ref h3, .ref h4, .ref h5, .ref h6, .int 2, .int 0, .int 0, .int 0, .int 0, .ref h7, .ref h8, .ref h9, .ref h10, .int 2, .ref h11, .int 1, .ref h12, .ref h13, .int 1, .ref h14, .ref h15, .ref h16, .int 0, .ref h17, .ref h18, .ref h19, .ref h20, .ref h21, .ref h22, .ref h23, .ref h24, .ref h25, .int 0, .ref h26, .ref h27, .ref h28, .int (-1), .ref h29, .long 0, .long 0, .int 0, .int 0, .long 0, .long 0, .ref h30, .ref h31, .ref h32, .ref h33, .ref h34, .ref h35, .long 0]))] sz) (jw_Qi D (fun r => r = 0) (fun w => w = [(h0, .inr (15, [.ref h1, .int 0, .int 1, .ref h2, .int 0, .int (-1), .int 0, .int 0, .int 0, .int 0, .int 0, .int 2, .int 0, .int 0, .int 0, .ref h3, .ref h4, .ref h5, .ref h6, .int 2, .int 0, .int 0, .int 0, .int 0, .ref h7, .ref h8, .ref h9, .ref h10, .int 2, .ref h11, .int 1, .ref h12, .ref h13, .int 1, .ref h14, .ref h15, .ref h16, .int 0, .ref h17, .ref h18, .ref h19, .ref h20, .ref h21, .ref h22, .ref h23, .ref h24, .ref h25, .int 0, .ref h26, .ref h27, .ref h28, .int (-1), .ref h29, .long 0, .long 0, .int 0, .int 0, .long 0, .long 0, .ref h30, .ref h31, .ref h32, .ref h33, .ref h34, .ref h35, .long 0]))]) (va_A [(h0, .inr (15, [.ref h1, .int 0, .int 0, .ref h2, .int 0, .int (-1), .int 0, .int 0, .int 0, .int 0, .int 0, .int 2, .int 0, .int 0, .int 0, .ref h3, .ref h4, .ref h5, .ref h6, .int 2, .int 0, .int 0, .int 0, .int 0, .ref h7, .ref h8, .ref h9, .ref h10, .int 2, .ref h11, .int 1, .ref h12, .ref h13, .int 1, .ref h14, .ref h15, .ref h16, .int 0, .ref h17, .ref h18, .ref h19, .ref h20, .ref h21, .ref h22, .ref h23, .ref h24, .ref h25, .int 0, .ref h26, .ref h27, .ref h28, .int (-1), .ref h29, .long 0, .long 0, .int 0, .int 0, .long 0, .long 0, .ref h30, .ref h31, .ref h32, .ref h33, .ref h34, .ref h35, .long 0]))] sz)) 0 0 (va_A [(h0, .inr (15, [.ref h1, .int 0, .int 0, .ref h2, .int 0, .int (-1), .int 0, .int 0, .int 0, .int 0, .int 0, .int 2, .int 0, .int 0, .int 0, .ref h3, .ref h4, .ref h5, .ref h6, .int 2, .int 0, .int 0, .int 0, .int 0, .ref h7, .ref h8, .ref h9, .ref h10, .int 2, .ref h11, .int 1, .ref h12, .ref h13, .int 1, .ref h14, .ref h15, .ref h16, .int 0, .ref h17, .ref h18, .ref h19, .ref h20, .ref h21, .ref h22, .ref h23, .ref h24, .ref h25, .int 0, .ref h26, .ref h27, .ref h28, .int (-1), .ref h29, .long 0, .long 0, .int 0, .int 0, .long 0, .long 0, .ref h30, .ref h31, .ref h32, .ref h33, .ref h34, .ref h35, .long 0]))] sz) := by
  refine jw_met (fun A => jw_Qi D (fun r => r = 0) (fun w => w = [(h0, .inr (15, [.ref h1, .int 0, .int 1, .ref h2, .int 0, .int (-1), .int 0, .int 0, .int 0, .int 0, .int 0, .int 2, .int 0, .int 0, .int 0, .ref h3, .ref h4, .ref h5, .ref h6, .int 2, .int 0, .int 0, .int 0, .int 0, .ref h7, .ref h8, .ref h9, .ref h10, .int 2, .ref h11, .int 1, .ref h12, .ref h13, .int 1, .ref h14, .ref h15, .ref h16, .int 0, .ref h17, .ref h18, .ref h19, .ref h20, .ref h21, .ref h22, .ref h23, .ref h24, .ref h25, .int 0, .ref h26, .ref h27, .ref h28, .int (-1), .ref h29, .long 0, .long 0, .int 0, .int 0, .long 0, .long 0, .ref h30, .ref h31, .ref h32, .ref h33, .ref h34, .ref h35, .long 0]))]) A) (cc := cX12_look) (maxL := 5) (ret := (some .int)) pn_X12_look rfl rfl ?_
  intro p e s m below meth c A H locs ls hx hb hml hr hts hown hlocks hin hP hD hA hS hE hl
  have hown : s.vm.findClass RX12 = some m.cls := hown
  have hl : lv_has ls 5 [(0, .ref h0), (1, .int p1), (2, .int p2)] := hl
  refine lv_aload_n hx hb dX12_look_0 rfl (lv_at hl 0 rfl) ?_
  refine lv_iconst (v := 0) hx hb dX12_look_1 (by decide +kernel) ?_
  refine va_put (D := D) (ci := 15) (v := .int 0) (C := RX12) (T := TX12) (N := 66) hx hb hts iw_X12_look__X12 tyX12 tyX12_ok nmX12 hown hE.1 hP hD hS 0 rfl rfl 2 (by decide) (hts _ mw_X12_look__1) (fun _ h9 => h9) rfl (tyX12_ok 2 (by decide)) rfl rfl (Nat.le_of_ble_eq_true rfl) dX12_look_2 (fun H locs hP hD hS => ?_)
  have hP : va_P D vwCl [(h0, .inr (15, [.ref h1, .int 0, .int 0, .ref h2, .int 0, .int (-1), .int 0, .int 0, .int 0, .int 0, .int 0, .int 2, .int 0, .int 0, .int 0, .ref h3, .ref h4, .ref h5, .ref h6, .int 2, .int 0, .int 0, .int 0, .int 0, .ref h7, .ref h8, .ref h9, .ref h10, .int 2, .ref h11, .int 1, .ref h12, .ref h13, .int 1, .ref h14, .ref h15, .ref h16, .int 0, .ref h17, .ref h18, .ref h19, .ref h20, .ref h21, .ref h22, .ref h23, .ref h24, .ref h25, .int 0, .ref h26, .ref h27, .ref h28, .int (-1), .ref h29, .long 0, .long 0, .int 0, .int 0, .long 0, .long 0, .ref h30, .ref h31, .ref h32, .ref h33, .ref h34, .ref h35, .long 0]))] H := hP
  have hD : va_D A [(h0, .inr (15, [.ref h1, .int 0, .int 0, .ref h2, .int 0, .int (-1), .int 0, .int 0, .int 0, .int 0, .int 0, .int 2, .int 0, .int 0, .int 0, .ref h3, .ref h4, .ref h5, .ref h6, .int 2, .int 0, .int 0, .int 0, .int 0, .ref h7, .ref h8, .ref h9, .ref h10, .int 2, .ref h11, .int 1, .ref h12, .ref h13, .int 1, .ref h14, .ref h15, .ref h16, .int 0, .ref h17, .ref h18, .ref h19, .ref h20, .ref h21, .ref h22, .ref h23, .ref h24, .ref h25, .int 0, .ref h26, .ref h27, .ref h28, .int (-1), .ref h29, .long 0, .long 0, .int 0, .int 0, .long 0, .long 0, .ref h30, .ref h31, .ref h32, .ref h33, .ref h34, .ref h35, .long 0]))] := hD
  refine lv_aload_n hx hb dX12_look_5 rfl (lv_at hl 0 rfl) ?_
  refine lv_iload_n hx hb dX12_look_6 rfl (lv_at hl 1 rfl) ?_
  refine jw_mi (wc := [(h0, .inr (15, [.ref h1, .int 0, .int 0, .ref h2, .int 0, .int (-1), .int 0, .int 0, .int 0, .int 0, .int 0, .int 2, .int 0, .int 0, .int 0, .ref h3, .ref h4, .ref h5, .ref h6, .int 2, .int 0, .int 0, .int 0, .int 0, .ref h7, .ref h8, .ref h9, .ref h10, .int 2, .ref h11, .int 1, .ref h12, .ref h13, .int 1, .ref h14, .ref h15, .ref h16, .int 0, .ref h17, .ref h18, .ref h19, .ref h20, .ref h21, .ref h22, .ref h23, .ref h24, .ref h25, .int 0, .ref h26, .ref h27, .ref h28, .int (-1), .ref h29, .long 0, .long 0, .int 0, .int 0, .long 0, .long 0, .ref h30, .ref h31, .ref h32, .ref h33, .ref h34, .ref h35, .long 0]))]) (cs := 0) (ss := 0) (va_runV (As := [.int p1]) (rest := []) ⟨hx, hb, hml, hown, hts⟩ (k122_X12_isTeam h0 h1 h2 h3 h4 h5 h6 h7 h8 h9 h10 h11 h12 h13 h14 h15 h16 h17 h18 h19 h20 h21 h22 h23 h24 h25 h26 h27 h28 h29 h30 h31 h32 h33 h34 h35 p1 H.size) (cwV 1 hts gX12_look_X12_isTeam rfl rfl rfl ydV_X12_isTeam ⟨Nat.le_of_ble_eq_true rfl, Nat.le_of_ble_eq_true rfl⟩) (jw_mpreV (ci := 15) (q0 := 0) hP hD hS hA hE [true] rfl rfl rfl) rfl rfl hl.1 rfl (lv_room (Nat.le_of_ble_eq_true rfl)) dX12_look_7 ⟨Nat.le_of_ble_eq_true rfl, Nat.le_of_ble_eq_true rfl⟩) hP hD hS hA [true] rfl rfl rfl (fun r9 w1 H locs hr9 hw9 hP hD hS => ?_)
  subst hr9
  subst hw9
  have hP : va_P D vwCl [(h0, .inr (15, [.ref h1, .int 0, .int 0, .ref h2, .int 0, .int (-1), .int 0, .int 0, .int 0, .int 0, .int 0, .int 2, .int 0, .int 0, .int 0, .ref h3, .ref h4, .ref h5, .ref h6, .int 2, .int 0, .int 0, .int 0, .int 0, .ref h7, .ref h8, .ref h9, .ref h10, .int 2, .ref h11, .int 1, .ref h12, .ref h13, .int 1, .ref h14, .ref h15, .ref h16, .int 0, .ref h17, .ref h18, .ref h19, .ref h20, .ref h21, .ref h22, .ref h23, .ref h24, .ref h25, .int 0, .ref h26, .ref h27, .ref h28, .int (-1), .ref h29, .long 0, .long 0, .int 0, .int 0, .long 0, .long 0, .ref h30, .ref h31, .ref h32, .ref h33, .ref h34, .ref h35, .long 0]))] H := hP
  have hD : va_D A [(h0, .inr (15, [.ref h1, .int 0, .int 0, .ref h2, .int 0, .int (-1), .int 0, .int 0, .int 0, .int 0, .int 0, .int 2, .int 0, .int 0, .int 0, .ref h3, .ref h4, .ref h5, .ref h6, .int 2, .int 0, .int 0, .int 0, .int 0, .ref h7, .ref h8, .ref h9, .ref h10, .int 2, .ref h11, .int 1, .ref h12, .ref h13, .int 1, .ref h14, .ref h15, .ref h16, .int 0, .ref h17, .ref h18, .ref h19, .ref h20, .ref h21, .ref h22, .ref h23, .ref h24, .ref h25, .int 0, .ref h26, .ref h27, .ref h28, .int (-1), .ref h29, .long 0, .long 0, .int 0, .int 0, .long 0, .long 0, .ref h30, .ref h31, .ref h32, .ref h33, .ref h34, .ref h35, .long 0]))] := hD
  refine lv_if_ne (tgt := 19) hx hb dX12_look_10 (by decide) (fun c9 => absurd (by decide +kernel) c9) (fun _ => ?_)
  refine lv_aload_n hx hb dX12_look_13 rfl (lv_at hl 0 rfl) ?_
  refine lv_iconst (v := 1) hx hb dX12_look_14 (by decide +kernel) ?_
  refine jw_mi (wc := [(h0, .inr (15, [.ref h1, .int 0, .int 0, .ref h2, .int 0, .int (-1), .int 0, .int 0, .int 0, .int 0, .int 0, .int 2, .int 0, .int 0, .int 0, .ref h3, .ref h4, .ref h5, .ref h6, .int 2, .int 0, .int 0, .int 0, .int 0, .ref h7, .ref h8, .ref h9, .ref h10, .int 2, .ref h11, .int 1, .ref h12, .ref h13, .int 1, .ref h14, .ref h15, .ref h16, .int 0, .ref h17, .ref h18, .ref h19, .ref h20, .ref h21, .ref h22, .ref h23, .ref h24, .ref h25, .int 0, .ref h26, .ref h27, .ref h28, .int (-1), .ref h29, .long 0, .long 0, .int 0, .int 0, .long 0, .long 0, .ref h30, .ref h31, .ref h32, .ref h33, .ref h34, .ref h35, .long 0]))]) (cs := 0) (ss := 0) (va_runV (As := [.int 1]) (rest := []) ⟨hx, hb, hml, hown, hts⟩ (k644_X12_fails h0 h1 h2 h3 h4 h5 h6 h7 h8 h9 h10 h11 h12 h13 h14 h15 h16 h17 h18 h19 h20 h21 h22 h23 h24 h25 h26 h27 h28 h29 h30 h31 h32 h33 h34 h35 H.size) (cwV 1 hts gX12_look_X12_fails rfl rfl rfl ydV_X12_fails ⟨Nat.le_of_ble_eq_true rfl, Nat.le_of_ble_eq_true rfl⟩) (jw_mpreV (ci := 15) (q0 := 0) hP hD hS hA hE [true] rfl rfl rfl) rfl rfl hl.1 rfl (lv_room (Nat.le_of_ble_eq_true rfl)) dX12_look_15 ⟨Nat.le_of_ble_eq_true rfl, Nat.le_of_ble_eq_true rfl⟩) hP hD hS hA [true] rfl rfl rfl (fun r9 w1 H locs hr9 hw9 hP hD hS => ?_)
  subst hr9
  subst hw9
  have hP : va_P D vwCl [(h0, .inr (15, [.ref h1, .int 0, .int 1, .ref h2, .int 0, .int (-1), .int 0, .int 0, .int 0, .int 0, .int 0, .int 2, .int 0, .int 0, .int 0, .ref h3, .ref h4, .ref h5, .ref h6, .int 2, .int 0, .int 0, .int 0, .int 0, .ref h7, .ref h8, .ref h9, .ref h10, .int 2, .ref h11, .int 1, .ref h12, .ref h13, .int 1, .ref h14, .ref h15, .ref h16, .int 0, .ref h17, .ref h18, .ref h19, .ref h20, .ref h21, .ref h22, .ref h23, .ref h24, .ref h25, .int 0, .ref h26, .ref h27, .ref h28, .int (-1), .ref h29, .long 0, .long 0, .int 0, .int 0, .long 0, .long 0, .ref h30, .ref h31, .ref h32, .ref h33, .ref h34, .ref h35, .long 0]))] H := hP
  have hD : va_D A [(h0, .inr (15, [.ref h1, .int 0, .int 1, .ref h2, .int 0, .int (-1), .int 0, .int 0, .int 0, .int 0, .int 0, .int 2, .int 0, .int 0, .int 0, .ref h3, .ref h4, .ref h5, .ref h6, .int 2, .int 0, .int 0, .int 0, .int 0, .ref h7, .ref h8, .ref h9, .ref h10, .int 2, .ref h11, .int 1, .ref h12, .ref h13, .int 1, .ref h14, .ref h15, .ref h16, .int 0, .ref h17, .ref h18, .ref h19, .ref h20, .ref h21, .ref h22, .ref h23, .ref h24, .ref h25, .int 0, .ref h26, .ref h27, .ref h28, .int (-1), .ref h29, .long 0, .long 0, .int 0, .int 0, .long 0, .long 0, .ref h30, .ref h31, .ref h32, .ref h33, .ref h34, .ref h35, .long 0]))] := hD
  refine W.widen (k := 0) (n := 0) (Nat.le_of_ble_eq_true rfl) (Nat.le_of_ble_eq_true rfl) ?_
  exact jw_iret hx hb hr hlocks rfl rfl hP hD hS dX12_look_18
set_option maxHeartbeats 4000000 in
set_option maxRecDepth 100000 in
theorem k646_X12_thrown {l : Launch} {D : va_G} {Y : Nat → ClassId} {tt : Nat → Nat} (h0 h1 h2 h3 h4 h5 h6 h7 h8 h9 h10 h11 h12 h13 h14 h15 h16 h17 h18 h19 h20 h21 h22 h23 h24 h25 h26 h27 h28 h29 h30 h31 h32 h33 h34 h35 : Nat) (sz : Nat) : Met l yX12_thrown wsX12_thrown ({ frames := 0, cells := 0, slots := 0, locals := 0 }) (jw_Pc D Y tt [.ref h0] [(h0, .inr (15, [.ref h1, .int 0, .int 1, .ref h2, .int 0, .int (-1), .int 0, .int 0, .int 0, .int 0, .int 0, .int 2, .int 0, .int 0, .int 0, .ref h3, .ref h4, .ref h5, .ref h6, .int 2, .int 0, .int 0, .int 0, .int 0, .ref h7, .ref h8, .ref h9, .ref h10, .int 2, .ref h11, .int 1, .ref h12, .ref h13, .int 1, .ref h14, .ref h15, .ref h16, .int 0, .ref h17, .ref h18, .ref h19, .ref h20, .ref h21, .ref h22, .ref h23, .ref h24, .ref h25, .int 0, .ref h26, .ref h27, .ref h28, .int (-1), .ref h29, .long 0, .long 0, .int 0, .int 0, .long 0, .long 0, .ref h30, .ref h31, .ref h32, .ref h33, .ref h34, .ref h35, .long 0]))] sz) (jw_Qi D (fun r => r = 1) (fun w => w = [(h0, .inr (15, [.ref h1, .int 0, .int 1, .ref h2, .int 0, .int (-1), .int 0, .int 0, .int 0, .int 0, .int 0, .int 2, .int 0, .int 0, .int 0, .ref h3, .ref h4, .ref h5, .ref h6, .int 2, .int 0, .int 0, .int 0, .int 0, .ref h7, .ref h8, .ref h9, .ref h10, .int 2, .ref h11, .int 1, .ref h12, .ref h13, .int 1, .ref h14, .ref h15, .ref h16, .int 0, .ref h17, .ref h18, .ref h19, .ref h20, .ref h21, .ref h22, .ref h23, .ref h24, .ref h25, .int 0, .ref h26, .ref h27, .ref h28, .int (-1), .ref h29, .long 0, .long 0, .int 0, .int 0, .long 0, .long 0, .ref h30, .ref h31, .ref h32, .ref h33, .ref h34, .ref h35, .long 0]))]) (va_A [(h0, .inr (15, [.ref h1, .int 0, .int 1, .ref h2, .int 0, .int (-1), .int 0, .int 0, .int 0, .int 0, .int 0, .int 2, .int 0, .int 0, .int 0, .ref h3, .ref h4, .ref h5, .ref h6, .int 2, .int 0, .int 0, .int 0, .int 0, .ref h7, .ref h8, .ref h9, .ref h10, .int 2, .ref h11, .int 1, .ref h12, .ref h13, .int 1, .ref h14, .ref h15, .ref h16, .int 0, .ref h17, .ref h18, .ref h19, .ref h20, .ref h21, .ref h22, .ref h23, .ref h24, .ref h25, .int 0, .ref h26, .ref h27, .ref h28, .int (-1), .ref h29, .long 0, .long 0, .int 0, .int 0, .long 0, .long 0, .ref h30, .ref h31, .ref h32, .ref h33, .ref h34, .ref h35, .long 0]))] sz)) 0 0 (va_A [(h0, .inr (15, [.ref h1, .int 0, .int 1, .ref h2, .int 0, .int (-1), .int 0, .int 0, .int 0, .int 0, .int 0, .int 2, .int 0, .int 0, .int 0, .ref h3, .ref h4, .ref h5, .ref h6, .int 2, .int 0, .int 0, .int 0, .int 0, .ref h7, .ref h8, .ref h9, .ref h10, .int 2, .ref h11, .int 1, .ref h12, .ref h13, .int 1, .ref h14, .ref h15, .ref h16, .int 0, .ref h17, .ref h18, .ref h19, .ref h20, .ref h21, .ref h22, .ref h23, .ref h24, .ref h25, .int 0, .ref h26, .ref h27, .ref h28, .int (-1), .ref h29, .long 0, .long 0, .int 0, .int 0, .long 0, .long 0, .ref h30, .ref h31, .ref h32, .ref h33, .ref h34, .ref h35, .long 0]))] sz) := by
  refine jw_met (fun A => jw_Qi D (fun r => r = 1) (fun w => w = [(h0, .inr (15, [.ref h1, .int 0, .int 1, .ref h2, .int 0, .int (-1), .int 0, .int 0, .int 0, .int 0, .int 0, .int 2, .int 0, .int 0, .int 0, .ref h3, .ref h4, .ref h5, .ref h6, .int 2, .int 0, .int 0, .int 0, .int 0, .ref h7, .ref h8, .ref h9, .ref h10, .int 2, .ref h11, .int 1, .ref h12, .ref h13, .int 1, .ref h14, .ref h15, .ref h16, .int 0, .ref h17, .ref h18, .ref h19, .ref h20, .ref h21, .ref h22, .ref h23, .ref h24, .ref h25, .int 0, .ref h26, .ref h27, .ref h28, .int (-1), .ref h29, .long 0, .long 0, .int 0, .int 0, .long 0, .long 0, .ref h30, .ref h31, .ref h32, .ref h33, .ref h34, .ref h35, .long 0]))]) A) (cc := cX12_thrown) (maxL := 1) (ret := (some .int)) pn_X12_thrown rfl rfl ?_
  intro p e s m below meth c A H locs ls hx hb hml hr hts hown hlocks hin hP hD hA hS hE hl
  have hown : s.vm.findClass RX12 = some m.cls := hown
  have hl : lv_has ls 1 [(0, .ref h0)] := hl
  refine lv_aload_n hx hb dX12_thrown_0 rfl (lv_at hl 0 rfl) ?_
  refine va_get (D := D) (ci := 15) (v := .int 1) (C := RX12) (T := TX12) (N := 66) hx hb hts iw_X12_thrown__X12 hown hE.1 hP 0 rfl rfl 2 (by decide) (hts _ mw_X12_thrown__1) (fun _ h9 => h9) rfl dX12_thrown_1 ?_
  refine W.widen (k := 0) (n := 0) (Nat.le_of_ble_eq_true rfl) (Nat.le_of_ble_eq_true rfl) ?_
  exact jw_iret hx hb hr hlocks rfl rfl hP hD hS dX12_thrown_4
