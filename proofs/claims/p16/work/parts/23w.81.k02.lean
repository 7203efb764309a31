set_option maxHeartbeats 4000000 in
set_option maxRecDepth 100000 in
theorem k5_X3_init {l : Launch} {D : va_G} {Y : Nat → ClassId} {tt : Nat → Nat} (h0 : Nat) (sz : Nat) : Met l yX3_init wsX3_init ({ frames := 1, cells := 5, slots := 50, locals := 12 }) (jw_Pc D Y tt [.ref h0] [(h0, .inr (6, [.int 0, .int 0, .int 0, .int 0, .int 0, .null, .null, .null, .null, .null, .int 0]))] sz) (jw_Qv D (fun w => ∃ (q_1 q_2 q_3 q_4 q_5 : Nat), w = [(h0, .inr (6, [.int 2, .int 0, .int 0, .int 0, .int 0, .ref q_1, .ref q_2, .ref q_3, .ref q_4, .ref q_5, .int 0])), (q_1, .inl (Y 1, 12, .inl (jw_l 0 []))), (q_2, .inl (Y 1, 12, .inl (jw_l 0 []))), (q_3, .inl (Y 1, 6, .inl (jw_l 0 []))), (q_4, .inl (Y 1, 10, .inl (jw_l 0 []))), (q_5, .inl (Y 1, 10, .inl (jw_l 0 [])))]) (va_A [(h0, .inr (6, [.int 0, .int 0, .int 0, .int 0, .int 0, .null, .null, .null, .null, .null, .int 0]))] sz)) 5 50 (va_A [(h0, .inr (6, [.int 0, .int 0, .int 0, .int 0, .int 0, .null, .null, .null, .null, .null, .int 0]))] sz) := by
  refine jw_met (fun A => jw_Qv D (fun w => ∃ (q_1 q_2 q_3 q_4 q_5 : Nat), w = [(h0, .inr (6, [.int 2, .int 0, .int 0, .int 0, .int 0, .ref q_1, .ref q_2, .ref q_3, .ref q_4, .ref q_5, .int 0])), (q_1, .inl (Y 1, 12, .inl (jw_l 0 []))), (q_2, .inl (Y 1, 12, .inl (jw_l 0 []))), (q_3, .inl (Y 1, 6, .inl (jw_l 0 []))), (q_4, .inl (Y 1, 10, .inl (jw_l 0 []))), (q_5, .inl (Y 1, 10, .inl (jw_l 0 [])))]) A) (cc := cX3_init) (maxL := 1) (ret := none) pn_X3_init rfl rfl ?_
  intro p e s m below meth c A H locs ls hx hb hml hr hts hown hlocks hin hP hD hA hS hE hl
  have hown : s.vm.findClass RX3 = some m.cls := hown
  have hl : lv_has ls 1 [(0, .ref h0)] := hl
  refine lv_aload_n hx hb dX3_init_0 rfl (lv_at hl 0 rfl) ?_
  refine W.objInit hx hb hown (hts _ mw_X3_init__1) (hts _ mw_X3_init__2) (hts _ mw_X3_init__3) rfl (by rw [hml]; exact hl.1) rfl dX3_init_1 (Nat.le_of_ble_eq_true rfl) (Nat.le_of_ble_eq_true rfl) ?_
  refine W.eq (g2 := F0 m 4 ls []) rfl ?_
  refine lv_aload_n hx hb dX3_init_4 rfl (lv_at hl 0 rfl) ?_
  refine lv_bipush (v := 12) hx hb dX3_init_5 (by decide +kernel) ?_
  refine jw_newa (atype := .int) (ty := .int) (cA := Y 1) (a0 := (12, .inl (jw_l 0 []))) (N' := 12) hx hb 1 (hts _ mw_X3_init__4) rfl hE rfl hP hD hS hA (jw_a0I 12) (by decide +kernel) (by decide +kernel) rfl rfl rfl dX3_init_7 (fun q_1 H hP hD hS => ?_)
  have hP : va_P D vwCl [(h0, .inr (6, [.int 0, .int 0, .int 0, .int 0, .int 0, .null, .null, .null, .null, .null, .int 0])), (q_1, .inl (Y 1, 12, .inl (jw_l 0 [])))] H := hP
  have hD : va_D A [(h0, .inr (6, [.int 0, .int 0, .int 0, .int 0, .int 0, .null, .null, .null, .null, .null, .int 0])), (q_1, .inl (Y 1, 12, .inl (jw_l 0 [])))] := hD
  refine W.widen (k := 1) (n := 12) (Nat.le_of_ble_eq_true rfl) (Nat.le_of_ble_eq_true rfl) ?_
  refine va_putF (D := D) (ci := 6) (v := .ref q_1) (C := RX3) (T := TX3) (N := 11) hx hb hts iw_X3_init__X3 tyX3 tyX3_ok nmX3 hown hE.1 hP hD hS 0 rfl rfl 5 (by decide) (hts _ mw_X3_init__5) (fun _ h9 => h9) rfl hin rfl (tyX3_ok 5 (by decide)) rfl rfl (Nat.le_of_ble_eq_true rfl) dX3_init_9 (fun H locs hP hD hS => ?_)
  have hP : va_P D vwCl [(h0, .inr (6, [.int 0, .int 0, .int 0, .int 0, .int 0, .ref q_1, .null, .null, .null, .null, .int 0])), (q_1, .inl (Y 1, 12, .inl (jw_l 0 [])))] H := hP
  have hD : va_D A [(h0, .inr (6, [.int 0, .int 0, .int 0, .int 0, .int 0, .ref q_1, .null, .null, .null, .null, .int 0])), (q_1, .inl (Y 1, 12, .inl (jw_l 0 [])))] := hD
  refine lv_aload_n hx hb dX3_init_12 rfl (lv_at hl 0 rfl) ?_
  refine lv_bipush (v := 12) hx hb dX3_init_13 (by decide +kernel) ?_
  refine jw_newa (atype := .int) (ty := .int) (cA := Y 1) (a0 := (12, .inl (jw_l 0 []))) (N' := 12) hx hb 1 (hts _ mw_X3_init__4) rfl hE rfl hP hD hS hA (jw_a0I 12) (by decide +kernel) (by decide +kernel) rfl rfl rfl dX3_init_15 (fun q_2 H hP hD hS => ?_)
  have hP : va_P D vwCl [(h0, .inr (6, [.int 0, .int 0, .int 0, .int 0, .int 0, .ref q_1, .null, .null, .null, .null, .int 0])), (q_1, .inl (Y 1, 12, .inl (jw_l 0 []))), (q_2, .inl (Y 1, 12, .inl (jw_l 0 [])))] H := hP
  have hD : va_D A [(h0, .inr (6, [.int 0, .int 0, .int 0, .int 0, .int 0, .ref q_1, .null, .null, .null, .null, .int 0])), (q_1, .inl (Y 1, 12, .inl (jw_l 0 []))), (q_2, .inl (Y 1, 12, .inl (jw_l 0 [])))] := hD
  refine W.widen (k := 2) (n := 24) (Nat.le_of_ble_eq_true rfl) (Nat.le_of_ble_eq_true rfl) ?_
  refine va_putF (D := D) (ci := 6) (v := .ref q_2) (C := RX3) (T := TX3) (N := 11) hx hb hts iw_X3_init__X3 tyX3 tyX3_ok nmX3 hown hE.1 hP hD hS 0 rfl rfl 6 (by decide) (hts _ mw_X3_init__6) (fun _ h9 => h9) rfl hin rfl (tyX3_ok 6 (by decide)) rfl rfl (Nat.le_of_ble_eq_true rfl) dX3_init_17 (fun H locs hP hD hS => ?_)
  have hP : va_P D vwCl [(h0, .inr (6, [.int 0, .int 0, .int 0, .int 0, .int 0, .ref q_1, .ref q_2, .null, .null, .null, .int 0])), (q_1, .inl (Y 1, 12, .inl (jw_l 0 []))), (q_2, .inl (Y 1, 12, .inl (jw_l 0 [])))] H := hP
  have hD : va_D A [(h0, .inr (6, [.int 0, .int 0, .int 0, .int 0, .int 0, .ref q_1, .ref q_2, .null, .null, .null, .int 0])), (q_1, .inl (Y 1, 12, .inl (jw_l 0 []))), (q_2, .inl (Y 1, 12, .inl (jw_l 0 [])))] := hD
  refine lv_aload_n hx hb dX3_init_20 rfl (lv_at hl 0 rfl) ?_
  refine lv_bipush (v := 6) hx hb dX3_init_21 (by decide +kernel) ?_
  refine jw_newa (atype := .int) (ty := .int) (cA := Y 1) (a0 := (6, .inl (jw_l 0 []))) (N' := 6) hx hb 1 (hts _ mw_X3_init__4) rfl hE rfl hP hD hS hA (jw_a0I 6) (by decide +kernel) (by decide +kernel) rfl rfl rfl dX3_init_23 (fun q_3 H hP hD hS => ?_)
  have hP : va_P D vwCl [(h0, .inr (6, [.int 0, .int 0, .int 0, .int 0, .int 0, .ref q_1, .ref q_2, .null, .null, .null, .int 0])), (q_1, .inl (Y 1, 12, .inl (jw_l 0 []))), (q_2, .inl (Y 1, 12, .inl (jw_l 0 []))), (q_3, .inl (Y 1, 6, .inl (jw_l 0 [])))] H := hP
  have hD : va_D A [(h0, .inr (6, [.int 0, .int 0, .int 0, .int 0, .int 0, .ref q_1, .ref q_2, .null, .null, .null, .int 0])), (q_1, .inl (Y 1, 12, .inl (jw_l 0 []))), (q_2, .inl (Y 1, 12, .inl (jw_l 0 []))), (q_3, .inl (Y 1, 6, .inl (jw_l 0 [])))] := hD
  refine W.widen (k := 3) (n := 30) (Nat.le_of_ble_eq_true rfl) (Nat.le_of_ble_eq_true rfl) ?_
  refine va_putF (D := D) (ci := 6) (v := .ref q_3) (C := RX3) (T := TX3) (N := 11) hx hb hts iw_X3_init__X3 tyX3 tyX3_ok nmX3 hown hE.1 hP hD hS 0 rfl rfl 7 (by decide) (hts _ mw_X3_init__7) (fun _ h9 => h9) rfl hin rfl (tyX3_ok 7 (by decide)) rfl rfl (Nat.le_of_ble_eq_true rfl) dX3_init_25 (fun H locs hP hD hS => ?_)
  have hP : va_P D vwCl [(h0, .inr (6, [.int 0, .int 0, .int 0, .int 0, .int 0, .ref q_1, .ref q_2, .ref q_3, .null, .null, .int 0])), (q_1, .inl (Y 1, 12, .inl (jw_l 0 []))), (q_2, .inl (Y 1, 12, .inl (jw_l 0 []))), (q_3, .inl (Y 1, 6, .inl (jw_l 0 [])))] H := hP
  have hD : va_D A [(h0, .inr (6, [.int 0, .int 0, .int 0, .int 0, .int 0, .ref q_1, .ref q_2, .ref q_3, .null, .null, .int 0])), (q_1, .inl (Y 1, 12, .inl (jw_l 0 []))), (q_2, .inl (Y 1, 12, .inl (jw_l 0 []))), (q_3, .inl (Y 1, 6, .inl (jw_l 0 [])))] := hD
  refine lv_aload_n hx hb dX3_init_28 rfl (lv_at hl 0 rfl) ?_
  refine lv_bipush (v := 10) hx hb dX3_init_29 (by decide +kernel) ?_
  refine jw_newa (atype := .int) (ty := .int) (cA := Y 1) (a0 := (10, .inl (jw_l 0 []))) (N' := 10) hx hb 1 (hts _ mw_X3_init__4) rfl hE rfl hP hD hS hA (jw_a0I 10) (by decide +kernel) (by decide +kernel) rfl rfl rfl dX3_init_31 (fun q_4 H hP hD hS => ?_)
  have hP : va_P D vwCl [(h0, .inr (6, [.int 0, .int 0, .int 0, .int 0, .int 0, .ref q_1, .ref q_2, .ref q_3, .null, .null, .int 0])), (q_1, .inl (Y 1, 12, .inl (jw_l 0 []))), (q_2, .inl (Y 1, 12, .inl (jw_l 0 []))), (q_3, .inl (Y 1, 6, .inl (jw_l 0 []))), (q_4, .inl (Y 1, 10, .inl (jw_l 0 [])))] H := hP
  have hD : va_D A [(h0, .inr (6, [.int 0, .int 0, .int 0, .int 0, .int 0, .ref q_1, .ref q_2, .ref q_3, .null, .null, .int 0])), (q_1, .inl (Y 1, 12, .inl (jw_l 0 []))), (q_2, .inl (Y 1, 12, .inl (jw_l 0 []))), (q_3, .inl (Y 1, 6, .inl (jw_l 0 []))), (q_4, .inl (Y 1, 10, .inl (jw_l 0 [])))] := hD
  refine W.widen (k := 4) (n := 40) (Nat.le_of_ble_eq_true rfl) (Nat.le_of_ble_eq_true rfl) ?_
  refine va_putF (D := D) (ci := 6) (v := .ref q_4) (C := RX3) (T := TX3) (N := 11) hx hb hts iw_X3_init__X3 tyX3 tyX3_ok nmX3 hown hE.1 hP hD hS 0 rfl rfl 8 (by decide) (hts _ mw_X3_init__8) (fun _ h9 => h9) rfl hin rfl (tyX3_ok 8 (by decide)) rfl rfl (Nat.le_of_ble_eq_true rfl) dX3_init_33 (fun H locs hP hD hS => ?_)
  have hP : va_P D vwCl [(h0, .inr (6, [.int 0, .int 0, .int 0, .int 0, .int 0, .ref q_1, .ref q_2, .ref q_3, .ref q_4, .null, .int 0])), (q_1, .inl (Y 1, 12, .inl (jw_l 0 []))), (q_2, .inl (Y 1, 12, .inl (jw_l 0 []))), (q_3, .inl (Y 1, 6, .inl (jw_l 0 []))), (q_4, .inl (Y 1, 10, .inl (jw_l 0 [])))] H := hP
  have hD : va_D A [(h0, .inr (6, [.int 0, .int 0, .int 0, .int 0, .int 0, .ref q_1, .ref q_2, .ref q_3, .ref q_4, .null, .int 0])), (q_1, .inl (Y 1, 12, .inl (jw_l 0 []))), (q_2, .inl (Y 1, 12, .inl (jw_l 0 []))), (q_3, .inl (Y 1, 6, .inl (jw_l 0 []))), (q_4, .inl (Y 1, 10, .inl (jw_l 0 [])))] := hD
  refine lv_aload_n hx hb dX3_init_36 rfl (lv_at hl 0 rfl) ?_
  refine lv_bipush (v := 10) hx hb dX3_init_37 (by decide +kernel) ?_
  refine jw_newa (atype := .int) (ty := .int) (cA := Y 1) (a0 := (10, .inl (jw_l 0 []))) (N' := 10) hx hb 1 (hts _ mw_X3_init__4) rfl hE rfl hP hD hS hA (jw_a0I 10) (by decide +kernel) (by decide +kernel) rfl rfl rfl dX3_init_39 (fun q_5 H hP hD hS => ?_)
  have hP : va_P D vwCl [(h0, .inr (6, [.int 0, .int 0, .int 0, .int 0, .int 0, .ref q_1, .ref q_2, .ref q_3, .ref q_4, .null, .int 0])), (q_1, .inl (Y 1, 12, .inl (jw_l 0 []))), (q_2, .inl (Y 1, 12, .inl (jw_l 0 []))), (q_3, .inl (Y 1, 6, .inl (jw_l 0 []))), (q_4, .inl (Y 1, 10, .inl (jw_l 0 []))), (q_5, .inl (Y 1, 10, .inl (jw_l 0 [])))] H := hP
  have hD : va_D A [(h0, .inr (6, [.int 0, .int 0, .int 0, .int 0, .int 0, .ref q_1, .ref q_2, .ref q_3, .ref q_4, .null, .int 0])), (q_1, .inl (Y 1, 12, .inl (jw_l 0 []))), (q_2, .inl (Y 1, 12, .inl (jw_l 0 []))), (q_3, .inl (Y 1, 6, .inl (jw_l 0 []))), (q_4, .inl (Y 1, 10, .inl (jw_l 0 []))), (q_5, .inl (Y 1, 10, .inl (jw_l 0 [])))] := hD
  refine W.widen (k := 5) (n := 50) (Nat.le_of_ble_eq_true rfl) (Nat.le_of_ble_eq_true rfl) ?_
  refine va_putF (D := D) (ci := 6) (v := .ref q_5) (C := RX3) (T := TX3) (N := 11) hx hb hts iw_X3_init__X3 tyX3 tyX3_ok nmX3 hown hE.1 hP hD hS 0 rfl rfl 9 (by decide) (hts _ mw_X3_init__9) (fun _ h9 => h9) rfl hin rfl (tyX3_ok 9 (by decide)) rfl rfl (Nat.le_of_ble_eq_true rfl) dX3_init_41 (fun H locs hP hD hS => ?_)
  have hP : va_P D vwCl [(h0, .inr (6, [.int 0, .int 0, .int 0, .int 0, .int 0, .ref q_1, .ref q_2, .ref q_3, .ref q_4, .ref q_5, .int 0])), (q_1, .inl (Y 1, 12, .inl (jw_l 0 []))), (q_2, .inl (Y 1, 12, .inl (jw_l 0 []))), (q_3, .inl (Y 1, 6, .inl (jw_l 0 []))), (q_4, .inl (Y 1, 10, .inl (jw_l 0 []))), (q_5, .inl (Y 1, 10, .inl (jw_l 0 [])))] H := hP
  have hD : va_D A [(h0, .inr (6, [.int 0, .int 0, .int 0, .int 0, .int 0, .ref q_1, .ref q_2, .ref q_3, .ref q_4, .ref q_5, .int 0])), (q_1, .inl (Y 1, 12, .inl (jw_l 0 []))), (q_2, .inl (Y 1, 12, .inl (jw_l 0 []))), (q_3, .inl (Y 1, 6, .inl (jw_l 0 []))), (q_4, .inl (Y 1, 10, .inl (jw_l 0 []))), (q_5, .inl (Y 1, 10, .inl (jw_l 0 [])))] := hD
  refine lv_aload_n hx hb dX3_init_44 rfl (lv_at hl 0 rfl) ?_
  refine lv_iconst (v := 2) hx hb dX3_init_45 (by decide +kernel) ?_
  refine va_put (D := D) (ci := 6) (v := .int 2) (C := RX3) (T := TX3) (N := 11) hx hb hts iw_X3_init__X3 tyX3 tyX3_ok nmX3 hown hE.1 hP hD hS 0 rfl rfl 0 (by decide) (hts _ mw_X3_init__10) (fun _ h9 => h9) rfl (tyX3_ok 0 (by decide)) rfl rfl (Nat.le_of_ble_eq_true rfl) dX3_init_46 (fun H locs hP hD hS => ?_)
  have hP : va_P D vwCl [(h0, .inr (6, [.int 2, .int 0, .int 0, .int 0, .int 0, .ref q_1, .ref q_2, .ref q_3, .ref q_4, .ref q_5, .int 0])), (q_1, .inl (Y 1, 12, .inl (jw_l 0 []))), (q_2, .inl (Y 1, 12, .inl (jw_l 0 []))), (q_3, .inl (Y 1, 6, .inl (jw_l 0 []))), (q_4, .inl (Y 1, 10, .inl (jw_l 0 []))), (q_5, .inl (Y 1, 10, .inl (jw_l 0 [])))] H := hP
  have hD : va_D A [(h0, .inr (6, [.int 2, .int 0, .int 0, .int 0, .int 0, .ref q_1, .ref q_2, .ref q_3, .ref q_4, .ref q_5, .int 0])), (q_1, .inl (Y 1, 12, .inl (jw_l 0 []))), (q_2, .inl (Y 1, 12, .inl (jw_l 0 []))), (q_3, .inl (Y 1, 6, .inl (jw_l 0 []))), (q_4, .inl (Y 1, 10, .inl (jw_l 0 []))), (q_5, .inl (Y 1, 10, .inl (jw_l 0 [])))] := hD
  refine W.widen (k := 5) (n := 50) (Nat.le_of_ble_eq_true rfl) (Nat.le_of_ble_eq_true rfl) ?_
  exact jw_vret hx hb hr hlocks ⟨q_1, q_2, q_3, q_4, q_5, rfl⟩ hP hD hS dX3_init_49
set_option maxHeartbeats 4000000 in
set_option maxRecDepth 100000 in
theorem k6_X5_init {l : Launch} {D : va_G} {Y : Nat → ClassId} {tt : Nat → Nat} (h0 h1 : Nat) (sz : Nat) : Met l yX5_init wsX5_init ({ frames := 2, cells := 6, slots := 61, locals := 32 }) (jw_Pc D Y tt [.ref h0, .ref h1] [(h0, .inr (8, [.null, .null, .int 0, .int 0, .int 0, .int 0, .int 0, .int 0, .int 0]))] sz) (jw_Qv D (fun w => ∃ (q_1 q_2 q_3 q_4 q_5 q_6 : Nat), w = [(h0, .inr (8, [.ref h1, .ref q_1, .int 0, .int (-1), .int 0, .int 0, .int 0, .int 0, .int 0])), (q_1, .inr (6, [.int 2, .int 0, .int 0, .int 0, .int 0, .ref q_2, .ref q_3, .ref q_4, .ref q_5, .ref q_6, .int 0])), (q_2, .inl (Y 1, 12, .inl (jw_l 0 []))), (q_3, .inl (Y 1, 12, .inl (jw_l 0 []))), (q_4, .inl (Y 1, 6, .inl (jw_l 0 []))), (q_5, .inl (Y 1, 10, .inl (jw_l 0 []))), (q_6, .inl (Y 1, 10, .inl (jw_l 0 [])))]) (va_A [(h0, .inr (8, [.null, .null, .int 0, .int 0, .int 0, .int 0, .int 0, .int 0, .int 0]))] sz)) 6 61 (va_A [(h0, .inr (8, [.null, .null, .int 0, .int 0, .int 0, .int 0, .int 0, .int 0, .int 0]))] sz) := by
  refine jw_met (fun A => jw_Qv D (fun w => ∃ (q_1 q_2 q_3 q_4 q_5 q_6 : Nat), w = [(h0, .inr (8, [.ref h1, .ref q_1, .int 0, .int (-1), .int 0, .int 0, .int 0, .int 0, .int 0])), (q_1, .inr (6, [.int 2, .int 0, .int 0, .int 0, .int 0, .ref q_2, .ref q_3, .ref q_4, .ref q_5, .ref q_6, .int 0])), (q_2, .inl (Y 1, 12, .inl (jw_l 0 []))), (q_3, .inl (Y 1, 12, .inl (jw_l 0 []))), (q_4, .inl (Y 1, 6, .inl (jw_l 0 []))), (q_5, .inl (Y 1, 10, .inl (jw_l 0 []))), (q_6, .inl (Y 1, 10, .inl (jw_l 0 [])))]) A) (cc := cX5_init) (maxL := 2) (ret := none) pn_X5_init rfl rfl ?_
  intro p e s m below meth c A H locs ls hx hb hml hr hts hown hlocks hin hP hD hA hS hE hl
  have hown : s.vm.findClass RX5 = some m.cls := hown
  have hl : lv_has ls 2 [(0, .ref h0), (1, .ref h1)] := hl
  refine lv_aload_n hx hb dX5_init_0 rfl (lv_at hl 0 rfl) ?_
  refine W.objInit hx hb hown (hts _ mw_X5_init__1) (hts _ mw_X5_init__2) (hts _ mw_X5_init__3) rfl (by rw [hml]; exact hl.1) rfl dX5_init_1 (Nat.le_of_ble_eq_true rfl) (Nat.le_of_ble_eq_true rfl) ?_
  refine W.eq (g2 := F0 m 4 ls []) rfl ?_
  refine lv_aload_n hx hb dX5_init_4 rfl (lv_at hl 0 rfl) ?_
  refine va_new (ci := 6) (fs := [.int 0, .int 0, .int 0, .int 0, .int 0, .null, .null, .null, .null, .null, .int 0]) (C := RX3) (T := TX3) (N := 11) hx hb hts iw_X5_init__X3 tyX3 tyX3_ok hown (hts _ mw_X5_init__4) (hts _ mw_X5_init__5) (hts _ mw_X5_init__6) hE.1 hP hD hS hA rfl fd_X3 (Nat.le_of_ble_eq_true rfl) (Nat.le_of_ble_eq_true rfl) dX5_init_5 (fun q_1 H hP hD hS => ?_)
  have hP : va_P D vwCl [(h0, .inr (8, [.null, .null, .int 0, .int 0, .int 0, .int 0, .int 0, .int 0, .int 0])), (q_1, .inr (6, [.int 0, .int 0, .int 0, .int 0, .int 0, .null, .null, .null, .null, .null, .int 0]))] H := hP
  have hD : va_D A [(h0, .inr (8, [.null, .null, .int 0, .int 0, .int 0, .int 0, .int 0, .int 0, .int 0])), (q_1, .inr (6, [.int 0, .int 0, .int 0, .int 0, .int 0, .null, .null, .null, .null, .null, .int 0]))] := hD
  refine W.widen (k := 1) (n := 11) (Nat.le_of_ble_eq_true rfl) (Nat.le_of_ble_eq_true rfl) ?_
  refine lv_dup hx hb dX5_init_8 rfl ?_
  refine jw_mv (wc := [(q_1, .inr (6, [.int 0, .int 0, .int 0, .int 0, .int 0, .null, .null, .null, .null, .null, .int 0]))]) (cs := 6) (ss := 61) (va_runI (As := []) (rest := [.ref q_1, .ref h0]) ⟨hx, hb, hml, hown, hts⟩ (k5_X3_init q_1 H.size) (cwI 0 hts gX5_init_X3_init rfl rfl rfl (hts _ mw_X5_init__6) (hts _ mw_X5_init__10) (hts _ mw_X5_init__11) rfl ydS_X3_init ⟨Nat.le_of_ble_eq_true rfl, Nat.le_of_ble_eq_true rfl⟩) (jw_mpreS hP hD hS hA hE [false, true] rfl) rfl rfl hl.1 rfl (lv_room (Nat.le_of_ble_eq_true rfl)) dX5_init_9 ⟨Nat.le_of_ble_eq_true rfl, Nat.le_of_ble_eq_true rfl⟩) hP hD hS hA [false, true] rfl rfl rfl (fun w1 H locs hw9 hP hD hS => ?_)
  obtain ⟨q_2, q_3, q_4, q_5, q_6, rfl⟩ := hw9
  have hP : va_P D vwCl [(h0, .inr (8, [.null, .null, .int 0, .int 0, .int 0, .int 0, .int 0, .int 0, .int 0])), (q_1, .inr (6, [.int 2, .int 0, .int 0, .int 0, .int 0, .ref q_2, .ref q_3, .ref q_4, .ref q_5, .ref q_6, .int 0])), (q_2, .inl (Y 1, 12, .inl (jw_l 0 []))), (q_3, .inl (Y 1, 12, .inl (jw_l 0 []))), (q_4, .inl (Y 1, 6, .inl (jw_l 0 []))), (q_5, .inl (Y 1, 10, .inl (jw_l 0 []))), (q_6, .inl (Y 1, 10, .inl (jw_l 0 [])))] H := hP
  have hD : va_D A [(h0, .inr (8, [.null, .null, .int 0, .int 0, .int 0, .int 0, .int 0, .int 0, .int 0])), (q_1, .inr (6, [.int 2, .int 0, .int 0, .int 0, .int 0, .ref q_2, .ref q_3, .ref q_4, .ref q_5, .ref q_6, .int 0])), (q_2, .inl (Y 1, 12, .inl (jw_l 0 []))), (q_3, .inl (Y 1, 12, .inl (jw_l 0 []))), (q_4, .inl (Y 1, 6, .inl (jw_l 0 []))), (q_5, .inl (Y 1, 10, .inl (jw_l 0 []))), (q_6, .inl (Y 1, 10, .inl (jw_l 0 [])))] := hD
  refine va_putF (D := D) (ci := 8) (v := .ref q_1) (C := RX5) (T := TX5) (N := 9) hx hb hts iw_X5_init__X5 tyX5 tyX5_ok nmX5 hown hE.1 hP hD hS 0 rfl rfl 1 (by decide) (hts _ mw_X5_init__7) (fun _ h9 => h9) rfl hin rfl (tyX5_ok 1 (by decide)) rfl rfl (Nat.le_of_ble_eq_true rfl) dX5_init_12 (fun H locs hP hD hS => ?_)
  have hP : va_P D vwCl [(h0, .inr (8, [.null, .ref q_1, .int 0, .int 0, .int 0, .int 0, .int 0, .int 0, .int 0])), (q_1, .inr (6, [.int 2, .int 0, .int 0, .int 0, .int 0, .ref q_2, .ref q_3, .ref q_4, .ref q_5, .ref q_6, .int 0])), (q_2, .inl (Y 1, 12, .inl (jw_l 0 []))), (q_3, .inl (Y 1, 12, .inl (jw_l 0 []))), (q_4, .inl (Y 1, 6, .inl (jw_l 0 []))), (q_5, .inl (Y 1, 10, .inl (jw_l 0 []))), (q_6, .inl (Y 1, 10, .inl (jw_l 0 [])))] H := hP
  have hD : va_D A [(h0, .inr (8, [.null, .ref q_1, .int 0, .int 0, .int 0, .int 0, .int 0, .int 0, .int 0])), (q_1, .inr (6, [.int 2, .int 0, .int 0, .int 0, .int 0, .ref q_2, .ref q_3, .ref q_4, .ref q_5, .ref q_6, .int 0])), (q_2, .inl (Y 1, 12, .inl (jw_l 0 []))), (q_3, .inl (Y 1, 12, .inl (jw_l 0 []))), (q_4, .inl (Y 1, 6, .inl (jw_l 0 []))), (q_5, .inl (Y 1, 10, .inl (jw_l 0 []))), (q_6, .inl (Y 1, 10, .inl (jw_l 0 [])))] := hD
  refine lv_aload_n hx hb dX5_init_15 rfl (lv_at hl 0 rfl) ?_
  refine lv_iconst (v := (-1)) hx hb dX5_init_16 (by decide +kernel) ?_
  refine va_put (D := D) (ci := 8) (v := .int (-1)) (C := RX5) (T := TX5) (N := 9) hx hb hts iw_X5_init__X5 tyX5 tyX5_ok nmX5 hown hE.1 hP hD hS 0 rfl rfl 3 (by decide) (hts _ mw_X5_init__8) (fun _ h9 => h9) rfl (tyX5_ok 3 (by decide)) rfl rfl (Nat.le_of_ble_eq_true rfl) dX5_init_17 (fun H locs hP hD hS => ?_)
  have hP : va_P D vwCl [(h0, .inr (8, [.null, .ref q_1, .int 0, .int (-1), .int 0, .int 0, .int 0, .int 0, .int 0])), (q_1, .inr (6, [.int 2, .int 0, .int 0, .int 0, .int 0, .ref q_2, .ref q_3, .ref q_4, .ref q_5, .ref q_6, .int 0])), (q_2, .inl (Y 1, 12, .inl (jw_l 0 []))), (q_3, .inl (Y 1, 12, .inl (jw_l 0 []))), (q_4, .inl (Y 1, 6, .inl (jw_l 0 []))), (q_5, .inl (Y 1, 10, .inl (jw_l 0 []))), (q_6, .inl (Y 1, 10, .inl (jw_l 0 [])))] H := hP
  have hD : va_D A [(h0, .inr (8, [.null, .ref q_1, .int 0, .int (-1), .int 0, .int 0, .int 0, .int 0, .int 0])), (q_1, .inr (6, [.int 2, .int 0, .int 0, .int 0, .int 0, .ref q_2, .ref q_3, .ref q_4, .ref q_5, .ref q_6, .int 0])), (q_2, .inl (Y 1, 12, .inl (jw_l 0 []))), (q_3, .inl (Y 1, 12, .inl (jw_l 0 []))), (q_4, .inl (Y 1, 6, .inl (jw_l 0 []))), (q_5, .inl (Y 1, 10, .inl (jw_l 0 []))), (q_6, .inl (Y 1, 10, .inl (jw_l 0 [])))] := hD
  refine lv_aload_n hx hb dX5_init_20 rfl (lv_at hl 0 rfl) ?_
  refine lv_aload_n hx hb dX5_init_21 rfl (lv_at hl 1 rfl) ?_
  refine va_putF (D := D) (ci := 8) (v := .ref h1) (C := RX5) (T := TX5) (N := 9) hx hb hts iw_X5_init__X5 tyX5 tyX5_ok nmX5 hown hE.1 hP hD hS 0 rfl rfl 0 (by decide) (hts _ mw_X5_init__9) (fun _ h9 => h9) rfl hin rfl (tyX5_ok 0 (by decide)) rfl rfl (Nat.le_of_ble_eq_true rfl) dX5_init_22 (fun H locs hP hD hS => ?_)
  have hP : va_P D vwCl [(h0, .inr (8, [.ref h1, .ref q_1, .int 0, .int (-1), .int 0, .int 0, .int 0, .int 0, .int 0])), (q_1, .inr (6, [.int 2, .int 0, .int 0, .int 0, .int 0, .ref q_2, .ref q_3, .ref q_4, .ref q_5, .ref q_6, .int 0])), (q_2, .inl (Y 1, 12, .inl (jw_l 0 []))), (q_3, .inl (Y 1, 12, .inl (jw_l 0 []))), (q_4, .inl (Y 1, 6, .inl (jw_l 0 []))), (q_5, .inl (Y 1, 10, .inl (jw_l 0 []))), (q_6, .inl (Y 1, 10, .inl (jw_l 0 [])))] H := hP
  have hD : va_D A [(h0, .inr (8, [.ref h1, .ref q_1, .int 0, .int (-1), .int 0, .int 0, .int 0, .int 0, .int 0])), (q_1, .inr (6, [.int 2, .int 0, .int 0, .int 0, .int 0, .ref q_2, .ref q_3, .ref q_4, .ref q_5, .ref q_6, .int 0])), (q_2, .inl (Y 1, 12, .inl (jw_l 0 []))), (q_3, .inl (Y 1, 12, .inl (jw_l 0 []))), (q_4, .inl (Y 1, 6, .inl (jw_l 0 []))), (q_5, .inl (Y 1, 10, .inl (jw_l 0 []))), (q_6, .inl (Y 1, 10, .inl (jw_l 0 [])))] := hD
  refine W.widen (k := 6) (n := 61) (Nat.le_of_ble_eq_true rfl) (Nat.le_of_ble_eq_true rfl) ?_
  exact jw_vret hx hb hr hlocks ⟨q_1, q_2, q_3, q_4, q_5, q_6, rfl⟩ hP hD hS dX5_init_25
set_option maxHeartbeats 4000000 in
set_option maxRecDepth 100000 in
theorem k7_X4_init {l : Launch} {D : va_G} {Y : Nat → ClassId} {tt : Nat → Nat} (h0 : Nat) (sz : Nat) : Met l yX4_init wsX4_init ({ frames := 1, cells := 5, slots := 356, locals := 12 }) (jw_Pc D Y tt [.ref h0] [(h0, .inr (7, [.int 0, .int 0, .int 0, .int 0, .null, .null, .null, .null, .null]))] sz) (jw_Qv D (fun w => ∃ (q_1 q_2 q_3 q_4 q_5 : Nat), w = [(h0, .inr (7, [.int 0, .int 0, .int 0, .int 0, .ref q_1, .ref q_2, .ref q_3, .ref q_4, .ref q_5])), (q_1, .inl (Y 1, 96, .inl (jw_l 0 []))), (q_2, .inl (Y 1, 96, .inl (jw_l 0 []))), (q_3, .inl (Y 1, 16, .inl (jw_l 0 []))), (q_4, .inl (Y 1, 144, .inl (jw_l 0 []))), (q_5, .inl (Y 1, 4, .inl (jw_l 0 [])))]) (va_A [(h0, .inr (7, [.int 0, .int 0, .int 0, .int 0, .null, .null, .null, .null, .null]))] sz)) 5 356 (va_A [(h0, .inr (7, [.int 0, .int 0, .int 0, .int 0, .null, .null, .null, .null, .null]))] sz) := by
  refine jw_met (fun A => jw_Qv D (fun w => ∃ (q_1 q_2 q_3 q_4 q_5 : Nat), w = [(h0, .inr (7, [.int 0, .int 0, .int 0, .int 0, .ref q_1, .ref q_2, .ref q_3, .ref q_4, .ref q_5])), (q_1, .inl (Y 1, 96, .inl (jw_l 0 []))), (q_2, .inl (Y 1, 96, .inl (jw_l 0 []))), (q_3, .inl (Y 1, 16, .inl (jw_l 0 []))), (q_4, .inl (Y 1, 144, .inl (jw_l 0 []))), (q_5, .inl (Y 1, 4, .inl (jw_l 0 [])))]) A) (cc := cX4_init) (maxL := 1) (ret := none) pn_X4_init rfl rfl ?_
  intro p e s m below meth c A H locs ls hx hb hml hr hts hown hlocks hin hP hD hA hS hE hl
  have hown : s.vm.findClass RX4 = some m.cls := hown
  have hl : lv_has ls 1 [(0, .ref h0)] := hl
  refine lv_aload_n hx hb dX4_init_0 rfl (lv_at hl 0 rfl) ?_
  refine W.objInit hx hb hown (hts _ mw_X4_init__1) (hts _ mw_X4_init__2) (hts _ mw_X4_init__3) rfl (by rw [hml]; exact hl.1) rfl dX4_init_1 (Nat.le_of_ble_eq_true rfl) (Nat.le_of_ble_eq_true rfl) ?_
  refine W.eq (g2 := F0 m 4 ls []) rfl ?_
  refine lv_aload_n hx hb dX4_init_4 rfl (lv_at hl 0 rfl) ?_
  refine lv_bipush (v := 96) hx hb dX4_init_5 (by decide +kernel) ?_
  refine jw_newa (atype := .int) (ty := .int) (cA := Y 1) (a0 := (96, .inl (jw_l 0 []))) (N' := 96) hx hb 1 (hts _ mw_X4_init__4) rfl hE rfl hP hD hS hA (jw_a0I 96) (by decide +kernel) (by decide +kernel) rfl rfl rfl dX4_init_7 (fun q_1 H hP hD hS => ?_)
  have hP : va_P D vwCl [(h0, .inr (7, [.int 0, .int 0, .int 0, .int 0, .null, .null, .null, .null, .null])), (q_1, .inl (Y 1, 96, .inl (jw_l 0 [])))] H := hP
  have hD : va_D A [(h0, .inr (7, [.int 0, .int 0, .int 0, .int 0, .null, .null, .null, .null, .null])), (q_1, .inl (Y 1, 96, .inl (jw_l 0 [])))] := hD
  refine W.widen (k := 1) (n := 96) (Nat.le_of_ble_eq_true rfl) (Nat.le_of_ble_eq_true rfl) ?_
  refine va_putF (D := D) (ci := 7) (v := .ref q_1) (C := RX4) (T := TX4) (N := 9) hx hb hts iw_X4_init__X4 tyX4 tyX4_ok nmX4 hown hE.1 hP hD hS 0 rfl rfl 4 (by decide) (hts _ mw_X4_init__5) (fun _ h9 => h9) rfl hin rfl (tyX4_ok 4 (by decide)) rfl rfl (Nat.le_of_ble_eq_true rfl) dX4_init_9 (fun H locs hP hD hS => ?_)
  have hP : va_P D vwCl [(h0, .inr (7, [.int 0, .int 0, .int 0, .int 0, .ref q_1, .null, .null, .null, .null])), (q_1, .inl (Y 1, 96, .inl (jw_l 0 [])))] H := hP
  have hD : va_D A [(h0, .inr (7, [.int 0, .int 0, .int 0, .int 0, .ref q_1, .null, .null, .null, .null])), (q_1, .inl (Y 1, 96, .inl (jw_l 0 [])))] := hD
  refine lv_aload_n hx hb dX4_init_12 rfl (lv_at hl 0 rfl) ?_
  refine lv_bipush (v := 96) hx hb dX4_init_13 (by decide +kernel) ?_
  refine jw_newa (atype := .int) (ty := .int) (cA := Y 1) (a0 := (96, .inl (jw_l 0 []))) (N' := 96) hx hb 1 (hts _ mw_X4_init__4) rfl hE rfl hP hD hS hA (jw_a0I 96) (by decide +kernel) (by decide +kernel) rfl rfl rfl dX4_init_15 (fun q_2 H hP hD hS => ?_)
  have hP : va_P D vwCl [(h0, .inr (7, [.int 0, .int 0, .int 0, .int 0, .ref q_1, .null, .null, .null, .null])), (q_1, .inl (Y 1, 96, .inl (jw_l 0 []))), (q_2, .inl (Y 1, 96, .inl (jw_l 0 [])))] H := hP
  have hD : va_D A [(h0, .inr (7, [.int 0, .int 0, .int 0, .int 0, .ref q_1, .null, .null, .null, .null])), (q_1, .inl (Y 1, 96, .inl (jw_l 0 []))), (q_2, .inl (Y 1, 96, .inl (jw_l 0 [])))] := hD
  refine W.widen (k := 2) (n := 192) (Nat.le_of_ble_eq_true rfl) (Nat.le_of_ble_eq_true rfl) ?_
  refine va_putF (D := D) (ci := 7) (v := .ref q_2) (C := RX4) (T := TX4) (N := 9) hx hb hts iw_X4_init__X4 tyX4 tyX4_ok nmX4 hown hE.1 hP hD hS 0 rfl rfl 5 (by decide) (hts _ mw_X4_init__6) (fun _ h9 => h9) rfl hin rfl (tyX4_ok 5 (by decide)) rfl rfl (Nat.le_of_ble_eq_true rfl) dX4_init_17 (fun H locs hP hD hS => ?_)
  have hP : va_P D vwCl [(h0, .inr (7, [.int 0, .int 0, .int 0, .int 0, .ref q_1, .ref q_2, .null, .null, .null])), (q_1, .inl (Y 1, 96, .inl (jw_l 0 []))), (q_2, .inl (Y 1, 96, .inl (jw_l 0 [])))] H := hP
  have hD : va_D A [(h0, .inr (7, [.int 0, .int 0, .int 0, .int 0, .ref q_1, .ref q_2, .null, .null, .null])), (q_1, .inl (Y 1, 96, .inl (jw_l 0 []))), (q_2, .inl (Y 1, 96, .inl (jw_l 0 [])))] := hD
  refine lv_aload_n hx hb dX4_init_20 rfl (lv_at hl 0 rfl) ?_
  refine lv_bipush (v := 16) hx hb dX4_init_21 (by decide +kernel) ?_
  refine jw_newa (atype := .int) (ty := .int) (cA := Y 1) (a0 := (16, .inl (jw_l 0 []))) (N' := 16) hx hb 1 (hts _ mw_X4_init__4) rfl hE rfl hP hD hS hA (jw_a0I 16) (by decide +kernel) (by decide +kernel) rfl rfl rfl dX4_init_23 (fun q_3 H hP hD hS => ?_)
  have hP : va_P D vwCl [(h0, .inr (7, [.int 0, .int 0, .int 0, .int 0, .ref q_1, .ref q_2, .null, .null, .null])), (q_1, .inl (Y 1, 96, .inl (jw_l 0 []))), (q_2, .inl (Y 1, 96, .inl (jw_l 0 []))), (q_3, .inl (Y 1, 16, .inl (jw_l 0 [])))] H := hP
  have hD : va_D A [(h0, .inr (7, [.int 0, .int 0, .int 0, .int 0, .ref q_1, .ref q_2, .null, .null, .null])), (q_1, .inl (Y 1, 96, .inl (jw_l 0 []))), (q_2, .inl (Y 1, 96, .inl (jw_l 0 []))), (q_3, .inl (Y 1, 16, .inl (jw_l 0 [])))] := hD
  refine W.widen (k := 3) (n := 208) (Nat.le_of_ble_eq_true rfl) (Nat.le_of_ble_eq_true rfl) ?_
  refine va_putF (D := D) (ci := 7) (v := .ref q_3) (C := RX4) (T := TX4) (N := 9) hx hb hts iw_X4_init__X4 tyX4 tyX4_ok nmX4 hown hE.1 hP hD hS 0 rfl rfl 6 (by decide) (hts _ mw_X4_init__7) (fun _ h9 => h9) rfl hin rfl (tyX4_ok 6 (by decide)) rfl rfl (Nat.le_of_ble_eq_true rfl) dX4_init_25 (fun H locs hP hD hS => ?_)
  have hP : va_P D vwCl [(h0, .inr (7, [.int 0, .int 0, .int 0, .int 0, .ref q_1, .ref q_2, .ref q_3, .null, .null])), (q_1, .inl (Y 1, 96, .inl (jw_l 0 []))), (q_2, .inl (Y 1, 96, .inl (jw_l 0 []))), (q_3, .inl (Y 1, 16, .inl (jw_l 0 [])))] H := hP
  have hD : va_D A [(h0, .inr (7, [.int 0, .int 0, .int 0, .int 0, .ref q_1, .ref q_2, .ref q_3, .null, .null])), (q_1, .inl (Y 1, 96, .inl (jw_l 0 []))), (q_2, .inl (Y 1, 96, .inl (jw_l 0 []))), (q_3, .inl (Y 1, 16, .inl (jw_l 0 [])))] := hD
  refine lv_aload_n hx hb dX4_init_28 rfl (lv_at hl 0 rfl) ?_
  refine lv_sipush (v := 144) hx hb dX4_init_29 (by decide +kernel) ?_
  refine jw_newa (atype := .int) (ty := .int) (cA := Y 1) (a0 := (144, .inl (jw_l 0 []))) (N' := 144) hx hb 1 (hts _ mw_X4_init__4) rfl hE rfl hP hD hS hA (jw_a0I 144) (by decide +kernel) (by decide +kernel) rfl rfl rfl dX4_init_32 (fun q_4 H hP hD hS => ?_)
  have hP : va_P D vwCl [(h0, .inr (7, [.int 0, .int 0, .int 0, .int 0, .ref q_1, .ref q_2, .ref q_3, .null, .null])), (q_1, .inl (Y 1, 96, .inl (jw_l 0 []))), (q_2, .inl (Y 1, 96, .inl (jw_l 0 []))), (q_3, .inl (Y 1, 16, .inl (jw_l 0 []))), (q_4, .inl (Y 1, 144, .inl (jw_l 0 [])))] H := hP
  have hD : va_D A [(h0, .inr (7, [.int 0, .int 0, .int 0, .int 0, .ref q_1, .ref q_2, .ref q_3, .null, .null])), (q_1, .inl (Y 1, 96, .inl (jw_l 0 []))), (q_2, .inl (Y 1, 96, .inl (jw_l 0 []))), (q_3, .inl (Y 1, 16, .inl (jw_l 0 []))), (q_4, .inl (Y 1, 144, .inl (jw_l 0 [])))] := hD
  refine W.widen (k := 4) (n := 352) (Nat.le_of_ble_eq_true rfl) (Nat.le_of_ble_eq_true rfl) ?_
  refine va_putF (D := D) (ci := 7) (v := .ref q_4) (C := RX4) (T := TX4) (N := 9) hx hb hts iw_X4_init__X4 tyX4 tyX4_ok nmX4 hown hE.1 hP hD hS 0 rfl rfl 7 (by decide) (hts _ mw_X4_init__8) (fun _ h9 => h9) rfl hin rfl (tyX4_ok 7 (by decide)) rfl rfl (Nat.le_of_ble_eq_true rfl) dX4_init_34 (fun H locs hP hD hS => ?_)
  have hP : va_P D vwCl [(h0, .inr (7, [.int 0, .int 0, .int 0, .int 0, .ref q_1, .ref q_2, .ref q_3, .ref q_4, .null])), (q_1, .inl (Y 1, 96, .inl (jw_l 0 []))), (q_2, .inl (Y 1, 96, .inl (jw_l 0 []))), (q_3, .inl (Y 1, 16, .inl (jw_l 0 []))), (q_4, .inl (Y 1, 144, .inl (jw_l 0 [])))] H := hP
  have hD : va_D A [(h0, .inr (7, [.int 0, .int 0, .int 0, .int 0, .ref q_1, .ref q_2, .ref q_3, .ref q_4, .null])), (q_1, .inl (Y 1, 96, .inl (jw_l 0 []))), (q_2, .inl (Y 1, 96, .inl (jw_l 0 []))), (q_3, .inl (Y 1, 16, .inl (jw_l 0 []))), (q_4, .inl (Y 1, 144, .inl (jw_l 0 [])))] := hD
  refine lv_aload_n hx hb dX4_init_37 rfl (lv_at hl 0 rfl) ?_
  refine lv_iconst (v := 4) hx hb dX4_init_38 (by decide +kernel) ?_
  refine jw_newa (atype := .int) (ty := .int) (cA := Y 1) (a0 := (4, .inl (jw_l 0 []))) (N' := 4) hx hb 1 (hts _ mw_X4_init__4) rfl hE rfl hP hD hS hA (jw_a0I 4) (by decide +kernel) (by decide +kernel) rfl rfl rfl dX4_init_39 (fun q_5 H hP hD hS => ?_)
  have hP : va_P D vwCl [(h0, .inr (7, [.int 0, .int 0, .int 0, .int 0, .ref q_1, .ref q_2, .ref q_3, .ref q_4, .null])), (q_1, .inl (Y 1, 96, .inl (jw_l 0 []))), (q_2, .inl (Y 1, 96, .inl (jw_l 0 []))), (q_3, .inl (Y 1, 16, .inl (jw_l 0 []))), (q_4, .inl (Y 1, 144, .inl (jw_l 0 []))), (q_5, .inl (Y 1, 4, .inl (jw_l 0 [])))] H := hP
  have hD : va_D A [(h0, .inr (7, [.int 0, .int 0, .int 0, .int 0, .ref q_1, .ref q_2, .ref q_3, .ref q_4, .null])), (q_1, .inl (Y 1, 96, .inl (jw_l 0 []))), (q_2, .inl (Y 1, 96, .inl (jw_l 0 []))), (q_3, .inl (Y 1, 16, .inl (jw_l 0 []))), (q_4, .inl (Y 1, 144, .inl (jw_l 0 []))), (q_5, .inl (Y 1, 4, .inl (jw_l 0 [])))] := hD
  refine W.widen (k := 5) (n := 356) (Nat.le_of_ble_eq_true rfl) (Nat.le_of_ble_eq_true rfl) ?_
  refine va_putF (D := D) (ci := 7) (v := .ref q_5) (C := RX4) (T := TX4) (N := 9) hx hb hts iw_X4_init__X4 tyX4 tyX4_ok nmX4 hown hE.1 hP hD hS 0 rfl rfl 8 (by decide) (hts _ mw_X4_init__9) (fun _ h9 => h9) rfl hin rfl (tyX4_ok 8 (by decide)) rfl rfl (Nat.le_of_ble_eq_true rfl) dX4_init_41 (fun H locs hP hD hS => ?_)
  have hP : va_P D vwCl [(h0, .inr (7, [.int 0, .int 0, .int 0, .int 0, .ref q_1, .ref q_2, .ref q_3, .ref q_4, .ref q_5])), (q_1, .inl (Y 1, 96, .inl (jw_l 0 []))), (q_2, .inl (Y 1, 96, .inl (jw_l 0 []))), (q_3, .inl (Y 1, 16, .inl (jw_l 0 []))), (q_4, .inl (Y 1, 144, .inl (jw_l 0 []))), (q_5, .inl (Y 1, 4, .inl (jw_l 0 [])))] H := hP
  have hD : va_D A [(h0, .inr (7, [.int 0, .int 0, .int 0, .int 0, .ref q_1, .ref q_2, .ref q_3, .ref q_4, .ref q_5])), (q_1, .inl (Y 1, 96, .inl (jw_l 0 []))), (q_2, .inl (Y 1, 96, .inl (jw_l 0 []))), (q_3, .inl (Y 1, 16, .inl (jw_l 0 []))), (q_4, .inl (Y 1, 144, .inl (jw_l 0 []))), (q_5, .inl (Y 1, 4, .inl (jw_l 0 [])))] := hD
  refine W.widen (k := 5) (n := 356) (Nat.le_of_ble_eq_true rfl) (Nat.le_of_ble_eq_true rfl) ?_
  exact jw_vret hx hb hr hlocks ⟨q_1, q_2, q_3, q_4, q_5, rfl⟩ hP hD hS dX4_init_44
set_option maxHeartbeats 4000000 in
set_option maxRecDepth 100000 in
theorem k8_X2_init {l : Launch} {D : va_G} {Y : Nat → ClassId} {tt : Nat → Nat} (h0 h1 h2 : Nat) (sz : Nat) : Met l yX2_init wsX2_init ({ frames := 1, cells := 6, slots := 2150, locals := 12 }) (jw_Pc D Y tt [.ref h0, .ref h1, .ref h2] [(h0, .inr (5, [.null, .null, .int 0, .int 0, .null, .null, .null, .null, .null, .null]))] sz) (jw_Qv D (fun w => ∃ (q_1 q_2 q_3 q_4 q_5 q_6 : Nat), w = [(h0, .inr (5, [.ref h1, .ref h2, .int 0, .int 0, .ref q_1, .ref q_2, .ref q_3, .ref q_4, .ref q_5, .ref q_6])), (q_1, .inl (Y 1, 4, .inl (jw_l 0 []))), (q_2, .inl (Y 1, 1, .inl (jw_l 0 []))), (q_3, .inl (Y 1, 1, .inl (jw_l 0 []))), (q_4, .inl (Y 1, 1024, .inl (jw_l 0 []))), (q_5, .inl (Y 1, 1024, .inl (jw_l 0 []))), (q_6, .inl (Y 1, 96, .inl (jw_l 0 [])))]) (va_A [(h0, .inr (5, [.null, .null, .int 0, .int 0, .null, .null, .null, .null, .null, .null]))] sz)) 6 2150 (va_A [(h0, .inr (5, [.null, .null, .int 0, .int 0, .null, .null, .null, .null, .null, .null]))] sz) := by
  refine jw_met (fun A => jw_Qv D (fun w => ∃ (q_1 q_2 q_3 q_4 q_5 q_6 : Nat), w = [(h0, .inr (5, [.ref h1, .ref h2, .int 0, .int 0, .ref q_1, .ref q_2, .ref q_3, .ref q_4, .ref q_5, .ref q_6])), (q_1, .inl (Y 1, 4, .inl (jw_l 0 []))), (q_2, .inl (Y 1, 1, .inl (jw_l 0 []))), (q_3, .inl (Y 1, 1, .inl (jw_l 0 []))), (q_4, .inl (Y 1, 1024, .inl (jw_l 0 []))), (q_5, .inl (Y 1, 1024, .inl (jw_l 0 []))), (q_6, .inl (Y 1, 96, .inl (jw_l 0 [])))]) A) (cc := cX2_init) (maxL := 3) (ret := none) pn_X2_init rfl rfl ?_
  intro p e s m below meth c A H locs ls hx hb hml hr hts hown hlocks hin hP hD hA hS hE hl
  have hown : s.vm.findClass RX2 = some m.cls := hown
  have hl : lv_has ls 3 [(0, .ref h0), (1, .ref h1), (2, .ref h2)] := hl
  refine lv_aload_n hx hb dX2_init_0 rfl (lv_at hl 0 rfl) ?_
  refine W.objInit hx hb hown (hts _ mw_X2_init__1) (hts _ mw_X2_init__2) (hts _ mw_X2_init__3) rfl (by rw [hml]; exact hl.1) rfl dX2_init_1 (Nat.le_of_ble_eq_true rfl) (Nat.le_of_ble_eq_true rfl) ?_
  refine W.eq (g2 := F0 m 4 ls []) rfl ?_
  refine lv_aload_n hx hb dX2_init_4 rfl (lv_at hl 0 rfl) ?_
  refine lv_iconst (v := 4) hx hb dX2_init_5 (by decide +kernel) ?_
  refine jw_newa (atype := .int) (ty := .int) (cA := Y 1) (a0 := (4, .inl (jw_l 0 []))) (N' := 4) hx hb 1 (hts _ mw_X2_init__4) rfl hE rfl hP hD hS hA (jw_a0I 4) (by decide +kernel) (by decide +kernel) rfl rfl rfl dX2_init_6 (fun q_1 H hP hD hS => ?_)
  have hP : va_P D vwCl [(h0, .inr (5, [.null, .null, .int 0, .int 0, .null, .null, .null, .null, .null, .null])), (q_1, .inl (Y 1, 4, .inl (jw_l 0 [])))] H := hP
  have hD : va_D A [(h0, .inr (5, [.null, .null, .int 0, .int 0, .null, .null, .null, .null, .null, .null])), (q_1, .inl (Y 1, 4, .inl (jw_l 0 [])))] := hD
  refine W.widen (k := 1) (n := 4) (Nat.le_of_ble_eq_true rfl) (Nat.le_of_ble_eq_true rfl) ?_
  refine va_putF (D := D) (ci := 5) (v := .ref q_1) (C := RX2) (T := TX2) (N := 10) hx hb hts iw_X2_init__X2 tyX2 tyX2_ok nmX2 hown hE.1 hP hD hS 0 rfl rfl 4 (by decide) (hts _ mw_X2_init__5) (fun _ h9 => h9) rfl hin rfl (tyX2_ok 4 (by decide)) rfl rfl (Nat.le_of_ble_eq_true rfl) dX2_init_8 (fun H locs hP hD hS => ?_)
  have hP : va_P D vwCl [(h0, .inr (5, [.null, .null, .int 0, .int 0, .ref q_1, .null, .null, .null, .null, .null])), (q_1, .inl (Y 1, 4, .inl (jw_l 0 [])))] H := hP
  have hD : va_D A [(h0, .inr (5, [.null, .null, .int 0, .int 0, .ref q_1, .null, .null, .null, .null, .null])), (q_1, .inl (Y 1, 4, .inl (jw_l 0 [])))] := hD
  refine lv_aload_n hx hb dX2_init_11 rfl (lv_at hl 0 rfl) ?_
  refine lv_iconst (v := 1) hx hb dX2_init_12 (by decide +kernel) ?_
  refine jw_newa (atype := .int) (ty := .int) (cA := Y 1) (a0 := (1, .inl (jw_l 0 []))) (N' := 1) hx hb 1 (hts _ mw_X2_init__4) rfl hE rfl hP hD hS hA (jw_a0I 1) (by decide +kernel) (by decide +kernel) rfl rfl rfl dX2_init_13 (fun q_2 H hP hD hS => ?_)
  have hP : va_P D vwCl [(h0, .inr (5, [.null, .null, .int 0, .int 0, .ref q_1, .null, .null, .null, .null, .null])), (q_1, .inl (Y 1, 4, .inl (jw_l 0 []))), (q_2, .inl (Y 1, 1, .inl (jw_l 0 [])))] H := hP
  have hD : va_D A [(h0, .inr (5, [.null, .null, .int 0, .int 0, .ref q_1, .null, .null, .null, .null, .null])), (q_1, .inl (Y 1, 4, .inl (jw_l 0 []))), (q_2, .inl (Y 1, 1, .inl (jw_l 0 [])))] := hD
  refine W.widen (k := 2) (n := 5) (Nat.le_of_ble_eq_true rfl) (Nat.le_of_ble_eq_true rfl) ?_
  refine va_put (D := D) (ci := 5) (v := .ref q_2) (C := RX2) (T := TX2) (N := 10) hx hb hts iw_X2_init__X2 tyX2 tyX2_ok nmX2 hown hE.1 hP hD hS 0 rfl rfl 5 (by decide) (hts _ mw_X2_init__6) (fun _ h9 => h9) rfl (tyX2_ok 5 (by decide)) rfl rfl (Nat.le_of_ble_eq_true rfl) dX2_init_15 (fun H locs hP hD hS => ?_)
  have hP : va_P D vwCl [(h0, .inr (5, [.null, .null, .int 0, .int 0, .ref q_1, .ref q_2, .null, .null, .null, .null])), (q_1, .inl (Y 1, 4, .inl (jw_l 0 []))), (q_2, .inl (Y 1, 1, .inl (jw_l 0 [])))] H := hP
  have hD : va_D A [(h0, .inr (5, [.null, .null, .int 0, .int 0, .ref q_1, .ref q_2, .null, .null, .null, .null])), (q_1, .inl (Y 1, 4, .inl (jw_l 0 []))), (q_2, .inl (Y 1, 1, .inl (jw_l 0 [])))] := hD
  refine lv_aload_n hx hb dX2_init_18 rfl (lv_at hl 0 rfl) ?_
  refine lv_iconst (v := 1) hx hb dX2_init_19 (by decide +kernel) ?_
  refine jw_newa (atype := .int) (ty := .int) (cA := Y 1) (a0 := (1, .inl (jw_l 0 []))) (N' := 1) hx hb 1 (hts _ mw_X2_init__4) rfl hE rfl hP hD hS hA (jw_a0I 1) (by decide +kernel) (by decide +kernel) rfl rfl rfl dX2_init_20 (fun q_3 H hP hD hS => ?_)
  have hP : va_P D vwCl [(h0, .inr (5, [.null, .null, .int 0, .int 0, .ref q_1, .ref q_2, .null, .null, .null, .null])), (q_1, .inl (Y 1, 4, .inl (jw_l 0 []))), (q_2, .inl (Y 1, 1, .inl (jw_l 0 []))), (q_3, .inl (Y 1, 1, .inl (jw_l 0 [])))] H := hP
  have hD : va_D A [(h0, .inr (5, [.null, .null, .int 0, .int 0, .ref q_1, .ref q_2, .null, .null, .null, .null])), (q_1, .inl (Y 1, 4, .inl (jw_l 0 []))), (q_2, .inl (Y 1, 1, .inl (jw_l 0 []))), (q_3, .inl (Y 1, 1, .inl (jw_l 0 [])))] := hD
  refine W.widen (k := 3) (n := 6) (Nat.le_of_ble_eq_true rfl) (Nat.le_of_ble_eq_true rfl) ?_
  refine va_put (D := D) (ci := 5) (v := .ref q_3) (C := RX2) (T := TX2) (N := 10) hx hb hts iw_X2_init__X2 tyX2 tyX2_ok nmX2 hown hE.1 hP hD hS 0 rfl rfl 6 (by decide) (hts _ mw_X2_init__7) (fun _ h9 => h9) rfl (tyX2_ok 6 (by decide)) rfl rfl (Nat.le_of_ble_eq_true rfl) dX2_init_22 (fun H locs hP hD hS => ?_)
  have hP : va_P D vwCl [(h0, .inr (5, [.null, .null, .int 0, .int 0, .ref q_1, .ref q_2, .ref q_3, .null, .null, .null])), (q_1, .inl (Y 1, 4, .inl (jw_l 0 []))), (q_2, .inl (Y 1, 1, .inl (jw_l 0 []))), (q_3, .inl (Y 1, 1, .inl (jw_l 0 [])))] H := hP
  have hD : va_D A [(h0, .inr (5, [.null, .null, .int 0, .int 0, .ref q_1, .ref q_2, .ref q_3, .null, .null, .null])), (q_1, .inl (Y 1, 4, .inl (jw_l 0 []))), (q_2, .inl (Y 1, 1, .inl (jw_l 0 []))), (q_3, .inl (Y 1, 1, .inl (jw_l 0 [])))] := hD
  refine lv_aload_n hx hb dX2_init_25 rfl (lv_at hl 0 rfl) ?_
  refine lv_sipush (v := 1024) hx hb dX2_init_26 (by decide +kernel) ?_
  refine jw_newa (atype := .int) (ty := .int) (cA := Y 1) (a0 := (1024, .inl (jw_l 0 []))) (N' := 1024) hx hb 1 (hts _ mw_X2_init__4) rfl hE rfl hP hD hS hA (jw_a0I 1024) (by decide +kernel) (by decide +kernel) rfl rfl rfl dX2_init_29 (fun q_4 H hP hD hS => ?_)
  have hP : va_P D vwCl [(h0, .inr (5, [.null, .null, .int 0, .int 0, .ref q_1, .ref q_2, .ref q_3, .null, .null, .null])), (q_1, .inl (Y 1, 4, .inl (jw_l 0 []))), (q_2, .inl (Y 1, 1, .inl (jw_l 0 []))), (q_3, .inl (Y 1, 1, .inl (jw_l 0 []))), (q_4, .inl (Y 1, 1024, .inl (jw_l 0 [])))] H := hP
  have hD : va_D A [(h0, .inr (5, [.null, .null, .int 0, .int 0, .ref q_1, .ref q_2, .ref q_3, .null, .null, .null])), (q_1, .inl (Y 1, 4, .inl (jw_l 0 []))), (q_2, .inl (Y 1, 1, .inl (jw_l 0 []))), (q_3, .inl (Y 1, 1, .inl (jw_l 0 []))), (q_4, .inl (Y 1, 1024, .inl (jw_l 0 [])))] := hD
  refine W.widen (k := 4) (n := 1030) (Nat.le_of_ble_eq_true rfl) (Nat.le_of_ble_eq_true rfl) ?_
  refine va_putF (D := D) (ci := 5) (v := .ref q_4) (C := RX2) (T := TX2) (N := 10) hx hb hts iw_X2_init__X2 tyX2 tyX2_ok nmX2 hown hE.1 hP hD hS 0 rfl rfl 7 (by decide) (hts _ mw_X2_init__8) (fun _ h9 => h9) rfl hin rfl (tyX2_ok 7 (by decide)) rfl rfl (Nat.le_of_ble_eq_true rfl) dX2_init_31 (fun H locs hP hD hS => ?_)
  have hP : va_P D vwCl [(h0, .inr (5, [.null, .null, .int 0, .int 0, .ref q_1, .ref q_2, .ref q_3, .ref q_4, .null, .null])), (q_1, .inl (Y 1, 4, .inl (jw_l 0 []))), (q_2, .inl (Y 1, 1, .inl (jw_l 0 []))), (q_3, .inl (Y 1, 1, .inl (jw_l 0 []))), (q_4, .inl (Y 1, 1024, .inl (jw_l 0 [])))] H := hP
  have hD : va_D A [(h0, .inr (5, [.null, .null, .int 0, .int 0, .ref q_1, .ref q_2, .ref q_3, .ref q_4, .null, .null])), (q_1, .inl (Y 1, 4, .inl (jw_l 0 []))), (q_2, .inl (Y 1, 1, .inl (jw_l 0 []))), (q_3, .inl (Y 1, 1, .inl (jw_l 0 []))), (q_4, .inl (Y 1, 1024, .inl (jw_l 0 [])))] := hD
  refine lv_aload_n hx hb dX2_init_34 rfl (lv_at hl 0 rfl) ?_
  refine lv_sipush (v := 1024) hx hb dX2_init_35 (by decide +kernel) ?_
  refine jw_newa (atype := .int) (ty := .int) (cA := Y 1) (a0 := (1024, .inl (jw_l 0 []))) (N' := 1024) hx hb 1 (hts _ mw_X2_init__4) rfl hE rfl hP hD hS hA (jw_a0I 1024) (by decide +kernel) (by decide +kernel) rfl rfl rfl dX2_init_38 (fun q_5 H hP hD hS => ?_)
  have hP : va_P D vwCl [(h0, .inr (5, [.null, .null, .int 0, .int 0, .ref q_1, .ref q_2, .ref q_3, .ref q_4, .null, .null])), (q_1, .inl (Y 1, 4, .inl (jw_l 0 []))), (q_2, .inl (Y 1, 1, .inl (jw_l 0 []))), (q_3, .inl (Y 1, 1, .inl (jw_l 0 []))), (q_4, .inl (Y 1, 1024, .inl (jw_l 0 []))), (q_5, .inl (Y 1, 1024, .inl (jw_l 0 [])))] H := hP
  have hD : va_D A [(h0, .inr (5, [.null, .null, .int 0, .int 0, .ref q_1, .ref q_2, .ref q_3, .ref q_4, .null, .null])), (q_1, .inl (Y 1, 4, .inl (jw_l 0 []))), (q_2, .inl (Y 1, 1, .inl (jw_l 0 []))), (q_3, .inl (Y 1, 1, .inl (jw_l 0 []))), (q_4, .inl (Y 1, 1024, .inl (jw_l 0 []))), (q_5, .inl (Y 1, 1024, .inl (jw_l 0 [])))] := hD
  refine W.widen (k := 5) (n := 2054) (Nat.le_of_ble_eq_true rfl) (Nat.le_of_ble_eq_true rfl) ?_
  refine va_putF (D := D) (ci := 5) (v := .ref q_5) (C := RX2) (T := TX2) (N := 10) hx hb hts iw_X2_init__X2 tyX2 tyX2_ok nmX2 hown hE.1 hP hD hS 0 rfl rfl 8 (by decide) (hts _ mw_X2_init__9) (fun _ h9 => h9) rfl hin rfl (tyX2_ok 8 (by decide)) rfl rfl (Nat.le_of_ble_eq_true rfl) dX2_init_40 (fun H locs hP hD hS => ?_)
  have hP : va_P D vwCl [(h0, .inr (5, [.null, .null, .int 0, .int 0, .ref q_1, .ref q_2, .ref q_3, .ref q_4, .ref q_5, .null])), (q_1, .inl (Y 1, 4, .inl (jw_l 0 []))), (q_2, .inl (Y 1, 1, .inl (jw_l 0 []))), (q_3, .inl (Y 1, 1, .inl (jw_l 0 []))), (q_4, .inl (Y 1, 1024, .inl (jw_l 0 []))), (q_5, .inl (Y 1, 1024, .inl (jw_l 0 [])))] H := hP
  have hD : va_D A [(h0, .inr (5, [.null, .null, .int 0, .int 0, .ref q_1, .ref q_2, .ref q_3, .ref q_4, .ref q_5, .null])), (q_1, .inl (Y 1, 4, .inl (jw_l 0 []))), (q_2, .inl (Y 1, 1, .inl (jw_l 0 []))), (q_3, .inl (Y 1, 1, .inl (jw_l 0 []))), (q_4, .inl (Y 1, 1024, .inl (jw_l 0 []))), (q_5, .inl (Y 1, 1024, .inl (jw_l 0 [])))] := hD
  refine lv_aload_n hx hb dX2_init_43 rfl (lv_at hl 0 rfl) ?_
  refine lv_bipush (v := 96) hx hb dX2_init_44 (by decide +kernel) ?_
  refine jw_newa (atype := .int) (ty := .int) (cA := Y 1) (a0 := (96, .inl (jw_l 0 []))) (N' := 96) hx hb 1 (hts _ mw_X2_init__4) rfl hE rfl hP hD hS hA (jw_a0I 96) (by decide +kernel) (by decide +kernel) rfl rfl rfl dX2_init_46 (fun q_6 H hP hD hS => ?_)
  have hP : va_P D vwCl [(h0, .inr (5, [.null, .null, .int 0, .int 0, .ref q_1, .ref q_2, .ref q_3, .ref q_4, .ref q_5, .null])), (q_1, .inl (Y 1, 4, .inl (jw_l 0 []))), (q_2, .inl (Y 1, 1, .inl (jw_l 0 []))), (q_3, .inl (Y 1, 1, .inl (jw_l 0 []))), (q_4, .inl (Y 1, 1024, .inl (jw_l 0 []))), (q_5, .inl (Y 1, 1024, .inl (jw_l 0 []))), (q_6, .inl (Y 1, 96, .inl (jw_l 0 [])))] H := hP
  have hD : va_D A [(h0, .inr (5, [.null, .null, .int 0, .int 0, .ref q_1, .ref q_2, .ref q_3, .ref q_4, .ref q_5, .null])), (q_1, .inl (Y 1, 4, .inl (jw_l 0 []))), (q_2, .inl (Y 1, 1, .inl (jw_l 0 []))), (q_3, .inl (Y 1, 1, .inl (jw_l 0 []))), (q_4, .inl (Y 1, 1024, .inl (jw_l 0 []))), (q_5, .inl (Y 1, 1024, .inl (jw_l 0 []))), (q_6, .inl (Y 1, 96, .inl (jw_l 0 [])))] := hD
  refine W.widen (k := 6) (n := 2150) (Nat.le_of_ble_eq_true rfl) (Nat.le_of_ble_eq_true rfl) ?_
  refine va_putF (D := D) (ci := 5) (v := .ref q_6) (C := RX2) (T := TX2) (N := 10) hx hb hts iw_X2_init__X2 tyX2 tyX2_ok nmX2 hown hE.1 hP hD hS 0 rfl rfl 9 (by decide) (hts _ mw_X2_init__10) (fun _ h9 => h9) rfl hin rfl (tyX2_ok 9 (by decide)) rfl rfl (Nat.le_of_ble_eq_true rfl) dX2_init_48 (fun H locs hP hD hS => ?_)
  have hP : va_P D vwCl [(h0, .inr (5, [.null, .null, .int 0, .int 0, .ref q_1, .ref q_2, .ref q_3, .ref q_4, .ref q_5, .ref q_6])), (q_1, .inl (Y 1, 4, .inl (jw_l 0 []))), (q_2, .inl (Y 1, 1, .inl (jw_l 0 []))), (q_3, .inl (Y 1, 1, .inl (jw_l 0 []))), (q_4, .inl (Y 1, 1024, .inl (jw_l 0 []))), (q_5, .inl (Y 1, 1024, .inl (jw_l 0 []))), (q_6, .inl (Y 1, 96, .inl (jw_l 0 [])))] H := hP
  have hD : va_D A [(h0, .inr (5, [.null, .null, .int 0, .int 0, .ref q_1, .ref q_2, .ref q_3, .ref q_4, .ref q_5, .ref q_6])), (q_1, .inl (Y 1, 4, .inl (jw_l 0 []))), (q_2, .inl (Y 1, 1, .inl (jw_l 0 []))), (q_3, .inl (Y 1, 1, .inl (jw_l 0 []))), (q_4, .inl (Y 1, 1024, .inl (jw_l 0 []))), (q_5, .inl (Y 1, 1024, .inl (jw_l 0 []))), (q_6, .inl (Y 1, 96, .inl (jw_l 0 [])))] := hD
  refine lv_aload_n hx hb dX2_init_51 rfl (lv_at hl 0 rfl) ?_
  refine lv_aload_n hx hb dX2_init_52 rfl (lv_at hl 1 rfl) ?_
  refine va_putF (D := D) (ci := 5) (v := .ref h1) (C := RX2) (T := TX2) (N := 10) hx hb hts iw_X2_init__X2 tyX2 tyX2_ok nmX2 hown hE.1 hP hD hS 0 rfl rfl 0 (by decide) (hts _ mw_X2_init__11) (fun _ h9 => h9) rfl hin rfl (tyX2_ok 0 (by decide)) rfl rfl (Nat.le_of_ble_eq_true rfl) dX2_init_53 (fun H locs hP hD hS => ?_)
  have hP : va_P D vwCl [(h0, .inr (5, [.ref h1, .null, .int 0, .int 0, .ref q_1, .ref q_2, .ref q_3, .ref q_4, .ref q_5, .ref q_6])), (q_1, .inl (Y 1, 4, .inl (jw_l 0 []))), (q_2, .inl (Y 1, 1, .inl (jw_l 0 []))), (q_3, .inl (Y 1, 1, .inl (jw_l 0 []))), (q_4, .inl (Y 1, 1024, .inl (jw_l 0 []))), (q_5, .inl (Y 1, 1024, .inl (jw_l 0 []))), (q_6, .inl (Y 1, 96, .inl (jw_l 0 [])))] H := hP
  have hD : va_D A [(h0, .inr (5, [.ref h1, .null, .int 0, .int 0, .ref q_1, .ref q_2, .ref q_3, .ref q_4, .ref q_5, .ref q_6])), (q_1, .inl (Y 1, 4, .inl (jw_l 0 []))), (q_2, .inl (Y 1, 1, .inl (jw_l 0 []))), (q_3, .inl (Y 1, 1, .inl (jw_l 0 []))), (q_4, .inl (Y 1, 1024, .inl (jw_l 0 []))), (q_5, .inl (Y 1, 1024, .inl (jw_l 0 []))), (q_6, .inl (Y 1, 96, .inl (jw_l 0 [])))] := hD
  refine lv_aload_n hx hb dX2_init_56 rfl (lv_at hl 0 rfl) ?_
  refine lv_aload_n hx hb dX2_init_57 rfl (lv_at hl 2 rfl) ?_
  refine va_putF (D := D) (ci := 5) (v := .ref h2) (C := RX2) (T := TX2) (N := 10) hx hb hts iw_X2_init__X2 tyX2 tyX2_ok nmX2 hown hE.1 hP hD hS 0 rfl rfl 1 (by decide) (hts _ mw_X2_init__12) (fun _ h9 => h9) rfl hin rfl (tyX2_ok 1 (by decide)) rfl rfl (Nat.le_of_ble_eq_true rfl) dX2_init_58 (fun H locs hP hD hS => ?_)
  have hP : va_P D vwCl [(h0, .inr (5, [.ref h1, .ref h2, .int 0, .int 0, .ref q_1, .ref q_2, .ref q_3, .ref q_4, .ref q_5, .ref q_6])), (q_1, .inl (Y 1, 4, .inl (jw_l 0 []))), (q_2, .inl (Y 1, 1, .inl (jw_l 0 []))), (q_3, .inl (Y 1, 1, .inl (jw_l 0 []))), (q_4, .inl (Y 1, 1024, .inl (jw_l 0 []))), (q_5, .inl (Y 1, 1024, .inl (jw_l 0 []))), (q_6, .inl (Y 1, 96, .inl (jw_l 0 [])))] H := hP
  have hD : va_D A [(h0, .inr (5, [.ref h1, .ref h2, .int 0, .int 0, .ref q_1, .ref q_2, .ref q_3, .ref q_4, .ref q_5, .ref q_6])), (q_1, .inl (Y 1, 4, .inl (jw_l 0 []))), (q_2, .inl (Y 1, 1, .inl (jw_l 0 []))), (q_3, .inl (Y 1, 1, .inl (jw_l 0 []))), (q_4, .inl (Y 1, 1024, .inl (jw_l 0 []))), (q_5, .inl (Y 1, 1024, .inl (jw_l 0 []))), (q_6, .inl (Y 1, 96, .inl (jw_l 0 [])))] := hD
  refine W.widen (k := 6) (n := 2150) (Nat.le_of_ble_eq_true rfl) (Nat.le_of_ble_eq_true rfl) ?_
  exact jw_vret hx hb hr hlocks ⟨q_1, q_2, q_3, q_4, q_5, q_6, rfl⟩ hP hD hS dX2_init_61
set_option maxHeartbeats 4000000 in
set_option maxRecDepth 100000 in
theorem k9_X8_init {l : Launch} {D : va_G} {Y : Nat → ClassId} {tt : Nat → Nat} (h0 h1 h2 : Nat) (sz : Nat) : Met l yX8_init wsX8_init ({ frames := 1, cells := 5, slots := 36, locals := 12 }) (jw_Pc D Y tt [.ref h0, .ref h1, .ref h2] [(h0, .inr (11, [.null, .null, .null, .null, .null, .null, .int 0, .null]))] sz) (jw_Qv D (fun w => ∃ (q_1 q_2 q_3 q_4 q_5 : Nat), w = [(h0, .inr (11, [.ref h1, .ref h2, .ref q_1, .ref q_2, .ref q_3, .ref q_4, .int 0, .ref q_5])), (q_1, .inl (Y 1, 4, .inl (jw_l 0 []))), (q_2, .inl (Y 1, 4, .inl (jw_l 0 []))), (q_3, .inl (Y 1, 12, .inl (jw_l 0 []))), (q_4, .inl (Y 1, 12, .inl (jw_l 0 []))), (q_5, .inl (Y 1, 4, .inl (jw_l 0 [])))]) (va_A [(h0, .inr (11, [.null, .null, .null, .null, .null, .null, .int 0, .null]))] sz)) 5 36 (va_A [(h0, .inr (11, [.null, .null, .null, .null, .null, .null, .int 0, .null]))] sz) := by
  refine jw_met (fun A => jw_Qv D (fun w => ∃ (q_1 q_2 q_3 q_4 q_5 : Nat), w = [(h0, .inr (11, [.ref h1, .ref h2, .ref q_1, .ref q_2, .ref q_3, .ref q_4, .int 0, .ref q_5])), (q_1, .inl (Y 1, 4, .inl (jw_l 0 []))), (q_2, .inl (Y 1, 4, .inl (jw_l 0 []))), (q_3, .inl (Y 1, 12, .inl (jw_l 0 []))), (q_4, .inl (Y 1, 12, .inl (jw_l 0 []))), (q_5, .inl (Y 1, 4, .inl (jw_l 0 [])))]) A) (cc := cX8_init) (maxL := 3) (ret := none) pn_X8_init rfl rfl ?_
  intro p e s m below meth c A H locs ls hx hb hml hr hts hown hlocks hin hP hD hA hS hE hl
  have hown : s.vm.findClass RX8 = some m.cls := hown
  have hl : lv_has ls 3 [(0, .ref h0), (1, .ref h1), (2, .ref h2)] := hl
  refine lv_aload_n hx hb dX8_init_0 rfl (lv_at hl 0 rfl) ?_
  refine W.objInit hx hb hown (hts _ mw_X8_init__1) (hts _ mw_X8_init__2) (hts _ mw_X8_init__3) rfl (by rw [hml]; exact hl.1) rfl dX8_init_1 (Nat.le_of_ble_eq_true rfl) (Nat.le_of_ble_eq_true rfl) ?_
  refine W.eq (g2 := F0 m 4 ls []) rfl ?_
  refine lv_aload_n hx hb dX8_init_4 rfl (lv_at hl 0 rfl) ?_
  refine lv_iconst (v := 4) hx hb dX8_init_5 (by decide +kernel) ?_
  refine jw_newa (atype := .int) (ty := .int) (cA := Y 1) (a0 := (4, .inl (jw_l 0 []))) (N' := 4) hx hb 1 (hts _ mw_X8_init__4) rfl hE rfl hP hD hS hA (jw_a0I 4) (by decide +kernel) (by decide +kernel) rfl rfl rfl dX8_init_6 (fun q_1 H hP hD hS => ?_)
  have hP : va_P D vwCl [(h0, .inr (11, [.null, .null, .null, .null, .null, .null, .int 0, .null])), (q_1, .inl (Y 1, 4, .inl (jw_l 0 [])))] H := hP
  have hD : va_D A [(h0, .inr (11, [.null, .null, .null, .null, .null, .null, .int 0, .null])), (q_1, .inl (Y 1, 4, .inl (jw_l 0 [])))] := hD
  refine W.widen (k := 1) (n := 4) (Nat.le_of_ble_eq_true rfl) (Nat.le_of_ble_eq_true rfl) ?_
  refine va_putF (D := D) (ci := 11) (v := .ref q_1) (C := RX8) (T := TX8) (N := 8) hx hb hts iw_X8_init__X8 tyX8 tyX8_ok nmX8 hown hE.1 hP hD hS 0 rfl rfl 2 (by decide) (hts _ mw_X8_init__5) (fun _ h9 => h9) rfl hin rfl (tyX8_ok 2 (by decide)) rfl rfl (Nat.le_of_ble_eq_true rfl) dX8_init_8 (fun H locs hP hD hS => ?_)
  have hP : va_P D vwCl [(h0, .inr (11, [.null, .null, .ref q_1, .null, .null, .null, .int 0, .null])), (q_1, .inl (Y 1, 4, .inl (jw_l 0 [])))] H := hP
  have hD : va_D A [(h0, .inr (11, [.null, .null, .ref q_1, .null, .null, .null, .int 0, .null])), (q_1, .inl (Y 1, 4, .inl (jw_l 0 [])))] := hD
  refine lv_aload_n hx hb dX8_init_11 rfl (lv_at hl 0 rfl) ?_
  refine lv_iconst (v := 4) hx hb dX8_init_12 (by decide +kernel) ?_
  refine jw_newa (atype := .int) (ty := .int) (cA := Y 1) (a0 := (4, .inl (jw_l 0 []))) (N' := 4) hx hb 1 (hts _ mw_X8_init__4) rfl hE rfl hP hD hS hA (jw_a0I 4) (by decide +kernel) (by decide +kernel) rfl rfl rfl dX8_init_13 (fun q_2 H hP hD hS => ?_)
  have hP : va_P D vwCl [(h0, .inr (11, [.null, .null, .ref q_1, .null, .null, .null, .int 0, .null])), (q_1, .inl (Y 1, 4, .inl (jw_l 0 []))), (q_2, .inl (Y 1, 4, .inl (jw_l 0 [])))] H := hP
  have hD : va_D A [(h0, .inr (11, [.null, .null, .ref q_1, .null, .null, .null, .int 0, .null])), (q_1, .inl (Y 1, 4, .inl (jw_l 0 []))), (q_2, .inl (Y 1, 4, .inl (jw_l 0 [])))] := hD
  refine W.widen (k := 2) (n := 8) (Nat.le_of_ble_eq_true rfl) (Nat.le_of_ble_eq_true rfl) ?_
  refine va_putF (D := D) (ci := 11) (v := .ref q_2) (C := RX8) (T := TX8) (N := 8) hx hb hts iw_X8_init__X8 tyX8 tyX8_ok nmX8 hown hE.1 hP hD hS 0 rfl rfl 3 (by decide) (hts _ mw_X8_init__6) (fun _ h9 => h9) rfl hin rfl (tyX8_ok 3 (by decide)) rfl rfl (Nat.le_of_ble_eq_true rfl) dX8_init_15 (fun H locs hP hD hS => ?_)
  have hP : va_P D vwCl [(h0, .inr (11, [.null, .null, .ref q_1, .ref q_2, .null, .null, .int 0, .null])), (q_1, .inl (Y 1, 4, .inl (jw_l 0 []))), (q_2, .inl (Y 1, 4, .inl (jw_l 0 [])))] H := hP
  have hD : va_D A [(h0, .inr (11, [.null, .null, .ref q_1, .ref q_2, .null, .null, .int 0, .null])), (q_1, .inl (Y 1, 4, .inl (jw_l 0 []))), (q_2, .inl (Y 1, 4, .inl (jw_l 0 [])))] := hD
  refine lv_aload_n hx hb dX8_init_18 rfl (lv_at hl 0 rfl) ?_
  refine lv_bipush (v := 12) hx hb dX8_init_19 (by decide +kernel) ?_
  refine jw_newa (atype := .int) (ty := .int) (cA := Y 1) (a0 := (12, .inl (jw_l 0 []))) (N' := 12) hx hb 1 (hts _ mw_X8_init__4) rfl hE rfl hP hD hS hA (jw_a0I 12) (by decide +kernel) (by decide +kernel) rfl rfl rfl dX8_init_21 (fun q_3 H hP hD hS => ?_)
  have hP : va_P D vwCl [(h0, .inr (11, [.null, .null, .ref q_1, .ref q_2, .null, .null, .int 0, .null])), (q_1, .inl (Y 1, 4, .inl (jw_l 0 []))), (q_2, .inl (Y 1, 4, .inl (jw_l 0 []))), (q_3, .inl (Y 1, 12, .inl (jw_l 0 [])))] H := hP
  have hD : va_D A [(h0, .inr (11, [.null, .null, .ref q_1, .ref q_2, .null, .null, .int 0, .null])), (q_1, .inl (Y 1, 4, .inl (jw_l 0 []))), (q_2, .inl (Y 1, 4, .inl (jw_l 0 []))), (q_3, .inl (Y 1, 12, .inl (jw_l 0 [])))] := hD
  refine W.widen (k := 3) (n := 20) (Nat.le_of_ble_eq_true rfl) (Nat.le_of_ble_eq_true rfl) ?_
  refine va_putF (D := D) (ci := 11) (v := .ref q_3) (C := RX8) (T := TX8) (N := 8) hx hb hts iw_X8_init__X8 tyX8 tyX8_ok nmX8 hown hE.1 hP hD hS 0 rfl rfl 4 (by decide) (hts _ mw_X8_init__7) (fun _ h9 => h9) rfl hin rfl (tyX8_ok 4 (by decide)) rfl rfl (Nat.le_of_ble_eq_true rfl) dX8_init_23 (fun H locs hP hD hS => ?_)
  have hP : va_P D vwCl [(h0, .inr (11, [.null, .null, .ref q_1, .ref q_2, .ref q_3, .null, .int 0, .null])), (q_1, .inl (Y 1, 4, .inl (jw_l 0 []))), (q_2, .inl (Y 1, 4, .inl (jw_l 0 []))), (q_3, .inl (Y 1, 12, .inl (jw_l 0 [])))] H := hP
  have hD : va_D A [(h0, .inr (11, [.null, .null, .ref q_1, .ref q_2, .ref q_3, .null, .int 0, .null])), (q_1, .inl (Y 1, 4, .inl (jw_l 0 []))), (q_2, .inl (Y 1, 4, .inl (jw_l 0 []))), (q_3, .inl (Y 1, 12, .inl (jw_l 0 [])))] := hD
  refine lv_aload_n hx hb dX8_init_26 rfl (lv_at hl 0 rfl) ?_
  refine lv_bipush (v := 12) hx hb dX8_init_27 (by decide +kernel) ?_
  refine jw_newa (atype := .int) (ty := .int) (cA := Y 1) (a0 := (12, .inl (jw_l 0 []))) (N' := 12) hx hb 1 (hts _ mw_X8_init__4) rfl hE rfl hP hD hS hA (jw_a0I 12) (by decide +kernel) (by decide +kernel) rfl rfl rfl dX8_init_29 (fun q_4 H hP hD hS => ?_)
  have hP : va_P D vwCl [(h0, .inr (11, [.null, .null, .ref q_1, .ref q_2, .ref q_3, .null, .int 0, .null])), (q_1, .inl (Y 1, 4, .inl (jw_l 0 []))), (q_2, .inl (Y 1, 4, .inl (jw_l 0 []))), (q_3, .inl (Y 1, 12, .inl (jw_l 0 []))), (q_4, .inl (Y 1, 12, .inl (jw_l 0 [])))] H := hP
  have hD : va_D A [(h0, .inr (11, [.null, .null, .ref q_1, .ref q_2, .ref q_3, .null, .int 0, .null])), (q_1, .inl (Y 1, 4, .inl (jw_l 0 []))), (q_2, .inl (Y 1, 4, .inl (jw_l 0 []))), (q_3, .inl (Y 1, 12, .inl (jw_l 0 []))), (q_4, .inl (Y 1, 12, .inl (jw_l 0 [])))] := hD
  refine W.widen (k := 4) (n := 32) (Nat.le_of_ble_eq_true rfl) (Nat.le_of_ble_eq_true rfl) ?_
  refine va_putF (D := D) (ci := 11) (v := .ref q_4) (C := RX8) (T := TX8) (N := 8) hx hb hts iw_X8_init__X8 tyX8 tyX8_ok nmX8 hown hE.1 hP hD hS 0 rfl rfl 5 (by decide) (hts _ mw_X8_init__8) (fun _ h9 => h9) rfl hin rfl (tyX8_ok 5 (by decide)) rfl rfl (Nat.le_of_ble_eq_true rfl) dX8_init_31 (fun H locs hP hD hS => ?_)
  have hP : va_P D vwCl [(h0, .inr (11, [.null, .null, .ref q_1, .ref q_2, .ref q_3, .ref q_4, .int 0, .null])), (q_1, .inl (Y 1, 4, .inl (jw_l 0 []))), (q_2, .inl (Y 1, 4, .inl (jw_l 0 []))), (q_3, .inl (Y 1, 12, .inl (jw_l 0 []))), (q_4, .inl (Y 1, 12, .inl (jw_l 0 [])))] H := hP
  have hD : va_D A [(h0, .inr (11, [.null, .null, .ref q_1, .ref q_2, .ref q_3, .ref q_4, .int 0, .null])), (q_1, .inl (Y 1, 4, .inl (jw_l 0 []))), (q_2, .inl (Y 1, 4, .inl (jw_l 0 []))), (q_3, .inl (Y 1, 12, .inl (jw_l 0 []))), (q_4, .inl (Y 1, 12, .inl (jw_l 0 [])))] := hD
  refine lv_aload_n hx hb dX8_init_34 rfl (lv_at hl 0 rfl) ?_
  refine lv_iconst (v := 4) hx hb dX8_init_35 (by decide +kernel) ?_
  refine jw_newa (atype := .int) (ty := .int) (cA := Y 1) (a0 := (4, .inl (jw_l 0 []))) (N' := 4) hx hb 1 (hts _ mw_X8_init__4) rfl hE rfl hP hD hS hA (jw_a0I 4) (by decide +kernel) (by decide +kernel) rfl rfl rfl dX8_init_36 (fun q_5 H hP hD hS => ?_)
  have hP : va_P D vwCl [(h0, .inr (11, [.null, .null, .ref q_1, .ref q_2, .ref q_3, .ref q_4, .int 0, .null])), (q_1, .inl (Y 1, 4, .inl (jw_l 0 []))), (q_2, .inl (Y 1, 4, .inl (jw_l 0 []))), (q_3, .inl (Y 1, 12, .inl (jw_l 0 []))), (q_4, .inl (Y 1, 12, .inl (jw_l 0 []))), (q_5, .inl (Y 1, 4, .inl (jw_l 0 [])))] H := hP
  have hD : va_D A [(h0, .inr (11, [.null, .null, .ref q_1, .ref q_2, .ref q_3, .ref q_4, .int 0, .null])), (q_1, .inl (Y 1, 4, .inl (jw_l 0 []))), (q_2, .inl (Y 1, 4, .inl (jw_l 0 []))), (q_3, .inl (Y 1, 12, .inl (jw_l 0 []))), (q_4, .inl (Y 1, 12, .inl (jw_l 0 []))), (q_5, .inl (Y 1, 4, .inl (jw_l 0 [])))] := hD
  refine W.widen (k := 5) (n := 36) (Nat.le_of_ble_eq_true rfl) (Nat.le_of_ble_eq_true rfl) ?_
  refine va_putF (D := D) (ci := 11) (v := .ref q_5) (C := RX8) (T := TX8) (N := 8) hx hb hts iw_X8_init__X8 tyX8 tyX8_ok nmX8 hown hE.1 hP hD hS 0 rfl rfl 7 (by decide) (hts _ mw_X8_init__9) (fun _ h9 => h9) rfl hin rfl (tyX8_ok 7 (by decide)) rfl rfl (Nat.le_of_ble_eq_true rfl) dX8_init_38 (fun H locs hP hD hS => ?_)
  have hP : va_P D vwCl [(h0, .inr (11, [.null, .null, .ref q_1, .ref q_2, .ref q_3, .ref q_4, .int 0, .ref q_5])), (q_1, .inl (Y 1, 4, .inl (jw_l 0 []))), (q_2, .inl (Y 1, 4, .inl (jw_l 0 []))), (q_3, .inl (Y 1, 12, .inl (jw_l 0 []))), (q_4, .inl (Y 1, 12, .inl (jw_l 0 []))), (q_5, .inl (Y 1, 4, .inl (jw_l 0 [])))] H := hP
  have hD : va_D A [(h0, .inr (11, [.null, .null, .ref q_1, .ref q_2, .ref q_3, .ref q_4, .int 0, .ref q_5])), (q_1, .inl (Y 1, 4, .inl (jw_l 0 []))), (q_2, .inl (Y 1, 4, .inl (jw_l 0 []))), (q_3, .inl (Y 1, 12, .inl (jw_l 0 []))), (q_4, .inl (Y 1, 12, .inl (jw_l 0 []))), (q_5, .inl (Y 1, 4, .inl (jw_l 0 [])))] := hD
  refine lv_aload_n hx hb dX8_init_41 rfl (lv_at hl 0 rfl) ?_
  refine lv_aload_n hx hb dX8_init_42 rfl (lv_at hl 1 rfl) ?_
  refine va_putF (D := D) (ci := 11) (v := .ref h1) (C := RX8) (T := TX8) (N := 8) hx hb hts iw_X8_init__X8 tyX8 tyX8_ok nmX8 hown hE.1 hP hD hS 0 rfl rfl 0 (by decide) (hts _ mw_X8_init__10) (fun _ h9 => h9) rfl hin rfl (tyX8_ok 0 (by decide)) rfl rfl (Nat.le_of_ble_eq_true rfl) dX8_init_43 (fun H locs hP hD hS => ?_)
  have hP : va_P D vwCl [(h0, .inr (11, [.ref h1, .null, .ref q_1, .ref q_2, .ref q_3, .ref q_4, .int 0, .ref q_5])), (q_1, .inl (Y 1, 4, .inl (jw_l 0 []))), (q_2, .inl (Y 1, 4, .inl (jw_l 0 []))), (q_3, .inl (Y 1, 12, .inl (jw_l 0 []))), (q_4, .inl (Y 1, 12, .inl (jw_l 0 []))), (q_5, .inl (Y 1, 4, .inl (jw_l 0 [])))] H := hP
  have hD : va_D A [(h0, .inr (11, [.ref h1, .null, .ref q_1, .ref q_2, .ref q_3, .ref q_4, .int 0, .ref q_5])), (q_1, .inl (Y 1, 4, .inl (jw_l 0 []))), (q_2, .inl (Y 1, 4, .inl (jw_l 0 []))), (q_3, .inl (Y 1, 12, .inl (jw_l 0 []))), (q_4, .inl (Y 1, 12, .inl (jw_l 0 []))), (q_5, .inl (Y 1, 4, .inl (jw_l 0 [])))] := hD
  refine lv_aload_n hx hb dX8_init_46 rfl (lv_at hl 0 rfl) ?_
  refine lv_aload_n hx hb dX8_init_47 rfl (lv_at hl 2 rfl) ?_
  refine va_putF (D := D) (ci := 11) (v := .ref h2) (C := RX8) (T := TX8) (N := 8) hx hb hts iw_X8_init__X8 tyX8 tyX8_ok nmX8 hown hE.1 hP hD hS 0 rfl rfl 1 (by decide) (hts _ mw_X8_init__11) (fun _ h9 => h9) rfl hin rfl (tyX8_ok 1 (by decide)) rfl rfl (Nat.le_of_ble_eq_true rfl) dX8_init_48 (fun H locs hP hD hS => ?_)
  have hP : va_P D vwCl [(h0, .inr (11, [.ref h1, .ref h2, .ref q_1, .ref q_2, .ref q_3, .ref q_4, .int 0, .ref q_5])), (q_1, .inl (Y 1, 4, .inl (jw_l 0 []))), (q_2, .inl (Y 1, 4, .inl (jw_l 0 []))), (q_3, .inl (Y 1, 12, .inl (jw_l 0 []))), (q_4, .inl (Y 1, 12, .inl (jw_l 0 []))), (q_5, .inl (Y 1, 4, .inl (jw_l 0 [])))] H := hP
  have hD : va_D A [(h0, .inr (11, [.ref h1, .ref h2, .ref q_1, .ref q_2, .ref q_3, .ref q_4, .int 0, .ref q_5])), (q_1, .inl (Y 1, 4, .inl (jw_l 0 []))), (q_2, .inl (Y 1, 4, .inl (jw_l 0 []))), (q_3, .inl (Y 1, 12, .inl (jw_l 0 []))), (q_4, .inl (Y 1, 12, .inl (jw_l 0 []))), (q_5, .inl (Y 1, 4, .inl (jw_l 0 [])))] := hD
  refine W.widen (k := 5) (n := 36) (Nat.le_of_ble_eq_true rfl) (Nat.le_of_ble_eq_true rfl) ?_
  exact jw_vret hx hb hr hlocks ⟨q_1, q_2, q_3, q_4, q_5, rfl⟩ hP hD hS dX8_init_51
set_option maxHeartbeats 4000000 in
set_option maxRecDepth 100000 in
theorem k10_X10_init {l : Launch} {D : va_G} {Y : Nat → ClassId} {tt : Nat → Nat} (h0 h1 : Nat) (sz : Nat) : Met l yX10_init wsX10_init ({ frames := 1, cells := 3, slots := 610, locals := 12 }) (jw_Pc D Y tt [.ref h0, .ref h1] [(h0, .inr (13, [.null, .null, .null, .null, .int 0]))] sz) (jw_Qv D (fun w => ∃ (q_1 q_2 q_3 : Nat), w = [(h0, .inr (13, [.ref h1, .ref q_1, .ref q_2, .ref q_3, .int 0])), (q_1, .inl (Y 1, 601, .inl (jw_l 0 []))), (q_2, .inl (Y 1, 5, .inl (jw_l 0 []))), (q_3, .inl (Y 1, 4, .inl (jw_l 0 [])))]) (va_A [(h0, .inr (13, [.null, .null, .null, .null, .int 0]))] sz)) 3 610 (va_A [(h0, .inr (13, [.null, .null, .null, .null, .int 0]))] sz) := by
  refine jw_met (fun A => jw_Qv D (fun w => ∃ (q_1 q_2 q_3 : Nat), w = [(h0, .inr (13, [.ref h1, .ref q_1, .ref q_2, .ref q_3, .int 0])), (q_1, .inl (Y 1, 601, .inl (jw_l 0 []))), (q_2, .inl (Y 1, 5, .inl (jw_l 0 []))), (q_3, .inl (Y 1, 4, .inl (jw_l 0 [])))]) A) (cc := cX10_init) (maxL := 2) (ret := none) pn_X10_init rfl rfl ?_
  intro p e s m below meth c A H locs ls hx hb hml hr hts hown hlocks hin hP hD hA hS hE hl
  have hown : s.vm.findClass RX10 = some m.cls := hown
  have hl : lv_has ls 2 [(0, .ref h0), (1, .ref h1)] := hl
  refine lv_aload_n hx hb dX10_init_0 rfl (lv_at hl 0 rfl) ?_
  refine W.objInit hx hb hown (hts _ mw_X10_init__1) (hts _ mw_X10_init__2) (hts _ mw_X10_init__3) rfl (by rw [hml]; exact hl.1) rfl dX10_init_1 (Nat.le_of_ble_eq_true rfl) (Nat.le_of_ble_eq_true rfl) ?_
  refine W.eq (g2 := F0 m 4 ls []) rfl ?_
  refine lv_aload_n hx hb dX10_init_4 rfl (lv_at hl 0 rfl) ?_
  refine lv_sipush (v := 601) hx hb dX10_init_5 (by decide +kernel) ?_
  refine jw_newa (atype := .int) (ty := .int) (cA := Y 1) (a0 := (601, .inl (jw_l 0 []))) (N' := 601) hx hb 1 (hts _ mw_X10_init__4) rfl hE rfl hP hD hS hA (jw_a0I 601) (by decide +kernel) (by decide +kernel) rfl rfl rfl dX10_init_8 (fun q_1 H hP hD hS => ?_)
  have hP : va_P D vwCl [(h0, .inr (13, [.null, .null, .null, .null, .int 0])), (q_1, .inl (Y 1, 601, .inl (jw_l 0 [])))] H := hP
  have hD : va_D A [(h0, .inr (13, [.null, .null, .null, .null, .int 0])), (q_1, .inl (Y 1, 601, .inl (jw_l 0 [])))] := hD
  refine W.widen (k := 1) (n := 601) (Nat.le_of_ble_eq_true rfl) (Nat.le_of_ble_eq_true rfl) ?_
  refine va_putF (D := D) (ci := 13) (v := .ref q_1) (C := RX10) (T := TX10) (N := 5) hx hb hts iw_X10_init__X10 tyX10 tyX10_ok nmX10 hown hE.1 hP hD hS 0 rfl rfl 1 (by decide) (hts _ mw_X10_init__5) (fun _ h9 => h9) rfl hin rfl (tyX10_ok 1 (by decide)) rfl rfl (Nat.le_of_ble_eq_true rfl) dX10_init_10 (fun H locs hP hD hS => ?_)
  have hP : va_P D vwCl [(h0, .inr (13, [.null, .ref q_1, .null, .null, .int 0])), (q_1, .inl (Y 1, 601, .inl (jw_l 0 [])))] H := hP
  have hD : va_D A [(h0, .inr (13, [.null, .ref q_1, .null, .null, .int 0])), (q_1, .inl (Y 1, 601, .inl (jw_l 0 [])))] := hD
  refine lv_aload_n hx hb dX10_init_13 rfl (lv_at hl 0 rfl) ?_
  refine lv_iconst (v := 5) hx hb dX10_init_14 (by decide +kernel) ?_
  refine jw_newa (atype := .int) (ty := .int) (cA := Y 1) (a0 := (5, .inl (jw_l 0 []))) (N' := 5) hx hb 1 (hts _ mw_X10_init__4) rfl hE rfl hP hD hS hA (jw_a0I 5) (by decide +kernel) (by decide +kernel) rfl rfl rfl dX10_init_15 (fun q_2 H hP hD hS => ?_)
  have hP : va_P D vwCl [(h0, .inr (13, [.null, .ref q_1, .null, .null, .int 0])), (q_1, .inl (Y 1, 601, .inl (jw_l 0 []))), (q_2, .inl (Y 1, 5, .inl (jw_l 0 [])))] H := hP
  have hD : va_D A [(h0, .inr (13, [.null, .ref q_1, .null, .null, .int 0])), (q_1, .inl (Y 1, 601, .inl (jw_l 0 []))), (q_2, .inl (Y 1, 5, .inl (jw_l 0 [])))] := hD
  refine W.widen (k := 2) (n := 606) (Nat.le_of_ble_eq_true rfl) (Nat.le_of_ble_eq_true rfl) ?_
  refine va_putF (D := D) (ci := 13) (v := .ref q_2) (C := RX10) (T := TX10) (N := 5) hx hb hts iw_X10_init__X10 tyX10 tyX10_ok nmX10 hown hE.1 hP hD hS 0 rfl rfl 2 (by decide) (hts _ mw_X10_init__6) (fun _ h9 => h9) rfl hin rfl (tyX10_ok 2 (by decide)) rfl rfl (Nat.le_of_ble_eq_true rfl) dX10_init_17 (fun H locs hP hD hS => ?_)
  have hP : va_P D vwCl [(h0, .inr (13, [.null, .ref q_1, .ref q_2, .null, .int 0])), (q_1, .inl (Y 1, 601, .inl (jw_l 0 []))), (q_2, .inl (Y 1, 5, .inl (jw_l 0 [])))] H := hP
  have hD : va_D A [(h0, .inr (13, [.null, .ref q_1, .ref q_2, .null, .int 0])), (q_1, .inl (Y 1, 601, .inl (jw_l 0 []))), (q_2, .inl (Y 1, 5, .inl (jw_l 0 [])))] := hD
  refine lv_aload_n hx hb dX10_init_20 rfl (lv_at hl 0 rfl) ?_
  refine lv_iconst (v := 4) hx hb dX10_init_21 (by decide +kernel) ?_
  refine jw_newa (atype := .int) (ty := .int) (cA := Y 1) (a0 := (4, .inl (jw_l 0 []))) (N' := 4) hx hb 1 (hts _ mw_X10_init__4) rfl hE rfl hP hD hS hA (jw_a0I 4) (by decide +kernel) (by decide +kernel) rfl rfl rfl dX10_init_22 (fun q_3 H hP hD hS => ?_)
  have hP : va_P D vwCl [(h0, .inr (13, [.null, .ref q_1, .ref q_2, .null, .int 0])), (q_1, .inl (Y 1, 601, .inl (jw_l 0 []))), (q_2, .inl (Y 1, 5, .inl (jw_l 0 []))), (q_3, .inl (Y 1, 4, .inl (jw_l 0 [])))] H := hP
  have hD : va_D A [(h0, .inr (13, [.null, .ref q_1, .ref q_2, .null, .int 0])), (q_1, .inl (Y 1, 601, .inl (jw_l 0 []))), (q_2, .inl (Y 1, 5, .inl (jw_l 0 []))), (q_3, .inl (Y 1, 4, .inl (jw_l 0 [])))] := hD
  refine W.widen (k := 3) (n := 610) (Nat.le_of_ble_eq_true rfl) (Nat.le_of_ble_eq_true rfl) ?_
  refine va_putF (D := D) (ci := 13) (v := .ref q_3) (C := RX10) (T := TX10) (N := 5) hx hb hts iw_X10_init__X10 tyX10 tyX10_ok nmX10 hown hE.1 hP hD hS 0 rfl rfl 3 (by decide) (hts _ mw_X10_init__7) (fun _ h9 => h9) rfl hin rfl (tyX10_ok 3 (by decide)) rfl rfl (Nat.le_of_ble_eq_true rfl) dX10_init_24 (fun H locs hP hD hS => ?_)
  have hP : va_P D vwCl [(h0, .inr (13, [.null, .ref q_1, .ref q_2, .ref q_3, .int 0])), (q_1, .inl (Y 1, 601, .inl (jw_l 0 []))), (q_2, .inl (Y 1, 5, .inl (jw_l 0 []))), (q_3, .inl (Y 1, 4, .inl (jw_l 0 [])))] H := hP
  have hD : va_D A [(h0, .inr (13, [.null, .ref q_1, .ref q_2, .ref q_3, .int 0])), (q_1, .inl (Y 1, 601, .inl (jw_l 0 []))), (q_2, .inl (Y 1, 5, .inl (jw_l 0 []))), (q_3, .inl (Y 1, 4, .inl (jw_l 0 [])))] := hD
  refine lv_aload_n hx hb dX10_init_27 rfl (lv_at hl 0 rfl) ?_
  refine lv_aload_n hx hb dX10_init_28 rfl (lv_at hl 1 rfl) ?_
  refine va_putF (D := D) (ci := 13) (v := .ref h1) (C := RX10) (T := TX10) (N := 5) hx hb hts iw_X10_init__X10 tyX10 tyX10_ok nmX10 hown hE.1 hP hD hS 0 rfl rfl 0 (by decide) (hts _ mw_X10_init__8) (fun _ h9 => h9) rfl hin rfl (tyX10_ok 0 (by decide)) rfl rfl (Nat.le_of_ble_eq_true rfl) dX10_init_29 (fun H locs hP hD hS => ?_)
  have hP : va_P D vwCl [(h0, .inr (13, [.ref h1, .ref q_1, .ref q_2, .ref q_3, .int 0])), (q_1, .inl (Y 1, 601, .inl (jw_l 0 []))), (q_2, .inl (Y 1, 5, .inl (jw_l 0 []))), (q_3, .inl (Y 1, 4, .inl (jw_l 0 [])))] H := hP
  have hD : va_D A [(h0, .inr (13, [.ref h1, .ref q_1, .ref q_2, .ref q_3, .int 0])), (q_1, .inl (Y 1, 601, .inl (jw_l 0 []))), (q_2, .inl (Y 1, 5, .inl (jw_l 0 []))), (q_3, .inl (Y 1, 4, .inl (jw_l 0 [])))] := hD
  refine W.widen (k := 3) (n := 610) (Nat.le_of_ble_eq_true rfl) (Nat.le_of_ble_eq_true rfl) ?_
  exact jw_vret hx hb hr hlocks ⟨q_1, q_2, q_3, rfl⟩ hP hD hS dX10_init_32
set_option maxHeartbeats 4000000 in
set_option maxRecDepth 100000 in
theorem k11_X7_init {l : Launch} {D : va_G} {Y : Nat → ClassId} {tt : Nat → Nat} (h0 h1 : Nat) (sz : Nat) : Met l yX7_init wsX7_init ({ frames := 1, cells := 4, slots := 1132, locals := 12 }) (jw_Pc D Y tt [.ref h0, .ref h1] [(h0, .inr (10, [.null, .int 0, .null, .null, .null, .null]))] sz) (jw_Qv D (fun w => ∃ (q_1 q_2 q_3 q_4 : Nat), w = [(h0, .inr (10, [.ref h1, .int 0, .ref q_1, .ref q_2, .ref q_3, .ref q_4])), (q_1, .inl (Y 1, 4, .inl (jw_l 0 []))), (q_2, .inl (Y 2, 24, .inr (.inl (jw_L 0 [])))), (q_3, .inl (Y 1, 64, .inl (jw_l 0 []))), (q_4, .inl (Y 2, 1040, .inr (.inl (jw_L 0 []))))]) (va_A [(h0, .inr (10, [.null, .int 0, .null, .null, .null, .null]))] sz)) 4 1132 (va_A [(h0, .inr (10, [.null, .int 0, .null, .null, .null, .null]))] sz) := by
  refine jw_met (fun A => jw_Qv D (fun w => ∃ (q_1 q_2 q_3 q_4 : Nat), w = [(h0, .inr (10, [.ref h1, .int 0, .ref q_1, .ref q_2, .ref q_3, .ref q_4])), (q_1, .inl (Y 1, 4, .inl (jw_l 0 []))), (q_2, .inl (Y 2, 24, .inr (.inl (jw_L 0 [])))), (q_3, .inl (Y 1, 64, .inl (jw_l 0 []))), (q_4, .inl (Y 2, 1040, .inr (.inl (jw_L 0 []))))]) A) (cc := cX7_init) (maxL := 2) (ret := none) pn_X7_init rfl rfl ?_
  intro p e s m below meth c A H locs ls hx hb hml hr hts hown hlocks hin hP hD hA hS hE hl
  have hown : s.vm.findClass RX7 = some m.cls := hown
  have hl : lv_has ls 2 [(0, .ref h0), (1, .ref h1)] := hl
  refine lv_aload_n hx hb dX7_init_0 rfl (lv_at hl 0 rfl) ?_
  refine W.objInit hx hb hown (hts _ mw_X7_init__1) (hts _ mw_X7_init__2) (hts _ mw_X7_init__3) rfl (by rw [hml]; exact hl.1) rfl dX7_init_1 (Nat.le_of_ble_eq_true rfl) (Nat.le_of_ble_eq_true rfl) ?_
  refine W.eq (g2 := F0 m 4 ls []) rfl ?_
  refine lv_aload_n hx hb dX7_init_4 rfl (lv_at hl 0 rfl) ?_
  refine lv_iconst (v := 4) hx hb dX7_init_5 (by decide +kernel) ?_
  refine jw_newa (atype := .int) (ty := .int) (cA := Y 1) (a0 := (4, .inl (jw_l 0 []))) (N' := 4) hx hb 1 (hts _ mw_X7_init__4) rfl hE rfl hP hD hS hA (jw_a0I 4) (by decide +kernel) (by decide +kernel) rfl rfl rfl dX7_init_6 (fun q_1 H hP hD hS => ?_)
  have hP : va_P D vwCl [(h0, .inr (10, [.null, .int 0, .null, .null, .null, .null])), (q_1, .inl (Y 1, 4, .inl (jw_l 0 [])))] H := hP
  have hD : va_D A [(h0, .inr (10, [.null, .int 0, .null, .null, .null, .null])), (q_1, .inl (Y 1, 4, .inl (jw_l 0 [])))] := hD
  refine W.widen (k := 1) (n := 4) (Nat.le_of_ble_eq_true rfl) (Nat.le_of_ble_eq_true rfl) ?_
  refine va_putF (D := D) (ci := 10) (v := .ref q_1) (C := RX7) (T := TX7) (N := 6) hx hb hts iw_X7_init__X7 tyX7 tyX7_ok nmX7 hown hE.1 hP hD hS 0 rfl rfl 2 (by decide) (hts _ mw_X7_init__5) (fun _ h9 => h9) rfl hin rfl (tyX7_ok 2 (by decide)) rfl rfl (Nat.le_of_ble_eq_true rfl) dX7_init_8 (fun H locs hP hD hS => ?_)
  have hP : va_P D vwCl [(h0, .inr (10, [.null, .int 0, .ref q_1, .null, .null, .null])), (q_1, .inl (Y 1, 4, .inl (jw_l 0 [])))] H := hP
  have hD : va_D A [(h0, .inr (10, [.null, .int 0, .ref q_1, .null, .null, .null])), (q_1, .inl (Y 1, 4, .inl (jw_l 0 [])))] := hD
  refine lv_aload_n hx hb dX7_init_11 rfl (lv_at hl 0 rfl) ?_
  refine lv_bipush (v := 24) hx hb dX7_init_12 (by decide +kernel) ?_
  refine jw_newa (atype := .long) (ty := .long) (cA := Y 2) (a0 := (24, .inr (.inl (jw_L 0 [])))) (N' := 24) hx hb 2 (hts _ mw_X7_init__6) rfl hE rfl hP hD hS hA (jw_a0J 24) (by decide +kernel) (by decide +kernel) rfl rfl rfl dX7_init_14 (fun q_2 H hP hD hS => ?_)
  have hP : va_P D vwCl [(h0, .inr (10, [.null, .int 0, .ref q_1, .null, .null, .null])), (q_1, .inl (Y 1, 4, .inl (jw_l 0 []))), (q_2, .inl (Y 2, 24, .inr (.inl (jw_L 0 []))))] H := hP
  have hD : va_D A [(h0, .inr (10, [.null, .int 0, .ref q_1, .null, .null, .null])), (q_1, .inl (Y 1, 4, .inl (jw_l 0 []))), (q_2, .inl (Y 2, 24, .inr (.inl (jw_L 0 []))))] := hD
  refine W.widen (k := 2) (n := 28) (Nat.le_of_ble_eq_true rfl) (Nat.le_of_ble_eq_true rfl) ?_
  refine va_putF (D := D) (ci := 10) (v := .ref q_2) (C := RX7) (T := TX7) (N := 6) hx hb hts iw_X7_init__X7 tyX7 tyX7_ok nmX7 hown hE.1 hP hD hS 0 rfl rfl 3 (by decide) (hts _ mw_X7_init__7) (fun _ h9 => h9) rfl hin rfl (tyX7_ok 3 (by decide)) rfl rfl (Nat.le_of_ble_eq_true rfl) dX7_init_16 (fun H locs hP hD hS => ?_)
  have hP : va_P D vwCl [(h0, .inr (10, [.null, .int 0, .ref q_1, .ref q_2, .null, .null])), (q_1, .inl (Y 1, 4, .inl (jw_l 0 []))), (q_2, .inl (Y 2, 24, .inr (.inl (jw_L 0 []))))] H := hP
  have hD : va_D A [(h0, .inr (10, [.null, .int 0, .ref q_1, .ref q_2, .null, .null])), (q_1, .inl (Y 1, 4, .inl (jw_l 0 []))), (q_2, .inl (Y 2, 24, .inr (.inl (jw_L 0 []))))] := hD
  refine lv_aload_n hx hb dX7_init_19 rfl (lv_at hl 0 rfl) ?_
  refine lv_bipush (v := 64) hx hb dX7_init_20 (by decide +kernel) ?_
  refine jw_newa (atype := .int) (ty := .int) (cA := Y 1) (a0 := (64, .inl (jw_l 0 []))) (N' := 64) hx hb 1 (hts _ mw_X7_init__4) rfl hE rfl hP hD hS hA (jw_a0I 64) (by decide +kernel) (by decide +kernel) rfl rfl rfl dX7_init_22 (fun q_3 H hP hD hS => ?_)
  have hP : va_P D vwCl [(h0, .inr (10, [.null, .int 0, .ref q_1, .ref q_2, .null, .null])), (q_1, .inl (Y 1, 4, .inl (jw_l 0 []))), (q_2, .inl (Y 2, 24, .inr (.inl (jw_L 0 [])))), (q_3, .inl (Y 1, 64, .inl (jw_l 0 [])))] H := hP
  have hD : va_D A [(h0, .inr (10, [.null, .int 0, .ref q_1, .ref q_2, .null, .null])), (q_1, .inl (Y 1, 4, .inl (jw_l 0 []))), (q_2, .inl (Y 2, 24, .inr (.inl (jw_L 0 [])))), (q_3, .inl (Y 1, 64, .inl (jw_l 0 [])))] := hD
  refine W.widen (k := 3) (n := 92) (Nat.le_of_ble_eq_true rfl) (Nat.le_of_ble_eq_true rfl) ?_
  refine va_putF (D := D) (ci := 10) (v := .ref q_3) (C := RX7) (T := TX7) (N := 6) hx hb hts iw_X7_init__X7 tyX7 tyX7_ok nmX7 hown hE.1 hP hD hS 0 rfl rfl 4 (by decide) (hts _ mw_X7_init__8) (fun _ h9 => h9) rfl hin rfl (tyX7_ok 4 (by decide)) rfl rfl (Nat.le_of_ble_eq_true rfl) dX7_init_24 (fun H locs hP hD hS => ?_)
  have hP : va_P D vwCl [(h0, .inr (10, [.null, .int 0, .ref q_1, .ref q_2, .ref q_3, .null])), (q_1, .inl (Y 1, 4, .inl (jw_l 0 []))), (q_2, .inl (Y 2, 24, .inr (.inl (jw_L 0 [])))), (q_3, .inl (Y 1, 64, .inl (jw_l 0 [])))] H := hP
  have hD : va_D A [(h0, .inr (10, [.null, .int 0, .ref q_1, .ref q_2, .ref q_3, .null])), (q_1, .inl (Y 1, 4, .inl (jw_l 0 []))), (q_2, .inl (Y 2, 24, .inr (.inl (jw_L 0 [])))), (q_3, .inl (Y 1, 64, .inl (jw_l 0 [])))] := hD
  refine lv_aload_n hx hb dX7_init_27 rfl (lv_at hl 0 rfl) ?_
  refine lv_sipush (v := 1040) hx hb dX7_init_28 (by decide +kernel) ?_
  refine jw_newa (atype := .long) (ty := .long) (cA := Y 2) (a0 := (1040, .inr (.inl (jw_L 0 [])))) (N' := 1040) hx hb 2 (hts _ mw_X7_init__6) rfl hE rfl hP hD hS hA (jw_a0J 1040) (by decide +kernel) (by decide +kernel) rfl rfl rfl dX7_init_31 (fun q_4 H hP hD hS => ?_)
  have hP : va_P D vwCl [(h0, .inr (10, [.null, .int 0, .ref q_1, .ref q_2, .ref q_3, .null])), (q_1, .inl (Y 1, 4, .inl (jw_l 0 []))), (q_2, .inl (Y 2, 24, .inr (.inl (jw_L 0 [])))), (q_3, .inl (Y 1, 64, .inl (jw_l 0 []))), (q_4, .inl (Y 2, 1040, .inr (.inl (jw_L 0 []))))] H := hP
  have hD : va_D A [(h0, .inr (10, [.null, .int 0, .ref q_1, .ref q_2, .ref q_3, .null])), (q_1, .inl (Y 1, 4, .inl (jw_l 0 []))), (q_2, .inl (Y 2, 24, .inr (.inl (jw_L 0 [])))), (q_3, .inl (Y 1, 64, .inl (jw_l 0 []))), (q_4, .inl (Y 2, 1040, .inr (.inl (jw_L 0 []))))] := hD
  refine W.widen (k := 4) (n := 1132) (Nat.le_of_ble_eq_true rfl) (Nat.le_of_ble_eq_true rfl) ?_
  refine va_putF (D := D) (ci := 10) (v := .ref q_4) (C := RX7) (T := TX7) (N := 6) hx hb hts iw_X7_init__X7 tyX7 tyX7_ok nmX7 hown hE.1 hP hD hS 0 rfl rfl 5 (by decide) (hts _ mw_X7_init__9) (fun _ h9 => h9) rfl hin rfl (tyX7_ok 5 (by decide)) rfl rfl (Nat.le_of_ble_eq_true rfl) dX7_init_33 (fun H locs hP hD hS => ?_)
  have hP : va_P D vwCl [(h0, .inr (10, [.null, .int 0, .ref q_1, .ref q_2, .ref q_3, .ref q_4])), (q_1, .inl (Y 1, 4, .inl (jw_l 0 []))), (q_2, .inl (Y 2, 24, .inr (.inl (jw_L 0 [])))), (q_3, .inl (Y 1, 64, .inl (jw_l 0 []))), (q_4, .inl (Y 2, 1040, .inr (.inl (jw_L 0 []))))] H := hP
  have hD : va_D A [(h0, .inr (10, [.null, .int 0, .ref q_1, .ref q_2, .ref q_3, .ref q_4])), (q_1, .inl (Y 1, 4, .inl (jw_l 0 []))), (q_2, .inl (Y 2, 24, .inr (.inl (jw_L 0 [])))), (q_3, .inl (Y 1, 64, .inl (jw_l 0 []))), (q_4, .inl (Y 2, 1040, .inr (.inl (jw_L 0 []))))] := hD
  refine lv_aload_n hx hb dX7_init_36 rfl (lv_at hl 0 rfl) ?_
  refine lv_aload_n hx hb dX7_init_37 rfl (lv_at hl 1 rfl) ?_
  refine va_putF (D := D) (ci := 10) (v := .ref h1) (C := RX7) (T := TX7) (N := 6) hx hb hts iw_X7_init__X7 tyX7 tyX7_ok nmX7 hown hE.1 hP hD hS 0 rfl rfl 0 (by decide) (hts _ mw_X7_init__10) (fun _ h9 => h9) rfl hin rfl (tyX7_ok 0 (by decide)) rfl rfl (Nat.le_of_ble_eq_true rfl) dX7_init_38 (fun H locs hP hD hS => ?_)
  have hP : va_P D vwCl [(h0, .inr (10, [.ref h1, .int 0, .ref q_1, .ref q_2, .ref q_3, .ref q_4])), (q_1, .inl (Y 1, 4, .inl (jw_l 0 []))), (q_2, .inl (Y 2, 24, .inr (.inl (jw_L 0 [])))), (q_3, .inl (Y 1, 64, .inl (jw_l 0 []))), (q_4, .inl (Y 2, 1040, .inr (.inl (jw_L 0 []))))] H := hP
  have hD : va_D A [(h0, .inr (10, [.ref h1, .int 0, .ref q_1, .ref q_2, .ref q_3, .ref q_4])), (q_1, .inl (Y 1, 4, .inl (jw_l 0 []))), (q_2, .inl (Y 2, 24, .inr (.inl (jw_L 0 [])))), (q_3, .inl (Y 1, 64, .inl (jw_l 0 []))), (q_4, .inl (Y 2, 1040, .inr (.inl (jw_L 0 []))))] := hD
  refine W.widen (k := 4) (n := 1132) (Nat.le_of_ble_eq_true rfl) (Nat.le_of_ble_eq_true rfl) ?_
  exact jw_vret hx hb hr hlocks ⟨q_1, q_2, q_3, q_4, rfl⟩ hP hD hS dX7_init_41
set_option maxHeartbeats 4000000 in
set_option maxRecDepth 100000 in
theorem k12_X6_init {l : Launch} {D : va_G} {Y : Nat → ClassId} {tt : Nat → Nat} (h0 h1 h2 h3 h4 h5 h6 h7 h8 h9 h10 : Nat) (sz : Nat) : Met l yX6_init wsX6_init ({ frames := 2, cells := 7, slots := 1238, locals := 33 }) (jw_Pc D Y tt [.ref h1, .ref h0, .ref h2] [(h0, .inr (5, [.ref h3, .ref h4, .int 0, .int 0, .ref h5, .ref h6, .ref h7, .ref h8, .ref h9, .ref h10])), (h1, .inr (9, [.null, .null, .null, .null, .null, .null, .int 0, .int 0, .int 0, .int 0]))] sz) (jw_Qv D (fun w => ∃ (q_1 q_2 q_3 q_4 q_5 q_6 q_7 : Nat), w = [(h0, .inr (5, [.ref h3, .ref h4, .int 0, .int 0, .ref h5, .ref h6, .ref h7, .ref h8, .ref h9, .ref h10])), (h1, .inr (9, [.ref h3, .ref h4, .ref h2, .ref q_3, .ref q_1, .ref q_2, .int 0, .int 0, .int 0, .int 0])), (q_1, .inl (Y 1, 4, .inl (jw_l 0 []))), (q_2, .inl (Y 2, 96, .inr (.inl (jw_L 0 [])))), (q_3, .inr (10, [.ref h4, .int 0, .ref q_4, .ref q_5, .ref q_6, .ref q_7])), (q_4, .inl (Y 1, 4, .inl (jw_l 0 []))), (q_5, .inl (Y 2, 24, .inr (.inl (jw_L 0 [])))), (q_6, .inl (Y 1, 64, .inl (jw_l 0 []))), (q_7, .inl (Y 2, 1040, .inr (.inl (jw_L 0 []))))]) (va_A [(h0, .inr (5, [.ref h3, .ref h4, .int 0, .int 0, .ref h5, .ref h6, .ref h7, .ref h8, .ref h9, .ref h10])), (h1, .inr (9, [.null, .null, .null, .null, .null, .null, .int 0, .int 0, .int 0, .int 0]))] sz)) 7 1238 (va_A [(h0, .inr (5, [.ref h3, .ref h4, .int 0, .int 0, .ref h5, .ref h6, .ref h7, .ref h8, .ref h9, .ref h10])), (h1, .inr (9, [.null, .null, .null, .null, .null, .null, .int 0, .int 0, .int 0, .int 0]))] sz) := by
  refine jw_met (fun A => jw_Qv D (fun w => ∃ (q_1 q_2 q_3 q_4 q_5 q_6 q_7 : Nat), w = [(h0, .inr (5, [.ref h3, .ref h4, .int 0, .int 0, .ref h5, .ref h6, .ref h7, .ref h8, .ref h9, .ref h10])), (h1, .inr (9, [.ref h3, .ref h4, .ref h2, .ref q_3, .ref q_1, .ref q_2, .int 0, .int 0, .int 0, .int 0])), (q_1, .inl (Y 1, 4, .inl (jw_l 0 []))), (q_2, .inl (Y 2, 96, .inr (.inl (jw_L 0 [])))), (q_3, .inr (10, [.ref h4, .int 0, .ref q_4, .ref q_5, .ref q_6, .ref q_7])), (q_4, .inl (Y 1, 4, .inl (jw_l 0 []))), (q_5, .inl (Y 2, 24, .inr (.inl (jw_L 0 [])))), (q_6, .inl (Y 1, 64, .inl (jw_l 0 []))), (q_7, .inl (Y 2, 1040, .inr (.inl (jw_L 0 []))))]) A) (cc := cX6_init) (maxL := 3) (ret := none) pn_X6_init rfl rfl ?_
  intro p e s m below meth c A H locs ls hx hb hml hr hts hown hlocks hin hP hD hA hS hE hl
  have hown : s.vm.findClass RX6 = some m.cls := hown
  have hl : lv_has ls 3 [(0, .ref h1), (1, .ref h0), (2, .ref h2)] := hl
  refine lv_aload_n hx hb dX6_init_0 rfl (lv_at hl 0 rfl) ?_
  refine W.objInit hx hb hown (hts _ mw_X6_init__1) (hts _ mw_X6_init__2) (hts _ mw_X6_init__3) rfl (by rw [hml]; exact hl.1) rfl dX6_init_1 (Nat.le_of_ble_eq_true rfl) (Nat.le_of_ble_eq_true rfl) ?_
  refine W.eq (g2 := F0 m 4 ls []) rfl ?_
  refine lv_aload_n hx hb dX6_init_4 rfl (lv_at hl 0 rfl) ?_
  refine lv_iconst (v := 4) hx hb dX6_init_5 (by decide +kernel) ?_
  refine jw_newa (atype := .int) (ty := .int) (cA := Y 1) (a0 := (4, .inl (jw_l 0 []))) (N' := 4) hx hb 1 (hts _ mw_X6_init__4) rfl hE rfl hP hD hS hA (jw_a0I 4) (by decide +kernel) (by decide +kernel) rfl rfl rfl dX6_init_6 (fun q_1 H hP hD hS => ?_)
  have hP : va_P D vwCl [(h0, .inr (5, [.ref h3, .ref h4, .int 0, .int 0, .ref h5, .ref h6, .ref h7, .ref h8, .ref h9, .ref h10])), (h1, .inr (9, [.null, .null, .null, .null, .null, .null, .int 0, .int 0, .int 0, .int 0])), (q_1, .inl (Y 1, 4, .inl (jw_l 0 [])))] H := hP
  have hD : va_D A [(h0, .inr (5, [.ref h3, .ref h4, .int 0, .int 0, .ref h5, .ref h6, .ref h7, .ref h8, .ref h9, .ref h10])), (h1, .inr (9, [.null, .null, .null, .null, .null, .null, .int 0, .int 0, .int 0, .int 0])), (q_1, .inl (Y 1, 4, .inl (jw_l 0 [])))] := hD
  refine W.widen (k := 1) (n := 4) (Nat.le_of_ble_eq_true rfl) (Nat.le_of_ble_eq_true rfl) ?_
  refine va_putF (D := D) (ci := 9) (v := .ref q_1) (C := RX6) (T := TX6) (N := 10) hx hb hts iw_X6_init__X6 tyX6 tyX6_ok nmX6 hown hE.1 hP hD hS 1 rfl rfl 4 (by decide) (hts _ mw_X6_init__5) (fun _ h9 => h9) rfl hin rfl (tyX6_ok 4 (by decide)) rfl rfl (Nat.le_of_ble_eq_true rfl) dX6_init_8 (fun H locs hP hD hS => ?_)
  have hP : va_P D vwCl [(h0, .inr (5, [.ref h3, .ref h4, .int 0, .int 0, .ref h5, .ref h6, .ref h7, .ref h8, .ref h9, .ref h10])), (h1, .inr (9, [.null, .null, .null, .null, .ref q_1, .null, .int 0, .int 0, .int 0, .int 0])), (q_1, .inl (Y 1, 4, .inl (jw_l 0 [])))] H := hP
  have hD : va_D A [(h0, .inr (5, [.ref h3, .ref h4, .int 0, .int 0, .ref h5, .ref h6, .ref h7, .ref h8, .ref h9, .ref h10])), (h1, .inr (9, [.null, .null, .null, .null, .ref q_1, .null, .int 0, .int 0, .int 0, .int 0])), (q_1, .inl (Y 1, 4, .inl (jw_l 0 [])))] := hD
  refine lv_aload_n hx hb dX6_init_11 rfl (lv_at hl 0 rfl) ?_
  refine lv_bipush (v := 96) hx hb dX6_init_12 (by decide +kernel) ?_
  refine jw_newa (atype := .long) (ty := .long) (cA := Y 2) (a0 := (96, .inr (.inl (jw_L 0 [])))) (N' := 96) hx hb 2 (hts _ mw_X6_init__6) rfl hE rfl hP hD hS hA (jw_a0J 96) (by decide +kernel) (by decide +kernel) rfl rfl rfl dX6_init_14 (fun q_2 H hP hD hS => ?_)
  have hP : va_P D vwCl [(h0, .inr (5, [.ref h3, .ref h4, .int 0, .int 0, .ref h5, .ref h6, .ref h7, .ref h8, .ref h9, .ref h10])), (h1, .inr (9, [.null, .null, .null, .null, .ref q_1, .null, .int 0, .int 0, .int 0, .int 0])), (q_1, .inl (Y 1, 4, .inl (jw_l 0 []))), (q_2, .inl (Y 2, 96, .inr (.inl (jw_L 0 []))))] H := hP
  have hD : va_D A [(h0, .inr (5, [.ref h3, .ref h4, .int 0, .int 0, .ref h5, .ref h6, .ref h7, .ref h8, .ref h9, .ref h10])), (h1, .inr (9, [.null, .null, .null, .null, .ref q_1, .null, .int 0, .int 0, .int 0, .int 0])), (q_1, .inl (Y 1, 4, .inl (jw_l 0 []))), (q_2, .inl (Y 2, 96, .inr (.inl (jw_L 0 []))))] := hD
  refine W.widen (k := 2) (n := 100) (Nat.le_of_ble_eq_true rfl) (Nat.le_of_ble_eq_true rfl) ?_
  refine va_putF (D := D) (ci := 9) (v := .ref q_2) (C := RX6) (T := TX6) (N := 10) hx hb hts iw_X6_init__X6 tyX6 tyX6_ok nmX6 hown hE.1 hP hD hS 1 rfl rfl 5 (by decide) (hts _ mw_X6_init__7) (fun _ h9 => h9) rfl hin rfl (tyX6_ok 5 (by decide)) rfl rfl (Nat.le_of_ble_eq_true rfl) dX6_init_16 (fun H locs hP hD hS => ?_)
  have hP : va_P D vwCl [(h0, .inr (5, [.ref h3, .ref h4, .int 0, .int 0, .ref h5, .ref h6, .ref h7, .ref h8, .ref h9, .ref h10])), (h1, .inr (9, [.null, .null, .null, .null, .ref q_1, .ref q_2, .int 0, .int 0, .int 0, .int 0])), (q_1, .inl (Y 1, 4, .inl (jw_l 0 []))), (q_2, .inl (Y 2, 96, .inr (.inl (jw_L 0 []))))] H := hP
  have hD : va_D A [(h0, .inr (5, [.ref h3, .ref h4, .int 0, .int 0, .ref h5, .ref h6, .ref h7, .ref h8, .ref h9, .ref h10])), (h1, .inr (9, [.null, .null, .null, .null, .ref q_1, .ref q_2, .int 0, .int 0, .int 0, .int 0])), (q_1, .inl (Y 1, 4, .inl (jw_l 0 []))), (q_2, .inl (Y 2, 96, .inr (.inl (jw_L 0 []))))] := hD
  refine lv_aload_n hx hb dX6_init_19 rfl (lv_at hl 0 rfl) ?_
  refine lv_aload_n hx hb dX6_init_20 rfl (lv_at hl 1 rfl) ?_
  refine va_getN (D := D) (ci := 5) (v := .ref h3) (C := RX2) (T := TX2) (N := 10) hx hb hts iw_X6_init__X2 hown hE.1 hP 0 rfl rfl 0 (by decide) (nf_X6_19 hE) (fun _ h9 => h9) rfl dX6_init_21 ?_
  refine va_putF (D := D) (ci := 9) (v := .ref h3) (C := RX6) (T := TX6) (N := 10) hx hb hts iw_X6_init__X6 tyX6 tyX6_ok nmX6 hown hE.1 hP hD hS 1 rfl rfl 0 (by decide) (hts _ mw_X6_init__8) (fun _ h9 => h9) rfl hin rfl (tyX6_ok 0 (by decide)) rfl rfl (Nat.le_of_ble_eq_true rfl) dX6_init_24 (fun H locs hP hD hS => ?_)
  have hP : va_P D vwCl [(h0, .inr (5, [.ref h3, .ref h4, .int 0, .int 0, .ref h5, .ref h6, .ref h7, .ref h8, .ref h9, .ref h10])), (h1, .inr (9, [.ref h3, .null, .null, .null, .ref q_1, .ref q_2, .int 0, .int 0, .int 0, .int 0])), (q_1, .inl (Y 1, 4, .inl (jw_l 0 []))), (q_2, .inl (Y 2, 96, .inr (.inl (jw_L 0 []))))] H := hP
  have hD : va_D A [(h0, .inr (5, [.ref h3, .ref h4, .int 0, .int 0, .ref h5, .ref h6, .ref h7, .ref h8, .ref h9, .ref h10])), (h1, .inr (9, [.ref h3, .null, .null, .null, .ref q_1, .ref q_2, .int 0, .int 0, .int 0, .int 0])), (q_1, .inl (Y 1, 4, .inl (jw_l 0 []))), (q_2, .inl (Y 2, 96, .inr (.inl (jw_L 0 []))))] := hD
  refine lv_aload_n hx hb dX6_init_27 rfl (lv_at hl 0 rfl) ?_
  refine lv_aload_n hx hb dX6_init_28 rfl (lv_at hl 1 rfl) ?_
  refine va_getN (D := D) (ci := 5) (v := .ref h4) (C := RX2) (T := TX2) (N := 10) hx hb hts iw_X6_init__X2 hown hE.1 hP 0 rfl rfl 1 (by decide) (nf_X6_26 hE) (fun _ h9 => h9) rfl dX6_init_29 ?_
  refine va_putF (D := D) (ci := 9) (v := .ref h4) (C := RX6) (T := TX6) (N := 10) hx hb hts iw_X6_init__X6 tyX6 tyX6_ok nmX6 hown hE.1 hP hD hS 1 rfl rfl 1 (by decide) (hts _ mw_X6_init__9) (fun _ h9 => h9) rfl hin rfl (tyX6_ok 1 (by decide)) rfl rfl (Nat.le_of_ble_eq_true rfl) dX6_init_32 (fun H locs hP hD hS => ?_)
  have hP : va_P D vwCl [(h0, .inr (5, [.ref h3, .ref h4, .int 0, .int 0, .ref h5, .ref h6, .ref h7, .ref h8, .ref h9, .ref h10])), (h1, .inr (9, [.ref h3, .ref h4, .null, .null, .ref q_1, .ref q_2, .int 0, .int 0, .int 0, .int 0])), (q_1, .inl (Y 1, 4, .inl (jw_l 0 []))), (q_2, .inl (Y 2, 96, .inr (.inl (jw_L 0 []))))] H := hP
  have hD : va_D A [(h0, .inr (5, [.ref h3, .ref h4, .int 0, .int 0, .ref h5, .ref h6, .ref h7, .ref h8, .ref h9, .ref h10])), (h1, .inr (9, [.ref h3, .ref h4, .null, .null, .ref q_1, .ref q_2, .int 0, .int 0, .int 0, .int 0])), (q_1, .inl (Y 1, 4, .inl (jw_l 0 []))), (q_2, .inl (Y 2, 96, .inr (.inl (jw_L 0 []))))] := hD
  refine lv_aload_n hx hb dX6_init_35 rfl (lv_at hl 0 rfl) ?_
  refine lv_aload_n hx hb dX6_init_36 rfl (lv_at hl 2 rfl) ?_
  refine va_putF (D := D) (ci := 9) (v := .ref h2) (C := RX6) (T := TX6) (N := 10) hx hb hts iw_X6_init__X6 tyX6 tyX6_ok nmX6 hown hE.1 hP hD hS 1 rfl rfl 2 (by decide) (hts _ mw_X6_init__10) (fun _ h9 => h9) rfl hin rfl (tyX6_ok 2 (by decide)) rfl rfl (Nat.le_of_ble_eq_true rfl) dX6_init_37 (fun H locs hP hD hS => ?_)
  have hP : va_P D vwCl [(h0, .inr (5, [.ref h3, .ref h4, .int 0, .int 0, .ref h5, .ref h6, .ref h7, .ref h8, .ref h9, .ref h10])), (h1, .inr (9, [.ref h3, .ref h4, .ref h2, .null, .ref q_1, .ref q_2, .int 0, .int 0, .int 0, .int 0])), (q_1, .inl (Y 1, 4, .inl (jw_l 0 []))), (q_2, .inl (Y 2, 96, .inr (.inl (jw_L 0 []))))] H := hP
  have hD : va_D A [(h0, .inr (5, [.ref h3, .ref h4, .int 0, .int 0, .ref h5, .ref h6, .ref h7, .ref h8, .ref h9, .ref h10])), (h1, .inr (9, [.ref h3, .ref h4, .ref h2, .null, .ref q_1, .ref q_2, .int 0, .int 0, .int 0, .int 0])), (q_1, .inl (Y 1, 4, .inl (jw_l 0 []))), (q_2, .inl (Y 2, 96, .inr (.inl (jw_L 0 []))))] := hD
  refine lv_aload_n hx hb dX6_init_40 rfl (lv_at hl 0 rfl) ?_
  refine va_new (ci := 10) (fs := [.null, .int 0, .null, .null, .null, .null]) (C := RX7) (T := TX7) (N := 6) hx hb hts iw_X6_init__X7 tyX7 tyX7_ok hown (hts _ mw_X6_init__11) (hts _ mw_X6_init__12) (hts _ mw_X6_init__13) hE.1 hP hD hS hA rfl fd_X7 (Nat.le_of_ble_eq_true rfl) (Nat.le_of_ble_eq_true rfl) dX6_init_41 (fun q_3 H hP hD hS => ?_)
  have hP : va_P D vwCl [(h0, .inr (5, [.ref h3, .ref h4, .int 0, .int 0, .ref h5, .ref h6, .ref h7, .ref h8, .ref h9, .ref h10])), (h1, .inr (9, [.ref h3, .ref h4, .ref h2, .null, .ref q_1, .ref q_2, .int 0, .int 0, .int 0, .int 0])), (q_1, .inl (Y 1, 4, .inl (jw_l 0 []))), (q_2, .inl (Y 2, 96, .inr (.inl (jw_L 0 [])))), (q_3, .inr (10, [.null, .int 0, .null, .null, .null, .null]))] H := hP
  have hD : va_D A [(h0, .inr (5, [.ref h3, .ref h4, .int 0, .int 0, .ref h5, .ref h6, .ref h7, .ref h8, .ref h9, .ref h10])), (h1, .inr (9, [.ref h3, .ref h4, .ref h2, .null, .ref q_1, .ref q_2, .int 0, .int 0, .int 0, .int 0])), (q_1, .inl (Y 1, 4, .inl (jw_l 0 []))), (q_2, .inl (Y 2, 96, .inr (.inl (jw_L 0 [])))), (q_3, .inr (10, [.null, .int 0, .null, .null, .null, .null]))] := hD
  refine W.widen (k := 3) (n := 106) (Nat.le_of_ble_eq_true rfl) (Nat.le_of_ble_eq_true rfl) ?_
  refine lv_dup hx hb dX6_init_44 rfl ?_
  refine lv_aload_n hx hb dX6_init_45 rfl (lv_at hl 1 rfl) ?_
  refine va_getN (D := D) (ci := 5) (v := .ref h4) (C := RX2) (T := TX2) (N := 10) hx hb hts iw_X6_init__X2 hown hE.1 hP 0 rfl rfl 1 (by decide) (nf_X6_26 hE) (fun _ h9 => h9) rfl dX6_init_46 ?_
  refine jw_mv (wc := [(q_3, .inr (10, [.null, .int 0, .null, .null, .null, .null]))]) (cs := 7) (ss := 1238) (va_runI (As := [.ref h4]) (rest := [.ref q_3, .ref h1]) ⟨hx, hb, hml, hown, hts⟩ (k11_X7_init q_3 h4 H.size) (cwI 1 hts gX6_init_X7_init rfl rfl rfl (hts _ mw_X6_init__13) (hts _ mw_X6_init__15) (hts _ mw_X6_init__16) rfl ydS_X7_init ⟨Nat.le_of_ble_eq_true rfl, Nat.le_of_ble_eq_true rfl⟩) (jw_mpreS hP hD hS hA hE [false, false, false, false, true] rfl) rfl rfl hl.1 rfl (lv_room (Nat.le_of_ble_eq_true rfl)) dX6_init_49 ⟨Nat.le_of_ble_eq_true rfl, Nat.le_of_ble_eq_true rfl⟩) hP hD hS hA [false, false, false, false, true] rfl rfl rfl (fun w1 H locs hw9 hP hD hS => ?_)
  obtain ⟨q_4, q_5, q_6, q_7, rfl⟩ := hw9
  have hP : va_P D vwCl [(h0, .inr (5, [.ref h3, .ref h4, .int 0, .int 0, .ref h5, .ref h6, .ref h7, .ref h8, .ref h9, .ref h10])), (h1, .inr (9, [.ref h3, .ref h4, .ref h2, .null, .ref q_1, .ref q_2, .int 0, .int 0, .int 0, .int 0])), (q_1, .inl (Y 1, 4, .inl (jw_l 0 []))), (q_2, .inl (Y 2, 96, .inr (.inl (jw_L 0 [])))), (q_3, .inr (10, [.ref h4, .int 0, .ref q_4, .ref q_5, .ref q_6, .ref q_7])), (q_4, .inl (Y 1, 4, .inl (jw_l 0 []))), (q_5, .inl (Y 2, 24, .inr (.inl (jw_L 0 [])))), (q_6, .inl (Y 1, 64, .inl (jw_l 0 []))), (q_7, .inl (Y 2, 1040, .inr (.inl (jw_L 0 []))))] H := hP
  have hD : va_D A [(h0, .inr (5, [.ref h3, .ref h4, .int 0, .int 0, .ref h5, .ref h6, .ref h7, .ref h8, .ref h9, .ref h10])), (h1, .inr (9, [.ref h3, .ref h4, .ref h2, .null, .ref q_1, .ref q_2, .int 0, .int 0, .int 0, .int 0])), (q_1, .inl (Y 1, 4, .inl (jw_l 0 []))), (q_2, .inl (Y 2, 96, .inr (.inl (jw_L 0 [])))), (q_3, .inr (10, [.ref h4, .int 0, .ref q_4, .ref q_5, .ref q_6, .ref q_7])), (q_4, .inl (Y 1, 4, .inl (jw_l 0 []))), (q_5, .inl (Y 2, 24, .inr (.inl (jw_L 0 [])))), (q_6, .inl (Y 1, 64, .inl (jw_l 0 []))), (q_7, .inl (Y 2, 1040, .inr (.inl (jw_L 0 []))))] := hD
  refine va_putF (D := D) (ci := 9) (v := .ref q_3) (C := RX6) (T := TX6) (N := 10) hx hb hts iw_X6_init__X6 tyX6 tyX6_ok nmX6 hown hE.1 hP hD hS 1 rfl rfl 3 (by decide) (hts _ mw_X6_init__14) (fun _ h9 => h9) rfl hin rfl (tyX6_ok 3 (by decide)) rfl rfl (Nat.le_of_ble_eq_true rfl) dX6_init_52 (fun H locs hP hD hS => ?_)
  have hP : va_P D vwCl [(h0, .inr (5, [.ref h3, .ref h4, .int 0, .int 0, .ref h5, .ref h6, .ref h7, .ref h8, .ref h9, .ref h10])), (h1, .inr (9, [.ref h3, .ref h4, .ref h2, .ref q_3, .ref q_1, .ref q_2, .int 0, .int 0, .int 0, .int 0])), (q_1, .inl (Y 1, 4, .inl (jw_l 0 []))), (q_2, .inl (Y 2, 96, .inr (.inl (jw_L 0 [])))), (q_3, .inr (10, [.ref h4, .int 0, .ref q_4, .ref q_5, .ref q_6, .ref q_7])), (q_4, .inl (Y 1, 4, .inl (jw_l 0 []))), (q_5, .inl (Y 2, 24, .inr (.inl (jw_L 0 [])))), (q_6, .inl (Y 1, 64, .inl (jw_l 0 []))), (q_7, .inl (Y 2, 1040, .inr (.inl (jw_L 0 []))))] H := hP
  have hD : va_D A [(h0, .inr (5, [.ref h3, .ref h4, .int 0, .int 0, .ref h5, .ref h6, .ref h7, .ref h8, .ref h9, .ref h10])), (h1, .inr (9, [.ref h3, .ref h4, .ref h2, .ref q_3, .ref q_1, .ref q_2, .int 0, .int 0, .int 0, .int 0])), (q_1, .inl (Y 1, 4, .inl (jw_l 0 []))), (q_2, .inl (Y 2, 96, .inr (.inl (jw_L 0 [])))), (q_3, .inr (10, [.ref h4, .int 0, .ref q_4, .ref q_5, .ref q_6, .ref q_7])), (q_4, .inl (Y 1, 4, .inl (jw_l 0 []))), (q_5, .inl (Y 2, 24, .inr (.inl (jw_L 0 [])))), (q_6, .inl (Y 1, 64, .inl (jw_l 0 []))), (q_7, .inl (Y 2, 1040, .inr (.inl (jw_L 0 []))))] := hD
  refine W.widen (k := 7) (n := 1238) (Nat.le_of_ble_eq_true rfl) (Nat.le_of_ble_eq_true rfl) ?_
  exact jw_vret hx hb hr hlocks ⟨q_1, q_2, q_3, q_4, q_5, q_6, q_7, rfl⟩ hP hD hS dX6_init_55
set_option maxHeartbeats 4000000 in
set_option maxRecDepth 100000 in
theorem k13_X1_init {l : Launch} {D : va_G} {Y : Nat → ClassId} {tt : Nat → Nat} (h0 : Nat) (sz : Nat) : Met l yX1_init wsX1_init ({ frames := 1, cells := 2, slots := 192, locals := 12 }) (jw_Pc D Y tt [.ref h0] [(h0, .inr (4, [.null, .null, .long 0, .int 0]))] sz) (jw_Qv D (fun w => ∃ (q_1 q_2 : Nat), w = [(h0, .inr (4, [.ref q_1, .ref q_2, .long 0, .int 0])), (q_1, .inl (Y 2, 144, .inr (.inl (jw_L 0 [])))), (q_2, .inl (Y 2, 48, .inr (.inl (jw_L 0 []))))]) (va_A [(h0, .inr (4, [.null, .null, .long 0, .int 0]))] sz)) 2 192 (va_A [(h0, .inr (4, [.null, .null, .long 0, .int 0]))] sz) := by
  refine jw_met (fun A => jw_Qv D (fun w => ∃ (q_1 q_2 : Nat), w = [(h0, .inr (4, [.ref q_1, .ref q_2, .long 0, .int 0])), (q_1, .inl (Y 2, 144, .inr (.inl (jw_L 0 [])))), (q_2, .inl (Y 2, 48, .inr (.inl (jw_L 0 []))))]) A) (cc := cX1_init) (maxL := 1) (ret := none) pn_X1_init rfl rfl ?_
  intro p e s m below meth c A H locs ls hx hb hml hr hts hown hlocks hin hP hD hA hS hE hl
  have hown : s.vm.findClass RX1 = some m.cls := hown
  have hl : lv_has ls 1 [(0, .ref h0)] := hl
  refine lv_aload_n hx hb dX1_init_0 rfl (lv_at hl 0 rfl) ?_
  refine W.objInit hx hb hown (hts _ mw_X1_init__1) (hts _ mw_X1_init__2) (hts _ mw_X1_init__3) rfl (by rw [hml]; exact hl.1) rfl dX1_init_1 (Nat.le_of_ble_eq_true rfl) (Nat.le_of_ble_eq_true rfl) ?_
  refine W.eq (g2 := F0 m 4 ls []) rfl ?_
  refine lv_aload_n hx hb dX1_init_4 rfl (lv_at hl 0 rfl) ?_
  refine lv_sipush (v := 144) hx hb dX1_init_5 (by decide +kernel) ?_
  refine jw_newa (atype := .long) (ty := .long) (cA := Y 2) (a0 := (144, .inr (.inl (jw_L 0 [])))) (N' := 144) hx hb 2 (hts _ mw_X1_init__4) rfl hE rfl hP hD hS hA (jw_a0J 144) (by decide +kernel) (by decide +kernel) rfl rfl rfl dX1_init_8 (fun q_1 H hP hD hS => ?_)
  have hP : va_P D vwCl [(h0, .inr (4, [.null, .null, .long 0, .int 0])), (q_1, .inl (Y 2, 144, .inr (.inl (jw_L 0 []))))] H := hP
  have hD : va_D A [(h0, .inr (4, [.null, .null, .long 0, .int 0])), (q_1, .inl (Y 2, 144, .inr (.inl (jw_L 0 []))))] := hD
  refine W.widen (k := 1) (n := 144) (Nat.le_of_ble_eq_true rfl) (Nat.le_of_ble_eq_true rfl) ?_
  refine va_putF (D := D) (ci := 4) (v := .ref q_1) (C := RX1) (T := TX1) (N := 4) hx hb hts iw_X1_init__X1 tyX1 tyX1_ok nmX1 hown hE.1 hP hD hS 0 rfl rfl 0 (by decide) (hts _ mw_X1_init__5) (fun _ h9 => h9) rfl hin rfl (tyX1_ok 0 (by decide)) rfl rfl (Nat.le_of_ble_eq_true rfl) dX1_init_10 (fun H locs hP hD hS => ?_)
  have hP : va_P D vwCl [(h0, .inr (4, [.ref q_1, .null, .long 0, .int 0])), (q_1, .inl (Y 2, 144, .inr (.inl (jw_L 0 []))))] H := hP
  have hD : va_D A [(h0, .inr (4, [.ref q_1, .null, .long 0, .int 0])), (q_1, .inl (Y 2, 144, .inr (.inl (jw_L 0 []))))] := hD
  refine lv_aload_n hx hb dX1_init_13 rfl (lv_at hl 0 rfl) ?_
  refine lv_bipush (v := 48) hx hb dX1_init_14 (by decide +kernel) ?_
  refine jw_newa (atype := .long) (ty := .long) (cA := Y 2) (a0 := (48, .inr (.inl (jw_L 0 [])))) (N' := 48) hx hb 2 (hts _ mw_X1_init__4) rfl hE rfl hP hD hS hA (jw_a0J 48) (by decide +kernel) (by decide +kernel) rfl rfl rfl dX1_init_16 (fun q_2 H hP hD hS => ?_)
  have hP : va_P D vwCl [(h0, .inr (4, [.ref q_1, .null, .long 0, .int 0])), (q_1, .inl (Y 2, 144, .inr (.inl (jw_L 0 [])))), (q_2, .inl (Y 2, 48, .inr (.inl (jw_L 0 []))))] H := hP
  have hD : va_D A [(h0, .inr (4, [.ref q_1, .null, .long 0, .int 0])), (q_1, .inl (Y 2, 144, .inr (.inl (jw_L 0 [])))), (q_2, .inl (Y 2, 48, .inr (.inl (jw_L 0 []))))] := hD
  refine W.widen (k := 2) (n := 192) (Nat.le_of_ble_eq_true rfl) (Nat.le_of_ble_eq_true rfl) ?_
  refine va_putF (D := D) (ci := 4) (v := .ref q_2) (C := RX1) (T := TX1) (N := 4) hx hb hts iw_X1_init__X1 tyX1 tyX1_ok nmX1 hown hE.1 hP hD hS 0 rfl rfl 1 (by decide) (hts _ mw_X1_init__6) (fun _ h9 => h9) rfl hin rfl (tyX1_ok 1 (by decide)) rfl rfl (Nat.le_of_ble_eq_true rfl) dX1_init_18 (fun H locs hP hD hS => ?_)
  have hP : va_P D vwCl [(h0, .inr (4, [.ref q_1, .ref q_2, .long 0, .int 0])), (q_1, .inl (Y 2, 144, .inr (.inl (jw_L 0 [])))), (q_2, .inl (Y 2, 48, .inr (.inl (jw_L 0 []))))] H := hP
  have hD : va_D A [(h0, .inr (4, [.ref q_1, .ref q_2, .long 0, .int 0])), (q_1, .inl (Y 2, 144, .inr (.inl (jw_L 0 [])))), (q_2, .inl (Y 2, 48, .inr (.inl (jw_L 0 []))))] := hD
  refine W.widen (k := 2) (n := 192) (Nat.le_of_ble_eq_true rfl) (Nat.le_of_ble_eq_true rfl) ?_
  exact jw_vret hx hb hr hlocks ⟨q_1, q_2, rfl⟩ hP hD hS dX1_init_21
set_option maxHeartbeats 4000000 in
set_option maxRecDepth 100000 in
theorem k14_X0_init {l : Launch} {D : va_G} {Y : Nat → ClassId} {tt : Nat → Nat} (h0 h1 h2 h3 h4 h5 h6 h7 h8 h9 : Nat) (sz : Nat) : Met l yX0_init wsX0_init ({ frames := 1, cells := 1, slots := 144, locals := 12 }) (jw_Pc D Y tt [.ref h1, .ref h0] [(h0, .inr (5, [.ref h2, .ref h3, .int 0, .int 0, .ref h4, .ref h5, .ref h6, .ref h7, .ref h8, .ref h9])), (h1, .inr (3, [.null, .null, .null, .null, .int 0]))] sz) (jw_Qv D (fun w => ∃ (q_1 : Nat), w = [(h0, .inr (5, [.ref h2, .ref h3, .int 0, .int 0, .ref h4, .ref h5, .ref h6, .ref h7, .ref h8, .ref h9])), (h1, .inr (3, [.ref h0, .ref h2, .ref h3, .ref q_1, .int 0])), (q_1, .inl (Y 1, 144, .inl (jw_l 0 [])))]) (va_A [(h0, .inr (5, [.ref h2, .ref h3, .int 0, .int 0, .ref h4, .ref h5, .ref h6, .ref h7, .ref h8, .ref h9])), (h1, .inr (3, [.null, .null, .null, .null, .int 0]))] sz)) 1 144 (va_A [(h0, .inr (5, [.ref h2, .ref h3, .int 0, .int 0, .ref h4, .ref h5, .ref h6, .ref h7, .ref h8, .ref h9])), (h1, .inr (3, [.null, .null, .null, .null, .int 0]))] sz) := by
  refine jw_met (fun A => jw_Qv D (fun w => ∃ (q_1 : Nat), w = [(h0, .inr (5, [.ref h2, .ref h3, .int 0, .int 0, .ref h4, .ref h5, .ref h6, .ref h7, .ref h8, .ref h9])), (h1, .inr (3, [.ref h0, .ref h2, .ref h3, .ref q_1, .int 0])), (q_1, .inl (Y 1, 144, .inl (jw_l 0 [])))]) A) (cc := cX0_init) (maxL := 2) (ret := none) pn_X0_init rfl rfl ?_
  intro p e s m below meth c A H locs ls hx hb hml hr hts hown hlocks hin hP hD hA hS hE hl
  have hown : s.vm.findClass RX0 = some m.cls := hown
  have hl : lv_has ls 2 [(0, .ref h1), (1, .ref h0)] := hl
  refine lv_aload_n hx hb dX0_init_0 rfl (lv_at hl 0 rfl) ?_
  refine W.objInit hx hb hown (hts _ mw_X0_init__1) (hts _ mw_X0_init__2) (hts _ mw_X0_init__3) rfl (by rw [hml]; exact hl.1) rfl dX0_init_1 (Nat.le_of_ble_eq_true rfl) (Nat.le_of_ble_eq_true rfl) ?_
  refine W.eq (g2 := F0 m 4 ls []) rfl ?_
  refine lv_aload_n hx hb dX0_init_4 rfl (lv_at hl 0 rfl) ?_
  refine lv_sipush (v := 144) hx hb dX0_init_5 (by decide +kernel) ?_
  refine jw_newa (atype := .int) (ty := .int) (cA := Y 1) (a0 := (144, .inl (jw_l 0 []))) (N' := 144) hx hb 1 (hts _ mw_X0_init__4) rfl hE rfl hP hD hS hA (jw_a0I 144) (by decide +kernel) (by decide +kernel) rfl rfl rfl dX0_init_8 (fun q_1 H hP hD hS => ?_)
  have hP : va_P D vwCl [(h0, .inr (5, [.ref h2, .ref h3, .int 0, .int 0, .ref h4, .ref h5, .ref h6, .ref h7, .ref h8, .ref h9])), (h1, .inr (3, [.null, .null, .null, .null, .int 0])), (q_1, .inl (Y 1, 144, .inl (jw_l 0 [])))] H := hP
  have hD : va_D A [(h0, .inr (5, [.ref h2, .ref h3, .int 0, .int 0, .ref h4, .ref h5, .ref h6, .ref h7, .ref h8, .ref h9])), (h1, .inr (3, [.null, .null, .null, .null, .int 0])), (q_1, .inl (Y 1, 144, .inl (jw_l 0 [])))] := hD
  refine W.widen (k := 1) (n := 144) (Nat.le_of_ble_eq_true rfl) (Nat.le_of_ble_eq_true rfl) ?_
  refine va_put (D := D) (ci := 3) (v := .ref q_1) (C := RX0) (T := TX0) (N := 5) hx hb hts iw_X0_init__X0 tyX0 tyX0_ok nmX0 hown hE.1 hP hD hS 1 rfl rfl 3 (by decide) (hts _ mw_X0_init__5) (fun _ h9 => h9) rfl (tyX0_ok 3 (by decide)) rfl rfl (Nat.le_of_ble_eq_true rfl) dX0_init_10 (fun H locs hP hD hS => ?_)
  have hP : va_P D vwCl [(h0, .inr (5, [.ref h2, .ref h3, .int 0, .int 0, .ref h4, .ref h5, .ref h6, .ref h7, .ref h8, .ref h9])), (h1, .inr (3, [.null, .null, .null, .ref q_1, .int 0])), (q_1, .inl (Y 1, 144, .inl (jw_l 0 [])))] H := hP
  have hD : va_D A [(h0, .inr (5, [.ref h2, .ref h3, .int 0, .int 0, .ref h4, .ref h5, .ref h6, .ref h7, .ref h8, .ref h9])), (h1, .inr (3, [.null, .null, .null, .ref q_1, .int 0])), (q_1, .inl (Y 1, 144, .inl (jw_l 0 [])))] := hD
  refine lv_aload_n hx hb dX0_init_13 rfl (lv_at hl 0 rfl) ?_
  refine lv_aload_n hx hb dX0_init_14 rfl (lv_at hl 1 rfl) ?_
  refine va_putF (D := D) (ci := 3) (v := .ref h0) (C := RX0) (T := TX0) (N := 5) hx hb hts iw_X0_init__X0 tyX0 tyX0_ok nmX0 hown hE.1 hP hD hS 1 rfl rfl 0 (by decide) (hts _ mw_X0_init__6) (fun _ h9 => h9) rfl hin rfl (tyX0_ok 0 (by decide)) rfl rfl (Nat.le_of_ble_eq_true rfl) dX0_init_15 (fun H locs hP hD hS => ?_)
  have hP : va_P D vwCl [(h0, .inr (5, [.ref h2, .ref h3, .int 0, .int 0, .ref h4, .ref h5, .ref h6, .ref h7, .ref h8, .ref h9])), (h1, .inr (3, [.ref h0, .null, .null, .ref q_1, .int 0])), (q_1, .inl (Y 1, 144, .inl (jw_l 0 [])))] H := hP
  have hD : va_D A [(h0, .inr (5, [.ref h2, .ref h3, .int 0, .int 0, .ref h4, .ref h5, .ref h6, .ref h7, .ref h8, .ref h9])), (h1, .inr (3, [.ref h0, .null, .null, .ref q_1, .int 0])), (q_1, .inl (Y 1, 144, .inl (jw_l 0 [])))] := hD
  refine lv_aload_n hx hb dX0_init_18 rfl (lv_at hl 0 rfl) ?_
  refine lv_aload_n hx hb dX0_init_19 rfl (lv_at hl 1 rfl) ?_
  refine va_getN (D := D) (ci := 5) (v := .ref h2) (C := RX2) (T := TX2) (N := 10) hx hb hts iw_X0_init__X2 hown hE.1 hP 0 rfl rfl 0 (by decide) (nf_X0_19 hE) (fun _ h9 => h9) rfl dX0_init_20 ?_
  refine va_putF (D := D) (ci := 3) (v := .ref h2) (C := RX0) (T := TX0) (N := 5) hx hb hts iw_X0_init__X0 tyX0 tyX0_ok nmX0 hown hE.1 hP hD hS 1 rfl rfl 1 (by decide) (hts _ mw_X0_init__7) (fun _ h9 => h9) rfl hin rfl (tyX0_ok 1 (by decide)) rfl rfl (Nat.le_of_ble_eq_true rfl) dX0_init_23 (fun H locs hP hD hS => ?_)
  have hP : va_P D vwCl [(h0, .inr (5, [.ref h2, .ref h3, .int 0, .int 0, .ref h4, .ref h5, .ref h6, .ref h7, .ref h8, .ref h9])), (h1, .inr (3, [.ref h0, .ref h2, .null, .ref q_1, .int 0])), (q_1, .inl (Y 1, 144, .inl (jw_l 0 [])))] H := hP
  have hD : va_D A [(h0, .inr (5, [.ref h2, .ref h3, .int 0, .int 0, .ref h4, .ref h5, .ref h6, .ref h7, .ref h8, .ref h9])), (h1, .inr (3, [.ref h0, .ref h2, .null, .ref q_1, .int 0])), (q_1, .inl (Y 1, 144, .inl (jw_l 0 [])))] := hD
  refine lv_aload_n hx hb dX0_init_26 rfl (lv_at hl 0 rfl) ?_
  refine lv_aload_n hx hb dX0_init_27 rfl (lv_at hl 1 rfl) ?_
  refine va_getN (D := D) (ci := 5) (v := .ref h3) (C := RX2) (T := TX2) (N := 10) hx hb hts iw_X0_init__X2 hown hE.1 hP 0 rfl rfl 1 (by decide) (nf_X0_26 hE) (fun _ h9 => h9) rfl dX0_init_28 ?_
  refine va_putF (D := D) (ci := 3) (v := .ref h3) (C := RX0) (T := TX0) (N := 5) hx hb hts iw_X0_init__X0 tyX0 tyX0_ok nmX0 hown hE.1 hP hD hS 1 rfl rfl 2 (by decide) (hts _ mw_X0_init__8) (fun _ h9 => h9) rfl hin rfl (tyX0_ok 2 (by decide)) rfl rfl (Nat.le_of_ble_eq_true rfl) dX0_init_31 (fun H locs hP hD hS => ?_)
  have hP : va_P D vwCl [(h0, .inr (5, [.ref h2, .ref h3, .int 0, .int 0, .ref h4, .ref h5, .ref h6, .ref h7, .ref h8, .ref h9])), (h1, .inr (3, [.ref h0, .ref h2, .ref h3, .ref q_1, .int 0])), (q_1, .inl (Y 1, 144, .inl (jw_l 0 [])))] H := hP
  have hD : va_D A [(h0, .inr (5, [.ref h2, .ref h3, .int 0, .int 0, .ref h4, .ref h5, .ref h6, .ref h7, .ref h8, .ref h9])), (h1, .inr (3, [.ref h0, .ref h2, .ref h3, .ref q_1, .int 0])), (q_1, .inl (Y 1, 144, .inl (jw_l 0 [])))] := hD
  refine W.widen (k := 1) (n := 144) (Nat.le_of_ble_eq_true rfl) (Nat.le_of_ble_eq_true rfl) ?_
  exact jw_vret hx hb hr hlocks ⟨q_1, rfl⟩ hP hD hS dX0_init_34
set_option maxHeartbeats 4000000 in
set_option maxRecDepth 100000 in
theorem k15_X9_init {l : Launch} {D : va_G} {Y : Nat → ClassId} {tt : Nat → Nat} (h0 h1 h2 h3 h4 h5 h6 h7 h8 h9 : Nat) (sz : Nat) : Met l yX9_init wsX9_init ({ frames := 1, cells := 2, slots := 2, locals := 12 }) (jw_Pc D Y tt [.ref h1, .ref h0] [(h0, .inr (5, [.ref h2, .ref h3, .int 0, .int 0, .ref h4, .ref h5, .ref h6, .ref h7, .ref h8, .ref h9])), (h1, .inr (12, [.null, .null, .null, .null, .int 0, .int 0, .int 0, .int 0, .int 0, .int 0]))] sz) (jw_Qv D (fun w => ∃ (q_1 q_2 : Nat), w = [(h0, .inr (5, [.ref h2, .ref h3, .int 0, .int 0, .ref h4, .ref h5, .ref h6, .ref h7, .ref h8, .ref h9])), (h1, .inr (12, [.ref h0, .ref h3, .ref q_1, .ref q_2, .int (-1), .int 0, .int 0, .int 0, .int 0, .int 0])), (q_1, .inl (Y 1, 1, .inl (jw_l 0 []))), (q_2, .inl (Y 1, 1, .inl (jw_l 0 [])))]) (va_A [(h0, .inr (5, [.ref h2, .ref h3, .int 0, .int 0, .ref h4, .ref h5, .ref h6, .ref h7, .ref h8, .ref h9])), (h1, .inr (12, [.null, .null, .null, .null, .int 0, .int 0, .int 0, .int 0, .int 0, .int 0]))] sz)) 2 2 (va_A [(h0, .inr (5, [.ref h2, .ref h3, .int 0, .int 0, .ref h4, .ref h5, .ref h6, .ref h7, .ref h8, .ref h9])), (h1, .inr (12, [.null, .null, .null, .null, .int 0, .int 0, .int 0, .int 0, .int 0, .int 0]))] sz) := by
  refine jw_met (fun A => jw_Qv D (fun w => ∃ (q_1 q_2 : Nat), w = [(h0, .inr (5, [.ref h2, .ref h3, .int 0, .int 0, .ref h4, .ref h5, .ref h6, .ref h7, .ref h8, .ref h9])), (h1, .inr (12, [.ref h0, .ref h3, .ref q_1, .ref q_2, .int (-1), .int 0, .int 0, .int 0, .int 0, .int 0])), (q_1, .inl (Y 1, 1, .inl (jw_l 0 []))), (q_2, .inl (Y 1, 1, .inl (jw_l 0 [])))]) A) (cc := cX9_init) (maxL := 2) (ret := none) pn_X9_init rfl rfl ?_
  intro p e s m below meth c A H locs ls hx hb hml hr hts hown hlocks hin hP hD hA hS hE hl
  have hown : s.vm.findClass RX9 = some m.cls := hown
  have hl : lv_has ls 2 [(0, .ref h1), (1, .ref h0)] := hl
  refine lv_aload_n hx hb dX9_init_0 rfl (lv_at hl 0 rfl) ?_
  refine W.objInit hx hb hown (hts _ mw_X9_init__1) (hts _ mw_X9_init__2) (hts _ mw_X9_init__3) rfl (by rw [hml]; exact hl.1) rfl dX9_init_1 (Nat.le_of_ble_eq_true rfl) (Nat.le_of_ble_eq_true rfl) ?_
  refine W.eq (g2 := F0 m 4 ls []) rfl ?_
  refine lv_aload_n hx hb dX9_init_4 rfl (lv_at hl 0 rfl) ?_
  refine lv_iconst (v := 1) hx hb dX9_init_5 (by decide +kernel) ?_
  refine jw_newa (atype := .int) (ty := .int) (cA := Y 1) (a0 := (1, .inl (jw_l 0 []))) (N' := 1) hx hb 1 (hts _ mw_X9_init__4) rfl hE rfl hP hD hS hA (jw_a0I 1) (by decide +kernel) (by decide +kernel) rfl rfl rfl dX9_init_6 (fun q_1 H hP hD hS => ?_)
  have hP : va_P D vwCl [(h0, .inr (5, [.ref h2, .ref h3, .int 0, .int 0, .ref h4, .ref h5, .ref h6, .ref h7, .ref h8, .ref h9])), (h1, .inr (12, [.null, .null, .null, .null, .int 0, .int 0, .int 0, .int 0, .int 0, .int 0])), (q_1, .inl (Y 1, 1, .inl (jw_l 0 [])))] H := hP
  have hD : va_D A [(h0, .inr (5, [.ref h2, .ref h3, .int 0, .int 0, .ref h4, .ref h5, .ref h6, .ref h7, .ref h8, .ref h9])), (h1, .inr (12, [.null, .null, .null, .null, .int 0, .int 0, .int 0, .int 0, .int 0, .int 0])), (q_1, .inl (Y 1, 1, .inl (jw_l 0 [])))] := hD
  refine W.widen (k := 1) (n := 1) (Nat.le_of_ble_eq_true rfl) (Nat.le_of_ble_eq_true rfl) ?_
  refine va_put (D := D) (ci := 12) (v := .ref q_1) (C := RX9) (T := TX9) (N := 10) hx hb hts iw_X9_init__X9 tyX9 tyX9_ok nmX9 hown hE.1 hP hD hS 1 rfl rfl 2 (by decide) (hts _ mw_X9_init__5) (fun _ h9 => h9) rfl (tyX9_ok 2 (by decide)) rfl rfl (Nat.le_of_ble_eq_true rfl) dX9_init_8 (fun H locs hP hD hS => ?_)
  have hP : va_P D vwCl [(h0, .inr (5, [.ref h2, .ref h3, .int 0, .int 0, .ref h4, .ref h5, .ref h6, .ref h7, .ref h8, .ref h9])), (h1, .inr (12, [.null, .null, .ref q_1, .null, .int 0, .int 0, .int 0, .int 0, .int 0, .int 0])), (q_1, .inl (Y 1, 1, .inl (jw_l 0 [])))] H := hP
  have hD : va_D A [(h0, .inr (5, [.ref h2, .ref h3, .int 0, .int 0, .ref h4, .ref h5, .ref h6, .ref h7, .ref h8, .ref h9])), (h1, .inr (12, [.null, .null, .ref q_1, .null, .int 0, .int 0, .int 0, .int 0, .int 0, .int 0])), (q_1, .inl (Y 1, 1, .inl (jw_l 0 [])))] := hD
  refine lv_aload_n hx hb dX9_init_11 rfl (lv_at hl 0 rfl) ?_
  refine lv_iconst (v := 1) hx hb dX9_init_12 (by decide +kernel) ?_
  refine jw_newa (atype := .int) (ty := .int) (cA := Y 1) (a0 := (1, .inl (jw_l 0 []))) (N' := 1) hx hb 1 (hts _ mw_X9_init__4) rfl hE rfl hP hD hS hA (jw_a0I 1) (by decide +kernel) (by decide +kernel) rfl rfl rfl dX9_init_13 (fun q_2 H hP hD hS => ?_)
  have hP : va_P D vwCl [(h0, .inr (5, [.ref h2, .ref h3, .int 0, .int 0, .ref h4, .ref h5, .ref h6, .ref h7, .ref h8, .ref h9])), (h1, .inr (12, [.null, .null, .ref q_1, .null, .int 0, .int 0, .int 0, .int 0, .int 0, .int 0])), (q_1, .inl (Y 1, 1, .inl (jw_l 0 []))), (q_2, .inl (Y 1, 1, .inl (jw_l 0 [])))] H := hP
  have hD : va_D A [(h0, .inr (5, [.ref h2, .ref h3, .int 0, .int 0, .ref h4, .ref h5, .ref h6, .ref h7, .ref h8, .ref h9])), (h1, .inr (12, [.null, .null, .ref q_1, .null, .int 0, .int 0, .int 0, .int 0, .int 0, .int 0])), (q_1, .inl (Y 1, 1, .inl (jw_l 0 []))), (q_2, .inl (Y 1, 1, .inl (jw_l 0 [])))] := hD
  refine W.widen (k := 2) (n := 2) (Nat.le_of_ble_eq_true rfl) (Nat.le_of_ble_eq_true rfl) ?_
  refine va_put (D := D) (ci := 12) (v := .ref q_2) (C := RX9) (T := TX9) (N := 10) hx hb hts iw_X9_init__X9 tyX9 tyX9_ok nmX9 hown hE.1 hP hD hS 1 rfl rfl 3 (by decide) (hts _ mw_X9_init__6) (fun _ h9 => h9) rfl (tyX9_ok 3 (by decide)) rfl rfl (Nat.le_of_ble_eq_true rfl) dX9_init_15 (fun H locs hP hD hS => ?_)
  have hP : va_P D vwCl [(h0, .inr (5, [.ref h2, .ref h3, .int 0, .int 0, .ref h4, .ref h5, .ref h6, .ref h7, .ref h8, .ref h9])), (h1, .inr (12, [.null, .null, .ref q_1, .ref q_2, .int 0, .int 0, .int 0, .int 0, .int 0, .int 0])), (q_1, .inl (Y 1, 1, .inl (jw_l 0 []))), (q_2, .inl (Y 1, 1, .inl (jw_l 0 [])))] H := hP
  have hD : va_D A [(h0, .inr (5, [.ref h2, .ref h3, .int 0, .int 0, .ref h4, .ref h5, .ref h6, .ref h7, .ref h8, .ref h9])), (h1, .inr (12, [.null, .null, .ref q_1, .ref q_2, .int 0, .int 0, .int 0, .int 0, .int 0, .int 0])), (q_1, .inl (Y 1, 1, .inl (jw_l 0 []))), (q_2, .inl (Y 1, 1, .inl (jw_l 0 [])))] := hD
  refine lv_aload_n hx hb dX9_init_18 rfl (lv_at hl 0 rfl) ?_
  refine lv_iconst (v := (-1)) hx hb dX9_init_19 (by decide +kernel) ?_
  refine va_put (D := D) (ci := 12) (v := .int (-1)) (C := RX9) (T := TX9) (N := 10) hx hb hts iw_X9_init__X9 tyX9 tyX9_ok nmX9 hown hE.1 hP hD hS 1 rfl rfl 4 (by decide) (hts _ mw_X9_init__7) (fun _ h9 => h9) rfl (tyX9_ok 4 (by decide)) rfl rfl (Nat.le_of_ble_eq_true rfl) dX9_init_20 (fun H locs hP hD hS => ?_)
  have hP : va_P D vwCl [(h0, .inr (5, [.ref h2, .ref h3, .int 0, .int 0, .ref h4, .ref h5, .ref h6, .ref h7, .ref h8, .ref h9])), (h1, .inr (12, [.null, .null, .ref q_1, .ref q_2, .int (-1), .int 0, .int 0, .int 0, .int 0, .int 0])), (q_1, .inl (Y 1, 1, .inl (jw_l 0 []))), (q_2, .inl (Y 1, 1, .inl (jw_l 0 [])))] H := hP
  have hD : va_D A [(h0, .inr (5, [.ref h2, .ref h3, .int 0, .int 0, .ref h4, .ref h5, .ref h6, .ref h7, .ref h8, .ref h9])), (h1, .inr (12, [.null, .null, .ref q_1, .ref q_2, .int (-1), .int 0, .int 0, .int 0, .int 0, .int 0])), (q_1, .inl (Y 1, 1, .inl (jw_l 0 []))), (q_2, .inl (Y 1, 1, .inl (jw_l 0 [])))] := hD
  refine lv_aload_n hx hb dX9_init_23 rfl (lv_at hl 0 rfl) ?_
  refine lv_aload_n hx hb dX9_init_24 rfl (lv_at hl 1 rfl) ?_
  refine va_putF (D := D) (ci := 12) (v := .ref h0) (C := RX9) (T := TX9) (N := 10) hx hb hts iw_X9_init__X9 tyX9 tyX9_ok nmX9 hown hE.1 hP hD hS 1 rfl rfl 0 (by decide) (hts _ mw_X9_init__8) (fun _ h9 => h9) rfl hin rfl (tyX9_ok 0 (by decide)) rfl rfl (Nat.le_of_ble_eq_true rfl) dX9_init_25 (fun H locs hP hD hS => ?_)
  have hP : va_P D vwCl [(h0, .inr (5, [.ref h2, .ref h3, .int 0, .int 0, .ref h4, .ref h5, .ref h6, .ref h7, .ref h8, .ref h9])), (h1, .inr (12, [.ref h0, .null, .ref q_1, .ref q_2, .int (-1), .int 0, .int 0, .int 0, .int 0, .int 0])), (q_1, .inl (Y 1, 1, .inl (jw_l 0 []))), (q_2, .inl (Y 1, 1, .inl (jw_l 0 [])))] H := hP
  have hD : va_D A [(h0, .inr (5, [.ref h2, .ref h3, .int 0, .int 0, .ref h4, .ref h5, .ref h6, .ref h7, .ref h8, .ref h9])), (h1, .inr (12, [.ref h0, .null, .ref q_1, .ref q_2, .int (-1), .int 0, .int 0, .int 0, .int 0, .int 0])), (q_1, .inl (Y 1, 1, .inl (jw_l 0 []))), (q_2, .inl (Y 1, 1, .inl (jw_l 0 [])))] := hD
  refine lv_aload_n hx hb dX9_init_28 rfl (lv_at hl 0 rfl) ?_
  refine lv_aload_n hx hb dX9_init_29 rfl (lv_at hl 1 rfl) ?_
  refine va_getN (D := D) (ci := 5) (v := .ref h3) (C := RX2) (T := TX2) (N := 10) hx hb hts iw_X9_init__X2 hown hE.1 hP 0 rfl rfl 1 (by decide) (nf_X9_26 hE) (fun _ h9 => h9) rfl dX9_init_30 ?_
  refine va_putF (D := D) (ci := 12) (v := .ref h3) (C := RX9) (T := TX9) (N := 10) hx hb hts iw_X9_init__X9 tyX9 tyX9_ok nmX9 hown hE.1 hP hD hS 1 rfl rfl 1 (by decide) (hts _ mw_X9_init__9) (fun _ h9 => h9) rfl hin rfl (tyX9_ok 1 (by decide)) rfl rfl (Nat.le_of_ble_eq_true rfl) dX9_init_33 (fun H locs hP hD hS => ?_)
  have hP : va_P D vwCl [(h0, .inr (5, [.ref h2, .ref h3, .int 0, .int 0, .ref h4, .ref h5, .ref h6, .ref h7, .ref h8, .ref h9])), (h1, .inr (12, [.ref h0, .ref h3, .ref q_1, .ref q_2, .int (-1), .int 0, .int 0, .int 0, .int 0, .int 0])), (q_1, .inl (Y 1, 1, .inl (jw_l 0 []))), (q_2, .inl (Y 1, 1, .inl (jw_l 0 [])))] H := hP
  have hD : va_D A [(h0, .inr (5, [.ref h2, .ref h3, .int 0, .int 0, .ref h4, .ref h5, .ref h6, .ref h7, .ref h8, .ref h9])), (h1, .inr (12, [.ref h0, .ref h3, .ref q_1, .ref q_2, .int (-1), .int 0, .int 0, .int 0, .int 0, .int 0])), (q_1, .inl (Y 1, 1, .inl (jw_l 0 []))), (q_2, .inl (Y 1, 1, .inl (jw_l 0 [])))] := hD
  refine W.widen (k := 2) (n := 2) (Nat.le_of_ble_eq_true rfl) (Nat.le_of_ble_eq_true rfl) ?_
  exact jw_vret hx hb hr hlocks ⟨q_1, q_2, rfl⟩ hP hD hS dX9_init_36
set_option maxHeartbeats 4000000 in
set_option maxRecDepth 100000 in
theorem k16_X4_readRow {l : Launch} {D : va_G} {Y : Nat → ClassId} {tt : Nat → Nat} (h0 : Nat) (sz : Nat) : Met l yX4_readRow wsX4_readRow ({ frames := 0, cells := 0, slots := 0, locals := 0 }) (jw_Pc D Y tt [.int 0, .int 2, .ref h0] [(h0, .inl (Y 1, 4, .inl (jw_l 0 [])))] sz) (jw_Qi D (fun r => r = 0) (fun w => w = [(h0, .inl (Y 1, 4, .inl (jw_l 0 [0, 0])))]) (va_A [(h0, .inl (Y 1, 4, .inl (jw_l 0 [])))] sz)) 0 0 (va_A [(h0, .inl (Y 1, 4, .inl (jw_l 0 [])))] sz) := by
  refine jw_met (fun A => jw_Qi D (fun r => r = 0) (fun w => w = [(h0, .inl (Y 1, 4, .inl (jw_l 0 [0, 0])))]) A) (cc := cX4_readRow) (maxL := 5) (ret := (some .boolean)) pn_X4_readRow rfl rfl ?_
  intro p e s m below meth c A H locs ls hx hb hml hr hts hown hlocks hin hP hD hA hS hE hl
  have hown : s.vm.findClass RX4 = some m.cls := hown
  have hl : lv_has ls 5 [(0, .int 0), (1, .int 2), (2, .ref h0)] := hl
  refine lv_iconst (v := 0) hx hb dX4_readRow_0 (by decide +kernel) ?_
  refine lv_istore_n (lv' := [(3, .int 0), (0, .int 0), (1, .int 2), (2, .ref h0)]) hx hb dX4_readRow_1 rfl hl (by decide) rfl (fun ls hl => ?_)
  refine lv_iconst (v := 0) hx hb dX4_readRow_2 (by decide +kernel) ?_
  refine lv_istore (lv' := [(4, .int 0), (3, .int 0), (0, .int 0), (1, .int 2), (2, .ref h0)]) hx hb dX4_readRow_3 hl (by decide) rfl (fun ls hl => ?_)
  refine lv_iload hx hb dX4_readRow_5 (lv_at hl 0 rfl) ?_
  refine lv_iload_n hx hb dX4_readRow_7 rfl (lv_at hl 3 rfl) ?_
  refine lv_icmp_ge (tgt := 49) hx hb dX4_readRow_8 (by decide) (fun c9 => absurd c9 (by decide +kernel)) (fun _ => ?_)
  refine lv_iload hx hb dX4_readRow_11 (lv_at hl 0 rfl) ?_
  refine lv_aload_n hx hb dX4_readRow_13 rfl (lv_at hl 4 rfl) ?_
  refine jw_alen (v := 4) hx hb hE hP 0 1 rfl rfl (by decide +kernel) dX4_readRow_14 ?_
  refine lv_icmp_ge (tgt := 49) hx hb dX4_readRow_15 (by decide) (fun c9 => absurd c9 (by decide +kernel)) (fun _ => ?_)
  refine lv_aload_n hx hb dX4_readRow_18 rfl (lv_at hl 4 rfl) ?_
  refine lv_iload hx hb dX4_readRow_19 (lv_at hl 0 rfl) ?_
  refine lv_iload_n hx hb dX4_readRow_21 rfl (lv_at hl 2 rfl) ?_
  refine lv_iconst (v := 2) hx hb dX4_readRow_22 (by decide +kernel) ?_
  refine lv_iload_n hx hb dX4_readRow_23 rfl (lv_at hl 3 rfl) ?_
  refine lv_iconst (v := 1) hx hb dX4_readRow_24 (by decide +kernel) ?_
  refine jw_isub (v := 1) hx hb dX4_readRow_25 (by decide +kernel) ?_
  refine lv_iload hx hb dX4_readRow_26 (lv_at hl 0 rfl) ?_
  refine jw_isub (v := 1) hx hb dX4_readRow_28 (by decide +kernel) ?_
  refine jw_imul (v := 2) hx hb dX4_readRow_29 (by decide +kernel) ?_
  refine lv_iushr (v := 0) hx hb dX4_readRow_30 (by decide +kernel) ?_
  refine lv_iconst (v := 3) hx hb dX4_readRow_31 (by decide +kernel) ?_
  refine jw_iand (v := 0) hx hb dX4_readRow_32 (by decide +kernel) ?_
  refine jw_iast (ws' := [(h0, .inl (Y 1, 4, .inl (jw_l 0 [0])))]) hx hb hE hP hD hS 0 0 [0] rfl (by decide +kernel) (by decide +kernel) rfl dX4_readRow_33 (fun H locs hP hD hS => ?_)
  refine lv_iload_n hx hb dX4_readRow_34 rfl (lv_at hl 1 rfl) ?_
  refine lv_iconst (v := 1) hx hb dX4_readRow_35 (by decide +kernel) ?_
  refine lv_aload_n hx hb dX4_readRow_36 rfl (lv_at hl 4 rfl) ?_
  refine lv_iload hx hb dX4_readRow_37 (lv_at hl 0 rfl) ?_
  refine jw_iald (v := 0) hx hb hE hP 0 0 rfl (by decide +kernel) (by decide +kernel) dX4_readRow_39 ?_
  refine jw_ishl (v := 1) hx hb dX4_readRow_40 (by decide +kernel) ?_
  refine jw_ior (v := 1) hx hb dX4_readRow_41 (by decide +kernel) ?_
  refine lv_istore_n (lv' := [(3, .int 1), (4, .int 0), (0, .int 0), (1, .int 2), (2, .ref h0)]) hx hb dX4_readRow_42 rfl hl (by decide) rfl (fun ls hl => ?_)
  refine lv_iinc (v := 1) (lv' := [(4, .int 1), (3, .int 1), (0, .int 0), (1, .int 2), (2, .ref h0)]) hx hb dX4_readRow_43 hl (k := 1) rfl (by decide +kernel) (by decide) rfl (fun ls hl => ?_)
  refine lv_goto (tgt := 5) hx hb dX4_readRow_46 (by decide) ?_
  refine lv_iload hx hb dX4_readRow_5 (lv_at hl 0 rfl) ?_
  refine lv_iload_n hx hb dX4_readRow_7 rfl (lv_at hl 3 rfl) ?_
  refine lv_icmp_ge (tgt := 49) hx hb dX4_readRow_8 (by decide) (fun c9 => absurd c9 (by decide +kernel)) (fun _ => ?_)
  refine lv_iload hx hb dX4_readRow_11 (lv_at hl 0 rfl) ?_
  refine lv_aload_n hx hb dX4_readRow_13 rfl (lv_at hl 4 rfl) ?_
  refine jw_alen (v := 4) hx hb hE hP 0 1 rfl rfl (by decide +kernel) dX4_readRow_14 ?_
  refine lv_icmp_ge (tgt := 49) hx hb dX4_readRow_15 (by decide) (fun c9 => absurd c9 (by decide +kernel)) (fun _ => ?_)
  refine lv_aload_n hx hb dX4_readRow_18 rfl (lv_at hl 4 rfl) ?_
  refine lv_iload hx hb dX4_readRow_19 (lv_at hl 0 rfl) ?_
  refine lv_iload_n hx hb dX4_readRow_21 rfl (lv_at hl 2 rfl) ?_
  refine lv_iconst (v := 2) hx hb dX4_readRow_22 (by decide +kernel) ?_
  refine lv_iload_n hx hb dX4_readRow_23 rfl (lv_at hl 3 rfl) ?_
  refine lv_iconst (v := 1) hx hb dX4_readRow_24 (by decide +kernel) ?_
  refine jw_isub (v := 1) hx hb dX4_readRow_25 (by decide +kernel) ?_
  refine lv_iload hx hb dX4_readRow_26 (lv_at hl 0 rfl) ?_
  refine jw_isub (v := 0) hx hb dX4_readRow_28 (by decide +kernel) ?_
  refine jw_imul (v := 0) hx hb dX4_readRow_29 (by decide +kernel) ?_
  refine lv_iushr (v := 0) hx hb dX4_readRow_30 (by decide +kernel) ?_
  refine lv_iconst (v := 3) hx hb dX4_readRow_31 (by decide +kernel) ?_
  refine jw_iand (v := 0) hx hb dX4_readRow_32 (by decide +kernel) ?_
  refine jw_iast (ws' := [(h0, .inl (Y 1, 4, .inl (jw_l 0 [0, 0])))]) hx hb hE hP hD hS 0 1 [0, 0] rfl (by decide +kernel) (by decide +kernel) rfl dX4_readRow_33 (fun H locs hP hD hS => ?_)
  refine lv_iload_n hx hb dX4_readRow_34 rfl (lv_at hl 1 rfl) ?_
  refine lv_iconst (v := 1) hx hb dX4_readRow_35 (by decide +kernel) ?_
  refine lv_aload_n hx hb dX4_readRow_36 rfl (lv_at hl 4 rfl) ?_
  refine lv_iload hx hb dX4_readRow_37 (lv_at hl 0 rfl) ?_
  refine jw_iald (v := 0) hx hb hE hP 0 1 rfl (by decide +kernel) (by decide +kernel) dX4_readRow_39 ?_
  refine jw_ishl (v := 1) hx hb dX4_readRow_40 (by decide +kernel) ?_
  refine jw_ior (v := 1) hx hb dX4_readRow_41 (by decide +kernel) ?_
  refine lv_istore_n (lv' := [(3, .int 1), (4, .int 1), (0, .int 0), (1, .int 2), (2, .ref h0)]) hx hb dX4_readRow_42 rfl hl (by decide) rfl (fun ls hl => ?_)
  refine lv_iinc (v := 2) (lv' := [(4, .int 2), (3, .int 1), (0, .int 0), (1, .int 2), (2, .ref h0)]) hx hb dX4_readRow_43 hl (k := 1) rfl (by decide +kernel) (by decide) rfl (fun ls hl => ?_)
  refine lv_goto (tgt := 5) hx hb dX4_readRow_46 (by decide) ?_
  refine lv_iload hx hb dX4_readRow_5 (lv_at hl 0 rfl) ?_
  refine lv_iload_n hx hb dX4_readRow_7 rfl (lv_at hl 3 rfl) ?_
  refine lv_icmp_ge (tgt := 49) hx hb dX4_readRow_8 (by decide) (fun _ => ?_) (fun c9 => absurd (by decide +kernel) c9)
  refine lv_iload_n hx hb dX4_readRow_49 rfl (lv_at hl 1 rfl) ?_
  refine lv_iconst (v := 1) hx hb dX4_readRow_50 (by decide +kernel) ?_
  refine lv_iload_n hx hb dX4_readRow_51 rfl (lv_at hl 3 rfl) ?_
  refine jw_ishl (v := 4) hx hb dX4_readRow_52 (by decide +kernel) ?_
  refine lv_iconst (v := 1) hx hb dX4_readRow_53 (by decide +kernel) ?_
  refine jw_isub (v := 3) hx hb dX4_readRow_54 (by decide +kernel) ?_
  refine lv_icmp_ne (tgt := 62) hx hb dX4_readRow_55 (by decide) (fun _ => ?_) (fun c9 => absurd c9 (by decide +kernel))
  refine lv_iconst (v := 0) hx hb dX4_readRow_62 (by decide +kernel) ?_
  refine W.widen (k := 0) (n := 0) (Nat.le_of_ble_eq_true rfl) (Nat.le_of_ble_eq_true rfl) ?_
  exact jw_zret hx hb hr hlocks rfl rfl rfl hP hD hS dX4_readRow_63
set_option maxHeartbeats 4000000 in
set_option maxRecDepth 100000 in
theorem k17_X4_readRow {l : Launch} {D : va_G} {Y : Nat → ClassId} {tt : Nat → Nat} (h0 : Nat) (sz : Nat) : Met l yX4_readRow wsX4_readRow ({ frames := 0, cells := 0, slots := 0, locals := 0 }) (jw_Pc D Y tt [.int 1, .int 2, .ref h0] [(h0, .inl (Y 1, 4, .inl (jw_l 0 [0, 0])))] sz) (jw_Qi D (fun r => r = 1) (fun w => w = [(h0, .inl (Y 1, 4, .inl (jw_l 0 [0, 1])))]) (va_A [(h0, .inl (Y 1, 4, .inl (jw_l 0 [0, 0])))] sz)) 0 0 (va_A [(h0, .inl (Y 1, 4, .inl (jw_l 0 [0, 0])))] sz) := by
  refine jw_met (fun A => jw_Qi D (fun r => r = 1) (fun w => w = [(h0, .inl (Y 1, 4, .inl (jw_l 0 [0, 1])))]) A) (cc := cX4_readRow) (maxL := 5) (ret := (some .boolean)) pn_X4_readRow rfl rfl ?_
  intro p e s m below meth c A H locs ls hx hb hml hr hts hown hlocks hin hP hD hA hS hE hl
  have hown : s.vm.findClass RX4 = some m.cls := hown
  have hl : lv_has ls 5 [(0, .int 1), (1, .int 2), (2, .ref h0)] := hl
  refine lv_iconst (v := 0) hx hb dX4_readRow_0 (by decide +kernel) ?_
  refine lv_istore_n (lv' := [(3, .int 0), (0, .int 1), (1, .int 2), (2, .ref h0)]) hx hb dX4_readRow_1 rfl hl (by decide) rfl (fun ls hl => ?_)
  refine lv_iconst (v := 0) hx hb dX4_readRow_2 (by decide +kernel) ?_
  refine lv_istore (lv' := [(4, .int 0), (3, .int 0), (0, .int 1), (1, .int 2), (2, .ref h0)]) hx hb dX4_readRow_3 hl (by decide) rfl (fun ls hl => ?_)
  refine lv_iload hx hb dX4_readRow_5 (lv_at hl 0 rfl) ?_
  refine lv_iload_n hx hb dX4_readRow_7 rfl (lv_at hl 3 rfl) ?_
  refine lv_icmp_ge (tgt := 49) hx hb dX4_readRow_8 (by decide) (fun c9 => absurd c9 (by decide +kernel)) (fun _ => ?_)
  refine lv_iload hx hb dX4_readRow_11 (lv_at hl 0 rfl) ?_
  refine lv_aload_n hx hb dX4_readRow_13 rfl (lv_at hl 4 rfl) ?_
  refine jw_alen (v := 4) hx hb hE hP 0 1 rfl rfl (by decide +kernel) dX4_readRow_14 ?_
  refine lv_icmp_ge (tgt := 49) hx hb dX4_readRow_15 (by decide) (fun c9 => absurd c9 (by decide +kernel)) (fun _ => ?_)
  refine lv_aload_n hx hb dX4_readRow_18 rfl (lv_at hl 4 rfl) ?_
  refine lv_iload hx hb dX4_readRow_19 (lv_at hl 0 rfl) ?_
  refine lv_iload_n hx hb dX4_readRow_21 rfl (lv_at hl 2 rfl) ?_
  refine lv_iconst (v := 2) hx hb dX4_readRow_22 (by decide +kernel) ?_
  refine lv_iload_n hx hb dX4_readRow_23 rfl (lv_at hl 3 rfl) ?_
  refine lv_iconst (v := 1) hx hb dX4_readRow_24 (by decide +kernel) ?_
  refine jw_isub (v := 1) hx hb dX4_readRow_25 (by decide +kernel) ?_
  refine lv_iload hx hb dX4_readRow_26 (lv_at hl 0 rfl) ?_
  refine jw_isub (v := 1) hx hb dX4_readRow_28 (by decide +kernel) ?_
  refine jw_imul (v := 2) hx hb dX4_readRow_29 (by decide +kernel) ?_
  refine lv_iushr (v := 0) hx hb dX4_readRow_30 (by decide +kernel) ?_
  refine lv_iconst (v := 3) hx hb dX4_readRow_31 (by decide +kernel) ?_
  refine jw_iand (v := 0) hx hb dX4_readRow_32 (by decide +kernel) ?_
  refine jw_iast (ws' := [(h0, .inl (Y 1, 4, .inl (jw_l 0 [0, 0])))]) hx hb hE hP hD hS 0 0 [0, 0] rfl (by decide +kernel) (by decide +kernel) rfl dX4_readRow_33 (fun H locs hP hD hS => ?_)
  refine lv_iload_n hx hb dX4_readRow_34 rfl (lv_at hl 1 rfl) ?_
  refine lv_iconst (v := 1) hx hb dX4_readRow_35 (by decide +kernel) ?_
  refine lv_aload_n hx hb dX4_readRow_36 rfl (lv_at hl 4 rfl) ?_
  refine lv_iload hx hb dX4_readRow_37 (lv_at hl 0 rfl) ?_
  refine jw_iald (v := 0) hx hb hE hP 0 0 rfl (by decide +kernel) (by decide +kernel) dX4_readRow_39 ?_
  refine jw_ishl (v := 1) hx hb dX4_readRow_40 (by decide +kernel) ?_
  refine jw_ior (v := 1) hx hb dX4_readRow_41 (by decide +kernel) ?_
  refine lv_istore_n (lv' := [(3, .int 1), (4, .int 0), (0, .int 1), (1, .int 2), (2, .ref h0)]) hx hb dX4_readRow_42 rfl hl (by decide) rfl (fun ls hl => ?_)
  refine lv_iinc (v := 1) (lv' := [(4, .int 1), (3, .int 1), (0, .int 1), (1, .int 2), (2, .ref h0)]) hx hb dX4_readRow_43 hl (k := 1) rfl (by decide +kernel) (by decide) rfl (fun ls hl => ?_)
  refine lv_goto (tgt := 5) hx hb dX4_readRow_46 (by decide) ?_
  refine lv_iload hx hb dX4_readRow_5 (lv_at hl 0 rfl) ?_
  refine lv_iload_n hx hb dX4_readRow_7 rfl (lv_at hl 3 rfl) ?_
  refine lv_icmp_ge (tgt := 49) hx hb dX4_readRow_8 (by decide) (fun c9 => absurd c9 (by decide +kernel)) (fun _ => ?_)
  refine lv_iload hx hb dX4_readRow_11 (lv_at hl 0 rfl) ?_
  refine lv_aload_n hx hb dX4_readRow_13 rfl (lv_at hl 4 rfl) ?_
  refine jw_alen (v := 4) hx hb hE hP 0 1 rfl rfl (by decide +kernel) dX4_readRow_14 ?_
  refine lv_icmp_ge (tgt := 49) hx hb dX4_readRow_15 (by decide) (fun c9 => absurd c9 (by decide +kernel)) (fun _ => ?_)
  refine lv_aload_n hx hb dX4_readRow_18 rfl (lv_at hl 4 rfl) ?_
  refine lv_iload hx hb dX4_readRow_19 (lv_at hl 0 rfl) ?_
  refine lv_iload_n hx hb dX4_readRow_21 rfl (lv_at hl 2 rfl) ?_
  refine lv_iconst (v := 2) hx hb dX4_readRow_22 (by decide +kernel) ?_
  refine lv_iload_n hx hb dX4_readRow_23 rfl (lv_at hl 3 rfl) ?_
  refine lv_iconst (v := 1) hx hb dX4_readRow_24 (by decide +kernel) ?_
  refine jw_isub (v := 1) hx hb dX4_readRow_25 (by decide +kernel) ?_
  refine lv_iload hx hb dX4_readRow_26 (lv_at hl 0 rfl) ?_
  refine jw_isub (v := 0) hx hb dX4_readRow_28 (by decide +kernel) ?_
  refine jw_imul (v := 0) hx hb dX4_readRow_29 (by decide +kernel) ?_
  refine lv_iushr (v := 1) hx hb dX4_readRow_30 (by decide +kernel) ?_
  refine lv_iconst (v := 3) hx hb dX4_readRow_31 (by decide +kernel) ?_
  refine jw_iand (v := 1) hx hb dX4_readRow_32 (by decide +kernel) ?_
  refine jw_iast (ws' := [(h0, .inl (Y 1, 4, .inl (jw_l 0 [0, 1])))]) hx hb hE hP hD hS 0 1 [0, 1] rfl (by decide +kernel) (by decide +kernel) rfl dX4_readRow_33 (fun H locs hP hD hS => ?_)
  refine lv_iload_n hx hb dX4_readRow_34 rfl (lv_at hl 1 rfl) ?_
  refine lv_iconst (v := 1) hx hb dX4_readRow_35 (by decide +kernel) ?_
  refine lv_aload_n hx hb dX4_readRow_36 rfl (lv_at hl 4 rfl) ?_
  refine lv_iload hx hb dX4_readRow_37 (lv_at hl 0 rfl) ?_
  refine jw_iald (v := 1) hx hb hE hP 0 1 rfl (by decide +kernel) (by decide +kernel) dX4_readRow_39 ?_
  refine jw_ishl (v := 2) hx hb dX4_readRow_40 (by decide +kernel) ?_
  refine jw_ior (v := 3) hx hb dX4_readRow_41 (by decide +kernel) ?_
  refine lv_istore_n (lv' := [(3, .int 3), (4, .int 1), (0, .int 1), (1, .int 2), (2, .ref h0)]) hx hb dX4_readRow_42 rfl hl (by decide) rfl (fun ls hl => ?_)
  refine lv_iinc (v := 2) (lv' := [(4, .int 2), (3, .int 3), (0, .int 1), (1, .int 2), (2, .ref h0)]) hx hb dX4_readRow_43 hl (k := 1) rfl (by decide +kernel) (by decide) rfl (fun ls hl => ?_)
  refine lv_goto (tgt := 5) hx hb dX4_readRow_46 (by decide) ?_
  refine lv_iload hx hb dX4_readRow_5 (lv_at hl 0 rfl) ?_
  refine lv_iload_n hx hb dX4_readRow_7 rfl (lv_at hl 3 rfl) ?_
  refine lv_icmp_ge (tgt := 49) hx hb dX4_readRow_8 (by decide) (fun _ => ?_) (fun c9 => absurd (by decide +kernel) c9)
  refine lv_iload_n hx hb dX4_readRow_49 rfl (lv_at hl 1 rfl) ?_
  refine lv_iconst (v := 1) hx hb dX4_readRow_50 (by decide +kernel) ?_
  refine lv_iload_n hx hb dX4_readRow_51 rfl (lv_at hl 3 rfl) ?_
  refine jw_ishl (v := 4) hx hb dX4_readRow_52 (by decide +kernel) ?_
  refine lv_iconst (v := 1) hx hb dX4_readRow_53 (by decide +kernel) ?_
  refine jw_isub (v := 3) hx hb dX4_readRow_54 (by decide +kernel) ?_
  refine lv_icmp_ne (tgt := 62) hx hb dX4_readRow_55 (by decide) (fun c9 => absurd (by decide +kernel) c9) (fun _ => ?_)
  refine lv_iconst (v := 1) hx hb dX4_readRow_58 (by decide +kernel) ?_
  refine lv_goto (tgt := 63) hx hb dX4_readRow_59 (by decide) ?_
  refine W.widen (k := 0) (n := 0) (Nat.le_of_ble_eq_true rfl) (Nat.le_of_ble_eq_true rfl) ?_
  exact jw_zret hx hb hr hlocks rfl rfl rfl hP hD hS dX4_readRow_63
set_option maxHeartbeats 4000000 in
set_option maxRecDepth 100000 in
theorem k18_X4_addRow {l : Launch} {D : va_G} {Y : Nat → ClassId} {tt : Nat → Nat} (h0 h1 h2 h3 h4 h5 : Nat) (sz : Nat) : Met l yX4_addRow wsX4_addRow ({ frames := 0, cells := 0, slots := 0, locals := 0 }) (jw_Pc D Y tt [.ref h0] [(h0, .inr (7, [.int 2, .int 0, .int 0, .int 0, .ref h1, .ref h2, .ref h3, .ref h5, .ref h4])), (h1, .inl (Y 1, 96, .inl (jw_l 0 []))), (h2, .inl (Y 1, 96, .inl (jw_l 0 []))), (h3, .inl (Y 1, 16, .inl (jw_l 0 []))), (h4, .inl (Y 1, 4, .inl (jw_l 0 [0, 1])))] sz) (jw_Qv D (fun w => w = [(h0, .inr (7, [.int 2, .int 1, .int 0, .int 0, .ref h1, .ref h2, .ref h3, .ref h5, .ref h4])), (h1, .inl (Y 1, 96, .inl (jw_l 0 [0, 1]))), (h2, .inl (Y 1, 96, .inl (jw_l 0 [0, 1]))), (h3, .inl (Y 1, 16, .inl (jw_l 0 [1, 0, 0, 0, 0, 1]))), (h4, .inl (Y 1, 4, .inl (jw_l 0 [0, 1])))]) (va_A [(h0, .inr (7, [.int 2, .int 0, .int 0, .int 0, .ref h1, .ref h2, .ref h3, .ref h5, .ref h4])), (h1, .inl (Y 1, 96, .inl (jw_l 0 []))), (h2, .inl (Y 1, 96, .inl (jw_l 0 []))), (h3, .inl (Y 1, 16, .inl (jw_l 0 []))), (h4, .inl (Y 1, 4, .inl (jw_l 0 [0, 1])))] sz)) 0 0 (va_A [(h0, .inr (7, [.int 2, .int 0, .int 0, .int 0, .ref h1, .ref h2, .ref h3, .ref h5, .ref h4])), (h1, .inl (Y 1, 96, .inl (jw_l 0 []))), (h2, .inl (Y 1, 96, .inl (jw_l 0 []))), (h3, .inl (Y 1, 16, .inl (jw_l 0 []))), (h4, .inl (Y 1, 4, .inl (jw_l 0 [0, 1])))] sz) := by
  refine jw_met (fun A => jw_Qv D (fun w => w = [(h0, .inr (7, [.int 2, .int 1, .int 0, .int 0, .ref h1, .ref h2, .ref h3, .ref h5, .ref h4])), (h1, .inl (Y 1, 96, .inl (jw_l 0 [0, 1]))), (h2, .inl (Y 1, 96, .inl (jw_l 0 [0, 1]))), (h3, .inl (Y 1, 16, .inl (jw_l 0 [1, 0, 0, 0, 0, 1]))), (h4, .inl (Y 1, 4, .inl (jw_l 0 [0, 1])))]) A) (cc := cX4_addRow) (maxL := 3) (ret := none) pn_X4_addRow rfl rfl ?_
  intro p e s m below meth c A H locs ls hx hb hml hr hts hown hlocks hin hP hD hA hS hE hl
  have hown : s.vm.findClass RX4 = some m.cls := hown
  have hl : lv_has ls 3 [(0, .ref h0)] := hl
  refine lv_iconst (v := 0) hx hb dX4_addRow_0 (by decide +kernel) ?_
  refine lv_istore_n (lv' := [(1, .int 0), (0, .ref h0)]) hx hb dX4_addRow_1 rfl hl (by decide) rfl (fun ls hl => ?_)
  refine lv_iload_n hx hb dX4_addRow_2 rfl (lv_at hl 0 rfl) ?_
  refine lv_aload_n hx hb dX4_addRow_3 rfl (lv_at hl 1 rfl) ?_
  refine va_get (D := D) (ci := 7) (v := .int 2) (C := RX4) (T := TX4) (N := 9) hx hb hts iw_X4_addRow__X4 hown hE.1 hP 0 rfl rfl 0 (by decide) (hts _ mw_X4_addRow__1) (fun _ h9 => h9) rfl dX4_addRow_4 ?_
  refine lv_icmp_ge (tgt := 70) hx hb dX4_addRow_7 (by decide) (fun c9 => absurd c9 (by decide +kernel)) (fun _ => ?_)
  refine lv_aload_n hx hb dX4_addRow_10 rfl (lv_at hl 1 rfl) ?_
  refine va_get (D := D) (ci := 7) (v := .ref h4) (C := RX4) (T := TX4) (N := 9) hx hb hts iw_X4_addRow__X4 hown hE.1 hP 0 rfl rfl 8 (by decide) (hts _ mw_X4_addRow__2) (fun _ h9 => h9) rfl dX4_addRow_11 ?_
  refine lv_iload_n hx hb dX4_addRow_14 rfl (lv_at hl 0 rfl) ?_
  refine jw_iald (v := 0) hx hb hE hP 4 0 rfl (by decide +kernel) (by decide +kernel) dX4_addRow_15 ?_
  refine lv_istore_n (lv' := [(2, .int 0), (1, .int 0), (0, .ref h0)]) hx hb dX4_addRow_16 rfl hl (by decide) rfl (fun ls hl => ?_)
  refine lv_aload_n hx hb dX4_addRow_17 rfl (lv_at hl 2 rfl) ?_
  refine va_get (D := D) (ci := 7) (v := .ref h1) (C := RX4) (T := TX4) (N := 9) hx hb hts iw_X4_addRow__X4 hown hE.1 hP 0 rfl rfl 4 (by decide) (hts _ mw_X4_addRow__3) (fun _ h9 => h9) rfl dX4_addRow_18 ?_
  refine lv_aload_n hx hb dX4_addRow_21 rfl (lv_at hl 2 rfl) ?_
  refine va_get (D := D) (ci := 7) (v := .int 0) (C := RX4) (T := TX4) (N := 9) hx hb hts iw_X4_addRow__X4 hown hE.1 hP 0 rfl rfl 1 (by decide) (hts _ mw_X4_addRow__4) (fun _ h9 => h9) rfl dX4_addRow_22 ?_
  refine lv_iconst (v := 4) hx hb dX4_addRow_25 (by decide +kernel) ?_
  refine jw_imul (v := 0) hx hb dX4_addRow_26 (by decide +kernel) ?_
  refine lv_iload_n hx hb dX4_addRow_27 rfl (lv_at hl 1 rfl) ?_
  refine jw_iadd (v := 0) hx hb dX4_addRow_28 (by decide +kernel) ?_
  refine lv_iload_n hx hb dX4_addRow_29 rfl (lv_at hl 0 rfl) ?_
  refine jw_iast (ws' := [(h0, .inr (7, [.int 2, .int 0, .int 0, .int 0, .ref h1, .ref h2, .ref h3, .ref h5, .ref h4])), (h1, .inl (Y 1, 96, .inl (jw_l 0 [0]))), (h2, .inl (Y 1, 96, .inl (jw_l 0 []))), (h3, .inl (Y 1, 16, .inl (jw_l 0 []))), (h4, .inl (Y 1, 4, .inl (jw_l 0 [0, 1])))]) hx hb hE hP hD hS 1 0 [0] rfl (by decide +kernel) (by decide +kernel) rfl dX4_addRow_30 (fun H locs hP hD hS => ?_)
  refine lv_aload_n hx hb dX4_addRow_31 rfl (lv_at hl 2 rfl) ?_
  refine va_get (D := D) (ci := 7) (v := .ref h2) (C := RX4) (T := TX4) (N := 9) hx hb hts iw_X4_addRow__X4 hown hE.1 hP 0 rfl rfl 5 (by decide) (hts _ mw_X4_addRow__5) (fun _ h9 => h9) rfl dX4_addRow_32 ?_
  refine lv_aload_n hx hb dX4_addRow_35 rfl (lv_at hl 2 rfl) ?_
  refine va_get (D := D) (ci := 7) (v := .int 0) (C := RX4) (T := TX4) (N := 9) hx hb hts iw_X4_addRow__X4 hown hE.1 hP 0 rfl rfl 1 (by decide) (hts _ mw_X4_addRow__4) (fun _ h9 => h9) rfl dX4_addRow_36 ?_
  refine lv_iconst (v := 4) hx hb dX4_addRow_39 (by decide +kernel) ?_
  refine jw_imul (v := 0) hx hb dX4_addRow_40 (by decide +kernel) ?_
  refine lv_iload_n hx hb dX4_addRow_41 rfl (lv_at hl 0 rfl) ?_
  refine jw_iadd (v := 0) hx hb dX4_addRow_42 (by decide +kernel) ?_
  refine lv_iload_n hx hb dX4_addRow_43 rfl (lv_at hl 1 rfl) ?_
  refine jw_iast (ws' := [(h0, .inr (7, [.int 2, .int 0, .int 0, .int 0, .ref h1, .ref h2, .ref h3, .ref h5, .ref h4])), (h1, .inl (Y 1, 96, .inl (jw_l 0 [0]))), (h2, .inl (Y 1, 96, .inl (jw_l 0 [0]))), (h3, .inl (Y 1, 16, .inl (jw_l 0 []))), (h4, .inl (Y 1, 4, .inl (jw_l 0 [0, 1])))]) hx hb hE hP hD hS 2 0 [0] rfl (by decide +kernel) (by decide +kernel) rfl dX4_addRow_44 (fun H locs hP hD hS => ?_)
  refine lv_aload_n hx hb dX4_addRow_45 rfl (lv_at hl 2 rfl) ?_
  refine va_get (D := D) (ci := 7) (v := .ref h3) (C := RX4) (T := TX4) (N := 9) hx hb hts iw_X4_addRow__X4 hown hE.1 hP 0 rfl rfl 6 (by decide) (hts _ mw_X4_addRow__6) (fun _ h9 => h9) rfl dX4_addRow_46 ?_
  refine lv_iload_n hx hb dX4_addRow_49 rfl (lv_at hl 1 rfl) ?_
  refine lv_iconst (v := 4) hx hb dX4_addRow_50 (by decide +kernel) ?_
  refine jw_imul (v := 0) hx hb dX4_addRow_51 (by decide +kernel) ?_
  refine lv_iload_n hx hb dX4_addRow_52 rfl (lv_at hl 0 rfl) ?_
  refine jw_iadd (v := 0) hx hb dX4_addRow_53 (by decide +kernel) ?_
  refine lv_dup2_11 hx hb dX4_addRow_54 rfl rfl ?_
  refine jw_iald (v := 0) hx hb hE hP 3 0 rfl (by decide +kernel) (by decide +kernel) dX4_addRow_55 ?_
  refine lv_iconst (v := 1) hx hb dX4_addRow_56 (by decide +kernel) ?_
  refine lv_aload_n hx hb dX4_addRow_57 rfl (lv_at hl 2 rfl) ?_
  refine va_get (D := D) (ci := 7) (v := .int 0) (C := RX4) (T := TX4) (N := 9) hx hb hts iw_X4_addRow__X4 hown hE.1 hP 0 rfl rfl 1 (by decide) (hts _ mw_X4_addRow__4) (fun _ h9 => h9) rfl dX4_addRow_58 ?_
  refine jw_ishl (v := 1) hx hb dX4_addRow_61 (by decide +kernel) ?_
  refine jw_ior (v := 1) hx hb dX4_addRow_62 (by decide +kernel) ?_
  refine jw_iast (ws' := [(h0, .inr (7, [.int 2, .int 0, .int 0, .int 0, .ref h1, .ref h2, .ref h3, .ref h5, .ref h4])), (h1, .inl (Y 1, 96, .inl (jw_l 0 [0]))), (h2, .inl (Y 1, 96, .inl (jw_l 0 [0]))), (h3, .inl (Y 1, 16, .inl (jw_l 0 [1]))), (h4, .inl (Y 1, 4, .inl (jw_l 0 [0, 1])))]) hx hb hE hP hD hS 3 0 [1] rfl (by decide +kernel) (by decide +kernel) rfl dX4_addRow_63 (fun H locs hP hD hS => ?_)
  refine lv_iinc (v := 1) (lv' := [(1, .int 1), (2, .int 0), (0, .ref h0)]) hx hb dX4_addRow_64 hl (k := 1) rfl (by decide +kernel) (by decide) rfl (fun ls hl => ?_)
  refine lv_goto (tgt := 2) hx hb dX4_addRow_67 (by decide) ?_
  refine lv_iload_n hx hb dX4_addRow_2 rfl (lv_at hl 0 rfl) ?_
  refine lv_aload_n hx hb dX4_addRow_3 rfl (lv_at hl 2 rfl) ?_
  refine va_get (D := D) (ci := 7) (v := .int 2) (C := RX4) (T := TX4) (N := 9) hx hb hts iw_X4_addRow__X4 hown hE.1 hP 0 rfl rfl 0 (by decide) (hts _ mw_X4_addRow__1) (fun _ h9 => h9) rfl dX4_addRow_4 ?_
  refine lv_icmp_ge (tgt := 70) hx hb dX4_addRow_7 (by decide) (fun c9 => absurd c9 (by decide +kernel)) (fun _ => ?_)
  refine lv_aload_n hx hb dX4_addRow_10 rfl (lv_at hl 2 rfl) ?_
  refine va_get (D := D) (ci := 7) (v := .ref h4) (C := RX4) (T := TX4) (N := 9) hx hb hts iw_X4_addRow__X4 hown hE.1 hP 0 rfl rfl 8 (by decide) (hts _ mw_X4_addRow__2) (fun _ h9 => h9) rfl dX4_addRow_11 ?_
  refine lv_iload_n hx hb dX4_addRow_14 rfl (lv_at hl 0 rfl) ?_
  refine jw_iald (v := 1) hx hb hE hP 4 1 rfl (by decide +kernel) (by decide +kernel) dX4_addRow_15 ?_
  refine lv_istore_n (lv' := [(2, .int 1), (1, .int 1), (0, .ref h0)]) hx hb dX4_addRow_16 rfl hl (by decide) rfl (fun ls hl => ?_)
  refine lv_aload_n hx hb dX4_addRow_17 rfl (lv_at hl 2 rfl) ?_
  refine va_get (D := D) (ci := 7) (v := .ref h1) (C := RX4) (T := TX4) (N := 9) hx hb hts iw_X4_addRow__X4 hown hE.1 hP 0 rfl rfl 4 (by decide) (hts _ mw_X4_addRow__3) (fun _ h9 => h9) rfl dX4_addRow_18 ?_
  refine lv_aload_n hx hb dX4_addRow_21 rfl (lv_at hl 2 rfl) ?_
  refine va_get (D := D) (ci := 7) (v := .int 0) (C := RX4) (T := TX4) (N := 9) hx hb hts iw_X4_addRow__X4 hown hE.1 hP 0 rfl rfl 1 (by decide) (hts _ mw_X4_addRow__4) (fun _ h9 => h9) rfl dX4_addRow_22 ?_
  refine lv_iconst (v := 4) hx hb dX4_addRow_25 (by decide +kernel) ?_
  refine jw_imul (v := 0) hx hb dX4_addRow_26 (by decide +kernel) ?_
  refine lv_iload_n hx hb dX4_addRow_27 rfl (lv_at hl 1 rfl) ?_
  refine jw_iadd (v := 1) hx hb dX4_addRow_28 (by decide +kernel) ?_
  refine lv_iload_n hx hb dX4_addRow_29 rfl (lv_at hl 0 rfl) ?_
  refine jw_iast (ws' := [(h0, .inr (7, [.int 2, .int 0, .int 0, .int 0, .ref h1, .ref h2, .ref h3, .ref h5, .ref h4])), (h1, .inl (Y 1, 96, .inl (jw_l 0 [0, 1]))), (h2, .inl (Y 1, 96, .inl (jw_l 0 [0]))), (h3, .inl (Y 1, 16, .inl (jw_l 0 [1]))), (h4, .inl (Y 1, 4, .inl (jw_l 0 [0, 1])))]) hx hb hE hP hD hS 1 1 [0, 1] rfl (by decide +kernel) (by decide +kernel) rfl dX4_addRow_30 (fun H locs hP hD hS => ?_)
  refine lv_aload_n hx hb dX4_addRow_31 rfl (lv_at hl 2 rfl) ?_
  refine va_get (D := D) (ci := 7) (v := .ref h2) (C := RX4) (T := TX4) (N := 9) hx hb hts iw_X4_addRow__X4 hown hE.1 hP 0 rfl rfl 5 (by decide) (hts _ mw_X4_addRow__5) (fun _ h9 => h9) rfl dX4_addRow_32 ?_
  refine lv_aload_n hx hb dX4_addRow_35 rfl (lv_at hl 2 rfl) ?_
  refine va_get (D := D) (ci := 7) (v := .int 0) (C := RX4) (T := TX4) (N := 9) hx hb hts iw_X4_addRow__X4 hown hE.1 hP 0 rfl rfl 1 (by decide) (hts _ mw_X4_addRow__4) (fun _ h9 => h9) rfl dX4_addRow_36 ?_
  refine lv_iconst (v := 4) hx hb dX4_addRow_39 (by decide +kernel) ?_
  refine jw_imul (v := 0) hx hb dX4_addRow_40 (by decide +kernel) ?_
  refine lv_iload_n hx hb dX4_addRow_41 rfl (lv_at hl 0 rfl) ?_
  refine jw_iadd (v := 1) hx hb dX4_addRow_42 (by decide +kernel) ?_
  refine lv_iload_n hx hb dX4_addRow_43 rfl (lv_at hl 1 rfl) ?_
  refine jw_iast (ws' := [(h0, .inr (7, [.int 2, .int 0, .int 0, .int 0, .ref h1, .ref h2, .ref h3, .ref h5, .ref h4])), (h1, .inl (Y 1, 96, .inl (jw_l 0 [0, 1]))), (h2, .inl (Y 1, 96, .inl (jw_l 0 [0, 1]))), (h3, .inl (Y 1, 16, .inl (jw_l 0 [1]))), (h4, .inl (Y 1, 4, .inl (jw_l 0 [0, 1])))]) hx hb hE hP hD hS 2 1 [0, 1] rfl (by decide +kernel) (by decide +kernel) rfl dX4_addRow_44 (fun H locs hP hD hS => ?_)
  refine lv_aload_n hx hb dX4_addRow_45 rfl (lv_at hl 2 rfl) ?_
  refine va_get (D := D) (ci := 7) (v := .ref h3) (C := RX4) (T := TX4) (N := 9) hx hb hts iw_X4_addRow__X4 hown hE.1 hP 0 rfl rfl 6 (by decide) (hts _ mw_X4_addRow__6) (fun _ h9 => h9) rfl dX4_addRow_46 ?_
  refine lv_iload_n hx hb dX4_addRow_49 rfl (lv_at hl 1 rfl) ?_
  refine lv_iconst (v := 4) hx hb dX4_addRow_50 (by decide +kernel) ?_
  refine jw_imul (v := 4) hx hb dX4_addRow_51 (by decide +kernel) ?_
  refine lv_iload_n hx hb dX4_addRow_52 rfl (lv_at hl 0 rfl) ?_
  refine jw_iadd (v := 5) hx hb dX4_addRow_53 (by decide +kernel) ?_
  refine lv_dup2_11 hx hb dX4_addRow_54 rfl rfl ?_
  refine jw_iald (v := 0) hx hb hE hP 3 5 rfl (by decide +kernel) (by decide +kernel) dX4_addRow_55 ?_
  refine lv_iconst (v := 1) hx hb dX4_addRow_56 (by decide +kernel) ?_
  refine lv_aload_n hx hb dX4_addRow_57 rfl (lv_at hl 2 rfl) ?_
  refine va_get (D := D) (ci := 7) (v := .int 0) (C := RX4) (T := TX4) (N := 9) hx hb hts iw_X4_addRow__X4 hown hE.1 hP 0 rfl rfl 1 (by decide) (hts _ mw_X4_addRow__4) (fun _ h9 => h9) rfl dX4_addRow_58 ?_
  refine jw_ishl (v := 1) hx hb dX4_addRow_61 (by decide +kernel) ?_
  refine jw_ior (v := 1) hx hb dX4_addRow_62 (by decide +kernel) ?_
  refine jw_iast (ws' := [(h0, .inr (7, [.int 2, .int 0, .int 0, .int 0, .ref h1, .ref h2, .ref h3, .ref h5, .ref h4])), (h1, .inl (Y 1, 96, .inl (jw_l 0 [0, 1]))), (h2, .inl (Y 1, 96, .inl (jw_l 0 [0, 1]))), (h3, .inl (Y 1, 16, .inl (jw_l 0 [1, 0, 0, 0, 0, 1]))), (h4, .inl (Y 1, 4, .inl (jw_l 0 [0, 1])))]) hx hb hE hP hD hS 3 5 [1, 0, 0, 0, 0, 1] rfl (by decide +kernel) (by decide +kernel) rfl dX4_addRow_63 (fun H locs hP hD hS => ?_)
  refine lv_iinc (v := 2) (lv' := [(1, .int 2), (2, .int 1), (0, .ref h0)]) hx hb dX4_addRow_64 hl (k := 1) rfl (by decide +kernel) (by decide) rfl (fun ls hl => ?_)
  refine lv_goto (tgt := 2) hx hb dX4_addRow_67 (by decide) ?_
  refine lv_iload_n hx hb dX4_addRow_2 rfl (lv_at hl 0 rfl) ?_
  refine lv_aload_n hx hb dX4_addRow_3 rfl (lv_at hl 2 rfl) ?_
  refine va_get (D := D) (ci := 7) (v := .int 2) (C := RX4) (T := TX4) (N := 9) hx hb hts iw_X4_addRow__X4 hown hE.1 hP 0 rfl rfl 0 (by decide) (hts _ mw_X4_addRow__1) (fun _ h9 => h9) rfl dX4_addRow_4 ?_
  refine lv_icmp_ge (tgt := 70) hx hb dX4_addRow_7 (by decide) (fun _ => ?_) (fun c9 => absurd (by decide +kernel) c9)
  refine lv_aload_n hx hb dX4_addRow_70 rfl (lv_at hl 2 rfl) ?_
  refine lv_dup hx hb dX4_addRow_71 rfl ?_
  refine va_get (D := D) (ci := 7) (v := .int 0) (C := RX4) (T := TX4) (N := 9) hx hb hts iw_X4_addRow__X4 hown hE.1 hP 0 rfl rfl 1 (by decide) (hts _ mw_X4_addRow__4) (fun _ h9 => h9) rfl dX4_addRow_72 ?_
  refine lv_iconst (v := 1) hx hb dX4_addRow_75 (by decide +kernel) ?_
  refine jw_iadd (v := 1) hx hb dX4_addRow_76 (by decide +kernel) ?_
  refine va_put (D := D) (ci := 7) (v := .int 1) (C := RX4) (T := TX4) (N := 9) hx hb hts iw_X4_addRow__X4 tyX4 tyX4_ok nmX4 hown hE.1 hP hD hS 0 rfl rfl 1 (by decide) (hts _ mw_X4_addRow__4) (fun _ h9 => h9) rfl (tyX4_ok 1 (by decide)) rfl rfl (Nat.le_of_ble_eq_true rfl) dX4_addRow_77 (fun H locs hP hD hS => ?_)
  have hP : va_P D vwCl [(h0, .inr (7, [.int 2, .int 1, .int 0, .int 0, .ref h1, .ref h2, .ref h3, .ref h5, .ref h4])), (h1, .inl (Y 1, 96, .inl (jw_l 0 [0, 1]))), (h2, .inl (Y 1, 96, .inl (jw_l 0 [0, 1]))), (h3, .inl (Y 1, 16, .inl (jw_l 0 [1, 0, 0, 0, 0, 1]))), (h4, .inl (Y 1, 4, .inl (jw_l 0 [0, 1])))] H := hP
  have hD : va_D A [(h0, .inr (7, [.int 2, .int 1, .int 0, .int 0, .ref h1, .ref h2, .ref h3, .ref h5, .ref h4])), (h1, .inl (Y 1, 96, .inl (jw_l 0 [0, 1]))), (h2, .inl (Y 1, 96, .inl (jw_l 0 [0, 1]))), (h3, .inl (Y 1, 16, .inl (jw_l 0 [1, 0, 0, 0, 0, 1]))), (h4, .inl (Y 1, 4, .inl (jw_l 0 [0, 1])))] := hD
  refine W.widen (k := 0) (n := 0) (Nat.le_of_ble_eq_true rfl) (Nat.le_of_ble_eq_true rfl) ?_
  exact jw_vret hx hb hr hlocks rfl hP hD hS dX4_addRow_80
set_option maxHeartbeats 4000000 in
set_option maxRecDepth 100000 in
theorem k19_X4_readRow {l : Launch} {D : va_G} {Y : Nat → ClassId} {tt : Nat → Nat} (h0 : Nat) (sz : Nat) : Met l yX4_readRow wsX4_readRow ({ frames := 0, cells := 0, slots := 0, locals := 0 }) (jw_Pc D Y tt [.int 2, .int 2, .ref h0] [(h0, .inl (Y 1, 4, .inl (jw_l 0 [0, 1])))] sz) (jw_Qi D (fun r => r = 0) (fun w => w = [(h0, .inl (Y 1, 4, .inl (jw_l 0 [0, 2])))]) (va_A [(h0, .inl (Y 1, 4, .inl (jw_l 0 [0, 1])))] sz)) 0 0 (va_A [(h0, .inl (Y 1, 4, .inl (jw_l 0 [0, 1])))] sz) := by
  refine jw_met (fun A => jw_Qi D (fun r => r = 0) (fun w => w = [(h0, .inl (Y 1, 4, .inl (jw_l 0 [0, 2])))]) A) (cc := cX4_readRow) (maxL := 5) (ret := (some .boolean)) pn_X4_readRow rfl rfl ?_
  intro p e s m below meth c A H locs ls hx hb hml hr hts hown hlocks hin hP hD hA hS hE hl
  have hown : s.vm.findClass RX4 = some m.cls := hown
  have hl : lv_has ls 5 [(0, .int 2), (1, .int 2), (2, .ref h0)] := hl
  refine lv_iconst (v := 0) hx hb dX4_readRow_0 (by decide +kernel) ?_
  refine lv_istore_n (lv' := [(3, .int 0), (0, .int 2), (1, .int 2), (2, .ref h0)]) hx hb dX4_readRow_1 rfl hl (by decide) rfl (fun ls hl => ?_)
  refine lv_iconst (v := 0) hx hb dX4_readRow_2 (by decide +kernel) ?_
  refine lv_istore (lv' := [(4, .int 0), (3, .int 0), (0, .int 2), (1, .int 2), (2, .ref h0)]) hx hb dX4_readRow_3 hl (by decide) rfl (fun ls hl => ?_)
  refine lv_iload hx hb dX4_readRow_5 (lv_at hl 0 rfl) ?_
  refine lv_iload_n hx hb dX4_readRow_7 rfl (lv_at hl 3 rfl) ?_
  refine lv_icmp_ge (tgt := 49) hx hb dX4_readRow_8 (by decide) (fun c9 => absurd c9 (by decide +kernel)) (fun _ => ?_)
  refine lv_iload hx hb dX4_readRow_11 (lv_at hl 0 rfl) ?_
  refine lv_aload_n hx hb dX4_readRow_13 rfl (lv_at hl 4 rfl) ?_
  refine jw_alen (v := 4) hx hb hE hP 0 1 rfl rfl (by decide +kernel) dX4_readRow_14 ?_
  refine lv_icmp_ge (tgt := 49) hx hb dX4_readRow_15 (by decide) (fun c9 => absurd c9 (by decide +kernel)) (fun _ => ?_)
  refine lv_aload_n hx hb dX4_readRow_18 rfl (lv_at hl 4 rfl) ?_
  refine lv_iload hx hb dX4_readRow_19 (lv_at hl 0 rfl) ?_
  refine lv_iload_n hx hb dX4_readRow_21 rfl (lv_at hl 2 rfl) ?_
  refine lv_iconst (v := 2) hx hb dX4_readRow_22 (by decide +kernel) ?_
  refine lv_iload_n hx hb dX4_readRow_23 rfl (lv_at hl 3 rfl) ?_
  refine lv_iconst (v := 1) hx hb dX4_readRow_24 (by decide +kernel) ?_
  refine jw_isub (v := 1) hx hb dX4_readRow_25 (by decide +kernel) ?_
  refine lv_iload hx hb dX4_readRow_26 (lv_at hl 0 rfl) ?_
  refine jw_isub (v := 1) hx hb dX4_readRow_28 (by decide +kernel) ?_
  refine jw_imul (v := 2) hx hb dX4_readRow_29 (by decide +kernel) ?_
  refine lv_iushr (v := 0) hx hb dX4_readRow_30 (by decide +kernel) ?_
  refine lv_iconst (v := 3) hx hb dX4_readRow_31 (by decide +kernel) ?_
  refine jw_iand (v := 0) hx hb dX4_readRow_32 (by decide +kernel) ?_
  refine jw_iast (ws' := [(h0, .inl (Y 1, 4, .inl (jw_l 0 [0, 1])))]) hx hb hE hP hD hS 0 0 [0, 1] rfl (by decide +kernel) (by decide +kernel) rfl dX4_readRow_33 (fun H locs hP hD hS => ?_)
  refine lv_iload_n hx hb dX4_readRow_34 rfl (lv_at hl 1 rfl) ?_
  refine lv_iconst (v := 1) hx hb dX4_readRow_35 (by decide +kernel) ?_
  refine lv_aload_n hx hb dX4_readRow_36 rfl (lv_at hl 4 rfl) ?_
  refine lv_iload hx hb dX4_readRow_37 (lv_at hl 0 rfl) ?_
  refine jw_iald (v := 0) hx hb hE hP 0 0 rfl (by decide +kernel) (by decide +kernel) dX4_readRow_39 ?_
  refine jw_ishl (v := 1) hx hb dX4_readRow_40 (by decide +kernel) ?_
  refine jw_ior (v := 1) hx hb dX4_readRow_41 (by decide +kernel) ?_
  refine lv_istore_n (lv' := [(3, .int 1), (4, .int 0), (0, .int 2), (1, .int 2), (2, .ref h0)]) hx hb dX4_readRow_42 rfl hl (by decide) rfl (fun ls hl => ?_)
  refine lv_iinc (v := 1) (lv' := [(4, .int 1), (3, .int 1), (0, .int 2), (1, .int 2), (2, .ref h0)]) hx hb dX4_readRow_43 hl (k := 1) rfl (by decide +kernel) (by decide) rfl (fun ls hl => ?_)
  refine lv_goto (tgt := 5) hx hb dX4_readRow_46 (by decide) ?_
  refine lv_iload hx hb dX4_readRow_5 (lv_at hl 0 rfl) ?_
  refine lv_iload_n hx hb dX4_readRow_7 rfl (lv_at hl 3 rfl) ?_
  refine lv_icmp_ge (tgt := 49) hx hb dX4_readRow_8 (by decide) (fun c9 => absurd c9 (by decide +kernel)) (fun _ => ?_)
  refine lv_iload hx hb dX4_readRow_11 (lv_at hl 0 rfl) ?_
  refine lv_aload_n hx hb dX4_readRow_13 rfl (lv_at hl 4 rfl) ?_
  refine jw_alen (v := 4) hx hb hE hP 0 1 rfl rfl (by decide +kernel) dX4_readRow_14 ?_
  refine lv_icmp_ge (tgt := 49) hx hb dX4_readRow_15 (by decide) (fun c9 => absurd c9 (by decide +kernel)) (fun _ => ?_)
  refine lv_aload_n hx hb dX4_readRow_18 rfl (lv_at hl 4 rfl) ?_
  refine lv_iload hx hb dX4_readRow_19 (lv_at hl 0 rfl) ?_
  refine lv_iload_n hx hb dX4_readRow_21 rfl (lv_at hl 2 rfl) ?_
  refine lv_iconst (v := 2) hx hb dX4_readRow_22 (by decide +kernel) ?_
  refine lv_iload_n hx hb dX4_readRow_23 rfl (lv_at hl 3 rfl) ?_
  refine lv_iconst (v := 1) hx hb dX4_readRow_24 (by decide +kernel) ?_
  refine jw_isub (v := 1) hx hb dX4_readRow_25 (by decide +kernel) ?_
  refine lv_iload hx hb dX4_readRow_26 (lv_at hl 0 rfl) ?_
  refine jw_isub (v := 0) hx hb dX4_readRow_28 (by decide +kernel) ?_
  refine jw_imul (v := 0) hx hb dX4_readRow_29 (by decide +kernel) ?_
  refine lv_iushr (v := 2) hx hb dX4_readRow_30 (by decide +kernel) ?_
  refine lv_iconst (v := 3) hx hb dX4_readRow_31 (by decide +kernel) ?_
  refine jw_iand (v := 2) hx hb dX4_readRow_32 (by decide +kernel) ?_
  refine jw_iast (ws' := [(h0, .inl (Y 1, 4, .inl (jw_l 0 [0, 2])))]) hx hb hE hP hD hS 0 1 [0, 2] rfl (by decide +kernel) (by decide +kernel) rfl dX4_readRow_33 (fun H locs hP hD hS => ?_)
  refine lv_iload_n hx hb dX4_readRow_34 rfl (lv_at hl 1 rfl) ?_
  refine lv_iconst (v := 1) hx hb dX4_readRow_35 (by decide +kernel) ?_
  refine lv_aload_n hx hb dX4_readRow_36 rfl (lv_at hl 4 rfl) ?_
  refine lv_iload hx hb dX4_readRow_37 (lv_at hl 0 rfl) ?_
  refine jw_iald (v := 2) hx hb hE hP 0 1 rfl (by decide +kernel) (by decide +kernel) dX4_readRow_39 ?_
  refine jw_ishl (v := 4) hx hb dX4_readRow_40 (by decide +kernel) ?_
  refine jw_ior (v := 5) hx hb dX4_readRow_41 (by decide +kernel) ?_
  refine lv_istore_n (lv' := [(3, .int 5), (4, .int 1), (0, .int 2), (1, .int 2), (2, .ref h0)]) hx hb dX4_readRow_42 rfl hl (by decide) rfl (fun ls hl => ?_)
  refine lv_iinc (v := 2) (lv' := [(4, .int 2), (3, .int 5), (0, .int 2), (1, .int 2), (2, .ref h0)]) hx hb dX4_readRow_43 hl (k := 1) rfl (by decide +kernel) (by decide) rfl (fun ls hl => ?_)
  refine lv_goto (tgt := 5) hx hb dX4_readRow_46 (by decide) ?_
  refine lv_iload hx hb dX4_readRow_5 (lv_at hl 0 rfl) ?_
  refine lv_iload_n hx hb dX4_readRow_7 rfl (lv_at hl 3 rfl) ?_
  refine lv_icmp_ge (tgt := 49) hx hb dX4_readRow_8 (by decide) (fun _ => ?_) (fun c9 => absurd (by decide +kernel) c9)
  refine lv_iload_n hx hb dX4_readRow_49 rfl (lv_at hl 1 rfl) ?_
  refine lv_iconst (v := 1) hx hb dX4_readRow_50 (by decide +kernel) ?_
  refine lv_iload_n hx hb dX4_readRow_51 rfl (lv_at hl 3 rfl) ?_
  refine jw_ishl (v := 4) hx hb dX4_readRow_52 (by decide +kernel) ?_
  refine lv_iconst (v := 1) hx hb dX4_readRow_53 (by decide +kernel) ?_
  refine jw_isub (v := 3) hx hb dX4_readRow_54 (by decide +kernel) ?_
  refine lv_icmp_ne (tgt := 62) hx hb dX4_readRow_55 (by decide) (fun _ => ?_) (fun c9 => absurd c9 (by decide +kernel))
  refine lv_iconst (v := 0) hx hb dX4_readRow_62 (by decide +kernel) ?_
  refine W.widen (k := 0) (n := 0) (Nat.le_of_ble_eq_true rfl) (Nat.le_of_ble_eq_true rfl) ?_
  exact jw_zret hx hb hr hlocks rfl rfl rfl hP hD hS dX4_readRow_63
set_option maxHeartbeats 4000000 in
set_option maxRecDepth 100000 in
theorem k20_X4_readRow {l : Launch} {D : va_G} {Y : Nat → ClassId} {tt : Nat → Nat} (h0 : Nat) (sz : Nat) : Met l yX4_readRow wsX4_readRow ({ frames := 0, cells := 0, slots := 0, locals := 0 }) (jw_Pc D Y tt [.int 3, .int 2, .ref h0] [(h0, .inl (Y 1, 4, .inl (jw_l 0 [0, 2])))] sz) (jw_Qi D (fun r => r = 0) (fun w => w = [(h0, .inl (Y 1, 4, .inl (jw_l 0 [0, 3])))]) (va_A [(h0, .inl (Y 1, 4, .inl (jw_l 0 [0, 2])))] sz)) 0 0 (va_A [(h0, .inl (Y 1, 4, .inl (jw_l 0 [0, 2])))] sz) := by
  refine jw_met (fun A => jw_Qi D (fun r => r = 0) (fun w => w = [(h0, .inl (Y 1, 4, .inl (jw_l 0 [0, 3])))]) A) (cc := cX4_readRow) (maxL := 5) (ret := (some .boolean)) pn_X4_readRow rfl rfl ?_
  intro p e s m below meth c A H locs ls hx hb hml hr hts hown hlocks hin hP hD hA hS hE hl
  have hown : s.vm.findClass RX4 = some m.cls := hown
  have hl : lv_has ls 5 [(0, .int 3), (1, .int 2), (2, .ref h0)] := hl
  refine lv_iconst (v := 0) hx hb dX4_readRow_0 (by decide +kernel) ?_
  refine lv_istore_n (lv' := [(3, .int 0), (0, .int 3), (1, .int 2), (2, .ref h0)]) hx hb dX4_readRow_1 rfl hl (by decide) rfl (fun ls hl => ?_)
  refine lv_iconst (v := 0) hx hb dX4_readRow_2 (by decide +kernel) ?_
  refine lv_istore (lv' := [(4, .int 0), (3, .int 0), (0, .int 3), (1, .int 2), (2, .ref h0)]) hx hb dX4_readRow_3 hl (by decide) rfl (fun ls hl => ?_)
  refine lv_iload hx hb dX4_readRow_5 (lv_at hl 0 rfl) ?_
  refine lv_iload_n hx hb dX4_readRow_7 rfl (lv_at hl 3 rfl) ?_
  refine lv_icmp_ge (tgt := 49) hx hb dX4_readRow_8 (by decide) (fun c9 => absurd c9 (by decide +kernel)) (fun _ => ?_)
  refine lv_iload hx hb dX4_readRow_11 (lv_at hl 0 rfl) ?_
  refine lv_aload_n hx hb dX4_readRow_13 rfl (lv_at hl 4 rfl) ?_
  refine jw_alen (v := 4) hx hb hE hP 0 1 rfl rfl (by decide +kernel) dX4_readRow_14 ?_
  refine lv_icmp_ge (tgt := 49) hx hb dX4_readRow_15 (by decide) (fun c9 => absurd c9 (by decide +kernel)) (fun _ => ?_)
  refine lv_aload_n hx hb dX4_readRow_18 rfl (lv_at hl 4 rfl) ?_
  refine lv_iload hx hb dX4_readRow_19 (lv_at hl 0 rfl) ?_
  refine lv_iload_n hx hb dX4_readRow_21 rfl (lv_at hl 2 rfl) ?_
  refine lv_iconst (v := 2) hx hb dX4_readRow_22 (by decide +kernel) ?_
  refine lv_iload_n hx hb dX4_readRow_23 rfl (lv_at hl 3 rfl) ?_
  refine lv_iconst (v := 1) hx hb dX4_readRow_24 (by decide +kernel) ?_
  refine jw_isub (v := 1) hx hb dX4_readRow_25 (by decide +kernel) ?_
  refine lv_iload hx hb dX4_readRow_26 (lv_at hl 0 rfl) ?_
  refine jw_isub (v := 1) hx hb dX4_readRow_28 (by decide +kernel) ?_
  refine jw_imul (v := 2) hx hb dX4_readRow_29 (by decide +kernel) ?_
  refine lv_iushr (v := 0) hx hb dX4_readRow_30 (by decide +kernel) ?_
  refine lv_iconst (v := 3) hx hb dX4_readRow_31 (by decide +kernel) ?_
  refine jw_iand (v := 0) hx hb dX4_readRow_32 (by decide +kernel) ?_
  refine jw_iast (ws' := [(h0, .inl (Y 1, 4, .inl (jw_l 0 [0, 2])))]) hx hb hE hP hD hS 0 0 [0, 2] rfl (by decide +kernel) (by decide +kernel) rfl dX4_readRow_33 (fun H locs hP hD hS => ?_)
  refine lv_iload_n hx hb dX4_readRow_34 rfl (lv_at hl 1 rfl) ?_
  refine lv_iconst (v := 1) hx hb dX4_readRow_35 (by decide +kernel) ?_
  refine lv_aload_n hx hb dX4_readRow_36 rfl (lv_at hl 4 rfl) ?_
  refine lv_iload hx hb dX4_readRow_37 (lv_at hl 0 rfl) ?_
  refine jw_iald (v := 0) hx hb hE hP 0 0 rfl (by decide +kernel) (by decide +kernel) dX4_readRow_39 ?_
  refine jw_ishl (v := 1) hx hb dX4_readRow_40 (by decide +kernel) ?_
  refine jw_ior (v := 1) hx hb dX4_readRow_41 (by decide +kernel) ?_
  refine lv_istore_n (lv' := [(3, .int 1), (4, .int 0), (0, .int 3), (1, .int 2), (2, .ref h0)]) hx hb dX4_readRow_42 rfl hl (by decide) rfl (fun ls hl => ?_)
  refine lv_iinc (v := 1) (lv' := [(4, .int 1), (3, .int 1), (0, .int 3), (1, .int 2), (2, .ref h0)]) hx hb dX4_readRow_43 hl (k := 1) rfl (by decide +kernel) (by decide) rfl (fun ls hl => ?_)
  refine lv_goto (tgt := 5) hx hb dX4_readRow_46 (by decide) ?_
  refine lv_iload hx hb dX4_readRow_5 (lv_at hl 0 rfl) ?_
  refine lv_iload_n hx hb dX4_readRow_7 rfl (lv_at hl 3 rfl) ?_
  refine lv_icmp_ge (tgt := 49) hx hb dX4_readRow_8 (by decide) (fun c9 => absurd c9 (by decide +kernel)) (fun _ => ?_)
  refine lv_iload hx hb dX4_readRow_11 (lv_at hl 0 rfl) ?_
  refine lv_aload_n hx hb dX4_readRow_13 rfl (lv_at hl 4 rfl) ?_
  refine jw_alen (v := 4) hx hb hE hP 0 1 rfl rfl (by decide +kernel) dX4_readRow_14 ?_
  refine lv_icmp_ge (tgt := 49) hx hb dX4_readRow_15 (by decide) (fun c9 => absurd c9 (by decide +kernel)) (fun _ => ?_)
  refine lv_aload_n hx hb dX4_readRow_18 rfl (lv_at hl 4 rfl) ?_
  refine lv_iload hx hb dX4_readRow_19 (lv_at hl 0 rfl) ?_
  refine lv_iload_n hx hb dX4_readRow_21 rfl (lv_at hl 2 rfl) ?_
  refine lv_iconst (v := 2) hx hb dX4_readRow_22 (by decide +kernel) ?_
  refine lv_iload_n hx hb dX4_readRow_23 rfl (lv_at hl 3 rfl) ?_
  refine lv_iconst (v := 1) hx hb dX4_readRow_24 (by decide +kernel) ?_
  refine jw_isub (v := 1) hx hb dX4_readRow_25 (by decide +kernel) ?_
  refine lv_iload hx hb dX4_readRow_26 (lv_at hl 0 rfl) ?_
  refine jw_isub (v := 0) hx hb dX4_readRow_28 (by decide +kernel) ?_
  refine jw_imul (v := 0) hx hb dX4_readRow_29 (by decide +kernel) ?_
  refine lv_iushr (v := 3) hx hb dX4_readRow_30 (by decide +kernel) ?_
  refine lv_iconst (v := 3) hx hb dX4_readRow_31 (by decide +kernel) ?_
  refine jw_iand (v := 3) hx hb dX4_readRow_32 (by decide +kernel) ?_
  refine jw_iast (ws' := [(h0, .inl (Y 1, 4, .inl (jw_l 0 [0, 3])))]) hx hb hE hP hD hS 0 1 [0, 3] rfl (by decide +kernel) (by decide +kernel) rfl dX4_readRow_33 (fun H locs hP hD hS => ?_)
  refine lv_iload_n hx hb dX4_readRow_34 rfl (lv_at hl 1 rfl) ?_
  refine lv_iconst (v := 1) hx hb dX4_readRow_35 (by decide +kernel) ?_
  refine lv_aload_n hx hb dX4_readRow_36 rfl (lv_at hl 4 rfl) ?_
  refine lv_iload hx hb dX4_readRow_37 (lv_at hl 0 rfl) ?_
  refine jw_iald (v := 3) hx hb hE hP 0 1 rfl (by decide +kernel) (by decide +kernel) dX4_readRow_39 ?_
  refine jw_ishl (v := 8) hx hb dX4_readRow_40 (by decide +kernel) ?_
  refine jw_ior (v := 9) hx hb dX4_readRow_41 (by decide +kernel) ?_
  refine lv_istore_n (lv' := [(3, .int 9), (4, .int 1), (0, .int 3), (1, .int 2), (2, .ref h0)]) hx hb dX4_readRow_42 rfl hl (by decide) rfl (fun ls hl => ?_)
  refine lv_iinc (v := 2) (lv' := [(4, .int 2), (3, .int 9), (0, .int 3), (1, .int 2), (2, .ref h0)]) hx hb dX4_readRow_43 hl (k := 1) rfl (by decide +kernel) (by decide) rfl (fun ls hl => ?_)
  refine lv_goto (tgt := 5) hx hb dX4_readRow_46 (by decide) ?_
  refine lv_iload hx hb dX4_readRow_5 (lv_at hl 0 rfl) ?_
  refine lv_iload_n hx hb dX4_readRow_7 rfl (lv_at hl 3 rfl) ?_
  refine lv_icmp_ge (tgt := 49) hx hb dX4_readRow_8 (by decide) (fun _ => ?_) (fun c9 => absurd (by decide +kernel) c9)
  refine lv_iload_n hx hb dX4_readRow_49 rfl (lv_at hl 1 rfl) ?_
  refine lv_iconst (v := 1) hx hb dX4_readRow_50 (by decide +kernel) ?_
  refine lv_iload_n hx hb dX4_readRow_51 rfl (lv_at hl 3 rfl) ?_
  refine jw_ishl (v := 4) hx hb dX4_readRow_52 (by decide +kernel) ?_
  refine lv_iconst (v := 1) hx hb dX4_readRow_53 (by decide +kernel) ?_
  refine jw_isub (v := 3) hx hb dX4_readRow_54 (by decide +kernel) ?_
  refine lv_icmp_ne (tgt := 62) hx hb dX4_readRow_55 (by decide) (fun _ => ?_) (fun c9 => absurd c9 (by decide +kernel))
  refine lv_iconst (v := 0) hx hb dX4_readRow_62 (by decide +kernel) ?_
  refine W.widen (k := 0) (n := 0) (Nat.le_of_ble_eq_true rfl) (Nat.le_of_ble_eq_true rfl) ?_
  exact jw_zret hx hb hr hlocks rfl rfl rfl hP hD hS dX4_readRow_63
set_option maxHeartbeats 4000000 in
set_option maxRecDepth 100000 in
theorem k21_X4_readRow {l : Launch} {D : va_G} {Y : Nat → ClassId} {tt : Nat → Nat} (h0 : Nat) (sz : Nat) : Met l yX4_readRow wsX4_readRow ({ frames := 0, cells := 0, slots := 0, locals := 0 }) (jw_Pc D Y tt [.int 4, .int 2, .ref h0] [(h0, .inl (Y 1, 4, .inl (jw_l 0 [0, 3])))] sz) (jw_Qi D (fun r => r = 1) (fun w => w = [(h0, .inl (Y 1, 4, .inl (jw_l 0 [1, 0])))]) (va_A [(h0, .inl (Y 1, 4, .inl (jw_l 0 [0, 3])))] sz)) 0 0 (va_A [(h0, .inl (Y 1, 4, .inl (jw_l 0 [0, 3])))] sz) := by
  refine jw_met (fun A => jw_Qi D (fun r => r = 1) (fun w => w = [(h0, .inl (Y 1, 4, .inl (jw_l 0 [1, 0])))]) A) (cc := cX4_readRow) (maxL := 5) (ret := (some .boolean)) pn_X4_readRow rfl rfl ?_
  intro p e s m below meth c A H locs ls hx hb hml hr hts hown hlocks hin hP hD hA hS hE hl
  have hown : s.vm.findClass RX4 = some m.cls := hown
  have hl : lv_has ls 5 [(0, .int 4), (1, .int 2), (2, .ref h0)] := hl
  refine lv_iconst (v := 0) hx hb dX4_readRow_0 (by decide +kernel) ?_
  refine lv_istore_n (lv' := [(3, .int 0), (0, .int 4), (1, .int 2), (2, .ref h0)]) hx hb dX4_readRow_1 rfl hl (by decide) rfl (fun ls hl => ?_)
  refine lv_iconst (v := 0) hx hb dX4_readRow_2 (by decide +kernel) ?_
  refine lv_istore (lv' := [(4, .int 0), (3, .int 0), (0, .int 4), (1, .int 2), (2, .ref h0)]) hx hb dX4_readRow_3 hl (by decide) rfl (fun ls hl => ?_)
  refine lv_iload hx hb dX4_readRow_5 (lv_at hl 0 rfl) ?_
  refine lv_iload_n hx hb dX4_readRow_7 rfl (lv_at hl 3 rfl) ?_
  refine lv_icmp_ge (tgt := 49) hx hb dX4_readRow_8 (by decide) (fun c9 => absurd c9 (by decide +kernel)) (fun _ => ?_)
  refine lv_iload hx hb dX4_readRow_11 (lv_at hl 0 rfl) ?_
  refine lv_aload_n hx hb dX4_readRow_13 rfl (lv_at hl 4 rfl) ?_
  refine jw_alen (v := 4) hx hb hE hP 0 1 rfl rfl (by decide +kernel) dX4_readRow_14 ?_
  refine lv_icmp_ge (tgt := 49) hx hb dX4_readRow_15 (by decide) (fun c9 => absurd c9 (by decide +kernel)) (fun _ => ?_)
  refine lv_aload_n hx hb dX4_readRow_18 rfl (lv_at hl 4 rfl) ?_
  refine lv_iload hx hb dX4_readRow_19 (lv_at hl 0 rfl) ?_
  refine lv_iload_n hx hb dX4_readRow_21 rfl (lv_at hl 2 rfl) ?_
  refine lv_iconst (v := 2) hx hb dX4_readRow_22 (by decide +kernel) ?_
  refine lv_iload_n hx hb dX4_readRow_23 rfl (lv_at hl 3 rfl) ?_
  refine lv_iconst (v := 1) hx hb dX4_readRow_24 (by decide +kernel) ?_
  refine jw_isub (v := 1) hx hb dX4_readRow_25 (by decide +kernel) ?_
  refine lv_iload hx hb dX4_readRow_26 (lv_at hl 0 rfl) ?_
  refine jw_isub (v := 1) hx hb dX4_readRow_28 (by decide +kernel) ?_
  refine jw_imul (v := 2) hx hb dX4_readRow_29 (by decide +kernel) ?_
  refine lv_iushr (v := 1) hx hb dX4_readRow_30 (by decide +kernel) ?_
  refine lv_iconst (v := 3) hx hb dX4_readRow_31 (by decide +kernel) ?_
  refine jw_iand (v := 1) hx hb dX4_readRow_32 (by decide +kernel) ?_
  refine jw_iast (ws' := [(h0, .inl (Y 1, 4, .inl (jw_l 0 [1, 3])))]) hx hb hE hP hD hS 0 0 [1, 3] rfl (by decide +kernel) (by decide +kernel) rfl dX4_readRow_33 (fun H locs hP hD hS => ?_)
  refine lv_iload_n hx hb dX4_readRow_34 rfl (lv_at hl 1 rfl) ?_
  refine lv_iconst (v := 1) hx hb dX4_readRow_35 (by decide +kernel) ?_
  refine lv_aload_n hx hb dX4_readRow_36 rfl (lv_at hl 4 rfl) ?_
  refine lv_iload hx hb dX4_readRow_37 (lv_at hl 0 rfl) ?_
  refine jw_iald (v := 1) hx hb hE hP 0 0 rfl (by decide +kernel) (by decide +kernel) dX4_readRow_39 ?_
  refine jw_ishl (v := 2) hx hb dX4_readRow_40 (by decide +kernel) ?_
  refine jw_ior (v := 2) hx hb dX4_readRow_41 (by decide +kernel) ?_
  refine lv_istore_n (lv' := [(3, .int 2), (4, .int 0), (0, .int 4), (1, .int 2), (2, .ref h0)]) hx hb dX4_readRow_42 rfl hl (by decide) rfl (fun ls hl => ?_)
  refine lv_iinc (v := 1) (lv' := [(4, .int 1), (3, .int 2), (0, .int 4), (1, .int 2), (2, .ref h0)]) hx hb dX4_readRow_43 hl (k := 1) rfl (by decide +kernel) (by decide) rfl (fun ls hl => ?_)
  refine lv_goto (tgt := 5) hx hb dX4_readRow_46 (by decide) ?_
  refine lv_iload hx hb dX4_readRow_5 (lv_at hl 0 rfl) ?_
  refine lv_iload_n hx hb dX4_readRow_7 rfl (lv_at hl 3 rfl) ?_
  refine lv_icmp_ge (tgt := 49) hx hb dX4_readRow_8 (by decide) (fun c9 => absurd c9 (by decide +kernel)) (fun _ => ?_)
  refine lv_iload hx hb dX4_readRow_11 (lv_at hl 0 rfl) ?_
  refine lv_aload_n hx hb dX4_readRow_13 rfl (lv_at hl 4 rfl) ?_
  refine jw_alen (v := 4) hx hb hE hP 0 1 rfl rfl (by decide +kernel) dX4_readRow_14 ?_
  refine lv_icmp_ge (tgt := 49) hx hb dX4_readRow_15 (by decide) (fun c9 => absurd c9 (by decide +kernel)) (fun _ => ?_)
  refine lv_aload_n hx hb dX4_readRow_18 rfl (lv_at hl 4 rfl) ?_
  refine lv_iload hx hb dX4_readRow_19 (lv_at hl 0 rfl) ?_
  refine lv_iload_n hx hb dX4_readRow_21 rfl (lv_at hl 2 rfl) ?_
  refine lv_iconst (v := 2) hx hb dX4_readRow_22 (by decide +kernel) ?_
  refine lv_iload_n hx hb dX4_readRow_23 rfl (lv_at hl 3 rfl) ?_
  refine lv_iconst (v := 1) hx hb dX4_readRow_24 (by decide +kernel) ?_
  refine jw_isub (v := 1) hx hb dX4_readRow_25 (by decide +kernel) ?_
  refine lv_iload hx hb dX4_readRow_26 (lv_at hl 0 rfl) ?_
  refine jw_isub (v := 0) hx hb dX4_readRow_28 (by decide +kernel) ?_
  refine jw_imul (v := 0) hx hb dX4_readRow_29 (by decide +kernel) ?_
  refine lv_iushr (v := 4) hx hb dX4_readRow_30 (by decide +kernel) ?_
  refine lv_iconst (v := 3) hx hb dX4_readRow_31 (by decide +kernel) ?_
  refine jw_iand (v := 0) hx hb dX4_readRow_32 (by decide +kernel) ?_
  refine jw_iast (ws' := [(h0, .inl (Y 1, 4, .inl (jw_l 0 [1, 0])))]) hx hb hE hP hD hS 0 1 [1, 0] rfl (by decide +kernel) (by decide +kernel) rfl dX4_readRow_33 (fun H locs hP hD hS => ?_)
  refine lv_iload_n hx hb dX4_readRow_34 rfl (lv_at hl 1 rfl) ?_
  refine lv_iconst (v := 1) hx hb dX4_readRow_35 (by decide +kernel) ?_
  refine lv_aload_n hx hb dX4_readRow_36 rfl (lv_at hl 4 rfl) ?_
  refine lv_iload hx hb dX4_readRow_37 (lv_at hl 0 rfl) ?_
  refine jw_iald (v := 0) hx hb hE hP 0 1 rfl (by decide +kernel) (by decide +kernel) dX4_readRow_39 ?_
  refine jw_ishl (v := 1) hx hb dX4_readRow_40 (by decide +kernel) ?_
  refine jw_ior (v := 3) hx hb dX4_readRow_41 (by decide +kernel) ?_
  refine lv_istore_n (lv' := [(3, .int 3), (4, .int 1), (0, .int 4), (1, .int 2), (2, .ref h0)]) hx hb dX4_readRow_42 rfl hl (by decide) rfl (fun ls hl => ?_)
  refine lv_iinc (v := 2) (lv' := [(4, .int 2), (3, .int 3), (0, .int 4), (1, .int 2), (2, .ref h0)]) hx hb dX4_readRow_43 hl (k := 1) rfl (by decide +kernel) (by decide) rfl (fun ls hl => ?_)
  refine lv_goto (tgt := 5) hx hb dX4_readRow_46 (by decide) ?_
  refine lv_iload hx hb dX4_readRow_5 (lv_at hl 0 rfl) ?_
  refine lv_iload_n hx hb dX4_readRow_7 rfl (lv_at hl 3 rfl) ?_
  refine lv_icmp_ge (tgt := 49) hx hb dX4_readRow_8 (by decide) (fun _ => ?_) (fun c9 => absurd (by decide +kernel) c9)
  refine lv_iload_n hx hb dX4_readRow_49 rfl (lv_at hl 1 rfl) ?_
  refine lv_iconst (v := 1) hx hb dX4_readRow_50 (by decide +kernel) ?_
  refine lv_iload_n hx hb dX4_readRow_51 rfl (lv_at hl 3 rfl) ?_
  refine jw_ishl (v := 4) hx hb dX4_readRow_52 (by decide +kernel) ?_
  refine lv_iconst (v := 1) hx hb dX4_readRow_53 (by decide +kernel) ?_
  refine jw_isub (v := 3) hx hb dX4_readRow_54 (by decide +kernel) ?_
  refine lv_icmp_ne (tgt := 62) hx hb dX4_readRow_55 (by decide) (fun c9 => absurd (by decide +kernel) c9) (fun _ => ?_)
  refine lv_iconst (v := 1) hx hb dX4_readRow_58 (by decide +kernel) ?_
  refine lv_goto (tgt := 63) hx hb dX4_readRow_59 (by decide) ?_
  refine W.widen (k := 0) (n := 0) (Nat.le_of_ble_eq_true rfl) (Nat.le_of_ble_eq_true rfl) ?_
  exact jw_zret hx hb hr hlocks rfl rfl rfl hP hD hS dX4_readRow_63
set_option maxHeartbeats 4000000 in
set_option maxRecDepth 100000 in
theorem k22_X4_addRow {l : Launch} {D : va_G} {Y : Nat → ClassId} {tt : Nat → Nat} (h0 h1 h2 h3 h4 h5 : Nat) (sz : Nat) : Met l yX4_addRow wsX4_addRow ({ frames := 0, cells := 0, slots := 0, locals := 0 }) (jw_Pc D Y tt [.ref h0] [(h0, .inr (7, [.int 2, .int 1, .int 0, .int 0, .ref h1, .ref h2, .ref h3, .ref h5, .ref h4])), (h1, .inl (Y 1, 96, .inl (jw_l 0 [0, 1]))), (h2, .inl (Y 1, 96, .inl (jw_l 0 [0, 1]))), (h3, .inl (Y 1, 16, .inl (jw_l 0 [1, 0, 0, 0, 0, 1]))), (h4, .inl (Y 1, 4, .inl (jw_l 0 [1, 0])))] sz) (jw_Qv D (fun w => w = [(h0, .inr (7, [.int 2, .int 2, .int 0, .int 0, .ref h1, .ref h2, .ref h3, .ref h5, .ref h4])), (h1, .inl (Y 1, 96, .inl (jw_l 0 [0, 1, 0, 0, 1, 0]))), (h2, .inl (Y 1, 96, .inl (jw_l 0 [0, 1, 0, 0, 1, 0]))), (h3, .inl (Y 1, 16, .inl (jw_l 0 [1, 2, 0, 0, 2, 1]))), (h4, .inl (Y 1, 4, .inl (jw_l 0 [1, 0])))]) (va_A [(h0, .inr (7, [.int 2, .int 1, .int 0, .int 0, .ref h1, .ref h2, .ref h3, .ref h5, .ref h4])), (h1, .inl (Y 1, 96, .inl (jw_l 0 [0, 1]))), (h2, .inl (Y 1, 96, .inl (jw_l 0 [0, 1]))), (h3, .inl (Y 1, 16, .inl (jw_l 0 [1, 0, 0, 0, 0, 1]))), (h4, .inl (Y 1, 4, .inl (jw_l 0 [1, 0])))] sz)) 0 0 (va_A [(h0, .inr (7, [.int 2, .int 1, .int 0, .int 0, .ref h1, .ref h2, .ref h3, .ref h5, .ref h4])), (h1, .inl (Y 1, 96, .inl (jw_l 0 [0, 1]))), (h2, .inl (Y 1, 96, .inl (jw_l 0 [0, 1]))), (h3, .inl (Y 1, 16, .inl (jw_l 0 [1, 0, 0, 0, 0, 1]))), (h4, .inl (Y 1, 4, .inl (jw_l 0 [1, 0])))] sz) := by
  refine jw_met (fun A => jw_Qv D (fun w => w = [(h0, .inr (7, [.int 2, .int 2, .int 0, .int 0, .ref h1, .ref h2, .ref h3, .ref h5, .ref h4])), (h1, .inl (Y 1, 96, .inl (jw_l 0 [0, 1, 0, 0, 1, 0]))), (h2, .inl (Y 1, 96, .inl (jw_l 0 [0, 1, 0, 0, 1, 0]))), (h3, .inl (Y 1, 16, .inl (jw_l 0 [1, 2, 0, 0, 2, 1]))), (h4, .inl (Y 1, 4, .inl (jw_l 0 [1, 0])))]) A) (cc := cX4_addRow) (maxL := 3) (ret := none) pn_X4_addRow rfl rfl ?_
  intro p e s m below meth c A H locs ls hx hb hml hr hts hown hlocks hin hP hD hA hS hE hl
  have hown : s.vm.findClass RX4 = some m.cls := hown
  have hl : lv_has ls 3 [(0, .ref h0)] := hl
  refine lv_iconst (v := 0) hx hb dX4_addRow_0 (by decide +kernel) ?_
  refine lv_istore_n (lv' := [(1, .int 0), (0, .ref h0)]) hx hb dX4_addRow_1 rfl hl (by decide) rfl (fun ls hl => ?_)
  refine lv_iload_n hx hb dX4_addRow_2 rfl (lv_at hl 0 rfl) ?_
  refine lv_aload_n hx hb dX4_addRow_3 rfl (lv_at hl 1 rfl) ?_
  refine va_get (D := D) (ci := 7) (v := .int 2) (C := RX4) (T := TX4) (N := 9) hx hb hts iw_X4_addRow__X4 hown hE.1 hP 0 rfl rfl 0 (by decide) (hts _ mw_X4_addRow__1) (fun _ h9 => h9) rfl dX4_addRow_4 ?_
  refine lv_icmp_ge (tgt := 70) hx hb dX4_addRow_7 (by decide) (fun c9 => absurd c9 (by decide +kernel)) (fun _ => ?_)
  refine lv_aload_n hx hb dX4_addRow_10 rfl (lv_at hl 1 rfl) ?_
  refine va_get (D := D) (ci := 7) (v := .ref h4) (C := RX4) (T := TX4) (N := 9) hx hb hts iw_X4_addRow__X4 hown hE.1 hP 0 rfl rfl 8 (by decide) (hts _ mw_X4_addRow__2) (fun _ h9 => h9) rfl dX4_addRow_11 ?_
  refine lv_iload_n hx hb dX4_addRow_14 rfl (lv_at hl 0 rfl) ?_
  refine jw_iald (v := 1) hx hb hE hP 4 0 rfl (by decide +kernel) (by decide +kernel) dX4_addRow_15 ?_
  refine lv_istore_n (lv' := [(2, .int 1), (1, .int 0), (0, .ref h0)]) hx hb dX4_addRow_16 rfl hl (by decide) rfl (fun ls hl => ?_)
  refine lv_aload_n hx hb dX4_addRow_17 rfl (lv_at hl 2 rfl) ?_
  refine va_get (D := D) (ci := 7) (v := .ref h1) (C := RX4) (T := TX4) (N := 9) hx hb hts iw_X4_addRow__X4 hown hE.1 hP 0 rfl rfl 4 (by decide) (hts _ mw_X4_addRow__3) (fun _ h9 => h9) rfl dX4_addRow_18 ?_
  refine lv_aload_n hx hb dX4_addRow_21 rfl (lv_at hl 2 rfl) ?_
  refine va_get (D := D) (ci := 7) (v := .int 1) (C := RX4) (T := TX4) (N := 9) hx hb hts iw_X4_addRow__X4 hown hE.1 hP 0 rfl rfl 1 (by decide) (hts _ mw_X4_addRow__4) (fun _ h9 => h9) rfl dX4_addRow_22 ?_
  refine lv_iconst (v := 4) hx hb dX4_addRow_25 (by decide +kernel) ?_
  refine jw_imul (v := 4) hx hb dX4_addRow_26 (by decide +kernel) ?_
  refine lv_iload_n hx hb dX4_addRow_27 rfl (lv_at hl 1 rfl) ?_
  refine jw_iadd (v := 4) hx hb dX4_addRow_28 (by decide +kernel) ?_
  refine lv_iload_n hx hb dX4_addRow_29 rfl (lv_at hl 0 rfl) ?_
  refine jw_iast (ws' := [(h0, .inr (7, [.int 2, .int 1, .int 0, .int 0, .ref h1, .ref h2, .ref h3, .ref h5, .ref h4])), (h1, .inl (Y 1, 96, .inl (jw_l 0 [0, 1, 0, 0, 1]))), (h2, .inl (Y 1, 96, .inl (jw_l 0 [0, 1]))), (h3, .inl (Y 1, 16, .inl (jw_l 0 [1, 0, 0, 0, 0, 1]))), (h4, .inl (Y 1, 4, .inl (jw_l 0 [1, 0])))]) hx hb hE hP hD hS 1 4 [0, 1, 0, 0, 1] rfl (by decide +kernel) (by decide +kernel) rfl dX4_addRow_30 (fun H locs hP hD hS => ?_)
  refine lv_aload_n hx hb dX4_addRow_31 rfl (lv_at hl 2 rfl) ?_
  refine va_get (D := D) (ci := 7) (v := .ref h2) (C := RX4) (T := TX4) (N := 9) hx hb hts iw_X4_addRow__X4 hown hE.1 hP 0 rfl rfl 5 (by decide) (hts _ mw_X4_addRow__5) (fun _ h9 => h9) rfl dX4_addRow_32 ?_
  refine lv_aload_n hx hb dX4_addRow_35 rfl (lv_at hl 2 rfl) ?_
  refine va_get (D := D) (ci := 7) (v := .int 1) (C := RX4) (T := TX4) (N := 9) hx hb hts iw_X4_addRow__X4 hown hE.1 hP 0 rfl rfl 1 (by decide) (hts _ mw_X4_addRow__4) (fun _ h9 => h9) rfl dX4_addRow_36 ?_
  refine lv_iconst (v := 4) hx hb dX4_addRow_39 (by decide +kernel) ?_
  refine jw_imul (v := 4) hx hb dX4_addRow_40 (by decide +kernel) ?_
  refine lv_iload_n hx hb dX4_addRow_41 rfl (lv_at hl 0 rfl) ?_
  refine jw_iadd (v := 5) hx hb dX4_addRow_42 (by decide +kernel) ?_
  refine lv_iload_n hx hb dX4_addRow_43 rfl (lv_at hl 1 rfl) ?_
  refine jw_iast (ws' := [(h0, .inr (7, [.int 2, .int 1, .int 0, .int 0, .ref h1, .ref h2, .ref h3, .ref h5, .ref h4])), (h1, .inl (Y 1, 96, .inl (jw_l 0 [0, 1, 0, 0, 1]))), (h2, .inl (Y 1, 96, .inl (jw_l 0 [0, 1, 0, 0, 0, 0]))), (h3, .inl (Y 1, 16, .inl (jw_l 0 [1, 0, 0, 0, 0, 1]))), (h4, .inl (Y 1, 4, .inl (jw_l 0 [1, 0])))]) hx hb hE hP hD hS 2 5 [0, 1, 0, 0, 0, 0] rfl (by decide +kernel) (by decide +kernel) rfl dX4_addRow_44 (fun H locs hP hD hS => ?_)
  refine lv_aload_n hx hb dX4_addRow_45 rfl (lv_at hl 2 rfl) ?_
  refine va_get (D := D) (ci := 7) (v := .ref h3) (C := RX4) (T := TX4) (N := 9) hx hb hts iw_X4_addRow__X4 hown hE.1 hP 0 rfl rfl 6 (by decide) (hts _ mw_X4_addRow__6) (fun _ h9 => h9) rfl dX4_addRow_46 ?_
  refine lv_iload_n hx hb dX4_addRow_49 rfl (lv_at hl 1 rfl) ?_
  refine lv_iconst (v := 4) hx hb dX4_addRow_50 (by decide +kernel) ?_
  refine jw_imul (v := 0) hx hb dX4_addRow_51 (by decide +kernel) ?_
  refine lv_iload_n hx hb dX4_addRow_52 rfl (lv_at hl 0 rfl) ?_
  refine jw_iadd (v := 1) hx hb dX4_addRow_53 (by decide +kernel) ?_
  refine lv_dup2_11 hx hb dX4_addRow_54 rfl rfl ?_
  refine jw_iald (v := 0) hx hb hE hP 3 1 rfl (by decide +kernel) (by decide +kernel) dX4_addRow_55 ?_
  refine lv_iconst (v := 1) hx hb dX4_addRow_56 (by decide +kernel) ?_
  refine lv_aload_n hx hb dX4_addRow_57 rfl (lv_at hl 2 rfl) ?_
  refine va_get (D := D) (ci := 7) (v := .int 1) (C := RX4) (T := TX4) (N := 9) hx hb hts iw_X4_addRow__X4 hown hE.1 hP 0 rfl rfl 1 (by decide) (hts _ mw_X4_addRow__4) (fun _ h9 => h9) rfl dX4_addRow_58 ?_
  refine jw_ishl (v := 2) hx hb dX4_addRow_61 (by decide +kernel) ?_
  refine jw_ior (v := 2) hx hb dX4_addRow_62 (by decide +kernel) ?_
  refine jw_iast (ws' := [(h0, .inr (7, [.int 2, .int 1, .int 0, .int 0, .ref h1, .ref h2, .ref h3, .ref h5, .ref h4])), (h1, .inl (Y 1, 96, .inl (jw_l 0 [0, 1, 0, 0, 1]))), (h2, .inl (Y 1, 96, .inl (jw_l 0 [0, 1, 0, 0, 0, 0]))), (h3, .inl (Y 1, 16, .inl (jw_l 0 [1, 2, 0, 0, 0, 1]))), (h4, .inl (Y 1, 4, .inl (jw_l 0 [1, 0])))]) hx hb hE hP hD hS 3 1 [1, 2, 0, 0, 0, 1] rfl (by decide +kernel) (by decide +kernel) rfl dX4_addRow_63 (fun H locs hP hD hS => ?_)
  refine lv_iinc (v := 1) (lv' := [(1, .int 1), (2, .int 1), (0, .ref h0)]) hx hb dX4_addRow_64 hl (k := 1) rfl (by decide +kernel) (by decide) rfl (fun ls hl => ?_)
  refine lv_goto (tgt := 2) hx hb dX4_addRow_67 (by decide) ?_
  refine lv_iload_n hx hb dX4_addRow_2 rfl (lv_at hl 0 rfl) ?_
  refine lv_aload_n hx hb dX4_addRow_3 rfl (lv_at hl 2 rfl) ?_
  refine va_get (D := D) (ci := 7) (v := .int 2) (C := RX4) (T := TX4) (N := 9) hx hb hts iw_X4_addRow__X4 hown hE.1 hP 0 rfl rfl 0 (by decide) (hts _ mw_X4_addRow__1) (fun _ h9 => h9) rfl dX4_addRow_4 ?_
  refine lv_icmp_ge (tgt := 70) hx hb dX4_addRow_7 (by decide) (fun c9 => absurd c9 (by decide +kernel)) (fun _ => ?_)
  refine lv_aload_n hx hb dX4_addRow_10 rfl (lv_at hl 2 rfl) ?_
  refine va_get (D := D) (ci := 7) (v := .ref h4) (C := RX4) (T := TX4) (N := 9) hx hb hts iw_X4_addRow__X4 hown hE.1 hP 0 rfl rfl 8 (by decide) (hts _ mw_X4_addRow__2) (fun _ h9 => h9) rfl dX4_addRow_11 ?_
  refine lv_iload_n hx hb dX4_addRow_14 rfl (lv_at hl 0 rfl) ?_
  refine jw_iald (v := 0) hx hb hE hP 4 1 rfl (by decide +kernel) (by decide +kernel) dX4_addRow_15 ?_
  refine lv_istore_n (lv' := [(2, .int 0), (1, .int 1), (0, .ref h0)]) hx hb dX4_addRow_16 rfl hl (by decide) rfl (fun ls hl => ?_)
  refine lv_aload_n hx hb dX4_addRow_17 rfl (lv_at hl 2 rfl) ?_
  refine va_get (D := D) (ci := 7) (v := .ref h1) (C := RX4) (T := TX4) (N := 9) hx hb hts iw_X4_addRow__X4 hown hE.1 hP 0 rfl rfl 4 (by decide) (hts _ mw_X4_addRow__3) (fun _ h9 => h9) rfl dX4_addRow_18 ?_
  refine lv_aload_n hx hb dX4_addRow_21 rfl (lv_at hl 2 rfl) ?_
  refine va_get (D := D) (ci := 7) (v := .int 1) (C := RX4) (T := TX4) (N := 9) hx hb hts iw_X4_addRow__X4 hown hE.1 hP 0 rfl rfl 1 (by decide) (hts _ mw_X4_addRow__4) (fun _ h9 => h9) rfl dX4_addRow_22 ?_
  refine lv_iconst (v := 4) hx hb dX4_addRow_25 (by decide +kernel) ?_
  refine jw_imul (v := 4) hx hb dX4_addRow_26 (by decide +kernel) ?_
  refine lv_iload_n hx hb dX4_addRow_27 rfl (lv_at hl 1 rfl) ?_
  refine jw_iadd (v := 5) hx hb dX4_addRow_28 (by decide +kernel) ?_
  refine lv_iload_n hx hb dX4_addRow_29 rfl (lv_at hl 0 rfl) ?_
  refine jw_iast (ws' := [(h0, .inr (7, [.int 2, .int 1, .int 0, .int 0, .ref h1, .ref h2, .ref h3, .ref h5, .ref h4])), (h1, .inl (Y 1, 96, .inl (jw_l 0 [0, 1, 0, 0, 1, 0]))), (h2, .inl (Y 1, 96, .inl (jw_l 0 [0, 1, 0, 0, 0, 0]))), (h3, .inl (Y 1, 16, .inl (jw_l 0 [1, 2, 0, 0, 0, 1]))), (h4, .inl (Y 1, 4, .inl (jw_l 0 [1, 0])))]) hx hb hE hP hD hS 1 5 [0, 1, 0, 0, 1, 0] rfl (by decide +kernel) (by decide +kernel) rfl dX4_addRow_30 (fun H locs hP hD hS => ?_)
  refine lv_aload_n hx hb dX4_addRow_31 rfl (lv_at hl 2 rfl) ?_
  refine va_get (D := D) (ci := 7) (v := .ref h2) (C := RX4) (T := TX4) (N := 9) hx hb hts iw_X4_addRow__X4 hown hE.1 hP 0 rfl rfl 5 (by decide) (hts _ mw_X4_addRow__5) (fun _ h9 => h9) rfl dX4_addRow_32 ?_
  refine lv_aload_n hx hb dX4_addRow_35 rfl (lv_at hl 2 rfl) ?_
  refine va_get (D := D) (ci := 7) (v := .int 1) (C := RX4) (T := TX4) (N := 9) hx hb hts iw_X4_addRow__X4 hown hE.1 hP 0 rfl rfl 1 (by decide) (hts _ mw_X4_addRow__4) (fun _ h9 => h9) rfl dX4_addRow_36 ?_
  refine lv_iconst (v := 4) hx hb dX4_addRow_39 (by decide +kernel) ?_
  refine jw_imul (v := 4) hx hb dX4_addRow_40 (by decide +kernel) ?_
  refine lv_iload_n hx hb dX4_addRow_41 rfl (lv_at hl 0 rfl) ?_
  refine jw_iadd (v := 4) hx hb dX4_addRow_42 (by decide +kernel) ?_
  refine lv_iload_n hx hb dX4_addRow_43 rfl (lv_at hl 1 rfl) ?_
  refine jw_iast (ws' := [(h0, .inr (7, [.int 2, .int 1, .int 0, .int 0, .ref h1, .ref h2, .ref h3, .ref h5, .ref h4])), (h1, .inl (Y 1, 96, .inl (jw_l 0 [0, 1, 0, 0, 1, 0]))), (h2, .inl (Y 1, 96, .inl (jw_l 0 [0, 1, 0, 0, 1, 0]))), (h3, .inl (Y 1, 16, .inl (jw_l 0 [1, 2, 0, 0, 0, 1]))), (h4, .inl (Y 1, 4, .inl (jw_l 0 [1, 0])))]) hx hb hE hP hD hS 2 4 [0, 1, 0, 0, 1, 0] rfl (by decide +kernel) (by decide +kernel) rfl dX4_addRow_44 (fun H locs hP hD hS => ?_)
  refine lv_aload_n hx hb dX4_addRow_45 rfl (lv_at hl 2 rfl) ?_
  refine va_get (D := D) (ci := 7) (v := .ref h3) (C := RX4) (T := TX4) (N := 9) hx hb hts iw_X4_addRow__X4 hown hE.1 hP 0 rfl rfl 6 (by decide) (hts _ mw_X4_addRow__6) (fun _ h9 => h9) rfl dX4_addRow_46 ?_
  refine lv_iload_n hx hb dX4_addRow_49 rfl (lv_at hl 1 rfl) ?_
  refine lv_iconst (v := 4) hx hb dX4_addRow_50 (by decide +kernel) ?_
  refine jw_imul (v := 4) hx hb dX4_addRow_51 (by decide +kernel) ?_
  refine lv_iload_n hx hb dX4_addRow_52 rfl (lv_at hl 0 rfl) ?_
  refine jw_iadd (v := 4) hx hb dX4_addRow_53 (by decide +kernel) ?_
  refine lv_dup2_11 hx hb dX4_addRow_54 rfl rfl ?_
  refine jw_iald (v := 0) hx hb hE hP 3 4 rfl (by decide +kernel) (by decide +kernel) dX4_addRow_55 ?_
  refine lv_iconst (v := 1) hx hb dX4_addRow_56 (by decide +kernel) ?_
  refine lv_aload_n hx hb dX4_addRow_57 rfl (lv_at hl 2 rfl) ?_
  refine va_get (D := D) (ci := 7) (v := .int 1) (C := RX4) (T := TX4) (N := 9) hx hb hts iw_X4_addRow__X4 hown hE.1 hP 0 rfl rfl 1 (by decide) (hts _ mw_X4_addRow__4) (fun _ h9 => h9) rfl dX4_addRow_58 ?_
  refine jw_ishl (v := 2) hx hb dX4_addRow_61 (by decide +kernel) ?_
  refine jw_ior (v := 2) hx hb dX4_addRow_62 (by decide +kernel) ?_
  refine jw_iast (ws' := [(h0, .inr (7, [.int 2, .int 1, .int 0, .int 0, .ref h1, .ref h2, .ref h3, .ref h5, .ref h4])), (h1, .inl (Y 1, 96, .inl (jw_l 0 [0, 1, 0, 0, 1, 0]))), (h2, .inl (Y 1, 96, .inl (jw_l 0 [0, 1, 0, 0, 1, 0]))), (h3, .inl (Y 1, 16, .inl (jw_l 0 [1, 2, 0, 0, 2, 1]))), (h4, .inl (Y 1, 4, .inl (jw_l 0 [1, 0])))]) hx hb hE hP hD hS 3 4 [1, 2, 0, 0, 2, 1] rfl (by decide +kernel) (by decide +kernel) rfl dX4_addRow_63 (fun H locs hP hD hS => ?_)
  refine lv_iinc (v := 2) (lv' := [(1, .int 2), (2, .int 0), (0, .ref h0)]) hx hb dX4_addRow_64 hl (k := 1) rfl (by decide +kernel) (by decide) rfl (fun ls hl => ?_)
  refine lv_goto (tgt := 2) hx hb dX4_addRow_67 (by decide) ?_
  refine lv_iload_n hx hb dX4_addRow_2 rfl (lv_at hl 0 rfl) ?_
  refine lv_aload_n hx hb dX4_addRow_3 rfl (lv_at hl 2 rfl) ?_
  refine va_get (D := D) (ci := 7) (v := .int 2) (C := RX4) (T := TX4) (N := 9) hx hb hts iw_X4_addRow__X4 hown hE.1 hP 0 rfl rfl 0 (by decide) (hts _ mw_X4_addRow__1) (fun _ h9 => h9) rfl dX4_addRow_4 ?_
  refine lv_icmp_ge (tgt := 70) hx hb dX4_addRow_7 (by decide) (fun _ => ?_) (fun c9 => absurd (by decide +kernel) c9)
  refine lv_aload_n hx hb dX4_addRow_70 rfl (lv_at hl 2 rfl) ?_
  refine lv_dup hx hb dX4_addRow_71 rfl ?_
  refine va_get (D := D) (ci := 7) (v := .int 1) (C := RX4) (T := TX4) (N := 9) hx hb hts iw_X4_addRow__X4 hown hE.1 hP 0 rfl rfl 1 (by decide) (hts _ mw_X4_addRow__4) (fun _ h9 => h9) rfl dX4_addRow_72 ?_
  refine lv_iconst (v := 1) hx hb dX4_addRow_75 (by decide +kernel) ?_
  refine jw_iadd (v := 2) hx hb dX4_addRow_76 (by decide +kernel) ?_
  refine va_put (D := D) (ci := 7) (v := .int 2) (C := RX4) (T := TX4) (N := 9) hx hb hts iw_X4_addRow__X4 tyX4 tyX4_ok nmX4 hown hE.1 hP hD hS 0 rfl rfl 1 (by decide) (hts _ mw_X4_addRow__4) (fun _ h9 => h9) rfl (tyX4_ok 1 (by decide)) rfl rfl (Nat.le_of_ble_eq_true rfl) dX4_addRow_77 (fun H locs hP hD hS => ?_)
  have hP : va_P D vwCl [(h0, .inr (7, [.int 2, .int 2, .int 0, .int 0, .ref h1, .ref h2, .ref h3, .ref h5, .ref h4])), (h1, .inl (Y 1, 96, .inl (jw_l 0 [0, 1, 0, 0, 1, 0]))), (h2, .inl (Y 1, 96, .inl (jw_l 0 [0, 1, 0, 0, 1, 0]))), (h3, .inl (Y 1, 16, .inl (jw_l 0 [1, 2, 0, 0, 2, 1]))), (h4, .inl (Y 1, 4, .inl (jw_l 0 [1, 0])))] H := hP
  have hD : va_D A [(h0, .inr (7, [.int 2, .int 2, .int 0, .int 0, .ref h1, .ref h2, .ref h3, .ref h5, .ref h4])), (h1, .inl (Y 1, 96, .inl (jw_l 0 [0, 1, 0, 0, 1, 0]))), (h2, .inl (Y 1, 96, .inl (jw_l 0 [0, 1, 0, 0, 1, 0]))), (h3, .inl (Y 1, 16, .inl (jw_l 0 [1, 2, 0, 0, 2, 1]))), (h4, .inl (Y 1, 4, .inl (jw_l 0 [1, 0])))] := hD
  refine W.widen (k := 0) (n := 0) (Nat.le_of_ble_eq_true rfl) (Nat.le_of_ble_eq_true rfl) ?_
  exact jw_vret hx hb hr hlocks rfl hP hD hS dX4_addRow_80
set_option maxHeartbeats 4000000 in
set_option maxRecDepth 100000 in
theorem k23_X4_readRow {l : Launch} {D : va_G} {Y : Nat → ClassId} {tt : Nat → Nat} (h0 : Nat) (sz : Nat) : Met l yX4_readRow wsX4_readRow ({ frames := 0, cells := 0, slots := 0, locals := 0 }) (jw_Pc D Y tt [.int 5, .int 2, .ref h0] [(h0, .inl (Y 1, 4, .inl (jw_l 0 [1, 0])))] sz) (jw_Qi D (fun r => r = 0) (fun w => w = [(h0, .inl (Y 1, 4, .inl (jw_l 0 [1, 1])))]) (va_A [(h0, .inl (Y 1, 4, .inl (jw_l 0 [1, 0])))] sz)) 0 0 (va_A [(h0, .inl (Y 1, 4, .inl (jw_l 0 [1, 0])))] sz) := by
  refine jw_met (fun A => jw_Qi D (fun r => r = 0) (fun w => w = [(h0, .inl (Y 1, 4, .inl (jw_l 0 [1, 1])))]) A) (cc := cX4_readRow) (maxL := 5) (ret := (some .boolean)) pn_X4_readRow rfl rfl ?_
  intro p e s m below meth c A H locs ls hx hb hml hr hts hown hlocks hin hP hD hA hS hE hl
  have hown : s.vm.findClass RX4 = some m.cls := hown
  have hl : lv_has ls 5 [(0, .int 5), (1, .int 2), (2, .ref h0)] := hl
  refine lv_iconst (v := 0) hx hb dX4_readRow_0 (by decide +kernel) ?_
  refine lv_istore_n (lv' := [(3, .int 0), (0, .int 5), (1, .int 2), (2, .ref h0)]) hx hb dX4_readRow_1 rfl hl (by decide) rfl (fun ls hl => ?_)
  refine lv_iconst (v := 0) hx hb dX4_readRow_2 (by decide +kernel) ?_
  refine lv_istore (lv' := [(4, .int 0), (3, .int 0), (0, .int 5), (1, .int 2), (2, .ref h0)]) hx hb dX4_readRow_3 hl (by decide) rfl (fun ls hl => ?_)
  refine lv_iload hx hb dX4_readRow_5 (lv_at hl 0 rfl) ?_
  refine lv_iload_n hx hb dX4_readRow_7 rfl (lv_at hl 3 rfl) ?_
  refine lv_icmp_ge (tgt := 49) hx hb dX4_readRow_8 (by decide) (fun c9 => absurd c9 (by decide +kernel)) (fun _ => ?_)
  refine lv_iload hx hb dX4_readRow_11 (lv_at hl 0 rfl) ?_
  refine lv_aload_n hx hb dX4_readRow_13 rfl (lv_at hl 4 rfl) ?_
  refine jw_alen (v := 4) hx hb hE hP 0 1 rfl rfl (by decide +kernel) dX4_readRow_14 ?_
  refine lv_icmp_ge (tgt := 49) hx hb dX4_readRow_15 (by decide) (fun c9 => absurd c9 (by decide +kernel)) (fun _ => ?_)
  refine lv_aload_n hx hb dX4_readRow_18 rfl (lv_at hl 4 rfl) ?_
  refine lv_iload hx hb dX4_readRow_19 (lv_at hl 0 rfl) ?_
  refine lv_iload_n hx hb dX4_readRow_21 rfl (lv_at hl 2 rfl) ?_
  refine lv_iconst (v := 2) hx hb dX4_readRow_22 (by decide +kernel) ?_
  refine lv_iload_n hx hb dX4_readRow_23 rfl (lv_at hl 3 rfl) ?_
  refine lv_iconst (v := 1) hx hb dX4_readRow_24 (by decide +kernel) ?_
  refine jw_isub (v := 1) hx hb dX4_readRow_25 (by decide +kernel) ?_
  refine lv_iload hx hb dX4_readRow_26 (lv_at hl 0 rfl) ?_
  refine jw_isub (v := 1) hx hb dX4_readRow_28 (by decide +kernel) ?_
  refine jw_imul (v := 2) hx hb dX4_readRow_29 (by decide +kernel) ?_
  refine lv_iushr (v := 1) hx hb dX4_readRow_30 (by decide +kernel) ?_
  refine lv_iconst (v := 3) hx hb dX4_readRow_31 (by decide +kernel) ?_
  refine jw_iand (v := 1) hx hb dX4_readRow_32 (by decide +kernel) ?_
  refine jw_iast (ws' := [(h0, .inl (Y 1, 4, .inl (jw_l 0 [1, 0])))]) hx hb hE hP hD hS 0 0 [1, 0] rfl (by decide +kernel) (by decide +kernel) rfl dX4_readRow_33 (fun H locs hP hD hS => ?_)
  refine lv_iload_n hx hb dX4_readRow_34 rfl (lv_at hl 1 rfl) ?_
  refine lv_iconst (v := 1) hx hb dX4_readRow_35 (by decide +kernel) ?_
  refine lv_aload_n hx hb dX4_readRow_36 rfl (lv_at hl 4 rfl) ?_
  refine lv_iload hx hb dX4_readRow_37 (lv_at hl 0 rfl) ?_
  refine jw_iald (v := 1) hx hb hE hP 0 0 rfl (by decide +kernel) (by decide +kernel) dX4_readRow_39 ?_
  refine jw_ishl (v := 2) hx hb dX4_readRow_40 (by decide +kernel) ?_
  refine jw_ior (v := 2) hx hb dX4_readRow_41 (by decide +kernel) ?_
  refine lv_istore_n (lv' := [(3, .int 2), (4, .int 0), (0, .int 5), (1, .int 2), (2, .ref h0)]) hx hb dX4_readRow_42 rfl hl (by decide) rfl (fun ls hl => ?_)
  refine lv_iinc (v := 1) (lv' := [(4, .int 1), (3, .int 2), (0, .int 5), (1, .int 2), (2, .ref h0)]) hx hb dX4_readRow_43 hl (k := 1) rfl (by decide +kernel) (by decide) rfl (fun ls hl => ?_)
  refine lv_goto (tgt := 5) hx hb dX4_readRow_46 (by decide) ?_
  refine lv_iload hx hb dX4_readRow_5 (lv_at hl 0 rfl) ?_
  refine lv_iload_n hx hb dX4_readRow_7 rfl (lv_at hl 3 rfl) ?_
  refine lv_icmp_ge (tgt := 49) hx hb dX4_readRow_8 (by decide) (fun c9 => absurd c9 (by decide +kernel)) (fun _ => ?_)
  refine lv_iload hx hb dX4_readRow_11 (lv_at hl 0 rfl) ?_
  refine lv_aload_n hx hb dX4_readRow_13 rfl (lv_at hl 4 rfl) ?_
  refine jw_alen (v := 4) hx hb hE hP 0 1 rfl rfl (by decide +kernel) dX4_readRow_14 ?_
  refine lv_icmp_ge (tgt := 49) hx hb dX4_readRow_15 (by decide) (fun c9 => absurd c9 (by decide +kernel)) (fun _ => ?_)
  refine lv_aload_n hx hb dX4_readRow_18 rfl (lv_at hl 4 rfl) ?_
  refine lv_iload hx hb dX4_readRow_19 (lv_at hl 0 rfl) ?_
  refine lv_iload_n hx hb dX4_readRow_21 rfl (lv_at hl 2 rfl) ?_
  refine lv_iconst (v := 2) hx hb dX4_readRow_22 (by decide +kernel) ?_
  refine lv_iload_n hx hb dX4_readRow_23 rfl (lv_at hl 3 rfl) ?_
  refine lv_iconst (v := 1) hx hb dX4_readRow_24 (by decide +kernel) ?_
  refine jw_isub (v := 1) hx hb dX4_readRow_25 (by decide +kernel) ?_
  refine lv_iload hx hb dX4_readRow_26 (lv_at hl 0 rfl) ?_
  refine jw_isub (v := 0) hx hb dX4_readRow_28 (by decide +kernel) ?_
  refine jw_imul (v := 0) hx hb dX4_readRow_29 (by decide +kernel) ?_
  refine lv_iushr (v := 5) hx hb dX4_readRow_30 (by decide +kernel) ?_
  refine lv_iconst (v := 3) hx hb dX4_readRow_31 (by decide +kernel) ?_
  refine jw_iand (v := 1) hx hb dX4_readRow_32 (by decide +kernel) ?_
  refine jw_iast (ws' := [(h0, .inl (Y 1, 4, .inl (jw_l 0 [1, 1])))]) hx hb hE hP hD hS 0 1 [1, 1] rfl (by decide +kernel) (by decide +kernel) rfl dX4_readRow_33 (fun H locs hP hD hS => ?_)
  refine lv_iload_n hx hb dX4_readRow_34 rfl (lv_at hl 1 rfl) ?_
  refine lv_iconst (v := 1) hx hb dX4_readRow_35 (by decide +kernel) ?_
  refine lv_aload_n hx hb dX4_readRow_36 rfl (lv_at hl 4 rfl) ?_
  refine lv_iload hx hb dX4_readRow_37 (lv_at hl 0 rfl) ?_
  refine jw_iald (v := 1) hx hb hE hP 0 1 rfl (by decide +kernel) (by decide +kernel) dX4_readRow_39 ?_
  refine jw_ishl (v := 2) hx hb dX4_readRow_40 (by decide +kernel) ?_
  refine jw_ior (v := 2) hx hb dX4_readRow_41 (by decide +kernel) ?_
  refine lv_istore_n (lv' := [(3, .int 2), (4, .int 1), (0, .int 5), (1, .int 2), (2, .ref h0)]) hx hb dX4_readRow_42 rfl hl (by decide) rfl (fun ls hl => ?_)
  refine lv_iinc (v := 2) (lv' := [(4, .int 2), (3, .int 2), (0, .int 5), (1, .int 2), (2, .ref h0)]) hx hb dX4_readRow_43 hl (k := 1) rfl (by decide +kernel) (by decide) rfl (fun ls hl => ?_)
  refine lv_goto (tgt := 5) hx hb dX4_readRow_46 (by decide) ?_
  refine lv_iload hx hb dX4_readRow_5 (lv_at hl 0 rfl) ?_
  refine lv_iload_n hx hb dX4_readRow_7 rfl (lv_at hl 3 rfl) ?_
  refine lv_icmp_ge (tgt := 49) hx hb dX4_readRow_8 (by decide) (fun _ => ?_) (fun c9 => absurd (by decide +kernel) c9)
  refine lv_iload_n hx hb dX4_readRow_49 rfl (lv_at hl 1 rfl) ?_
  refine lv_iconst (v := 1) hx hb dX4_readRow_50 (by decide +kernel) ?_
  refine lv_iload_n hx hb dX4_readRow_51 rfl (lv_at hl 3 rfl) ?_
  refine jw_ishl (v := 4) hx hb dX4_readRow_52 (by decide +kernel) ?_
  refine lv_iconst (v := 1) hx hb dX4_readRow_53 (by decide +kernel) ?_
  refine jw_isub (v := 3) hx hb dX4_readRow_54 (by decide +kernel) ?_
  refine lv_icmp_ne (tgt := 62) hx hb dX4_readRow_55 (by decide) (fun _ => ?_) (fun c9 => absurd c9 (by decide +kernel))
  refine lv_iconst (v := 0) hx hb dX4_readRow_62 (by decide +kernel) ?_
  refine W.widen (k := 0) (n := 0) (Nat.le_of_ble_eq_true rfl) (Nat.le_of_ble_eq_true rfl) ?_
  exact jw_zret hx hb hr hlocks rfl rfl rfl hP hD hS dX4_readRow_63
set_option maxHeartbeats 4000000 in
set_option maxRecDepth 100000 in
theorem k24_X4_readRow {l : Launch} {D : va_G} {Y : Nat → ClassId} {tt : Nat → Nat} (h0 : Nat) (sz : Nat) : Met l yX4_readRow wsX4_readRow ({ frames := 0, cells := 0, slots := 0, locals := 0 }) (jw_Pc D Y tt [.int 6, .int 2, .ref h0] [(h0, .inl (Y 1, 4, .inl (jw_l 0 [1, 1])))] sz) (jw_Qi D (fun r => r = 0) (fun w => w = [(h0, .inl (Y 1, 4, .inl (jw_l 0 [1, 2])))]) (va_A [(h0, .inl (Y 1, 4, .inl (jw_l 0 [1, 1])))] sz)) 0 0 (va_A [(h0, .inl (Y 1, 4, .inl (jw_l 0 [1, 1])))] sz) := by
  refine jw_met (fun A => jw_Qi D (fun r => r = 0) (fun w => w = [(h0, .inl (Y 1, 4, .inl (jw_l 0 [1, 2])))]) A) (cc := cX4_readRow) (maxL := 5) (ret := (some .boolean)) pn_X4_readRow rfl rfl ?_
  intro p e s m below meth c A H locs ls hx hb hml hr hts hown hlocks hin hP hD hA hS hE hl
  have hown : s.vm.findClass RX4 = some m.cls := hown
  have hl : lv_has ls 5 [(0, .int 6), (1, .int 2), (2, .ref h0)] := hl
  refine lv_iconst (v := 0) hx hb dX4_readRow_0 (by decide +kernel) ?_
  refine lv_istore_n (lv' := [(3, .int 0), (0, .int 6), (1, .int 2), (2, .ref h0)]) hx hb dX4_readRow_1 rfl hl (by decide) rfl (fun ls hl => ?_)
  refine lv_iconst (v := 0) hx hb dX4_readRow_2 (by decide +kernel) ?_
  refine lv_istore (lv' := [(4, .int 0), (3, .int 0), (0, .int 6), (1, .int 2), (2, .ref h0)]) hx hb dX4_readRow_3 hl (by decide) rfl (fun ls hl => ?_)
  refine lv_iload hx hb dX4_readRow_5 (lv_at hl 0 rfl) ?_
  refine lv_iload_n hx hb dX4_readRow_7 rfl (lv_at hl 3 rfl) ?_
  refine lv_icmp_ge (tgt := 49) hx hb dX4_readRow_8 (by decide) (fun c9 => absurd c9 (by decide +kernel)) (fun _ => ?_)
  refine lv_iload hx hb dX4_readRow_11 (lv_at hl 0 rfl) ?_
  refine lv_aload_n hx hb dX4_readRow_13 rfl (lv_at hl 4 rfl) ?_
  refine jw_alen (v := 4) hx hb hE hP 0 1 rfl rfl (by decide +kernel) dX4_readRow_14 ?_
  refine lv_icmp_ge (tgt := 49) hx hb dX4_readRow_15 (by decide) (fun c9 => absurd c9 (by decide +kernel)) (fun _ => ?_)
  refine lv_aload_n hx hb dX4_readRow_18 rfl (lv_at hl 4 rfl) ?_
  refine lv_iload hx hb dX4_readRow_19 (lv_at hl 0 rfl) ?_
  refine lv_iload_n hx hb dX4_readRow_21 rfl (lv_at hl 2 rfl) ?_
  refine lv_iconst (v := 2) hx hb dX4_readRow_22 (by decide +kernel) ?_
  refine lv_iload_n hx hb dX4_readRow_23 rfl (lv_at hl 3 rfl) ?_
  refine lv_iconst (v := 1) hx hb dX4_readRow_24 (by decide +kernel) ?_
  refine jw_isub (v := 1) hx hb dX4_readRow_25 (by decide +kernel) ?_
  refine lv_iload hx hb dX4_readRow_26 (lv_at hl 0 rfl) ?_
  refine jw_isub (v := 1) hx hb dX4_readRow_28 (by decide +kernel) ?_
  refine jw_imul (v := 2) hx hb dX4_readRow_29 (by decide +kernel) ?_
  refine lv_iushr (v := 1) hx hb dX4_readRow_30 (by decide +kernel) ?_
  refine lv_iconst (v := 3) hx hb dX4_readRow_31 (by decide +kernel) ?_
  refine jw_iand (v := 1) hx hb dX4_readRow_32 (by decide +kernel) ?_
  refine jw_iast (ws' := [(h0, .inl (Y 1, 4, .inl (jw_l 0 [1, 1])))]) hx hb hE hP hD hS 0 0 [1, 1] rfl (by decide +kernel) (by decide +kernel) rfl dX4_readRow_33 (fun H locs hP hD hS => ?_)
  refine lv_iload_n hx hb dX4_readRow_34 rfl (lv_at hl 1 rfl) ?_
  refine lv_iconst (v := 1) hx hb dX4_readRow_35 (by decide +kernel) ?_
  refine lv_aload_n hx hb dX4_readRow_36 rfl (lv_at hl 4 rfl) ?_
  refine lv_iload hx hb dX4_readRow_37 (lv_at hl 0 rfl) ?_
  refine jw_iald (v := 1) hx hb hE hP 0 0 rfl (by decide +kernel) (by decide +kernel) dX4_readRow_39 ?_
  refine jw_ishl (v := 2) hx hb dX4_readRow_40 (by decide +kernel) ?_
  refine jw_ior (v := 2) hx hb dX4_readRow_41 (by decide +kernel) ?_
  refine lv_istore_n (lv' := [(3, .int 2), (4, .int 0), (0, .int 6), (1, .int 2), (2, .ref h0)]) hx hb dX4_readRow_42 rfl hl (by decide) rfl (fun ls hl => ?_)
  refine lv_iinc (v := 1) (lv' := [(4, .int 1), (3, .int 2), (0, .int 6), (1, .int 2), (2, .ref h0)]) hx hb dX4_readRow_43 hl (k := 1) rfl (by decide +kernel) (by decide) rfl (fun ls hl => ?_)
  refine lv_goto (tgt := 5) hx hb dX4_readRow_46 (by decide) ?_
  refine lv_iload hx hb dX4_readRow_5 (lv_at hl 0 rfl) ?_
  refine lv_iload_n hx hb dX4_readRow_7 rfl (lv_at hl 3 rfl) ?_
  refine lv_icmp_ge (tgt := 49) hx hb dX4_readRow_8 (by decide) (fun c9 => absurd c9 (by decide +kernel)) (fun _ => ?_)
  refine lv_iload hx hb dX4_readRow_11 (lv_at hl 0 rfl) ?_
  refine lv_aload_n hx hb dX4_readRow_13 rfl (lv_at hl 4 rfl) ?_
  refine jw_alen (v := 4) hx hb hE hP 0 1 rfl rfl (by decide +kernel) dX4_readRow_14 ?_
  refine lv_icmp_ge (tgt := 49) hx hb dX4_readRow_15 (by decide) (fun c9 => absurd c9 (by decide +kernel)) (fun _ => ?_)
  refine lv_aload_n hx hb dX4_readRow_18 rfl (lv_at hl 4 rfl) ?_
  refine lv_iload hx hb dX4_readRow_19 (lv_at hl 0 rfl) ?_
  refine lv_iload_n hx hb dX4_readRow_21 rfl (lv_at hl 2 rfl) ?_
  refine lv_iconst (v := 2) hx hb dX4_readRow_22 (by decide +kernel) ?_
  refine lv_iload_n hx hb dX4_readRow_23 rfl (lv_at hl 3 rfl) ?_
  refine lv_iconst (v := 1) hx hb dX4_readRow_24 (by decide +kernel) ?_
  refine jw_isub (v := 1) hx hb dX4_readRow_25 (by decide +kernel) ?_
  refine lv_iload hx hb dX4_readRow_26 (lv_at hl 0 rfl) ?_
  refine jw_isub (v := 0) hx hb dX4_readRow_28 (by decide +kernel) ?_
  refine jw_imul (v := 0) hx hb dX4_readRow_29 (by decide +kernel) ?_
  refine lv_iushr (v := 6) hx hb dX4_readRow_30 (by decide +kernel) ?_
  refine lv_iconst (v := 3) hx hb dX4_readRow_31 (by decide +kernel) ?_
  refine jw_iand (v := 2) hx hb dX4_readRow_32 (by decide +kernel) ?_
  refine jw_iast (ws' := [(h0, .inl (Y 1, 4, .inl (jw_l 0 [1, 2])))]) hx hb hE hP hD hS 0 1 [1, 2] rfl (by decide +kernel) (by decide +kernel) rfl dX4_readRow_33 (fun H locs hP hD hS => ?_)
  refine lv_iload_n hx hb dX4_readRow_34 rfl (lv_at hl 1 rfl) ?_
  refine lv_iconst (v := 1) hx hb dX4_readRow_35 (by decide +kernel) ?_
  refine lv_aload_n hx hb dX4_readRow_36 rfl (lv_at hl 4 rfl) ?_
  refine lv_iload hx hb dX4_readRow_37 (lv_at hl 0 rfl) ?_
  refine jw_iald (v := 2) hx hb hE hP 0 1 rfl (by decide +kernel) (by decide +kernel) dX4_readRow_39 ?_
  refine jw_ishl (v := 4) hx hb dX4_readRow_40 (by decide +kernel) ?_
  refine jw_ior (v := 6) hx hb dX4_readRow_41 (by decide +kernel) ?_
  refine lv_istore_n (lv' := [(3, .int 6), (4, .int 1), (0, .int 6), (1, .int 2), (2, .ref h0)]) hx hb dX4_readRow_42 rfl hl (by decide) rfl (fun ls hl => ?_)
  refine lv_iinc (v := 2) (lv' := [(4, .int 2), (3, .int 6), (0, .int 6), (1, .int 2), (2, .ref h0)]) hx hb dX4_readRow_43 hl (k := 1) rfl (by decide +kernel) (by decide) rfl (fun ls hl => ?_)
  refine lv_goto (tgt := 5) hx hb dX4_readRow_46 (by decide) ?_
  refine lv_iload hx hb dX4_readRow_5 (lv_at hl 0 rfl) ?_
  refine lv_iload_n hx hb dX4_readRow_7 rfl (lv_at hl 3 rfl) ?_
  refine lv_icmp_ge (tgt := 49) hx hb dX4_readRow_8 (by decide) (fun _ => ?_) (fun c9 => absurd (by decide +kernel) c9)
  refine lv_iload_n hx hb dX4_readRow_49 rfl (lv_at hl 1 rfl) ?_
  refine lv_iconst (v := 1) hx hb dX4_readRow_50 (by decide +kernel) ?_
  refine lv_iload_n hx hb dX4_readRow_51 rfl (lv_at hl 3 rfl) ?_
  refine jw_ishl (v := 4) hx hb dX4_readRow_52 (by decide +kernel) ?_
  refine lv_iconst (v := 1) hx hb dX4_readRow_53 (by decide +kernel) ?_
  refine jw_isub (v := 3) hx hb dX4_readRow_54 (by decide +kernel) ?_
  refine lv_icmp_ne (tgt := 62) hx hb dX4_readRow_55 (by decide) (fun _ => ?_) (fun c9 => absurd c9 (by decide +kernel))
  refine lv_iconst (v := 0) hx hb dX4_readRow_62 (by decide +kernel) ?_
  refine W.widen (k := 0) (n := 0) (Nat.le_of_ble_eq_true rfl) (Nat.le_of_ble_eq_true rfl) ?_
  exact jw_zret hx hb hr hlocks rfl rfl rfl hP hD hS dX4_readRow_63
set_option maxHeartbeats 4000000 in
set_option maxRecDepth 100000 in
theorem k25_X4_readRow {l : Launch} {D : va_G} {Y : Nat → ClassId} {tt : Nat → Nat} (h0 : Nat) (sz : Nat) : Met l yX4_readRow wsX4_readRow ({ frames := 0, cells := 0, slots := 0, locals := 0 }) (jw_Pc D Y tt [.int 7, .int 2, .ref h0] [(h0, .inl (Y 1, 4, .inl (jw_l 0 [1, 2])))] sz) (jw_Qi D (fun r => r = 0) (fun w => w = [(h0, .inl (Y 1, 4, .inl (jw_l 0 [1, 3])))]) (va_A [(h0, .inl (Y 1, 4, .inl (jw_l 0 [1, 2])))] sz)) 0 0 (va_A [(h0, .inl (Y 1, 4, .inl (jw_l 0 [1, 2])))] sz) := by
  refine jw_met (fun A => jw_Qi D (fun r => r = 0) (fun w => w = [(h0, .inl (Y 1, 4, .inl (jw_l 0 [1, 3])))]) A) (cc := cX4_readRow) (maxL := 5) (ret := (some .boolean)) pn_X4_readRow rfl rfl ?_
  intro p e s m below meth c A H locs ls hx hb hml hr hts hown hlocks hin hP hD hA hS hE hl
  have hown : s.vm.findClass RX4 = some m.cls := hown
  have hl : lv_has ls 5 [(0, .int 7), (1, .int 2), (2, .ref h0)] := hl
  refine lv_iconst (v := 0) hx hb dX4_readRow_0 (by decide +kernel) ?_
  refine lv_istore_n (lv' := [(3, .int 0), (0, .int 7), (1, .int 2), (2, .ref h0)]) hx hb dX4_readRow_1 rfl hl (by decide) rfl (fun ls hl => ?_)
  refine lv_iconst (v := 0) hx hb dX4_readRow_2 (by decide +kernel) ?_
  refine lv_istore (lv' := [(4, .int 0), (3, .int 0), (0, .int 7), (1, .int 2), (2, .ref h0)]) hx hb dX4_readRow_3 hl (by decide) rfl (fun ls hl => ?_)
  refine lv_iload hx hb dX4_readRow_5 (lv_at hl 0 rfl) ?_
  refine lv_iload_n hx hb dX4_readRow_7 rfl (lv_at hl 3 rfl) ?_
  refine lv_icmp_ge (tgt := 49) hx hb dX4_readRow_8 (by decide) (fun c9 => absurd c9 (by decide +kernel)) (fun _ => ?_)
  refine lv_iload hx hb dX4_readRow_11 (lv_at hl 0 rfl) ?_
  refine lv_aload_n hx hb dX4_readRow_13 rfl (lv_at hl 4 rfl) ?_
  refine jw_alen (v := 4) hx hb hE hP 0 1 rfl rfl (by decide +kernel) dX4_readRow_14 ?_
  refine lv_icmp_ge (tgt := 49) hx hb dX4_readRow_15 (by decide) (fun c9 => absurd c9 (by decide +kernel)) (fun _ => ?_)
  refine lv_aload_n hx hb dX4_readRow_18 rfl (lv_at hl 4 rfl) ?_
  refine lv_iload hx hb dX4_readRow_19 (lv_at hl 0 rfl) ?_
  refine lv_iload_n hx hb dX4_readRow_21 rfl (lv_at hl 2 rfl) ?_
  refine lv_iconst (v := 2) hx hb dX4_readRow_22 (by decide +kernel) ?_
  refine lv_iload_n hx hb dX4_readRow_23 rfl (lv_at hl 3 rfl) ?_
  refine lv_iconst (v := 1) hx hb dX4_readRow_24 (by decide +kernel) ?_
  refine jw_isub (v := 1) hx hb dX4_readRow_25 (by decide +kernel) ?_
  refine lv_iload hx hb dX4_readRow_26 (lv_at hl 0 rfl) ?_
  refine jw_isub (v := 1) hx hb dX4_readRow_28 (by decide +kernel) ?_
  refine jw_imul (v := 2) hx hb dX4_readRow_29 (by decide +kernel) ?_
  refine lv_iushr (v := 1) hx hb dX4_readRow_30 (by decide +kernel) ?_
  refine lv_iconst (v := 3) hx hb dX4_readRow_31 (by decide +kernel) ?_
  refine jw_iand (v := 1) hx hb dX4_readRow_32 (by decide +kernel) ?_
  refine jw_iast (ws' := [(h0, .inl (Y 1, 4, .inl (jw_l 0 [1, 2])))]) hx hb hE hP hD hS 0 0 [1, 2] rfl (by decide +kernel) (by decide +kernel) rfl dX4_readRow_33 (fun H locs hP hD hS => ?_)
  refine lv_iload_n hx hb dX4_readRow_34 rfl (lv_at hl 1 rfl) ?_
  refine lv_iconst (v := 1) hx hb dX4_readRow_35 (by decide +kernel) ?_
  refine lv_aload_n hx hb dX4_readRow_36 rfl (lv_at hl 4 rfl) ?_
  refine lv_iload hx hb dX4_readRow_37 (lv_at hl 0 rfl) ?_
  refine jw_iald (v := 1) hx hb hE hP 0 0 rfl (by decide +kernel) (by decide +kernel) dX4_readRow_39 ?_
  refine jw_ishl (v := 2) hx hb dX4_readRow_40 (by decide +kernel) ?_
  refine jw_ior (v := 2) hx hb dX4_readRow_41 (by decide +kernel) ?_
  refine lv_istore_n (lv' := [(3, .int 2), (4, .int 0), (0, .int 7), (1, .int 2), (2, .ref h0)]) hx hb dX4_readRow_42 rfl hl (by decide) rfl (fun ls hl => ?_)
  refine lv_iinc (v := 1) (lv' := [(4, .int 1), (3, .int 2), (0, .int 7), (1, .int 2), (2, .ref h0)]) hx hb dX4_readRow_43 hl (k := 1) rfl (by decide +kernel) (by decide) rfl (fun ls hl => ?_)
  refine lv_goto (tgt := 5) hx hb dX4_readRow_46 (by decide) ?_
  refine lv_iload hx hb dX4_readRow_5 (lv_at hl 0 rfl) ?_
  refine lv_iload_n hx hb dX4_readRow_7 rfl (lv_at hl 3 rfl) ?_
  refine lv_icmp_ge (tgt := 49) hx hb dX4_readRow_8 (by decide) (fun c9 => absurd c9 (by decide +kernel)) (fun _ => ?_)
  refine lv_iload hx hb dX4_readRow_11 (lv_at hl 0 rfl) ?_
  refine lv_aload_n hx hb dX4_readRow_13 rfl (lv_at hl 4 rfl) ?_
  refine jw_alen (v := 4) hx hb hE hP 0 1 rfl rfl (by decide +kernel) dX4_readRow_14 ?_
  refine lv_icmp_ge (tgt := 49) hx hb dX4_readRow_15 (by decide) (fun c9 => absurd c9 (by decide +kernel)) (fun _ => ?_)
  refine lv_aload_n hx hb dX4_readRow_18 rfl (lv_at hl 4 rfl) ?_
  refine lv_iload hx hb dX4_readRow_19 (lv_at hl 0 rfl) ?_
  refine lv_iload_n hx hb dX4_readRow_21 rfl (lv_at hl 2 rfl) ?_
  refine lv_iconst (v := 2) hx hb dX4_readRow_22 (by decide +kernel) ?_
  refine lv_iload_n hx hb dX4_readRow_23 rfl (lv_at hl 3 rfl) ?_
  refine lv_iconst (v := 1) hx hb dX4_readRow_24 (by decide +kernel) ?_
  refine jw_isub (v := 1) hx hb dX4_readRow_25 (by decide +kernel) ?_
  refine lv_iload hx hb dX4_readRow_26 (lv_at hl 0 rfl) ?_
  refine jw_isub (v := 0) hx hb dX4_readRow_28 (by decide +kernel) ?_
  refine jw_imul (v := 0) hx hb dX4_readRow_29 (by decide +kernel) ?_
  refine lv_iushr (v := 7) hx hb dX4_readRow_30 (by decide +kernel) ?_
  refine lv_iconst (v := 3) hx hb dX4_readRow_31 (by decide +kernel) ?_
  refine jw_iand (v := 3) hx hb dX4_readRow_32 (by decide +kernel) ?_
  refine jw_iast (ws' := [(h0, .inl (Y 1, 4, .inl (jw_l 0 [1, 3])))]) hx hb hE hP hD hS 0 1 [1, 3] rfl (by decide +kernel) (by decide +kernel) rfl dX4_readRow_33 (fun H locs hP hD hS => ?_)
  refine lv_iload_n hx hb dX4_readRow_34 rfl (lv_at hl 1 rfl) ?_
  refine lv_iconst (v := 1) hx hb dX4_readRow_35 (by decide +kernel) ?_
  refine lv_aload_n hx hb dX4_readRow_36 rfl (lv_at hl 4 rfl) ?_
  refine lv_iload hx hb dX4_readRow_37 (lv_at hl 0 rfl) ?_
  refine jw_iald (v := 3) hx hb hE hP 0 1 rfl (by decide +kernel) (by decide +kernel) dX4_readRow_39 ?_
  refine jw_ishl (v := 8) hx hb dX4_readRow_40 (by decide +kernel) ?_
  refine jw_ior (v := 10) hx hb dX4_readRow_41 (by decide +kernel) ?_
  refine lv_istore_n (lv' := [(3, .int 10), (4, .int 1), (0, .int 7), (1, .int 2), (2, .ref h0)]) hx hb dX4_readRow_42 rfl hl (by decide) rfl (fun ls hl => ?_)
  refine lv_iinc (v := 2) (lv' := [(4, .int 2), (3, .int 10), (0, .int 7), (1, .int 2), (2, .ref h0)]) hx hb dX4_readRow_43 hl (k := 1) rfl (by decide +kernel) (by decide) rfl (fun ls hl => ?_)
  refine lv_goto (tgt := 5) hx hb dX4_readRow_46 (by decide) ?_
  refine lv_iload hx hb dX4_readRow_5 (lv_at hl 0 rfl) ?_
  refine lv_iload_n hx hb dX4_readRow_7 rfl (lv_at hl 3 rfl) ?_
  refine lv_icmp_ge (tgt := 49) hx hb dX4_readRow_8 (by decide) (fun _ => ?_) (fun c9 => absurd (by decide +kernel) c9)
  refine lv_iload_n hx hb dX4_readRow_49 rfl (lv_at hl 1 rfl) ?_
  refine lv_iconst (v := 1) hx hb dX4_readRow_50 (by decide +kernel) ?_
  refine lv_iload_n hx hb dX4_readRow_51 rfl (lv_at hl 3 rfl) ?_
  refine jw_ishl (v := 4) hx hb dX4_readRow_52 (by decide +kernel) ?_
  refine lv_iconst (v := 1) hx hb dX4_readRow_53 (by decide +kernel) ?_
  refine jw_isub (v := 3) hx hb dX4_readRow_54 (by decide +kernel) ?_
  refine lv_icmp_ne (tgt := 62) hx hb dX4_readRow_55 (by decide) (fun _ => ?_) (fun c9 => absurd c9 (by decide +kernel))
  refine lv_iconst (v := 0) hx hb dX4_readRow_62 (by decide +kernel) ?_
  refine W.widen (k := 0) (n := 0) (Nat.le_of_ble_eq_true rfl) (Nat.le_of_ble_eq_true rfl) ?_
  exact jw_zret hx hb hr hlocks rfl rfl rfl hP hD hS dX4_readRow_63
set_option maxHeartbeats 4000000 in
set_option maxRecDepth 100000 in
theorem k26_X4_readRow {l : Launch} {D : va_G} {Y : Nat → ClassId} {tt : Nat → Nat} (h0 : Nat) (sz : Nat) : Met l yX4_readRow wsX4_readRow ({ frames := 0, cells := 0, slots := 0, locals := 0 }) (jw_Pc D Y tt [.int 8, .int 2, .ref h0] [(h0, .inl (Y 1, 4, .inl (jw_l 0 [1, 3])))] sz) (jw_Qi D (fun r => r = 0) (fun w => w = [(h0, .inl (Y 1, 4, .inl (jw_l 0 [2, 0])))]) (va_A [(h0, .inl (Y 1, 4, .inl (jw_l 0 [1, 3])))] sz)) 0 0 (va_A [(h0, .inl (Y 1, 4, .inl (jw_l 0 [1, 3])))] sz) := by
  refine jw_met (fun A => jw_Qi D (fun r => r = 0) (fun w => w = [(h0, .inl (Y 1, 4, .inl (jw_l 0 [2, 0])))]) A) (cc := cX4_readRow) (maxL := 5) (ret := (some .boolean)) pn_X4_readRow rfl rfl ?_
  intro p e s m below meth c A H locs ls hx hb hml hr hts hown hlocks hin hP hD hA hS hE hl
  have hown : s.vm.findClass RX4 = some m.cls := hown
  have hl : lv_has ls 5 [(0, .int 8), (1, .int 2), (2, .ref h0)] := hl
  refine lv_iconst (v := 0) hx hb dX4_readRow_0 (by decide +kernel) ?_
  refine lv_istore_n (lv' := [(3, .int 0), (0, .int 8), (1, .int 2), (2, .ref h0)]) hx hb dX4_readRow_1 rfl hl (by decide) rfl (fun ls hl => ?_)
  refine lv_iconst (v := 0) hx hb dX4_readRow_2 (by decide +kernel) ?_
  refine lv_istore (lv' := [(4, .int 0), (3, .int 0), (0, .int 8), (1, .int 2), (2, .ref h0)]) hx hb dX4_readRow_3 hl (by decide) rfl (fun ls hl => ?_)
  refine lv_iload hx hb dX4_readRow_5 (lv_at hl 0 rfl) ?_
  refine lv_iload_n hx hb dX4_readRow_7 rfl (lv_at hl 3 rfl) ?_
  refine lv_icmp_ge (tgt := 49) hx hb dX4_readRow_8 (by decide) (fun c9 => absurd c9 (by decide +kernel)) (fun _ => ?_)
  refine lv_iload hx hb dX4_readRow_11 (lv_at hl 0 rfl) ?_
  refine lv_aload_n hx hb dX4_readRow_13 rfl (lv_at hl 4 rfl) ?_
  refine jw_alen (v := 4) hx hb hE hP 0 1 rfl rfl (by decide +kernel) dX4_readRow_14 ?_
  refine lv_icmp_ge (tgt := 49) hx hb dX4_readRow_15 (by decide) (fun c9 => absurd c9 (by decide +kernel)) (fun _ => ?_)
  refine lv_aload_n hx hb dX4_readRow_18 rfl (lv_at hl 4 rfl) ?_
  refine lv_iload hx hb dX4_readRow_19 (lv_at hl 0 rfl) ?_
  refine lv_iload_n hx hb dX4_readRow_21 rfl (lv_at hl 2 rfl) ?_
  refine lv_iconst (v := 2) hx hb dX4_readRow_22 (by decide +kernel) ?_
  refine lv_iload_n hx hb dX4_readRow_23 rfl (lv_at hl 3 rfl) ?_
  refine lv_iconst (v := 1) hx hb dX4_readRow_24 (by decide +kernel) ?_
  refine jw_isub (v := 1) hx hb dX4_readRow_25 (by decide +kernel) ?_
  refine lv_iload hx hb dX4_readRow_26 (lv_at hl 0 rfl) ?_
  refine jw_isub (v := 1) hx hb dX4_readRow_28 (by decide +kernel) ?_
  refine jw_imul (v := 2) hx hb dX4_readRow_29 (by decide +kernel) ?_
  refine lv_iushr (v := 2) hx hb dX4_readRow_30 (by decide +kernel) ?_
  refine lv_iconst (v := 3) hx hb dX4_readRow_31 (by decide +kernel) ?_
  refine jw_iand (v := 2) hx hb dX4_readRow_32 (by decide +kernel) ?_
  refine jw_iast (ws' := [(h0, .inl (Y 1, 4, .inl (jw_l 0 [2, 3])))]) hx hb hE hP hD hS 0 0 [2, 3] rfl (by decide +kernel) (by decide +kernel) rfl dX4_readRow_33 (fun H locs hP hD hS => ?_)
  refine lv_iload_n hx hb dX4_readRow_34 rfl (lv_at hl 1 rfl) ?_
  refine lv_iconst (v := 1) hx hb dX4_readRow_35 (by decide +kernel) ?_
  refine lv_aload_n hx hb dX4_readRow_36 rfl (lv_at hl 4 rfl) ?_
  refine lv_iload hx hb dX4_readRow_37 (lv_at hl 0 rfl) ?_
  refine jw_iald (v := 2) hx hb hE hP 0 0 rfl (by decide +kernel) (by decide +kernel) dX4_readRow_39 ?_
  refine jw_ishl (v := 4) hx hb dX4_readRow_40 (by decide +kernel) ?_
  refine jw_ior (v := 4) hx hb dX4_readRow_41 (by decide +kernel) ?_
  refine lv_istore_n (lv' := [(3, .int 4), (4, .int 0), (0, .int 8), (1, .int 2), (2, .ref h0)]) hx hb dX4_readRow_42 rfl hl (by decide) rfl (fun ls hl => ?_)
  refine lv_iinc (v := 1) (lv' := [(4, .int 1), (3, .int 4), (0, .int 8), (1, .int 2), (2, .ref h0)]) hx hb dX4_readRow_43 hl (k := 1) rfl (by decide +kernel) (by decide) rfl (fun ls hl => ?_)
  refine lv_goto (tgt := 5) hx hb dX4_readRow_46 (by decide) ?_
  refine lv_iload hx hb dX4_readRow_5 (lv_at hl 0 rfl) ?_
  refine lv_iload_n hx hb dX4_readRow_7 rfl (lv_at hl 3 rfl) ?_
  refine lv_icmp_ge (tgt := 49) hx hb dX4_readRow_8 (by decide) (fun c9 => absurd c9 (by decide +kernel)) (fun _ => ?_)
  refine lv_iload hx hb dX4_readRow_11 (lv_at hl 0 rfl) ?_
  refine lv_aload_n hx hb dX4_readRow_13 rfl (lv_at hl 4 rfl) ?_
  refine jw_alen (v := 4) hx hb hE hP 0 1 rfl rfl (by decide +kernel) dX4_readRow_14 ?_
  refine lv_icmp_ge (tgt := 49) hx hb dX4_readRow_15 (by decide) (fun c9 => absurd c9 (by decide +kernel)) (fun _ => ?_)
  refine lv_aload_n hx hb dX4_readRow_18 rfl (lv_at hl 4 rfl) ?_
  refine lv_iload hx hb dX4_readRow_19 (lv_at hl 0 rfl) ?_
  refine lv_iload_n hx hb dX4_readRow_21 rfl (lv_at hl 2 rfl) ?_
  refine lv_iconst (v := 2) hx hb dX4_readRow_22 (by decide +kernel) ?_
  refine lv_iload_n hx hb dX4_readRow_23 rfl (lv_at hl 3 rfl) ?_
  refine lv_iconst (v := 1) hx hb dX4_readRow_24 (by decide +kernel) ?_
  refine jw_isub (v := 1) hx hb dX4_readRow_25 (by decide +kernel) ?_
  refine lv_iload hx hb dX4_readRow_26 (lv_at hl 0 rfl) ?_
  refine jw_isub (v := 0) hx hb dX4_readRow_28 (by decide +kernel) ?_
  refine jw_imul (v := 0) hx hb dX4_readRow_29 (by decide +kernel) ?_
  refine lv_iushr (v := 8) hx hb dX4_readRow_30 (by decide +kernel) ?_
  refine lv_iconst (v := 3) hx hb dX4_readRow_31 (by decide +kernel) ?_
  refine jw_iand (v := 0) hx hb dX4_readRow_32 (by decide +kernel) ?_
  refine jw_iast (ws' := [(h0, .inl (Y 1, 4, .inl (jw_l 0 [2, 0])))]) hx hb hE hP hD hS 0 1 [2, 0] rfl (by decide +kernel) (by decide +kernel) rfl dX4_readRow_33 (fun H locs hP hD hS => ?_)
  refine lv_iload_n hx hb dX4_readRow_34 rfl (lv_at hl 1 rfl) ?_
  refine lv_iconst (v := 1) hx hb dX4_readRow_35 (by decide +kernel) ?_
  refine lv_aload_n hx hb dX4_readRow_36 rfl (lv_at hl 4 rfl) ?_
  refine lv_iload hx hb dX4_readRow_37 (lv_at hl 0 rfl) ?_
  refine jw_iald (v := 0) hx hb hE hP 0 1 rfl (by decide +kernel) (by decide +kernel) dX4_readRow_39 ?_
  refine jw_ishl (v := 1) hx hb dX4_readRow_40 (by decide +kernel) ?_
  refine jw_ior (v := 5) hx hb dX4_readRow_41 (by decide +kernel) ?_
  refine lv_istore_n (lv' := [(3, .int 5), (4, .int 1), (0, .int 8), (1, .int 2), (2, .ref h0)]) hx hb dX4_readRow_42 rfl hl (by decide) rfl (fun ls hl => ?_)
  refine lv_iinc (v := 2) (lv' := [(4, .int 2), (3, .int 5), (0, .int 8), (1, .int 2), (2, .ref h0)]) hx hb dX4_readRow_43 hl (k := 1) rfl (by decide +kernel) (by decide) rfl (fun ls hl => ?_)
  refine lv_goto (tgt := 5) hx hb dX4_readRow_46 (by decide) ?_
  refine lv_iload hx hb dX4_readRow_5 (lv_at hl 0 rfl) ?_
  refine lv_iload_n hx hb dX4_readRow_7 rfl (lv_at hl 3 rfl) ?_
  refine lv_icmp_ge (tgt := 49) hx hb dX4_readRow_8 (by decide) (fun _ => ?_) (fun c9 => absurd (by decide +kernel) c9)
  refine lv_iload_n hx hb dX4_readRow_49 rfl (lv_at hl 1 rfl) ?_
  refine lv_iconst (v := 1) hx hb dX4_readRow_50 (by decide +kernel) ?_
  refine lv_iload_n hx hb dX4_readRow_51 rfl (lv_at hl 3 rfl) ?_
  refine jw_ishl (v := 4) hx hb dX4_readRow_52 (by decide +kernel) ?_
  refine lv_iconst (v := 1) hx hb dX4_readRow_53 (by decide +kernel) ?_
  refine jw_isub (v := 3) hx hb dX4_readRow_54 (by decide +kernel) ?_
  refine lv_icmp_ne (tgt := 62) hx hb dX4_readRow_55 (by decide) (fun _ => ?_) (fun c9 => absurd c9 (by decide +kernel))
  refine lv_iconst (v := 0) hx hb dX4_readRow_62 (by decide +kernel) ?_
  refine W.widen (k := 0) (n := 0) (Nat.le_of_ble_eq_true rfl) (Nat.le_of_ble_eq_true rfl) ?_
  exact jw_zret hx hb hr hlocks rfl rfl rfl hP hD hS dX4_readRow_63
set_option maxHeartbeats 4000000 in
set_option maxRecDepth 100000 in
theorem k27_X4_readRow {l : Launch} {D : va_G} {Y : Nat → ClassId} {tt : Nat → Nat} (h0 : Nat) (sz : Nat) : Met l yX4_readRow wsX4_readRow ({ frames := 0, cells := 0, slots := 0, locals := 0 }) (jw_Pc D Y tt [.int 9, .int 2, .ref h0] [(h0, .inl (Y 1, 4, .inl (jw_l 0 [2, 0])))] sz) (jw_Qi D (fun r => r = 0) (fun w => w = [(h0, .inl (Y 1, 4, .inl (jw_l 0 [2, 1])))]) (va_A [(h0, .inl (Y 1, 4, .inl (jw_l 0 [2, 0])))] sz)) 0 0 (va_A [(h0, .inl (Y 1, 4, .inl (jw_l 0 [2, 0])))] sz) := by
  refine jw_met (fun A => jw_Qi D (fun r => r = 0) (fun w => w = [(h0, .inl (Y 1, 4, .inl (jw_l 0 [2, 1])))]) A) (cc := cX4_readRow) (maxL := 5) (ret := (some .boolean)) pn_X4_readRow rfl rfl ?_
  intro p e s m below meth c A H locs ls hx hb hml hr hts hown hlocks hin hP hD hA hS hE hl
  have hown : s.vm.findClass RX4 = some m.cls := hown
  have hl : lv_has ls 5 [(0, .int 9), (1, .int 2), (2, .ref h0)] := hl
  refine lv_iconst (v := 0) hx hb dX4_readRow_0 (by decide +kernel) ?_
  refine lv_istore_n (lv' := [(3, .int 0), (0, .int 9), (1, .int 2), (2, .ref h0)]) hx hb dX4_readRow_1 rfl hl (by decide) rfl (fun ls hl => ?_)
  refine lv_iconst (v := 0) hx hb dX4_readRow_2 (by decide +kernel) ?_
  refine lv_istore (lv' := [(4, .int 0), (3, .int 0), (0, .int 9), (1, .int 2), (2, .ref h0)]) hx hb dX4_readRow_3 hl (by decide) rfl (fun ls hl => ?_)
  refine lv_iload hx hb dX4_readRow_5 (lv_at hl 0 rfl) ?_
  refine lv_iload_n hx hb dX4_readRow_7 rfl (lv_at hl 3 rfl) ?_
  refine lv_icmp_ge (tgt := 49) hx hb dX4_readRow_8 (by decide) (fun c9 => absurd c9 (by decide +kernel)) (fun _ => ?_)
  refine lv_iload hx hb dX4_readRow_11 (lv_at hl 0 rfl) ?_
  refine lv_aload_n hx hb dX4_readRow_13 rfl (lv_at hl 4 rfl) ?_
  refine jw_alen (v := 4) hx hb hE hP 0 1 rfl rfl (by decide +kernel) dX4_readRow_14 ?_
  refine lv_icmp_ge (tgt := 49) hx hb dX4_readRow_15 (by decide) (fun c9 => absurd c9 (by decide +kernel)) (fun _ => ?_)
  refine lv_aload_n hx hb dX4_readRow_18 rfl (lv_at hl 4 rfl) ?_
  refine lv_iload hx hb dX4_readRow_19 (lv_at hl 0 rfl) ?_
  refine lv_iload_n hx hb dX4_readRow_21 rfl (lv_at hl 2 rfl) ?_
  refine lv_iconst (v := 2) hx hb dX4_readRow_22 (by decide +kernel) ?_
  refine lv_iload_n hx hb dX4_readRow_23 rfl (lv_at hl 3 rfl) ?_
  refine lv_iconst (v := 1) hx hb dX4_readRow_24 (by decide +kernel) ?_
  refine jw_isub (v := 1) hx hb dX4_readRow_25 (by decide +kernel) ?_
  refine lv_iload hx hb dX4_readRow_26 (lv_at hl 0 rfl) ?_
  refine jw_isub (v := 1) hx hb dX4_readRow_28 (by decide +kernel) ?_
  refine jw_imul (v := 2) hx hb dX4_readRow_29 (by decide +kernel) ?_
  refine lv_iushr (v := 2) hx hb dX4_readRow_30 (by decide +kernel) ?_
  refine lv_iconst (v := 3) hx hb dX4_readRow_31 (by decide +kernel) ?_
  refine jw_iand (v := 2) hx hb dX4_readRow_32 (by decide +kernel) ?_
  refine jw_iast (ws' := [(h0, .inl (Y 1, 4, .inl (jw_l 0 [2, 0])))]) hx hb hE hP hD hS 0 0 [2, 0] rfl (by decide +kernel) (by decide +kernel) rfl dX4_readRow_33 (fun H locs hP hD hS => ?_)
  refine lv_iload_n hx hb dX4_readRow_34 rfl (lv_at hl 1 rfl) ?_
  refine lv_iconst (v := 1) hx hb dX4_readRow_35 (by decide +kernel) ?_
  refine lv_aload_n hx hb dX4_readRow_36 rfl (lv_at hl 4 rfl) ?_
  refine lv_iload hx hb dX4_readRow_37 (lv_at hl 0 rfl) ?_
  refine jw_iald (v := 2) hx hb hE hP 0 0 rfl (by decide +kernel) (by decide +kernel) dX4_readRow_39 ?_
  refine jw_ishl (v := 4) hx hb dX4_readRow_40 (by decide +kernel) ?_
  refine jw_ior (v := 4) hx hb dX4_readRow_41 (by decide +kernel) ?_
  refine lv_istore_n (lv' := [(3, .int 4), (4, .int 0), (0, .int 9), (1, .int 2), (2, .ref h0)]) hx hb dX4_readRow_42 rfl hl (by decide) rfl (fun ls hl => ?_)
  refine lv_iinc (v := 1) (lv' := [(4, .int 1), (3, .int 4), (0, .int 9), (1, .int 2), (2, .ref h0)]) hx hb dX4_readRow_43 hl (k := 1) rfl (by decide +kernel) (by decide) rfl (fun ls hl => ?_)
  refine lv_goto (tgt := 5) hx hb dX4_readRow_46 (by decide) ?_
  refine lv_iload hx hb dX4_readRow_5 (lv_at hl 0 rfl) ?_
  refine lv_iload_n hx hb dX4_readRow_7 rfl (lv_at hl 3 rfl) ?_
  refine lv_icmp_ge (tgt := 49) hx hb dX4_readRow_8 (by decide) (fun c9 => absurd c9 (by decide +kernel)) (fun _ => ?_)
  refine lv_iload hx hb dX4_readRow_11 (lv_at hl 0 rfl) ?_
  refine lv_aload_n hx hb dX4_readRow_13 rfl (lv_at hl 4 rfl) ?_
  refine jw_alen (v := 4) hx hb hE hP 0 1 rfl rfl (by decide +kernel) dX4_readRow_14 ?_
  refine lv_icmp_ge (tgt := 49) hx hb dX4_readRow_15 (by decide) (fun c9 => absurd c9 (by decide +kernel)) (fun _ => ?_)
  refine lv_aload_n hx hb dX4_readRow_18 rfl (lv_at hl 4 rfl) ?_
  refine lv_iload hx hb dX4_readRow_19 (lv_at hl 0 rfl) ?_
  refine lv_iload_n hx hb dX4_readRow_21 rfl (lv_at hl 2 rfl) ?_
  refine lv_iconst (v := 2) hx hb dX4_readRow_22 (by decide +kernel) ?_
  refine lv_iload_n hx hb dX4_readRow_23 rfl (lv_at hl 3 rfl) ?_
  refine lv_iconst (v := 1) hx hb dX4_readRow_24 (by decide +kernel) ?_
  refine jw_isub (v := 1) hx hb dX4_readRow_25 (by decide +kernel) ?_
  refine lv_iload hx hb dX4_readRow_26 (lv_at hl 0 rfl) ?_
  refine jw_isub (v := 0) hx hb dX4_readRow_28 (by decide +kernel) ?_
  refine jw_imul (v := 0) hx hb dX4_readRow_29 (by decide +kernel) ?_
  refine lv_iushr (v := 9) hx hb dX4_readRow_30 (by decide +kernel) ?_
  refine lv_iconst (v := 3) hx hb dX4_readRow_31 (by decide +kernel) ?_
  refine jw_iand (v := 1) hx hb dX4_readRow_32 (by decide +kernel) ?_
  refine jw_iast (ws' := [(h0, .inl (Y 1, 4, .inl (jw_l 0 [2, 1])))]) hx hb hE hP hD hS 0 1 [2, 1] rfl (by decide +kernel) (by decide +kernel) rfl dX4_readRow_33 (fun H locs hP hD hS => ?_)
  refine lv_iload_n hx hb dX4_readRow_34 rfl (lv_at hl 1 rfl) ?_
  refine lv_iconst (v := 1) hx hb dX4_readRow_35 (by decide +kernel) ?_
  refine lv_aload_n hx hb dX4_readRow_36 rfl (lv_at hl 4 rfl) ?_
  refine lv_iload hx hb dX4_readRow_37 (lv_at hl 0 rfl) ?_
  refine jw_iald (v := 1) hx hb hE hP 0 1 rfl (by decide +kernel) (by decide +kernel) dX4_readRow_39 ?_
  refine jw_ishl (v := 2) hx hb dX4_readRow_40 (by decide +kernel) ?_
  refine jw_ior (v := 6) hx hb dX4_readRow_41 (by decide +kernel) ?_
  refine lv_istore_n (lv' := [(3, .int 6), (4, .int 1), (0, .int 9), (1, .int 2), (2, .ref h0)]) hx hb dX4_readRow_42 rfl hl (by decide) rfl (fun ls hl => ?_)
  refine lv_iinc (v := 2) (lv' := [(4, .int 2), (3, .int 6), (0, .int 9), (1, .int 2), (2, .ref h0)]) hx hb dX4_readRow_43 hl (k := 1) rfl (by decide +kernel) (by decide) rfl (fun ls hl => ?_)
  refine lv_goto (tgt := 5) hx hb dX4_readRow_46 (by decide) ?_
  refine lv_iload hx hb dX4_readRow_5 (lv_at hl 0 rfl) ?_
  refine lv_iload_n hx hb dX4_readRow_7 rfl (lv_at hl 3 rfl) ?_
  refine lv_icmp_ge (tgt := 49) hx hb dX4_readRow_8 (by decide) (fun _ => ?_) (fun c9 => absurd (by decide +kernel) c9)
  refine lv_iload_n hx hb dX4_readRow_49 rfl (lv_at hl 1 rfl) ?_
  refine lv_iconst (v := 1) hx hb dX4_readRow_50 (by decide +kernel) ?_
  refine lv_iload_n hx hb dX4_readRow_51 rfl (lv_at hl 3 rfl) ?_
  refine jw_ishl (v := 4) hx hb dX4_readRow_52 (by decide +kernel) ?_
  refine lv_iconst (v := 1) hx hb dX4_readRow_53 (by decide +kernel) ?_
  refine jw_isub (v := 3) hx hb dX4_readRow_54 (by decide +kernel) ?_
  refine lv_icmp_ne (tgt := 62) hx hb dX4_readRow_55 (by decide) (fun _ => ?_) (fun c9 => absurd c9 (by decide +kernel))
  refine lv_iconst (v := 0) hx hb dX4_readRow_62 (by decide +kernel) ?_
  refine W.widen (k := 0) (n := 0) (Nat.le_of_ble_eq_true rfl) (Nat.le_of_ble_eq_true rfl) ?_
  exact jw_zret hx hb hr hlocks rfl rfl rfl hP hD hS dX4_readRow_63
set_option maxHeartbeats 4000000 in
set_option maxRecDepth 100000 in
theorem k28_X4_readRow {l : Launch} {D : va_G} {Y : Nat → ClassId} {tt : Nat → Nat} (h0 : Nat) (sz : Nat) : Met l yX4_readRow wsX4_readRow ({ frames := 0, cells := 0, slots := 0, locals := 0 }) (jw_Pc D Y tt [.int 10, .int 2, .ref h0] [(h0, .inl (Y 1, 4, .inl (jw_l 0 [2, 1])))] sz) (jw_Qi D (fun r => r = 0) (fun w => w = [(h0, .inl (Y 1, 4, .inl (jw_l 0 [2, 2])))]) (va_A [(h0, .inl (Y 1, 4, .inl (jw_l 0 [2, 1])))] sz)) 0 0 (va_A [(h0, .inl (Y 1, 4, .inl (jw_l 0 [2, 1])))] sz) := by
  refine jw_met (fun A => jw_Qi D (fun r => r = 0) (fun w => w = [(h0, .inl (Y 1, 4, .inl (jw_l 0 [2, 2])))]) A) (cc := cX4_readRow) (maxL := 5) (ret := (some .boolean)) pn_X4_readRow rfl rfl ?_
  intro p e s m below meth c A H locs ls hx hb hml hr hts hown hlocks hin hP hD hA hS hE hl
  have hown : s.vm.findClass RX4 = some m.cls := hown
  have hl : lv_has ls 5 [(0, .int 10), (1, .int 2), (2, .ref h0)] := hl
  refine lv_iconst (v := 0) hx hb dX4_readRow_0 (by decide +kernel) ?_
  refine lv_istore_n (lv' := [(3, .int 0), (0, .int 10), (1, .int 2), (2, .ref h0)]) hx hb dX4_readRow_1 rfl hl (by decide) rfl (fun ls hl => ?_)
  refine lv_iconst (v := 0) hx hb dX4_readRow_2 (by decide +kernel) ?_
  refine lv_istore (lv' := [(4, .int 0), (3, .int 0), (0, .int 10), (1, .int 2), (2, .ref h0)]) hx hb dX4_readRow_3 hl (by decide) rfl (fun ls hl => ?_)
  refine lv_iload hx hb dX4_readRow_5 (lv_at hl 0 rfl) ?_
  refine lv_iload_n hx hb dX4_readRow_7 rfl (lv_at hl 3 rfl) ?_
  refine lv_icmp_ge (tgt := 49) hx hb dX4_readRow_8 (by decide) (fun c9 => absurd c9 (by decide +kernel)) (fun _ => ?_)
  refine lv_iload hx hb dX4_readRow_11 (lv_at hl 0 rfl) ?_
  refine lv_aload_n hx hb dX4_readRow_13 rfl (lv_at hl 4 rfl) ?_
  refine jw_alen (v := 4) hx hb hE hP 0 1 rfl rfl (by decide +kernel) dX4_readRow_14 ?_
  refine lv_icmp_ge (tgt := 49) hx hb dX4_readRow_15 (by decide) (fun c9 => absurd c9 (by decide +kernel)) (fun _ => ?_)
  refine lv_aload_n hx hb dX4_readRow_18 rfl (lv_at hl 4 rfl) ?_
  refine lv_iload hx hb dX4_readRow_19 (lv_at hl 0 rfl) ?_
  refine lv_iload_n hx hb dX4_readRow_21 rfl (lv_at hl 2 rfl) ?_
  refine lv_iconst (v := 2) hx hb dX4_readRow_22 (by decide +kernel) ?_
  refine lv_iload_n hx hb dX4_readRow_23 rfl (lv_at hl 3 rfl) ?_
  refine lv_iconst (v := 1) hx hb dX4_readRow_24 (by decide +kernel) ?_
  refine jw_isub (v := 1) hx hb dX4_readRow_25 (by decide +kernel) ?_
  refine lv_iload hx hb dX4_readRow_26 (lv_at hl 0 rfl) ?_
  refine jw_isub (v := 1) hx hb dX4_readRow_28 (by decide +kernel) ?_
  refine jw_imul (v := 2) hx hb dX4_readRow_29 (by decide +kernel) ?_
  refine lv_iushr (v := 2) hx hb dX4_readRow_30 (by decide +kernel) ?_
  refine lv_iconst (v := 3) hx hb dX4_readRow_31 (by decide +kernel) ?_
  refine jw_iand (v := 2) hx hb dX4_readRow_32 (by decide +kernel) ?_
  refine jw_iast (ws' := [(h0, .inl (Y 1, 4, .inl (jw_l 0 [2, 1])))]) hx hb hE hP hD hS 0 0 [2, 1] rfl (by decide +kernel) (by decide +kernel) rfl dX4_readRow_33 (fun H locs hP hD hS => ?_)
  refine lv_iload_n hx hb dX4_readRow_34 rfl (lv_at hl 1 rfl) ?_
  refine lv_iconst (v := 1) hx hb dX4_readRow_35 (by decide +kernel) ?_
  refine lv_aload_n hx hb dX4_readRow_36 rfl (lv_at hl 4 rfl) ?_
  refine lv_iload hx hb dX4_readRow_37 (lv_at hl 0 rfl) ?_
  refine jw_iald (v := 2) hx hb hE hP 0 0 rfl (by decide +kernel) (by decide +kernel) dX4_readRow_39 ?_
  refine jw_ishl (v := 4) hx hb dX4_readRow_40 (by decide +kernel) ?_
  refine jw_ior (v := 4) hx hb dX4_readRow_41 (by decide +kernel) ?_
  refine lv_istore_n (lv' := [(3, .int 4), (4, .int 0), (0, .int 10), (1, .int 2), (2, .ref h0)]) hx hb dX4_readRow_42 rfl hl (by decide) rfl (fun ls hl => ?_)
  refine lv_iinc (v := 1) (lv' := [(4, .int 1), (3, .int 4), (0, .int 10), (1, .int 2), (2, .ref h0)]) hx hb dX4_readRow_43 hl (k := 1) rfl (by decide +kernel) (by decide) rfl (fun ls hl => ?_)
  refine lv_goto (tgt := 5) hx hb dX4_readRow_46 (by decide) ?_
  refine lv_iload hx hb dX4_readRow_5 (lv_at hl 0 rfl) ?_
  refine lv_iload_n hx hb dX4_readRow_7 rfl (lv_at hl 3 rfl) ?_
  refine lv_icmp_ge (tgt := 49) hx hb dX4_readRow_8 (by decide) (fun c9 => absurd c9 (by decide +kernel)) (fun _ => ?_)
  refine lv_iload hx hb dX4_readRow_11 (lv_at hl 0 rfl) ?_
  refine lv_aload_n hx hb dX4_readRow_13 rfl (lv_at hl 4 rfl) ?_
  refine jw_alen (v := 4) hx hb hE hP 0 1 rfl rfl (by decide +kernel) dX4_readRow_14 ?_
  refine lv_icmp_ge (tgt := 49) hx hb dX4_readRow_15 (by decide) (fun c9 => absurd c9 (by decide +kernel)) (fun _ => ?_)
  refine lv_aload_n hx hb dX4_readRow_18 rfl (lv_at hl 4 rfl) ?_
  refine lv_iload hx hb dX4_readRow_19 (lv_at hl 0 rfl) ?_
  refine lv_iload_n hx hb dX4_readRow_21 rfl (lv_at hl 2 rfl) ?_
  refine lv_iconst (v := 2) hx hb dX4_readRow_22 (by decide +kernel) ?_
  refine lv_iload_n hx hb dX4_readRow_23 rfl (lv_at hl 3 rfl) ?_
  refine lv_iconst (v := 1) hx hb dX4_readRow_24 (by decide +kernel) ?_
  refine jw_isub (v := 1) hx hb dX4_readRow_25 (by decide +kernel) ?_
  refine lv_iload hx hb dX4_readRow_26 (lv_at hl 0 rfl) ?_
  refine jw_isub (v := 0) hx hb dX4_readRow_28 (by decide +kernel) ?_
  refine jw_imul (v := 0) hx hb dX4_readRow_29 (by decide +kernel) ?_
  refine lv_iushr (v := 10) hx hb dX4_readRow_30 (by decide +kernel) ?_
  refine lv_iconst (v := 3) hx hb dX4_readRow_31 (by decide +kernel) ?_
  refine jw_iand (v := 2) hx hb dX4_readRow_32 (by decide +kernel) ?_
  refine jw_iast (ws' := [(h0, .inl (Y 1, 4, .inl (jw_l 0 [2, 2])))]) hx hb hE hP hD hS 0 1 [2, 2] rfl (by decide +kernel) (by decide +kernel) rfl dX4_readRow_33 (fun H locs hP hD hS => ?_)
  refine lv_iload_n hx hb dX4_readRow_34 rfl (lv_at hl 1 rfl) ?_
  refine lv_iconst (v := 1) hx hb dX4_readRow_35 (by decide +kernel) ?_
  refine lv_aload_n hx hb dX4_readRow_36 rfl (lv_at hl 4 rfl) ?_
  refine lv_iload hx hb dX4_readRow_37 (lv_at hl 0 rfl) ?_
  refine jw_iald (v := 2) hx hb hE hP 0 1 rfl (by decide +kernel) (by decide +kernel) dX4_readRow_39 ?_
  refine jw_ishl (v := 4) hx hb dX4_readRow_40 (by decide +kernel) ?_
  refine jw_ior (v := 4) hx hb dX4_readRow_41 (by decide +kernel) ?_
  refine lv_istore_n (lv' := [(3, .int 4), (4, .int 1), (0, .int 10), (1, .int 2), (2, .ref h0)]) hx hb dX4_readRow_42 rfl hl (by decide) rfl (fun ls hl => ?_)
  refine lv_iinc (v := 2) (lv' := [(4, .int 2), (3, .int 4), (0, .int 10), (1, .int 2), (2, .ref h0)]) hx hb dX4_readRow_43 hl (k := 1) rfl (by decide +kernel) (by decide) rfl (fun ls hl => ?_)
  refine lv_goto (tgt := 5) hx hb dX4_readRow_46 (by decide) ?_
  refine lv_iload hx hb dX4_readRow_5 (lv_at hl 0 rfl) ?_
  refine lv_iload_n hx hb dX4_readRow_7 rfl (lv_at hl 3 rfl) ?_
  refine lv_icmp_ge (tgt := 49) hx hb dX4_readRow_8 (by decide) (fun _ => ?_) (fun c9 => absurd (by decide +kernel) c9)
  refine lv_iload_n hx hb dX4_readRow_49 rfl (lv_at hl 1 rfl) ?_
  refine lv_iconst (v := 1) hx hb dX4_readRow_50 (by decide +kernel) ?_
  refine lv_iload_n hx hb dX4_readRow_51 rfl (lv_at hl 3 rfl) ?_
  refine jw_ishl (v := 4) hx hb dX4_readRow_52 (by decide +kernel) ?_
  refine lv_iconst (v := 1) hx hb dX4_readRow_53 (by decide +kernel) ?_
  refine jw_isub (v := 3) hx hb dX4_readRow_54 (by decide +kernel) ?_
  refine lv_icmp_ne (tgt := 62) hx hb dX4_readRow_55 (by decide) (fun _ => ?_) (fun c9 => absurd c9 (by decide +kernel))
  refine lv_iconst (v := 0) hx hb dX4_readRow_62 (by decide +kernel) ?_
  refine W.widen (k := 0) (n := 0) (Nat.le_of_ble_eq_true rfl) (Nat.le_of_ble_eq_true rfl) ?_
  exact jw_zret hx hb hr hlocks rfl rfl rfl hP hD hS dX4_readRow_63
set_option maxHeartbeats 4000000 in
set_option maxRecDepth 100000 in
theorem k29_X4_readRow {l : Launch} {D : va_G} {Y : Nat → ClassId} {tt : Nat → Nat} (h0 : Nat) (sz : Nat) : Met l yX4_readRow wsX4_readRow ({ frames := 0, cells := 0, slots := 0, locals := 0 }) (jw_Pc D Y tt [.int 11, .int 2, .ref h0] [(h0, .inl (Y 1, 4, .inl (jw_l 0 [2, 2])))] sz) (jw_Qi D (fun r => r = 0) (fun w => w = [(h0, .inl (Y 1, 4, .inl (jw_l 0 [2, 3])))]) (va_A [(h0, .inl (Y 1, 4, .inl (jw_l 0 [2, 2])))] sz)) 0 0 (va_A [(h0, .inl (Y 1, 4, .inl (jw_l 0 [2, 2])))] sz) := by
  refine jw_met (fun A => jw_Qi D (fun r => r = 0) (fun w => w = [(h0, .inl (Y 1, 4, .inl (jw_l 0 [2, 3])))]) A) (cc := cX4_readRow) (maxL := 5) (ret := (some .boolean)) pn_X4_readRow rfl rfl ?_
  intro p e s m below meth c A H locs ls hx hb hml hr hts hown hlocks hin hP hD hA hS hE hl
  have hown : s.vm.findClass RX4 = some m.cls := hown
  have hl : lv_has ls 5 [(0, .int 11), (1, .int 2), (2, .ref h0)] := hl
  refine lv_iconst (v := 0) hx hb dX4_readRow_0 (by decide +kernel) ?_
  refine lv_istore_n (lv' := [(3, .int 0), (0, .int 11), (1, .int 2), (2, .ref h0)]) hx hb dX4_readRow_1 rfl hl (by decide) rfl (fun ls hl => ?_)
  refine lv_iconst (v := 0) hx hb dX4_readRow_2 (by decide +kernel) ?_
  refine lv_istore (lv' := [(4, .int 0), (3, .int 0), (0, .int 11), (1, .int 2), (2, .ref h0)]) hx hb dX4_readRow_3 hl (by decide) rfl (fun ls hl => ?_)
  refine lv_iload hx hb dX4_readRow_5 (lv_at hl 0 rfl) ?_
  refine lv_iload_n hx hb dX4_readRow_7 rfl (lv_at hl 3 rfl) ?_
  refine lv_icmp_ge (tgt := 49) hx hb dX4_readRow_8 (by decide) (fun c9 => absurd c9 (by decide +kernel)) (fun _ => ?_)
  refine lv_iload hx hb dX4_readRow_11 (lv_at hl 0 rfl) ?_
  refine lv_aload_n hx hb dX4_readRow_13 rfl (lv_at hl 4 rfl) ?_
  refine jw_alen (v := 4) hx hb hE hP 0 1 rfl rfl (by decide +kernel) dX4_readRow_14 ?_
  refine lv_icmp_ge (tgt := 49) hx hb dX4_readRow_15 (by decide) (fun c9 => absurd c9 (by decide +kernel)) (fun _ => ?_)
  refine lv_aload_n hx hb dX4_readRow_18 rfl (lv_at hl 4 rfl) ?_
  refine lv_iload hx hb dX4_readRow_19 (lv_at hl 0 rfl) ?_
  refine lv_iload_n hx hb dX4_readRow_21 rfl (lv_at hl 2 rfl) ?_
  refine lv_iconst (v := 2) hx hb dX4_readRow_22 (by decide +kernel) ?_
  refine lv_iload_n hx hb dX4_readRow_23 rfl (lv_at hl 3 rfl) ?_
  refine lv_iconst (v := 1) hx hb dX4_readRow_24 (by decide +kernel) ?_
  refine jw_isub (v := 1) hx hb dX4_readRow_25 (by decide +kernel) ?_
  refine lv_iload hx hb dX4_readRow_26 (lv_at hl 0 rfl) ?_
  refine jw_isub (v := 1) hx hb dX4_readRow_28 (by decide +kernel) ?_
  refine jw_imul (v := 2) hx hb dX4_readRow_29 (by decide +kernel) ?_
  refine lv_iushr (v := 2) hx hb dX4_readRow_30 (by decide +kernel) ?_
  refine lv_iconst (v := 3) hx hb dX4_readRow_31 (by decide +kernel) ?_
  refine jw_iand (v := 2) hx hb dX4_readRow_32 (by decide +kernel) ?_
  refine jw_iast (ws' := [(h0, .inl (Y 1, 4, .inl (jw_l 0 [2, 2])))]) hx hb hE hP hD hS 0 0 [2, 2] rfl (by decide +kernel) (by decide +kernel) rfl dX4_readRow_33 (fun H locs hP hD hS => ?_)
  refine lv_iload_n hx hb dX4_readRow_34 rfl (lv_at hl 1 rfl) ?_
  refine lv_iconst (v := 1) hx hb dX4_readRow_35 (by decide +kernel) ?_
  refine lv_aload_n hx hb dX4_readRow_36 rfl (lv_at hl 4 rfl) ?_
  refine lv_iload hx hb dX4_readRow_37 (lv_at hl 0 rfl) ?_
  refine jw_iald (v := 2) hx hb hE hP 0 0 rfl (by decide +kernel) (by decide +kernel) dX4_readRow_39 ?_
  refine jw_ishl (v := 4) hx hb dX4_readRow_40 (by decide +kernel) ?_
  refine jw_ior (v := 4) hx hb dX4_readRow_41 (by decide +kernel) ?_
  refine lv_istore_n (lv' := [(3, .int 4), (4, .int 0), (0, .int 11), (1, .int 2), (2, .ref h0)]) hx hb dX4_readRow_42 rfl hl (by decide) rfl (fun ls hl => ?_)
  refine lv_iinc (v := 1) (lv' := [(4, .int 1), (3, .int 4), (0, .int 11), (1, .int 2), (2, .ref h0)]) hx hb dX4_readRow_43 hl (k := 1) rfl (by decide +kernel) (by decide) rfl (fun ls hl => ?_)
  refine lv_goto (tgt := 5) hx hb dX4_readRow_46 (by decide) ?_
  refine lv_iload hx hb dX4_readRow_5 (lv_at hl 0 rfl) ?_
  refine lv_iload_n hx hb dX4_readRow_7 rfl (lv_at hl 3 rfl) ?_
  refine lv_icmp_ge (tgt := 49) hx hb dX4_readRow_8 (by decide) (fun c9 => absurd c9 (by decide +kernel)) (fun _ => ?_)
  refine lv_iload hx hb dX4_readRow_11 (lv_at hl 0 rfl) ?_
  refine lv_aload_n hx hb dX4_readRow_13 rfl (lv_at hl 4 rfl) ?_
  refine jw_alen (v := 4) hx hb hE hP 0 1 rfl rfl (by decide +kernel) dX4_readRow_14 ?_
  refine lv_icmp_ge (tgt := 49) hx hb dX4_readRow_15 (by decide) (fun c9 => absurd c9 (by decide +kernel)) (fun _ => ?_)
  refine lv_aload_n hx hb dX4_readRow_18 rfl (lv_at hl 4 rfl) ?_
  refine lv_iload hx hb dX4_readRow_19 (lv_at hl 0 rfl) ?_
  refine lv_iload_n hx hb dX4_readRow_21 rfl (lv_at hl 2 rfl) ?_
  refine lv_iconst (v := 2) hx hb dX4_readRow_22 (by decide +kernel) ?_
  refine lv_iload_n hx hb dX4_readRow_23 rfl (lv_at hl 3 rfl) ?_
  refine lv_iconst (v := 1) hx hb dX4_readRow_24 (by decide +kernel) ?_
  refine jw_isub (v := 1) hx hb dX4_readRow_25 (by decide +kernel) ?_
  refine lv_iload hx hb dX4_readRow_26 (lv_at hl 0 rfl) ?_
  refine jw_isub (v := 0) hx hb dX4_readRow_28 (by decide +kernel) ?_
  refine jw_imul (v := 0) hx hb dX4_readRow_29 (by decide +kernel) ?_
  refine lv_iushr (v := 11) hx hb dX4_readRow_30 (by decide +kernel) ?_
  refine lv_iconst (v := 3) hx hb dX4_readRow_31 (by decide +kernel) ?_
  refine jw_iand (v := 3) hx hb dX4_readRow_32 (by decide +kernel) ?_
  refine jw_iast (ws' := [(h0, .inl (Y 1, 4, .inl (jw_l 0 [2, 3])))]) hx hb hE hP hD hS 0 1 [2, 3] rfl (by decide +kernel) (by decide +kernel) rfl dX4_readRow_33 (fun H locs hP hD hS => ?_)
  refine lv_iload_n hx hb dX4_readRow_34 rfl (lv_at hl 1 rfl) ?_
  refine lv_iconst (v := 1) hx hb dX4_readRow_35 (by decide +kernel) ?_
  refine lv_aload_n hx hb dX4_readRow_36 rfl (lv_at hl 4 rfl) ?_
  refine lv_iload hx hb dX4_readRow_37 (lv_at hl 0 rfl) ?_
  refine jw_iald (v := 3) hx hb hE hP 0 1 rfl (by decide +kernel) (by decide +kernel) dX4_readRow_39 ?_
  refine jw_ishl (v := 8) hx hb dX4_readRow_40 (by decide +kernel) ?_
  refine jw_ior (v := 12) hx hb dX4_readRow_41 (by decide +kernel) ?_
  refine lv_istore_n (lv' := [(3, .int 12), (4, .int 1), (0, .int 11), (1, .int 2), (2, .ref h0)]) hx hb dX4_readRow_42 rfl hl (by decide) rfl (fun ls hl => ?_)
  refine lv_iinc (v := 2) (lv' := [(4, .int 2), (3, .int 12), (0, .int 11), (1, .int 2), (2, .ref h0)]) hx hb dX4_readRow_43 hl (k := 1) rfl (by decide +kernel) (by decide) rfl (fun ls hl => ?_)
  refine lv_goto (tgt := 5) hx hb dX4_readRow_46 (by decide) ?_
  refine lv_iload hx hb dX4_readRow_5 (lv_at hl 0 rfl) ?_
  refine lv_iload_n hx hb dX4_readRow_7 rfl (lv_at hl 3 rfl) ?_
  refine lv_icmp_ge (tgt := 49) hx hb dX4_readRow_8 (by decide) (fun _ => ?_) (fun c9 => absurd (by decide +kernel) c9)
  refine lv_iload_n hx hb dX4_readRow_49 rfl (lv_at hl 1 rfl) ?_
  refine lv_iconst (v := 1) hx hb dX4_readRow_50 (by decide +kernel) ?_
  refine lv_iload_n hx hb dX4_readRow_51 rfl (lv_at hl 3 rfl) ?_
  refine jw_ishl (v := 4) hx hb dX4_readRow_52 (by decide +kernel) ?_
  refine lv_iconst (v := 1) hx hb dX4_readRow_53 (by decide +kernel) ?_
  refine jw_isub (v := 3) hx hb dX4_readRow_54 (by decide +kernel) ?_
  refine lv_icmp_ne (tgt := 62) hx hb dX4_readRow_55 (by decide) (fun _ => ?_) (fun c9 => absurd c9 (by decide +kernel))
  refine lv_iconst (v := 0) hx hb dX4_readRow_62 (by decide +kernel) ?_
  refine W.widen (k := 0) (n := 0) (Nat.le_of_ble_eq_true rfl) (Nat.le_of_ble_eq_true rfl) ?_
  exact jw_zret hx hb hr hlocks rfl rfl rfl hP hD hS dX4_readRow_63
set_option maxHeartbeats 4000000 in
set_option maxRecDepth 100000 in
theorem k30_X4_readRow {l : Launch} {D : va_G} {Y : Nat → ClassId} {tt : Nat → Nat} (h0 : Nat) (sz : Nat) : Met l yX4_readRow wsX4_readRow ({ frames := 0, cells := 0, slots := 0, locals := 0 }) (jw_Pc D Y tt [.int 12, .int 2, .ref h0] [(h0, .inl (Y 1, 4, .inl (jw_l 0 [2, 3])))] sz) (jw_Qi D (fun r => r = 0) (fun w => w = [(h0, .inl (Y 1, 4, .inl (jw_l 0 [3, 0])))]) (va_A [(h0, .inl (Y 1, 4, .inl (jw_l 0 [2, 3])))] sz)) 0 0 (va_A [(h0, .inl (Y 1, 4, .inl (jw_l 0 [2, 3])))] sz) := by
  refine jw_met (fun A => jw_Qi D (fun r => r = 0) (fun w => w = [(h0, .inl (Y 1, 4, .inl (jw_l 0 [3, 0])))]) A) (cc := cX4_readRow) (maxL := 5) (ret := (some .boolean)) pn_X4_readRow rfl rfl ?_
  intro p e s m below meth c A H locs ls hx hb hml hr hts hown hlocks hin hP hD hA hS hE hl
  have hown : s.vm.findClass RX4 = some m.cls := hown
  have hl : lv_has ls 5 [(0, .int 12), (1, .int 2), (2, .ref h0)] := hl
  refine lv_iconst (v := 0) hx hb dX4_readRow_0 (by decide +kernel) ?_
  refine lv_istore_n (lv' := [(3, .int 0), (0, .int 12), (1, .int 2), (2, .ref h0)]) hx hb dX4_readRow_1 rfl hl (by decide) rfl (fun ls hl => ?_)
  refine lv_iconst (v := 0) hx hb dX4_readRow_2 (by decide +kernel) ?_
  refine lv_istore (lv' := [(4, .int 0), (3, .int 0), (0, .int 12), (1, .int 2), (2, .ref h0)]) hx hb dX4_readRow_3 hl (by decide) rfl (fun ls hl => ?_)
  refine lv_iload hx hb dX4_readRow_5 (lv_at hl 0 rfl) ?_
  refine lv_iload_n hx hb dX4_readRow_7 rfl (lv_at hl 3 rfl) ?_
  refine lv_icmp_ge (tgt := 49) hx hb dX4_readRow_8 (by decide) (fun c9 => absurd c9 (by decide +kernel)) (fun _ => ?_)
  refine lv_iload hx hb dX4_readRow_11 (lv_at hl 0 rfl) ?_
  refine lv_aload_n hx hb dX4_readRow_13 rfl (lv_at hl 4 rfl) ?_
  refine jw_alen (v := 4) hx hb hE hP 0 1 rfl rfl (by decide +kernel) dX4_readRow_14 ?_
  refine lv_icmp_ge (tgt := 49) hx hb dX4_readRow_15 (by decide) (fun c9 => absurd c9 (by decide +kernel)) (fun _ => ?_)
  refine lv_aload_n hx hb dX4_readRow_18 rfl (lv_at hl 4 rfl) ?_
  refine lv_iload hx hb dX4_readRow_19 (lv_at hl 0 rfl) ?_
  refine lv_iload_n hx hb dX4_readRow_21 rfl (lv_at hl 2 rfl) ?_
  refine lv_iconst (v := 2) hx hb dX4_readRow_22 (by decide +kernel) ?_
  refine lv_iload_n hx hb dX4_readRow_23 rfl (lv_at hl 3 rfl) ?_
  refine lv_iconst (v := 1) hx hb dX4_readRow_24 (by decide +kernel) ?_
  refine jw_isub (v := 1) hx hb dX4_readRow_25 (by decide +kernel) ?_
  refine lv_iload hx hb dX4_readRow_26 (lv_at hl 0 rfl) ?_
  refine jw_isub (v := 1) hx hb dX4_readRow_28 (by decide +kernel) ?_
  refine jw_imul (v := 2) hx hb dX4_readRow_29 (by decide +kernel) ?_
  refine lv_iushr (v := 3) hx hb dX4_readRow_30 (by decide +kernel) ?_
  refine lv_iconst (v := 3) hx hb dX4_readRow_31 (by decide +kernel) ?_
  refine jw_iand (v := 3) hx hb dX4_readRow_32 (by decide +kernel) ?_
  refine jw_iast (ws' := [(h0, .inl (Y 1, 4, .inl (jw_l 0 [3, 3])))]) hx hb hE hP hD hS 0 0 [3, 3] rfl (by decide +kernel) (by decide +kernel) rfl dX4_readRow_33 (fun H locs hP hD hS => ?_)
  refine lv_iload_n hx hb dX4_readRow_34 rfl (lv_at hl 1 rfl) ?_
  refine lv_iconst (v := 1) hx hb dX4_readRow_35 (by decide +kernel) ?_
  refine lv_aload_n hx hb dX4_readRow_36 rfl (lv_at hl 4 rfl) ?_
  refine lv_iload hx hb dX4_readRow_37 (lv_at hl 0 rfl) ?_
  refine jw_iald (v := 3) hx hb hE hP 0 0 rfl (by decide +kernel) (by decide +kernel) dX4_readRow_39 ?_
  refine jw_ishl (v := 8) hx hb dX4_readRow_40 (by decide +kernel) ?_
  refine jw_ior (v := 8) hx hb dX4_readRow_41 (by decide +kernel) ?_
  refine lv_istore_n (lv' := [(3, .int 8), (4, .int 0), (0, .int 12), (1, .int 2), (2, .ref h0)]) hx hb dX4_readRow_42 rfl hl (by decide) rfl (fun ls hl => ?_)
  refine lv_iinc (v := 1) (lv' := [(4, .int 1), (3, .int 8), (0, .int 12), (1, .int 2), (2, .ref h0)]) hx hb dX4_readRow_43 hl (k := 1) rfl (by decide +kernel) (by decide) rfl (fun ls hl => ?_)
  refine lv_goto (tgt := 5) hx hb dX4_readRow_46 (by decide) ?_
  refine lv_iload hx hb dX4_readRow_5 (lv_at hl 0 rfl) ?_
  refine lv_iload_n hx hb dX4_readRow_7 rfl (lv_at hl 3 rfl) ?_
  refine lv_icmp_ge (tgt := 49) hx hb dX4_readRow_8 (by decide) (fun c9 => absurd c9 (by decide +kernel)) (fun _ => ?_)
  refine lv_iload hx hb dX4_readRow_11 (lv_at hl 0 rfl) ?_
  refine lv_aload_n hx hb dX4_readRow_13 rfl (lv_at hl 4 rfl) ?_
  refine jw_alen (v := 4) hx hb hE hP 0 1 rfl rfl (by decide +kernel) dX4_readRow_14 ?_
  refine lv_icmp_ge (tgt := 49) hx hb dX4_readRow_15 (by decide) (fun c9 => absurd c9 (by decide +kernel)) (fun _ => ?_)
  refine lv_aload_n hx hb dX4_readRow_18 rfl (lv_at hl 4 rfl) ?_
  refine lv_iload hx hb dX4_readRow_19 (lv_at hl 0 rfl) ?_
  refine lv_iload_n hx hb dX4_readRow_21 rfl (lv_at hl 2 rfl) ?_
  refine lv_iconst (v := 2) hx hb dX4_readRow_22 (by decide +kernel) ?_
  refine lv_iload_n hx hb dX4_readRow_23 rfl (lv_at hl 3 rfl) ?_
  refine lv_iconst (v := 1) hx hb dX4_readRow_24 (by decide +kernel) ?_
  refine jw_isub (v := 1) hx hb dX4_readRow_25 (by decide +kernel) ?_
  refine lv_iload hx hb dX4_readRow_26 (lv_at hl 0 rfl) ?_
  refine jw_isub (v := 0) hx hb dX4_readRow_28 (by decide +kernel) ?_
  refine jw_imul (v := 0) hx hb dX4_readRow_29 (by decide +kernel) ?_
  refine lv_iushr (v := 12) hx hb dX4_readRow_30 (by decide +kernel) ?_
  refine lv_iconst (v := 3) hx hb dX4_readRow_31 (by decide +kernel) ?_
  refine jw_iand (v := 0) hx hb dX4_readRow_32 (by decide +kernel) ?_
  refine jw_iast (ws' := [(h0, .inl (Y 1, 4, .inl (jw_l 0 [3, 0])))]) hx hb hE hP hD hS 0 1 [3, 0] rfl (by decide +kernel) (by decide +kernel) rfl dX4_readRow_33 (fun H locs hP hD hS => ?_)
  refine lv_iload_n hx hb dX4_readRow_34 rfl (lv_at hl 1 rfl) ?_
  refine lv_iconst (v := 1) hx hb dX4_readRow_35 (by decide +kernel) ?_
  refine lv_aload_n hx hb dX4_readRow_36 rfl (lv_at hl 4 rfl) ?_
  refine lv_iload hx hb dX4_readRow_37 (lv_at hl 0 rfl) ?_
  refine jw_iald (v := 0) hx hb hE hP 0 1 rfl (by decide +kernel) (by decide +kernel) dX4_readRow_39 ?_
  refine jw_ishl (v := 1) hx hb dX4_readRow_40 (by decide +kernel) ?_
  refine jw_ior (v := 9) hx hb dX4_readRow_41 (by decide +kernel) ?_
  refine lv_istore_n (lv' := [(3, .int 9), (4, .int 1), (0, .int 12), (1, .int 2), (2, .ref h0)]) hx hb dX4_readRow_42 rfl hl (by decide) rfl (fun ls hl => ?_)
  refine lv_iinc (v := 2) (lv' := [(4, .int 2), (3, .int 9), (0, .int 12), (1, .int 2), (2, .ref h0)]) hx hb dX4_readRow_43 hl (k := 1) rfl (by decide +kernel) (by decide) rfl (fun ls hl => ?_)
  refine lv_goto (tgt := 5) hx hb dX4_readRow_46 (by decide) ?_
  refine lv_iload hx hb dX4_readRow_5 (lv_at hl 0 rfl) ?_
  refine lv_iload_n hx hb dX4_readRow_7 rfl (lv_at hl 3 rfl) ?_
  refine lv_icmp_ge (tgt := 49) hx hb dX4_readRow_8 (by decide) (fun _ => ?_) (fun c9 => absurd (by decide +kernel) c9)
  refine lv_iload_n hx hb dX4_readRow_49 rfl (lv_at hl 1 rfl) ?_
  refine lv_iconst (v := 1) hx hb dX4_readRow_50 (by decide +kernel) ?_
  refine lv_iload_n hx hb dX4_readRow_51 rfl (lv_at hl 3 rfl) ?_
  refine jw_ishl (v := 4) hx hb dX4_readRow_52 (by decide +kernel) ?_
  refine lv_iconst (v := 1) hx hb dX4_readRow_53 (by decide +kernel) ?_
  refine jw_isub (v := 3) hx hb dX4_readRow_54 (by decide +kernel) ?_
  refine lv_icmp_ne (tgt := 62) hx hb dX4_readRow_55 (by decide) (fun _ => ?_) (fun c9 => absurd c9 (by decide +kernel))
  refine lv_iconst (v := 0) hx hb dX4_readRow_62 (by decide +kernel) ?_
  refine W.widen (k := 0) (n := 0) (Nat.le_of_ble_eq_true rfl) (Nat.le_of_ble_eq_true rfl) ?_
  exact jw_zret hx hb hr hlocks rfl rfl rfl hP hD hS dX4_readRow_63
