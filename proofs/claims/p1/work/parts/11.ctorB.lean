set_option maxHeartbeats 4000000 in
set_option maxRecDepth 100000 in
theorem k11_X4_readRow {l : Launch} {D : va_G} {Y : Nat → ClassId} {tt : Nat → Nat} (h0 : Nat) (sz : Nat) : Met l yX4_readRow wsX4_readRow ({ frames := 0, cells := 0, slots := 0, locals := 0 }) (jw_Pc D Y tt [.int 0, .int 2, .ref h0] [(h0, .inl (Y 1, 4, .inl (jw_l 0 [])))] sz) (jw_Qi D (fun r => r = 0) (fun w => w = [(h0, .inl (Y 1, 4, .inl (jw_l 0 [0, 0])))]) (va_A [(h0, .inl (Y 1, 4, .inl (jw_l 0 [])))] sz)) 0 0 (va_A [(h0, .inl (Y 1, 4, .inl (jw_l 0 [])))] sz) := by
  refine jw_met (fun A => jw_Qi D (fun r => r = 0) (fun w => w = [(h0, .inl (Y 1, 4, .inl (jw_l 0 [0, 0])))]) A) (cc := cX4_readRow) (maxL := 5) (ret := (some .boolean)) pn_X4_readRow rfl rfl ?_
  intro p e s m below meth c A H locs ls hx hb hml hr hts hown hlocks hin hP hD hA hS hE hl
  have hown : s.vm.findClass RX4 = some m.cls := hown
  have hl : lv_has ls 5 [(0, .int 0), (1, .int 2), (2, .ref h0)] := hl
  refine lv_iconst (v := 0) hx hb dX4_readRow_0 (by decide +kernel) ?_
  refine lv_istore_n (lv' := [(3, .int 0), (0, .int 0), (1, .int 2), (2, .ref h0)]) hx hb dX4_readRow_1 rfl hl (by decide) rfl (fun ls hl => ?_)
  refine lv_iconst (v := 0) hx hb dX4_readRow_2 (by decide +kernel) ?_
  refine lv_istore (lv' := [(4, .int 0), (3, .int 0), (0, .int 0), (1, .int 2), (2, .ref h0)]) hx hb dX4_readRow_3 hl (by decide) rfl (fun ls hl => ?_)
  refine lv_iload hx hb dX4_readRow_5 (lv_at hl 0 rfl) ?_
  refine lv_iload_n hx hb dX4_readRow_7 rfl (lv_at hl 3 rfl) ?_
  refine lv_icmp_ge (tgt := 49) hx hb dX4_readRow_8 (by decide) (fun c9 => absurd c9 (by decide +kernel)) (fun _ => ?_)
  refine lv_iload hx hb dX4_readRow_11 (lv_at hl 0 rfl) ?_
  refine lv_aload_n hx hb dX4_readRow_13 rfl (lv_at hl 4 rfl) ?_
  refine jw_alen (v := 4) hx hb hE hP 0 1 rfl rfl (by decide +kernel) dX4_readRow_14 ?_
  refine lv_icmp_ge (tgt := 49) hx hb dX4_readRow_15 (by decide) (fun c9 => absurd c9 (by decide +kernel)) (fun _ => ?_)
  refine lv_aload_n hx hb dX4_readRow_18 rfl (lv_at hl 4 rfl) ?_
  refine lv_iload hx hb dX4_readRow_19 (lv_at hl 0 rfl) ?_
  refine lv_iload_n hx hb dX4_readRow_21 rfl (lv_at hl 2 rfl) ?_
  refine lv_iconst (v := 2) hx hb dX4_readRow_22 (by decide +kernel) ?_
  refine lv_iload_n hx hb dX4_readRow_23 rfl (lv_at hl 3 rfl) ?_
  refine lv_iconst (v := 1) hx hb dX4_readRow_24 (by decide +kernel) ?_
  refine jw_isub (v := 1) hx hb dX4_readRow_25 (by decide +kernel) ?_
  refine lv_iload hx hb dX4_readRow_26 (lv_at hl 0 rfl) ?_
  refine jw_isub (v := 1) hx hb dX4_readRow_28 (by decide +kernel) ?_
  refine jw_imul (v := 2) hx hb dX4_readRow_29 (by decide +kernel) ?_
  refine lv_iushr (v := 0) hx hb dX4_readRow_30 (by decide +kernel) ?_
  refine lv_iconst (v := 3) hx hb dX4_readRow_31 (by decide +kernel) ?_
  refine jw_iand (v := 0) hx hb dX4_readRow_32 (by decide +kernel) ?_
  refine jw_iast (ws' := [(h0, .inl (Y 1, 4, .inl (jw_l 0 [0])))]) hx hb hE hP hD hS 0 0 [0] rfl (by decide +kernel) (by decide +kernel) rfl dX4_readRow_33 (fun H locs hP hD hS => ?_)
  refine lv_iload_n hx hb dX4_readRow_34 rfl (lv_at hl 1 rfl) ?_
  refine lv_iconst (v := 1) hx hb dX4_readRow_35 (by decide +kernel) ?_
  refine lv_aload_n hx hb dX4_readRow_36 rfl (lv_at hl 4 rfl) ?_
  refine lv_iload hx hb dX4_readRow_37 (lv_at hl 0 rfl) ?_
  refine jw_iald (v := 0) hx hb hE hP 0 0 rfl (by decide +kernel) (by decide +kernel) dX4_readRow_39 ?_
  refine jw_ishl (v := 1) hx hb dX4_readRow_40 (by decide +kernel) ?_
  refine jw_ior (v := 1) hx hb dX4_readRow_41 (by decide +kernel) ?_
  refine lv_istore_n (lv' := [(3, .int 1), (4, .int 0), (0, .int 0), (1, .int 2), (2, .ref h0)]) hx hb dX4_readRow_42 rfl hl (by decide) rfl (fun ls hl => ?_)
  refine lv_iinc (v := 1) (lv' := [(4, .int 1), (3, .int 1), (0, .int 0), (1, .int 2), (2, .ref h0)]) hx hb dX4_readRow_43 hl (k := 1) rfl (by decide +kernel) (by decide) rfl (fun ls hl => ?_)
  refine lv_goto (tgt := 5) hx hb dX4_readRow_46 (by decide) ?_
  refine lv_iload hx hb dX4_readRow_5 (lv_at hl 0 rfl) ?_
  refine lv_iload_n hx hb dX4_readRow_7 rfl (lv_at hl 3 rfl) ?_
  refine lv_icmp_ge (tgt := 49) hx hb dX4_readRow_8 (by decide) (fun c9 => absurd c9 (by decide +kernel)) (fun _ => ?_)
  refine lv_iload hx hb dX4_readRow_11 (lv_at hl 0 rfl) ?_
  refine lv_aload_n hx hb dX4_readRow_13 rfl (lv_at hl 4 rfl) ?_
  refine jw_alen (v := 4) hx hb hE hP 0 1 rfl rfl (by decide +kernel) dX4_readRow_14 ?_
  refine lv_icmp_ge (tgt := 49) hx hb dX4_readRow_15 (by decide) (fun c9 => absurd c9 (by decide +kernel)) (fun _ => ?_)
  refine lv_aload_n hx hb dX4_readRow_18 rfl (lv_at hl 4 rfl) ?_
  refine lv_iload hx hb dX4_readRow_19 (lv_at hl 0 rfl) ?_
  refine lv_iload_n hx hb dX4_readRow_21 rfl (lv_at hl 2 rfl) ?_
  refine lv_iconst (v := 2) hx hb dX4_readRow_22 (by decide +kernel) ?_
  refine lv_iload_n hx hb dX4_readRow_23 rfl (lv_at hl 3 rfl) ?_
  refine lv_iconst (v := 1) hx hb dX4_readRow_24 (by decide +kernel) ?_
  refine jw_isub (v := 1) hx hb dX4_readRow_25 (by decide +kernel) ?_
  refine lv_iload hx hb dX4_readRow_26 (lv_at hl 0 rfl) ?_
  refine jw_isub (v := 0) hx hb dX4_readRow_28 (by decide +kernel) ?_
  refine jw_imul (v := 0) hx hb dX4_readRow_29 (by decide +kernel) ?_
  refine lv_iushr (v := 0) hx hb dX4_readRow_30 (by decide +kernel) ?_
  refine lv_iconst (v := 3) hx hb dX4_readRow_31 (by decide +kernel) ?_
  refine jw_iand (v := 0) hx hb dX4_readRow_32 (by decide +kernel) ?_
  refine jw_iast (ws' := [(h0, .inl (Y 1, 4, .inl (jw_l 0 [0, 0])))]) hx hb hE hP hD hS 0 1 [0, 0] rfl (by decide +kernel) (by decide +kernel) rfl dX4_readRow_33 (fun H locs hP hD hS => ?_)
  refine lv_iload_n hx hb dX4_readRow_34 rfl (lv_at hl 1 rfl) ?_
  refine lv_iconst (v := 1) hx hb dX4_readRow_35 (by decide +kernel) ?_
  refine lv_aload_n hx hb dX4_readRow_36 rfl (lv_at hl 4 rfl) ?_
  refine lv_iload hx hb dX4_readRow_37 (lv_at hl 0 rfl) ?_
  refine jw_iald (v := 0) hx hb hE hP 0 1 rfl (by decide +kernel) (by decide +kernel) dX4_readRow_39 ?_
  refine jw_ishl (v := 1) hx hb dX4_readRow_40 (by decide +kernel) ?_
  refine jw_ior (v := 1) hx hb dX4_readRow_41 (by decide +kernel) ?_
  refine lv_istore_n (lv' := [(3, .int 1), (4, .int 1), (0, .int 0), (1, .int 2), (2, .ref h0)]) hx hb dX4_readRow_42 rfl hl (by decide) rfl (fun ls hl => ?_)
  refine lv_iinc (v := 2) (lv' := [(4, .int 2), (3, .int 1), (0, .int 0), (1, .int 2), (2, .ref h0)]) hx hb dX4_readRow_43 hl (k := 1) rfl (by decide +kernel) (by decide) rfl (fun ls hl => ?_)
  refine lv_goto (tgt := 5) hx hb dX4_readRow_46 (by decide) ?_
  refine lv_iload hx hb dX4_readRow_5 (lv_at hl 0 rfl) ?_
  refine lv_iload_n hx hb dX4_readRow_7 rfl (lv_at hl 3 rfl) ?_
  refine lv_icmp_ge (tgt := 49) hx hb dX4_readRow_8 (by decide) (fun _ => ?_) (fun c9 => absurd (by decide +kernel) c9)
  refine lv_iload_n hx hb dX4_readRow_49 rfl (lv_at hl 1 rfl) ?_
  refine lv_iconst (v := 1) hx hb dX4_readRow_50 (by decide +kernel) ?_
  refine lv_iload_n hx hb dX4_readRow_51 rfl (lv_at hl 3 rfl) ?_
  refine jw_ishl (v := 4) hx hb dX4_readRow_52 (by decide +kernel) ?_
  refine lv_iconst (v := 1) hx hb dX4_readRow_53 (by decide +kernel) ?_
  refine jw_isub (v := 3) hx hb dX4_readRow_54 (by decide +kernel) ?_
  refine lv_icmp_ne (tgt := 62) hx hb dX4_readRow_55 (by decide) (fun _ => ?_) (fun c9 => absurd c9 (by decide +kernel))
  refine lv_iconst (v := 0) hx hb dX4_readRow_62 (by decide +kernel) ?_
  refine W.widen (k := 0) (n := 0) (Nat.le_of_ble_eq_true rfl) (Nat.le_of_ble_eq_true rfl) ?_
  exact jw_zret hx hb hr hlocks rfl rfl rfl hP hD hS dX4_readRow_63
set_option maxHeartbeats 4000000 in
set_option maxRecDepth 100000 in
theorem k12_X4_readRow {l : Launch} {D : va_G} {Y : Nat → ClassId} {tt : Nat → Nat} (h0 : Nat) (sz : Nat) : Met l yX4_readRow wsX4_readRow ({ frames := 0, cells := 0, slots := 0, locals := 0 }) (jw_Pc D Y tt [.int 1, .int 2, .ref h0] [(h0, .inl (Y 1, 4, .inl (jw_l 0 [0, 0])))] sz) (jw_Qi D (fun r => r = 1) (fun w => w = [(h0, .inl (Y 1, 4, .inl (jw_l 0 [0, 1])))]) (va_A [(h0, .inl (Y 1, 4, .inl (jw_l 0 [0, 0])))] sz)) 0 0 (va_A [(h0, .inl (Y 1, 4, .inl (jw_l 0 [0, 0])))] sz) := by
  refine jw_met (fun A => jw_Qi D (fun r => r = 1) (fun w => w = [(h0, .inl (Y 1, 4, .inl (jw_l 0 [0, 1])))]) A) (cc := cX4_readRow) (maxL := 5) (ret := (some .boolean)) pn_X4_readRow rfl rfl ?_
  intro p e s m below meth c A H locs ls hx hb hml hr hts hown hlocks hin hP hD hA hS hE hl
  have hown : s.vm.findClass RX4 = some m.cls := hown
  have hl : lv_has ls 5 [(0, .int 1), (1, .int 2), (2, .ref h0)] := hl
  refine lv_iconst (v := 0) hx hb dX4_readRow_0 (by decide +kernel) ?_
  refine lv_istore_n (lv' := [(3, .int 0), (0, .int 1), (1, .int 2), (2, .ref h0)]) hx hb dX4_readRow_1 rfl hl (by decide) rfl (fun ls hl => ?_)
  refine lv_iconst (v := 0) hx hb dX4_readRow_2 (by decide +kernel) ?_
  refine lv_istore (lv' := [(4, .int 0), (3, .int 0), (0, .int 1), (1, .int 2), (2, .ref h0)]) hx hb dX4_readRow_3 hl (by decide) rfl (fun ls hl => ?_)
  refine lv_iload hx hb dX4_readRow_5 (lv_at hl 0 rfl) ?_
  refine lv_iload_n hx hb dX4_readRow_7 rfl (lv_at hl 3 rfl) ?_
  refine lv_icmp_ge (tgt := 49) hx hb dX4_readRow_8 (by decide) (fun c9 => absurd c9 (by decide +kernel)) (fun _ => ?_)
  refine lv_iload hx hb dX4_readRow_11 (lv_at hl 0 rfl) ?_
  refine lv_aload_n hx hb dX4_readRow_13 rfl (lv_at hl 4 rfl) ?_
  refine jw_alen (v := 4) hx hb hE hP 0 1 rfl rfl (by decide +kernel) dX4_readRow_14 ?_
  refine lv_icmp_ge (tgt := 49) hx hb dX4_readRow_15 (by decide) (fun c9 => absurd c9 (by decide +kernel)) (fun _ => ?_)
  refine lv_aload_n hx hb dX4_readRow_18 rfl (lv_at hl 4 rfl) ?_
  refine lv_iload hx hb dX4_readRow_19 (lv_at hl 0 rfl) ?_
  refine lv_iload_n hx hb dX4_readRow_21 rfl (lv_at hl 2 rfl) ?_
  refine lv_iconst (v := 2) hx hb dX4_readRow_22 (by decide +kernel) ?_
  refine lv_iload_n hx hb dX4_readRow_23 rfl (lv_at hl 3 rfl) ?_
  refine lv_iconst (v := 1) hx hb dX4_readRow_24 (by decide +kernel) ?_
  refine jw_isub (v := 1) hx hb dX4_readRow_25 (by decide +kernel) ?_
  refine lv_iload hx hb dX4_readRow_26 (lv_at hl 0 rfl) ?_
  refine jw_isub (v := 1) hx hb dX4_readRow_28 (by decide +kernel) ?_
  refine jw_imul (v := 2) hx hb dX4_readRow_29 (by decide +kernel) ?_
  refine lv_iushr (v := 0) hx hb dX4_readRow_30 (by decide +kernel) ?_
  refine lv_iconst (v := 3) hx hb dX4_readRow_31 (by decide +kernel) ?_
  refine jw_iand (v := 0) hx hb dX4_readRow_32 (by decide +kernel) ?_
  refine jw_iast (ws' := [(h0, .inl (Y 1, 4, .inl (jw_l 0 [0, 0])))]) hx hb hE hP hD hS 0 0 [0, 0] rfl (by decide +kernel) (by decide +kernel) rfl dX4_readRow_33 (fun H locs hP hD hS => ?_)
  refine lv_iload_n hx hb dX4_readRow_34 rfl (lv_at hl 1 rfl) ?_
  refine lv_iconst (v := 1) hx hb dX4_readRow_35 (by decide +kernel) ?_
  refine lv_aload_n hx hb dX4_readRow_36 rfl (lv_at hl 4 rfl) ?_
  refine lv_iload hx hb dX4_readRow_37 (lv_at hl 0 rfl) ?_
  refine jw_iald (v := 0) hx hb hE hP 0 0 rfl (by decide +kernel) (by decide +kernel) dX4_readRow_39 ?_
  refine jw_ishl (v := 1) hx hb dX4_readRow_40 (by decide +kernel) ?_
  refine jw_ior (v := 1) hx hb dX4_readRow_41 (by decide +kernel) ?_
  refine lv_istore_n (lv' := [(3, .int 1), (4, .int 0), (0, .int 1), (1, .int 2), (2, .ref h0)]) hx hb dX4_readRow_42 rfl hl (by decide) rfl (fun ls hl => ?_)
  refine lv_iinc (v := 1) (lv' := [(4, .int 1), (3, .int 1), (0, .int 1), (1, .int 2), (2, .ref h0)]) hx hb dX4_readRow_43 hl (k := 1) rfl (by decide +kernel) (by decide) rfl (fun ls hl => ?_)
  refine lv_goto (tgt := 5) hx hb dX4_readRow_46 (by decide) ?_
  refine lv_iload hx hb dX4_readRow_5 (lv_at hl 0 rfl) ?_
  refine lv_iload_n hx hb dX4_readRow_7 rfl (lv_at hl 3 rfl) ?_
  refine lv_icmp_ge (tgt := 49) hx hb dX4_readRow_8 (by decide) (fun c9 => absurd c9 (by decide +kernel)) (fun _ => ?_)
  refine lv_iload hx hb dX4_readRow_11 (lv_at hl 0 rfl) ?_
  refine lv_aload_n hx hb dX4_readRow_13 rfl (lv_at hl 4 rfl) ?_
  refine jw_alen (v := 4) hx hb hE hP 0 1 rfl rfl (by decide +kernel) dX4_readRow_14 ?_
  refine lv_icmp_ge (tgt := 49) hx hb dX4_readRow_15 (by decide) (fun c9 => absurd c9 (by decide +kernel)) (fun _ => ?_)
  refine lv_aload_n hx hb dX4_readRow_18 rfl (lv_at hl 4 rfl) ?_
  refine lv_iload hx hb dX4_readRow_19 (lv_at hl 0 rfl) ?_
  refine lv_iload_n hx hb dX4_readRow_21 rfl (lv_at hl 2 rfl) ?_
  refine lv_iconst (v := 2) hx hb dX4_readRow_22 (by decide +kernel) ?_
  refine lv_iload_n hx hb dX4_readRow_23 rfl (lv_at hl 3 rfl) ?_
  refine lv_iconst (v := 1) hx hb dX4_readRow_24 (by decide +kernel) ?_
  refine jw_isub (v := 1) hx hb dX4_readRow_25 (by decide +kernel) ?_
  refine lv_iload hx hb dX4_readRow_26 (lv_at hl 0 rfl) ?_
  refine jw_isub (v := 0) hx hb dX4_readRow_28 (by decide +kernel) ?_
  refine jw_imul (v := 0) hx hb dX4_readRow_29 (by decide +kernel) ?_
  refine lv_iushr (v := 1) hx hb dX4_readRow_30 (by decide +kernel) ?_
  refine lv_iconst (v := 3) hx hb dX4_readRow_31 (by decide +kernel) ?_
  refine jw_iand (v := 1) hx hb dX4_readRow_32 (by decide +kernel) ?_
  refine jw_iast (ws' := [(h0, .inl (Y 1, 4, .inl (jw_l 0 [0, 1])))]) hx hb hE hP hD hS 0 1 [0, 1] rfl (by decide +kernel) (by decide +kernel) rfl dX4_readRow_33 (fun H locs hP hD hS => ?_)
  refine lv_iload_n hx hb dX4_readRow_34 rfl (lv_at hl 1 rfl) ?_
  refine lv_iconst (v := 1) hx hb dX4_readRow_35 (by decide +kernel) ?_
  refine lv_aload_n hx hb dX4_readRow_36 rfl (lv_at hl 4 rfl) ?_
  refine lv_iload hx hb dX4_readRow_37 (lv_at hl 0 rfl) ?_
  refine jw_iald (v := 1) hx hb hE hP 0 1 rfl (by decide +kernel) (by decide +kernel) dX4_readRow_39 ?_
  refine jw_ishl (v := 2) hx hb dX4_readRow_40 (by decide +kernel) ?_
  refine jw_ior (v := 3) hx hb dX4_readRow_41 (by decide +kernel) ?_
  refine lv_istore_n (lv' := [(3, .int 3), (4, .int 1), (0, .int 1), (1, .int 2), (2, .ref h0)]) hx hb dX4_readRow_42 rfl hl (by decide) rfl (fun ls hl => ?_)
  refine lv_iinc (v := 2) (lv' := [(4, .int 2), (3, .int 3), (0, .int 1), (1, .int 2), (2, .ref h0)]) hx hb dX4_readRow_43 hl (k := 1) rfl (by decide +kernel) (by decide) rfl (fun ls hl => ?_)
  refine lv_goto (tgt := 5) hx hb dX4_readRow_46 (by decide) ?_
  refine lv_iload hx hb dX4_readRow_5 (lv_at hl 0 rfl) ?_
  refine lv_iload_n hx hb dX4_readRow_7 rfl (lv_at hl 3 rfl) ?_
  refine lv_icmp_ge (tgt := 49) hx hb dX4_readRow_8 (by decide) (fun _ => ?_) (fun c9 => absurd (by decide +kernel) c9)
  refine lv_iload_n hx hb dX4_readRow_49 rfl (lv_at hl 1 rfl) ?_
  refine lv_iconst (v := 1) hx hb dX4_readRow_50 (by decide +kernel) ?_
  refine lv_iload_n hx hb dX4_readRow_51 rfl (lv_at hl 3 rfl) ?_
  refine jw_ishl (v := 4) hx hb dX4_readRow_52 (by decide +kernel) ?_
  refine lv_iconst (v := 1) hx hb dX4_readRow_53 (by decide +kernel) ?_
  refine jw_isub (v := 3) hx hb dX4_readRow_54 (by decide +kernel) ?_
  refine lv_icmp_ne (tgt := 62) hx hb dX4_readRow_55 (by decide) (fun c9 => absurd (by decide +kernel) c9) (fun _ => ?_)
  refine lv_iconst (v := 1) hx hb dX4_readRow_58 (by decide +kernel) ?_
  refine lv_goto (tgt := 63) hx hb dX4_readRow_59 (by decide) ?_
  refine W.widen (k := 0) (n := 0) (Nat.le_of_ble_eq_true rfl) (Nat.le_of_ble_eq_true rfl) ?_
  exact jw_zret hx hb hr hlocks rfl rfl rfl hP hD hS dX4_readRow_63
set_option maxHeartbeats 4000000 in
set_option maxRecDepth 100000 in
theorem k13_X4_addRow {l : Launch} {D : va_G} {Y : Nat → ClassId} {tt : Nat → Nat} (h0 h1 h2 h3 h4 h5 : Nat) (sz : Nat) : Met l yX4_addRow wsX4_addRow ({ frames := 0, cells := 0, slots := 0, locals := 0 }) (jw_Pc D Y tt [.ref h0] [(h0, .inr (7, [.int 2, .int 0, .int 0, .int 0, .ref h1, .ref h2, .ref h3, .ref h5, .ref h4])), (h1, .inl (Y 1, 96, .inl (jw_l 0 []))), (h2, .inl (Y 1, 96, .inl (jw_l 0 []))), (h3, .inl (Y 1, 16, .inl (jw_l 0 []))), (h4, .inl (Y 1, 4, .inl (jw_l 0 [0, 1])))] sz) (jw_Qv D (fun w => w = [(h0, .inr (7, [.int 2, .int 1, .int 0, .int 0, .ref h1, .ref h2, .ref h3, .ref h5, .ref h4])), (h1, .inl (Y 1, 96, .inl (jw_l 0 [0, 1]))), (h2, .inl (Y 1, 96, .inl (jw_l 0 [0, 1]))), (h3, .inl (Y 1, 16, .inl (jw_l 0 [1, 0, 0, 0, 0, 1]))), (h4, .inl (Y 1, 4, .inl (jw_l 0 [0, 1])))]) (va_A [(h0, .inr (7, [.int 2, .int 0, .int 0, .int 0, .ref h1, .ref h2, .ref h3, .ref h5, .ref h4])), (h1, .inl (Y 1, 96, .inl (jw_l 0 []))), (h2, .inl (Y 1, 96, .inl (jw_l 0 []))), (h3, .inl (Y 1, 16, .inl (jw_l 0 []))), (h4, .inl (Y 1, 4, .inl (jw_l 0 [0, 1])))] sz)) 0 0 (va_A [(h0, .inr (7, [.int 2, .int 0, .int 0, .int 0, .ref h1, .ref h2, .ref h3, .ref h5, .ref h4])), (h1, .inl (Y 1, 96, .inl (jw_l 0 []))), (h2, .inl (Y 1, 96, .inl (jw_l 0 []))), (h3, .inl (Y 1, 16, .inl (jw_l 0 []))), (h4, .inl (Y 1, 4, .inl (jw_l 0 [0, 1])))] sz) := by
  refine jw_met (fun A => jw_Qv D (fun w => w = [(h0, .inr (7, [.int 2, .int 1, .int 0, .int 0, .ref h1, .ref h2, .ref h3, .ref h5, .ref h4])), (h1, .inl (Y 1, 96, .inl (jw_l 0 [0, 1]))), (h2, .inl (Y 1, 96, .inl (jw_l 0 [0, 1]))), (h3, .inl (Y 1, 16, .inl (jw_l 0 [1, 0, 0, 0, 0, 1]))), (h4, .inl (Y 1, 4, .inl (jw_l 0 [0, 1])))]) A) (cc := cX4_addRow) (maxL := 3) (ret := none) pn_X4_addRow rfl rfl ?_
  intro p e s m below meth c A H locs ls hx hb hml hr hts hown hlocks hin hP hD hA hS hE hl
  have hown : s.vm.findClass RX4 = some m.cls := hown
  have hl : lv_has ls 3 [(0, .ref h0)] := hl
  refine lv_iconst (v := 0) hx hb dX4_addRow_0 (by decide +kernel) ?_
  refine lv_istore_n (lv' := [(1, .int 0), (0, .ref h0)]) hx hb dX4_addRow_1 rfl hl (by decide) rfl (fun ls hl => ?_)
  refine lv_iload_n hx hb dX4_addRow_2 rfl (lv_at hl 0 rfl) ?_
  refine lv_aload_n hx hb dX4_addRow_3 rfl (lv_at hl 1 rfl) ?_
  refine va_get (D := D) (ci := 7) (v := .int 2) (C := RX4) (T := TX4) (N := 9) hx hb hts iw_X4_addRow__X4 hown hE.1 hP 0 rfl rfl 0 (by decide) (hts _ mw_X4_addRow__1) (fun _ h9 => h9) rfl dX4_addRow_4 ?_
  refine lv_icmp_ge (tgt := 70) hx hb dX4_addRow_7 (by decide) (fun c9 => absurd c9 (by decide +kernel)) (fun _ => ?_)
  refine lv_aload_n hx hb dX4_addRow_10 rfl (lv_at hl 1 rfl) ?_
  refine va_get (D := D) (ci := 7) (v := .ref h4) (C := RX4) (T := TX4) (N := 9) hx hb hts iw_X4_addRow__X4 hown hE.1 hP 0 rfl rfl 8 (by decide) (hts _ mw_X4_addRow__2) (fun _ h9 => h9) rfl dX4_addRow_11 ?_
  refine lv_iload_n hx hb dX4_addRow_14 rfl (lv_at hl 0 rfl) ?_
  refine jw_iald (v := 0) hx hb hE hP 4 0 rfl (by decide +kernel) (by decide +kernel) dX4_addRow_15 ?_
  refine lv_istore_n (lv' := [(2, .int 0), (1, .int 0), (0, .ref h0)]) hx hb dX4_addRow_16 rfl hl (by decide) rfl (fun ls hl => ?_)
  refine lv_aload_n hx hb dX4_addRow_17 rfl (lv_at hl 2 rfl) ?_
  refine va_get (D := D) (ci := 7) (v := .ref h1) (C := RX4) (T := TX4) (N := 9) hx hb hts iw_X4_addRow__X4 hown hE.1 hP 0 rfl rfl 4 (by decide) (hts _ mw_X4_addRow__3) (fun _ h9 => h9) rfl dX4_addRow_18 ?_
  refine lv_aload_n hx hb dX4_addRow_21 rfl (lv_at hl 2 rfl) ?_
  refine va_get (D := D) (ci := 7) (v := .int 0) (C := RX4) (T := TX4) (N := 9) hx hb hts iw_X4_addRow__X4 hown hE.1 hP 0 rfl rfl 1 (by decide) (hts _ mw_X4_addRow__4) (fun _ h9 => h9) rfl dX4_addRow_22 ?_
  refine lv_iconst (v := 4) hx hb dX4_addRow_25 (by decide +kernel) ?_
  refine jw_imul (v := 0) hx hb dX4_addRow_26 (by decide +kernel) ?_
  refine lv_iload_n hx hb dX4_addRow_27 rfl (lv_at hl 1 rfl) ?_
  refine jw_iadd (v := 0) hx hb dX4_addRow_28 (by decide +kernel) ?_
  refine lv_iload_n hx hb dX4_addRow_29 rfl (lv_at hl 0 rfl) ?_
  refine jw_iast (ws' := [(h0, .inr (7, [.int 2, .int 0, .int 0, .int 0, .ref h1, .ref h2, .ref h3, .ref h5, .ref h4])), (h1, .inl (Y 1, 96, .inl (jw_l 0 [0]))), (h2, .inl (Y 1, 96, .inl (jw_l 0 []))), (h3, .inl (Y 1, 16, .inl (jw_l 0 []))), (h4, .inl (Y 1, 4, .inl (jw_l 0 [0, 1])))]) hx hb hE hP hD hS 1 0 [0] rfl (by decide +kernel) (by decide +kernel) rfl dX4_addRow_30 (fun H locs hP hD hS => ?_)
  refine lv_aload_n hx hb dX4_addRow_31 rfl (lv_at hl 2 rfl) ?_
  refine va_get (D := D) (ci := 7) (v := .ref h2) (C := RX4) (T := TX4) (N := 9) hx hb hts iw_X4_addRow__X4 hown hE.1 hP 0 rfl rfl 5 (by decide) (hts _ mw_X4_addRow__5) (fun _ h9 => h9) rfl dX4_addRow_32 ?_
  refine lv_aload_n hx hb dX4_addRow_35 rfl (lv_at hl 2 rfl) ?_
  refine va_get (D := D) (ci := 7) (v := .int 0) (C := RX4) (T := TX4) (N := 9) hx hb hts iw_X4_addRow__X4 hown hE.1 hP 0 rfl rfl 1 (by decide) (hts _ mw_X4_addRow__4) (fun _ h9 => h9) rfl dX4_addRow_36 ?_
  refine lv_iconst (v := 4) hx hb dX4_addRow_39 (by decide +kernel) ?_
  refine jw_imul (v := 0) hx hb dX4_addRow_40 (by decide +kernel) ?_
  refine lv_iload_n hx hb dX4_addRow_41 rfl (lv_at hl 0 rfl) ?_
  refine jw_iadd (v := 0) hx hb dX4_addRow_42 (by decide +kernel) ?_
  refine lv_iload_n hx hb dX4_addRow_43 rfl (lv_at hl 1 rfl) ?_
  refine jw_iast (ws' := [(h0, .inr (7, [.int 2, .int 0, .int 0, .int 0, .ref h1, .ref h2, .ref h3, .ref h5, .ref h4])), (h1, .inl (Y 1, 96, .inl (jw_l 0 [0]))), (h2, .inl (Y 1, 96, .inl (jw_l 0 [0]))), (h3, .inl (Y 1, 16, .inl (jw_l 0 []))), (h4, .inl (Y 1, 4, .inl (jw_l 0 [0, 1])))]) hx hb hE hP hD hS 2 0 [0] rfl (by decide +kernel) (by decide +kernel) rfl dX4_addRow_44 (fun H locs hP hD hS => ?_)
  refine lv_aload_n hx hb dX4_addRow_45 rfl (lv_at hl 2 rfl) ?_
  refine va_get (D := D) (ci := 7) (v := .ref h3) (C := RX4) (T := TX4) (N := 9) hx hb hts iw_X4_addRow__X4 hown hE.1 hP 0 rfl rfl 6 (by decide) (hts _ mw_X4_addRow__6) (fun _ h9 => h9) rfl dX4_addRow_46 ?_
  refine lv_iload_n hx hb dX4_addRow_49 rfl (lv_at hl 1 rfl) ?_
  refine lv_iconst (v := 4) hx hb dX4_addRow_50 (by decide +kernel) ?_
  refine jw_imul (v := 0) hx hb dX4_addRow_51 (by decide +kernel) ?_
  refine lv_iload_n hx hb dX4_addRow_52 rfl (lv_at hl 0 rfl) ?_
  refine jw_iadd (v := 0) hx hb dX4_addRow_53 (by decide +kernel) ?_
  refine lv_dup2_11 hx hb dX4_addRow_54 rfl rfl ?_
  refine jw_iald (v := 0) hx hb hE hP 3 0 rfl (by decide +kernel) (by decide +kernel) dX4_addRow_55 ?_
  refine lv_iconst (v := 1) hx hb dX4_addRow_56 (by decide +kernel) ?_
  refine lv_aload_n hx hb dX4_addRow_57 rfl (lv_at hl 2 rfl) ?_
  refine va_get (D := D) (ci := 7) (v := .int 0) (C := RX4) (T := TX4) (N := 9) hx hb hts iw_X4_addRow__X4 hown hE.1 hP 0 rfl rfl 1 (by decide) (hts _ mw_X4_addRow__4) (fun _ h9 => h9) rfl dX4_addRow_58 ?_
  refine jw_ishl (v := 1) hx hb dX4_addRow_61 (by decide +kernel) ?_
  refine jw_ior (v := 1) hx hb dX4_addRow_62 (by decide +kernel) ?_
  refine jw_iast (ws' := [(h0, .inr (7, [.int 2, .int 0, .int 0, .int 0, .ref h1, .ref h2, .ref h3, .ref h5, .ref h4])), (h1, .inl (Y 1, 96, .inl (jw_l 0 [0]))), (h2, .inl (Y 1, 96, .inl (jw_l 0 [0]))), (h3, .inl (Y 1, 16, .inl (jw_l 0 [1]))), (h4, .inl (Y 1, 4, .inl (jw_l 0 [0, 1])))]) hx hb hE hP hD hS 3 0 [1] rfl (by decide +kernel) (by decide +kernel) rfl dX4_addRow_63 (fun H locs hP hD hS => ?_)
  refine lv_iinc (v := 1) (lv' := [(1, .int 1), (2, .int 0), (0, .ref h0)]) hx hb dX4_addRow_64 hl (k := 1) rfl (by decide +kernel) (by decide) rfl (fun ls hl => ?_)
  refine lv_goto (tgt := 2) hx hb dX4_addRow_67 (by decide) ?_
  refine lv_iload_n hx hb dX4_addRow_2 rfl (lv_at hl 0 rfl) ?_
  refine lv_aload_n hx hb dX4_addRow_3 rfl (lv_at hl 2 rfl) ?_
  refine va_get (D := D) (ci := 7) (v := .int 2) (C := RX4) (T := TX4) (N := 9) hx hb hts iw_X4_addRow__X4 hown hE.1 hP 0 rfl rfl 0 (by decide) (hts _ mw_X4_addRow__1) (fun _ h9 => h9) rfl dX4_addRow_4 ?_
  refine lv_icmp_ge (tgt := 70) hx hb dX4_addRow_7 (by decide) (fun c9 => absurd c9 (by decide +kernel)) (fun _ => ?_)
  refine lv_aload_n hx hb dX4_addRow_10 rfl (lv_at hl 2 rfl) ?_
  refine va_get (D := D) (ci := 7) (v := .ref h4) (C := RX4) (T := TX4) (N := 9) hx hb hts iw_X4_addRow__X4 hown hE.1 hP 0 rfl rfl 8 (by decide) (hts _ mw_X4_addRow__2) (fun _ h9 => h9) rfl dX4_addRow_11 ?_
  refine lv_iload_n hx hb dX4_addRow_14 rfl (lv_at hl 0 rfl) ?_
  refine jw_iald (v := 1) hx hb hE hP 4 1 rfl (by decide +kernel) (by decide +kernel) dX4_addRow_15 ?_
  refine lv_istore_n (lv' := [(2, .int 1), (1, .int 1), (0, .ref h0)]) hx hb dX4_addRow_16 rfl hl (by decide) rfl (fun ls hl => ?_)
  refine lv_aload_n hx hb dX4_addRow_17 rfl (lv_at hl 2 rfl) ?_
  refine va_get (D := D) (ci := 7) (v := .ref h1) (C := RX4) (T := TX4) (N := 9) hx hb hts iw_X4_addRow__X4 hown hE.1 hP 0 rfl rfl 4 (by decide) (hts _ mw_X4_addRow__3) (fun _ h9 => h9) rfl dX4_addRow_18 ?_
  refine lv_aload_n hx hb dX4_addRow_21 rfl (lv_at hl 2 rfl) ?_
  refine va_get (D := D) (ci := 7) (v := .int 0) (C := RX4) (T := TX4) (N := 9) hx hb hts iw_X4_addRow__X4 hown hE.1 hP 0 rfl rfl 1 (by decide) (hts _ mw_X4_addRow__4) (fun _ h9 => h9) rfl dX4_addRow_22 ?_
  refine lv_iconst (v := 4) hx hb dX4_addRow_25 (by decide +kernel) ?_
  refine jw_imul (v := 0) hx hb dX4_addRow_26 (by decide +kernel) ?_
  refine lv_iload_n hx hb dX4_addRow_27 rfl (lv_at hl 1 rfl) ?_
  refine jw_iadd (v := 1) hx hb dX4_addRow_28 (by decide +kernel) ?_
  refine lv_iload_n hx hb dX4_addRow_29 rfl (lv_at hl 0 rfl) ?_
  refine jw_iast (ws' := [(h0, .inr (7, [.int 2, .int 0, .int 0, .int 0, .ref h1, .ref h2, .ref h3, .ref h5, .ref h4])), (h1, .inl (Y 1, 96, .inl (jw_l 0 [0, 1]))), (h2, .inl (Y 1, 96, .inl (jw_l 0 [0]))), (h3, .inl (Y 1, 16, .inl (jw_l 0 [1]))), (h4, .inl (Y 1, 4, .inl (jw_l 0 [0, 1])))]) hx hb hE hP hD hS 1 1 [0, 1] rfl (by decide +kernel) (by decide +kernel) rfl dX4_addRow_30 (fun H locs hP hD hS => ?_)
  refine lv_aload_n hx hb dX4_addRow_31 rfl (lv_at hl 2 rfl) ?_
  refine va_get (D := D) (ci := 7) (v := .ref h2) (C := RX4) (T := TX4) (N := 9) hx hb hts iw_X4_addRow__X4 hown hE.1 hP 0 rfl rfl 5 (by decide) (hts _ mw_X4_addRow__5) (fun _ h9 => h9) rfl dX4_addRow_32 ?_
  refine lv_aload_n hx hb dX4_addRow_35 rfl (lv_at hl 2 rfl) ?_
  refine va_get (D := D) (ci := 7) (v := .int 0) (C := RX4) (T := TX4) (N := 9) hx hb hts iw_X4_addRow__X4 hown hE.1 hP 0 rfl rfl 1 (by decide) (hts _ mw_X4_addRow__4) (fun _ h9 => h9) rfl dX4_addRow_36 ?_
  refine lv_iconst (v := 4) hx hb dX4_addRow_39 (by decide +kernel) ?_
  refine jw_imul (v := 0) hx hb dX4_addRow_40 (by decide +kernel) ?_
  refine lv_iload_n hx hb dX4_addRow_41 rfl (lv_at hl 0 rfl) ?_
  refine jw_iadd (v := 1) hx hb dX4_addRow_42 (by decide +kernel) ?_
  refine lv_iload_n hx hb dX4_addRow_43 rfl (lv_at hl 1 rfl) ?_
  refine jw_iast (ws' := [(h0, .inr (7, [.int 2, .int 0, .int 0, .int 0, .ref h1, .ref h2, .ref h3, .ref h5, .ref h4])), (h1, .inl (Y 1, 96, .inl (jw_l 0 [0, 1]))), (h2, .inl (Y 1, 96, .inl (jw_l 0 [0, 1]))), (h3, .inl (Y 1, 16, .inl (jw_l 0 [1]))), (h4, .inl (Y 1, 4, .inl (jw_l 0 [0, 1])))]) hx hb hE hP hD hS 2 1 [0, 1] rfl (by decide +kernel) (by decide +kernel) rfl dX4_addRow_44 (fun H locs hP hD hS => ?_)
  refine lv_aload_n hx hb dX4_addRow_45 rfl (lv_at hl 2 rfl) ?_
  refine va_get (D := D) (ci := 7) (v := .ref h3) (C := RX4) (T := TX4) (N := 9) hx hb hts iw_X4_addRow__X4 hown hE.1 hP 0 rfl rfl 6 (by decide) (hts _ mw_X4_addRow__6) (fun _ h9 => h9) rfl dX4_addRow_46 ?_
  refine lv_iload_n hx hb dX4_addRow_49 rfl (lv_at hl 1 rfl) ?_
  refine lv_iconst (v := 4) hx hb dX4_addRow_50 (by decide +kernel) ?_
  refine jw_imul (v := 4) hx hb dX4_addRow_51 (by decide +kernel) ?_
  refine lv_iload_n hx hb dX4_addRow_52 rfl (lv_at hl 0 rfl) ?_
  refine jw_iadd (v := 5) hx hb dX4_addRow_53 (by decide +kernel) ?_
  refine lv_dup2_11 hx hb dX4_addRow_54 rfl rfl ?_
  refine jw_iald (v := 0) hx hb hE hP 3 5 rfl (by decide +kernel) (by decide +kernel) dX4_addRow_55 ?_
  refine lv_iconst (v := 1) hx hb dX4_addRow_56 (by decide +kernel) ?_
  refine lv_aload_n hx hb dX4_addRow_57 rfl (lv_at hl 2 rfl) ?_
  refine va_get (D := D) (ci := 7) (v := .int 0) (C := RX4) (T := TX4) (N := 9) hx hb hts iw_X4_addRow__X4 hown hE.1 hP 0 rfl rfl 1 (by decide) (hts _ mw_X4_addRow__4) (fun _ h9 => h9) rfl dX4_addRow_58 ?_
  refine jw_ishl (v := 1) hx hb dX4_addRow_61 (by decide +kernel) ?_
  refine jw_ior (v := 1) hx hb dX4_addRow_62 (by decide +kernel) ?_
  refine jw_iast (ws' := [(h0, .inr (7, [.int 2, .int 0, .int 0, .int 0, .ref h1, .ref h2, .ref h3, .ref h5, .ref h4])), (h1, .inl (Y 1, 96, .inl (jw_l 0 [0, 1]))), (h2, .inl (Y 1, 96, .inl (jw_l 0 [0, 1]))), (h3, .inl (Y 1, 16, .inl (jw_l 0 [1, 0, 0, 0, 0, 1]))), (h4, .inl (Y 1, 4, .inl (jw_l 0 [0, 1])))]) hx hb hE hP hD hS 3 5 [1, 0, 0, 0, 0, 1] rfl (by decide +kernel) (by decide +kernel) rfl dX4_addRow_63 (fun H locs hP hD hS => ?_)
  refine lv_iinc (v := 2) (lv' := [(1, .int 2), (2, .int 1), (0, .ref h0)]) hx hb dX4_addRow_64 hl (k := 1) rfl (by decide +kernel) (by decide) rfl (fun ls hl => ?_)
  refine lv_goto (tgt := 2) hx hb dX4_addRow_67 (by decide) ?_
  refine lv_iload_n hx hb dX4_addRow_2 rfl (lv_at hl 0 rfl) ?_
  refine lv_aload_n hx hb dX4_addRow_3 rfl (lv_at hl 2 rfl) ?_
  refine va_get (D := D) (ci := 7) (v := .int 2) (C := RX4) (T := TX4) (N := 9) hx hb hts iw_X4_addRow__X4 hown hE.1 hP 0 rfl rfl 0 (by decide) (hts _ mw_X4_addRow__1) (fun _ h9 => h9) rfl dX4_addRow_4 ?_
  refine lv_icmp_ge (tgt := 70) hx hb dX4_addRow_7 (by decide) (fun _ => ?_) (fun c9 => absurd (by decide +kernel) c9)
  refine lv_aload_n hx hb dX4_addRow_70 rfl (lv_at hl 2 rfl) ?_
  refine lv_dup hx hb dX4_addRow_71 rfl ?_
  refine va_get (D := D) (ci := 7) (v := .int 0) (C := RX4) (T := TX4) (N := 9) hx hb hts iw_X4_addRow__X4 hown hE.1 hP 0 rfl rfl 1 (by decide) (hts _ mw_X4_addRow__4) (fun _ h9 => h9) rfl dX4_addRow_72 ?_
  refine lv_iconst (v := 1) hx hb dX4_addRow_75 (by decide +kernel) ?_
  refine jw_iadd (v := 1) hx hb dX4_addRow_76 (by decide +kernel) ?_
  refine va_put (D := D) (ci := 7) (v := .int 1) (C := RX4) (T := TX4) (N := 9) hx hb hts iw_X4_addRow__X4 tyX4 tyX4_ok nmX4 hown hE.1 hP hD hS 0 rfl rfl 1 (by decide) (hts _ mw_X4_addRow__4) (fun _ h9 => h9) rfl (tyX4_ok 1 (by decide)) rfl rfl (Nat.le_of_ble_eq_true rfl) dX4_addRow_77 (fun H locs hP hD hS => ?_)
  have hP : va_P D vwCl [(h0, .inr (7, [.int 2, .int 1, .int 0, .int 0, .ref h1, .ref h2, .ref h3, .ref h5, .ref h4])), (h1, .inl (Y 1, 96, .inl (jw_l 0 [0, 1]))), (h2, .inl (Y 1, 96, .inl (jw_l 0 [0, 1]))), (h3, .inl (Y 1, 16, .inl (jw_l 0 [1, 0, 0, 0, 0, 1]))), (h4, .inl (Y 1, 4, .inl (jw_l 0 [0, 1])))] H := hP
  have hD : va_D A [(h0, .inr (7, [.int 2, .int 1, .int 0, .int 0, .ref h1, .ref h2, .ref h3, .ref h5, .ref h4])), (h1, .inl (Y 1, 96, .inl (jw_l 0 [0, 1]))), (h2, .inl (Y 1, 96, .inl (jw_l 0 [0, 1]))), (h3, .inl (Y 1, 16, .inl (jw_l 0 [1, 0, 0, 0, 0, 1]))), (h4, .inl (Y 1, 4, .inl (jw_l 0 [0, 1])))] := hD
  refine W.widen (k := 0) (n := 0) (Nat.le_of_ble_eq_true rfl) (Nat.le_of_ble_eq_true rfl) ?_
  exact jw_vret hx hb hr hlocks rfl hP hD hS dX4_addRow_80
set_option maxHeartbeats 4000000 in
set_option maxRecDepth 100000 in
theorem k14_X4_readRow {l : Launch} {D : va_G} {Y : Nat → ClassId} {tt : Nat → Nat} (h0 : Nat) (sz : Nat) : Met l yX4_readRow wsX4_readRow ({ frames := 0, cells := 0, slots := 0, locals := 0 }) (jw_Pc D Y tt [.int 2, .int 2, .ref h0] [(h0, .inl (Y 1, 4, .inl (jw_l 0 [0, 1])))] sz) (jw_Qi D (fun r => r = 0) (fun w => w = [(h0, .inl (Y 1, 4, .inl (jw_l 0 [0, 2])))]) (va_A [(h0, .inl (Y 1, 4, .inl (jw_l 0 [0, 1])))] sz)) 0 0 (va_A [(h0, .inl (Y 1, 4, .inl (jw_l 0 [0, 1])))] sz) := by
  refine jw_met (fun A => jw_Qi D (fun r => r = 0) (fun w => w = [(h0, .inl (Y 1, 4, .inl (jw_l 0 [0, 2])))]) A) (cc := cX4_readRow) (maxL := 5) (ret := (some .boolean)) pn_X4_readRow rfl rfl ?_
  intro p e s m below meth c A H locs ls hx hb hml hr hts hown hlocks hin hP hD hA hS hE hl
  have hown : s.vm.findClass RX4 = some m.cls := hown
  have hl : lv_has ls 5 [(0, .int 2), (1, .int 2), (2, .ref h0)] := hl
  refine lv_iconst (v := 0) hx hb dX4_readRow_0 (by decide +kernel) ?_
  refine lv_istore_n (lv' := [(3, .int 0), (0, .int 2), (1, .int 2), (2, .ref h0)]) hx hb dX4_readRow_1 rfl hl (by decide) rfl (fun ls hl => ?_)
  refine lv_iconst (v := 0) hx hb dX4_readRow_2 (by decide +kernel) ?_
  refine lv_istore (lv' := [(4, .int 0), (3, .int 0), (0, .int 2), (1, .int 2), (2, .ref h0)]) hx hb dX4_readRow_3 hl (by decide) rfl (fun ls hl => ?_)
  refine lv_iload hx hb dX4_readRow_5 (lv_at hl 0 rfl) ?_
  refine lv_iload_n hx hb dX4_readRow_7 rfl (lv_at hl 3 rfl) ?_
  refine lv_icmp_ge (tgt := 49) hx hb dX4_readRow_8 (by decide) (fun c9 => absurd c9 (by decide +kernel)) (fun _ => ?_)
  refine lv_iload hx hb dX4_readRow_11 (lv_at hl 0 rfl) ?_
  refine lv_aload_n hx hb dX4_readRow_13 rfl (lv_at hl 4 rfl) ?_
  refine jw_alen (v := 4) hx hb hE hP 0 1 rfl rfl (by decide +kernel) dX4_readRow_14 ?_
  refine lv_icmp_ge (tgt := 49) hx hb dX4_readRow_15 (by decide) (fun c9 => absurd c9 (by decide +kernel)) (fun _ => ?_)
  refine lv_aload_n hx hb dX4_readRow_18 rfl (lv_at hl 4 rfl) ?_
  refine lv_iload hx hb dX4_readRow_19 (lv_at hl 0 rfl) ?_
  refine lv_iload_n hx hb dX4_readRow_21 rfl (lv_at hl 2 rfl) ?_
  refine lv_iconst (v := 2) hx hb dX4_readRow_22 (by decide +kernel) ?_
  refine lv_iload_n hx hb dX4_readRow_23 rfl (lv_at hl 3 rfl) ?_
  refine lv_iconst (v := 1) hx hb dX4_readRow_24 (by decide +kernel) ?_
  refine jw_isub (v := 1) hx hb dX4_readRow_25 (by decide +kernel) ?_
  refine lv_iload hx hb dX4_readRow_26 (lv_at hl 0 rfl) ?_
  refine jw_isub (v := 1) hx hb dX4_readRow_28 (by decide +kernel) ?_
  refine jw_imul (v := 2) hx hb dX4_readRow_29 (by decide +kernel) ?_
  refine lv_iushr (v := 0) hx hb dX4_readRow_30 (by decide +kernel) ?_
  refine lv_iconst (v := 3) hx hb dX4_readRow_31 (by decide +kernel) ?_
  refine jw_iand (v := 0) hx hb dX4_readRow_32 (by decide +kernel) ?_
  refine jw_iast (ws' := [(h0, .inl (Y 1, 4, .inl (jw_l 0 [0, 1])))]) hx hb hE hP hD hS 0 0 [0, 1] rfl (by decide +kernel) (by decide +kernel) rfl dX4_readRow_33 (fun H locs hP hD hS => ?_)
  refine lv_iload_n hx hb dX4_readRow_34 rfl (lv_at hl 1 rfl) ?_
  refine lv_iconst (v := 1) hx hb dX4_readRow_35 (by decide +kernel) ?_
  refine lv_aload_n hx hb dX4_readRow_36 rfl (lv_at hl 4 rfl) ?_
  refine lv_iload hx hb dX4_readRow_37 (lv_at hl 0 rfl) ?_
  refine jw_iald (v := 0) hx hb hE hP 0 0 rfl (by decide +kernel) (by decide +kernel) dX4_readRow_39 ?_
  refine jw_ishl (v := 1) hx hb dX4_readRow_40 (by decide +kernel) ?_
  refine jw_ior (v := 1) hx hb dX4_readRow_41 (by decide +kernel) ?_
  refine lv_istore_n (lv' := [(3, .int 1), (4, .int 0), (0, .int 2), (1, .int 2), (2, .ref h0)]) hx hb dX4_readRow_42 rfl hl (by decide) rfl (fun ls hl => ?_)
  refine lv_iinc (v := 1) (lv' := [(4, .int 1), (3, .int 1), (0, .int 2), (1, .int 2), (2, .ref h0)]) hx hb dX4_readRow_43 hl (k := 1) rfl (by decide +kernel) (by decide) rfl (fun ls hl => ?_)
  refine lv_goto (tgt := 5) hx hb dX4_readRow_46 (by decide) ?_
  refine lv_iload hx hb dX4_readRow_5 (lv_at hl 0 rfl) ?_
  refine lv_iload_n hx hb dX4_readRow_7 rfl (lv_at hl 3 rfl) ?_
  refine lv_icmp_ge (tgt := 49) hx hb dX4_readRow_8 (by decide) (fun c9 => absurd c9 (by decide +kernel)) (fun _ => ?_)
  refine lv_iload hx hb dX4_readRow_11 (lv_at hl 0 rfl) ?_
  refine lv_aload_n hx hb dX4_readRow_13 rfl (lv_at hl 4 rfl) ?_
  refine jw_alen (v := 4) hx hb hE hP 0 1 rfl rfl (by decide +kernel) dX4_readRow_14 ?_
  refine lv_icmp_ge (tgt := 49) hx hb dX4_readRow_15 (by decide) (fun c9 => absurd c9 (by decide +kernel)) (fun _ => ?_)
  refine lv_aload_n hx hb dX4_readRow_18 rfl (lv_at hl 4 rfl) ?_
  refine lv_iload hx hb dX4_readRow_19 (lv_at hl 0 rfl) ?_
  refine lv_iload_n hx hb dX4_readRow_21 rfl (lv_at hl 2 rfl) ?_
  refine lv_iconst (v := 2) hx hb dX4_readRow_22 (by decide +kernel) ?_
  refine lv_iload_n hx hb dX4_readRow_23 rfl (lv_at hl 3 rfl) ?_
  refine lv_iconst (v := 1) hx hb dX4_readRow_24 (by decide +kernel) ?_
  refine jw_isub (v := 1) hx hb dX4_readRow_25 (by decide +kernel) ?_
  refine lv_iload hx hb dX4_readRow_26 (lv_at hl 0 rfl) ?_
  refine jw_isub (v := 0) hx hb dX4_readRow_28 (by decide +kernel) ?_
  refine jw_imul (v := 0) hx hb dX4_readRow_29 (by decide +kernel) ?_
  refine lv_iushr (v := 2) hx hb dX4_readRow_30 (by decide +kernel) ?_
  refine lv_iconst (v := 3) hx hb dX4_readRow_31 (by decide +kernel) ?_
  refine jw_iand (v := 2) hx hb dX4_readRow_32 (by decide +kernel) ?_
  refine jw_iast (ws' := [(h0, .inl (Y 1, 4, .inl (jw_l 0 [0, 2])))]) hx hb hE hP hD hS 0 1 [0, 2] rfl (by decide +kernel) (by decide +kernel) rfl dX4_readRow_33 (fun H locs hP hD hS => ?_)
  refine lv_iload_n hx hb dX4_readRow_34 rfl (lv_at hl 1 rfl) ?_
  refine lv_iconst (v := 1) hx hb dX4_readRow_35 (by decide +kernel) ?_
  refine lv_aload_n hx hb dX4_readRow_36 rfl (lv_at hl 4 rfl) ?_
  refine lv_iload hx hb dX4_readRow_37 (lv_at hl 0 rfl) ?_
  refine jw_iald (v := 2) hx hb hE hP 0 1 rfl (by decide +kernel) (by decide +kernel) dX4_readRow_39 ?_
  refine jw_ishl (v := 4) hx hb dX4_readRow_40 (by decide +kernel) ?_
  refine jw_ior (v := 5) hx hb dX4_readRow_41 (by decide +kernel) ?_
  refine lv_istore_n (lv' := [(3, .int 5), (4, .int 1), (0, .int 2), (1, .int 2), (2, .ref h0)]) hx hb dX4_readRow_42 rfl hl (by decide) rfl (fun ls hl => ?_)
  refine lv_iinc (v := 2) (lv' := [(4, .int 2), (3, .int 5), (0, .int 2), (1, .int 2), (2, .ref h0)]) hx hb dX4_readRow_43 hl (k := 1) rfl (by decide +kernel) (by decide) rfl (fun ls hl => ?_)
  refine lv_goto (tgt := 5) hx hb dX4_readRow_46 (by decide) ?_
  refine lv_iload hx hb dX4_readRow_5 (lv_at hl 0 rfl) ?_
  refine lv_iload_n hx hb dX4_readRow_7 rfl (lv_at hl 3 rfl) ?_
  refine lv_icmp_ge (tgt := 49) hx hb dX4_readRow_8 (by decide) (fun _ => ?_) (fun c9 => absurd (by decide +kernel) c9)
  refine lv_iload_n hx hb dX4_readRow_49 rfl (lv_at hl 1 rfl) ?_
  refine lv_iconst (v := 1) hx hb dX4_readRow_50 (by decide +kernel) ?_
  refine lv_iload_n hx hb dX4_readRow_51 rfl (lv_at hl 3 rfl) ?_
  refine jw_ishl (v := 4) hx hb dX4_readRow_52 (by decide +kernel) ?_
  refine lv_iconst (v := 1) hx hb dX4_readRow_53 (by decide +kernel) ?_
  refine jw_isub (v := 3) hx hb dX4_readRow_54 (by decide +kernel) ?_
  refine lv_icmp_ne (tgt := 62) hx hb dX4_readRow_55 (by decide) (fun _ => ?_) (fun c9 => absurd c9 (by decide +kernel))
  refine lv_iconst (v := 0) hx hb dX4_readRow_62 (by decide +kernel) ?_
  refine W.widen (k := 0) (n := 0) (Nat.le_of_ble_eq_true rfl) (Nat.le_of_ble_eq_true rfl) ?_
  exact jw_zret hx hb hr hlocks rfl rfl rfl hP hD hS dX4_readRow_63
set_option maxHeartbeats 4000000 in
set_option maxRecDepth 100000 in
theorem k15_X4_readRow {l : Launch} {D : va_G} {Y : Nat → ClassId} {tt : Nat → Nat} (h0 : Nat) (sz : Nat) : Met l yX4_readRow wsX4_readRow ({ frames := 0, cells := 0, slots := 0, locals := 0 }) (jw_Pc D Y tt [.int 3, .int 2, .ref h0] [(h0, .inl (Y 1, 4, .inl (jw_l 0 [0, 2])))] sz) (jw_Qi D (fun r => r = 0) (fun w => w = [(h0, .inl (Y 1, 4, .inl (jw_l 0 [0, 3])))]) (va_A [(h0, .inl (Y 1, 4, .inl (jw_l 0 [0, 2])))] sz)) 0 0 (va_A [(h0, .inl (Y 1, 4, .inl (jw_l 0 [0, 2])))] sz) := by
  refine jw_met (fun A => jw_Qi D (fun r => r = 0) (fun w => w = [(h0, .inl (Y 1, 4, .inl (jw_l 0 [0, 3])))]) A) (cc := cX4_readRow) (maxL := 5) (ret := (some .boolean)) pn_X4_readRow rfl rfl ?_
  intro p e s m below meth c A H locs ls hx hb hml hr hts hown hlocks hin hP hD hA hS hE hl
  have hown : s.vm.findClass RX4 = some m.cls := hown
  have hl : lv_has ls 5 [(0, .int 3), (1, .int 2), (2, .ref h0)] := hl
  refine lv_iconst (v := 0) hx hb dX4_readRow_0 (by decide +kernel) ?_
  refine lv_istore_n (lv' := [(3, .int 0), (0, .int 3), (1, .int 2), (2, .ref h0)]) hx hb dX4_readRow_1 rfl hl (by decide) rfl (fun ls hl => ?_)
  refine lv_iconst (v := 0) hx hb dX4_readRow_2 (by decide +kernel) ?_
  refine lv_istore (lv' := [(4, .int 0), (3, .int 0), (0, .int 3), (1, .int 2), (2, .ref h0)]) hx hb dX4_readRow_3 hl (by decide) rfl (fun ls hl => ?_)
  refine lv_iload hx hb dX4_readRow_5 (lv_at hl 0 rfl) ?_
  refine lv_iload_n hx hb dX4_readRow_7 rfl (lv_at hl 3 rfl) ?_
  refine lv_icmp_ge (tgt := 49) hx hb dX4_readRow_8 (by decide) (fun c9 => absurd c9 (by decide +kernel)) (fun _ => ?_)
  refine lv_iload hx hb dX4_readRow_11 (lv_at hl 0 rfl) ?_
  refine lv_aload_n hx hb dX4_readRow_13 rfl (lv_at hl 4 rfl) ?_
  refine jw_alen (v := 4) hx hb hE hP 0 1 rfl rfl (by decide +kernel) dX4_readRow_14 ?_
  refine lv_icmp_ge (tgt := 49) hx hb dX4_readRow_15 (by decide) (fun c9 => absurd c9 (by decide +kernel)) (fun _ => ?_)
  refine lv_aload_n hx hb dX4_readRow_18 rfl (lv_at hl 4 rfl) ?_
  refine lv_iload hx hb dX4_readRow_19 (lv_at hl 0 rfl) ?_
  refine lv_iload_n hx hb dX4_readRow_21 rfl (lv_at hl 2 rfl) ?_
  refine lv_iconst (v := 2) hx hb dX4_readRow_22 (by decide +kernel) ?_
  refine lv_iload_n hx hb dX4_readRow_23 rfl (lv_at hl 3 rfl) ?_
  refine lv_iconst (v := 1) hx hb dX4_readRow_24 (by decide +kernel) ?_
  refine jw_isub (v := 1) hx hb dX4_readRow_25 (by decide +kernel) ?_
  refine lv_iload hx hb dX4_readRow_26 (lv_at hl 0 rfl) ?_
  refine jw_isub (v := 1) hx hb dX4_readRow_28 (by decide +kernel) ?_
  refine jw_imul (v := 2) hx hb dX4_readRow_29 (by decide +kernel) ?_
  refine lv_iushr (v := 0) hx hb dX4_readRow_30 (by decide +kernel) ?_
  refine lv_iconst (v := 3) hx hb dX4_readRow_31 (by decide +kernel) ?_
  refine jw_iand (v := 0) hx hb dX4_readRow_32 (by decide +kernel) ?_
  refine jw_iast (ws' := [(h0, .inl (Y 1, 4, .inl (jw_l 0 [0, 2])))]) hx hb hE hP hD hS 0 0 [0, 2] rfl (by decide +kernel) (by decide +kernel) rfl dX4_readRow_33 (fun H locs hP hD hS => ?_)
  refine lv_iload_n hx hb dX4_readRow_34 rfl (lv_at hl 1 rfl) ?_
  refine lv_iconst (v := 1) hx hb dX4_readRow_35 (by decide +kernel) ?_
  refine lv_aload_n hx hb dX4_readRow_36 rfl (lv_at hl 4 rfl) ?_
  refine lv_iload hx hb dX4_readRow_37 (lv_at hl 0 rfl) ?_
  refine jw_iald (v := 0) hx hb hE hP 0 0 rfl (by decide +kernel) (by decide +kernel) dX4_readRow_39 ?_
  refine jw_ishl (v := 1) hx hb dX4_readRow_40 (by decide +kernel) ?_
  refine jw_ior (v := 1) hx hb dX4_readRow_41 (by decide +kernel) ?_
  refine lv_istore_n (lv' := [(3, .int 1), (4, .int 0), (0, .int 3), (1, .int 2), (2, .ref h0)]) hx hb dX4_readRow_42 rfl hl (by decide) rfl (fun ls hl => ?_)
  refine lv_iinc (v := 1) (lv' := [(4, .int 1), (3, .int 1), (0, .int 3), (1, .int 2), (2, .ref h0)]) hx hb dX4_readRow_43 hl (k := 1) rfl (by decide +kernel) (by decide) rfl (fun ls hl => ?_)
  refine lv_goto (tgt := 5) hx hb dX4_readRow_46 (by decide) ?_
  refine lv_iload hx hb dX4_readRow_5 (lv_at hl 0 rfl) ?_
  refine lv_iload_n hx hb dX4_readRow_7 rfl (lv_at hl 3 rfl) ?_
  refine lv_icmp_ge (tgt := 49) hx hb dX4_readRow_8 (by decide) (fun c9 => absurd c9 (by decide +kernel)) (fun _ => ?_)
  refine lv_iload hx hb dX4_readRow_11 (lv_at hl 0 rfl) ?_
  refine lv_aload_n hx hb dX4_readRow_13 rfl (lv_at hl 4 rfl) ?_
  refine jw_alen (v := 4) hx hb hE hP 0 1 rfl rfl (by decide +kernel) dX4_readRow_14 ?_
  refine lv_icmp_ge (tgt := 49) hx hb dX4_readRow_15 (by decide) (fun c9 => absurd c9 (by decide +kernel)) (fun _ => ?_)
  refine lv_aload_n hx hb dX4_readRow_18 rfl (lv_at hl 4 rfl) ?_
  refine lv_iload hx hb dX4_readRow_19 (lv_at hl 0 rfl) ?_
  refine lv_iload_n hx hb dX4_readRow_21 rfl (lv_at hl 2 rfl) ?_
  refine lv_iconst (v := 2) hx hb dX4_readRow_22 (by decide +kernel) ?_
  refine lv_iload_n hx hb dX4_readRow_23 rfl (lv_at hl 3 rfl) ?_
  refine lv_iconst (v := 1) hx hb dX4_readRow_24 (by decide +kernel) ?_
  refine jw_isub (v := 1) hx hb dX4_readRow_25 (by decide +kernel) ?_
  refine lv_iload hx hb dX4_readRow_26 (lv_at hl 0 rfl) ?_
  refine jw_isub (v := 0) hx hb dX4_readRow_28 (by decide +kernel) ?_
  refine jw_imul (v := 0) hx hb dX4_readRow_29 (by decide +kernel) ?_
  refine lv_iushr (v := 3) hx hb dX4_readRow_30 (by decide +kernel) ?_
  refine lv_iconst (v := 3) hx hb dX4_readRow_31 (by decide +kernel) ?_
  refine jw_iand (v := 3) hx hb dX4_readRow_32 (by decide +kernel) ?_
  refine jw_iast (ws' := [(h0, .inl (Y 1, 4, .inl (jw_l 0 [0, 3])))]) hx hb hE hP hD hS 0 1 [0, 3] rfl (by decide +kernel) (by decide +kernel) rfl dX4_readRow_33 (fun H locs hP hD hS => ?_)
  refine lv_iload_n hx hb dX4_readRow_34 rfl (lv_at hl 1 rfl) ?_
  refine lv_iconst (v := 1) hx hb dX4_readRow_35 (by decide +kernel) ?_
  refine lv_aload_n hx hb dX4_readRow_36 rfl (lv_at hl 4 rfl) ?_
  refine lv_iload hx hb dX4_readRow_37 (lv_at hl 0 rfl) ?_
  refine jw_iald (v := 3) hx hb hE hP 0 1 rfl (by decide +kernel) (by decide +kernel) dX4_readRow_39 ?_
  refine jw_ishl (v := 8) hx hb dX4_readRow_40 (by decide +kernel) ?_
  refine jw_ior (v := 9) hx hb dX4_readRow_41 (by decide +kernel) ?_
  refine lv_istore_n (lv' := [(3, .int 9), (4, .int 1), (0, .int 3), (1, .int 2), (2, .ref h0)]) hx hb dX4_readRow_42 rfl hl (by decide) rfl (fun ls hl => ?_)
  refine lv_iinc (v := 2) (lv' := [(4, .int 2), (3, .int 9), (0, .int 3), (1, .int 2), (2, .ref h0)]) hx hb dX4_readRow_43 hl (k := 1) rfl (by decide +kernel) (by decide) rfl (fun ls hl => ?_)
  refine lv_goto (tgt := 5) hx hb dX4_readRow_46 (by decide) ?_
  refine lv_iload hx hb dX4_readRow_5 (lv_at hl 0 rfl) ?_
  refine lv_iload_n hx hb dX4_readRow_7 rfl (lv_at hl 3 rfl) ?_
  refine lv_icmp_ge (tgt := 49) hx hb dX4_readRow_8 (by decide) (fun _ => ?_) (fun c9 => absurd (by decide +kernel) c9)
  refine lv_iload_n hx hb dX4_readRow_49 rfl (lv_at hl 1 rfl) ?_
  refine lv_iconst (v := 1) hx hb dX4_readRow_50 (by decide +kernel) ?_
  refine lv_iload_n hx hb dX4_readRow_51 rfl (lv_at hl 3 rfl) ?_
  refine jw_ishl (v := 4) hx hb dX4_readRow_52 (by decide +kernel) ?_
  refine lv_iconst (v := 1) hx hb dX4_readRow_53 (by decide +kernel) ?_
  refine jw_isub (v := 3) hx hb dX4_readRow_54 (by decide +kernel) ?_
  refine lv_icmp_ne (tgt := 62) hx hb dX4_readRow_55 (by decide) (fun _ => ?_) (fun c9 => absurd c9 (by decide +kernel))
  refine lv_iconst (v := 0) hx hb dX4_readRow_62 (by decide +kernel) ?_
  refine W.widen (k := 0) (n := 0) (Nat.le_of_ble_eq_true rfl) (Nat.le_of_ble_eq_true rfl) ?_
  exact jw_zret hx hb hr hlocks rfl rfl rfl hP hD hS dX4_readRow_63
set_option maxHeartbeats 4000000 in
set_option maxRecDepth 100000 in
theorem k16_X4_readRow {l : Launch} {D : va_G} {Y : Nat → ClassId} {tt : Nat → Nat} (h0 : Nat) (sz : Nat) : Met l yX4_readRow wsX4_readRow ({ frames := 0, cells := 0, slots := 0, locals := 0 }) (jw_Pc D Y tt [.int 4, .int 2, .ref h0] [(h0, .inl (Y 1, 4, .inl (jw_l 0 [0, 3])))] sz) (jw_Qi D (fun r => r = 1) (fun w => w = [(h0, .inl (Y 1, 4, .inl (jw_l 0 [1, 0])))]) (va_A [(h0, .inl (Y 1, 4, .inl (jw_l 0 [0, 3])))] sz)) 0 0 (va_A [(h0, .inl (Y 1, 4, .inl (jw_l 0 [0, 3])))] sz) := by
  refine jw_met (fun A => jw_Qi D (fun r => r = 1) (fun w => w = [(h0, .inl (Y 1, 4, .inl (jw_l 0 [1, 0])))]) A) (cc := cX4_readRow) (maxL := 5) (ret := (some .boolean)) pn_X4_readRow rfl rfl ?_
  intro p e s m below meth c A H locs ls hx hb hml hr hts hown hlocks hin hP hD hA hS hE hl
  have hown : s.vm.findClass RX4 = some m.cls := hown
  have hl : lv_has ls 5 [(0, .int 4), (1, .int 2), (2, .ref h0)] := hl
  refine lv_iconst (v := 0) hx hb dX4_readRow_0 (by decide +kernel) ?_
  refine lv_istore_n (lv' := [(3, .int 0), (0, .int 4), (1, .int 2), (2, .ref h0)]) hx hb dX4_readRow_1 rfl hl (by decide) rfl (fun ls hl => ?_)
  refine lv_iconst (v := 0) hx hb dX4_readRow_2 (by decide +kernel) ?_
  refine lv_istore (lv' := [(4, .int 0), (3, .int 0), (0, .int 4), (1, .int 2), (2, .ref h0)]) hx hb dX4_readRow_3 hl (by decide) rfl (fun ls hl => ?_)
  refine lv_iload hx hb dX4_readRow_5 (lv_at hl 0 rfl) ?_
  refine lv_iload_n hx hb dX4_readRow_7 rfl (lv_at hl 3 rfl) ?_
  refine lv_icmp_ge (tgt := 49) hx hb dX4_readRow_8 (by decide) (fun c9 => absurd c9 (by decide +kernel)) (fun _ => ?_)
  refine lv_iload hx hb dX4_readRow_11 (lv_at hl 0 rfl) ?_
  refine lv_aload_n hx hb dX4_readRow_13 rfl (lv_at hl 4 rfl) ?_
  refine jw_alen (v := 4) hx hb hE hP 0 1 rfl rfl (by decide +kernel) dX4_readRow_14 ?_
  refine lv_icmp_ge (tgt := 49) hx hb dX4_readRow_15 (by decide) (fun c9 => absurd c9 (by decide +kernel)) (fun _ => ?_)
  refine lv_aload_n hx hb dX4_readRow_18 rfl (lv_at hl 4 rfl) ?_
  refine lv_iload hx hb dX4_readRow_19 (lv_at hl 0 rfl) ?_
  refine lv_iload_n hx hb dX4_readRow_21 rfl (lv_at hl 2 rfl) ?_
  refine lv_iconst (v := 2) hx hb dX4_readRow_22 (by decide +kernel) ?_
  refine lv_iload_n hx hb dX4_readRow_23 rfl (lv_at hl 3 rfl) ?_
  refine lv_iconst (v := 1) hx hb dX4_readRow_24 (by decide +kernel) ?_
  refine jw_isub (v := 1) hx hb dX4_readRow_25 (by decide +kernel) ?_
  refine lv_iload hx hb dX4_readRow_26 (lv_at hl 0 rfl) ?_
  refine jw_isub (v := 1) hx hb dX4_readRow_28 (by decide +kernel) ?_
  refine jw_imul (v := 2) hx hb dX4_readRow_29 (by decide +kernel) ?_
  refine lv_iushr (v := 1) hx hb dX4_readRow_30 (by decide +kernel) ?_
  refine lv_iconst (v := 3) hx hb dX4_readRow_31 (by decide +kernel) ?_
  refine jw_iand (v := 1) hx hb dX4_readRow_32 (by decide +kernel) ?_
  refine jw_iast (ws' := [(h0, .inl (Y 1, 4, .inl (jw_l 0 [1, 3])))]) hx hb hE hP hD hS 0 0 [1, 3] rfl (by decide +kernel) (by decide +kernel) rfl dX4_readRow_33 (fun H locs hP hD hS => ?_)
  refine lv_iload_n hx hb dX4_readRow_34 rfl (lv_at hl 1 rfl) ?_
  refine lv_iconst (v := 1) hx hb dX4_readRow_35 (by decide +kernel) ?_
  refine lv_aload_n hx hb dX4_readRow_36 rfl (lv_at hl 4 rfl) ?_
  refine lv_iload hx hb dX4_readRow_37 (lv_at hl 0 rfl) ?_
  refine jw_iald (v := 1) hx hb hE hP 0 0 rfl (by decide +kernel) (by decide +kernel) dX4_readRow_39 ?_
  refine jw_ishl (v := 2) hx hb dX4_readRow_40 (by decide +kernel) ?_
  refine jw_ior (v := 2) hx hb dX4_readRow_41 (by decide +kernel) ?_
  refine lv_istore_n (lv' := [(3, .int 2), (4, .int 0), (0, .int 4), (1, .int 2), (2, .ref h0)]) hx hb dX4_readRow_42 rfl hl (by decide) rfl (fun ls hl => ?_)
  refine lv_iinc (v := 1) (lv' := [(4, .int 1), (3, .int 2), (0, .int 4), (1, .int 2), (2, .ref h0)]) hx hb dX4_readRow_43 hl (k := 1) rfl (by decide +kernel) (by decide) rfl (fun ls hl => ?_)
  refine lv_goto (tgt := 5) hx hb dX4_readRow_46 (by decide) ?_
  refine lv_iload hx hb dX4_readRow_5 (lv_at hl 0 rfl) ?_
  refine lv_iload_n hx hb dX4_readRow_7 rfl (lv_at hl 3 rfl) ?_
  refine lv_icmp_ge (tgt := 49) hx hb dX4_readRow_8 (by decide) (fun c9 => absurd c9 (by decide +kernel)) (fun _ => ?_)
  refine lv_iload hx hb dX4_readRow_11 (lv_at hl 0 rfl) ?_
  refine lv_aload_n hx hb dX4_readRow_13 rfl (lv_at hl 4 rfl) ?_
  refine jw_alen (v := 4) hx hb hE hP 0 1 rfl rfl (by decide +kernel) dX4_readRow_14 ?_
  refine lv_icmp_ge (tgt := 49) hx hb dX4_readRow_15 (by decide) (fun c9 => absurd c9 (by decide +kernel)) (fun _ => ?_)
  refine lv_aload_n hx hb dX4_readRow_18 rfl (lv_at hl 4 rfl) ?_
  refine lv_iload hx hb dX4_readRow_19 (lv_at hl 0 rfl) ?_
  refine lv_iload_n hx hb dX4_readRow_21 rfl (lv_at hl 2 rfl) ?_
  refine lv_iconst (v := 2) hx hb dX4_readRow_22 (by decide +kernel) ?_
  refine lv_iload_n hx hb dX4_readRow_23 rfl (lv_at hl 3 rfl) ?_
  refine lv_iconst (v := 1) hx hb dX4_readRow_24 (by decide +kernel) ?_
  refine jw_isub (v := 1) hx hb dX4_readRow_25 (by decide +kernel) ?_
  refine lv_iload hx hb dX4_readRow_26 (lv_at hl 0 rfl) ?_
  refine jw_isub (v := 0) hx hb dX4_readRow_28 (by decide +kernel) ?_
  refine jw_imul (v := 0) hx hb dX4_readRow_29 (by decide +kernel) ?_
  refine lv_iushr (v := 4) hx hb dX4_readRow_30 (by decide +kernel) ?_
  refine lv_iconst (v := 3) hx hb dX4_readRow_31 (by decide +kernel) ?_
  refine jw_iand (v := 0) hx hb dX4_readRow_32 (by decide +kernel) ?_
  refine jw_iast (ws' := [(h0, .inl (Y 1, 4, .inl (jw_l 0 [1, 0])))]) hx hb hE hP hD hS 0 1 [1, 0] rfl (by decide +kernel) (by decide +kernel) rfl dX4_readRow_33 (fun H locs hP hD hS => ?_)
  refine lv_iload_n hx hb dX4_readRow_34 rfl (lv_at hl 1 rfl) ?_
  refine lv_iconst (v := 1) hx hb dX4_readRow_35 (by decide +kernel) ?_
  refine lv_aload_n hx hb dX4_readRow_36 rfl (lv_at hl 4 rfl) ?_
  refine lv_iload hx hb dX4_readRow_37 (lv_at hl 0 rfl) ?_
  refine jw_iald (v := 0) hx hb hE hP 0 1 rfl (by decide +kernel) (by decide +kernel) dX4_readRow_39 ?_
  refine jw_ishl (v := 1) hx hb dX4_readRow_40 (by decide +kernel) ?_
  refine jw_ior (v := 3) hx hb dX4_readRow_41 (by decide +kernel) ?_
  refine lv_istore_n (lv' := [(3, .int 3), (4, .int 1), (0, .int 4), (1, .int 2), (2, .ref h0)]) hx hb dX4_readRow_42 rfl hl (by decide) rfl (fun ls hl => ?_)
  refine lv_iinc (v := 2) (lv' := [(4, .int 2), (3, .int 3), (0, .int 4), (1, .int 2), (2, .ref h0)]) hx hb dX4_readRow_43 hl (k := 1) rfl (by decide +kernel) (by decide) rfl (fun ls hl => ?_)
  refine lv_goto (tgt := 5) hx hb dX4_readRow_46 (by decide) ?_
  refine lv_iload hx hb dX4_readRow_5 (lv_at hl 0 rfl) ?_
  refine lv_iload_n hx hb dX4_readRow_7 rfl (lv_at hl 3 rfl) ?_
  refine lv_icmp_ge (tgt := 49) hx hb dX4_readRow_8 (by decide) (fun _ => ?_) (fun c9 => absurd (by decide +kernel) c9)
  refine lv_iload_n hx hb dX4_readRow_49 rfl (lv_at hl 1 rfl) ?_
  refine lv_iconst (v := 1) hx hb dX4_readRow_50 (by decide +kernel) ?_
  refine lv_iload_n hx hb dX4_readRow_51 rfl (lv_at hl 3 rfl) ?_
  refine jw_ishl (v := 4) hx hb dX4_readRow_52 (by decide +kernel) ?_
  refine lv_iconst (v := 1) hx hb dX4_readRow_53 (by decide +kernel) ?_
  refine jw_isub (v := 3) hx hb dX4_readRow_54 (by decide +kernel) ?_
  refine lv_icmp_ne (tgt := 62) hx hb dX4_readRow_55 (by decide) (fun c9 => absurd (by decide +kernel) c9) (fun _ => ?_)
  refine lv_iconst (v := 1) hx hb dX4_readRow_58 (by decide +kernel) ?_
  refine lv_goto (tgt := 63) hx hb dX4_readRow_59 (by decide) ?_
  refine W.widen (k := 0) (n := 0) (Nat.le_of_ble_eq_true rfl) (Nat.le_of_ble_eq_true rfl) ?_
  exact jw_zret hx hb hr hlocks rfl rfl rfl hP hD hS dX4_readRow_63
set_option maxHeartbeats 4000000 in
set_option maxRecDepth 100000 in
theorem k17_X4_addRow {l : Launch} {D : va_G} {Y : Nat → ClassId} {tt : Nat → Nat} (h0 h1 h2 h3 h4 h5 : Nat) (sz : Nat) : Met l yX4_addRow wsX4_addRow ({ frames := 0, cells := 0, slots := 0, locals := 0 }) (jw_Pc D Y tt [.ref h0] [(h0, .inr (7, [.int 2, .int 1, .int 0, .int 0, .ref h1, .ref h2, .ref h3, .ref h5, .ref h4])), (h1, .inl (Y 1, 96, .inl (jw_l 0 [0, 1]))), (h2, .inl (Y 1, 96, .inl (jw_l 0 [0, 1]))), (h3, .inl (Y 1, 16, .inl (jw_l 0 [1, 0, 0, 0, 0, 1]))), (h4, .inl (Y 1, 4, .inl (jw_l 0 [1, 0])))] sz) (jw_Qv D (fun w => w = [(h0, .inr (7, [.int 2, .int 2, .int 0, .int 0, .ref h1, .ref h2, .ref h3, .ref h5, .ref h4])), (h1, .inl (Y 1, 96, .inl (jw_l 0 [0, 1, 0, 0, 1, 0]))), (h2, .inl (Y 1, 96, .inl (jw_l 0 [0, 1, 0, 0, 1, 0]))), (h3, .inl (Y 1, 16, .inl (jw_l 0 [1, 2, 0, 0, 2, 1]))), (h4, .inl (Y 1, 4, .inl (jw_l 0 [1, 0])))]) (va_A [(h0, .inr (7, [.int 2, .int 1, .int 0, .int 0, .ref h1, .ref h2, .ref h3, .ref h5, .ref h4])), (h1, .inl (Y 1, 96, .inl (jw_l 0 [0, 1]))), (h2, .inl (Y 1, 96, .inl (jw_l 0 [0, 1]))), (h3, .inl (Y 1, 16, .inl (jw_l 0 [1, 0, 0, 0, 0, 1]))), (h4, .inl (Y 1, 4, .inl (jw_l 0 [1, 0])))] sz)) 0 0 (va_A [(h0, .inr (7, [.int 2, .int 1, .int 0, .int 0, .ref h1, .ref h2, .ref h3, .ref h5, .ref h4])), (h1, .inl (Y 1, 96, .inl (jw_l 0 [0, 1]))), (h2, .inl (Y 1, 96, .inl (jw_l 0 [0, 1]))), (h3, .inl (Y 1, 16, .inl (jw_l 0 [1, 0, 0, 0, 0, 1]))), (h4, .inl (Y 1, 4, .inl (jw_l 0 [1, 0])))] sz) := by
  refine jw_met (fun A => jw_Qv D (fun w => w = [(h0, .inr (7, [.int 2, .int 2, .int 0, .int 0, .ref h1, .ref h2, .ref h3, .ref h5, .ref h4])), (h1, .inl (Y 1, 96, .inl (jw_l 0 [0, 1, 0, 0, 1, 0]))), (h2, .inl (Y 1, 96, .inl (jw_l 0 [0, 1, 0, 0, 1, 0]))), (h3, .inl (Y 1, 16, .inl (jw_l 0 [1, 2, 0, 0, 2, 1]))), (h4, .inl (Y 1, 4, .inl (jw_l 0 [1, 0])))]) A) (cc := cX4_addRow) (maxL := 3) (ret := none) pn_X4_addRow rfl rfl ?_
  intro p e s m below meth c A H locs ls hx hb hml hr hts hown hlocks hin hP hD hA hS hE hl
  have hown : s.vm.findClass RX4 = some m.cls := hown
  have hl : lv_has ls 3 [(0, .ref h0)] := hl
  refine lv_iconst (v := 0) hx hb dX4_addRow_0 (by decide +kernel) ?_
  refine lv_istore_n (lv' := [(1, .int 0), (0, .ref h0)]) hx hb dX4_addRow_1 rfl hl (by decide) rfl (fun ls hl => ?_)
  refine lv_iload_n hx hb dX4_addRow_2 rfl (lv_at hl 0 rfl) ?_
  refine lv_aload_n hx hb dX4_addRow_3 rfl (lv_at hl 1 rfl) ?_
  refine va_get (D := D) (ci := 7) (v := .int 2) (C := RX4) (T := TX4) (N := 9) hx hb hts iw_X4_addRow__X4 hown hE.1 hP 0 rfl rfl 0 (by decide) (hts _ mw_X4_addRow__1) (fun _ h9 => h9) rfl dX4_addRow_4 ?_
  refine lv_icmp_ge (tgt := 70) hx hb dX4_addRow_7 (by decide) (fun c9 => absurd c9 (by decide +kernel)) (fun _ => ?_)
  refine lv_aload_n hx hb dX4_addRow_10 rfl (lv_at hl 1 rfl) ?_
  refine va_get (D := D) (ci := 7) (v := .ref h4) (C := RX4) (T := TX4) (N := 9) hx hb hts iw_X4_addRow__X4 hown hE.1 hP 0 rfl rfl 8 (by decide) (hts _ mw_X4_addRow__2) (fun _ h9 => h9) rfl dX4_addRow_11 ?_
  refine lv_iload_n hx hb dX4_addRow_14 rfl (lv_at hl 0 rfl) ?_
  refine jw_iald (v := 1) hx hb hE hP 4 0 rfl (by decide +kernel) (by decide +kernel) dX4_addRow_15 ?_
  refine lv_istore_n (lv' := [(2, .int 1), (1, .int 0), (0, .ref h0)]) hx hb dX4_addRow_16 rfl hl (by decide) rfl (fun ls hl => ?_)
  refine lv_aload_n hx hb dX4_addRow_17 rfl (lv_at hl 2 rfl) ?_
  refine va_get (D := D) (ci := 7) (v := .ref h1) (C := RX4) (T := TX4) (N := 9) hx hb hts iw_X4_addRow__X4 hown hE.1 hP 0 rfl rfl 4 (by decide) (hts _ mw_X4_addRow__3) (fun _ h9 => h9) rfl dX4_addRow_18 ?_
  refine lv_aload_n hx hb dX4_addRow_21 rfl (lv_at hl 2 rfl) ?_
  refine va_get (D := D) (ci := 7) (v := .int 1) (C := RX4) (T := TX4) (N := 9) hx hb hts iw_X4_addRow__X4 hown hE.1 hP 0 rfl rfl 1 (by decide) (hts _ mw_X4_addRow__4) (fun _ h9 => h9) rfl dX4_addRow_22 ?_
  refine lv_iconst (v := 4) hx hb dX4_addRow_25 (by decide +kernel) ?_
  refine jw_imul (v := 4) hx hb dX4_addRow_26 (by decide +kernel) ?_
  refine lv_iload_n hx hb dX4_addRow_27 rfl (lv_at hl 1 rfl) ?_
  refine jw_iadd (v := 4) hx hb dX4_addRow_28 (by decide +kernel) ?_
  refine lv_iload_n hx hb dX4_addRow_29 rfl (lv_at hl 0 rfl) ?_
  refine jw_iast (ws' := [(h0, .inr (7, [.int 2, .int 1, .int 0, .int 0, .ref h1, .ref h2, .ref h3, .ref h5, .ref h4])), (h1, .inl (Y 1, 96, .inl (jw_l 0 [0, 1, 0, 0, 1]))), (h2, .inl (Y 1, 96, .inl (jw_l 0 [0, 1]))), (h3, .inl (Y 1, 16, .inl (jw_l 0 [1, 0, 0, 0, 0, 1]))), (h4, .inl (Y 1, 4, .inl (jw_l 0 [1, 0])))]) hx hb hE hP hD hS 1 4 [0, 1, 0, 0, 1] rfl (by decide +kernel) (by decide +kernel) rfl dX4_addRow_30 (fun H locs hP hD hS => ?_)
  refine lv_aload_n hx hb dX4_addRow_31 rfl (lv_at hl 2 rfl) ?_
  refine va_get (D := D) (ci := 7) (v := .ref h2) (C := RX4) (T := TX4) (N := 9) hx hb hts iw_X4_addRow__X4 hown hE.1 hP 0 rfl rfl 5 (by decide) (hts _ mw_X4_addRow__5) (fun _ h9 => h9) rfl dX4_addRow_32 ?_
  refine lv_aload_n hx hb dX4_addRow_35 rfl (lv_at hl 2 rfl) ?_
  refine va_get (D := D) (ci := 7) (v := .int 1) (C := RX4) (T := TX4) (N := 9) hx hb hts iw_X4_addRow__X4 hown hE.1 hP 0 rfl rfl 1 (by decide) (hts _ mw_X4_addRow__4) (fun _ h9 => h9) rfl dX4_addRow_36 ?_
  refine lv_iconst (v := 4) hx hb dX4_addRow_39 (by decide +kernel) ?_
  refine jw_imul (v := 4) hx hb dX4_addRow_40 (by decide +kernel) ?_
  refine lv_iload_n hx hb dX4_addRow_41 rfl (lv_at hl 0 rfl) ?_
  refine jw_iadd (v := 5) hx hb dX4_addRow_42 (by decide +kernel) ?_
  refine lv_iload_n hx hb dX4_addRow_43 rfl (lv_at hl 1 rfl) ?_
  refine jw_iast (ws' := [(h0, .inr (7, [.int 2, .int 1, .int 0, .int 0, .ref h1, .ref h2, .ref h3, .ref h5, .ref h4])), (h1, .inl (Y 1, 96, .inl (jw_l 0 [0, 1, 0, 0, 1]))), (h2, .inl (Y 1, 96, .inl (jw_l 0 [0, 1, 0, 0, 0, 0]))), (h3, .inl (Y 1, 16, .inl (jw_l 0 [1, 0, 0, 0, 0, 1]))), (h4, .inl (Y 1, 4, .inl (jw_l 0 [1, 0])))]) hx hb hE hP hD hS 2 5 [0, 1, 0, 0, 0, 0] rfl (by decide +kernel) (by decide +kernel) rfl dX4_addRow_44 (fun H locs hP hD hS => ?_)
  refine lv_aload_n hx hb dX4_addRow_45 rfl (lv_at hl 2 rfl) ?_
  refine va_get (D := D) (ci := 7) (v := .ref h3) (C := RX4) (T := TX4) (N := 9) hx hb hts iw_X4_addRow__X4 hown hE.1 hP 0 rfl rfl 6 (by decide) (hts _ mw_X4_addRow__6) (fun _ h9 => h9) rfl dX4_addRow_46 ?_
  refine lv_iload_n hx hb dX4_addRow_49 rfl (lv_at hl 1 rfl) ?_
  refine lv_iconst (v := 4) hx hb dX4_addRow_50 (by decide +kernel) ?_
  refine jw_imul (v := 0) hx hb dX4_addRow_51 (by decide +kernel) ?_
  refine lv_iload_n hx hb dX4_addRow_52 rfl (lv_at hl 0 rfl) ?_
  refine jw_iadd (v := 1) hx hb dX4_addRow_53 (by decide +kernel) ?_
  refine lv_dup2_11 hx hb dX4_addRow_54 rfl rfl ?_
  refine jw_iald (v := 0) hx hb hE hP 3 1 rfl (by decide +kernel) (by decide +kernel) dX4_addRow_55 ?_
  refine lv_iconst (v := 1) hx hb dX4_addRow_56 (by decide +kernel) ?_
  refine lv_aload_n hx hb dX4_addRow_57 rfl (lv_at hl 2 rfl) ?_
  refine va_get (D := D) (ci := 7) (v := .int 1) (C := RX4) (T := TX4) (N := 9) hx hb hts iw_X4_addRow__X4 hown hE.1 hP 0 rfl rfl 1 (by decide) (hts _ mw_X4_addRow__4) (fun _ h9 => h9) rfl dX4_addRow_58 ?_
  refine jw_ishl (v := 2) hx hb dX4_addRow_61 (by decide +kernel) ?_
  refine jw_ior (v := 2) hx hb dX4_addRow_62 (by decide +kernel) ?_
  refine jw_iast (ws' := [(h0, .inr (7, [.int 2, .int 1, .int 0, .int 0, .ref h1, .ref h2, .ref h3, .ref h5, .ref h4])), (h1, .inl (Y 1, 96, .inl (jw_l 0 [0, 1, 0, 0, 1]))), (h2, .inl (Y 1, 96, .inl (jw_l 0 [0, 1, 0, 0, 0, 0]))), (h3, .inl (Y 1, 16, .inl (jw_l 0 [1, 2, 0, 0, 0, 1]))), (h4, .inl (Y 1, 4, .inl (jw_l 0 [1, 0])))]) hx hb hE hP hD hS 3 1 [1, 2, 0, 0, 0, 1] rfl (by decide +kernel) (by decide +kernel) rfl dX4_addRow_63 (fun H locs hP hD hS => ?_)
  refine lv_iinc (v := 1) (lv' := [(1, .int 1), (2, .int 1), (0, .ref h0)]) hx hb dX4_addRow_64 hl (k := 1) rfl (by decide +kernel) (by decide) rfl (fun ls hl => ?_)
  refine lv_goto (tgt := 2) hx hb dX4_addRow_67 (by decide) ?_
  refine lv_iload_n hx hb dX4_addRow_2 rfl (lv_at hl 0 rfl) ?_
  refine lv_aload_n hx hb dX4_addRow_3 rfl (lv_at hl 2 rfl) ?_
  refine va_get (D := D) (ci := 7) (v := .int 2) (C := RX4) (T := TX4) (N := 9) hx hb hts iw_X4_addRow__X4 hown hE.1 hP 0 rfl rfl 0 (by decide) (hts _ mw_X4_addRow__1) (fun _ h9 => h9) rfl dX4_addRow_4 ?_
  refine lv_icmp_ge (tgt := 70) hx hb dX4_addRow_7 (by decide) (fun c9 => absurd c9 (by decide +kernel)) (fun _ => ?_)
  refine lv_aload_n hx hb dX4_addRow_10 rfl (lv_at hl 2 rfl) ?_
  refine va_get (D := D) (ci := 7) (v := .ref h4) (C := RX4) (T := TX4) (N := 9) hx hb hts iw_X4_addRow__X4 hown hE.1 hP 0 rfl rfl 8 (by decide) (hts _ mw_X4_addRow__2) (fun _ h9 => h9) rfl dX4_addRow_11 ?_
  refine lv_iload_n hx hb dX4_addRow_14 rfl (lv_at hl 0 rfl) ?_
  refine jw_iald (v := 0) hx hb hE hP 4 1 rfl (by decide +kernel) (by decide +kernel) dX4_addRow_15 ?_
  refine lv_istore_n (lv' := [(2, .int 0), (1, .int 1), (0, .ref h0)]) hx hb dX4_addRow_16 rfl hl (by decide) rfl (fun ls hl => ?_)
  refine lv_aload_n hx hb dX4_addRow_17 rfl (lv_at hl 2 rfl) ?_
  refine va_get (D := D) (ci := 7) (v := .ref h1) (C := RX4) (T := TX4) (N := 9) hx hb hts iw_X4_addRow__X4 hown hE.1 hP 0 rfl rfl 4 (by decide) (hts _ mw_X4_addRow__3) (fun _ h9 => h9) rfl dX4_addRow_18 ?_
  refine lv_aload_n hx hb dX4_addRow_21 rfl (lv_at hl 2 rfl) ?_
  refine va_get (D := D) (ci := 7) (v := .int 1) (C := RX4) (T := TX4) (N := 9) hx hb hts iw_X4_addRow__X4 hown hE.1 hP 0 rfl rfl 1 (by decide) (hts _ mw_X4_addRow__4) (fun _ h9 => h9) rfl dX4_addRow_22 ?_
  refine lv_iconst (v := 4) hx hb dX4_addRow_25 (by decide +kernel) ?_
  refine jw_imul (v := 4) hx hb dX4_addRow_26 (by decide +kernel) ?_
  refine lv_iload_n hx hb dX4_addRow_27 rfl (lv_at hl 1 rfl) ?_
  refine jw_iadd (v := 5) hx hb dX4_addRow_28 (by decide +kernel) ?_
  refine lv_iload_n hx hb dX4_addRow_29 rfl (lv_at hl 0 rfl) ?_
  refine jw_iast (ws' := [(h0, .inr (7, [.int 2, .int 1, .int 0, .int 0, .ref h1, .ref h2, .ref h3, .ref h5, .ref h4])), (h1, .inl (Y 1, 96, .inl (jw_l 0 [0, 1, 0, 0, 1, 0]))), (h2, .inl (Y 1, 96, .inl (jw_l 0 [0, 1, 0, 0, 0, 0]))), (h3, .inl (Y 1, 16, .inl (jw_l 0 [1, 2, 0, 0, 0, 1]))), (h4, .inl (Y 1, 4, .inl (jw_l 0 [1, 0])))]) hx hb hE hP hD hS 1 5 [0, 1, 0, 0, 1, 0] rfl (by decide +kernel) (by decide +kernel) rfl dX4_addRow_30 (fun H locs hP hD hS => ?_)
  refine lv_aload_n hx hb dX4_addRow_31 rfl (lv_at hl 2 rfl) ?_
  refine va_get (D := D) (ci := 7) (v := .ref h2) (C := RX4) (T := TX4) (N := 9) hx hb hts iw_X4_addRow__X4 hown hE.1 hP 0 rfl rfl 5 (by decide) (hts _ mw_X4_addRow__5) (fun _ h9 => h9) rfl dX4_addRow_32 ?_
  refine lv_aload_n hx hb dX4_addRow_35 rfl (lv_at hl 2 rfl) ?_
  refine va_get (D := D) (ci := 7) (v := .int 1) (C := RX4) (T := TX4) (N := 9) hx hb hts iw_X4_addRow__X4 hown hE.1 hP 0 rfl rfl 1 (by decide) (hts _ mw_X4_addRow__4) (fun _ h9 => h9) rfl dX4_addRow_36 ?_
  refine lv_iconst (v := 4) hx hb dX4_addRow_39 (by decide +kernel) ?_
  refine jw_imul (v := 4) hx hb dX4_addRow_40 (by decide +kernel) ?_
  refine lv_iload_n hx hb dX4_addRow_41 rfl (lv_at hl 0 rfl) ?_
  refine jw_iadd (v := 4) hx hb dX4_addRow_42 (by decide +kernel) ?_
  refine lv_iload_n hx hb dX4_addRow_43 rfl (lv_at hl 1 rfl) ?_
  refine jw_iast (ws' := [(h0, .inr (7, [.int 2, .int 1, .int 0, .int 0, .ref h1, .ref h2, .ref h3, .ref h5, .ref h4])), (h1, .inl (Y 1, 96, .inl (jw_l 0 [0, 1, 0, 0, 1, 0]))), (h2, .inl (Y 1, 96, .inl (jw_l 0 [0, 1, 0, 0, 1, 0]))), (h3, .inl (Y 1, 16, .inl (jw_l 0 [1, 2, 0, 0, 0, 1]))), (h4, .inl (Y 1, 4, .inl (jw_l 0 [1, 0])))]) hx hb hE hP hD hS 2 4 [0, 1, 0, 0, 1, 0] rfl (by decide +kernel) (by decide +kernel) rfl dX4_addRow_44 (fun H locs hP hD hS => ?_)
  refine lv_aload_n hx hb dX4_addRow_45 rfl (lv_at hl 2 rfl) ?_
  refine va_get (D := D) (ci := 7) (v := .ref h3) (C := RX4) (T := TX4) (N := 9) hx hb hts iw_X4_addRow__X4 hown hE.1 hP 0 rfl rfl 6 (by decide) (hts _ mw_X4_addRow__6) (fun _ h9 => h9) rfl dX4_addRow_46 ?_
  refine lv_iload_n hx hb dX4_addRow_49 rfl (lv_at hl 1 rfl) ?_
  refine lv_iconst (v := 4) hx hb dX4_addRow_50 (by decide +kernel) ?_
  refine jw_imul (v := 4) hx hb dX4_addRow_51 (by decide +kernel) ?_
  refine lv_iload_n hx hb dX4_addRow_52 rfl (lv_at hl 0 rfl) ?_
  refine jw_iadd (v := 4) hx hb dX4_addRow_53 (by decide +kernel) ?_
  refine lv_dup2_11 hx hb dX4_addRow_54 rfl rfl ?_
  refine jw_iald (v := 0) hx hb hE hP 3 4 rfl (by decide +kernel) (by decide +kernel) dX4_addRow_55 ?_
  refine lv_iconst (v := 1) hx hb dX4_addRow_56 (by decide +kernel) ?_
  refine lv_aload_n hx hb dX4_addRow_57 rfl (lv_at hl 2 rfl) ?_
  refine va_get (D := D) (ci := 7) (v := .int 1) (C := RX4) (T := TX4) (N := 9) hx hb hts iw_X4_addRow__X4 hown hE.1 hP 0 rfl rfl 1 (by decide) (hts _ mw_X4_addRow__4) (fun _ h9 => h9) rfl dX4_addRow_58 ?_
  refine jw_ishl (v := 2) hx hb dX4_addRow_61 (by decide +kernel) ?_
  refine jw_ior (v := 2) hx hb dX4_addRow_62 (by decide +kernel) ?_
  refine jw_iast (ws' := [(h0, .inr (7, [.int 2, .int 1, .int 0, .int 0, .ref h1, .ref h2, .ref h3, .ref h5, .ref h4])), (h1, .inl (Y 1, 96, .inl (jw_l 0 [0, 1, 0, 0, 1, 0]))), (h2, .inl (Y 1, 96, .inl (jw_l 0 [0, 1, 0, 0, 1, 0]))), (h3, .inl (Y 1, 16, .inl (jw_l 0 [1, 2, 0, 0, 2, 1]))), (h4, .inl (Y 1, 4, .inl (jw_l 0 [1, 0])))]) hx hb hE hP hD hS 3 4 [1, 2, 0, 0, 2, 1] rfl (by decide +kernel) (by decide +kernel) rfl dX4_addRow_63 (fun H locs hP hD hS => ?_)
  refine lv_iinc (v := 2) (lv' := [(1, .int 2), (2, .int 0), (0, .ref h0)]) hx hb dX4_addRow_64 hl (k := 1) rfl (by decide +kernel) (by decide) rfl (fun ls hl => ?_)
  refine lv_goto (tgt := 2) hx hb dX4_addRow_67 (by decide) ?_
  refine lv_iload_n hx hb dX4_addRow_2 rfl (lv_at hl 0 rfl) ?_
  refine lv_aload_n hx hb dX4_addRow_3 rfl (lv_at hl 2 rfl) ?_
  refine va_get (D := D) (ci := 7) (v := .int 2) (C := RX4) (T := TX4) (N := 9) hx hb hts iw_X4_addRow__X4 hown hE.1 hP 0 rfl rfl 0 (by decide) (hts _ mw_X4_addRow__1) (fun _ h9 => h9) rfl dX4_addRow_4 ?_
  refine lv_icmp_ge (tgt := 70) hx hb dX4_addRow_7 (by decide) (fun _ => ?_) (fun c9 => absurd (by decide +kernel) c9)
  refine lv_aload_n hx hb dX4_addRow_70 rfl (lv_at hl 2 rfl) ?_
  refine lv_dup hx hb dX4_addRow_71 rfl ?_
  refine va_get (D := D) (ci := 7) (v := .int 1) (C := RX4) (T := TX4) (N := 9) hx hb hts iw_X4_addRow__X4 hown hE.1 hP 0 rfl rfl 1 (by decide) (hts _ mw_X4_addRow__4) (fun _ h9 => h9) rfl dX4_addRow_72 ?_
  refine lv_iconst (v := 1) hx hb dX4_addRow_75 (by decide +kernel) ?_
  refine jw_iadd (v := 2) hx hb dX4_addRow_76 (by decide +kernel) ?_
  refine va_put (D := D) (ci := 7) (v := .int 2) (C := RX4) (T := TX4) (N := 9) hx hb hts iw_X4_addRow__X4 tyX4 tyX4_ok nmX4 hown hE.1 hP hD hS 0 rfl rfl 1 (by decide) (hts _ mw_X4_addRow__4) (fun _ h9 => h9) rfl (tyX4_ok 1 (by decide)) rfl rfl (Nat.le_of_ble_eq_true rfl) dX4_addRow_77 (fun H locs hP hD hS => ?_)
  have hP : va_P D vwCl [(h0, .inr (7, [.int 2, .int 2, .int 0, .int 0, .ref h1, .ref h2, .ref h3, .ref h5, .ref h4])), (h1, .inl (Y 1, 96, .inl (jw_l 0 [0, 1, 0, 0, 1, 0]))), (h2, .inl (Y 1, 96, .inl (jw_l 0 [0, 1, 0, 0, 1, 0]))), (h3, .inl (Y 1, 16, .inl (jw_l 0 [1, 2, 0, 0, 2, 1]))), (h4, .inl (Y 1, 4, .inl (jw_l 0 [1, 0])))] H := hP
  have hD : va_D A [(h0, .inr (7, [.int 2, .int 2, .int 0, .int 0, .ref h1, .ref h2, .ref h3, .ref h5, .ref h4])), (h1, .inl (Y 1, 96, .inl (jw_l 0 [0, 1, 0, 0, 1, 0]))), (h2, .inl (Y 1, 96, .inl (jw_l 0 [0, 1, 0, 0, 1, 0]))), (h3, .inl (Y 1, 16, .inl (jw_l 0 [1, 2, 0, 0, 2, 1]))), (h4, .inl (Y 1, 4, .inl (jw_l 0 [1, 0])))] := hD
  refine W.widen (k := 0) (n := 0) (Nat.le_of_ble_eq_true rfl) (Nat.le_of_ble_eq_true rfl) ?_
  exact jw_vret hx hb hr hlocks rfl hP hD hS dX4_addRow_80
set_option maxHeartbeats 4000000 in
set_option maxRecDepth 100000 in
theorem k18_X4_readRow {l : Launch} {D : va_G} {Y : Nat → ClassId} {tt : Nat → Nat} (h0 : Nat) (sz : Nat) : Met l yX4_readRow wsX4_readRow ({ frames := 0, cells := 0, slots := 0, locals := 0 }) (jw_Pc D Y tt [.int 5, .int 2, .ref h0] [(h0, .inl (Y 1, 4, .inl (jw_l 0 [1, 0])))] sz) (jw_Qi D (fun r => r = 0) (fun w => w = [(h0, .inl (Y 1, 4, .inl (jw_l 0 [1, 1])))]) (va_A [(h0, .inl (Y 1, 4, .inl (jw_l 0 [1, 0])))] sz)) 0 0 (va_A [(h0, .inl (Y 1, 4, .inl (jw_l 0 [1, 0])))] sz) := by
  refine jw_met (fun A => jw_Qi D (fun r => r = 0) (fun w => w = [(h0, .inl (Y 1, 4, .inl (jw_l 0 [1, 1])))]) A) (cc := cX4_readRow) (maxL := 5) (ret := (some .boolean)) pn_X4_readRow rfl rfl ?_
  intro p e s m below meth c A H locs ls hx hb hml hr hts hown hlocks hin hP hD hA hS hE hl
  have hown : s.vm.findClass RX4 = some m.cls := hown
  have hl : lv_has ls 5 [(0, .int 5), (1, .int 2), (2, .ref h0)] := hl
  refine lv_iconst (v := 0) hx hb dX4_readRow_0 (by decide +kernel) ?_
  refine lv_istore_n (lv' := [(3, .int 0), (0, .int 5), (1, .int 2), (2, .ref h0)]) hx hb dX4_readRow_1 rfl hl (by decide) rfl (fun ls hl => ?_)
  refine lv_iconst (v := 0) hx hb dX4_readRow_2 (by decide +kernel) ?_
  refine lv_istore (lv' := [(4, .int 0), (3, .int 0), (0, .int 5), (1, .int 2), (2, .ref h0)]) hx hb dX4_readRow_3 hl (by decide) rfl (fun ls hl => ?_)
  refine lv_iload hx hb dX4_readRow_5 (lv_at hl 0 rfl) ?_
  refine lv_iload_n hx hb dX4_readRow_7 rfl (lv_at hl 3 rfl) ?_
  refine lv_icmp_ge (tgt := 49) hx hb dX4_readRow_8 (by decide) (fun c9 => absurd c9 (by decide +kernel)) (fun _ => ?_)
  refine lv_iload hx hb dX4_readRow_11 (lv_at hl 0 rfl) ?_
  refine lv_aload_n hx hb dX4_readRow_13 rfl (lv_at hl 4 rfl) ?_
  refine jw_alen (v := 4) hx hb hE hP 0 1 rfl rfl (by decide +kernel) dX4_readRow_14 ?_
  refine lv_icmp_ge (tgt := 49) hx hb dX4_readRow_15 (by decide) (fun c9 => absurd c9 (by decide +kernel)) (fun _ => ?_)
  refine lv_aload_n hx hb dX4_readRow_18 rfl (lv_at hl 4 rfl) ?_
  refine lv_iload hx hb dX4_readRow_19 (lv_at hl 0 rfl) ?_
  refine lv_iload_n hx hb dX4_readRow_21 rfl (lv_at hl 2 rfl) ?_
  refine lv_iconst (v := 2) hx hb dX4_readRow_22 (by decide +kernel) ?_
  refine lv_iload_n hx hb dX4_readRow_23 rfl (lv_at hl 3 rfl) ?_
  refine lv_iconst (v := 1) hx hb dX4_readRow_24 (by decide +kernel) ?_
  refine jw_isub (v := 1) hx hb dX4_readRow_25 (by decide +kernel) ?_
  refine lv_iload hx hb dX4_readRow_26 (lv_at hl 0 rfl) ?_
  refine jw_isub (v := 1) hx hb dX4_readRow_28 (by decide +kernel) ?_
  refine jw_imul (v := 2) hx hb dX4_readRow_29 (by decide +kernel) ?_
  refine lv_iushr (v := 1) hx hb dX4_readRow_30 (by decide +kernel) ?_
  refine lv_iconst (v := 3) hx hb dX4_readRow_31 (by decide +kernel) ?_
  refine jw_iand (v := 1) hx hb dX4_readRow_32 (by decide +kernel) ?_
  refine jw_iast (ws' := [(h0, .inl (Y 1, 4, .inl (jw_l 0 [1, 0])))]) hx hb hE hP hD hS 0 0 [1, 0] rfl (by decide +kernel) (by decide +kernel) rfl dX4_readRow_33 (fun H locs hP hD hS => ?_)
  refine lv_iload_n hx hb dX4_readRow_34 rfl (lv_at hl 1 rfl) ?_
  refine lv_iconst (v := 1) hx hb dX4_readRow_35 (by decide +kernel) ?_
  refine lv_aload_n hx hb dX4_readRow_36 rfl (lv_at hl 4 rfl) ?_
  refine lv_iload hx hb dX4_readRow_37 (lv_at hl 0 rfl) ?_
  refine jw_iald (v := 1) hx hb hE hP 0 0 rfl (by decide +kernel) (by decide +kernel) dX4_readRow_39 ?_
  refine jw_ishl (v := 2) hx hb dX4_readRow_40 (by decide +kernel) ?_
  refine jw_ior (v := 2) hx hb dX4_readRow_41 (by decide +kernel) ?_
  refine lv_istore_n (lv' := [(3, .int 2), (4, .int 0), (0, .int 5), (1, .int 2), (2, .ref h0)]) hx hb dX4_readRow_42 rfl hl (by decide) rfl (fun ls hl => ?_)
  refine lv_iinc (v := 1) (lv' := [(4, .int 1), (3, .int 2), (0, .int 5), (1, .int 2), (2, .ref h0)]) hx hb dX4_readRow_43 hl (k := 1) rfl (by decide +kernel) (by decide) rfl (fun ls hl => ?_)
  refine lv_goto (tgt := 5) hx hb dX4_readRow_46 (by decide) ?_
  refine lv_iload hx hb dX4_readRow_5 (lv_at hl 0 rfl) ?_
  refine lv_iload_n hx hb dX4_readRow_7 rfl (lv_at hl 3 rfl) ?_
  refine lv_icmp_ge (tgt := 49) hx hb dX4_readRow_8 (by decide) (fun c9 => absurd c9 (by decide +kernel)) (fun _ => ?_)
  refine lv_iload hx hb dX4_readRow_11 (lv_at hl 0 rfl) ?_
  refine lv_aload_n hx hb dX4_readRow_13 rfl (lv_at hl 4 rfl) ?_
  refine jw_alen (v := 4) hx hb hE hP 0 1 rfl rfl (by decide +kernel) dX4_readRow_14 ?_
  refine lv_icmp_ge (tgt := 49) hx hb dX4_readRow_15 (by decide) (fun c9 => absurd c9 (by decide +kernel)) (fun _ => ?_)
  refine lv_aload_n hx hb dX4_readRow_18 rfl (lv_at hl 4 rfl) ?_
  refine lv_iload hx hb dX4_readRow_19 (lv_at hl 0 rfl) ?_
  refine lv_iload_n hx hb dX4_readRow_21 rfl (lv_at hl 2 rfl) ?_
  refine lv_iconst (v := 2) hx hb dX4_readRow_22 (by decide +kernel) ?_
  refine lv_iload_n hx hb dX4_readRow_23 rfl (lv_at hl 3 rfl) ?_
  refine lv_iconst (v := 1) hx hb dX4_readRow_24 (by decide +kernel) ?_
  refine jw_isub (v := 1) hx hb dX4_readRow_25 (by decide +kernel) ?_
  refine lv_iload hx hb dX4_readRow_26 (lv_at hl 0 rfl) ?_
  refine jw_isub (v := 0) hx hb dX4_readRow_28 (by decide +kernel) ?_
  refine jw_imul (v := 0) hx hb dX4_readRow_29 (by decide +kernel) ?_
  refine lv_iushr (v := 5) hx hb dX4_readRow_30 (by decide +kernel) ?_
  refine lv_iconst (v := 3) hx hb dX4_readRow_31 (by decide +kernel) ?_
  refine jw_iand (v := 1) hx hb dX4_readRow_32 (by decide +kernel) ?_
  refine jw_iast (ws' := [(h0, .inl (Y 1, 4, .inl (jw_l 0 [1, 1])))]) hx hb hE hP hD hS 0 1 [1, 1] rfl (by decide +kernel) (by decide +kernel) rfl dX4_readRow_33 (fun H locs hP hD hS => ?_)
  refine lv_iload_n hx hb dX4_readRow_34 rfl (lv_at hl 1 rfl) ?_
  refine lv_iconst (v := 1) hx hb dX4_readRow_35 (by decide +kernel) ?_
  refine lv_aload_n hx hb dX4_readRow_36 rfl (lv_at hl 4 rfl) ?_
  refine lv_iload hx hb dX4_readRow_37 (lv_at hl 0 rfl) ?_
  refine jw_iald (v := 1) hx hb hE hP 0 1 rfl (by decide +kernel) (by decide +kernel) dX4_readRow_39 ?_
  refine jw_ishl (v := 2) hx hb dX4_readRow_40 (by decide +kernel) ?_
  refine jw_ior (v := 2) hx hb dX4_readRow_41 (by decide +kernel) ?_
  refine lv_istore_n (lv' := [(3, .int 2), (4, .int 1), (0, .int 5), (1, .int 2), (2, .ref h0)]) hx hb dX4_readRow_42 rfl hl (by decide) rfl (fun ls hl => ?_)
  refine lv_iinc (v := 2) (lv' := [(4, .int 2), (3, .int 2), (0, .int 5), (1, .int 2), (2, .ref h0)]) hx hb dX4_readRow_43 hl (k := 1) rfl (by decide +kernel) (by decide) rfl (fun ls hl => ?_)
  refine lv_goto (tgt := 5) hx hb dX4_readRow_46 (by decide) ?_
  refine lv_iload hx hb dX4_readRow_5 (lv_at hl 0 rfl) ?_
  refine lv_iload_n hx hb dX4_readRow_7 rfl (lv_at hl 3 rfl) ?_
  refine lv_icmp_ge (tgt := 49) hx hb dX4_readRow_8 (by decide) (fun _ => ?_) (fun c9 => absurd (by decide +kernel) c9)
  refine lv_iload_n hx hb dX4_readRow_49 rfl (lv_at hl 1 rfl) ?_
  refine lv_iconst (v := 1) hx hb dX4_readRow_50 (by decide +kernel) ?_
  refine lv_iload_n hx hb dX4_readRow_51 rfl (lv_at hl 3 rfl) ?_
  refine jw_ishl (v := 4) hx hb dX4_readRow_52 (by decide +kernel) ?_
  refine lv_iconst (v := 1) hx hb dX4_readRow_53 (by decide +kernel) ?_
  refine jw_isub (v := 3) hx hb dX4_readRow_54 (by decide +kernel) ?_
  refine lv_icmp_ne (tgt := 62) hx hb dX4_readRow_55 (by decide) (fun _ => ?_) (fun c9 => absurd c9 (by decide +kernel))
  refine lv_iconst (v := 0) hx hb dX4_readRow_62 (by decide +kernel) ?_
  refine W.widen (k := 0) (n := 0) (Nat.le_of_ble_eq_true rfl) (Nat.le_of_ble_eq_true rfl) ?_
  exact jw_zret hx hb hr hlocks rfl rfl rfl hP hD hS dX4_readRow_63
set_option maxHeartbeats 4000000 in
set_option maxRecDepth 100000 in
theorem k19_X4_readRow {l : Launch} {D : va_G} {Y : Nat → ClassId} {tt : Nat → Nat} (h0 : Nat) (sz : Nat) : Met l yX4_readRow wsX4_readRow ({ frames := 0, cells := 0, slots := 0, locals := 0 }) (jw_Pc D Y tt [.int 6, .int 2, .ref h0] [(h0, .inl (Y 1, 4, .inl (jw_l 0 [1, 1])))] sz) (jw_Qi D (fun r => r = 0) (fun w => w = [(h0, .inl (Y 1, 4, .inl (jw_l 0 [1, 2])))]) (va_A [(h0, .inl (Y 1, 4, .inl (jw_l 0 [1, 1])))] sz)) 0 0 (va_A [(h0, .inl (Y 1, 4, .inl (jw_l 0 [1, 1])))] sz) := by
  refine jw_met (fun A => jw_Qi D (fun r => r = 0) (fun w => w = [(h0, .inl (Y 1, 4, .inl (jw_l 0 [1, 2])))]) A) (cc := cX4_readRow) (maxL := 5) (ret := (some .boolean)) pn_X4_readRow rfl rfl ?_
  intro p e s m below meth c A H locs ls hx hb hml hr hts hown hlocks hin hP hD hA hS hE hl
  have hown : s.vm.findClass RX4 = some m.cls := hown
  have hl : lv_has ls 5 [(0, .int 6), (1, .int 2), (2, .ref h0)] := hl
  refine lv_iconst (v := 0) hx hb dX4_readRow_0 (by decide +kernel) ?_
  refine lv_istore_n (lv' := [(3, .int 0), (0, .int 6), (1, .int 2), (2, .ref h0)]) hx hb dX4_readRow_1 rfl hl (by decide) rfl (fun ls hl => ?_)
  refine lv_iconst (v := 0) hx hb dX4_readRow_2 (by decide +kernel) ?_
  refine lv_istore (lv' := [(4, .int 0), (3, .int 0), (0, .int 6), (1, .int 2), (2, .ref h0)]) hx hb dX4_readRow_3 hl (by decide) rfl (fun ls hl => ?_)
  refine lv_iload hx hb dX4_readRow_5 (lv_at hl 0 rfl) ?_
  refine lv_iload_n hx hb dX4_readRow_7 rfl (lv_at hl 3 rfl) ?_
  refine lv_icmp_ge (tgt := 49) hx hb dX4_readRow_8 (by decide) (fun c9 => absurd c9 (by decide +kernel)) (fun _ => ?_)
  refine lv_iload hx hb dX4_readRow_11 (lv_at hl 0 rfl) ?_
  refine lv_aload_n hx hb dX4_readRow_13 rfl (lv_at hl 4 rfl) ?_
  refine jw_alen (v := 4) hx hb hE hP 0 1 rfl rfl (by decide +kernel) dX4_readRow_14 ?_
  refine lv_icmp_ge (tgt := 49) hx hb dX4_readRow_15 (by decide) (fun c9 => absurd c9 (by decide +kernel)) (fun _ => ?_)
  refine lv_aload_n hx hb dX4_readRow_18 rfl (lv_at hl 4 rfl) ?_
  refine lv_iload hx hb dX4_readRow_19 (lv_at hl 0 rfl) ?_
  refine lv_iload_n hx hb dX4_readRow_21 rfl (lv_at hl 2 rfl) ?_
  refine lv_iconst (v := 2) hx hb dX4_readRow_22 (by decide +kernel) ?_
  refine lv_iload_n hx hb dX4_readRow_23 rfl (lv_at hl 3 rfl) ?_
  refine lv_iconst (v := 1) hx hb dX4_readRow_24 (by decide +kernel) ?_
  refine jw_isub (v := 1) hx hb dX4_readRow_25 (by decide +kernel) ?_
  refine lv_iload hx hb dX4_readRow_26 (lv_at hl 0 rfl) ?_
  refine jw_isub (v := 1) hx hb dX4_readRow_28 (by decide +kernel) ?_
  refine jw_imul (v := 2) hx hb dX4_readRow_29 (by decide +kernel) ?_
  refine lv_iushr (v := 1) hx hb dX4_readRow_30 (by decide +kernel) ?_
  refine lv_iconst (v := 3) hx hb dX4_readRow_31 (by decide +kernel) ?_
  refine jw_iand (v := 1) hx hb dX4_readRow_32 (by decide +kernel) ?_
  refine jw_iast (ws' := [(h0, .inl (Y 1, 4, .inl (jw_l 0 [1, 1])))]) hx hb hE hP hD hS 0 0 [1, 1] rfl (by decide +kernel) (by decide +kernel) rfl dX4_readRow_33 (fun H locs hP hD hS => ?_)
  refine lv_iload_n hx hb dX4_readRow_34 rfl (lv_at hl 1 rfl) ?_
  refine lv_iconst (v := 1) hx hb dX4_readRow_35 (by decide +kernel) ?_
  refine lv_aload_n hx hb dX4_readRow_36 rfl (lv_at hl 4 rfl) ?_
  refine lv_iload hx hb dX4_readRow_37 (lv_at hl 0 rfl) ?_
  refine jw_iald (v := 1) hx hb hE hP 0 0 rfl (by decide +kernel) (by decide +kernel) dX4_readRow_39 ?_
  refine jw_ishl (v := 2) hx hb dX4_readRow_40 (by decide +kernel) ?_
  refine jw_ior (v := 2) hx hb dX4_readRow_41 (by decide +kernel) ?_
  refine lv_istore_n (lv' := [(3, .int 2), (4, .int 0), (0, .int 6), (1, .int 2), (2, .ref h0)]) hx hb dX4_readRow_42 rfl hl (by decide) rfl (fun ls hl => ?_)
  refine lv_iinc (v := 1) (lv' := [(4, .int 1), (3, .int 2), (0, .int 6), (1, .int 2), (2, .ref h0)]) hx hb dX4_readRow_43 hl (k := 1) rfl (by decide +kernel) (by decide) rfl (fun ls hl => ?_)
  refine lv_goto (tgt := 5) hx hb dX4_readRow_46 (by decide) ?_
  refine lv_iload hx hb dX4_readRow_5 (lv_at hl 0 rfl) ?_
  refine lv_iload_n hx hb dX4_readRow_7 rfl (lv_at hl 3 rfl) ?_
  refine lv_icmp_ge (tgt := 49) hx hb dX4_readRow_8 (by decide) (fun c9 => absurd c9 (by decide +kernel)) (fun _ => ?_)
  refine lv_iload hx hb dX4_readRow_11 (lv_at hl 0 rfl) ?_
  refine lv_aload_n hx hb dX4_readRow_13 rfl (lv_at hl 4 rfl) ?_
  refine jw_alen (v := 4) hx hb hE hP 0 1 rfl rfl (by decide +kernel) dX4_readRow_14 ?_
  refine lv_icmp_ge (tgt := 49) hx hb dX4_readRow_15 (by decide) (fun c9 => absurd c9 (by decide +kernel)) (fun _ => ?_)
  refine lv_aload_n hx hb dX4_readRow_18 rfl (lv_at hl 4 rfl) ?_
  refine lv_iload hx hb dX4_readRow_19 (lv_at hl 0 rfl) ?_
  refine lv_iload_n hx hb dX4_readRow_21 rfl (lv_at hl 2 rfl) ?_
  refine lv_iconst (v := 2) hx hb dX4_readRow_22 (by decide +kernel) ?_
  refine lv_iload_n hx hb dX4_readRow_23 rfl (lv_at hl 3 rfl) ?_
  refine lv_iconst (v := 1) hx hb dX4_readRow_24 (by decide +kernel) ?_
  refine jw_isub (v := 1) hx hb dX4_readRow_25 (by decide +kernel) ?_
  refine lv_iload hx hb dX4_readRow_26 (lv_at hl 0 rfl) ?_
  refine jw_isub (v := 0) hx hb dX4_readRow_28 (by decide +kernel) ?_
  refine jw_imul (v := 0) hx hb dX4_readRow_29 (by decide +kernel) ?_
  refine lv_iushr (v := 6) hx hb dX4_readRow_30 (by decide +kernel) ?_
  refine lv_iconst (v := 3) hx hb dX4_readRow_31 (by decide +kernel) ?_
  refine jw_iand (v := 2) hx hb dX4_readRow_32 (by decide +kernel) ?_
  refine jw_iast (ws' := [(h0, .inl (Y 1, 4, .inl (jw_l 0 [1, 2])))]) hx hb hE hP hD hS 0 1 [1, 2] rfl (by decide +kernel) (by decide +kernel) rfl dX4_readRow_33 (fun H locs hP hD hS => ?_)
  refine lv_iload_n hx hb dX4_readRow_34 rfl (lv_at hl 1 rfl) ?_
  refine lv_iconst (v := 1) hx hb dX4_readRow_35 (by decide +kernel) ?_
  refine lv_aload_n hx hb dX4_readRow_36 rfl (lv_at hl 4 rfl) ?_
  refine lv_iload hx hb dX4_readRow_37 (lv_at hl 0 rfl) ?_
  refine jw_iald (v := 2) hx hb hE hP 0 1 rfl (by decide +kernel) (by decide +kernel) dX4_readRow_39 ?_
  refine jw_ishl (v := 4) hx hb dX4_readRow_40 (by decide +kernel) ?_
  refine jw_ior (v := 6) hx hb dX4_readRow_41 (by decide +kernel) ?_
  refine lv_istore_n (lv' := [(3, .int 6), (4, .int 1), (0, .int 6), (1, .int 2), (2, .ref h0)]) hx hb dX4_readRow_42 rfl hl (by decide) rfl (fun ls hl => ?_)
  refine lv_iinc (v := 2) (lv' := [(4, .int 2), (3, .int 6), (0, .int 6), (1, .int 2), (2, .ref h0)]) hx hb dX4_readRow_43 hl (k := 1) rfl (by decide +kernel) (by decide) rfl (fun ls hl => ?_)
  refine lv_goto (tgt := 5) hx hb dX4_readRow_46 (by decide) ?_
  refine lv_iload hx hb dX4_readRow_5 (lv_at hl 0 rfl) ?_
  refine lv_iload_n hx hb dX4_readRow_7 rfl (lv_at hl 3 rfl) ?_
  refine lv_icmp_ge (tgt := 49) hx hb dX4_readRow_8 (by decide) (fun _ => ?_) (fun c9 => absurd (by decide +kernel) c9)
  refine lv_iload_n hx hb dX4_readRow_49 rfl (lv_at hl 1 rfl) ?_
  refine lv_iconst (v := 1) hx hb dX4_readRow_50 (by decide +kernel) ?_
  refine lv_iload_n hx hb dX4_readRow_51 rfl (lv_at hl 3 rfl) ?_
  refine jw_ishl (v := 4) hx hb dX4_readRow_52 (by decide +kernel) ?_
  refine lv_iconst (v := 1) hx hb dX4_readRow_53 (by decide +kernel) ?_
  refine jw_isub (v := 3) hx hb dX4_readRow_54 (by decide +kernel) ?_
  refine lv_icmp_ne (tgt := 62) hx hb dX4_readRow_55 (by decide) (fun _ => ?_) (fun c9 => absurd c9 (by decide +kernel))
  refine lv_iconst (v := 0) hx hb dX4_readRow_62 (by decide +kernel) ?_
  refine W.widen (k := 0) (n := 0) (Nat.le_of_ble_eq_true rfl) (Nat.le_of_ble_eq_true rfl) ?_
  exact jw_zret hx hb hr hlocks rfl rfl rfl hP hD hS dX4_readRow_63
set_option maxHeartbeats 4000000 in
set_option maxRecDepth 100000 in
theorem k20_X4_readRow {l : Launch} {D : va_G} {Y : Nat → ClassId} {tt : Nat → Nat} (h0 : Nat) (sz : Nat) : Met l yX4_readRow wsX4_readRow ({ frames := 0, cells := 0, slots := 0, locals := 0 }) (jw_Pc D Y tt [.int 7, .int 2, .ref h0] [(h0, .inl (Y 1, 4, .inl (jw_l 0 [1, 2])))] sz) (jw_Qi D (fun r => r = 0) (fun w => w = [(h0, .inl (Y 1, 4, .inl (jw_l 0 [1, 3])))]) (va_A [(h0, .inl (Y 1, 4, .inl (jw_l 0 [1, 2])))] sz)) 0 0 (va_A [(h0, .inl (Y 1, 4, .inl (jw_l 0 [1, 2])))] sz) := by
  refine jw_met (fun A => jw_Qi D (fun r => r = 0) (fun w => w = [(h0, .inl (Y 1, 4, .inl (jw_l 0 [1, 3])))]) A) (cc := cX4_readRow) (maxL := 5) (ret := (some .boolean)) pn_X4_readRow rfl rfl ?_
  intro p e s m below meth c A H locs ls hx hb hml hr hts hown hlocks hin hP hD hA hS hE hl
  have hown : s.vm.findClass RX4 = some m.cls := hown
  have hl : lv_has ls 5 [(0, .int 7), (1, .int 2), (2, .ref h0)] := hl
  refine lv_iconst (v := 0) hx hb dX4_readRow_0 (by decide +kernel) ?_
  refine lv_istore_n (lv' := [(3, .int 0), (0, .int 7), (1, .int 2), (2, .ref h0)]) hx hb dX4_readRow_1 rfl hl (by decide) rfl (fun ls hl => ?_)
  refine lv_iconst (v := 0) hx hb dX4_readRow_2 (by decide +kernel) ?_
  refine lv_istore (lv' := [(4, .int 0), (3, .int 0), (0, .int 7), (1, .int 2), (2, .ref h0)]) hx hb dX4_readRow_3 hl (by decide) rfl (fun ls hl => ?_)
  refine lv_iload hx hb dX4_readRow_5 (lv_at hl 0 rfl) ?_
  refine lv_iload_n hx hb dX4_readRow_7 rfl (lv_at hl 3 rfl) ?_
  refine lv_icmp_ge (tgt := 49) hx hb dX4_readRow_8 (by decide) (fun c9 => absurd c9 (by decide +kernel)) (fun _ => ?_)
  refine lv_iload hx hb dX4_readRow_11 (lv_at hl 0 rfl) ?_
  refine lv_aload_n hx hb dX4_readRow_13 rfl (lv_at hl 4 rfl) ?_
  refine jw_alen (v := 4) hx hb hE hP 0 1 rfl rfl (by decide +kernel) dX4_readRow_14 ?_
  refine lv_icmp_ge (tgt := 49) hx hb dX4_readRow_15 (by decide) (fun c9 => absurd c9 (by decide +kernel)) (fun _ => ?_)
  refine lv_aload_n hx hb dX4_readRow_18 rfl (lv_at hl 4 rfl) ?_
  refine lv_iload hx hb dX4_readRow_19 (lv_at hl 0 rfl) ?_
  refine lv_iload_n hx hb dX4_readRow_21 rfl (lv_at hl 2 rfl) ?_
  refine lv_iconst (v := 2) hx hb dX4_readRow_22 (by decide +kernel) ?_
  refine lv_iload_n hx hb dX4_readRow_23 rfl (lv_at hl 3 rfl) ?_
  refine lv_iconst (v := 1) hx hb dX4_readRow_24 (by decide +kernel) ?_
  refine jw_isub (v := 1) hx hb dX4_readRow_25 (by decide +kernel) ?_
  refine lv_iload hx hb dX4_readRow_26 (lv_at hl 0 rfl) ?_
  refine jw_isub (v := 1) hx hb dX4_readRow_28 (by decide +kernel) ?_
  refine jw_imul (v := 2) hx hb dX4_readRow_29 (by decide +kernel) ?_
  refine lv_iushr (v := 1) hx hb dX4_readRow_30 (by decide +kernel) ?_
  refine lv_iconst (v := 3) hx hb dX4_readRow_31 (by decide +kernel) ?_
  refine jw_iand (v := 1) hx hb dX4_readRow_32 (by decide +kernel) ?_
  refine jw_iast (ws' := [(h0, .inl (Y 1, 4, .inl (jw_l 0 [1, 2])))]) hx hb hE hP hD hS 0 0 [1, 2] rfl (by decide +kernel) (by decide +kernel) rfl dX4_readRow_33 (fun H locs hP hD hS => ?_)
  refine lv_iload_n hx hb dX4_readRow_34 rfl (lv_at hl 1 rfl) ?_
  refine lv_iconst (v := 1) hx hb dX4_readRow_35 (by decide +kernel) ?_
  refine lv_aload_n hx hb dX4_readRow_36 rfl (lv_at hl 4 rfl) ?_
  refine lv_iload hx hb dX4_readRow_37 (lv_at hl 0 rfl) ?_
  refine jw_iald (v := 1) hx hb hE hP 0 0 rfl (by decide +kernel) (by decide +kernel) dX4_readRow_39 ?_
  refine jw_ishl (v := 2) hx hb dX4_readRow_40 (by decide +kernel) ?_
  refine jw_ior (v := 2) hx hb dX4_readRow_41 (by decide +kernel) ?_
  refine lv_istore_n (lv' := [(3, .int 2), (4, .int 0), (0, .int 7), (1, .int 2), (2, .ref h0)]) hx hb dX4_readRow_42 rfl hl (by decide) rfl (fun ls hl => ?_)
  refine lv_iinc (v := 1) (lv' := [(4, .int 1), (3, .int 2), (0, .int 7), (1, .int 2), (2, .ref h0)]) hx hb dX4_readRow_43 hl (k := 1) rfl (by decide +kernel) (by decide) rfl (fun ls hl => ?_)
  refine lv_goto (tgt := 5) hx hb dX4_readRow_46 (by decide) ?_
  refine lv_iload hx hb dX4_readRow_5 (lv_at hl 0 rfl) ?_
  refine lv_iload_n hx hb dX4_readRow_7 rfl (lv_at hl 3 rfl) ?_
  refine lv_icmp_ge (tgt := 49) hx hb dX4_readRow_8 (by decide) (fun c9 => absurd c9 (by decide +kernel)) (fun _ => ?_)
  refine lv_iload hx hb dX4_readRow_11 (lv_at hl 0 rfl) ?_
  refine lv_aload_n hx hb dX4_readRow_13 rfl (lv_at hl 4 rfl) ?_
  refine jw_alen (v := 4) hx hb hE hP 0 1 rfl rfl (by decide +kernel) dX4_readRow_14 ?_
  refine lv_icmp_ge (tgt := 49) hx hb dX4_readRow_15 (by decide) (fun c9 => absurd c9 (by decide +kernel)) (fun _ => ?_)
  refine lv_aload_n hx hb dX4_readRow_18 rfl (lv_at hl 4 rfl) ?_
  refine lv_iload hx hb dX4_readRow_19 (lv_at hl 0 rfl) ?_
  refine lv_iload_n hx hb dX4_readRow_21 rfl (lv_at hl 2 rfl) ?_
  refine lv_iconst (v := 2) hx hb dX4_readRow_22 (by decide +kernel) ?_
  refine lv_iload_n hx hb dX4_readRow_23 rfl (lv_at hl 3 rfl) ?_
  refine lv_iconst (v := 1) hx hb dX4_readRow_24 (by decide +kernel) ?_
  refine jw_isub (v := 1) hx hb dX4_readRow_25 (by decide +kernel) ?_
  refine lv_iload hx hb dX4_readRow_26 (lv_at hl 0 rfl) ?_
  refine jw_isub (v := 0) hx hb dX4_readRow_28 (by decide +kernel) ?_
  refine jw_imul (v := 0) hx hb dX4_readRow_29 (by decide +kernel) ?_
  refine lv_iushr (v := 7) hx hb dX4_readRow_30 (by decide +kernel) ?_
  refine lv_iconst (v := 3) hx hb dX4_readRow_31 (by decide +kernel) ?_
  refine jw_iand (v := 3) hx hb dX4_readRow_32 (by decide +kernel) ?_
  refine jw_iast (ws' := [(h0, .inl (Y 1, 4, .inl (jw_l 0 [1, 3])))]) hx hb hE hP hD hS 0 1 [1, 3] rfl (by decide +kernel) (by decide +kernel) rfl dX4_readRow_33 (fun H locs hP hD hS => ?_)
  refine lv_iload_n hx hb dX4_readRow_34 rfl (lv_at hl 1 rfl) ?_
  refine lv_iconst (v := 1) hx hb dX4_readRow_35 (by decide +kernel) ?_
  refine lv_aload_n hx hb dX4_readRow_36 rfl (lv_at hl 4 rfl) ?_
  refine lv_iload hx hb dX4_readRow_37 (lv_at hl 0 rfl) ?_
  refine jw_iald (v := 3) hx hb hE hP 0 1 rfl (by decide +kernel) (by decide +kernel) dX4_readRow_39 ?_
  refine jw_ishl (v := 8) hx hb dX4_readRow_40 (by decide +kernel) ?_
  refine jw_ior (v := 10) hx hb dX4_readRow_41 (by decide +kernel) ?_
  refine lv_istore_n (lv' := [(3, .int 10), (4, .int 1), (0, .int 7), (1, .int 2), (2, .ref h0)]) hx hb dX4_readRow_42 rfl hl (by decide) rfl (fun ls hl => ?_)
  refine lv_iinc (v := 2) (lv' := [(4, .int 2), (3, .int 10), (0, .int 7), (1, .int 2), (2, .ref h0)]) hx hb dX4_readRow_43 hl (k := 1) rfl (by decide +kernel) (by decide) rfl (fun ls hl => ?_)
  refine lv_goto (tgt := 5) hx hb dX4_readRow_46 (by decide) ?_
  refine lv_iload hx hb dX4_readRow_5 (lv_at hl 0 rfl) ?_
  refine lv_iload_n hx hb dX4_readRow_7 rfl (lv_at hl 3 rfl) ?_
  refine lv_icmp_ge (tgt := 49) hx hb dX4_readRow_8 (by decide) (fun _ => ?_) (fun c9 => absurd (by decide +kernel) c9)
  refine lv_iload_n hx hb dX4_readRow_49 rfl (lv_at hl 1 rfl) ?_
  refine lv_iconst (v := 1) hx hb dX4_readRow_50 (by decide +kernel) ?_
  refine lv_iload_n hx hb dX4_readRow_51 rfl (lv_at hl 3 rfl) ?_
  refine jw_ishl (v := 4) hx hb dX4_readRow_52 (by decide +kernel) ?_
  refine lv_iconst (v := 1) hx hb dX4_readRow_53 (by decide +kernel) ?_
  refine jw_isub (v := 3) hx hb dX4_readRow_54 (by decide +kernel) ?_
  refine lv_icmp_ne (tgt := 62) hx hb dX4_readRow_55 (by decide) (fun _ => ?_) (fun c9 => absurd c9 (by decide +kernel))
  refine lv_iconst (v := 0) hx hb dX4_readRow_62 (by decide +kernel) ?_
  refine W.widen (k := 0) (n := 0) (Nat.le_of_ble_eq_true rfl) (Nat.le_of_ble_eq_true rfl) ?_
  exact jw_zret hx hb hr hlocks rfl rfl rfl hP hD hS dX4_readRow_63
set_option maxHeartbeats 4000000 in
set_option maxRecDepth 100000 in
theorem k21_X4_readRow {l : Launch} {D : va_G} {Y : Nat → ClassId} {tt : Nat → Nat} (h0 : Nat) (sz : Nat) : Met l yX4_readRow wsX4_readRow ({ frames := 0, cells := 0, slots := 0, locals := 0 }) (jw_Pc D Y tt [.int 8, .int 2, .ref h0] [(h0, .inl (Y 1, 4, .inl (jw_l 0 [1, 3])))] sz) (jw_Qi D (fun r => r = 0) (fun w => w = [(h0, .inl (Y 1, 4, .inl (jw_l 0 [2, 0])))]) (va_A [(h0, .inl (Y 1, 4, .inl (jw_l 0 [1, 3])))] sz)) 0 0 (va_A [(h0, .inl (Y 1, 4, .inl (jw_l 0 [1, 3])))] sz) := by
  refine jw_met (fun A => jw_Qi D (fun r => r = 0) (fun w => w = [(h0, .inl (Y 1, 4, .inl (jw_l 0 [2, 0])))]) A) (cc := cX4_readRow) (maxL := 5) (ret := (some .boolean)) pn_X4_readRow rfl rfl ?_
  intro p e s m below meth c A H locs ls hx hb hml hr hts hown hlocks hin hP hD hA hS hE hl
  have hown : s.vm.findClass RX4 = some m.cls := hown
  have hl : lv_has ls 5 [(0, .int 8), (1, .int 2), (2, .ref h0)] := hl
  refine lv_iconst (v := 0) hx hb dX4_readRow_0 (by decide +kernel) ?_
  refine lv_istore_n (lv' := [(3, .int 0), (0, .int 8), (1, .int 2), (2, .ref h0)]) hx hb dX4_readRow_1 rfl hl (by decide) rfl (fun ls hl => ?_)
  refine lv_iconst (v := 0) hx hb dX4_readRow_2 (by decide +kernel) ?_
  refine lv_istore (lv' := [(4, .int 0), (3, .int 0), (0, .int 8), (1, .int 2), (2, .ref h0)]) hx hb dX4_readRow_3 hl (by decide) rfl (fun ls hl => ?_)
  refine lv_iload hx hb dX4_readRow_5 (lv_at hl 0 rfl) ?_
  refine lv_iload_n hx hb dX4_readRow_7 rfl (lv_at hl 3 rfl) ?_
  refine lv_icmp_ge (tgt := 49) hx hb dX4_readRow_8 (by decide) (fun c9 => absurd c9 (by decide +kernel)) (fun _ => ?_)
  refine lv_iload hx hb dX4_readRow_11 (lv_at hl 0 rfl) ?_
  refine lv_aload_n hx hb dX4_readRow_13 rfl (lv_at hl 4 rfl) ?_
  refine jw_alen (v := 4) hx hb hE hP 0 1 rfl rfl (by decide +kernel) dX4_readRow_14 ?_
  refine lv_icmp_ge (tgt := 49) hx hb dX4_readRow_15 (by decide) (fun c9 => absurd c9 (by decide +kernel)) (fun _ => ?_)
  refine lv_aload_n hx hb dX4_readRow_18 rfl (lv_at hl 4 rfl) ?_
  refine lv_iload hx hb dX4_readRow_19 (lv_at hl 0 rfl) ?_
  refine lv_iload_n hx hb dX4_readRow_21 rfl (lv_at hl 2 rfl) ?_
  refine lv_iconst (v := 2) hx hb dX4_readRow_22 (by decide +kernel) ?_
  refine lv_iload_n hx hb dX4_readRow_23 rfl (lv_at hl 3 rfl) ?_
  refine lv_iconst (v := 1) hx hb dX4_readRow_24 (by decide +kernel) ?_
  refine jw_isub (v := 1) hx hb dX4_readRow_25 (by decide +kernel) ?_
  refine lv_iload hx hb dX4_readRow_26 (lv_at hl 0 rfl) ?_
  refine jw_isub (v := 1) hx hb dX4_readRow_28 (by decide +kernel) ?_
  refine jw_imul (v := 2) hx hb dX4_readRow_29 (by decide +kernel) ?_
  refine lv_iushr (v := 2) hx hb dX4_readRow_30 (by decide +kernel) ?_
  refine lv_iconst (v := 3) hx hb dX4_readRow_31 (by decide +kernel) ?_
  refine jw_iand (v := 2) hx hb dX4_readRow_32 (by decide +kernel) ?_
  refine jw_iast (ws' := [(h0, .inl (Y 1, 4, .inl (jw_l 0 [2, 3])))]) hx hb hE hP hD hS 0 0 [2, 3] rfl (by decide +kernel) (by decide +kernel) rfl dX4_readRow_33 (fun H locs hP hD hS => ?_)
  refine lv_iload_n hx hb dX4_readRow_34 rfl (lv_at hl 1 rfl) ?_
  refine lv_iconst (v := 1) hx hb dX4_readRow_35 (by decide +kernel) ?_
  refine lv_aload_n hx hb dX4_readRow_36 rfl (lv_at hl 4 rfl) ?_
  refine lv_iload hx hb dX4_readRow_37 (lv_at hl 0 rfl) ?_
  refine jw_iald (v := 2) hx hb hE hP 0 0 rfl (by decide +kernel) (by decide +kernel) dX4_readRow_39 ?_
  refine jw_ishl (v := 4) hx hb dX4_readRow_40 (by decide +kernel) ?_
  refine jw_ior (v := 4) hx hb dX4_readRow_41 (by decide +kernel) ?_
  refine lv_istore_n (lv' := [(3, .int 4), (4, .int 0), (0, .int 8), (1, .int 2), (2, .ref h0)]) hx hb dX4_readRow_42 rfl hl (by decide) rfl (fun ls hl => ?_)
  refine lv_iinc (v := 1) (lv' := [(4, .int 1), (3, .int 4), (0, .int 8), (1, .int 2), (2, .ref h0)]) hx hb dX4_readRow_43 hl (k := 1) rfl (by decide +kernel) (by decide) rfl (fun ls hl => ?_)
  refine lv_goto (tgt := 5) hx hb dX4_readRow_46 (by decide) ?_
  refine lv_iload hx hb dX4_readRow_5 (lv_at hl 0 rfl) ?_
  refine lv_iload_n hx hb dX4_readRow_7 rfl (lv_at hl 3 rfl) ?_
  refine lv_icmp_ge (tgt := 49) hx hb dX4_readRow_8 (by decide) (fun c9 => absurd c9 (by decide +kernel)) (fun _ => ?_)
  refine lv_iload hx hb dX4_readRow_11 (lv_at hl 0 rfl) ?_
  refine lv_aload_n hx hb dX4_readRow_13 rfl (lv_at hl 4 rfl) ?_
  refine jw_alen (v := 4) hx hb hE hP 0 1 rfl rfl (by decide +kernel) dX4_readRow_14 ?_
  refine lv_icmp_ge (tgt := 49) hx hb dX4_readRow_15 (by decide) (fun c9 => absurd c9 (by decide +kernel)) (fun _ => ?_)
  refine lv_aload_n hx hb dX4_readRow_18 rfl (lv_at hl 4 rfl) ?_
  refine lv_iload hx hb dX4_readRow_19 (lv_at hl 0 rfl) ?_
  refine lv_iload_n hx hb dX4_readRow_21 rfl (lv_at hl 2 rfl) ?_
  refine lv_iconst (v := 2) hx hb dX4_readRow_22 (by decide +kernel) ?_
  refine lv_iload_n hx hb dX4_readRow_23 rfl (lv_at hl 3 rfl) ?_
  refine lv_iconst (v := 1) hx hb dX4_readRow_24 (by decide +kernel) ?_
  refine jw_isub (v := 1) hx hb dX4_readRow_25 (by decide +kernel) ?_
  refine lv_iload hx hb dX4_readRow_26 (lv_at hl 0 rfl) ?_
  refine jw_isub (v := 0) hx hb dX4_readRow_28 (by decide +kernel) ?_
  refine jw_imul (v := 0) hx hb dX4_readRow_29 (by decide +kernel) ?_
  refine lv_iushr (v := 8) hx hb dX4_readRow_30 (by decide +kernel) ?_
  refine lv_iconst (v := 3) hx hb dX4_readRow_31 (by decide +kernel) ?_
  refine jw_iand (v := 0) hx hb dX4_readRow_32 (by decide +kernel) ?_
  refine jw_iast (ws' := [(h0, .inl (Y 1, 4, .inl (jw_l 0 [2, 0])))]) hx hb hE hP hD hS 0 1 [2, 0] rfl (by decide +kernel) (by decide +kernel) rfl dX4_readRow_33 (fun H locs hP hD hS => ?_)
  refine lv_iload_n hx hb dX4_readRow_34 rfl (lv_at hl 1 rfl) ?_
  refine lv_iconst (v := 1) hx hb dX4_readRow_35 (by decide +kernel) ?_
  refine lv_aload_n hx hb dX4_readRow_36 rfl (lv_at hl 4 rfl) ?_
  refine lv_iload hx hb dX4_readRow_37 (lv_at hl 0 rfl) ?_
  refine jw_iald (v := 0) hx hb hE hP 0 1 rfl (by decide +kernel) (by decide +kernel) dX4_readRow_39 ?_
  refine jw_ishl (v := 1) hx hb dX4_readRow_40 (by decide +kernel) ?_
  refine jw_ior (v := 5) hx hb dX4_readRow_41 (by decide +kernel) ?_
  refine lv_istore_n (lv' := [(3, .int 5), (4, .int 1), (0, .int 8), (1, .int 2), (2, .ref h0)]) hx hb dX4_readRow_42 rfl hl (by decide) rfl (fun ls hl => ?_)
  refine lv_iinc (v := 2) (lv' := [(4, .int 2), (3, .int 5), (0, .int 8), (1, .int 2), (2, .ref h0)]) hx hb dX4_readRow_43 hl (k := 1) rfl (by decide +kernel) (by decide) rfl (fun ls hl => ?_)
  refine lv_goto (tgt := 5) hx hb dX4_readRow_46 (by decide) ?_
  refine lv_iload hx hb dX4_readRow_5 (lv_at hl 0 rfl) ?_
  refine lv_iload_n hx hb dX4_readRow_7 rfl (lv_at hl 3 rfl) ?_
  refine lv_icmp_ge (tgt := 49) hx hb dX4_readRow_8 (by decide) (fun _ => ?_) (fun c9 => absurd (by decide +kernel) c9)
  refine lv_iload_n hx hb dX4_readRow_49 rfl (lv_at hl 1 rfl) ?_
  refine lv_iconst (v := 1) hx hb dX4_readRow_50 (by decide +kernel) ?_
  refine lv_iload_n hx hb dX4_readRow_51 rfl (lv_at hl 3 rfl) ?_
  refine jw_ishl (v := 4) hx hb dX4_readRow_52 (by decide +kernel) ?_
  refine lv_iconst (v := 1) hx hb dX4_readRow_53 (by decide +kernel) ?_
  refine jw_isub (v := 3) hx hb dX4_readRow_54 (by decide +kernel) ?_
  refine lv_icmp_ne (tgt := 62) hx hb dX4_readRow_55 (by decide) (fun _ => ?_) (fun c9 => absurd c9 (by decide +kernel))
  refine lv_iconst (v := 0) hx hb dX4_readRow_62 (by decide +kernel) ?_
  refine W.widen (k := 0) (n := 0) (Nat.le_of_ble_eq_true rfl) (Nat.le_of_ble_eq_true rfl) ?_
  exact jw_zret hx hb hr hlocks rfl rfl rfl hP hD hS dX4_readRow_63
set_option maxHeartbeats 4000000 in
set_option maxRecDepth 100000 in
theorem k22_X4_readRow {l : Launch} {D : va_G} {Y : Nat → ClassId} {tt : Nat → Nat} (h0 : Nat) (sz : Nat) : Met l yX4_readRow wsX4_readRow ({ frames := 0, cells := 0, slots := 0, locals := 0 }) (jw_Pc D Y tt [.int 9, .int 2, .ref h0] [(h0, .inl (Y 1, 4, .inl (jw_l 0 [2, 0])))] sz) (jw_Qi D (fun r => r = 0) (fun w => w = [(h0, .inl (Y 1, 4, .inl (jw_l 0 [2, 1])))]) (va_A [(h0, .inl (Y 1, 4, .inl (jw_l 0 [2, 0])))] sz)) 0 0 (va_A [(h0, .inl (Y 1, 4, .inl (jw_l 0 [2, 0])))] sz) := by
  refine jw_met (fun A => jw_Qi D (fun r => r = 0) (fun w => w = [(h0, .inl (Y 1, 4, .inl (jw_l 0 [2, 1])))]) A) (cc := cX4_readRow) (maxL := 5) (ret := (some .boolean)) pn_X4_readRow rfl rfl ?_
  intro p e s m below meth c A H locs ls hx hb hml hr hts hown hlocks hin hP hD hA hS hE hl
  have hown : s.vm.findClass RX4 = some m.cls := hown
  have hl : lv_has ls 5 [(0, .int 9), (1, .int 2), (2, .ref h0)] := hl
  refine lv_iconst (v := 0) hx hb dX4_readRow_0 (by decide +kernel) ?_
  refine lv_istore_n (lv' := [(3, .int 0), (0, .int 9), (1, .int 2), (2, .ref h0)]) hx hb dX4_readRow_1 rfl hl (by decide) rfl (fun ls hl => ?_)
  refine lv_iconst (v := 0) hx hb dX4_readRow_2 (by decide +kernel) ?_
  refine lv_istore (lv' := [(4, .int 0), (3, .int 0), (0, .int 9), (1, .int 2), (2, .ref h0)]) hx hb dX4_readRow_3 hl (by decide) rfl (fun ls hl => ?_)
  refine lv_iload hx hb dX4_readRow_5 (lv_at hl 0 rfl) ?_
  refine lv_iload_n hx hb dX4_readRow_7 rfl (lv_at hl 3 rfl) ?_
  refine lv_icmp_ge (tgt := 49) hx hb dX4_readRow_8 (by decide) (fun c9 => absurd c9 (by decide +kernel)) (fun _ => ?_)
  refine lv_iload hx hb dX4_readRow_11 (lv_at hl 0 rfl) ?_
  refine lv_aload_n hx hb dX4_readRow_13 rfl (lv_at hl 4 rfl) ?_
  refine jw_alen (v := 4) hx hb hE hP 0 1 rfl rfl (by decide +kernel) dX4_readRow_14 ?_
  refine lv_icmp_ge (tgt := 49) hx hb dX4_readRow_15 (by decide) (fun c9 => absurd c9 (by decide +kernel)) (fun _ => ?_)
  refine lv_aload_n hx hb dX4_readRow_18 rfl (lv_at hl 4 rfl) ?_
  refine lv_iload hx hb dX4_readRow_19 (lv_at hl 0 rfl) ?_
  refine lv_iload_n hx hb dX4_readRow_21 rfl (lv_at hl 2 rfl) ?_
  refine lv_iconst (v := 2) hx hb dX4_readRow_22 (by decide +kernel) ?_
  refine lv_iload_n hx hb dX4_readRow_23 rfl (lv_at hl 3 rfl) ?_
  refine lv_iconst (v := 1) hx hb dX4_readRow_24 (by decide +kernel) ?_
  refine jw_isub (v := 1) hx hb dX4_readRow_25 (by decide +kernel) ?_
  refine lv_iload hx hb dX4_readRow_26 (lv_at hl 0 rfl) ?_
  refine jw_isub (v := 1) hx hb dX4_readRow_28 (by decide +kernel) ?_
  refine jw_imul (v := 2) hx hb dX4_readRow_29 (by decide +kernel) ?_
  refine lv_iushr (v := 2) hx hb dX4_readRow_30 (by decide +kernel) ?_
  refine lv_iconst (v := 3) hx hb dX4_readRow_31 (by decide +kernel) ?_
  refine jw_iand (v := 2) hx hb dX4_readRow_32 (by decide +kernel) ?_
  refine jw_iast (ws' := [(h0, .inl (Y 1, 4, .inl (jw_l 0 [2, 0])))]) hx hb hE hP hD hS 0 0 [2, 0] rfl (by decide +kernel) (by decide +kernel) rfl dX4_readRow_33 (fun H locs hP hD hS => ?_)
  refine lv_iload_n hx hb dX4_readRow_34 rfl (lv_at hl 1 rfl) ?_
  refine lv_iconst (v := 1) hx hb dX4_readRow_35 (by decide +kernel) ?_
  refine lv_aload_n hx hb dX4_readRow_36 rfl (lv_at hl 4 rfl) ?_
  refine lv_iload hx hb dX4_readRow_37 (lv_at hl 0 rfl) ?_
  refine jw_iald (v := 2) hx hb hE hP 0 0 rfl (by decide +kernel) (by decide +kernel) dX4_readRow_39 ?_
  refine jw_ishl (v := 4) hx hb dX4_readRow_40 (by decide +kernel) ?_
  refine jw_ior (v := 4) hx hb dX4_readRow_41 (by decide +kernel) ?_
  refine lv_istore_n (lv' := [(3, .int 4), (4, .int 0), (0, .int 9), (1, .int 2), (2, .ref h0)]) hx hb dX4_readRow_42 rfl hl (by decide) rfl (fun ls hl => ?_)
  refine lv_iinc (v := 1) (lv' := [(4, .int 1), (3, .int 4), (0, .int 9), (1, .int 2), (2, .ref h0)]) hx hb dX4_readRow_43 hl (k := 1) rfl (by decide +kernel) (by decide) rfl (fun ls hl => ?_)
  refine lv_goto (tgt := 5) hx hb dX4_readRow_46 (by decide) ?_
  refine lv_iload hx hb dX4_readRow_5 (lv_at hl 0 rfl) ?_
  refine lv_iload_n hx hb dX4_readRow_7 rfl (lv_at hl 3 rfl) ?_
  refine lv_icmp_ge (tgt := 49) hx hb dX4_readRow_8 (by decide) (fun c9 => absurd c9 (by decide +kernel)) (fun _ => ?_)
  refine lv_iload hx hb dX4_readRow_11 (lv_at hl 0 rfl) ?_
  refine lv_aload_n hx hb dX4_readRow_13 rfl (lv_at hl 4 rfl) ?_
  refine jw_alen (v := 4) hx hb hE hP 0 1 rfl rfl (by decide +kernel) dX4_readRow_14 ?_
  refine lv_icmp_ge (tgt := 49) hx hb dX4_readRow_15 (by decide) (fun c9 => absurd c9 (by decide +kernel)) (fun _ => ?_)
  refine lv_aload_n hx hb dX4_readRow_18 rfl (lv_at hl 4 rfl) ?_
  refine lv_iload hx hb dX4_readRow_19 (lv_at hl 0 rfl) ?_
  refine lv_iload_n hx hb dX4_readRow_21 rfl (lv_at hl 2 rfl) ?_
  refine lv_iconst (v := 2) hx hb dX4_readRow_22 (by decide +kernel) ?_
  refine lv_iload_n hx hb dX4_readRow_23 rfl (lv_at hl 3 rfl) ?_
  refine lv_iconst (v := 1) hx hb dX4_readRow_24 (by decide +kernel) ?_
  refine jw_isub (v := 1) hx hb dX4_readRow_25 (by decide +kernel) ?_
  refine lv_iload hx hb dX4_readRow_26 (lv_at hl 0 rfl) ?_
  refine jw_isub (v := 0) hx hb dX4_readRow_28 (by decide +kernel) ?_
  refine jw_imul (v := 0) hx hb dX4_readRow_29 (by decide +kernel) ?_
  refine lv_iushr (v := 9) hx hb dX4_readRow_30 (by decide +kernel) ?_
  refine lv_iconst (v := 3) hx hb dX4_readRow_31 (by decide +kernel) ?_
  refine jw_iand (v := 1) hx hb dX4_readRow_32 (by decide +kernel) ?_
  refine jw_iast (ws' := [(h0, .inl (Y 1, 4, .inl (jw_l 0 [2, 1])))]) hx hb hE hP hD hS 0 1 [2, 1] rfl (by decide +kernel) (by decide +kernel) rfl dX4_readRow_33 (fun H locs hP hD hS => ?_)
  refine lv_iload_n hx hb dX4_readRow_34 rfl (lv_at hl 1 rfl) ?_
  refine lv_iconst (v := 1) hx hb dX4_readRow_35 (by decide +kernel) ?_
  refine lv_aload_n hx hb dX4_readRow_36 rfl (lv_at hl 4 rfl) ?_
  refine lv_iload hx hb dX4_readRow_37 (lv_at hl 0 rfl) ?_
  refine jw_iald (v := 1) hx hb hE hP 0 1 rfl (by decide +kernel) (by decide +kernel) dX4_readRow_39 ?_
  refine jw_ishl (v := 2) hx hb dX4_readRow_40 (by decide +kernel) ?_
  refine jw_ior (v := 6) hx hb dX4_readRow_41 (by decide +kernel) ?_
  refine lv_istore_n (lv' := [(3, .int 6), (4, .int 1), (0, .int 9), (1, .int 2), (2, .ref h0)]) hx hb dX4_readRow_42 rfl hl (by decide) rfl (fun ls hl => ?_)
  refine lv_iinc (v := 2) (lv' := [(4, .int 2), (3, .int 6), (0, .int 9), (1, .int 2), (2, .ref h0)]) hx hb dX4_readRow_43 hl (k := 1) rfl (by decide +kernel) (by decide) rfl (fun ls hl => ?_)
  refine lv_goto (tgt := 5) hx hb dX4_readRow_46 (by decide) ?_
  refine lv_iload hx hb dX4_readRow_5 (lv_at hl 0 rfl) ?_
  refine lv_iload_n hx hb dX4_readRow_7 rfl (lv_at hl 3 rfl) ?_
  refine lv_icmp_ge (tgt := 49) hx hb dX4_readRow_8 (by decide) (fun _ => ?_) (fun c9 => absurd (by decide +kernel) c9)
  refine lv_iload_n hx hb dX4_readRow_49 rfl (lv_at hl 1 rfl) ?_
  refine lv_iconst (v := 1) hx hb dX4_readRow_50 (by decide +kernel) ?_
  refine lv_iload_n hx hb dX4_readRow_51 rfl (lv_at hl 3 rfl) ?_
  refine jw_ishl (v := 4) hx hb dX4_readRow_52 (by decide +kernel) ?_
  refine lv_iconst (v := 1) hx hb dX4_readRow_53 (by decide +kernel) ?_
  refine jw_isub (v := 3) hx hb dX4_readRow_54 (by decide +kernel) ?_
  refine lv_icmp_ne (tgt := 62) hx hb dX4_readRow_55 (by decide) (fun _ => ?_) (fun c9 => absurd c9 (by decide +kernel))
  refine lv_iconst (v := 0) hx hb dX4_readRow_62 (by decide +kernel) ?_
  refine W.widen (k := 0) (n := 0) (Nat.le_of_ble_eq_true rfl) (Nat.le_of_ble_eq_true rfl) ?_
  exact jw_zret hx hb hr hlocks rfl rfl rfl hP hD hS dX4_readRow_63
set_option maxHeartbeats 4000000 in
set_option maxRecDepth 100000 in
theorem k23_X4_readRow {l : Launch} {D : va_G} {Y : Nat → ClassId} {tt : Nat → Nat} (h0 : Nat) (sz : Nat) : Met l yX4_readRow wsX4_readRow ({ frames := 0, cells := 0, slots := 0, locals := 0 }) (jw_Pc D Y tt [.int 10, .int 2, .ref h0] [(h0, .inl (Y 1, 4, .inl (jw_l 0 [2, 1])))] sz) (jw_Qi D (fun r => r = 0) (fun w => w = [(h0, .inl (Y 1, 4, .inl (jw_l 0 [2, 2])))]) (va_A [(h0, .inl (Y 1, 4, .inl (jw_l 0 [2, 1])))] sz)) 0 0 (va_A [(h0, .inl (Y 1, 4, .inl (jw_l 0 [2, 1])))] sz) := by
  refine jw_met (fun A => jw_Qi D (fun r => r = 0) (fun w => w = [(h0, .inl (Y 1, 4, .inl (jw_l 0 [2, 2])))]) A) (cc := cX4_readRow) (maxL := 5) (ret := (some .boolean)) pn_X4_readRow rfl rfl ?_
  intro p e s m below meth c A H locs ls hx hb hml hr hts hown hlocks hin hP hD hA hS hE hl
  have hown : s.vm.findClass RX4 = some m.cls := hown
  have hl : lv_has ls 5 [(0, .int 10), (1, .int 2), (2, .ref h0)] := hl
  refine lv_iconst (v := 0) hx hb dX4_readRow_0 (by decide +kernel) ?_
  refine lv_istore_n (lv' := [(3, .int 0), (0, .int 10), (1, .int 2), (2, .ref h0)]) hx hb dX4_readRow_1 rfl hl (by decide) rfl (fun ls hl => ?_)
  refine lv_iconst (v := 0) hx hb dX4_readRow_2 (by decide +kernel) ?_
  refine lv_istore (lv' := [(4, .int 0), (3, .int 0), (0, .int 10), (1, .int 2), (2, .ref h0)]) hx hb dX4_readRow_3 hl (by decide) rfl (fun ls hl => ?_)
  refine lv_iload hx hb dX4_readRow_5 (lv_at hl 0 rfl) ?_
  refine lv_iload_n hx hb dX4_readRow_7 rfl (lv_at hl 3 rfl) ?_
  refine lv_icmp_ge (tgt := 49) hx hb dX4_readRow_8 (by decide) (fun c9 => absurd c9 (by decide +kernel)) (fun _ => ?_)
  refine lv_iload hx hb dX4_readRow_11 (lv_at hl 0 rfl) ?_
  refine lv_aload_n hx hb dX4_readRow_13 rfl (lv_at hl 4 rfl) ?_
  refine jw_alen (v := 4) hx hb hE hP 0 1 rfl rfl (by decide +kernel) dX4_readRow_14 ?_
  refine lv_icmp_ge (tgt := 49) hx hb dX4_readRow_15 (by decide) (fun c9 => absurd c9 (by decide +kernel)) (fun _ => ?_)
  refine lv_aload_n hx hb dX4_readRow_18 rfl (lv_at hl 4 rfl) ?_
  refine lv_iload hx hb dX4_readRow_19 (lv_at hl 0 rfl) ?_
  refine lv_iload_n hx hb dX4_readRow_21 rfl (lv_at hl 2 rfl) ?_
  refine lv_iconst (v := 2) hx hb dX4_readRow_22 (by decide +kernel) ?_
  refine lv_iload_n hx hb dX4_readRow_23 rfl (lv_at hl 3 rfl) ?_
  refine lv_iconst (v := 1) hx hb dX4_readRow_24 (by decide +kernel) ?_
  refine jw_isub (v := 1) hx hb dX4_readRow_25 (by decide +kernel) ?_
  refine lv_iload hx hb dX4_readRow_26 (lv_at hl 0 rfl) ?_
  refine jw_isub (v := 1) hx hb dX4_readRow_28 (by decide +kernel) ?_
  refine jw_imul (v := 2) hx hb dX4_readRow_29 (by decide +kernel) ?_
  refine lv_iushr (v := 2) hx hb dX4_readRow_30 (by decide +kernel) ?_
  refine lv_iconst (v := 3) hx hb dX4_readRow_31 (by decide +kernel) ?_
  refine jw_iand (v := 2) hx hb dX4_readRow_32 (by decide +kernel) ?_
  refine jw_iast (ws' := [(h0, .inl (Y 1, 4, .inl (jw_l 0 [2, 1])))]) hx hb hE hP hD hS 0 0 [2, 1] rfl (by decide +kernel) (by decide +kernel) rfl dX4_readRow_33 (fun H locs hP hD hS => ?_)
  refine lv_iload_n hx hb dX4_readRow_34 rfl (lv_at hl 1 rfl) ?_
  refine lv_iconst (v := 1) hx hb dX4_readRow_35 (by decide +kernel) ?_
  refine lv_aload_n hx hb dX4_readRow_36 rfl (lv_at hl 4 rfl) ?_
  refine lv_iload hx hb dX4_readRow_37 (lv_at hl 0 rfl) ?_
  refine jw_iald (v := 2) hx hb hE hP 0 0 rfl (by decide +kernel) (by decide +kernel) dX4_readRow_39 ?_
  refine jw_ishl (v := 4) hx hb dX4_readRow_40 (by decide +kernel) ?_
  refine jw_ior (v := 4) hx hb dX4_readRow_41 (by decide +kernel) ?_
  refine lv_istore_n (lv' := [(3, .int 4), (4, .int 0), (0, .int 10), (1, .int 2), (2, .ref h0)]) hx hb dX4_readRow_42 rfl hl (by decide) rfl (fun ls hl => ?_)
  refine lv_iinc (v := 1) (lv' := [(4, .int 1), (3, .int 4), (0, .int 10), (1, .int 2), (2, .ref h0)]) hx hb dX4_readRow_43 hl (k := 1) rfl (by decide +kernel) (by decide) rfl (fun ls hl => ?_)
  refine lv_goto (tgt := 5) hx hb dX4_readRow_46 (by decide) ?_
  refine lv_iload hx hb dX4_readRow_5 (lv_at hl 0 rfl) ?_
  refine lv_iload_n hx hb dX4_readRow_7 rfl (lv_at hl 3 rfl) ?_
  refine lv_icmp_ge (tgt := 49) hx hb dX4_readRow_8 (by decide) (fun c9 => absurd c9 (by decide +kernel)) (fun _ => ?_)
  refine lv_iload hx hb dX4_readRow_11 (lv_at hl 0 rfl) ?_
  refine lv_aload_n hx hb dX4_readRow_13 rfl (lv_at hl 4 rfl) ?_
  refine jw_alen (v := 4) hx hb hE hP 0 1 rfl rfl (by decide +kernel) dX4_readRow_14 ?_
  refine lv_icmp_ge (tgt := 49) hx hb dX4_readRow_15 (by decide) (fun c9 => absurd c9 (by decide +kernel)) (fun _ => ?_)
  refine lv_aload_n hx hb dX4_readRow_18 rfl (lv_at hl 4 rfl) ?_
  refine lv_iload hx hb dX4_readRow_19 (lv_at hl 0 rfl) ?_
  refine lv_iload_n hx hb dX4_readRow_21 rfl (lv_at hl 2 rfl) ?_
  refine lv_iconst (v := 2) hx hb dX4_readRow_22 (by decide +kernel) ?_
  refine lv_iload_n hx hb dX4_readRow_23 rfl (lv_at hl 3 rfl) ?_
  refine lv_iconst (v := 1) hx hb dX4_readRow_24 (by decide +kernel) ?_
  refine jw_isub (v := 1) hx hb dX4_readRow_25 (by decide +kernel) ?_
  refine lv_iload hx hb dX4_readRow_26 (lv_at hl 0 rfl) ?_
  refine jw_isub (v := 0) hx hb dX4_readRow_28 (by decide +kernel) ?_
  refine jw_imul (v := 0) hx hb dX4_readRow_29 (by decide +kernel) ?_
  refine lv_iushr (v := 10) hx hb dX4_readRow_30 (by decide +kernel) ?_
  refine lv_iconst (v := 3) hx hb dX4_readRow_31 (by decide +kernel) ?_
  refine jw_iand (v := 2) hx hb dX4_readRow_32 (by decide +kernel) ?_
  refine jw_iast (ws' := [(h0, .inl (Y 1, 4, .inl (jw_l 0 [2, 2])))]) hx hb hE hP hD hS 0 1 [2, 2] rfl (by decide +kernel) (by decide +kernel) rfl dX4_readRow_33 (fun H locs hP hD hS => ?_)
  refine lv_iload_n hx hb dX4_readRow_34 rfl (lv_at hl 1 rfl) ?_
  refine lv_iconst (v := 1) hx hb dX4_readRow_35 (by decide +kernel) ?_
  refine lv_aload_n hx hb dX4_readRow_36 rfl (lv_at hl 4 rfl) ?_
  refine lv_iload hx hb dX4_readRow_37 (lv_at hl 0 rfl) ?_
  refine jw_iald (v := 2) hx hb hE hP 0 1 rfl (by decide +kernel) (by decide +kernel) dX4_readRow_39 ?_
  refine jw_ishl (v := 4) hx hb dX4_readRow_40 (by decide +kernel) ?_
  refine jw_ior (v := 4) hx hb dX4_readRow_41 (by decide +kernel) ?_
  refine lv_istore_n (lv' := [(3, .int 4), (4, .int 1), (0, .int 10), (1, .int 2), (2, .ref h0)]) hx hb dX4_readRow_42 rfl hl (by decide) rfl (fun ls hl => ?_)
  refine lv_iinc (v := 2) (lv' := [(4, .int 2), (3, .int 4), (0, .int 10), (1, .int 2), (2, .ref h0)]) hx hb dX4_readRow_43 hl (k := 1) rfl (by decide +kernel) (by decide) rfl (fun ls hl => ?_)
  refine lv_goto (tgt := 5) hx hb dX4_readRow_46 (by decide) ?_
  refine lv_iload hx hb dX4_readRow_5 (lv_at hl 0 rfl) ?_
  refine lv_iload_n hx hb dX4_readRow_7 rfl (lv_at hl 3 rfl) ?_
  refine lv_icmp_ge (tgt := 49) hx hb dX4_readRow_8 (by decide) (fun _ => ?_) (fun c9 => absurd (by decide +kernel) c9)
  refine lv_iload_n hx hb dX4_readRow_49 rfl (lv_at hl 1 rfl) ?_
  refine lv_iconst (v := 1) hx hb dX4_readRow_50 (by decide +kernel) ?_
  refine lv_iload_n hx hb dX4_readRow_51 rfl (lv_at hl 3 rfl) ?_
  refine jw_ishl (v := 4) hx hb dX4_readRow_52 (by decide +kernel) ?_
  refine lv_iconst (v := 1) hx hb dX4_readRow_53 (by decide +kernel) ?_
  refine jw_isub (v := 3) hx hb dX4_readRow_54 (by decide +kernel) ?_
  refine lv_icmp_ne (tgt := 62) hx hb dX4_readRow_55 (by decide) (fun _ => ?_) (fun c9 => absurd c9 (by decide +kernel))
  refine lv_iconst (v := 0) hx hb dX4_readRow_62 (by decide +kernel) ?_
  refine W.widen (k := 0) (n := 0) (Nat.le_of_ble_eq_true rfl) (Nat.le_of_ble_eq_true rfl) ?_
  exact jw_zret hx hb hr hlocks rfl rfl rfl hP hD hS dX4_readRow_63
set_option maxHeartbeats 4000000 in
set_option maxRecDepth 100000 in
theorem k24_X4_readRow {l : Launch} {D : va_G} {Y : Nat → ClassId} {tt : Nat → Nat} (h0 : Nat) (sz : Nat) : Met l yX4_readRow wsX4_readRow ({ frames := 0, cells := 0, slots := 0, locals := 0 }) (jw_Pc D Y tt [.int 11, .int 2, .ref h0] [(h0, .inl (Y 1, 4, .inl (jw_l 0 [2, 2])))] sz) (jw_Qi D (fun r => r = 0) (fun w => w = [(h0, .inl (Y 1, 4, .inl (jw_l 0 [2, 3])))]) (va_A [(h0, .inl (Y 1, 4, .inl (jw_l 0 [2, 2])))] sz)) 0 0 (va_A [(h0, .inl (Y 1, 4, .inl (jw_l 0 [2, 2])))] sz) := by
  refine jw_met (fun A => jw_Qi D (fun r => r = 0) (fun w => w = [(h0, .inl (Y 1, 4, .inl (jw_l 0 [2, 3])))]) A) (cc := cX4_readRow) (maxL := 5) (ret := (some .boolean)) pn_X4_readRow rfl rfl ?_
  intro p e s m below meth c A H locs ls hx hb hml hr hts hown hlocks hin hP hD hA hS hE hl
  have hown : s.vm.findClass RX4 = some m.cls := hown
  have hl : lv_has ls 5 [(0, .int 11), (1, .int 2), (2, .ref h0)] := hl
  refine lv_iconst (v := 0) hx hb dX4_readRow_0 (by decide +kernel) ?_
  refine lv_istore_n (lv' := [(3, .int 0), (0, .int 11), (1, .int 2), (2, .ref h0)]) hx hb dX4_readRow_1 rfl hl (by decide) rfl (fun ls hl => ?_)
  refine lv_iconst (v := 0) hx hb dX4_readRow_2 (by decide +kernel) ?_
  refine lv_istore (lv' := [(4, .int 0), (3, .int 0), (0, .int 11), (1, .int 2), (2, .ref h0)]) hx hb dX4_readRow_3 hl (by decide) rfl (fun ls hl => ?_)
  refine lv_iload hx hb dX4_readRow_5 (lv_at hl 0 rfl) ?_
  refine lv_iload_n hx hb dX4_readRow_7 rfl (lv_at hl 3 rfl) ?_
  refine lv_icmp_ge (tgt := 49) hx hb dX4_readRow_8 (by decide) (fun c9 => absurd c9 (by decide +kernel)) (fun _ => ?_)
  refine lv_iload hx hb dX4_readRow_11 (lv_at hl 0 rfl) ?_
  refine lv_aload_n hx hb dX4_readRow_13 rfl (lv_at hl 4 rfl) ?_
  refine jw_alen (v := 4) hx hb hE hP 0 1 rfl rfl (by decide +kernel) dX4_readRow_14 ?_
  refine lv_icmp_ge (tgt := 49) hx hb dX4_readRow_15 (by decide) (fun c9 => absurd c9 (by decide +kernel)) (fun _ => ?_)
  refine lv_aload_n hx hb dX4_readRow_18 rfl (lv_at hl 4 rfl) ?_
  refine lv_iload hx hb dX4_readRow_19 (lv_at hl 0 rfl) ?_
  refine lv_iload_n hx hb dX4_readRow_21 rfl (lv_at hl 2 rfl) ?_
  refine lv_iconst (v := 2) hx hb dX4_readRow_22 (by decide +kernel) ?_
  refine lv_iload_n hx hb dX4_readRow_23 rfl (lv_at hl 3 rfl) ?_
  refine lv_iconst (v := 1) hx hb dX4_readRow_24 (by decide +kernel) ?_
  refine jw_isub (v := 1) hx hb dX4_readRow_25 (by decide +kernel) ?_
  refine lv_iload hx hb dX4_readRow_26 (lv_at hl 0 rfl) ?_
  refine jw_isub (v := 1) hx hb dX4_readRow_28 (by decide +kernel) ?_
  refine jw_imul (v := 2) hx hb dX4_readRow_29 (by decide +kernel) ?_
  refine lv_iushr (v := 2) hx hb dX4_readRow_30 (by decide +kernel) ?_
  refine lv_iconst (v := 3) hx hb dX4_readRow_31 (by decide +kernel) ?_
  refine jw_iand (v := 2) hx hb dX4_readRow_32 (by decide +kernel) ?_
  refine jw_iast (ws' := [(h0, .inl (Y 1, 4, .inl (jw_l 0 [2, 2])))]) hx hb hE hP hD hS 0 0 [2, 2] rfl (by decide +kernel) (by decide +kernel) rfl dX4_readRow_33 (fun H locs hP hD hS => ?_)
  refine lv_iload_n hx hb dX4_readRow_34 rfl (lv_at hl 1 rfl) ?_
  refine lv_iconst (v := 1) hx hb dX4_readRow_35 (by decide +kernel) ?_
  refine lv_aload_n hx hb dX4_readRow_36 rfl (lv_at hl 4 rfl) ?_
  refine lv_iload hx hb dX4_readRow_37 (lv_at hl 0 rfl) ?_
  refine jw_iald (v := 2) hx hb hE hP 0 0 rfl (by decide +kernel) (by decide +kernel) dX4_readRow_39 ?_
  refine jw_ishl (v := 4) hx hb dX4_readRow_40 (by decide +kernel) ?_
  refine jw_ior (v := 4) hx hb dX4_readRow_41 (by decide +kernel) ?_
  refine lv_istore_n (lv' := [(3, .int 4), (4, .int 0), (0, .int 11), (1, .int 2), (2, .ref h0)]) hx hb dX4_readRow_42 rfl hl (by decide) rfl (fun ls hl => ?_)
  refine lv_iinc (v := 1) (lv' := [(4, .int 1), (3, .int 4), (0, .int 11), (1, .int 2), (2, .ref h0)]) hx hb dX4_readRow_43 hl (k := 1) rfl (by decide +kernel) (by decide) rfl (fun ls hl => ?_)
  refine lv_goto (tgt := 5) hx hb dX4_readRow_46 (by decide) ?_
  refine lv_iload hx hb dX4_readRow_5 (lv_at hl 0 rfl) ?_
  refine lv_iload_n hx hb dX4_readRow_7 rfl (lv_at hl 3 rfl) ?_
  refine lv_icmp_ge (tgt := 49) hx hb dX4_readRow_8 (by decide) (fun c9 => absurd c9 (by decide +kernel)) (fun _ => ?_)
  refine lv_iload hx hb dX4_readRow_11 (lv_at hl 0 rfl) ?_
  refine lv_aload_n hx hb dX4_readRow_13 rfl (lv_at hl 4 rfl) ?_
  refine jw_alen (v := 4) hx hb hE hP 0 1 rfl rfl (by decide +kernel) dX4_readRow_14 ?_
  refine lv_icmp_ge (tgt := 49) hx hb dX4_readRow_15 (by decide) (fun c9 => absurd c9 (by decide +kernel)) (fun _ => ?_)
  refine lv_aload_n hx hb dX4_readRow_18 rfl (lv_at hl 4 rfl) ?_
  refine lv_iload hx hb dX4_readRow_19 (lv_at hl 0 rfl) ?_
  refine lv_iload_n hx hb dX4_readRow_21 rfl (lv_at hl 2 rfl) ?_
  refine lv_iconst (v := 2) hx hb dX4_readRow_22 (by decide +kernel) ?_
  refine lv_iload_n hx hb dX4_readRow_23 rfl (lv_at hl 3 rfl) ?_
  refine lv_iconst (v := 1) hx hb dX4_readRow_24 (by decide +kernel) ?_
  refine jw_isub (v := 1) hx hb dX4_readRow_25 (by decide +kernel) ?_
  refine lv_iload hx hb dX4_readRow_26 (lv_at hl 0 rfl) ?_
  refine jw_isub (v := 0) hx hb dX4_readRow_28 (by decide +kernel) ?_
  refine jw_imul (v := 0) hx hb dX4_readRow_29 (by decide +kernel) ?_
  refine lv_iushr (v := 11) hx hb dX4_readRow_30 (by decide +kernel) ?_
  refine lv_iconst (v := 3) hx hb dX4_readRow_31 (by decide +kernel) ?_
  refine jw_iand (v := 3) hx hb dX4_readRow_32 (by decide +kernel) ?_
  refine jw_iast (ws' := [(h0, .inl (Y 1, 4, .inl (jw_l 0 [2, 3])))]) hx hb hE hP hD hS 0 1 [2, 3] rfl (by decide +kernel) (by decide +kernel) rfl dX4_readRow_33 (fun H locs hP hD hS => ?_)
  refine lv_iload_n hx hb dX4_readRow_34 rfl (lv_at hl 1 rfl) ?_
  refine lv_iconst (v := 1) hx hb dX4_readRow_35 (by decide +kernel) ?_
  refine lv_aload_n hx hb dX4_readRow_36 rfl (lv_at hl 4 rfl) ?_
  refine lv_iload hx hb dX4_readRow_37 (lv_at hl 0 rfl) ?_
  refine jw_iald (v := 3) hx hb hE hP 0 1 rfl (by decide +kernel) (by decide +kernel) dX4_readRow_39 ?_
  refine jw_ishl (v := 8) hx hb dX4_readRow_40 (by decide +kernel) ?_
  refine jw_ior (v := 12) hx hb dX4_readRow_41 (by decide +kernel) ?_
  refine lv_istore_n (lv' := [(3, .int 12), (4, .int 1), (0, .int 11), (1, .int 2), (2, .ref h0)]) hx hb dX4_readRow_42 rfl hl (by decide) rfl (fun ls hl => ?_)
  refine lv_iinc (v := 2) (lv' := [(4, .int 2), (3, .int 12), (0, .int 11), (1, .int 2), (2, .ref h0)]) hx hb dX4_readRow_43 hl (k := 1) rfl (by decide +kernel) (by decide) rfl (fun ls hl => ?_)
  refine lv_goto (tgt := 5) hx hb dX4_readRow_46 (by decide) ?_
  refine lv_iload hx hb dX4_readRow_5 (lv_at hl 0 rfl) ?_
  refine lv_iload_n hx hb dX4_readRow_7 rfl (lv_at hl 3 rfl) ?_
  refine lv_icmp_ge (tgt := 49) hx hb dX4_readRow_8 (by decide) (fun _ => ?_) (fun c9 => absurd (by decide +kernel) c9)
  refine lv_iload_n hx hb dX4_readRow_49 rfl (lv_at hl 1 rfl) ?_
  refine lv_iconst (v := 1) hx hb dX4_readRow_50 (by decide +kernel) ?_
  refine lv_iload_n hx hb dX4_readRow_51 rfl (lv_at hl 3 rfl) ?_
  refine jw_ishl (v := 4) hx hb dX4_readRow_52 (by decide +kernel) ?_
  refine lv_iconst (v := 1) hx hb dX4_readRow_53 (by decide +kernel) ?_
  refine jw_isub (v := 3) hx hb dX4_readRow_54 (by decide +kernel) ?_
  refine lv_icmp_ne (tgt := 62) hx hb dX4_readRow_55 (by decide) (fun _ => ?_) (fun c9 => absurd c9 (by decide +kernel))
  refine lv_iconst (v := 0) hx hb dX4_readRow_62 (by decide +kernel) ?_
  refine W.widen (k := 0) (n := 0) (Nat.le_of_ble_eq_true rfl) (Nat.le_of_ble_eq_true rfl) ?_
  exact jw_zret hx hb hr hlocks rfl rfl rfl hP hD hS dX4_readRow_63
set_option maxHeartbeats 4000000 in
set_option maxRecDepth 100000 in
theorem k25_X4_readRow {l : Launch} {D : va_G} {Y : Nat → ClassId} {tt : Nat → Nat} (h0 : Nat) (sz : Nat) : Met l yX4_readRow wsX4_readRow ({ frames := 0, cells := 0, slots := 0, locals := 0 }) (jw_Pc D Y tt [.int 12, .int 2, .ref h0] [(h0, .inl (Y 1, 4, .inl (jw_l 0 [2, 3])))] sz) (jw_Qi D (fun r => r = 0) (fun w => w = [(h0, .inl (Y 1, 4, .inl (jw_l 0 [3, 0])))]) (va_A [(h0, .inl (Y 1, 4, .inl (jw_l 0 [2, 3])))] sz)) 0 0 (va_A [(h0, .inl (Y 1, 4, .inl (jw_l 0 [2, 3])))] sz) := by
  refine jw_met (fun A => jw_Qi D (fun r => r = 0) (fun w => w = [(h0, .inl (Y 1, 4, .inl (jw_l 0 [3, 0])))]) A) (cc := cX4_readRow) (maxL := 5) (ret := (some .boolean)) pn_X4_readRow rfl rfl ?_
  intro p e s m below meth c A H locs ls hx hb hml hr hts hown hlocks hin hP hD hA hS hE hl
  have hown : s.vm.findClass RX4 = some m.cls := hown
  have hl : lv_has ls 5 [(0, .int 12), (1, .int 2), (2, .ref h0)] := hl
  refine lv_iconst (v := 0) hx hb dX4_readRow_0 (by decide +kernel) ?_
  refine lv_istore_n (lv' := [(3, .int 0), (0, .int 12), (1, .int 2), (2, .ref h0)]) hx hb dX4_readRow_1 rfl hl (by decide) rfl (fun ls hl => ?_)
  refine lv_iconst (v := 0) hx hb dX4_readRow_2 (by decide +kernel) ?_
  refine lv_istore (lv' := [(4, .int 0), (3, .int 0), (0, .int 12), (1, .int 2), (2, .ref h0)]) hx hb dX4_readRow_3 hl (by decide) rfl (fun ls hl => ?_)
  refine lv_iload hx hb dX4_readRow_5 (lv_at hl 0 rfl) ?_
  refine lv_iload_n hx hb dX4_readRow_7 rfl (lv_at hl 3 rfl) ?_
  refine lv_icmp_ge (tgt := 49) hx hb dX4_readRow_8 (by decide) (fun c9 => absurd c9 (by decide +kernel)) (fun _ => ?_)
  refine lv_iload hx hb dX4_readRow_11 (lv_at hl 0 rfl) ?_
  refine lv_aload_n hx hb dX4_readRow_13 rfl (lv_at hl 4 rfl) ?_
  refine jw_alen (v := 4) hx hb hE hP 0 1 rfl rfl (by decide +kernel) dX4_readRow_14 ?_
  refine lv_icmp_ge (tgt := 49) hx hb dX4_readRow_15 (by decide) (fun c9 => absurd c9 (by decide +kernel)) (fun _ => ?_)
  refine lv_aload_n hx hb dX4_readRow_18 rfl (lv_at hl 4 rfl) ?_
  refine lv_iload hx hb dX4_readRow_19 (lv_at hl 0 rfl) ?_
  refine lv_iload_n hx hb dX4_readRow_21 rfl (lv_at hl 2 rfl) ?_
  refine lv_iconst (v := 2) hx hb dX4_readRow_22 (by decide +kernel) ?_
  refine lv_iload_n hx hb dX4_readRow_23 rfl (lv_at hl 3 rfl) ?_
  refine lv_iconst (v := 1) hx hb dX4_readRow_24 (by decide +kernel) ?_
  refine jw_isub (v := 1) hx hb dX4_readRow_25 (by decide +kernel) ?_
  refine lv_iload hx hb dX4_readRow_26 (lv_at hl 0 rfl) ?_
  refine jw_isub (v := 1) hx hb dX4_readRow_28 (by decide +kernel) ?_
  refine jw_imul (v := 2) hx hb dX4_readRow_29 (by decide +kernel) ?_
  refine lv_iushr (v := 3) hx hb dX4_readRow_30 (by decide +kernel) ?_
  refine lv_iconst (v := 3) hx hb dX4_readRow_31 (by decide +kernel) ?_
  refine jw_iand (v := 3) hx hb dX4_readRow_32 (by decide +kernel) ?_
  refine jw_iast (ws' := [(h0, .inl (Y 1, 4, .inl (jw_l 0 [3, 3])))]) hx hb hE hP hD hS 0 0 [3, 3] rfl (by decide +kernel) (by decide +kernel) rfl dX4_readRow_33 (fun H locs hP hD hS => ?_)
  refine lv_iload_n hx hb dX4_readRow_34 rfl (lv_at hl 1 rfl) ?_
  refine lv_iconst (v := 1) hx hb dX4_readRow_35 (by decide +kernel) ?_
  refine lv_aload_n hx hb dX4_readRow_36 rfl (lv_at hl 4 rfl) ?_
  refine lv_iload hx hb dX4_readRow_37 (lv_at hl 0 rfl) ?_
  refine jw_iald (v := 3) hx hb hE hP 0 0 rfl (by decide +kernel) (by decide +kernel) dX4_readRow_39 ?_
  refine jw_ishl (v := 8) hx hb dX4_readRow_40 (by decide +kernel) ?_
  refine jw_ior (v := 8) hx hb dX4_readRow_41 (by decide +kernel) ?_
  refine lv_istore_n (lv' := [(3, .int 8), (4, .int 0), (0, .int 12), (1, .int 2), (2, .ref h0)]) hx hb dX4_readRow_42 rfl hl (by decide) rfl (fun ls hl => ?_)
  refine lv_iinc (v := 1) (lv' := [(4, .int 1), (3, .int 8), (0, .int 12), (1, .int 2), (2, .ref h0)]) hx hb dX4_readRow_43 hl (k := 1) rfl (by decide +kernel) (by decide) rfl (fun ls hl => ?_)
  refine lv_goto (tgt := 5) hx hb dX4_readRow_46 (by decide) ?_
  refine lv_iload hx hb dX4_readRow_5 (lv_at hl 0 rfl) ?_
  refine lv_iload_n hx hb dX4_readRow_7 rfl (lv_at hl 3 rfl) ?_
  refine lv_icmp_ge (tgt := 49) hx hb dX4_readRow_8 (by decide) (fun c9 => absurd c9 (by decide +kernel)) (fun _ => ?_)
  refine lv_iload hx hb dX4_readRow_11 (lv_at hl 0 rfl) ?_
  refine lv_aload_n hx hb dX4_readRow_13 rfl (lv_at hl 4 rfl) ?_
  refine jw_alen (v := 4) hx hb hE hP 0 1 rfl rfl (by decide +kernel) dX4_readRow_14 ?_
  refine lv_icmp_ge (tgt := 49) hx hb dX4_readRow_15 (by decide) (fun c9 => absurd c9 (by decide +kernel)) (fun _ => ?_)
  refine lv_aload_n hx hb dX4_readRow_18 rfl (lv_at hl 4 rfl) ?_
  refine lv_iload hx hb dX4_readRow_19 (lv_at hl 0 rfl) ?_
  refine lv_iload_n hx hb dX4_readRow_21 rfl (lv_at hl 2 rfl) ?_
  refine lv_iconst (v := 2) hx hb dX4_readRow_22 (by decide +kernel) ?_
  refine lv_iload_n hx hb dX4_readRow_23 rfl (lv_at hl 3 rfl) ?_
  refine lv_iconst (v := 1) hx hb dX4_readRow_24 (by decide +kernel) ?_
  refine jw_isub (v := 1) hx hb dX4_readRow_25 (by decide +kernel) ?_
  refine lv_iload hx hb dX4_readRow_26 (lv_at hl 0 rfl) ?_
  refine jw_isub (v := 0) hx hb dX4_readRow_28 (by decide +kernel) ?_
  refine jw_imul (v := 0) hx hb dX4_readRow_29 (by decide +kernel) ?_
  refine lv_iushr (v := 12) hx hb dX4_readRow_30 (by decide +kernel) ?_
  refine lv_iconst (v := 3) hx hb dX4_readRow_31 (by decide +kernel) ?_
  refine jw_iand (v := 0) hx hb dX4_readRow_32 (by decide +kernel) ?_
  refine jw_iast (ws' := [(h0, .inl (Y 1, 4, .inl (jw_l 0 [3, 0])))]) hx hb hE hP hD hS 0 1 [3, 0] rfl (by decide +kernel) (by decide +kernel) rfl dX4_readRow_33 (fun H locs hP hD hS => ?_)
  refine lv_iload_n hx hb dX4_readRow_34 rfl (lv_at hl 1 rfl) ?_
  refine lv_iconst (v := 1) hx hb dX4_readRow_35 (by decide +kernel) ?_
  refine lv_aload_n hx hb dX4_readRow_36 rfl (lv_at hl 4 rfl) ?_
  refine lv_iload hx hb dX4_readRow_37 (lv_at hl 0 rfl) ?_
  refine jw_iald (v := 0) hx hb hE hP 0 1 rfl (by decide +kernel) (by decide +kernel) dX4_readRow_39 ?_
  refine jw_ishl (v := 1) hx hb dX4_readRow_40 (by decide +kernel) ?_
  refine jw_ior (v := 9) hx hb dX4_readRow_41 (by decide +kernel) ?_
  refine lv_istore_n (lv' := [(3, .int 9), (4, .int 1), (0, .int 12), (1, .int 2), (2, .ref h0)]) hx hb dX4_readRow_42 rfl hl (by decide) rfl (fun ls hl => ?_)
  refine lv_iinc (v := 2) (lv' := [(4, .int 2), (3, .int 9), (0, .int 12), (1, .int 2), (2, .ref h0)]) hx hb dX4_readRow_43 hl (k := 1) rfl (by decide +kernel) (by decide) rfl (fun ls hl => ?_)
  refine lv_goto (tgt := 5) hx hb dX4_readRow_46 (by decide) ?_
  refine lv_iload hx hb dX4_readRow_5 (lv_at hl 0 rfl) ?_
  refine lv_iload_n hx hb dX4_readRow_7 rfl (lv_at hl 3 rfl) ?_
  refine lv_icmp_ge (tgt := 49) hx hb dX4_readRow_8 (by decide) (fun _ => ?_) (fun c9 => absurd (by decide +kernel) c9)
  refine lv_iload_n hx hb dX4_readRow_49 rfl (lv_at hl 1 rfl) ?_
  refine lv_iconst (v := 1) hx hb dX4_readRow_50 (by decide +kernel) ?_
  refine lv_iload_n hx hb dX4_readRow_51 rfl (lv_at hl 3 rfl) ?_
  refine jw_ishl (v := 4) hx hb dX4_readRow_52 (by decide +kernel) ?_
  refine lv_iconst (v := 1) hx hb dX4_readRow_53 (by decide +kernel) ?_
  refine jw_isub (v := 3) hx hb dX4_readRow_54 (by decide +kernel) ?_
  refine lv_icmp_ne (tgt := 62) hx hb dX4_readRow_55 (by decide) (fun _ => ?_) (fun c9 => absurd c9 (by decide +kernel))
  refine lv_iconst (v := 0) hx hb dX4_readRow_62 (by decide +kernel) ?_
  refine W.widen (k := 0) (n := 0) (Nat.le_of_ble_eq_true rfl) (Nat.le_of_ble_eq_true rfl) ?_
  exact jw_zret hx hb hr hlocks rfl rfl rfl hP hD hS dX4_readRow_63
set_option maxHeartbeats 4000000 in
set_option maxRecDepth 100000 in
theorem k26_X4_readRow {l : Launch} {D : va_G} {Y : Nat → ClassId} {tt : Nat → Nat} (h0 : Nat) (sz : Nat) : Met l yX4_readRow wsX4_readRow ({ frames := 0, cells := 0, slots := 0, locals := 0 }) (jw_Pc D Y tt [.int 13, .int 2, .ref h0] [(h0, .inl (Y 1, 4, .inl (jw_l 0 [3, 0])))] sz) (jw_Qi D (fun r => r = 0) (fun w => w = [(h0, .inl (Y 1, 4, .inl (jw_l 0 [3, 1])))]) (va_A [(h0, .inl (Y 1, 4, .inl (jw_l 0 [3, 0])))] sz)) 0 0 (va_A [(h0, .inl (Y 1, 4, .inl (jw_l 0 [3, 0])))] sz) := by
  refine jw_met (fun A => jw_Qi D (fun r => r = 0) (fun w => w = [(h0, .inl (Y 1, 4, .inl (jw_l 0 [3, 1])))]) A) (cc := cX4_readRow) (maxL := 5) (ret := (some .boolean)) pn_X4_readRow rfl rfl ?_
  intro p e s m below meth c A H locs ls hx hb hml hr hts hown hlocks hin hP hD hA hS hE hl
  have hown : s.vm.findClass RX4 = some m.cls := hown
  have hl : lv_has ls 5 [(0, .int 13), (1, .int 2), (2, .ref h0)] := hl
  refine lv_iconst (v := 0) hx hb dX4_readRow_0 (by decide +kernel) ?_
  refine lv_istore_n (lv' := [(3, .int 0), (0, .int 13), (1, .int 2), (2, .ref h0)]) hx hb dX4_readRow_1 rfl hl (by decide) rfl (fun ls hl => ?_)
  refine lv_iconst (v := 0) hx hb dX4_readRow_2 (by decide +kernel) ?_
  refine lv_istore (lv' := [(4, .int 0), (3, .int 0), (0, .int 13), (1, .int 2), (2, .ref h0)]) hx hb dX4_readRow_3 hl (by decide) rfl (fun ls hl => ?_)
  refine lv_iload hx hb dX4_readRow_5 (lv_at hl 0 rfl) ?_
  refine lv_iload_n hx hb dX4_readRow_7 rfl (lv_at hl 3 rfl) ?_
  refine lv_icmp_ge (tgt := 49) hx hb dX4_readRow_8 (by decide) (fun c9 => absurd c9 (by decide +kernel)) (fun _ => ?_)
  refine lv_iload hx hb dX4_readRow_11 (lv_at hl 0 rfl) ?_
  refine lv_aload_n hx hb dX4_readRow_13 rfl (lv_at hl 4 rfl) ?_
  refine jw_alen (v := 4) hx hb hE hP 0 1 rfl rfl (by decide +kernel) dX4_readRow_14 ?_
  refine lv_icmp_ge (tgt := 49) hx hb dX4_readRow_15 (by decide) (fun c9 => absurd c9 (by decide +kernel)) (fun _ => ?_)
  refine lv_aload_n hx hb dX4_readRow_18 rfl (lv_at hl 4 rfl) ?_
  refine lv_iload hx hb dX4_readRow_19 (lv_at hl 0 rfl) ?_
  refine lv_iload_n hx hb dX4_readRow_21 rfl (lv_at hl 2 rfl) ?_
  refine lv_iconst (v := 2) hx hb dX4_readRow_22 (by decide +kernel) ?_
  refine lv_iload_n hx hb dX4_readRow_23 rfl (lv_at hl 3 rfl) ?_
  refine lv_iconst (v := 1) hx hb dX4_readRow_24 (by decide +kernel) ?_
  refine jw_isub (v := 1) hx hb dX4_readRow_25 (by decide +kernel) ?_
  refine lv_iload hx hb dX4_readRow_26 (lv_at hl 0 rfl) ?_
  refine jw_isub (v := 1) hx hb dX4_readRow_28 (by decide +kernel) ?_
  refine jw_imul (v := 2) hx hb dX4_readRow_29 (by decide +kernel) ?_
  refine lv_iushr (v := 3) hx hb dX4_readRow_30 (by decide +kernel) ?_
  refine lv_iconst (v := 3) hx hb dX4_readRow_31 (by decide +kernel) ?_
  refine jw_iand (v := 3) hx hb dX4_readRow_32 (by decide +kernel) ?_
  refine jw_iast (ws' := [(h0, .inl (Y 1, 4, .inl (jw_l 0 [3, 0])))]) hx hb hE hP hD hS 0 0 [3, 0] rfl (by decide +kernel) (by decide +kernel) rfl dX4_readRow_33 (fun H locs hP hD hS => ?_)
  refine lv_iload_n hx hb dX4_readRow_34 rfl (lv_at hl 1 rfl) ?_
  refine lv_iconst (v := 1) hx hb dX4_readRow_35 (by decide +kernel) ?_
  refine lv_aload_n hx hb dX4_readRow_36 rfl (lv_at hl 4 rfl) ?_
  refine lv_iload hx hb dX4_readRow_37 (lv_at hl 0 rfl) ?_
  refine jw_iald (v := 3) hx hb hE hP 0 0 rfl (by decide +kernel) (by decide +kernel) dX4_readRow_39 ?_
  refine jw_ishl (v := 8) hx hb dX4_readRow_40 (by decide +kernel) ?_
  refine jw_ior (v := 8) hx hb dX4_readRow_41 (by decide +kernel) ?_
  refine lv_istore_n (lv' := [(3, .int 8), (4, .int 0), (0, .int 13), (1, .int 2), (2, .ref h0)]) hx hb dX4_readRow_42 rfl hl (by decide) rfl (fun ls hl => ?_)
  refine lv_iinc (v := 1) (lv' := [(4, .int 1), (3, .int 8), (0, .int 13), (1, .int 2), (2, .ref h0)]) hx hb dX4_readRow_43 hl (k := 1) rfl (by decide +kernel) (by decide) rfl (fun ls hl => ?_)
  refine lv_goto (tgt := 5) hx hb dX4_readRow_46 (by decide) ?_
  refine lv_iload hx hb dX4_readRow_5 (lv_at hl 0 rfl) ?_
  refine lv_iload_n hx hb dX4_readRow_7 rfl (lv_at hl 3 rfl) ?_
  refine lv_icmp_ge (tgt := 49) hx hb dX4_readRow_8 (by decide) (fun c9 => absurd c9 (by decide +kernel)) (fun _ => ?_)
  refine lv_iload hx hb dX4_readRow_11 (lv_at hl 0 rfl) ?_
  refine lv_aload_n hx hb dX4_readRow_13 rfl (lv_at hl 4 rfl) ?_
  refine jw_alen (v := 4) hx hb hE hP 0 1 rfl rfl (by decide +kernel) dX4_readRow_14 ?_
  refine lv_icmp_ge (tgt := 49) hx hb dX4_readRow_15 (by decide) (fun c9 => absurd c9 (by decide +kernel)) (fun _ => ?_)
  refine lv_aload_n hx hb dX4_readRow_18 rfl (lv_at hl 4 rfl) ?_
  refine lv_iload hx hb dX4_readRow_19 (lv_at hl 0 rfl) ?_
  refine lv_iload_n hx hb dX4_readRow_21 rfl (lv_at hl 2 rfl) ?_
  refine lv_iconst (v := 2) hx hb dX4_readRow_22 (by decide +kernel) ?_
  refine lv_iload_n hx hb dX4_readRow_23 rfl (lv_at hl 3 rfl) ?_
  refine lv_iconst (v := 1) hx hb dX4_readRow_24 (by decide +kernel) ?_
  refine jw_isub (v := 1) hx hb dX4_readRow_25 (by decide +kernel) ?_
  refine lv_iload hx hb dX4_readRow_26 (lv_at hl 0 rfl) ?_
  refine jw_isub (v := 0) hx hb dX4_readRow_28 (by decide +kernel) ?_
  refine jw_imul (v := 0) hx hb dX4_readRow_29 (by decide +kernel) ?_
  refine lv_iushr (v := 13) hx hb dX4_readRow_30 (by decide +kernel) ?_
  refine lv_iconst (v := 3) hx hb dX4_readRow_31 (by decide +kernel) ?_
  refine jw_iand (v := 1) hx hb dX4_readRow_32 (by decide +kernel) ?_
  refine jw_iast (ws' := [(h0, .inl (Y 1, 4, .inl (jw_l 0 [3, 1])))]) hx hb hE hP hD hS 0 1 [3, 1] rfl (by decide +kernel) (by decide +kernel) rfl dX4_readRow_33 (fun H locs hP hD hS => ?_)
  refine lv_iload_n hx hb dX4_readRow_34 rfl (lv_at hl 1 rfl) ?_
  refine lv_iconst (v := 1) hx hb dX4_readRow_35 (by decide +kernel) ?_
  refine lv_aload_n hx hb dX4_readRow_36 rfl (lv_at hl 4 rfl) ?_
  refine lv_iload hx hb dX4_readRow_37 (lv_at hl 0 rfl) ?_
  refine jw_iald (v := 1) hx hb hE hP 0 1 rfl (by decide +kernel) (by decide +kernel) dX4_readRow_39 ?_
  refine jw_ishl (v := 2) hx hb dX4_readRow_40 (by decide +kernel) ?_
  refine jw_ior (v := 10) hx hb dX4_readRow_41 (by decide +kernel) ?_
  refine lv_istore_n (lv' := [(3, .int 10), (4, .int 1), (0, .int 13), (1, .int 2), (2, .ref h0)]) hx hb dX4_readRow_42 rfl hl (by decide) rfl (fun ls hl => ?_)
  refine lv_iinc (v := 2) (lv' := [(4, .int 2), (3, .int 10), (0, .int 13), (1, .int 2), (2, .ref h0)]) hx hb dX4_readRow_43 hl (k := 1) rfl (by decide +kernel) (by decide) rfl (fun ls hl => ?_)
  refine lv_goto (tgt := 5) hx hb dX4_readRow_46 (by decide) ?_
  refine lv_iload hx hb dX4_readRow_5 (lv_at hl 0 rfl) ?_
  refine lv_iload_n hx hb dX4_readRow_7 rfl (lv_at hl 3 rfl) ?_
  refine lv_icmp_ge (tgt := 49) hx hb dX4_readRow_8 (by decide) (fun _ => ?_) (fun c9 => absurd (by decide +kernel) c9)
  refine lv_iload_n hx hb dX4_readRow_49 rfl (lv_at hl 1 rfl) ?_
  refine lv_iconst (v := 1) hx hb dX4_readRow_50 (by decide +kernel) ?_
  refine lv_iload_n hx hb dX4_readRow_51 rfl (lv_at hl 3 rfl) ?_
  refine jw_ishl (v := 4) hx hb dX4_readRow_52 (by decide +kernel) ?_
  refine lv_iconst (v := 1) hx hb dX4_readRow_53 (by decide +kernel) ?_
  refine jw_isub (v := 3) hx hb dX4_readRow_54 (by decide +kernel) ?_
  refine lv_icmp_ne (tgt := 62) hx hb dX4_readRow_55 (by decide) (fun _ => ?_) (fun c9 => absurd c9 (by decide +kernel))
  refine lv_iconst (v := 0) hx hb dX4_readRow_62 (by decide +kernel) ?_
  refine W.widen (k := 0) (n := 0) (Nat.le_of_ble_eq_true rfl) (Nat.le_of_ble_eq_true rfl) ?_
  exact jw_zret hx hb hr hlocks rfl rfl rfl hP hD hS dX4_readRow_63
set_option maxHeartbeats 4000000 in
set_option maxRecDepth 100000 in
theorem k27_X4_readRow {l : Launch} {D : va_G} {Y : Nat → ClassId} {tt : Nat → Nat} (h0 : Nat) (sz : Nat) : Met l yX4_readRow wsX4_readRow ({ frames := 0, cells := 0, slots := 0, locals := 0 }) (jw_Pc D Y tt [.int 14, .int 2, .ref h0] [(h0, .inl (Y 1, 4, .inl (jw_l 0 [3, 1])))] sz) (jw_Qi D (fun r => r = 0) (fun w => w = [(h0, .inl (Y 1, 4, .inl (jw_l 0 [3, 2])))]) (va_A [(h0, .inl (Y 1, 4, .inl (jw_l 0 [3, 1])))] sz)) 0 0 (va_A [(h0, .inl (Y 1, 4, .inl (jw_l 0 [3, 1])))] sz) := by
  refine jw_met (fun A => jw_Qi D (fun r => r = 0) (fun w => w = [(h0, .inl (Y 1, 4, .inl (jw_l 0 [3, 2])))]) A) (cc := cX4_readRow) (maxL := 5) (ret := (some .boolean)) pn_X4_readRow rfl rfl ?_
  intro p e s m below meth c A H locs ls hx hb hml hr hts hown hlocks hin hP hD hA hS hE hl
  have hown : s.vm.findClass RX4 = some m.cls := hown
  have hl : lv_has ls 5 [(0, .int 14), (1, .int 2), (2, .ref h0)] := hl
  refine lv_iconst (v := 0) hx hb dX4_readRow_0 (by decide +kernel) ?_
  refine lv_istore_n (lv' := [(3, .int 0), (0, .int 14), (1, .int 2), (2, .ref h0)]) hx hb dX4_readRow_1 rfl hl (by decide) rfl (fun ls hl => ?_)
  refine lv_iconst (v := 0) hx hb dX4_readRow_2 (by decide +kernel) ?_
  refine lv_istore (lv' := [(4, .int 0), (3, .int 0), (0, .int 14), (1, .int 2), (2, .ref h0)]) hx hb dX4_readRow_3 hl (by decide) rfl (fun ls hl => ?_)
  refine lv_iload hx hb dX4_readRow_5 (lv_at hl 0 rfl) ?_
  refine lv_iload_n hx hb dX4_readRow_7 rfl (lv_at hl 3 rfl) ?_
  refine lv_icmp_ge (tgt := 49) hx hb dX4_readRow_8 (by decide) (fun c9 => absurd c9 (by decide +kernel)) (fun _ => ?_)
  refine lv_iload hx hb dX4_readRow_11 (lv_at hl 0 rfl) ?_
  refine lv_aload_n hx hb dX4_readRow_13 rfl (lv_at hl 4 rfl) ?_
  refine jw_alen (v := 4) hx hb hE hP 0 1 rfl rfl (by decide +kernel) dX4_readRow_14 ?_
  refine lv_icmp_ge (tgt := 49) hx hb dX4_readRow_15 (by decide) (fun c9 => absurd c9 (by decide +kernel)) (fun _ => ?_)
  refine lv_aload_n hx hb dX4_readRow_18 rfl (lv_at hl 4 rfl) ?_
  refine lv_iload hx hb dX4_readRow_19 (lv_at hl 0 rfl) ?_
  refine lv_iload_n hx hb dX4_readRow_21 rfl (lv_at hl 2 rfl) ?_
  refine lv_iconst (v := 2) hx hb dX4_readRow_22 (by decide +kernel) ?_
  refine lv_iload_n hx hb dX4_readRow_23 rfl (lv_at hl 3 rfl) ?_
  refine lv_iconst (v := 1) hx hb dX4_readRow_24 (by decide +kernel) ?_
  refine jw_isub (v := 1) hx hb dX4_readRow_25 (by decide +kernel) ?_
  refine lv_iload hx hb dX4_readRow_26 (lv_at hl 0 rfl) ?_
  refine jw_isub (v := 1) hx hb dX4_readRow_28 (by decide +kernel) ?_
  refine jw_imul (v := 2) hx hb dX4_readRow_29 (by decide +kernel) ?_
  refine lv_iushr (v := 3) hx hb dX4_readRow_30 (by decide +kernel) ?_
  refine lv_iconst (v := 3) hx hb dX4_readRow_31 (by decide +kernel) ?_
  refine jw_iand (v := 3) hx hb dX4_readRow_32 (by decide +kernel) ?_
  refine jw_iast (ws' := [(h0, .inl (Y 1, 4, .inl (jw_l 0 [3, 1])))]) hx hb hE hP hD hS 0 0 [3, 1] rfl (by decide +kernel) (by decide +kernel) rfl dX4_readRow_33 (fun H locs hP hD hS => ?_)
  refine lv_iload_n hx hb dX4_readRow_34 rfl (lv_at hl 1 rfl) ?_
  refine lv_iconst (v := 1) hx hb dX4_readRow_35 (by decide +kernel) ?_
  refine lv_aload_n hx hb dX4_readRow_36 rfl (lv_at hl 4 rfl) ?_
  refine lv_iload hx hb dX4_readRow_37 (lv_at hl 0 rfl) ?_
  refine jw_iald (v := 3) hx hb hE hP 0 0 rfl (by decide +kernel) (by decide +kernel) dX4_readRow_39 ?_
  refine jw_ishl (v := 8) hx hb dX4_readRow_40 (by decide +kernel) ?_
  refine jw_ior (v := 8) hx hb dX4_readRow_41 (by decide +kernel) ?_
  refine lv_istore_n (lv' := [(3, .int 8), (4, .int 0), (0, .int 14), (1, .int 2), (2, .ref h0)]) hx hb dX4_readRow_42 rfl hl (by decide) rfl (fun ls hl => ?_)
  refine lv_iinc (v := 1) (lv' := [(4, .int 1), (3, .int 8), (0, .int 14), (1, .int 2), (2, .ref h0)]) hx hb dX4_readRow_43 hl (k := 1) rfl (by decide +kernel) (by decide) rfl (fun ls hl => ?_)
  refine lv_goto (tgt := 5) hx hb dX4_readRow_46 (by decide) ?_
  refine lv_iload hx hb dX4_readRow_5 (lv_at hl 0 rfl) ?_
  refine lv_iload_n hx hb dX4_readRow_7 rfl (lv_at hl 3 rfl) ?_
  refine lv_icmp_ge (tgt := 49) hx hb dX4_readRow_8 (by decide) (fun c9 => absurd c9 (by decide +kernel)) (fun _ => ?_)
  refine lv_iload hx hb dX4_readRow_11 (lv_at hl 0 rfl) ?_
  refine lv_aload_n hx hb dX4_readRow_13 rfl (lv_at hl 4 rfl) ?_
  refine jw_alen (v := 4) hx hb hE hP 0 1 rfl rfl (by decide +kernel) dX4_readRow_14 ?_
  refine lv_icmp_ge (tgt := 49) hx hb dX4_readRow_15 (by decide) (fun c9 => absurd c9 (by decide +kernel)) (fun _ => ?_)
  refine lv_aload_n hx hb dX4_readRow_18 rfl (lv_at hl 4 rfl) ?_
  refine lv_iload hx hb dX4_readRow_19 (lv_at hl 0 rfl) ?_
  refine lv_iload_n hx hb dX4_readRow_21 rfl (lv_at hl 2 rfl) ?_
  refine lv_iconst (v := 2) hx hb dX4_readRow_22 (by decide +kernel) ?_
  refine lv_iload_n hx hb dX4_readRow_23 rfl (lv_at hl 3 rfl) ?_
  refine lv_iconst (v := 1) hx hb dX4_readRow_24 (by decide +kernel) ?_
  refine jw_isub (v := 1) hx hb dX4_readRow_25 (by decide +kernel) ?_
  refine lv_iload hx hb dX4_readRow_26 (lv_at hl 0 rfl) ?_
  refine jw_isub (v := 0) hx hb dX4_readRow_28 (by decide +kernel) ?_
  refine jw_imul (v := 0) hx hb dX4_readRow_29 (by decide +kernel) ?_
  refine lv_iushr (v := 14) hx hb dX4_readRow_30 (by decide +kernel) ?_
  refine lv_iconst (v := 3) hx hb dX4_readRow_31 (by decide +kernel) ?_
  refine jw_iand (v := 2) hx hb dX4_readRow_32 (by decide +kernel) ?_
  refine jw_iast (ws' := [(h0, .inl (Y 1, 4, .inl (jw_l 0 [3, 2])))]) hx hb hE hP hD hS 0 1 [3, 2] rfl (by decide +kernel) (by decide +kernel) rfl dX4_readRow_33 (fun H locs hP hD hS => ?_)
  refine lv_iload_n hx hb dX4_readRow_34 rfl (lv_at hl 1 rfl) ?_
  refine lv_iconst (v := 1) hx hb dX4_readRow_35 (by decide +kernel) ?_
  refine lv_aload_n hx hb dX4_readRow_36 rfl (lv_at hl 4 rfl) ?_
  refine lv_iload hx hb dX4_readRow_37 (lv_at hl 0 rfl) ?_
  refine jw_iald (v := 2) hx hb hE hP 0 1 rfl (by decide +kernel) (by decide +kernel) dX4_readRow_39 ?_
  refine jw_ishl (v := 4) hx hb dX4_readRow_40 (by decide +kernel) ?_
  refine jw_ior (v := 12) hx hb dX4_readRow_41 (by decide +kernel) ?_
  refine lv_istore_n (lv' := [(3, .int 12), (4, .int 1), (0, .int 14), (1, .int 2), (2, .ref h0)]) hx hb dX4_readRow_42 rfl hl (by decide) rfl (fun ls hl => ?_)
  refine lv_iinc (v := 2) (lv' := [(4, .int 2), (3, .int 12), (0, .int 14), (1, .int 2), (2, .ref h0)]) hx hb dX4_readRow_43 hl (k := 1) rfl (by decide +kernel) (by decide) rfl (fun ls hl => ?_)
  refine lv_goto (tgt := 5) hx hb dX4_readRow_46 (by decide) ?_
  refine lv_iload hx hb dX4_readRow_5 (lv_at hl 0 rfl) ?_
  refine lv_iload_n hx hb dX4_readRow_7 rfl (lv_at hl 3 rfl) ?_
  refine lv_icmp_ge (tgt := 49) hx hb dX4_readRow_8 (by decide) (fun _ => ?_) (fun c9 => absurd (by decide +kernel) c9)
  refine lv_iload_n hx hb dX4_readRow_49 rfl (lv_at hl 1 rfl) ?_
  refine lv_iconst (v := 1) hx hb dX4_readRow_50 (by decide +kernel) ?_
  refine lv_iload_n hx hb dX4_readRow_51 rfl (lv_at hl 3 rfl) ?_
  refine jw_ishl (v := 4) hx hb dX4_readRow_52 (by decide +kernel) ?_
  refine lv_iconst (v := 1) hx hb dX4_readRow_53 (by decide +kernel) ?_
  refine jw_isub (v := 3) hx hb dX4_readRow_54 (by decide +kernel) ?_
  refine lv_icmp_ne (tgt := 62) hx hb dX4_readRow_55 (by decide) (fun _ => ?_) (fun c9 => absurd c9 (by decide +kernel))
  refine lv_iconst (v := 0) hx hb dX4_readRow_62 (by decide +kernel) ?_
  refine W.widen (k := 0) (n := 0) (Nat.le_of_ble_eq_true rfl) (Nat.le_of_ble_eq_true rfl) ?_
  exact jw_zret hx hb hr hlocks rfl rfl rfl hP hD hS dX4_readRow_63
set_option maxHeartbeats 4000000 in
set_option maxRecDepth 100000 in
theorem k28_X4_readRow {l : Launch} {D : va_G} {Y : Nat → ClassId} {tt : Nat → Nat} (h0 : Nat) (sz : Nat) : Met l yX4_readRow wsX4_readRow ({ frames := 0, cells := 0, slots := 0, locals := 0 }) (jw_Pc D Y tt [.int 15, .int 2, .ref h0] [(h0, .inl (Y 1, 4, .inl (jw_l 0 [3, 2])))] sz) (jw_Qi D (fun r => r = 0) (fun w => w = [(h0, .inl (Y 1, 4, .inl (jw_l 0 [3, 3])))]) (va_A [(h0, .inl (Y 1, 4, .inl (jw_l 0 [3, 2])))] sz)) 0 0 (va_A [(h0, .inl (Y 1, 4, .inl (jw_l 0 [3, 2])))] sz) := by
  refine jw_met (fun A => jw_Qi D (fun r => r = 0) (fun w => w = [(h0, .inl (Y 1, 4, .inl (jw_l 0 [3, 3])))]) A) (cc := cX4_readRow) (maxL := 5) (ret := (some .boolean)) pn_X4_readRow rfl rfl ?_
  intro p e s m below meth c A H locs ls hx hb hml hr hts hown hlocks hin hP hD hA hS hE hl
  have hown : s.vm.findClass RX4 = some m.cls := hown
  have hl : lv_has ls 5 [(0, .int 15), (1, .int 2), (2, .ref h0)] := hl
  refine lv_iconst (v := 0) hx hb dX4_readRow_0 (by decide +kernel) ?_
  refine lv_istore_n (lv' := [(3, .int 0), (0, .int 15), (1, .int 2), (2, .ref h0)]) hx hb dX4_readRow_1 rfl hl (by decide) rfl (fun ls hl => ?_)
  refine lv_iconst (v := 0) hx hb dX4_readRow_2 (by decide +kernel) ?_
  refine lv_istore (lv' := [(4, .int 0), (3, .int 0), (0, .int 15), (1, .int 2), (2, .ref h0)]) hx hb dX4_readRow_3 hl (by decide) rfl (fun ls hl => ?_)
  refine lv_iload hx hb dX4_readRow_5 (lv_at hl 0 rfl) ?_
  refine lv_iload_n hx hb dX4_readRow_7 rfl (lv_at hl 3 rfl) ?_
  refine lv_icmp_ge (tgt := 49) hx hb dX4_readRow_8 (by decide) (fun c9 => absurd c9 (by decide +kernel)) (fun _ => ?_)
  refine lv_iload hx hb dX4_readRow_11 (lv_at hl 0 rfl) ?_
  refine lv_aload_n hx hb dX4_readRow_13 rfl (lv_at hl 4 rfl) ?_
  refine jw_alen (v := 4) hx hb hE hP 0 1 rfl rfl (by decide +kernel) dX4_readRow_14 ?_
  refine lv_icmp_ge (tgt := 49) hx hb dX4_readRow_15 (by decide) (fun c9 => absurd c9 (by decide +kernel)) (fun _ => ?_)
  refine lv_aload_n hx hb dX4_readRow_18 rfl (lv_at hl 4 rfl) ?_
  refine lv_iload hx hb dX4_readRow_19 (lv_at hl 0 rfl) ?_
  refine lv_iload_n hx hb dX4_readRow_21 rfl (lv_at hl 2 rfl) ?_
  refine lv_iconst (v := 2) hx hb dX4_readRow_22 (by decide +kernel) ?_
  refine lv_iload_n hx hb dX4_readRow_23 rfl (lv_at hl 3 rfl) ?_
  refine lv_iconst (v := 1) hx hb dX4_readRow_24 (by decide +kernel) ?_
  refine jw_isub (v := 1) hx hb dX4_readRow_25 (by decide +kernel) ?_
  refine lv_iload hx hb dX4_readRow_26 (lv_at hl 0 rfl) ?_
  refine jw_isub (v := 1) hx hb dX4_readRow_28 (by decide +kernel) ?_
  refine jw_imul (v := 2) hx hb dX4_readRow_29 (by decide +kernel) ?_
  refine lv_iushr (v := 3) hx hb dX4_readRow_30 (by decide +kernel) ?_
  refine lv_iconst (v := 3) hx hb dX4_readRow_31 (by decide +kernel) ?_
  refine jw_iand (v := 3) hx hb dX4_readRow_32 (by decide +kernel) ?_
  refine jw_iast (ws' := [(h0, .inl (Y 1, 4, .inl (jw_l 0 [3, 2])))]) hx hb hE hP hD hS 0 0 [3, 2] rfl (by decide +kernel) (by decide +kernel) rfl dX4_readRow_33 (fun H locs hP hD hS => ?_)
  refine lv_iload_n hx hb dX4_readRow_34 rfl (lv_at hl 1 rfl) ?_
  refine lv_iconst (v := 1) hx hb dX4_readRow_35 (by decide +kernel) ?_
  refine lv_aload_n hx hb dX4_readRow_36 rfl (lv_at hl 4 rfl) ?_
  refine lv_iload hx hb dX4_readRow_37 (lv_at hl 0 rfl) ?_
  refine jw_iald (v := 3) hx hb hE hP 0 0 rfl (by decide +kernel) (by decide +kernel) dX4_readRow_39 ?_
  refine jw_ishl (v := 8) hx hb dX4_readRow_40 (by decide +kernel) ?_
  refine jw_ior (v := 8) hx hb dX4_readRow_41 (by decide +kernel) ?_
  refine lv_istore_n (lv' := [(3, .int 8), (4, .int 0), (0, .int 15), (1, .int 2), (2, .ref h0)]) hx hb dX4_readRow_42 rfl hl (by decide) rfl (fun ls hl => ?_)
  refine lv_iinc (v := 1) (lv' := [(4, .int 1), (3, .int 8), (0, .int 15), (1, .int 2), (2, .ref h0)]) hx hb dX4_readRow_43 hl (k := 1) rfl (by decide +kernel) (by decide) rfl (fun ls hl => ?_)
  refine lv_goto (tgt := 5) hx hb dX4_readRow_46 (by decide) ?_
  refine lv_iload hx hb dX4_readRow_5 (lv_at hl 0 rfl) ?_
  refine lv_iload_n hx hb dX4_readRow_7 rfl (lv_at hl 3 rfl) ?_
  refine lv_icmp_ge (tgt := 49) hx hb dX4_readRow_8 (by decide) (fun c9 => absurd c9 (by decide +kernel)) (fun _ => ?_)
  refine lv_iload hx hb dX4_readRow_11 (lv_at hl 0 rfl) ?_
  refine lv_aload_n hx hb dX4_readRow_13 rfl (lv_at hl 4 rfl) ?_
  refine jw_alen (v := 4) hx hb hE hP 0 1 rfl rfl (by decide +kernel) dX4_readRow_14 ?_
  refine lv_icmp_ge (tgt := 49) hx hb dX4_readRow_15 (by decide) (fun c9 => absurd c9 (by decide +kernel)) (fun _ => ?_)
  refine lv_aload_n hx hb dX4_readRow_18 rfl (lv_at hl 4 rfl) ?_
  refine lv_iload hx hb dX4_readRow_19 (lv_at hl 0 rfl) ?_
  refine lv_iload_n hx hb dX4_readRow_21 rfl (lv_at hl 2 rfl) ?_
  refine lv_iconst (v := 2) hx hb dX4_readRow_22 (by decide +kernel) ?_
  refine lv_iload_n hx hb dX4_readRow_23 rfl (lv_at hl 3 rfl) ?_
  refine lv_iconst (v := 1) hx hb dX4_readRow_24 (by decide +kernel) ?_
  refine jw_isub (v := 1) hx hb dX4_readRow_25 (by decide +kernel) ?_
  refine lv_iload hx hb dX4_readRow_26 (lv_at hl 0 rfl) ?_
  refine jw_isub (v := 0) hx hb dX4_readRow_28 (by decide +kernel) ?_
  refine jw_imul (v := 0) hx hb dX4_readRow_29 (by decide +kernel) ?_
  refine lv_iushr (v := 15) hx hb dX4_readRow_30 (by decide +kernel) ?_
  refine lv_iconst (v := 3) hx hb dX4_readRow_31 (by decide +kernel) ?_
  refine jw_iand (v := 3) hx hb dX4_readRow_32 (by decide +kernel) ?_
  refine jw_iast (ws' := [(h0, .inl (Y 1, 4, .inl (jw_l 0 [3, 3])))]) hx hb hE hP hD hS 0 1 [3, 3] rfl (by decide +kernel) (by decide +kernel) rfl dX4_readRow_33 (fun H locs hP hD hS => ?_)
  refine lv_iload_n hx hb dX4_readRow_34 rfl (lv_at hl 1 rfl) ?_
  refine lv_iconst (v := 1) hx hb dX4_readRow_35 (by decide +kernel) ?_
  refine lv_aload_n hx hb dX4_readRow_36 rfl (lv_at hl 4 rfl) ?_
  refine lv_iload hx hb dX4_readRow_37 (lv_at hl 0 rfl) ?_
  refine jw_iald (v := 3) hx hb hE hP 0 1 rfl (by decide +kernel) (by decide +kernel) dX4_readRow_39 ?_
  refine jw_ishl (v := 8) hx hb dX4_readRow_40 (by decide +kernel) ?_
  refine jw_ior (v := 8) hx hb dX4_readRow_41 (by decide +kernel) ?_
  refine lv_istore_n (lv' := [(3, .int 8), (4, .int 1), (0, .int 15), (1, .int 2), (2, .ref h0)]) hx hb dX4_readRow_42 rfl hl (by decide) rfl (fun ls hl => ?_)
  refine lv_iinc (v := 2) (lv' := [(4, .int 2), (3, .int 8), (0, .int 15), (1, .int 2), (2, .ref h0)]) hx hb dX4_readRow_43 hl (k := 1) rfl (by decide +kernel) (by decide) rfl (fun ls hl => ?_)
  refine lv_goto (tgt := 5) hx hb dX4_readRow_46 (by decide) ?_
  refine lv_iload hx hb dX4_readRow_5 (lv_at hl 0 rfl) ?_
  refine lv_iload_n hx hb dX4_readRow_7 rfl (lv_at hl 3 rfl) ?_
  refine lv_icmp_ge (tgt := 49) hx hb dX4_readRow_8 (by decide) (fun _ => ?_) (fun c9 => absurd (by decide +kernel) c9)
  refine lv_iload_n hx hb dX4_readRow_49 rfl (lv_at hl 1 rfl) ?_
  refine lv_iconst (v := 1) hx hb dX4_readRow_50 (by decide +kernel) ?_
  refine lv_iload_n hx hb dX4_readRow_51 rfl (lv_at hl 3 rfl) ?_
  refine jw_ishl (v := 4) hx hb dX4_readRow_52 (by decide +kernel) ?_
  refine lv_iconst (v := 1) hx hb dX4_readRow_53 (by decide +kernel) ?_
  refine jw_isub (v := 3) hx hb dX4_readRow_54 (by decide +kernel) ?_
  refine lv_icmp_ne (tgt := 62) hx hb dX4_readRow_55 (by decide) (fun _ => ?_) (fun c9 => absurd c9 (by decide +kernel))
  refine lv_iconst (v := 0) hx hb dX4_readRow_62 (by decide +kernel) ?_
  refine W.widen (k := 0) (n := 0) (Nat.le_of_ble_eq_true rfl) (Nat.le_of_ble_eq_true rfl) ?_
  exact jw_zret hx hb hr hlocks rfl rfl rfl hP hD hS dX4_readRow_63
set_option maxHeartbeats 4000000 in
set_option maxRecDepth 100000 in
theorem k29_X4_groupAt {l : Launch} {D : va_G} {Y : Nat → ClassId} {tt : Nat → Nat} (h0 h1 h2 h3 h4 h5 : Nat) (sz : Nat) : Met l yX4_groupAt wsX4_groupAt ({ frames := 0, cells := 0, slots := 0, locals := 0 }) (jw_Pc D Y tt [.ref h0, .int 0, .int 0] [(h0, .inr (7, [.int 2, .int 2, .int 3, .int 0, .ref h1, .ref h2, .ref h3, .ref h4, .ref h5])), (h1, .inl (Y 1, 96, .inl (jw_l 0 [0, 1, 0, 0, 1, 0])))] sz) (jw_Qi D (fun r => r = 0) (fun w => w = [(h0, .inr (7, [.int 2, .int 2, .int 3, .int 0, .ref h1, .ref h2, .ref h3, .ref h4, .ref h5])), (h1, .inl (Y 1, 96, .inl (jw_l 0 [0, 1, 0, 0, 1, 0])))]) (va_A [(h0, .inr (7, [.int 2, .int 2, .int 3, .int 0, .ref h1, .ref h2, .ref h3, .ref h4, .ref h5])), (h1, .inl (Y 1, 96, .inl (jw_l 0 [0, 1, 0, 0, 1, 0])))] sz)) 0 0 (va_A [(h0, .inr (7, [.int 2, .int 2, .int 3, .int 0, .ref h1, .ref h2, .ref h3, .ref h4, .ref h5])), (h1, .inl (Y 1, 96, .inl (jw_l 0 [0, 1, 0, 0, 1, 0])))] sz) := by
  refine jw_met (fun A => jw_Qi D (fun r => r = 0) (fun w => w = [(h0, .inr (7, [.int 2, .int 2, .int 3, .int 0, .ref h1, .ref h2, .ref h3, .ref h4, .ref h5])), (h1, .inl (Y 1, 96, .inl (jw_l 0 [0, 1, 0, 0, 1, 0])))]) A) (cc := cX4_groupAt) (maxL := 3) (ret := (some .int)) pn_X4_groupAt rfl rfl ?_
  intro p e s m below meth c A H locs ls hx hb hml hr hts hown hlocks hin hP hD hA hS hE hl
  have hown : s.vm.findClass RX4 = some m.cls := hown
  have hl : lv_has ls 3 [(0, .ref h0), (1, .int 0), (2, .int 0)] := hl
  refine lv_aload_n hx hb dX4_groupAt_0 rfl (lv_at hl 0 rfl) ?_
  refine va_get (D := D) (ci := 7) (v := .ref h1) (C := RX4) (T := TX4) (N := 9) hx hb hts iw_X4_groupAt__X4 hown hE.1 hP 0 rfl rfl 4 (by decide) (hts _ mw_X4_groupAt__1) (fun _ h9 => h9) rfl dX4_groupAt_1 ?_
  refine lv_iload_n hx hb dX4_groupAt_4 rfl (lv_at hl 1 rfl) ?_
  refine lv_iconst (v := 4) hx hb dX4_groupAt_5 (by decide +kernel) ?_
  refine jw_imul (v := 0) hx hb dX4_groupAt_6 (by decide +kernel) ?_
  refine lv_iload_n hx hb dX4_groupAt_7 rfl (lv_at hl 2 rfl) ?_
  refine jw_iadd (v := 0) hx hb dX4_groupAt_8 (by decide +kernel) ?_
  refine jw_iald (v := 0) hx hb hE hP 1 0 rfl (by decide +kernel) (by decide +kernel) dX4_groupAt_9 ?_
  refine W.widen (k := 0) (n := 0) (Nat.le_of_ble_eq_true rfl) (Nat.le_of_ble_eq_true rfl) ?_
  exact jw_iret hx hb hr hlocks rfl rfl hP hD hS dX4_groupAt_10
set_option maxHeartbeats 4000000 in
set_option maxRecDepth 100000 in
theorem k30_X4_groupAt {l : Launch} {D : va_G} {Y : Nat → ClassId} {tt : Nat → Nat} (h0 h1 h2 h3 h4 h5 : Nat) (sz : Nat) : Met l yX4_groupAt wsX4_groupAt ({ frames := 0, cells := 0, slots := 0, locals := 0 }) (jw_Pc D Y tt [.ref h0, .int 0, .int 1] [(h0, .inr (7, [.int 2, .int 2, .int 3, .int 0, .ref h1, .ref h2, .ref h3, .ref h4, .ref h5])), (h1, .inl (Y 1, 96, .inl (jw_l 0 [0, 1, 0, 0, 1, 0])))] sz) (jw_Qi D (fun r => r = 1) (fun w => w = [(h0, .inr (7, [.int 2, .int 2, .int 3, .int 0, .ref h1, .ref h2, .ref h3, .ref h4, .ref h5])), (h1, .inl (Y 1, 96, .inl (jw_l 0 [0, 1, 0, 0, 1, 0])))]) (va_A [(h0, .inr (7, [.int 2, .int 2, .int 3, .int 0, .ref h1, .ref h2, .ref h3, .ref h4, .ref h5])), (h1, .inl (Y 1, 96, .inl (jw_l 0 [0, 1, 0, 0, 1, 0])))] sz)) 0 0 (va_A [(h0, .inr (7, [.int 2, .int 2, .int 3, .int 0, .ref h1, .ref h2, .ref h3, .ref h4, .ref h5])), (h1, .inl (Y 1, 96, .inl (jw_l 0 [0, 1, 0, 0, 1, 0])))] sz) := by
  refine jw_met (fun A => jw_Qi D (fun r => r = 1) (fun w => w = [(h0, .inr (7, [.int 2, .int 2, .int 3, .int 0, .ref h1, .ref h2, .ref h3, .ref h4, .ref h5])), (h1, .inl (Y 1, 96, .inl (jw_l 0 [0, 1, 0, 0, 1, 0])))]) A) (cc := cX4_groupAt) (maxL := 3) (ret := (some .int)) pn_X4_groupAt rfl rfl ?_
  intro p e s m below meth c A H locs ls hx hb hml hr hts hown hlocks hin hP hD hA hS hE hl
  have hown : s.vm.findClass RX4 = some m.cls := hown
  have hl : lv_has ls 3 [(0, .ref h0), (1, .int 0), (2, .int 1)] := hl
  refine lv_aload_n hx hb dX4_groupAt_0 rfl (lv_at hl 0 rfl) ?_
  refine va_get (D := D) (ci := 7) (v := .ref h1) (C := RX4) (T := TX4) (N := 9) hx hb hts iw_X4_groupAt__X4 hown hE.1 hP 0 rfl rfl 4 (by decide) (hts _ mw_X4_groupAt__1) (fun _ h9 => h9) rfl dX4_groupAt_1 ?_
  refine lv_iload_n hx hb dX4_groupAt_4 rfl (lv_at hl 1 rfl) ?_
  refine lv_iconst (v := 4) hx hb dX4_groupAt_5 (by decide +kernel) ?_
  refine jw_imul (v := 0) hx hb dX4_groupAt_6 (by decide +kernel) ?_
  refine lv_iload_n hx hb dX4_groupAt_7 rfl (lv_at hl 2 rfl) ?_
  refine jw_iadd (v := 1) hx hb dX4_groupAt_8 (by decide +kernel) ?_
  refine jw_iald (v := 1) hx hb hE hP 1 1 rfl (by decide +kernel) (by decide +kernel) dX4_groupAt_9 ?_
  refine W.widen (k := 0) (n := 0) (Nat.le_of_ble_eq_true rfl) (Nat.le_of_ble_eq_true rfl) ?_
  exact jw_iret hx hb hr hlocks rfl rfl hP hD hS dX4_groupAt_10
set_option maxHeartbeats 4000000 in
set_option maxRecDepth 100000 in
theorem k31_J6_bitCount_0f7a4 {l : Launch} {D : va_G} {Y : Nat → ClassId} {tt : Nat → Nat} (sz : Nat) : Met l yJ6_bitCount_0f7a4 wsJ6_bitCount_0f7a4 ({ frames := 0, cells := 0, slots := 0, locals := 0 }) (jw_Pc D Y tt [.int 1] [] sz) (jw_Qi D (fun r => r = 1) (fun w => w = []) (va_A [] sz)) 0 0 (va_A [] sz) := by
  refine jw_met (fun A => jw_Qi D (fun r => r = 1) (fun w => w = []) A) (cc := cJ6_bitCount_0f7a4) (maxL := 1) (ret := (some .int)) pn_J6_bitCount_0f7a4 rfl rfl ?_
  intro p e s m below meth c A H locs ls hx hb hml hr hts hown hlocks hin hP hD hA hS hE hl
  have hown : s.vm.findClass RJ6 = some m.cls := hown
  have hl : lv_has ls 1 [(0, .int 1)] := hl
  refine lv_iload_n hx hb dJ6_bitCount_0f7a4_0 rfl (lv_at hl 0 rfl) ?_
  refine lv_iload_n hx hb dJ6_bitCount_0f7a4_1 rfl (lv_at hl 0 rfl) ?_
  refine lv_iconst (v := 1) hx hb dJ6_bitCount_0f7a4_2 (by decide +kernel) ?_
  refine lv_iushr (v := 0) hx hb dJ6_bitCount_0f7a4_3 (by decide +kernel) ?_
  refine lv_ldcw (v := 1431655765) hx hb hown (hts _ mw_J6_bitCount_0f7a4__1) dJ6_bitCount_0f7a4_4 ?_
  refine jw_iand (v := 0) hx hb dJ6_bitCount_0f7a4_7 (by decide +kernel) ?_
  refine jw_isub (v := 1) hx hb dJ6_bitCount_0f7a4_8 (by decide +kernel) ?_
  refine lv_istore_n (lv' := [(0, .int 1)]) hx hb dJ6_bitCount_0f7a4_9 rfl hl (by decide) rfl (fun ls hl => ?_)
  refine lv_iload_n hx hb dJ6_bitCount_0f7a4_10 rfl (lv_at hl 0 rfl) ?_
  refine lv_ldcw (v := 858993459) hx hb hown (hts _ mw_J6_bitCount_0f7a4__2) dJ6_bitCount_0f7a4_11 ?_
  refine jw_iand (v := 1) hx hb dJ6_bitCount_0f7a4_14 (by decide +kernel) ?_
  refine lv_iload_n hx hb dJ6_bitCount_0f7a4_15 rfl (lv_at hl 0 rfl) ?_
  refine lv_iconst (v := 2) hx hb dJ6_bitCount_0f7a4_16 (by decide +kernel) ?_
  refine lv_iushr (v := 0) hx hb dJ6_bitCount_0f7a4_17 (by decide +kernel) ?_
  refine lv_ldcw (v := 858993459) hx hb hown (hts _ mw_J6_bitCount_0f7a4__2) dJ6_bitCount_0f7a4_18 ?_
  refine jw_iand (v := 0) hx hb dJ6_bitCount_0f7a4_21 (by decide +kernel) ?_
  refine jw_iadd (v := 1) hx hb dJ6_bitCount_0f7a4_22 (by decide +kernel) ?_
  refine lv_istore_n (lv' := [(0, .int 1)]) hx hb dJ6_bitCount_0f7a4_23 rfl hl (by decide) rfl (fun ls hl => ?_)
  refine lv_iload_n hx hb dJ6_bitCount_0f7a4_24 rfl (lv_at hl 0 rfl) ?_
  refine lv_iload_n hx hb dJ6_bitCount_0f7a4_25 rfl (lv_at hl 0 rfl) ?_
  refine lv_iconst (v := 4) hx hb dJ6_bitCount_0f7a4_26 (by decide +kernel) ?_
  refine lv_iushr (v := 0) hx hb dJ6_bitCount_0f7a4_27 (by decide +kernel) ?_
  refine jw_iadd (v := 1) hx hb dJ6_bitCount_0f7a4_28 (by decide +kernel) ?_
  refine lv_ldcw (v := 252645135) hx hb hown (hts _ mw_J6_bitCount_0f7a4__3) dJ6_bitCount_0f7a4_29 ?_
  refine jw_iand (v := 1) hx hb dJ6_bitCount_0f7a4_32 (by decide +kernel) ?_
  refine lv_istore_n (lv' := [(0, .int 1)]) hx hb dJ6_bitCount_0f7a4_33 rfl hl (by decide) rfl (fun ls hl => ?_)
  refine lv_iload_n hx hb dJ6_bitCount_0f7a4_34 rfl (lv_at hl 0 rfl) ?_
  refine lv_iload_n hx hb dJ6_bitCount_0f7a4_35 rfl (lv_at hl 0 rfl) ?_
  refine lv_bipush (v := 8) hx hb dJ6_bitCount_0f7a4_36 (by decide +kernel) ?_
  refine lv_iushr (v := 0) hx hb dJ6_bitCount_0f7a4_38 (by decide +kernel) ?_
  refine jw_iadd (v := 1) hx hb dJ6_bitCount_0f7a4_39 (by decide +kernel) ?_
  refine lv_istore_n (lv' := [(0, .int 1)]) hx hb dJ6_bitCount_0f7a4_40 rfl hl (by decide) rfl (fun ls hl => ?_)
  refine lv_iload_n hx hb dJ6_bitCount_0f7a4_41 rfl (lv_at hl 0 rfl) ?_
  refine lv_iload_n hx hb dJ6_bitCount_0f7a4_42 rfl (lv_at hl 0 rfl) ?_
  refine lv_bipush (v := 16) hx hb dJ6_bitCount_0f7a4_43 (by decide +kernel) ?_
  refine lv_iushr (v := 0) hx hb dJ6_bitCount_0f7a4_45 (by decide +kernel) ?_
  refine jw_iadd (v := 1) hx hb dJ6_bitCount_0f7a4_46 (by decide +kernel) ?_
  refine lv_istore_n (lv' := [(0, .int 1)]) hx hb dJ6_bitCount_0f7a4_47 rfl hl (by decide) rfl (fun ls hl => ?_)
  refine lv_iload_n hx hb dJ6_bitCount_0f7a4_48 rfl (lv_at hl 0 rfl) ?_
  refine lv_bipush (v := 63) hx hb dJ6_bitCount_0f7a4_49 (by decide +kernel) ?_
  refine jw_iand (v := 1) hx hb dJ6_bitCount_0f7a4_51 (by decide +kernel) ?_
  refine W.widen (k := 0) (n := 0) (Nat.le_of_ble_eq_true rfl) (Nat.le_of_ble_eq_true rfl) ?_
  exact jw_iret hx hb hr hlocks rfl rfl hP hD hS dJ6_bitCount_0f7a4_52
set_option maxHeartbeats 4000000 in
set_option maxRecDepth 100000 in
theorem k32_X4_only {l : Launch} {D : va_G} {Y : Nat → ClassId} {tt : Nat → Nat} (sz : Nat) : Met l yX4_only wsX4_only ({ frames := 1, cells := 0, slots := 0, locals := 20 }) (jw_Pc D Y tt [.int 2] [] sz) (jw_Qi D (fun r => r = 1) (fun w => w = []) (va_A [] sz)) 0 0 (va_A [] sz) := by
  refine jw_met (fun A => jw_Qi D (fun r => r = 1) (fun w => w = []) A) (cc := cX4_only) (maxL := 1) (ret := (some .int)) pn_X4_only rfl rfl ?_
  intro p e s m below meth c A H locs ls hx hb hml hr hts hown hlocks hin hP hD hA hS hE hl
  have hown : s.vm.findClass RX4 = some m.cls := hown
  have hl : lv_has ls 1 [(0, .int 2)] := hl
  refine lv_iload_n hx hb dX4_only_0 rfl (lv_at hl 0 rfl) ?_
  refine lv_if_ne (tgt := 8) hx hb dX4_only_1 (by decide) (fun _ => ?_) (fun c9 => absurd c9 (by decide +kernel))
  refine lv_iload_n hx hb dX4_only_8 rfl (lv_at hl 0 rfl) ?_
  refine lv_iload_n hx hb dX4_only_9 rfl (lv_at hl 0 rfl) ?_
  refine jw_ineg (v := (-2)) hx hb dX4_only_10 (by decide +kernel) ?_
  refine jw_iand (v := 2) hx hb dX4_only_11 (by decide +kernel) ?_
  refine lv_iconst (v := 1) hx hb dX4_only_12 (by decide +kernel) ?_
  refine jw_isub (v := 1) hx hb dX4_only_13 (by decide +kernel) ?_
  refine jw_mi (wc := []) (cs := 0) (ss := 0) (va_runS (As := [.int 1]) (rest := []) ⟨hx, hb, hml, hown, hts⟩ (k31_J6_bitCount_0f7a4 H.size) (va_cwS 1 hts gX4_only_J6_bitCount_0f7a4 rfl rfl rfl ydS_J6_bitCount_0f7a4 ⟨Nat.le_of_ble_eq_true rfl, Nat.le_of_ble_eq_true rfl⟩) (jw_mpreS hP hD hS hA hE [] rfl) rfl rfl hl.1 rfl (lv_room (Nat.le_of_ble_eq_true rfl)) dX4_only_14 ⟨Nat.le_of_ble_eq_true rfl, Nat.le_of_ble_eq_true rfl⟩) hP hD hS hA [] rfl rfl rfl (fun r9 w1 H locs hr9 hw9 hP hD hS => ?_)
  subst hr9
  subst hw9
  have hP : va_P D vwCl [] H := hP
  have hD : va_D A [] := hD
  refine W.widen (k := 0) (n := 0) (Nat.le_of_ble_eq_true rfl) (Nat.le_of_ble_eq_true rfl) ?_
  exact jw_iret hx hb hr hlocks rfl rfl hP hD hS dX4_only_17
set_option maxHeartbeats 4000000 in
set_option maxRecDepth 100000 in
theorem k33_X4_rankWithSwapped {l : Launch} {D : va_G} {Y : Nat → ClassId} {tt : Nat → Nat} (h0 h1 h2 h3 h4 h5 : Nat) (sz : Nat) : Met l yX4_rankWithSwapped wsX4_rankWithSwapped ({ frames := 2, cells := 0, slots := 0, locals := 40 }) (jw_Pc D Y tt [.ref h0, .int 0, .int 0, .int 1] [(h0, .inr (7, [.int 2, .int 2, .int 3, .int 0, .ref h1, .ref h3, .ref h2, .ref h4, .ref h5])), (h1, .inl (Y 1, 96, .inl (jw_l 0 [0, 1, 0, 0, 1, 0]))), (h2, .inl (Y 1, 16, .inl (jw_l 0 [1, 2, 0, 0, 2, 1])))] sz) (jw_Qi D (fun r => r = 1) (fun w => w = [(h0, .inr (7, [.int 2, .int 2, .int 3, .int 0, .ref h1, .ref h3, .ref h2, .ref h4, .ref h5])), (h1, .inl (Y 1, 96, .inl (jw_l 0 [0, 1, 0, 0, 1, 0]))), (h2, .inl (Y 1, 16, .inl (jw_l 0 [1, 2, 0, 0, 2, 1])))]) (va_A [(h0, .inr (7, [.int 2, .int 2, .int 3, .int 0, .ref h1, .ref h3, .ref h2, .ref h4, .ref h5])), (h1, .inl (Y 1, 96, .inl (jw_l 0 [0, 1, 0, 0, 1, 0]))), (h2, .inl (Y 1, 16, .inl (jw_l 0 [1, 2, 0, 0, 2, 1])))] sz)) 0 0 (va_A [(h0, .inr (7, [.int 2, .int 2, .int 3, .int 0, .ref h1, .ref h3, .ref h2, .ref h4, .ref h5])), (h1, .inl (Y 1, 96, .inl (jw_l 0 [0, 1, 0, 0, 1, 0]))), (h2, .inl (Y 1, 16, .inl (jw_l 0 [1, 2, 0, 0, 2, 1])))] sz) := by
  refine jw_met (fun A => jw_Qi D (fun r => r = 1) (fun w => w = [(h0, .inr (7, [.int 2, .int 2, .int 3, .int 0, .ref h1, .ref h3, .ref h2, .ref h4, .ref h5])), (h1, .inl (Y 1, 96, .inl (jw_l 0 [0, 1, 0, 0, 1, 0]))), (h2, .inl (Y 1, 16, .inl (jw_l 0 [1, 2, 0, 0, 2, 1])))]) A) (cc := cX4_rankWithSwapped) (maxL := 8) (ret := (some .int)) pn_X4_rankWithSwapped rfl rfl ?_
  intro p e s m below meth c A H locs ls hx hb hml hr hts hown hlocks hin hP hD hA hS hE hl
  have hown : s.vm.findClass RX4 = some m.cls := hown
  have hl : lv_has ls 8 [(0, .ref h0), (1, .int 0), (2, .int 0), (3, .int 1)] := hl
  refine lv_aload_n hx hb dX4_rankWithSwapped_0 rfl (lv_at hl 0 rfl) ?_
  refine va_get (D := D) (ci := 7) (v := .int 3) (C := RX4) (T := TX4) (N := 9) hx hb hts iw_X4_rankWithSwapped__X4 hown hE.1 hP 0 rfl rfl 2 (by decide) (hts _ mw_X4_rankWithSwapped__1) (fun _ h9 => h9) rfl dX4_rankWithSwapped_1 ?_
  refine lv_istore (lv' := [(4, .int 3), (0, .ref h0), (1, .int 0), (2, .int 0), (3, .int 1)]) hx hb dX4_rankWithSwapped_4 hl (by decide) rfl (fun ls hl => ?_)
  refine lv_iconst (v := 0) hx hb dX4_rankWithSwapped_6 (by decide +kernel) ?_
  refine lv_istore (lv' := [(5, .int 0), (4, .int 3), (0, .ref h0), (1, .int 0), (2, .int 0), (3, .int 1)]) hx hb dX4_rankWithSwapped_7 hl (by decide) rfl (fun ls hl => ?_)
  refine lv_iload hx hb dX4_rankWithSwapped_9 (lv_at hl 0 rfl) ?_
  refine lv_aload_n hx hb dX4_rankWithSwapped_11 rfl (lv_at hl 2 rfl) ?_
  refine va_get (D := D) (ci := 7) (v := .int 2) (C := RX4) (T := TX4) (N := 9) hx hb hts iw_X4_rankWithSwapped__X4 hown hE.1 hP 0 rfl rfl 0 (by decide) (hts _ mw_X4_rankWithSwapped__2) (fun _ h9 => h9) rfl dX4_rankWithSwapped_12 ?_
  refine lv_icmp_ge (tgt := 74) hx hb dX4_rankWithSwapped_15 (by decide) (fun c9 => absurd c9 (by decide +kernel)) (fun _ => ?_)
  refine lv_aload_n hx hb dX4_rankWithSwapped_18 rfl (lv_at hl 2 rfl) ?_
  refine lv_iload_n hx hb dX4_rankWithSwapped_19 rfl (lv_at hl 3 rfl) ?_
  refine lv_iload hx hb dX4_rankWithSwapped_20 (lv_at hl 0 rfl) ?_
  refine jw_mi (wc := [(h0, .inr (7, [.int 2, .int 2, .int 3, .int 0, .ref h1, .ref h3, .ref h2, .ref h4, .ref h5])), (h1, .inl (Y 1, 96, .inl (jw_l 0 [0, 1, 0, 0, 1, 0])))]) (cs := 0) (ss := 0) (va_runV (As := [.int 0, .int 0]) (rest := []) ⟨hx, hb, hml, hown, hts⟩ (k29_X4_groupAt h0 h1 h3 h2 h4 h5 H.size) (cwV 2 hts gX4_rankWithSwapped_X4_groupAt rfl rfl rfl ydV_X4_groupAt ⟨Nat.le_of_ble_eq_true rfl, Nat.le_of_ble_eq_true rfl⟩) (jw_mpreV (ci := 7) (q0 := 0) hP hD hS hA hE [true, true] rfl rfl rfl) rfl rfl hl.1 rfl (lv_room (Nat.le_of_ble_eq_true rfl)) dX4_rankWithSwapped_22 ⟨Nat.le_of_ble_eq_true rfl, Nat.le_of_ble_eq_true rfl⟩) hP hD hS hA [true, true] rfl rfl rfl (fun r9 w1 H locs hr9 hw9 hP hD hS => ?_)
  subst hr9
  subst hw9
  have hP : va_P D vwCl [(h0, .inr (7, [.int 2, .int 2, .int 3, .int 0, .ref h1, .ref h3, .ref h2, .ref h4, .ref h5])), (h1, .inl (Y 1, 96, .inl (jw_l 0 [0, 1, 0, 0, 1, 0]))), (h2, .inl (Y 1, 16, .inl (jw_l 0 [1, 2, 0, 0, 2, 1])))] H := hP
  have hD : va_D A [(h0, .inr (7, [.int 2, .int 2, .int 3, .int 0, .ref h1, .ref h3, .ref h2, .ref h4, .ref h5])), (h1, .inl (Y 1, 96, .inl (jw_l 0 [0, 1, 0, 0, 1, 0]))), (h2, .inl (Y 1, 16, .inl (jw_l 0 [1, 2, 0, 0, 2, 1])))] := hD
  refine lv_istore (lv' := [(6, .int 0), (5, .int 0), (4, .int 3), (0, .ref h0), (1, .int 0), (2, .int 0), (3, .int 1)]) hx hb dX4_rankWithSwapped_25 hl (by decide) rfl (fun ls hl => ?_)
  refine lv_iload hx hb dX4_rankWithSwapped_27 (lv_at hl 0 rfl) ?_
  refine lv_iload_n hx hb dX4_rankWithSwapped_29 rfl (lv_at hl 5 rfl) ?_
  refine lv_icmp_ne (tgt := 37) hx hb dX4_rankWithSwapped_30 (by decide) (fun c9 => absurd (by decide +kernel) c9) (fun _ => ?_)
  refine lv_iload_n hx hb dX4_rankWithSwapped_33 rfl (lv_at hl 6 rfl) ?_
  refine lv_goto (tgt := 49) hx hb dX4_rankWithSwapped_34 (by decide) ?_
  refine lv_istore (lv' := [(7, .int 1), (6, .int 0), (5, .int 0), (4, .int 3), (0, .ref h0), (1, .int 0), (2, .int 0), (3, .int 1)]) hx hb dX4_rankWithSwapped_49 hl (by decide) rfl (fun ls hl => ?_)
  refine lv_iload hx hb dX4_rankWithSwapped_51 (lv_at hl 3 rfl) ?_
  refine lv_aload_n hx hb dX4_rankWithSwapped_53 rfl (lv_at hl 4 rfl) ?_
  refine va_get (D := D) (ci := 7) (v := .ref h2) (C := RX4) (T := TX4) (N := 9) hx hb hts iw_X4_rankWithSwapped__X4 hown hE.1 hP 0 rfl rfl 6 (by decide) (hts _ mw_X4_rankWithSwapped__3) (fun _ h9 => h9) rfl dX4_rankWithSwapped_54 ?_
  refine lv_iload hx hb dX4_rankWithSwapped_57 (lv_at hl 2 rfl) ?_
  refine lv_iconst (v := 4) hx hb dX4_rankWithSwapped_59 (by decide +kernel) ?_
  refine jw_imul (v := 0) hx hb dX4_rankWithSwapped_60 (by decide +kernel) ?_
  refine lv_iload hx hb dX4_rankWithSwapped_61 (lv_at hl 0 rfl) ?_
  refine jw_iadd (v := 1) hx hb dX4_rankWithSwapped_63 (by decide +kernel) ?_
  refine jw_iald (v := 2) hx hb hE hP 2 1 rfl (by decide +kernel) (by decide +kernel) dX4_rankWithSwapped_64 ?_
  refine jw_iand (v := 2) hx hb dX4_rankWithSwapped_65 (by decide +kernel) ?_
  refine lv_istore (lv' := [(4, .int 2), (7, .int 1), (6, .int 0), (5, .int 0), (0, .ref h0), (1, .int 0), (2, .int 0), (3, .int 1)]) hx hb dX4_rankWithSwapped_66 hl (by decide) rfl (fun ls hl => ?_)
  refine lv_iinc (v := 1) (lv' := [(5, .int 1), (4, .int 2), (7, .int 1), (6, .int 0), (0, .ref h0), (1, .int 0), (2, .int 0), (3, .int 1)]) hx hb dX4_rankWithSwapped_68 hl (k := 3) rfl (by decide +kernel) (by decide) rfl (fun ls hl => ?_)
  refine lv_goto (tgt := 9) hx hb dX4_rankWithSwapped_71 (by decide) ?_
  refine lv_iload hx hb dX4_rankWithSwapped_9 (lv_at hl 0 rfl) ?_
  refine lv_aload_n hx hb dX4_rankWithSwapped_11 rfl (lv_at hl 4 rfl) ?_
  refine va_get (D := D) (ci := 7) (v := .int 2) (C := RX4) (T := TX4) (N := 9) hx hb hts iw_X4_rankWithSwapped__X4 hown hE.1 hP 0 rfl rfl 0 (by decide) (hts _ mw_X4_rankWithSwapped__2) (fun _ h9 => h9) rfl dX4_rankWithSwapped_12 ?_
  refine lv_icmp_ge (tgt := 74) hx hb dX4_rankWithSwapped_15 (by decide) (fun c9 => absurd c9 (by decide +kernel)) (fun _ => ?_)
  refine lv_aload_n hx hb dX4_rankWithSwapped_18 rfl (lv_at hl 4 rfl) ?_
  refine lv_iload_n hx hb dX4_rankWithSwapped_19 rfl (lv_at hl 5 rfl) ?_
  refine lv_iload hx hb dX4_rankWithSwapped_20 (lv_at hl 0 rfl) ?_
  refine jw_mi (wc := [(h0, .inr (7, [.int 2, .int 2, .int 3, .int 0, .ref h1, .ref h3, .ref h2, .ref h4, .ref h5])), (h1, .inl (Y 1, 96, .inl (jw_l 0 [0, 1, 0, 0, 1, 0])))]) (cs := 0) (ss := 0) (va_runV (As := [.int 0, .int 1]) (rest := []) ⟨hx, hb, hml, hown, hts⟩ (k30_X4_groupAt h0 h1 h3 h2 h4 h5 H.size) (cwV 2 hts gX4_rankWithSwapped_X4_groupAt rfl rfl rfl ydV_X4_groupAt ⟨Nat.le_of_ble_eq_true rfl, Nat.le_of_ble_eq_true rfl⟩) (jw_mpreV (ci := 7) (q0 := 0) hP hD hS hA hE [true, true] rfl rfl rfl) rfl rfl hl.1 rfl (lv_room (Nat.le_of_ble_eq_true rfl)) dX4_rankWithSwapped_22 ⟨Nat.le_of_ble_eq_true rfl, Nat.le_of_ble_eq_true rfl⟩) hP hD hS hA [true, true] rfl rfl rfl (fun r9 w1 H locs hr9 hw9 hP hD hS => ?_)
  subst hr9
  subst hw9
  have hP : va_P D vwCl [(h0, .inr (7, [.int 2, .int 2, .int 3, .int 0, .ref h1, .ref h3, .ref h2, .ref h4, .ref h5])), (h1, .inl (Y 1, 96, .inl (jw_l 0 [0, 1, 0, 0, 1, 0]))), (h2, .inl (Y 1, 16, .inl (jw_l 0 [1, 2, 0, 0, 2, 1])))] H := hP
  have hD : va_D A [(h0, .inr (7, [.int 2, .int 2, .int 3, .int 0, .ref h1, .ref h3, .ref h2, .ref h4, .ref h5])), (h1, .inl (Y 1, 96, .inl (jw_l 0 [0, 1, 0, 0, 1, 0]))), (h2, .inl (Y 1, 16, .inl (jw_l 0 [1, 2, 0, 0, 2, 1])))] := hD
  refine lv_istore (lv' := [(6, .int 1), (5, .int 1), (4, .int 2), (7, .int 1), (0, .ref h0), (1, .int 0), (2, .int 0), (3, .int 1)]) hx hb dX4_rankWithSwapped_25 hl (by decide) rfl (fun ls hl => ?_)
  refine lv_iload hx hb dX4_rankWithSwapped_27 (lv_at hl 0 rfl) ?_
  refine lv_iload_n hx hb dX4_rankWithSwapped_29 rfl (lv_at hl 6 rfl) ?_
  refine lv_icmp_ne (tgt := 37) hx hb dX4_rankWithSwapped_30 (by decide) (fun _ => ?_) (fun c9 => absurd c9 (by decide +kernel))
  refine lv_iload hx hb dX4_rankWithSwapped_37 (lv_at hl 0 rfl) ?_
  refine lv_iload_n hx hb dX4_rankWithSwapped_39 rfl (lv_at hl 7 rfl) ?_
  refine lv_icmp_ne (tgt := 47) hx hb dX4_rankWithSwapped_40 (by decide) (fun c9 => absurd (by decide +kernel) c9) (fun _ => ?_)
  refine lv_iload_n hx hb dX4_rankWithSwapped_43 rfl (lv_at hl 6 rfl) ?_
  refine lv_goto (tgt := 49) hx hb dX4_rankWithSwapped_44 (by decide) ?_
  refine lv_istore (lv' := [(7, .int 0), (6, .int 1), (5, .int 1), (4, .int 2), (0, .ref h0), (1, .int 0), (2, .int 0), (3, .int 1)]) hx hb dX4_rankWithSwapped_49 hl (by decide) rfl (fun ls hl => ?_)
  refine lv_iload hx hb dX4_rankWithSwapped_51 (lv_at hl 3 rfl) ?_
  refine lv_aload_n hx hb dX4_rankWithSwapped_53 rfl (lv_at hl 4 rfl) ?_
  refine va_get (D := D) (ci := 7) (v := .ref h2) (C := RX4) (T := TX4) (N := 9) hx hb hts iw_X4_rankWithSwapped__X4 hown hE.1 hP 0 rfl rfl 6 (by decide) (hts _ mw_X4_rankWithSwapped__3) (fun _ h9 => h9) rfl dX4_rankWithSwapped_54 ?_
  refine lv_iload hx hb dX4_rankWithSwapped_57 (lv_at hl 2 rfl) ?_
  refine lv_iconst (v := 4) hx hb dX4_rankWithSwapped_59 (by decide +kernel) ?_
  refine jw_imul (v := 4) hx hb dX4_rankWithSwapped_60 (by decide +kernel) ?_
  refine lv_iload hx hb dX4_rankWithSwapped_61 (lv_at hl 0 rfl) ?_
  refine jw_iadd (v := 4) hx hb dX4_rankWithSwapped_63 (by decide +kernel) ?_
  refine jw_iald (v := 2) hx hb hE hP 2 4 rfl (by decide +kernel) (by decide +kernel) dX4_rankWithSwapped_64 ?_
  refine jw_iand (v := 2) hx hb dX4_rankWithSwapped_65 (by decide +kernel) ?_
  refine lv_istore (lv' := [(4, .int 2), (7, .int 0), (6, .int 1), (5, .int 1), (0, .ref h0), (1, .int 0), (2, .int 0), (3, .int 1)]) hx hb dX4_rankWithSwapped_66 hl (by decide) rfl (fun ls hl => ?_)
  refine lv_iinc (v := 2) (lv' := [(5, .int 2), (4, .int 2), (7, .int 0), (6, .int 1), (0, .ref h0), (1, .int 0), (2, .int 0), (3, .int 1)]) hx hb dX4_rankWithSwapped_68 hl (k := 3) rfl (by decide +kernel) (by decide) rfl (fun ls hl => ?_)
  refine lv_goto (tgt := 9) hx hb dX4_rankWithSwapped_71 (by decide) ?_
  refine lv_iload hx hb dX4_rankWithSwapped_9 (lv_at hl 0 rfl) ?_
  refine lv_aload_n hx hb dX4_rankWithSwapped_11 rfl (lv_at hl 4 rfl) ?_
  refine va_get (D := D) (ci := 7) (v := .int 2) (C := RX4) (T := TX4) (N := 9) hx hb hts iw_X4_rankWithSwapped__X4 hown hE.1 hP 0 rfl rfl 0 (by decide) (hts _ mw_X4_rankWithSwapped__2) (fun _ h9 => h9) rfl dX4_rankWithSwapped_12 ?_
  refine lv_icmp_ge (tgt := 74) hx hb dX4_rankWithSwapped_15 (by decide) (fun _ => ?_) (fun c9 => absurd (by decide +kernel) c9)
  refine lv_iload hx hb dX4_rankWithSwapped_74 (lv_at hl 1 rfl) ?_
  refine jw_mi (wc := []) (cs := 0) (ss := 0) (va_runS (As := [.int 2]) (rest := []) ⟨hx, hb, hml, hown, hts⟩ (k32_X4_only H.size) (va_cwS 1 hts gX4_rankWithSwapped_X4_only rfl rfl rfl ydS_X4_only ⟨Nat.le_of_ble_eq_true rfl, Nat.le_of_ble_eq_true rfl⟩) (jw_mpreS hP hD hS hA hE [] rfl) rfl rfl hl.1 rfl (lv_room (Nat.le_of_ble_eq_true rfl)) dX4_rankWithSwapped_76 ⟨Nat.le_of_ble_eq_true rfl, Nat.le_of_ble_eq_true rfl⟩) hP hD hS hA [] rfl rfl rfl (fun r9 w1 H locs hr9 hw9 hP hD hS => ?_)
  subst hr9
  subst hw9
  have hP : va_P D vwCl [(h0, .inr (7, [.int 2, .int 2, .int 3, .int 0, .ref h1, .ref h3, .ref h2, .ref h4, .ref h5])), (h1, .inl (Y 1, 96, .inl (jw_l 0 [0, 1, 0, 0, 1, 0]))), (h2, .inl (Y 1, 16, .inl (jw_l 0 [1, 2, 0, 0, 2, 1])))] H := hP
  have hD : va_D A [(h0, .inr (7, [.int 2, .int 2, .int 3, .int 0, .ref h1, .ref h3, .ref h2, .ref h4, .ref h5])), (h1, .inl (Y 1, 96, .inl (jw_l 0 [0, 1, 0, 0, 1, 0]))), (h2, .inl (Y 1, 16, .inl (jw_l 0 [1, 2, 0, 0, 2, 1])))] := hD
  refine W.widen (k := 0) (n := 0) (Nat.le_of_ble_eq_true rfl) (Nat.le_of_ble_eq_true rfl) ?_
  exact jw_iret hx hb hr hlocks rfl rfl hP hD hS dX4_rankWithSwapped_79
set_option maxHeartbeats 4000000 in
set_option maxRecDepth 100000 in
theorem k34_X4_setSwaps {l : Launch} {D : va_G} {Y : Nat → ClassId} {tt : Nat → Nat} (h0 h1 h2 h3 h4 h5 : Nat) (sz : Nat) : Met l yX4_setSwaps wsX4_setSwaps ({ frames := 3, cells := 0, slots := 0, locals := 67 }) (jw_Pc D Y tt [.ref h0, .int 0] [(h0, .inr (7, [.int 2, .int 2, .int 3, .int 0, .ref h1, .ref h4, .ref h2, .ref h3, .ref h5])), (h1, .inl (Y 1, 96, .inl (jw_l 0 [0, 1, 0, 0, 1, 0]))), (h2, .inl (Y 1, 16, .inl (jw_l 0 [1, 2, 0, 0, 2, 1]))), (h3, .inl (Y 1, 144, .inl (jw_l 0 [])))] sz) (jw_Qv D (fun w => w = [(h0, .inr (7, [.int 2, .int 2, .int 3, .int 1, .ref h1, .ref h4, .ref h2, .ref h3, .ref h5])), (h1, .inl (Y 1, 96, .inl (jw_l 0 [0, 1, 0, 0, 1, 0]))), (h2, .inl (Y 1, 16, .inl (jw_l 0 [1, 2, 0, 0, 2, 1]))), (h3, .inl (Y 1, 144, .inl (jw_l 0 [1])))]) (va_A [(h0, .inr (7, [.int 2, .int 2, .int 3, .int 0, .ref h1, .ref h4, .ref h2, .ref h3, .ref h5])), (h1, .inl (Y 1, 96, .inl (jw_l 0 [0, 1, 0, 0, 1, 0]))), (h2, .inl (Y 1, 16, .inl (jw_l 0 [1, 2, 0, 0, 2, 1]))), (h3, .inl (Y 1, 144, .inl (jw_l 0 [])))] sz)) 0 0 (va_A [(h0, .inr (7, [.int 2, .int 2, .int 3, .int 0, .ref h1, .ref h4, .ref h2, .ref h3, .ref h5])), (h1, .inl (Y 1, 96, .inl (jw_l 0 [0, 1, 0, 0, 1, 0]))), (h2, .inl (Y 1, 16, .inl (jw_l 0 [1, 2, 0, 0, 2, 1]))), (h3, .inl (Y 1, 144, .inl (jw_l 0 [])))] sz) := by
  refine jw_met (fun A => jw_Qv D (fun w => w = [(h0, .inr (7, [.int 2, .int 2, .int 3, .int 1, .ref h1, .ref h4, .ref h2, .ref h3, .ref h5])), (h1, .inl (Y 1, 96, .inl (jw_l 0 [0, 1, 0, 0, 1, 0]))), (h2, .inl (Y 1, 16, .inl (jw_l 0 [1, 2, 0, 0, 2, 1]))), (h3, .inl (Y 1, 144, .inl (jw_l 0 [1])))]) A) (cc := cX4_setSwaps) (maxL := 5) (ret := none) pn_X4_setSwaps rfl rfl ?_
  intro p e s m below meth c A H locs ls hx hb hml hr hts hown hlocks hin hP hD hA hS hE hl
  have hown : s.vm.findClass RX4 = some m.cls := hown
  have hl : lv_has ls 5 [(0, .ref h0), (1, .int 0)] := hl
  refine lv_iconst (v := 0) hx hb dX4_setSwaps_0 (by decide +kernel) ?_
  refine lv_istore_n (lv' := [(2, .int 0), (0, .ref h0), (1, .int 0)]) hx hb dX4_setSwaps_1 rfl hl (by decide) rfl (fun ls hl => ?_)
  refine lv_iconst (v := 0) hx hb dX4_setSwaps_2 (by decide +kernel) ?_
  refine lv_istore_n (lv' := [(3, .int 0), (2, .int 0), (0, .ref h0), (1, .int 0)]) hx hb dX4_setSwaps_3 rfl hl (by decide) rfl (fun ls hl => ?_)
  refine lv_iload_n hx hb dX4_setSwaps_4 rfl (lv_at hl 0 rfl) ?_
  refine lv_aload_n hx hb dX4_setSwaps_5 rfl (lv_at hl 2 rfl) ?_
  refine va_get (D := D) (ci := 7) (v := .int 2) (C := RX4) (T := TX4) (N := 9) hx hb hts iw_X4_setSwaps__X4 hown hE.1 hP 0 rfl rfl 0 (by decide) (hts _ mw_X4_setSwaps__1) (fun _ h9 => h9) rfl dX4_setSwaps_6 ?_
  refine lv_icmp_ge (tgt := 60) hx hb dX4_setSwaps_9 (by decide) (fun c9 => absurd c9 (by decide +kernel)) (fun _ => ?_)
  refine lv_iload_n hx hb dX4_setSwaps_12 rfl (lv_at hl 0 rfl) ?_
  refine lv_iconst (v := 1) hx hb dX4_setSwaps_13 (by decide +kernel) ?_
  refine jw_iadd (v := 1) hx hb dX4_setSwaps_14 (by decide +kernel) ?_
  refine lv_istore (lv' := [(4, .int 1), (3, .int 0), (2, .int 0), (0, .ref h0), (1, .int 0)]) hx hb dX4_setSwaps_15 hl (by decide) rfl (fun ls hl => ?_)
  refine lv_iload hx hb dX4_setSwaps_17 (lv_at hl 0 rfl) ?_
  refine lv_aload_n hx hb dX4_setSwaps_19 rfl (lv_at hl 3 rfl) ?_
  refine va_get (D := D) (ci := 7) (v := .int 2) (C := RX4) (T := TX4) (N := 9) hx hb hts iw_X4_setSwaps__X4 hown hE.1 hP 0 rfl rfl 0 (by decide) (hts _ mw_X4_setSwaps__1) (fun _ h9 => h9) rfl dX4_setSwaps_20 ?_
  refine lv_icmp_ge (tgt := 54) hx hb dX4_setSwaps_23 (by decide) (fun c9 => absurd c9 (by decide +kernel)) (fun _ => ?_)
  refine lv_aload_n hx hb dX4_setSwaps_26 rfl (lv_at hl 3 rfl) ?_
  refine va_get (D := D) (ci := 7) (v := .ref h3) (C := RX4) (T := TX4) (N := 9) hx hb hts iw_X4_setSwaps__X4 hown hE.1 hP 0 rfl rfl 7 (by decide) (hts _ mw_X4_setSwaps__2) (fun _ h9 => h9) rfl dX4_setSwaps_27 ?_
  refine lv_iload_n hx hb dX4_setSwaps_30 rfl (lv_at hl 4 rfl) ?_
  refine lv_bipush (v := 6) hx hb dX4_setSwaps_31 (by decide +kernel) ?_
  refine jw_imul (v := 0) hx hb dX4_setSwaps_33 (by decide +kernel) ?_
  refine lv_iload_n hx hb dX4_setSwaps_34 rfl (lv_at hl 2 rfl) ?_
  refine jw_iadd (v := 0) hx hb dX4_setSwaps_35 (by decide +kernel) ?_
  refine lv_aload_n hx hb dX4_setSwaps_36 rfl (lv_at hl 3 rfl) ?_
  refine lv_iload_n hx hb dX4_setSwaps_37 rfl (lv_at hl 4 rfl) ?_
  refine lv_iload_n hx hb dX4_setSwaps_38 rfl (lv_at hl 1 rfl) ?_
  refine lv_iload hx hb dX4_setSwaps_39 (lv_at hl 0 rfl) ?_
  refine jw_mi (wc := [(h0, .inr (7, [.int 2, .int 2, .int 3, .int 0, .ref h1, .ref h4, .ref h2, .ref h3, .ref h5])), (h1, .inl (Y 1, 96, .inl (jw_l 0 [0, 1, 0, 0, 1, 0]))), (h2, .inl (Y 1, 16, .inl (jw_l 0 [1, 2, 0, 0, 2, 1])))]) (cs := 0) (ss := 0) (va_runV (As := [.int 0, .int 0, .int 1]) (rest := [.int 0, .ref h3]) ⟨hx, hb, hml, hown, hts⟩ (k33_X4_rankWithSwapped h0 h1 h2 h4 h3 h5 H.size) (cwV 3 hts gX4_setSwaps_X4_rankWithSwapped rfl rfl rfl ydV_X4_rankWithSwapped ⟨Nat.le_of_ble_eq_true rfl, Nat.le_of_ble_eq_true rfl⟩) (jw_mpreV (ci := 7) (q0 := 0) hP hD hS hA hE [true, true, true] rfl rfl rfl) rfl rfl hl.1 rfl (lv_room (Nat.le_of_ble_eq_true rfl)) dX4_setSwaps_41 ⟨Nat.le_of_ble_eq_true rfl, Nat.le_of_ble_eq_true rfl⟩) hP hD hS hA [true, true, true] rfl rfl rfl (fun r9 w1 H locs hr9 hw9 hP hD hS => ?_)
  subst hr9
  subst hw9
  have hP : va_P D vwCl [(h0, .inr (7, [.int 2, .int 2, .int 3, .int 0, .ref h1, .ref h4, .ref h2, .ref h3, .ref h5])), (h1, .inl (Y 1, 96, .inl (jw_l 0 [0, 1, 0, 0, 1, 0]))), (h2, .inl (Y 1, 16, .inl (jw_l 0 [1, 2, 0, 0, 2, 1]))), (h3, .inl (Y 1, 144, .inl (jw_l 0 [])))] H := hP
  have hD : va_D A [(h0, .inr (7, [.int 2, .int 2, .int 3, .int 0, .ref h1, .ref h4, .ref h2, .ref h3, .ref h5])), (h1, .inl (Y 1, 96, .inl (jw_l 0 [0, 1, 0, 0, 1, 0]))), (h2, .inl (Y 1, 16, .inl (jw_l 0 [1, 2, 0, 0, 2, 1]))), (h3, .inl (Y 1, 144, .inl (jw_l 0 [])))] := hD
  refine jw_iast (ws' := [(h0, .inr (7, [.int 2, .int 2, .int 3, .int 0, .ref h1, .ref h4, .ref h2, .ref h3, .ref h5])), (h1, .inl (Y 1, 96, .inl (jw_l 0 [0, 1, 0, 0, 1, 0]))), (h2, .inl (Y 1, 16, .inl (jw_l 0 [1, 2, 0, 0, 2, 1]))), (h3, .inl (Y 1, 144, .inl (jw_l 0 [1])))]) hx hb hE hP hD hS 3 0 [1] rfl (by decide +kernel) (by decide +kernel) rfl dX4_setSwaps_44 (fun H locs hP hD hS => ?_)
  refine lv_iinc (v := 1) (lv' := [(2, .int 1), (4, .int 1), (3, .int 0), (0, .ref h0), (1, .int 0)]) hx hb dX4_setSwaps_45 hl (k := 2) rfl (by decide +kernel) (by decide) rfl (fun ls hl => ?_)
  refine lv_iinc (v := 2) (lv' := [(4, .int 2), (2, .int 1), (3, .int 0), (0, .ref h0), (1, .int 0)]) hx hb dX4_setSwaps_48 hl (k := 1) rfl (by decide +kernel) (by decide) rfl (fun ls hl => ?_)
  refine lv_goto (tgt := 17) hx hb dX4_setSwaps_51 (by decide) ?_
  refine lv_iload hx hb dX4_setSwaps_17 (lv_at hl 0 rfl) ?_
  refine lv_aload_n hx hb dX4_setSwaps_19 rfl (lv_at hl 3 rfl) ?_
  refine va_get (D := D) (ci := 7) (v := .int 2) (C := RX4) (T := TX4) (N := 9) hx hb hts iw_X4_setSwaps__X4 hown hE.1 hP 0 rfl rfl 0 (by decide) (hts _ mw_X4_setSwaps__1) (fun _ h9 => h9) rfl dX4_setSwaps_20 ?_
  refine lv_icmp_ge (tgt := 54) hx hb dX4_setSwaps_23 (by decide) (fun _ => ?_) (fun c9 => absurd (by decide +kernel) c9)
  refine lv_iinc (v := 1) (lv' := [(3, .int 1), (4, .int 2), (2, .int 1), (0, .ref h0), (1, .int 0)]) hx hb dX4_setSwaps_54 hl (k := 2) rfl (by decide +kernel) (by decide) rfl (fun ls hl => ?_)
  refine lv_goto (tgt := 4) hx hb dX4_setSwaps_57 (by decide) ?_
  refine lv_iload_n hx hb dX4_setSwaps_4 rfl (lv_at hl 0 rfl) ?_
  refine lv_aload_n hx hb dX4_setSwaps_5 rfl (lv_at hl 3 rfl) ?_
  refine va_get (D := D) (ci := 7) (v := .int 2) (C := RX4) (T := TX4) (N := 9) hx hb hts iw_X4_setSwaps__X4 hown hE.1 hP 0 rfl rfl 0 (by decide) (hts _ mw_X4_setSwaps__1) (fun _ h9 => h9) rfl dX4_setSwaps_6 ?_
  refine lv_icmp_ge (tgt := 60) hx hb dX4_setSwaps_9 (by decide) (fun c9 => absurd c9 (by decide +kernel)) (fun _ => ?_)
  refine lv_iload_n hx hb dX4_setSwaps_12 rfl (lv_at hl 0 rfl) ?_
  refine lv_iconst (v := 1) hx hb dX4_setSwaps_13 (by decide +kernel) ?_
  refine jw_iadd (v := 2) hx hb dX4_setSwaps_14 (by decide +kernel) ?_
  refine lv_istore (lv' := [(4, .int 2), (3, .int 1), (2, .int 1), (0, .ref h0), (1, .int 0)]) hx hb dX4_setSwaps_15 hl (by decide) rfl (fun ls hl => ?_)
  refine lv_iload hx hb dX4_setSwaps_17 (lv_at hl 0 rfl) ?_
  refine lv_aload_n hx hb dX4_setSwaps_19 rfl (lv_at hl 3 rfl) ?_
  refine va_get (D := D) (ci := 7) (v := .int 2) (C := RX4) (T := TX4) (N := 9) hx hb hts iw_X4_setSwaps__X4 hown hE.1 hP 0 rfl rfl 0 (by decide) (hts _ mw_X4_setSwaps__1) (fun _ h9 => h9) rfl dX4_setSwaps_20 ?_
  refine lv_icmp_ge (tgt := 54) hx hb dX4_setSwaps_23 (by decide) (fun _ => ?_) (fun c9 => absurd (by decide +kernel) c9)
  refine lv_iinc (v := 2) (lv' := [(3, .int 2), (4, .int 2), (2, .int 1), (0, .ref h0), (1, .int 0)]) hx hb dX4_setSwaps_54 hl (k := 1) rfl (by decide +kernel) (by decide) rfl (fun ls hl => ?_)
  refine lv_goto (tgt := 4) hx hb dX4_setSwaps_57 (by decide) ?_
  refine lv_iload_n hx hb dX4_setSwaps_4 rfl (lv_at hl 0 rfl) ?_
  refine lv_aload_n hx hb dX4_setSwaps_5 rfl (lv_at hl 3 rfl) ?_
  refine va_get (D := D) (ci := 7) (v := .int 2) (C := RX4) (T := TX4) (N := 9) hx hb hts iw_X4_setSwaps__X4 hown hE.1 hP 0 rfl rfl 0 (by decide) (hts _ mw_X4_setSwaps__1) (fun _ h9 => h9) rfl dX4_setSwaps_6 ?_
  refine lv_icmp_ge (tgt := 60) hx hb dX4_setSwaps_9 (by decide) (fun _ => ?_) (fun c9 => absurd (by decide +kernel) c9)
  refine lv_aload_n hx hb dX4_setSwaps_60 rfl (lv_at hl 3 rfl) ?_
  refine lv_iload_n hx hb dX4_setSwaps_61 rfl (lv_at hl 2 rfl) ?_
  refine va_put (D := D) (ci := 7) (v := .int 1) (C := RX4) (T := TX4) (N := 9) hx hb hts iw_X4_setSwaps__X4 tyX4 tyX4_ok nmX4 hown hE.1 hP hD hS 0 rfl rfl 3 (by decide) (hts _ mw_X4_setSwaps__3) (fun _ h9 => h9) rfl (tyX4_ok 3 (by decide)) rfl rfl (Nat.le_of_ble_eq_true rfl) dX4_setSwaps_62 (fun H locs hP hD hS => ?_)
  have hP : va_P D vwCl [(h0, .inr (7, [.int 2, .int 2, .int 3, .int 1, .ref h1, .ref h4, .ref h2, .ref h3, .ref h5])), (h1, .inl (Y 1, 96, .inl (jw_l 0 [0, 1, 0, 0, 1, 0]))), (h2, .inl (Y 1, 16, .inl (jw_l 0 [1, 2, 0, 0, 2, 1]))), (h3, .inl (Y 1, 144, .inl (jw_l 0 [1])))] H := hP
  have hD : va_D A [(h0, .inr (7, [.int 2, .int 2, .int 3, .int 1, .ref h1, .ref h4, .ref h2, .ref h3, .ref h5])), (h1, .inl (Y 1, 96, .inl (jw_l 0 [0, 1, 0, 0, 1, 0]))), (h2, .inl (Y 1, 16, .inl (jw_l 0 [1, 2, 0, 0, 2, 1]))), (h3, .inl (Y 1, 144, .inl (jw_l 0 [1])))] := hD
  refine W.widen (k := 0) (n := 0) (Nat.le_of_ble_eq_true rfl) (Nat.le_of_ble_eq_true rfl) ?_
  exact jw_vret hx hb hr hlocks rfl hP hD hS dX4_setSwaps_65
set_option maxHeartbeats 4000000 in
set_option maxRecDepth 100000 in
theorem k35_X4_groupAt {l : Launch} {D : va_G} {Y : Nat → ClassId} {tt : Nat → Nat} (h0 h1 h2 h3 h4 h5 : Nat) (sz : Nat) : Met l yX4_groupAt wsX4_groupAt ({ frames := 0, cells := 0, slots := 0, locals := 0 }) (jw_Pc D Y tt [.ref h0, .int 1, .int 0] [(h0, .inr (7, [.int 2, .int 2, .int 3, .int 1, .ref h1, .ref h2, .ref h3, .ref h4, .ref h5])), (h1, .inl (Y 1, 96, .inl (jw_l 0 [0, 1, 0, 0, 1, 0])))] sz) (jw_Qi D (fun r => r = 1) (fun w => w = [(h0, .inr (7, [.int 2, .int 2, .int 3, .int 1, .ref h1, .ref h2, .ref h3, .ref h4, .ref h5])), (h1, .inl (Y 1, 96, .inl (jw_l 0 [0, 1, 0, 0, 1, 0])))]) (va_A [(h0, .inr (7, [.int 2, .int 2, .int 3, .int 1, .ref h1, .ref h2, .ref h3, .ref h4, .ref h5])), (h1, .inl (Y 1, 96, .inl (jw_l 0 [0, 1, 0, 0, 1, 0])))] sz)) 0 0 (va_A [(h0, .inr (7, [.int 2, .int 2, .int 3, .int 1, .ref h1, .ref h2, .ref h3, .ref h4, .ref h5])), (h1, .inl (Y 1, 96, .inl (jw_l 0 [0, 1, 0, 0, 1, 0])))] sz) := by
  refine jw_met (fun A => jw_Qi D (fun r => r = 1) (fun w => w = [(h0, .inr (7, [.int 2, .int 2, .int 3, .int 1, .ref h1, .ref h2, .ref h3, .ref h4, .ref h5])), (h1, .inl (Y 1, 96, .inl (jw_l 0 [0, 1, 0, 0, 1, 0])))]) A) (cc := cX4_groupAt) (maxL := 3) (ret := (some .int)) pn_X4_groupAt rfl rfl ?_
  intro p e s m below meth c A H locs ls hx hb hml hr hts hown hlocks hin hP hD hA hS hE hl
  have hown : s.vm.findClass RX4 = some m.cls := hown
  have hl : lv_has ls 3 [(0, .ref h0), (1, .int 1), (2, .int 0)] := hl
  refine lv_aload_n hx hb dX4_groupAt_0 rfl (lv_at hl 0 rfl) ?_
  refine va_get (D := D) (ci := 7) (v := .ref h1) (C := RX4) (T := TX4) (N := 9) hx hb hts iw_X4_groupAt__X4 hown hE.1 hP 0 rfl rfl 4 (by decide) (hts _ mw_X4_groupAt__1) (fun _ h9 => h9) rfl dX4_groupAt_1 ?_
  refine lv_iload_n hx hb dX4_groupAt_4 rfl (lv_at hl 1 rfl) ?_
  refine lv_iconst (v := 4) hx hb dX4_groupAt_5 (by decide +kernel) ?_
  refine jw_imul (v := 4) hx hb dX4_groupAt_6 (by decide +kernel) ?_
  refine lv_iload_n hx hb dX4_groupAt_7 rfl (lv_at hl 2 rfl) ?_
  refine jw_iadd (v := 4) hx hb dX4_groupAt_8 (by decide +kernel) ?_
  refine jw_iald (v := 1) hx hb hE hP 1 4 rfl (by decide +kernel) (by decide +kernel) dX4_groupAt_9 ?_
  refine W.widen (k := 0) (n := 0) (Nat.le_of_ble_eq_true rfl) (Nat.le_of_ble_eq_true rfl) ?_
  exact jw_iret hx hb hr hlocks rfl rfl hP hD hS dX4_groupAt_10
set_option maxHeartbeats 4000000 in
set_option maxRecDepth 100000 in
theorem k36_X4_groupAt {l : Launch} {D : va_G} {Y : Nat → ClassId} {tt : Nat → Nat} (h0 h1 h2 h3 h4 h5 : Nat) (sz : Nat) : Met l yX4_groupAt wsX4_groupAt ({ frames := 0, cells := 0, slots := 0, locals := 0 }) (jw_Pc D Y tt [.ref h0, .int 1, .int 1] [(h0, .inr (7, [.int 2, .int 2, .int 3, .int 1, .ref h1, .ref h2, .ref h3, .ref h4, .ref h5])), (h1, .inl (Y 1, 96, .inl (jw_l 0 [0, 1, 0, 0, 1, 0])))] sz) (jw_Qi D (fun r => r = 0) (fun w => w = [(h0, .inr (7, [.int 2, .int 2, .int 3, .int 1, .ref h1, .ref h2, .ref h3, .ref h4, .ref h5])), (h1, .inl (Y 1, 96, .inl (jw_l 0 [0, 1, 0, 0, 1, 0])))]) (va_A [(h0, .inr (7, [.int 2, .int 2, .int 3, .int 1, .ref h1, .ref h2, .ref h3, .ref h4, .ref h5])), (h1, .inl (Y 1, 96, .inl (jw_l 0 [0, 1, 0, 0, 1, 0])))] sz)) 0 0 (va_A [(h0, .inr (7, [.int 2, .int 2, .int 3, .int 1, .ref h1, .ref h2, .ref h3, .ref h4, .ref h5])), (h1, .inl (Y 1, 96, .inl (jw_l 0 [0, 1, 0, 0, 1, 0])))] sz) := by
  refine jw_met (fun A => jw_Qi D (fun r => r = 0) (fun w => w = [(h0, .inr (7, [.int 2, .int 2, .int 3, .int 1, .ref h1, .ref h2, .ref h3, .ref h4, .ref h5])), (h1, .inl (Y 1, 96, .inl (jw_l 0 [0, 1, 0, 0, 1, 0])))]) A) (cc := cX4_groupAt) (maxL := 3) (ret := (some .int)) pn_X4_groupAt rfl rfl ?_
  intro p e s m below meth c A H locs ls hx hb hml hr hts hown hlocks hin hP hD hA hS hE hl
  have hown : s.vm.findClass RX4 = some m.cls := hown
  have hl : lv_has ls 3 [(0, .ref h0), (1, .int 1), (2, .int 1)] := hl
  refine lv_aload_n hx hb dX4_groupAt_0 rfl (lv_at hl 0 rfl) ?_
  refine va_get (D := D) (ci := 7) (v := .ref h1) (C := RX4) (T := TX4) (N := 9) hx hb hts iw_X4_groupAt__X4 hown hE.1 hP 0 rfl rfl 4 (by decide) (hts _ mw_X4_groupAt__1) (fun _ h9 => h9) rfl dX4_groupAt_1 ?_
  refine lv_iload_n hx hb dX4_groupAt_4 rfl (lv_at hl 1 rfl) ?_
  refine lv_iconst (v := 4) hx hb dX4_groupAt_5 (by decide +kernel) ?_
  refine jw_imul (v := 4) hx hb dX4_groupAt_6 (by decide +kernel) ?_
  refine lv_iload_n hx hb dX4_groupAt_7 rfl (lv_at hl 2 rfl) ?_
  refine jw_iadd (v := 5) hx hb dX4_groupAt_8 (by decide +kernel) ?_
  refine jw_iald (v := 0) hx hb hE hP 1 5 rfl (by decide +kernel) (by decide +kernel) dX4_groupAt_9 ?_
  refine W.widen (k := 0) (n := 0) (Nat.le_of_ble_eq_true rfl) (Nat.le_of_ble_eq_true rfl) ?_
  exact jw_iret hx hb hr hlocks rfl rfl hP hD hS dX4_groupAt_10
set_option maxHeartbeats 4000000 in
set_option maxRecDepth 100000 in
theorem k37_J6_bitCount_0f7a4 {l : Launch} {D : va_G} {Y : Nat → ClassId} {tt : Nat → Nat} (sz : Nat) : Met l yJ6_bitCount_0f7a4 wsJ6_bitCount_0f7a4 ({ frames := 0, cells := 0, slots := 0, locals := 0 }) (jw_Pc D Y tt [.int 0] [] sz) (jw_Qi D (fun r => r = 0) (fun w => w = []) (va_A [] sz)) 0 0 (va_A [] sz) := by
  refine jw_met (fun A => jw_Qi D (fun r => r = 0) (fun w => w = []) A) (cc := cJ6_bitCount_0f7a4) (maxL := 1) (ret := (some .int)) pn_J6_bitCount_0f7a4 rfl rfl ?_
  intro p e s m below meth c A H locs ls hx hb hml hr hts hown hlocks hin hP hD hA hS hE hl
  have hown : s.vm.findClass RJ6 = some m.cls := hown
  have hl : lv_has ls 1 [(0, .int 0)] := hl
  refine lv_iload_n hx hb dJ6_bitCount_0f7a4_0 rfl (lv_at hl 0 rfl) ?_
  refine lv_iload_n hx hb dJ6_bitCount_0f7a4_1 rfl (lv_at hl 0 rfl) ?_
  refine lv_iconst (v := 1) hx hb dJ6_bitCount_0f7a4_2 (by decide +kernel) ?_
  refine lv_iushr (v := 0) hx hb dJ6_bitCount_0f7a4_3 (by decide +kernel) ?_
  refine lv_ldcw (v := 1431655765) hx hb hown (hts _ mw_J6_bitCount_0f7a4__1) dJ6_bitCount_0f7a4_4 ?_
  refine jw_iand (v := 0) hx hb dJ6_bitCount_0f7a4_7 (by decide +kernel) ?_
  refine jw_isub (v := 0) hx hb dJ6_bitCount_0f7a4_8 (by decide +kernel) ?_
  refine lv_istore_n (lv' := [(0, .int 0)]) hx hb dJ6_bitCount_0f7a4_9 rfl hl (by decide) rfl (fun ls hl => ?_)
  refine lv_iload_n hx hb dJ6_bitCount_0f7a4_10 rfl (lv_at hl 0 rfl) ?_
  refine lv_ldcw (v := 858993459) hx hb hown (hts _ mw_J6_bitCount_0f7a4__2) dJ6_bitCount_0f7a4_11 ?_
  refine jw_iand (v := 0) hx hb dJ6_bitCount_0f7a4_14 (by decide +kernel) ?_
  refine lv_iload_n hx hb dJ6_bitCount_0f7a4_15 rfl (lv_at hl 0 rfl) ?_
  refine lv_iconst (v := 2) hx hb dJ6_bitCount_0f7a4_16 (by decide +kernel) ?_
  refine lv_iushr (v := 0) hx hb dJ6_bitCount_0f7a4_17 (by decide +kernel) ?_
  refine lv_ldcw (v := 858993459) hx hb hown (hts _ mw_J6_bitCount_0f7a4__2) dJ6_bitCount_0f7a4_18 ?_
  refine jw_iand (v := 0) hx hb dJ6_bitCount_0f7a4_21 (by decide +kernel) ?_
  refine jw_iadd (v := 0) hx hb dJ6_bitCount_0f7a4_22 (by decide +kernel) ?_
  refine lv_istore_n (lv' := [(0, .int 0)]) hx hb dJ6_bitCount_0f7a4_23 rfl hl (by decide) rfl (fun ls hl => ?_)
  refine lv_iload_n hx hb dJ6_bitCount_0f7a4_24 rfl (lv_at hl 0 rfl) ?_
  refine lv_iload_n hx hb dJ6_bitCount_0f7a4_25 rfl (lv_at hl 0 rfl) ?_
  refine lv_iconst (v := 4) hx hb dJ6_bitCount_0f7a4_26 (by decide +kernel) ?_
  refine lv_iushr (v := 0) hx hb dJ6_bitCount_0f7a4_27 (by decide +kernel) ?_
  refine jw_iadd (v := 0) hx hb dJ6_bitCount_0f7a4_28 (by decide +kernel) ?_
  refine lv_ldcw (v := 252645135) hx hb hown (hts _ mw_J6_bitCount_0f7a4__3) dJ6_bitCount_0f7a4_29 ?_
  refine jw_iand (v := 0) hx hb dJ6_bitCount_0f7a4_32 (by decide +kernel) ?_
  refine lv_istore_n (lv' := [(0, .int 0)]) hx hb dJ6_bitCount_0f7a4_33 rfl hl (by decide) rfl (fun ls hl => ?_)
  refine lv_iload_n hx hb dJ6_bitCount_0f7a4_34 rfl (lv_at hl 0 rfl) ?_
  refine lv_iload_n hx hb dJ6_bitCount_0f7a4_35 rfl (lv_at hl 0 rfl) ?_
  refine lv_bipush (v := 8) hx hb dJ6_bitCount_0f7a4_36 (by decide +kernel) ?_
  refine lv_iushr (v := 0) hx hb dJ6_bitCount_0f7a4_38 (by decide +kernel) ?_
  refine jw_iadd (v := 0) hx hb dJ6_bitCount_0f7a4_39 (by decide +kernel) ?_
  refine lv_istore_n (lv' := [(0, .int 0)]) hx hb dJ6_bitCount_0f7a4_40 rfl hl (by decide) rfl (fun ls hl => ?_)
  refine lv_iload_n hx hb dJ6_bitCount_0f7a4_41 rfl (lv_at hl 0 rfl) ?_
  refine lv_iload_n hx hb dJ6_bitCount_0f7a4_42 rfl (lv_at hl 0 rfl) ?_
  refine lv_bipush (v := 16) hx hb dJ6_bitCount_0f7a4_43 (by decide +kernel) ?_
  refine lv_iushr (v := 0) hx hb dJ6_bitCount_0f7a4_45 (by decide +kernel) ?_
  refine jw_iadd (v := 0) hx hb dJ6_bitCount_0f7a4_46 (by decide +kernel) ?_
  refine lv_istore_n (lv' := [(0, .int 0)]) hx hb dJ6_bitCount_0f7a4_47 rfl hl (by decide) rfl (fun ls hl => ?_)
  refine lv_iload_n hx hb dJ6_bitCount_0f7a4_48 rfl (lv_at hl 0 rfl) ?_
  refine lv_bipush (v := 63) hx hb dJ6_bitCount_0f7a4_49 (by decide +kernel) ?_
  refine jw_iand (v := 0) hx hb dJ6_bitCount_0f7a4_51 (by decide +kernel) ?_
  refine W.widen (k := 0) (n := 0) (Nat.le_of_ble_eq_true rfl) (Nat.le_of_ble_eq_true rfl) ?_
  exact jw_iret hx hb hr hlocks rfl rfl hP hD hS dJ6_bitCount_0f7a4_52
set_option maxHeartbeats 4000000 in
set_option maxRecDepth 100000 in
theorem k38_X4_only {l : Launch} {D : va_G} {Y : Nat → ClassId} {tt : Nat → Nat} (sz : Nat) : Met l yX4_only wsX4_only ({ frames := 1, cells := 0, slots := 0, locals := 20 }) (jw_Pc D Y tt [.int 1] [] sz) (jw_Qi D (fun r => r = 0) (fun w => w = []) (va_A [] sz)) 0 0 (va_A [] sz) := by
  refine jw_met (fun A => jw_Qi D (fun r => r = 0) (fun w => w = []) A) (cc := cX4_only) (maxL := 1) (ret := (some .int)) pn_X4_only rfl rfl ?_
  intro p e s m below meth c A H locs ls hx hb hml hr hts hown hlocks hin hP hD hA hS hE hl
  have hown : s.vm.findClass RX4 = some m.cls := hown
  have hl : lv_has ls 1 [(0, .int 1)] := hl
  refine lv_iload_n hx hb dX4_only_0 rfl (lv_at hl 0 rfl) ?_
  refine lv_if_ne (tgt := 8) hx hb dX4_only_1 (by decide) (fun _ => ?_) (fun c9 => absurd c9 (by decide +kernel))
  refine lv_iload_n hx hb dX4_only_8 rfl (lv_at hl 0 rfl) ?_
  refine lv_iload_n hx hb dX4_only_9 rfl (lv_at hl 0 rfl) ?_
  refine jw_ineg (v := (-1)) hx hb dX4_only_10 (by decide +kernel) ?_
  refine jw_iand (v := 1) hx hb dX4_only_11 (by decide +kernel) ?_
  refine lv_iconst (v := 1) hx hb dX4_only_12 (by decide +kernel) ?_
  refine jw_isub (v := 0) hx hb dX4_only_13 (by decide +kernel) ?_
  refine jw_mi (wc := []) (cs := 0) (ss := 0) (va_runS (As := [.int 0]) (rest := []) ⟨hx, hb, hml, hown, hts⟩ (k37_J6_bitCount_0f7a4 H.size) (va_cwS 1 hts gX4_only_J6_bitCount_0f7a4 rfl rfl rfl ydS_J6_bitCount_0f7a4 ⟨Nat.le_of_ble_eq_true rfl, Nat.le_of_ble_eq_true rfl⟩) (jw_mpreS hP hD hS hA hE [] rfl) rfl rfl hl.1 rfl (lv_room (Nat.le_of_ble_eq_true rfl)) dX4_only_14 ⟨Nat.le_of_ble_eq_true rfl, Nat.le_of_ble_eq_true rfl⟩) hP hD hS hA [] rfl rfl rfl (fun r9 w1 H locs hr9 hw9 hP hD hS => ?_)
  subst hr9
  subst hw9
  have hP : va_P D vwCl [] H := hP
  have hD : va_D A [] := hD
  refine W.widen (k := 0) (n := 0) (Nat.le_of_ble_eq_true rfl) (Nat.le_of_ble_eq_true rfl) ?_
  exact jw_iret hx hb hr hlocks rfl rfl hP hD hS dX4_only_17
set_option maxHeartbeats 4000000 in
set_option maxRecDepth 100000 in
theorem k39_X4_rankWithSwapped {l : Launch} {D : va_G} {Y : Nat → ClassId} {tt : Nat → Nat} (h0 h1 h2 h3 h4 h5 : Nat) (sz : Nat) : Met l yX4_rankWithSwapped wsX4_rankWithSwapped ({ frames := 2, cells := 0, slots := 0, locals := 40 }) (jw_Pc D Y tt [.ref h0, .int 1, .int 0, .int 1] [(h0, .inr (7, [.int 2, .int 2, .int 3, .int 1, .ref h1, .ref h3, .ref h2, .ref h4, .ref h5])), (h1, .inl (Y 1, 96, .inl (jw_l 0 [0, 1, 0, 0, 1, 0]))), (h2, .inl (Y 1, 16, .inl (jw_l 0 [1, 2, 0, 0, 2, 1])))] sz) (jw_Qi D (fun r => r = 0) (fun w => w = [(h0, .inr (7, [.int 2, .int 2, .int 3, .int 1, .ref h1, .ref h3, .ref h2, .ref h4, .ref h5])), (h1, .inl (Y 1, 96, .inl (jw_l 0 [0, 1, 0, 0, 1, 0]))), (h2, .inl (Y 1, 16, .inl (jw_l 0 [1, 2, 0, 0, 2, 1])))]) (va_A [(h0, .inr (7, [.int 2, .int 2, .int 3, .int 1, .ref h1, .ref h3, .ref h2, .ref h4, .ref h5])), (h1, .inl (Y 1, 96, .inl (jw_l 0 [0, 1, 0, 0, 1, 0]))), (h2, .inl (Y 1, 16, .inl (jw_l 0 [1, 2, 0, 0, 2, 1])))] sz)) 0 0 (va_A [(h0, .inr (7, [.int 2, .int 2, .int 3, .int 1, .ref h1, .ref h3, .ref h2, .ref h4, .ref h5])), (h1, .inl (Y 1, 96, .inl (jw_l 0 [0, 1, 0, 0, 1, 0]))), (h2, .inl (Y 1, 16, .inl (jw_l 0 [1, 2, 0, 0, 2, 1])))] sz) := by
  refine jw_met (fun A => jw_Qi D (fun r => r = 0) (fun w => w = [(h0, .inr (7, [.int 2, .int 2, .int 3, .int 1, .ref h1, .ref h3, .ref h2, .ref h4, .ref h5])), (h1, .inl (Y 1, 96, .inl (jw_l 0 [0, 1, 0, 0, 1, 0]))), (h2, .inl (Y 1, 16, .inl (jw_l 0 [1, 2, 0, 0, 2, 1])))]) A) (cc := cX4_rankWithSwapped) (maxL := 8) (ret := (some .int)) pn_X4_rankWithSwapped rfl rfl ?_
  intro p e s m below meth c A H locs ls hx hb hml hr hts hown hlocks hin hP hD hA hS hE hl
  have hown : s.vm.findClass RX4 = some m.cls := hown
  have hl : lv_has ls 8 [(0, .ref h0), (1, .int 1), (2, .int 0), (3, .int 1)] := hl
  refine lv_aload_n hx hb dX4_rankWithSwapped_0 rfl (lv_at hl 0 rfl) ?_
  refine va_get (D := D) (ci := 7) (v := .int 3) (C := RX4) (T := TX4) (N := 9) hx hb hts iw_X4_rankWithSwapped__X4 hown hE.1 hP 0 rfl rfl 2 (by decide) (hts _ mw_X4_rankWithSwapped__1) (fun _ h9 => h9) rfl dX4_rankWithSwapped_1 ?_
  refine lv_istore (lv' := [(4, .int 3), (0, .ref h0), (1, .int 1), (2, .int 0), (3, .int 1)]) hx hb dX4_rankWithSwapped_4 hl (by decide) rfl (fun ls hl => ?_)
  refine lv_iconst (v := 0) hx hb dX4_rankWithSwapped_6 (by decide +kernel) ?_
  refine lv_istore (lv' := [(5, .int 0), (4, .int 3), (0, .ref h0), (1, .int 1), (2, .int 0), (3, .int 1)]) hx hb dX4_rankWithSwapped_7 hl (by decide) rfl (fun ls hl => ?_)
  refine lv_iload hx hb dX4_rankWithSwapped_9 (lv_at hl 0 rfl) ?_
  refine lv_aload_n hx hb dX4_rankWithSwapped_11 rfl (lv_at hl 2 rfl) ?_
  refine va_get (D := D) (ci := 7) (v := .int 2) (C := RX4) (T := TX4) (N := 9) hx hb hts iw_X4_rankWithSwapped__X4 hown hE.1 hP 0 rfl rfl 0 (by decide) (hts _ mw_X4_rankWithSwapped__2) (fun _ h9 => h9) rfl dX4_rankWithSwapped_12 ?_
  refine lv_icmp_ge (tgt := 74) hx hb dX4_rankWithSwapped_15 (by decide) (fun c9 => absurd c9 (by decide +kernel)) (fun _ => ?_)
  refine lv_aload_n hx hb dX4_rankWithSwapped_18 rfl (lv_at hl 2 rfl) ?_
  refine lv_iload_n hx hb dX4_rankWithSwapped_19 rfl (lv_at hl 3 rfl) ?_
  refine lv_iload hx hb dX4_rankWithSwapped_20 (lv_at hl 0 rfl) ?_
  refine jw_mi (wc := [(h0, .inr (7, [.int 2, .int 2, .int 3, .int 1, .ref h1, .ref h3, .ref h2, .ref h4, .ref h5])), (h1, .inl (Y 1, 96, .inl (jw_l 0 [0, 1, 0, 0, 1, 0])))]) (cs := 0) (ss := 0) (va_runV (As := [.int 1, .int 0]) (rest := []) ⟨hx, hb, hml, hown, hts⟩ (k35_X4_groupAt h0 h1 h3 h2 h4 h5 H.size) (cwV 2 hts gX4_rankWithSwapped_X4_groupAt rfl rfl rfl ydV_X4_groupAt ⟨Nat.le_of_ble_eq_true rfl, Nat.le_of_ble_eq_true rfl⟩) (jw_mpreV (ci := 7) (q0 := 0) hP hD hS hA hE [true, true] rfl rfl rfl) rfl rfl hl.1 rfl (lv_room (Nat.le_of_ble_eq_true rfl)) dX4_rankWithSwapped_22 ⟨Nat.le_of_ble_eq_true rfl, Nat.le_of_ble_eq_true rfl⟩) hP hD hS hA [true, true] rfl rfl rfl (fun r9 w1 H locs hr9 hw9 hP hD hS => ?_)
  subst hr9
  subst hw9
  have hP : va_P D vwCl [(h0, .inr (7, [.int 2, .int 2, .int 3, .int 1, .ref h1, .ref h3, .ref h2, .ref h4, .ref h5])), (h1, .inl (Y 1, 96, .inl (jw_l 0 [0, 1, 0, 0, 1, 0]))), (h2, .inl (Y 1, 16, .inl (jw_l 0 [1, 2, 0, 0, 2, 1])))] H := hP
  have hD : va_D A [(h0, .inr (7, [.int 2, .int 2, .int 3, .int 1, .ref h1, .ref h3, .ref h2, .ref h4, .ref h5])), (h1, .inl (Y 1, 96, .inl (jw_l 0 [0, 1, 0, 0, 1, 0]))), (h2, .inl (Y 1, 16, .inl (jw_l 0 [1, 2, 0, 0, 2, 1])))] := hD
  refine lv_istore (lv' := [(6, .int 1), (5, .int 0), (4, .int 3), (0, .ref h0), (1, .int 1), (2, .int 0), (3, .int 1)]) hx hb dX4_rankWithSwapped_25 hl (by decide) rfl (fun ls hl => ?_)
  refine lv_iload hx hb dX4_rankWithSwapped_27 (lv_at hl 0 rfl) ?_
  refine lv_iload_n hx hb dX4_rankWithSwapped_29 rfl (lv_at hl 5 rfl) ?_
  refine lv_icmp_ne (tgt := 37) hx hb dX4_rankWithSwapped_30 (by decide) (fun _ => ?_) (fun c9 => absurd c9 (by decide +kernel))
  refine lv_iload hx hb dX4_rankWithSwapped_37 (lv_at hl 0 rfl) ?_
  refine lv_iload_n hx hb dX4_rankWithSwapped_39 rfl (lv_at hl 6 rfl) ?_
  refine lv_icmp_ne (tgt := 47) hx hb dX4_rankWithSwapped_40 (by decide) (fun c9 => absurd (by decide +kernel) c9) (fun _ => ?_)
  refine lv_iload_n hx hb dX4_rankWithSwapped_43 rfl (lv_at hl 5 rfl) ?_
  refine lv_goto (tgt := 49) hx hb dX4_rankWithSwapped_44 (by decide) ?_
  refine lv_istore (lv' := [(7, .int 0), (6, .int 1), (5, .int 0), (4, .int 3), (0, .ref h0), (1, .int 1), (2, .int 0), (3, .int 1)]) hx hb dX4_rankWithSwapped_49 hl (by decide) rfl (fun ls hl => ?_)
  refine lv_iload hx hb dX4_rankWithSwapped_51 (lv_at hl 3 rfl) ?_
  refine lv_aload_n hx hb dX4_rankWithSwapped_53 rfl (lv_at hl 4 rfl) ?_
  refine va_get (D := D) (ci := 7) (v := .ref h2) (C := RX4) (T := TX4) (N := 9) hx hb hts iw_X4_rankWithSwapped__X4 hown hE.1 hP 0 rfl rfl 6 (by decide) (hts _ mw_X4_rankWithSwapped__3) (fun _ h9 => h9) rfl dX4_rankWithSwapped_54 ?_
  refine lv_iload hx hb dX4_rankWithSwapped_57 (lv_at hl 2 rfl) ?_
  refine lv_iconst (v := 4) hx hb dX4_rankWithSwapped_59 (by decide +kernel) ?_
  refine jw_imul (v := 0) hx hb dX4_rankWithSwapped_60 (by decide +kernel) ?_
  refine lv_iload hx hb dX4_rankWithSwapped_61 (lv_at hl 0 rfl) ?_
  refine jw_iadd (v := 0) hx hb dX4_rankWithSwapped_63 (by decide +kernel) ?_
  refine jw_iald (v := 1) hx hb hE hP 2 0 rfl (by decide +kernel) (by decide +kernel) dX4_rankWithSwapped_64 ?_
  refine jw_iand (v := 1) hx hb dX4_rankWithSwapped_65 (by decide +kernel) ?_
  refine lv_istore (lv' := [(4, .int 1), (7, .int 0), (6, .int 1), (5, .int 0), (0, .ref h0), (1, .int 1), (2, .int 0), (3, .int 1)]) hx hb dX4_rankWithSwapped_66 hl (by decide) rfl (fun ls hl => ?_)
  refine lv_iinc (v := 1) (lv' := [(5, .int 1), (4, .int 1), (7, .int 0), (6, .int 1), (0, .ref h0), (1, .int 1), (2, .int 0), (3, .int 1)]) hx hb dX4_rankWithSwapped_68 hl (k := 3) rfl (by decide +kernel) (by decide) rfl (fun ls hl => ?_)
  refine lv_goto (tgt := 9) hx hb dX4_rankWithSwapped_71 (by decide) ?_
  refine lv_iload hx hb dX4_rankWithSwapped_9 (lv_at hl 0 rfl) ?_
  refine lv_aload_n hx hb dX4_rankWithSwapped_11 rfl (lv_at hl 4 rfl) ?_
  refine va_get (D := D) (ci := 7) (v := .int 2) (C := RX4) (T := TX4) (N := 9) hx hb hts iw_X4_rankWithSwapped__X4 hown hE.1 hP 0 rfl rfl 0 (by decide) (hts _ mw_X4_rankWithSwapped__2) (fun _ h9 => h9) rfl dX4_rankWithSwapped_12 ?_
  refine lv_icmp_ge (tgt := 74) hx hb dX4_rankWithSwapped_15 (by decide) (fun c9 => absurd c9 (by decide +kernel)) (fun _ => ?_)
  refine lv_aload_n hx hb dX4_rankWithSwapped_18 rfl (lv_at hl 4 rfl) ?_
  refine lv_iload_n hx hb dX4_rankWithSwapped_19 rfl (lv_at hl 5 rfl) ?_
  refine lv_iload hx hb dX4_rankWithSwapped_20 (lv_at hl 0 rfl) ?_
  refine jw_mi (wc := [(h0, .inr (7, [.int 2, .int 2, .int 3, .int 1, .ref h1, .ref h3, .ref h2, .ref h4, .ref h5])), (h1, .inl (Y 1, 96, .inl (jw_l 0 [0, 1, 0, 0, 1, 0])))]) (cs := 0) (ss := 0) (va_runV (As := [.int 1, .int 1]) (rest := []) ⟨hx, hb, hml, hown, hts⟩ (k36_X4_groupAt h0 h1 h3 h2 h4 h5 H.size) (cwV 2 hts gX4_rankWithSwapped_X4_groupAt rfl rfl rfl ydV_X4_groupAt ⟨Nat.le_of_ble_eq_true rfl, Nat.le_of_ble_eq_true rfl⟩) (jw_mpreV (ci := 7) (q0 := 0) hP hD hS hA hE [true, true] rfl rfl rfl) rfl rfl hl.1 rfl (lv_room (Nat.le_of_ble_eq_true rfl)) dX4_rankWithSwapped_22 ⟨Nat.le_of_ble_eq_true rfl, Nat.le_of_ble_eq_true rfl⟩) hP hD hS hA [true, true] rfl rfl rfl (fun r9 w1 H locs hr9 hw9 hP hD hS => ?_)
  subst hr9
  subst hw9
  have hP : va_P D vwCl [(h0, .inr (7, [.int 2, .int 2, .int 3, .int 1, .ref h1, .ref h3, .ref h2, .ref h4, .ref h5])), (h1, .inl (Y 1, 96, .inl (jw_l 0 [0, 1, 0, 0, 1, 0]))), (h2, .inl (Y 1, 16, .inl (jw_l 0 [1, 2, 0, 0, 2, 1])))] H := hP
  have hD : va_D A [(h0, .inr (7, [.int 2, .int 2, .int 3, .int 1, .ref h1, .ref h3, .ref h2, .ref h4, .ref h5])), (h1, .inl (Y 1, 96, .inl (jw_l 0 [0, 1, 0, 0, 1, 0]))), (h2, .inl (Y 1, 16, .inl (jw_l 0 [1, 2, 0, 0, 2, 1])))] := hD
  refine lv_istore (lv' := [(6, .int 0), (5, .int 1), (4, .int 1), (7, .int 0), (0, .ref h0), (1, .int 1), (2, .int 0), (3, .int 1)]) hx hb dX4_rankWithSwapped_25 hl (by decide) rfl (fun ls hl => ?_)
  refine lv_iload hx hb dX4_rankWithSwapped_27 (lv_at hl 0 rfl) ?_
  refine lv_iload_n hx hb dX4_rankWithSwapped_29 rfl (lv_at hl 6 rfl) ?_
  refine lv_icmp_ne (tgt := 37) hx hb dX4_rankWithSwapped_30 (by decide) (fun c9 => absurd (by decide +kernel) c9) (fun _ => ?_)
  refine lv_iload_n hx hb dX4_rankWithSwapped_33 rfl (lv_at hl 7 rfl) ?_
  refine lv_goto (tgt := 49) hx hb dX4_rankWithSwapped_34 (by decide) ?_
  refine lv_istore (lv' := [(7, .int 1), (6, .int 0), (5, .int 1), (4, .int 1), (0, .ref h0), (1, .int 1), (2, .int 0), (3, .int 1)]) hx hb dX4_rankWithSwapped_49 hl (by decide) rfl (fun ls hl => ?_)
  refine lv_iload hx hb dX4_rankWithSwapped_51 (lv_at hl 3 rfl) ?_
  refine lv_aload_n hx hb dX4_rankWithSwapped_53 rfl (lv_at hl 4 rfl) ?_
  refine va_get (D := D) (ci := 7) (v := .ref h2) (C := RX4) (T := TX4) (N := 9) hx hb hts iw_X4_rankWithSwapped__X4 hown hE.1 hP 0 rfl rfl 6 (by decide) (hts _ mw_X4_rankWithSwapped__3) (fun _ h9 => h9) rfl dX4_rankWithSwapped_54 ?_
  refine lv_iload hx hb dX4_rankWithSwapped_57 (lv_at hl 2 rfl) ?_
  refine lv_iconst (v := 4) hx hb dX4_rankWithSwapped_59 (by decide +kernel) ?_
  refine jw_imul (v := 4) hx hb dX4_rankWithSwapped_60 (by decide +kernel) ?_
  refine lv_iload hx hb dX4_rankWithSwapped_61 (lv_at hl 0 rfl) ?_
  refine jw_iadd (v := 5) hx hb dX4_rankWithSwapped_63 (by decide +kernel) ?_
  refine jw_iald (v := 1) hx hb hE hP 2 5 rfl (by decide +kernel) (by decide +kernel) dX4_rankWithSwapped_64 ?_
  refine jw_iand (v := 1) hx hb dX4_rankWithSwapped_65 (by decide +kernel) ?_
  refine lv_istore (lv' := [(4, .int 1), (7, .int 1), (6, .int 0), (5, .int 1), (0, .ref h0), (1, .int 1), (2, .int 0), (3, .int 1)]) hx hb dX4_rankWithSwapped_66 hl (by decide) rfl (fun ls hl => ?_)
  refine lv_iinc (v := 2) (lv' := [(5, .int 2), (4, .int 1), (7, .int 1), (6, .int 0), (0, .ref h0), (1, .int 1), (2, .int 0), (3, .int 1)]) hx hb dX4_rankWithSwapped_68 hl (k := 3) rfl (by decide +kernel) (by decide) rfl (fun ls hl => ?_)
  refine lv_goto (tgt := 9) hx hb dX4_rankWithSwapped_71 (by decide) ?_
  refine lv_iload hx hb dX4_rankWithSwapped_9 (lv_at hl 0 rfl) ?_
  refine lv_aload_n hx hb dX4_rankWithSwapped_11 rfl (lv_at hl 4 rfl) ?_
  refine va_get (D := D) (ci := 7) (v := .int 2) (C := RX4) (T := TX4) (N := 9) hx hb hts iw_X4_rankWithSwapped__X4 hown hE.1 hP 0 rfl rfl 0 (by decide) (hts _ mw_X4_rankWithSwapped__2) (fun _ h9 => h9) rfl dX4_rankWithSwapped_12 ?_
  refine lv_icmp_ge (tgt := 74) hx hb dX4_rankWithSwapped_15 (by decide) (fun _ => ?_) (fun c9 => absurd (by decide +kernel) c9)
  refine lv_iload hx hb dX4_rankWithSwapped_74 (lv_at hl 1 rfl) ?_
  refine jw_mi (wc := []) (cs := 0) (ss := 0) (va_runS (As := [.int 1]) (rest := []) ⟨hx, hb, hml, hown, hts⟩ (k38_X4_only H.size) (va_cwS 1 hts gX4_rankWithSwapped_X4_only rfl rfl rfl ydS_X4_only ⟨Nat.le_of_ble_eq_true rfl, Nat.le_of_ble_eq_true rfl⟩) (jw_mpreS hP hD hS hA hE [] rfl) rfl rfl hl.1 rfl (lv_room (Nat.le_of_ble_eq_true rfl)) dX4_rankWithSwapped_76 ⟨Nat.le_of_ble_eq_true rfl, Nat.le_of_ble_eq_true rfl⟩) hP hD hS hA [] rfl rfl rfl (fun r9 w1 H locs hr9 hw9 hP hD hS => ?_)
  subst hr9
  subst hw9
  have hP : va_P D vwCl [(h0, .inr (7, [.int 2, .int 2, .int 3, .int 1, .ref h1, .ref h3, .ref h2, .ref h4, .ref h5])), (h1, .inl (Y 1, 96, .inl (jw_l 0 [0, 1, 0, 0, 1, 0]))), (h2, .inl (Y 1, 16, .inl (jw_l 0 [1, 2, 0, 0, 2, 1])))] H := hP
  have hD : va_D A [(h0, .inr (7, [.int 2, .int 2, .int 3, .int 1, .ref h1, .ref h3, .ref h2, .ref h4, .ref h5])), (h1, .inl (Y 1, 96, .inl (jw_l 0 [0, 1, 0, 0, 1, 0]))), (h2, .inl (Y 1, 16, .inl (jw_l 0 [1, 2, 0, 0, 2, 1])))] := hD
  refine W.widen (k := 0) (n := 0) (Nat.le_of_ble_eq_true rfl) (Nat.le_of_ble_eq_true rfl) ?_
  exact jw_iret hx hb hr hlocks rfl rfl hP hD hS dX4_rankWithSwapped_79
set_option maxHeartbeats 4000000 in
set_option maxRecDepth 100000 in
theorem k40_X4_setSwaps {l : Launch} {D : va_G} {Y : Nat → ClassId} {tt : Nat → Nat} (h0 h1 h2 h3 h4 h5 : Nat) (sz : Nat) : Met l yX4_setSwaps wsX4_setSwaps ({ frames := 3, cells := 0, slots := 0, locals := 67 }) (jw_Pc D Y tt [.ref h0, .int 1] [(h0, .inr (7, [.int 2, .int 2, .int 3, .int 1, .ref h1, .ref h4, .ref h2, .ref h3, .ref h5])), (h1, .inl (Y 1, 96, .inl (jw_l 0 [0, 1, 0, 0, 1, 0]))), (h2, .inl (Y 1, 16, .inl (jw_l 0 [1, 2, 0, 0, 2, 1]))), (h3, .inl (Y 1, 144, .inl (jw_l 0 [1])))] sz) (jw_Qv D (fun w => w = [(h0, .inr (7, [.int 2, .int 2, .int 3, .int 1, .ref h1, .ref h4, .ref h2, .ref h3, .ref h5])), (h1, .inl (Y 1, 96, .inl (jw_l 0 [0, 1, 0, 0, 1, 0]))), (h2, .inl (Y 1, 16, .inl (jw_l 0 [1, 2, 0, 0, 2, 1]))), (h3, .inl (Y 1, 144, .inl (jw_l 0 [1, 0, 0, 0, 0, 0, 0])))]) (va_A [(h0, .inr (7, [.int 2, .int 2, .int 3, .int 1, .ref h1, .ref h4, .ref h2, .ref h3, .ref h5])), (h1, .inl (Y 1, 96, .inl (jw_l 0 [0, 1, 0, 0, 1, 0]))), (h2, .inl (Y 1, 16, .inl (jw_l 0 [1, 2, 0, 0, 2, 1]))), (h3, .inl (Y 1, 144, .inl (jw_l 0 [1])))] sz)) 0 0 (va_A [(h0, .inr (7, [.int 2, .int 2, .int 3, .int 1, .ref h1, .ref h4, .ref h2, .ref h3, .ref h5])), (h1, .inl (Y 1, 96, .inl (jw_l 0 [0, 1, 0, 0, 1, 0]))), (h2, .inl (Y 1, 16, .inl (jw_l 0 [1, 2, 0, 0, 2, 1]))), (h3, .inl (Y 1, 144, .inl (jw_l 0 [1])))] sz) := by
  refine jw_met (fun A => jw_Qv D (fun w => w = [(h0, .inr (7, [.int 2, .int 2, .int 3, .int 1, .ref h1, .ref h4, .ref h2, .ref h3, .ref h5])), (h1, .inl (Y 1, 96, .inl (jw_l 0 [0, 1, 0, 0, 1, 0]))), (h2, .inl (Y 1, 16, .inl (jw_l 0 [1, 2, 0, 0, 2, 1]))), (h3, .inl (Y 1, 144, .inl (jw_l 0 [1, 0, 0, 0, 0, 0, 0])))]) A) (cc := cX4_setSwaps) (maxL := 5) (ret := none) pn_X4_setSwaps rfl rfl ?_
  intro p e s m below meth c A H locs ls hx hb hml hr hts hown hlocks hin hP hD hA hS hE hl
  have hown : s.vm.findClass RX4 = some m.cls := hown
  have hl : lv_has ls 5 [(0, .ref h0), (1, .int 1)] := hl
  refine lv_iconst (v := 0) hx hb dX4_setSwaps_0 (by decide +kernel) ?_
  refine lv_istore_n (lv' := [(2, .int 0), (0, .ref h0), (1, .int 1)]) hx hb dX4_setSwaps_1 rfl hl (by decide) rfl (fun ls hl => ?_)
  refine lv_iconst (v := 0) hx hb dX4_setSwaps_2 (by decide +kernel) ?_
  refine lv_istore_n (lv' := [(3, .int 0), (2, .int 0), (0, .ref h0), (1, .int 1)]) hx hb dX4_setSwaps_3 rfl hl (by decide) rfl (fun ls hl => ?_)
  refine lv_iload_n hx hb dX4_setSwaps_4 rfl (lv_at hl 0 rfl) ?_
  refine lv_aload_n hx hb dX4_setSwaps_5 rfl (lv_at hl 2 rfl) ?_
  refine va_get (D := D) (ci := 7) (v := .int 2) (C := RX4) (T := TX4) (N := 9) hx hb hts iw_X4_setSwaps__X4 hown hE.1 hP 0 rfl rfl 0 (by decide) (hts _ mw_X4_setSwaps__1) (fun _ h9 => h9) rfl dX4_setSwaps_6 ?_
  refine lv_icmp_ge (tgt := 60) hx hb dX4_setSwaps_9 (by decide) (fun c9 => absurd c9 (by decide +kernel)) (fun _ => ?_)
  refine lv_iload_n hx hb dX4_setSwaps_12 rfl (lv_at hl 0 rfl) ?_
  refine lv_iconst (v := 1) hx hb dX4_setSwaps_13 (by decide +kernel) ?_
  refine jw_iadd (v := 1) hx hb dX4_setSwaps_14 (by decide +kernel) ?_
  refine lv_istore (lv' := [(4, .int 1), (3, .int 0), (2, .int 0), (0, .ref h0), (1, .int 1)]) hx hb dX4_setSwaps_15 hl (by decide) rfl (fun ls hl => ?_)
  refine lv_iload hx hb dX4_setSwaps_17 (lv_at hl 0 rfl) ?_
  refine lv_aload_n hx hb dX4_setSwaps_19 rfl (lv_at hl 3 rfl) ?_
  refine va_get (D := D) (ci := 7) (v := .int 2) (C := RX4) (T := TX4) (N := 9) hx hb hts iw_X4_setSwaps__X4 hown hE.1 hP 0 rfl rfl 0 (by decide) (hts _ mw_X4_setSwaps__1) (fun _ h9 => h9) rfl dX4_setSwaps_20 ?_
  refine lv_icmp_ge (tgt := 54) hx hb dX4_setSwaps_23 (by decide) (fun c9 => absurd c9 (by decide +kernel)) (fun _ => ?_)
  refine lv_aload_n hx hb dX4_setSwaps_26 rfl (lv_at hl 3 rfl) ?_
  refine va_get (D := D) (ci := 7) (v := .ref h3) (C := RX4) (T := TX4) (N := 9) hx hb hts iw_X4_setSwaps__X4 hown hE.1 hP 0 rfl rfl 7 (by decide) (hts _ mw_X4_setSwaps__2) (fun _ h9 => h9) rfl dX4_setSwaps_27 ?_
  refine lv_iload_n hx hb dX4_setSwaps_30 rfl (lv_at hl 4 rfl) ?_
  refine lv_bipush (v := 6) hx hb dX4_setSwaps_31 (by decide +kernel) ?_
  refine jw_imul (v := 6) hx hb dX4_setSwaps_33 (by decide +kernel) ?_
  refine lv_iload_n hx hb dX4_setSwaps_34 rfl (lv_at hl 2 rfl) ?_
  refine jw_iadd (v := 6) hx hb dX4_setSwaps_35 (by decide +kernel) ?_
  refine lv_aload_n hx hb dX4_setSwaps_36 rfl (lv_at hl 3 rfl) ?_
  refine lv_iload_n hx hb dX4_setSwaps_37 rfl (lv_at hl 4 rfl) ?_
  refine lv_iload_n hx hb dX4_setSwaps_38 rfl (lv_at hl 1 rfl) ?_
  refine lv_iload hx hb dX4_setSwaps_39 (lv_at hl 0 rfl) ?_
  refine jw_mi (wc := [(h0, .inr (7, [.int 2, .int 2, .int 3, .int 1, .ref h1, .ref h4, .ref h2, .ref h3, .ref h5])), (h1, .inl (Y 1, 96, .inl (jw_l 0 [0, 1, 0, 0, 1, 0]))), (h2, .inl (Y 1, 16, .inl (jw_l 0 [1, 2, 0, 0, 2, 1])))]) (cs := 0) (ss := 0) (va_runV (As := [.int 1, .int 0, .int 1]) (rest := [.int 6, .ref h3]) ⟨hx, hb, hml, hown, hts⟩ (k39_X4_rankWithSwapped h0 h1 h2 h4 h3 h5 H.size) (cwV 3 hts gX4_setSwaps_X4_rankWithSwapped rfl rfl rfl ydV_X4_rankWithSwapped ⟨Nat.le_of_ble_eq_true rfl, Nat.le_of_ble_eq_true rfl⟩) (jw_mpreV (ci := 7) (q0 := 0) hP hD hS hA hE [true, true, true] rfl rfl rfl) rfl rfl hl.1 rfl (lv_room (Nat.le_of_ble_eq_true rfl)) dX4_setSwaps_41 ⟨Nat.le_of_ble_eq_true rfl, Nat.le_of_ble_eq_true rfl⟩) hP hD hS hA [true, true, true] rfl rfl rfl (fun r9 w1 H locs hr9 hw9 hP hD hS => ?_)
  subst hr9
  subst hw9
  have hP : va_P D vwCl [(h0, .inr (7, [.int 2, .int 2, .int 3, .int 1, .ref h1, .ref h4, .ref h2, .ref h3, .ref h5])), (h1, .inl (Y 1, 96, .inl (jw_l 0 [0, 1, 0, 0, 1, 0]))), (h2, .inl (Y 1, 16, .inl (jw_l 0 [1, 2, 0, 0, 2, 1]))), (h3, .inl (Y 1, 144, .inl (jw_l 0 [1])))] H := hP
  have hD : va_D A [(h0, .inr (7, [.int 2, .int 2, .int 3, .int 1, .ref h1, .ref h4, .ref h2, .ref h3, .ref h5])), (h1, .inl (Y 1, 96, .inl (jw_l 0 [0, 1, 0, 0, 1, 0]))), (h2, .inl (Y 1, 16, .inl (jw_l 0 [1, 2, 0, 0, 2, 1]))), (h3, .inl (Y 1, 144, .inl (jw_l 0 [1])))] := hD
  refine jw_iast (ws' := [(h0, .inr (7, [.int 2, .int 2, .int 3, .int 1, .ref h1, .ref h4, .ref h2, .ref h3, .ref h5])), (h1, .inl (Y 1, 96, .inl (jw_l 0 [0, 1, 0, 0, 1, 0]))), (h2, .inl (Y 1, 16, .inl (jw_l 0 [1, 2, 0, 0, 2, 1]))), (h3, .inl (Y 1, 144, .inl (jw_l 0 [1, 0, 0, 0, 0, 0, 0])))]) hx hb hE hP hD hS 3 6 [1, 0, 0, 0, 0, 0, 0] rfl (by decide +kernel) (by decide +kernel) rfl dX4_setSwaps_44 (fun H locs hP hD hS => ?_)
  refine lv_iinc (v := 1) (lv' := [(2, .int 1), (4, .int 1), (3, .int 0), (0, .ref h0), (1, .int 1)]) hx hb dX4_setSwaps_45 hl (k := 2) rfl (by decide +kernel) (by decide) rfl (fun ls hl => ?_)
  refine lv_iinc (v := 2) (lv' := [(4, .int 2), (2, .int 1), (3, .int 0), (0, .ref h0), (1, .int 1)]) hx hb dX4_setSwaps_48 hl (k := 1) rfl (by decide +kernel) (by decide) rfl (fun ls hl => ?_)
  refine lv_goto (tgt := 17) hx hb dX4_setSwaps_51 (by decide) ?_
  refine lv_iload hx hb dX4_setSwaps_17 (lv_at hl 0 rfl) ?_
  refine lv_aload_n hx hb dX4_setSwaps_19 rfl (lv_at hl 3 rfl) ?_
  refine va_get (D := D) (ci := 7) (v := .int 2) (C := RX4) (T := TX4) (N := 9) hx hb hts iw_X4_setSwaps__X4 hown hE.1 hP 0 rfl rfl 0 (by decide) (hts _ mw_X4_setSwaps__1) (fun _ h9 => h9) rfl dX4_setSwaps_20 ?_
  refine lv_icmp_ge (tgt := 54) hx hb dX4_setSwaps_23 (by decide) (fun _ => ?_) (fun c9 => absurd (by decide +kernel) c9)
  refine lv_iinc (v := 1) (lv' := [(3, .int 1), (4, .int 2), (2, .int 1), (0, .ref h0), (1, .int 1)]) hx hb dX4_setSwaps_54 hl (k := 2) rfl (by decide +kernel) (by decide) rfl (fun ls hl => ?_)
  refine lv_goto (tgt := 4) hx hb dX4_setSwaps_57 (by decide) ?_
  refine lv_iload_n hx hb dX4_setSwaps_4 rfl (lv_at hl 0 rfl) ?_
  refine lv_aload_n hx hb dX4_setSwaps_5 rfl (lv_at hl 3 rfl) ?_
  refine va_get (D := D) (ci := 7) (v := .int 2) (C := RX4) (T := TX4) (N := 9) hx hb hts iw_X4_setSwaps__X4 hown hE.1 hP 0 rfl rfl 0 (by decide) (hts _ mw_X4_setSwaps__1) (fun _ h9 => h9) rfl dX4_setSwaps_6 ?_
  refine lv_icmp_ge (tgt := 60) hx hb dX4_setSwaps_9 (by decide) (fun c9 => absurd c9 (by decide +kernel)) (fun _ => ?_)
  refine lv_iload_n hx hb dX4_setSwaps_12 rfl (lv_at hl 0 rfl) ?_
  refine lv_iconst (v := 1) hx hb dX4_setSwaps_13 (by decide +kernel) ?_
  refine jw_iadd (v := 2) hx hb dX4_setSwaps_14 (by decide +kernel) ?_
  refine lv_istore (lv' := [(4, .int 2), (3, .int 1), (2, .int 1), (0, .ref h0), (1, .int 1)]) hx hb dX4_setSwaps_15 hl (by decide) rfl (fun ls hl => ?_)
  refine lv_iload hx hb dX4_setSwaps_17 (lv_at hl 0 rfl) ?_
  refine lv_aload_n hx hb dX4_setSwaps_19 rfl (lv_at hl 3 rfl) ?_
  refine va_get (D := D) (ci := 7) (v := .int 2) (C := RX4) (T := TX4) (N := 9) hx hb hts iw_X4_setSwaps__X4 hown hE.1 hP 0 rfl rfl 0 (by decide) (hts _ mw_X4_setSwaps__1) (fun _ h9 => h9) rfl dX4_setSwaps_20 ?_
  refine lv_icmp_ge (tgt := 54) hx hb dX4_setSwaps_23 (by decide) (fun _ => ?_) (fun c9 => absurd (by decide +kernel) c9)
  refine lv_iinc (v := 2) (lv' := [(3, .int 2), (4, .int 2), (2, .int 1), (0, .ref h0), (1, .int 1)]) hx hb dX4_setSwaps_54 hl (k := 1) rfl (by decide +kernel) (by decide) rfl (fun ls hl => ?_)
  refine lv_goto (tgt := 4) hx hb dX4_setSwaps_57 (by decide) ?_
  refine lv_iload_n hx hb dX4_setSwaps_4 rfl (lv_at hl 0 rfl) ?_
  refine lv_aload_n hx hb dX4_setSwaps_5 rfl (lv_at hl 3 rfl) ?_
  refine va_get (D := D) (ci := 7) (v := .int 2) (C := RX4) (T := TX4) (N := 9) hx hb hts iw_X4_setSwaps__X4 hown hE.1 hP 0 rfl rfl 0 (by decide) (hts _ mw_X4_setSwaps__1) (fun _ h9 => h9) rfl dX4_setSwaps_6 ?_
  refine lv_icmp_ge (tgt := 60) hx hb dX4_setSwaps_9 (by decide) (fun _ => ?_) (fun c9 => absurd (by decide +kernel) c9)
  refine lv_aload_n hx hb dX4_setSwaps_60 rfl (lv_at hl 3 rfl) ?_
  refine lv_iload_n hx hb dX4_setSwaps_61 rfl (lv_at hl 2 rfl) ?_
  refine va_put (D := D) (ci := 7) (v := .int 1) (C := RX4) (T := TX4) (N := 9) hx hb hts iw_X4_setSwaps__X4 tyX4 tyX4_ok nmX4 hown hE.1 hP hD hS 0 rfl rfl 3 (by decide) (hts _ mw_X4_setSwaps__3) (fun _ h9 => h9) rfl (tyX4_ok 3 (by decide)) rfl rfl (Nat.le_of_ble_eq_true rfl) dX4_setSwaps_62 (fun H locs hP hD hS => ?_)
  have hP : va_P D vwCl [(h0, .inr (7, [.int 2, .int 2, .int 3, .int 1, .ref h1, .ref h4, .ref h2, .ref h3, .ref h5])), (h1, .inl (Y 1, 96, .inl (jw_l 0 [0, 1, 0, 0, 1, 0]))), (h2, .inl (Y 1, 16, .inl (jw_l 0 [1, 2, 0, 0, 2, 1]))), (h3, .inl (Y 1, 144, .inl (jw_l 0 [1, 0, 0, 0, 0, 0, 0])))] H := hP
  have hD : va_D A [(h0, .inr (7, [.int 2, .int 2, .int 3, .int 1, .ref h1, .ref h4, .ref h2, .ref h3, .ref h5])), (h1, .inl (Y 1, 96, .inl (jw_l 0 [0, 1, 0, 0, 1, 0]))), (h2, .inl (Y 1, 16, .inl (jw_l 0 [1, 2, 0, 0, 2, 1]))), (h3, .inl (Y 1, 144, .inl (jw_l 0 [1, 0, 0, 0, 0, 0, 0])))] := hD
  refine W.widen (k := 0) (n := 0) (Nat.le_of_ble_eq_true rfl) (Nat.le_of_ble_eq_true rfl) ?_
  exact jw_vret hx hb hr hlocks rfl hP hD hS dX4_setSwaps_65
