set_option maxHeartbeats 4000000 in
set_option maxRecDepth 100000 in
theorem k31_X4_readRow {l : Launch} {D : va_G} {Y : Nat → ClassId} {tt : Nat → Nat} (h0 : Nat) (sz : Nat) : Met l yX4_readRow wsX4_readRow ({ frames := 0, cells := 0, slots := 0, locals := 0 }) (jw_Pc D Y tt [.int 13, .int 2, .ref h0] [(h0, .inl (Y 1, 4, .inl (jw_l 0 [3, 0])))] sz) (jw_Qi D (fun r => r = 0) (fun w => w = [(h0, .inl (Y 1, 4, .inl (jw_l 0 [3, 1])))]) (va_A [(h0, .inl (Y 1, 4, .inl (jw_l 0 [3, 0])))] sz)) 0 0 (va_A [(h0, .inl (Y 1, 4, .inl (jw_l 0 [3, 0])))] sz) := by
  refine jw_met (fun A => jw_Qi D (fun r => r = 0) (fun w => w = [(h0, .inl (Y 1, 4, .inl (jw_l 0 [3, 1])))]) A) (cc := cX4_readRow) (maxL := 5) (ret := (some .boolean)) pn_X4_readRow rfl rfl ?_
  intro p e s m below meth c A H locs ls hx hb hml hr hts hown hlocks hin hP hD hA hS hE hl
  have hown : s.vm.findClass RX4 = some m.cls := hown
  have hl : lv_has ls 5 [(0, .int 13), (1, .int 2), (2, .ref h0)] := hl
  refine lv_iconst (v := 0) hx hb dX4_readRow_0 (by decide +kernel) ?_
  refine lv_istore_n (lv' := [(3, .int 0), (0, .int 13), (1, .int 2), (2, .ref h0)]) hx hb dX4_readRow_1 rfl hl (by decide) rfl (fun ls hl => ?_)
  refine lv_iconst (v := 0) hx hb dX4_readRow_2 (by decide +kernel) ?_
  refine lv_istore (lv' := [(4, .int 0), (3, .int 0), (0, .int 13), (1, .int 2), (2, .ref h0)]) hx hb dX4_readRow_3 hl (by decide) rfl (fun ls hl => ?_)
  refine lv_iload hx hb dX4_readRow_5 (lv_at hl 0 rfl) ?_
  refine lv_iload_n hx hb dX4_readRow_7 rfl (lv_at hl 3 rfl) ?_
  refine lv_icmp_ge (tgt := 49) hx hb dX4_readRow_8 (by decide) (fun c9 => absurd c9 (by decide +kernel)) (fun _ => ?_)
  refine lv_iload hx hb dX4_readRow_11 (lv_at hl 0 rfl) ?_
  refine lv_aload_n hx hb dX4_readRow_13 rfl (lv_at hl 4 rfl) ?_
  refine jw_alen (v := 4) hx hb hE hP 0 1 rfl rfl (by decide +kernel) dX4_readRow_14 ?_
  refine lv_icmp_ge (tgt := 49) hx hb dX4_readRow_15 (by decide) (fun c9 => absurd c9 (by decide +kernel)) (fun _ => ?_)
  refine lv_aload_n hx hb dX4_readRow_18 rfl (lv_at hl 4 rfl) ?_
  refine lv_iload hx hb dX4_readRow_19 (lv_at hl 0 rfl) ?_
  refine lv_iload_n hx hb dX4_readRow_21 rfl (lv_at hl 2 rfl) ?_
  refine lv_iconst (v := 2) hx hb dX4_readRow_22 (by decide +kernel) ?_
  refine lv_iload_n hx hb dX4_readRow_23 rfl (lv_at hl 3 rfl) ?_
  refine lv_iconst (v := 1) hx hb dX4_readRow_24 (by decide +kernel) ?_
  refine jw_isub (v := 1) hx hb dX4_readRow_25 (by decide +kernel) ?_
  refine lv_iload hx hb dX4_readRow_26 (lv_at hl 0 rfl) ?_
  refine jw_isub (v := 1) hx hb dX4_readRow_28 (by decide +kernel) ?_
  refine jw_imul (v := 2) hx hb dX4_readRow_29 (by decide +kernel) ?_
  refine lv_iushr (v := 3) hx hb dX4_readRow_30 (by decide +kernel) ?_
  refine lv_iconst (v := 3) hx hb dX4_readRow_31 (by decide +kernel) ?_
  refine jw_iand (v := 3) hx hb dX4_readRow_32 (by decide +kernel) ?_
  refine jw_iast (ws' := [(h0, .inl (Y 1, 4, .inl (jw_l 0 [3, 0])))]) hx hb hE hP hD hS 0 0 [3, 0] rfl (by decide +kernel) (by decide +kernel) rfl dX4_readRow_33 (fun H locs hP hD hS => ?_)
  refine lv_iload_n hx hb dX4_readRow_34 rfl (lv_at hl 1 rfl) ?_
  refine lv_iconst (v := 1) hx hb dX4_readRow_35 (by decide +kernel) ?_
  refine lv_aload_n hx hb dX4_readRow_36 rfl (lv_at hl 4 rfl) ?_
  refine lv_iload hx hb dX4_readRow_37 (lv_at hl 0 rfl) ?_
  refine jw_iald (v := 3) hx hb hE hP 0 0 rfl (by decide +kernel) (by decide +kernel) dX4_readRow_39 ?_
  refine jw_ishl (v := 8) hx hb dX4_readRow_40 (by decide +kernel) ?_
  refine jw_ior (v := 8) hx hb dX4_readRow_41 (by decide +kernel) ?_
  refine lv_istore_n (lv' := [(3, .int 8), (4, .int 0), (0, .int 13), (1, .int 2), (2, .ref h0)]) hx hb dX4_readRow_42 rfl hl (by decide) rfl (fun ls hl => ?_)
  refine lv_iinc (v := 1) (lv' := [(4, .int 1), (3, .int 8), (0, .int 13), (1, .int 2), (2, .ref h0)]) hx hb dX4_readRow_43 hl (k := 1) rfl (by decide +kernel) (by decide) rfl (fun ls hl => ?_)
  refine lv_goto (tgt := 5) hx hb dX4_readRow_46 (by decide) ?_
  refine lv_iload hx hb dX4_readRow_5 (lv_at hl 0 rfl) ?_
  refine lv_iload_n hx hb dX4_readRow_7 rfl (lv_at hl 3 rfl) ?_
  refine lv_icmp_ge (tgt := 49) hx hb dX4_readRow_8 (by decide) (fun c9 => absurd c9 (by decide +kernel)) (fun _ => ?_)
  refine lv_iload hx hb dX4_readRow_11 (lv_at hl 0 rfl) ?_
  refine lv_aload_n hx hb dX4_readRow_13 rfl (lv_at hl 4 rfl) ?_
  refine jw_alen (v := 4) hx hb hE hP 0 1 rfl rfl (by decide +kernel) dX4_readRow_14 ?_
  refine lv_icmp_ge (tgt := 49) hx hb dX4_readRow_15 (by decide) (fun c9 => absurd c9 (by decide +kernel)) (fun _ => ?_)
  refine lv_aload_n hx hb dX4_readRow_18 rfl (lv_at hl 4 rfl) ?_
  refine lv_iload hx hb dX4_readRow_19 (lv_at hl 0 rfl) ?_
  refine lv_iload_n hx hb dX4_readRow_21 rfl (lv_at hl 2 rfl) ?_
  refine lv_iconst (v := 2) hx hb dX4_readRow_22 (by decide +kernel) ?_
  refine lv_iload_n hx hb dX4_readRow_23 rfl (lv_at hl 3 rfl) ?_
  refine lv_iconst (v := 1) hx hb dX4_readRow_24 (by decide +kernel) ?_
  refine jw_isub (v := 1) hx hb dX4_readRow_25 (by decide +kernel) ?_
  refine lv_iload hx hb dX4_readRow_26 (lv_at hl 0 rfl) ?_
  refine jw_isub (v := 0) hx hb dX4_readRow_28 (by decide +kernel) ?_
  refine jw_imul (v := 0) hx hb dX4_readRow_29 (by decide +kernel) ?_
  refine lv_iushr (v := 13) hx hb dX4_readRow_30 (by decide +kernel) ?_
  refine lv_iconst (v := 3) hx hb dX4_readRow_31 (by decide +kernel) ?_
  refine jw_iand (v := 1) hx hb dX4_readRow_32 (by decide +kernel) ?_
  refine jw_iast (ws' := [(h0, .inl (Y 1, 4, .inl (jw_l 0 [3, 1])))]) hx hb hE hP hD hS 0 1 [3, 1] rfl (by decide +kernel) (by decide +kernel) rfl dX4_readRow_33 (fun H locs hP hD hS => ?_)
  refine lv_iload_n hx hb dX4_readRow_34 rfl (lv_at hl 1 rfl) ?_
  refine lv_iconst (v := 1) hx hb dX4_readRow_35 (by decide +kernel) ?_
  refine lv_aload_n hx hb dX4_readRow_36 rfl (lv_at hl 4 rfl) ?_
  refine lv_iload hx hb dX4_readRow_37 (lv_at hl 0 rfl) ?_
  refine jw_iald (v := 1) hx hb hE hP 0 1 rfl (by decide +kernel) (by decide +kernel) dX4_readRow_39 ?_
  refine jw_ishl (v := 2) hx hb dX4_readRow_40 (by decide +kernel) ?_
  refine jw_ior (v := 10) hx hb dX4_readRow_41 (by decide +kernel) ?_
  refine lv_istore_n (lv' := [(3, .int 10), (4, .int 1), (0, .int 13), (1, .int 2), (2, .ref h0)]) hx hb dX4_readRow_42 rfl hl (by decide) rfl (fun ls hl => ?_)
  refine lv_iinc (v := 2) (lv' := [(4, .int 2), (3, .int 10), (0, .int 13), (1, .int 2), (2, .ref h0)]) hx hb dX4_readRow_43 hl (k := 1) rfl (by decide +kernel) (by decide) rfl (fun ls hl => ?_)
  refine lv_goto (tgt := 5) hx hb dX4_readRow_46 (by decide) ?_
  refine lv_iload hx hb dX4_readRow_5 (lv_at hl 0 rfl) ?_
  refine lv_iload_n hx hb dX4_readRow_7 rfl (lv_at hl 3 rfl) ?_
  refine lv_icmp_ge (tgt := 49) hx hb dX4_readRow_8 (by decide) (fun _ => ?_) (fun c9 => absurd (by decide +kernel) c9)
  refine lv_iload_n hx hb dX4_readRow_49 rfl (lv_at hl 1 rfl) ?_
  refine lv_iconst (v := 1) hx hb dX4_readRow_50 (by decide +kernel) ?_
  refine lv_iload_n hx hb dX4_readRow_51 rfl (lv_at hl 3 rfl) ?_
  refine jw_ishl (v := 4) hx hb dX4_readRow_52 (by decide +kernel) ?_
  refine lv_iconst (v := 1) hx hb dX4_readRow_53 (by decide +kernel) ?_
  refine jw_isub (v := 3) hx hb dX4_readRow_54 (by decide +kernel) ?_
  refine lv_icmp_ne (tgt := 62) hx hb dX4_readRow_55 (by decide) (fun _ => ?_) (fun c9 => absurd c9 (by decide +kernel))
  refine lv_iconst (v := 0) hx hb dX4_readRow_62 (by decide +kernel) ?_
  refine W.widen (k := 0) (n := 0) (Nat.le_of_ble_eq_true rfl) (Nat.le_of_ble_eq_true rfl) ?_
  exact jw_zret hx hb hr hlocks rfl rfl rfl hP hD hS dX4_readRow_63
set_option maxHeartbeats 4000000 in
set_option maxRecDepth 100000 in
theorem k32_X4_readRow {l : Launch} {D : va_G} {Y : Nat → ClassId} {tt : Nat → Nat} (h0 : Nat) (sz : Nat) : Met l yX4_readRow wsX4_readRow ({ frames := 0, cells := 0, slots := 0, locals := 0 }) (jw_Pc D Y tt [.int 14, .int 2, .ref h0] [(h0, .inl (Y 1, 4, .inl (jw_l 0 [3, 1])))] sz) (jw_Qi D (fun r => r = 0) (fun w => w = [(h0, .inl (Y 1, 4, .inl (jw_l 0 [3, 2])))]) (va_A [(h0, .inl (Y 1, 4, .inl (jw_l 0 [3, 1])))] sz)) 0 0 (va_A [(h0, .inl (Y 1, 4, .inl (jw_l 0 [3, 1])))] sz) := by
  refine jw_met (fun A => jw_Qi D (fun r => r = 0) (fun w => w = [(h0, .inl (Y 1, 4, .inl (jw_l 0 [3, 2])))]) A) (cc := cX4_readRow) (maxL := 5) (ret := (some .boolean)) pn_X4_readRow rfl rfl ?_
  intro p e s m below meth c A H locs ls hx hb hml hr hts hown hlocks hin hP hD hA hS hE hl
  have hown : s.vm.findClass RX4 = some m.cls := hown
  have hl : lv_has ls 5 [(0, .int 14), (1, .int 2), (2, .ref h0)] := hl
  refine lv_iconst (v := 0) hx hb dX4_readRow_0 (by decide +kernel) ?_
  refine lv_istore_n (lv' := [(3, .int 0), (0, .int 14), (1, .int 2), (2, .ref h0)]) hx hb dX4_readRow_1 rfl hl (by decide) rfl (fun ls hl => ?_)
  refine lv_iconst (v := 0) hx hb dX4_readRow_2 (by decide +kernel) ?_
  refine lv_istore (lv' := [(4, .int 0), (3, .int 0), (0, .int 14), (1, .int 2), (2, .ref h0)]) hx hb dX4_readRow_3 hl (by decide) rfl (fun ls hl => ?_)
  refine lv_iload hx hb dX4_readRow_5 (lv_at hl 0 rfl) ?_
  refine lv_iload_n hx hb dX4_readRow_7 rfl (lv_at hl 3 rfl) ?_
  refine lv_icmp_ge (tgt := 49) hx hb dX4_readRow_8 (by decide) (fun c9 => absurd c9 (by decide +kernel)) (fun _ => ?_)
  refine lv_iload hx hb dX4_readRow_11 (lv_at hl 0 rfl) ?_
  refine lv_aload_n hx hb dX4_readRow_13 rfl (lv_at hl 4 rfl) ?_
  refine jw_alen (v := 4) hx hb hE hP 0 1 rfl rfl (by decide +kernel) dX4_readRow_14 ?_
  refine lv_icmp_ge (tgt := 49) hx hb dX4_readRow_15 (by decide) (fun c9 => absurd c9 (by decide +kernel)) (fun _ => ?_)
  refine lv_aload_n hx hb dX4_readRow_18 rfl (lv_at hl 4 rfl) ?_
  refine lv_iload hx hb dX4_readRow_19 (lv_at hl 0 rfl) ?_
  refine lv_iload_n hx hb dX4_readRow_21 rfl (lv_at hl 2 rfl) ?_
  refine lv_iconst (v := 2) hx hb dX4_readRow_22 (by decide +kernel) ?_
  refine lv_iload_n hx hb dX4_readRow_23 rfl (lv_at hl 3 rfl) ?_
  refine lv_iconst (v := 1) hx hb dX4_readRow_24 (by decide +kernel) ?_
  refine jw_isub (v := 1) hx hb dX4_readRow_25 (by decide +kernel) ?_
  refine lv_iload hx hb dX4_readRow_26 (lv_at hl 0 rfl) ?_
  refine jw_isub (v := 1) hx hb dX4_readRow_28 (by decide +kernel) ?_
  refine jw_imul (v := 2) hx hb dX4_readRow_29 (by decide +kernel) ?_
  refine lv_iushr (v := 3) hx hb dX4_readRow_30 (by decide +kernel) ?_
  refine lv_iconst (v := 3) hx hb dX4_readRow_31 (by decide +kernel) ?_
  refine jw_iand (v := 3) hx hb dX4_readRow_32 (by decide +kernel) ?_
  refine jw_iast (ws' := [(h0, .inl (Y 1, 4, .inl (jw_l 0 [3, 1])))]) hx hb hE hP hD hS 0 0 [3, 1] rfl (by decide +kernel) (by decide +kernel) rfl dX4_readRow_33 (fun H locs hP hD hS => ?_)
  refine lv_iload_n hx hb dX4_readRow_34 rfl (lv_at hl 1 rfl) ?_
  refine lv_iconst (v := 1) hx hb dX4_readRow_35 (by decide +kernel) ?_
  refine lv_aload_n hx hb dX4_readRow_36 rfl (lv_at hl 4 rfl) ?_
  refine lv_iload hx hb dX4_readRow_37 (lv_at hl 0 rfl) ?_
  refine jw_iald (v := 3) hx hb hE hP 0 0 rfl (by decide +kernel) (by decide +kernel) dX4_readRow_39 ?_
  refine jw_ishl (v := 8) hx hb dX4_readRow_40 (by decide +kernel) ?_
  refine jw_ior (v := 8) hx hb dX4_readRow_41 (by decide +kernel) ?_
  refine lv_istore_n (lv' := [(3, .int 8), (4, .int 0), (0, .int 14), (1, .int 2), (2, .ref h0)]) hx hb dX4_readRow_42 rfl hl (by decide) rfl (fun ls hl => ?_)
  refine lv_iinc (v := 1) (lv' := [(4, .int 1), (3, .int 8), (0, .int 14), (1, .int 2), (2, .ref h0)]) hx hb dX4_readRow_43 hl (k := 1) rfl (by decide +kernel) (by decide) rfl (fun ls hl => ?_)
  refine lv_goto (tgt := 5) hx hb dX4_readRow_46 (by decide) ?_
  refine lv_iload hx hb dX4_readRow_5 (lv_at hl 0 rfl) ?_
  refine lv_iload_n hx hb dX4_readRow_7 rfl (lv_at hl 3 rfl) ?_
  refine lv_icmp_ge (tgt := 49) hx hb dX4_readRow_8 (by decide) (fun c9 => absurd c9 (by decide +kernel)) (fun _ => ?_)
  refine lv_iload hx hb dX4_readRow_11 (lv_at hl 0 rfl) ?_
  refine lv_aload_n hx hb dX4_readRow_13 rfl (lv_at hl 4 rfl) ?_
  refine jw_alen (v := 4) hx hb hE hP 0 1 rfl rfl (by decide +kernel) dX4_readRow_14 ?_
  refine lv_icmp_ge (tgt := 49) hx hb dX4_readRow_15 (by decide) (fun c9 => absurd c9 (by decide +kernel)) (fun _ => ?_)
  refine lv_aload_n hx hb dX4_readRow_18 rfl (lv_at hl 4 rfl) ?_
  refine lv_iload hx hb dX4_readRow_19 (lv_at hl 0 rfl) ?_
  refine lv_iload_n hx hb dX4_readRow_21 rfl (lv_at hl 2 rfl) ?_
  refine lv_iconst (v := 2) hx hb dX4_readRow_22 (by decide +kernel) ?_
  refine lv_iload_n hx hb dX4_readRow_23 rfl (lv_at hl 3 rfl) ?_
  refine lv_iconst (v := 1) hx hb dX4_readRow_24 (by decide +kernel) ?_
  refine jw_isub (v := 1) hx hb dX4_readRow_25 (by decide +kernel) ?_
  refine lv_iload hx hb dX4_readRow_26 (lv_at hl 0 rfl) ?_
  refine jw_isub (v := 0) hx hb dX4_readRow_28 (by decide +kernel) ?_
  refine jw_imul (v := 0) hx hb dX4_readRow_29 (by decide +kernel) ?_
  refine lv_iushr (v := 14) hx hb dX4_readRow_30 (by decide +kernel) ?_
  refine lv_iconst (v := 3) hx hb dX4_readRow_31 (by decide +kernel) ?_
  refine jw_iand (v := 2) hx hb dX4_readRow_32 (by decide +kernel) ?_
  refine jw_iast (ws' := [(h0, .inl (Y 1, 4, .inl (jw_l 0 [3, 2])))]) hx hb hE hP hD hS 0 1 [3, 2] rfl (by decide +kernel) (by decide +kernel) rfl dX4_readRow_33 (fun H locs hP hD hS => ?_)
  refine lv_iload_n hx hb dX4_readRow_34 rfl (lv_at hl 1 rfl) ?_
  refine lv_iconst (v := 1) hx hb dX4_readRow_35 (by decide +kernel) ?_
  refine lv_aload_n hx hb dX4_readRow_36 rfl (lv_at hl 4 rfl) ?_
  refine lv_iload hx hb dX4_readRow_37 (lv_at hl 0 rfl) ?_
  refine jw_iald (v := 2) hx hb hE hP 0 1 rfl (by decide +kernel) (by decide +kernel) dX4_readRow_39 ?_
  refine jw_ishl (v := 4) hx hb dX4_readRow_40 (by decide +kernel) ?_
  refine jw_ior (v := 12) hx hb dX4_readRow_41 (by decide +kernel) ?_
  refine lv_istore_n (lv' := [(3, .int 12), (4, .int 1), (0, .int 14), (1, .int 2), (2, .ref h0)]) hx hb dX4_readRow_42 rfl hl (by decide) rfl (fun ls hl => ?_)
  refine lv_iinc (v := 2) (lv' := [(4, .int 2), (3, .int 12), (0, .int 14), (1, .int 2), (2, .ref h0)]) hx hb dX4_readRow_43 hl (k := 1) rfl (by decide +kernel) (by decide) rfl (fun ls hl => ?_)
  refine lv_goto (tgt := 5) hx hb dX4_readRow_46 (by decide) ?_
  refine lv_iload hx hb dX4_readRow_5 (lv_at hl 0 rfl) ?_
  refine lv_iload_n hx hb dX4_readRow_7 rfl (lv_at hl 3 rfl) ?_
  refine lv_icmp_ge (tgt := 49) hx hb dX4_readRow_8 (by decide) (fun _ => ?_) (fun c9 => absurd (by decide +kernel) c9)
  refine lv_iload_n hx hb dX4_readRow_49 rfl (lv_at hl 1 rfl) ?_
  refine lv_iconst (v := 1) hx hb dX4_readRow_50 (by decide +kernel) ?_
  refine lv_iload_n hx hb dX4_readRow_51 rfl (lv_at hl 3 rfl) ?_
  refine jw_ishl (v := 4) hx hb dX4_readRow_52 (by decide +kernel) ?_
  refine lv_iconst (v := 1) hx hb dX4_readRow_53 (by decide +kernel) ?_
  refine jw_isub (v := 3) hx hb dX4_readRow_54 (by decide +kernel) ?_
  refine lv_icmp_ne (tgt := 62) hx hb dX4_readRow_55 (by decide) (fun _ => ?_) (fun c9 => absurd c9 (by decide +kernel))
  refine lv_iconst (v := 0) hx hb dX4_readRow_62 (by decide +kernel) ?_
  refine W.widen (k := 0) (n := 0) (Nat.le_of_ble_eq_true rfl) (Nat.le_of_ble_eq_true rfl) ?_
  exact jw_zret hx hb hr hlocks rfl rfl rfl hP hD hS dX4_readRow_63
set_option maxHeartbeats 4000000 in
set_option maxRecDepth 100000 in
theorem k33_X4_readRow {l : Launch} {D : va_G} {Y : Nat → ClassId} {tt : Nat → Nat} (h0 : Nat) (sz : Nat) : Met l yX4_readRow wsX4_readRow ({ frames := 0, cells := 0, slots := 0, locals := 0 }) (jw_Pc D Y tt [.int 15, .int 2, .ref h0] [(h0, .inl (Y 1, 4, .inl (jw_l 0 [3, 2])))] sz) (jw_Qi D (fun r => r = 0) (fun w => w = [(h0, .inl (Y 1, 4, .inl (jw_l 0 [3, 3])))]) (va_A [(h0, .inl (Y 1, 4, .inl (jw_l 0 [3, 2])))] sz)) 0 0 (va_A [(h0, .inl (Y 1, 4, .inl (jw_l 0 [3, 2])))] sz) := by
  refine jw_met (fun A => jw_Qi D (fun r => r = 0) (fun w => w = [(h0, .inl (Y 1, 4, .inl (jw_l 0 [3, 3])))]) A) (cc := cX4_readRow) (maxL := 5) (ret := (some .boolean)) pn_X4_readRow rfl rfl ?_
  intro p e s m below meth c A H locs ls hx hb hml hr hts hown hlocks hin hP hD hA hS hE hl
  have hown : s.vm.findClass RX4 = some m.cls := hown
  have hl : lv_has ls 5 [(0, .int 15), (1, .int 2), (2, .ref h0)] := hl
  refine lv_iconst (v := 0) hx hb dX4_readRow_0 (by decide +kernel) ?_
  refine lv_istore_n (lv' := [(3, .int 0), (0, .int 15), (1, .int 2), (2, .ref h0)]) hx hb dX4_readRow_1 rfl hl (by decide) rfl (fun ls hl => ?_)
  refine lv_iconst (v := 0) hx hb dX4_readRow_2 (by decide +kernel) ?_
  refine lv_istore (lv' := [(4, .int 0), (3, .int 0), (0, .int 15), (1, .int 2), (2, .ref h0)]) hx hb dX4_readRow_3 hl (by decide) rfl (fun ls hl => ?_)
  refine lv_iload hx hb dX4_readRow_5 (lv_at hl 0 rfl) ?_
  refine lv_iload_n hx hb dX4_readRow_7 rfl (lv_at hl 3 rfl) ?_
  refine lv_icmp_ge (tgt := 49) hx hb dX4_readRow_8 (by decide) (fun c9 => absurd c9 (by decide +kernel)) (fun _ => ?_)
  refine lv_iload hx hb dX4_readRow_11 (lv_at hl 0 rfl) ?_
  refine lv_aload_n hx hb dX4_readRow_13 rfl (lv_at hl 4 rfl) ?_
  refine jw_alen (v := 4) hx hb hE hP 0 1 rfl rfl (by decide +kernel) dX4_readRow_14 ?_
  refine lv_icmp_ge (tgt := 49) hx hb dX4_readRow_15 (by decide) (fun c9 => absurd c9 (by decide +kernel)) (fun _ => ?_)
  refine lv_aload_n hx hb dX4_readRow_18 rfl (lv_at hl 4 rfl) ?_
  refine lv_iload hx hb dX4_readRow_19 (lv_at hl 0 rfl) ?_
  refine lv_iload_n hx hb dX4_readRow_21 rfl (lv_at hl 2 rfl) ?_
  refine lv_iconst (v := 2) hx hb dX4_readRow_22 (by decide +kernel) ?_
  refine lv_iload_n hx hb dX4_readRow_23 rfl (lv_at hl 3 rfl) ?_
  refine lv_iconst (v := 1) hx hb dX4_readRow_24 (by decide +kernel) ?_
  refine jw_isub (v := 1) hx hb dX4_readRow_25 (by decide +kernel) ?_
  refine lv_iload hx hb dX4_readRow_26 (lv_at hl 0 rfl) ?_
  refine jw_isub (v := 1) hx hb dX4_readRow_28 (by decide +kernel) ?_
  refine jw_imul (v := 2) hx hb dX4_readRow_29 (by decide +kernel) ?_
  refine lv_iushr (v := 3) hx hb dX4_readRow_30 (by decide +kernel) ?_
  refine lv_iconst (v := 3) hx hb dX4_readRow_31 (by decide +kernel) ?_
  refine jw_iand (v := 3) hx hb dX4_readRow_32 (by decide +kernel) ?_
  refine jw_iast (ws' := [(h0, .inl (Y 1, 4, .inl (jw_l 0 [3, 2])))]) hx hb hE hP hD hS 0 0 [3, 2] rfl (by decide +kernel) (by decide +kernel) rfl dX4_readRow_33 (fun H locs hP hD hS => ?_)
  refine lv_iload_n hx hb dX4_readRow_34 rfl (lv_at hl 1 rfl) ?_
  refine lv_iconst (v := 1) hx hb dX4_readRow_35 (by decide +kernel) ?_
  refine lv_aload_n hx hb dX4_readRow_36 rfl (lv_at hl 4 rfl) ?_
  refine lv_iload hx hb dX4_readRow_37 (lv_at hl 0 rfl) ?_
  refine jw_iald (v := 3) hx hb hE hP 0 0 rfl (by decide +kernel) (by decide +kernel) dX4_readRow_39 ?_
  refine jw_ishl (v := 8) hx hb dX4_readRow_40 (by decide +kernel) ?_
  refine jw_ior (v := 8) hx hb dX4_readRow_41 (by decide +kernel) ?_
  refine lv_istore_n (lv' := [(3, .int 8), (4, .int 0), (0, .int 15), (1, .int 2), (2, .ref h0)]) hx hb dX4_readRow_42 rfl hl (by decide) rfl (fun ls hl => ?_)
  refine lv_iinc (v := 1) (lv' := [(4, .int 1), (3, .int 8), (0, .int 15), (1, .int 2), (2, .ref h0)]) hx hb dX4_readRow_43 hl (k := 1) rfl (by decide +kernel) (by decide) rfl (fun ls hl => ?_)
  refine lv_goto (tgt := 5) hx hb dX4_readRow_46 (by decide) ?_
  refine lv_iload hx hb dX4_readRow_5 (lv_at hl 0 rfl) ?_
  refine lv_iload_n hx hb dX4_readRow_7 rfl (lv_at hl 3 rfl) ?_
  refine lv_icmp_ge (tgt := 49) hx hb dX4_readRow_8 (by decide) (fun c9 => absurd c9 (by decide +kernel)) (fun _ => ?_)
  refine lv_iload hx hb dX4_readRow_11 (lv_at hl 0 rfl) ?_
  refine lv_aload_n hx hb dX4_readRow_13 rfl (lv_at hl 4 rfl) ?_
  refine jw_alen (v := 4) hx hb hE hP 0 1 rfl rfl (by decide +kernel) dX4_readRow_14 ?_
  refine lv_icmp_ge (tgt := 49) hx hb dX4_readRow_15 (by decide) (fun c9 => absurd c9 (by decide +kernel)) (fun _ => ?_)
  refine lv_aload_n hx hb dX4_readRow_18 rfl (lv_at hl 4 rfl) ?_
  refine lv_iload hx hb dX4_readRow_19 (lv_at hl 0 rfl) ?_
  refine lv_iload_n hx hb dX4_readRow_21 rfl (lv_at hl 2 rfl) ?_
  refine lv_iconst (v := 2) hx hb dX4_readRow_22 (by decide +kernel) ?_
  refine lv_iload_n hx hb dX4_readRow_23 rfl (lv_at hl 3 rfl) ?_
  refine lv_iconst (v := 1) hx hb dX4_readRow_24 (by decide +kernel) ?_
  refine jw_isub (v := 1) hx hb dX4_readRow_25 (by decide +kernel) ?_
  refine lv_iload hx hb dX4_readRow_26 (lv_at hl 0 rfl) ?_
  refine jw_isub (v := 0) hx hb dX4_readRow_28 (by decide +kernel) ?_
  refine jw_imul (v := 0) hx hb dX4_readRow_29 (by decide +kernel) ?_
  refine lv_iushr (v := 15) hx hb dX4_readRow_30 (by decide +kernel) ?_
  refine lv_iconst (v := 3) hx hb dX4_readRow_31 (by decide +kernel) ?_
  refine jw_iand (v := 3) hx hb dX4_readRow_32 (by decide +kernel) ?_
  refine jw_iast (ws' := [(h0, .inl (Y 1, 4, .inl (jw_l 0 [3, 3])))]) hx hb hE hP hD hS 0 1 [3, 3] rfl (by decide +kernel) (by decide +kernel) rfl dX4_readRow_33 (fun H locs hP hD hS => ?_)
  refine lv_iload_n hx hb dX4_readRow_34 rfl (lv_at hl 1 rfl) ?_
  refine lv_iconst (v := 1) hx hb dX4_readRow_35 (by decide +kernel) ?_
  refine lv_aload_n hx hb dX4_readRow_36 rfl (lv_at hl 4 rfl) ?_
  refine lv_iload hx hb dX4_readRow_37 (lv_at hl 0 rfl) ?_
  refine jw_iald (v := 3) hx hb hE hP 0 1 rfl (by decide +kernel) (by decide +kernel) dX4_readRow_39 ?_
  refine jw_ishl (v := 8) hx hb dX4_readRow_40 (by decide +kernel) ?_
  refine jw_ior (v := 8) hx hb dX4_readRow_41 (by decide +kernel) ?_
  refine lv_istore_n (lv' := [(3, .int 8), (4, .int 1), (0, .int 15), (1, .int 2), (2, .ref h0)]) hx hb dX4_readRow_42 rfl hl (by decide) rfl (fun ls hl => ?_)
  refine lv_iinc (v := 2) (lv' := [(4, .int 2), (3, .int 8), (0, .int 15), (1, .int 2), (2, .ref h0)]) hx hb dX4_readRow_43 hl (k := 1) rfl (by decide +kernel) (by decide) rfl (fun ls hl => ?_)
  refine lv_goto (tgt := 5) hx hb dX4_readRow_46 (by decide) ?_
  refine lv_iload hx hb dX4_readRow_5 (lv_at hl 0 rfl) ?_
  refine lv_iload_n hx hb dX4_readRow_7 rfl (lv_at hl 3 rfl) ?_
  refine lv_icmp_ge (tgt := 49) hx hb dX4_readRow_8 (by decide) (fun _ => ?_) (fun c9 => absurd (by decide +kernel) c9)
  refine lv_iload_n hx hb dX4_readRow_49 rfl (lv_at hl 1 rfl) ?_
  refine lv_iconst (v := 1) hx hb dX4_readRow_50 (by decide +kernel) ?_
  refine lv_iload_n hx hb dX4_readRow_51 rfl (lv_at hl 3 rfl) ?_
  refine jw_ishl (v := 4) hx hb dX4_readRow_52 (by decide +kernel) ?_
  refine lv_iconst (v := 1) hx hb dX4_readRow_53 (by decide +kernel) ?_
  refine jw_isub (v := 3) hx hb dX4_readRow_54 (by decide +kernel) ?_
  refine lv_icmp_ne (tgt := 62) hx hb dX4_readRow_55 (by decide) (fun _ => ?_) (fun c9 => absurd c9 (by decide +kernel))
  refine lv_iconst (v := 0) hx hb dX4_readRow_62 (by decide +kernel) ?_
  refine W.widen (k := 0) (n := 0) (Nat.le_of_ble_eq_true rfl) (Nat.le_of_ble_eq_true rfl) ?_
  exact jw_zret hx hb hr hlocks rfl rfl rfl hP hD hS dX4_readRow_63
set_option maxHeartbeats 4000000 in
set_option maxRecDepth 100000 in
theorem k34_X4_groupAt {l : Launch} {D : va_G} {Y : Nat → ClassId} {tt : Nat → Nat} (h0 h1 h2 h3 h4 h5 : Nat) (sz : Nat) : Met l yX4_groupAt wsX4_groupAt ({ frames := 0, cells := 0, slots := 0, locals := 0 }) (jw_Pc D Y tt [.ref h0, .int 0, .int 0] [(h0, .inr (7, [.int 2, .int 2, .int 3, .int 0, .ref h1, .ref h2, .ref h3, .ref h4, .ref h5])), (h1, .inl (Y 1, 96, .inl (jw_l 0 [0, 1, 0, 0, 1, 0])))] sz) (jw_Qi D (fun r => r = 0) (fun w => w = [(h0, .inr (7, [.int 2, .int 2, .int 3, .int 0, .ref h1, .ref h2, .ref h3, .ref h4, .ref h5])), (h1, .inl (Y 1, 96, .inl (jw_l 0 [0, 1, 0, 0, 1, 0])))]) (va_A [(h0, .inr (7, [.int 2, .int 2, .int 3, .int 0, .ref h1, .ref h2, .ref h3, .ref h4, .ref h5])), (h1, .inl (Y 1, 96, .inl (jw_l 0 [0, 1, 0, 0, 1, 0])))] sz)) 0 0 (va_A [(h0, .inr (7, [.int 2, .int 2, .int 3, .int 0, .ref h1, .ref h2, .ref h3, .ref h4, .ref h5])), (h1, .inl (Y 1, 96, .inl (jw_l 0 [0, 1, 0, 0, 1, 0])))] sz) := by
  refine jw_met (fun A => jw_Qi D (fun r => r = 0) (fun w => w = [(h0, .inr (7, [.int 2, .int 2, .int 3, .int 0, .ref h1, .ref h2, .ref h3, .ref h4, .ref h5])), (h1, .inl (Y 1, 96, .inl (jw_l 0 [0, 1, 0, 0, 1, 0])))]) A) (cc := cX4_groupAt) (maxL := 3) (ret := (some .int)) pn_X4_groupAt rfl rfl ?_
  intro p e s m below meth c A H locs ls hx hb hml hr hts hown hlocks hin hP hD hA hS hE hl
  have hown : s.vm.findClass RX4 = some m.cls := hown
  have hl : lv_has ls 3 [(0, .ref h0), (1, .int 0), (2, .int 0)] := hl
  refine lv_aload_n hx hb dX4_groupAt_0 rfl (lv_at hl 0 rfl) ?_
  refine va_get (D := D) (ci := 7) (v := .ref h1) (C := RX4) (T := TX4) (N := 9) hx hb hts iw_X4_groupAt__X4 hown hE.1 hP 0 rfl rfl 4 (by decide) (hts _ mw_X4_groupAt__1) (fun _ h9 => h9) rfl dX4_groupAt_1 ?_
  refine lv_iload_n hx hb dX4_groupAt_4 rfl (lv_at hl 1 rfl) ?_
  refine lv_iconst (v := 4) hx hb dX4_groupAt_5 (by decide +kernel) ?_
  refine jw_imul (v := 0) hx hb dX4_groupAt_6 (by decide +kernel) ?_
  refine lv_iload_n hx hb dX4_groupAt_7 rfl (lv_at hl 2 rfl) ?_
  refine jw_iadd (v := 0) hx hb dX4_groupAt_8 (by decide +kernel) ?_
  refine jw_iald (v := 0) hx hb hE hP 1 0 rfl (by decide +kernel) (by decide +kernel) dX4_groupAt_9 ?_
  refine W.widen (k := 0) (n := 0) (Nat.le_of_ble_eq_true rfl) (Nat.le_of_ble_eq_true rfl) ?_
  exact jw_iret hx hb hr hlocks rfl rfl hP hD hS dX4_groupAt_10
set_option maxHeartbeats 4000000 in
set_option maxRecDepth 100000 in
theorem k35_X4_groupAt {l : Launch} {D : va_G} {Y : Nat → ClassId} {tt : Nat → Nat} (h0 h1 h2 h3 h4 h5 : Nat) (sz : Nat) : Met l yX4_groupAt wsX4_groupAt ({ frames := 0, cells := 0, slots := 0, locals := 0 }) (jw_Pc D Y tt [.ref h0, .int 0, .int 1] [(h0, .inr (7, [.int 2, .int 2, .int 3, .int 0, .ref h1, .ref h2, .ref h3, .ref h4, .ref h5])), (h1, .inl (Y 1, 96, .inl (jw_l 0 [0, 1, 0, 0, 1, 0])))] sz) (jw_Qi D (fun r => r = 1) (fun w => w = [(h0, .inr (7, [.int 2, .int 2, .int 3, .int 0, .ref h1, .ref h2, .ref h3, .ref h4, .ref h5])), (h1, .inl (Y 1, 96, .inl (jw_l 0 [0, 1, 0, 0, 1, 0])))]) (va_A [(h0, .inr (7, [.int 2, .int 2, .int 3, .int 0, .ref h1, .ref h2, .ref h3, .ref h4, .ref h5])), (h1, .inl (Y 1, 96, .inl (jw_l 0 [0, 1, 0, 0, 1, 0])))] sz)) 0 0 (va_A [(h0, .inr (7, [.int 2, .int 2, .int 3, .int 0, .ref h1, .ref h2, .ref h3, .ref h4, .ref h5])), (h1, .inl (Y 1, 96, .inl (jw_l 0 [0, 1, 0, 0, 1, 0])))] sz) := by
  refine jw_met (fun A => jw_Qi D (fun r => r = 1) (fun w => w = [(h0, .inr (7, [.int 2, .int 2, .int 3, .int 0, .ref h1, .ref h2, .ref h3, .ref h4, .ref h5])), (h1, .inl (Y 1, 96, .inl (jw_l 0 [0, 1, 0, 0, 1, 0])))]) A) (cc := cX4_groupAt) (maxL := 3) (ret := (some .int)) pn_X4_groupAt rfl rfl ?_
  intro p e s m below meth c A H locs ls hx hb hml hr hts hown hlocks hin hP hD hA hS hE hl
  have hown : s.vm.findClass RX4 = some m.cls := hown
  have hl : lv_has ls 3 [(0, .ref h0), (1, .int 0), (2, .int 1)] := hl
  refine lv_aload_n hx hb dX4_groupAt_0 rfl (lv_at hl 0 rfl) ?_
  refine va_get (D := D) (ci := 7) (v := .ref h1) (C := RX4) (T := TX4) (N := 9) hx hb hts iw_X4_groupAt__X4 hown hE.1 hP 0 rfl rfl 4 (by decide) (hts _ mw_X4_groupAt__1) (fun _ h9 => h9) rfl dX4_groupAt_1 ?_
  refine lv_iload_n hx hb dX4_groupAt_4 rfl (lv_at hl 1 rfl) ?_
  refine lv_iconst (v := 4) hx hb dX4_groupAt_5 (by decide +kernel) ?_
  refine jw_imul (v := 0) hx hb dX4_groupAt_6 (by decide +kernel) ?_
  refine lv_iload_n hx hb dX4_groupAt_7 rfl (lv_at hl 2 rfl) ?_
  refine jw_iadd (v := 1) hx hb dX4_groupAt_8 (by decide +kernel) ?_
  refine jw_iald (v := 1) hx hb hE hP 1 1 rfl (by decide +kernel) (by decide +kernel) dX4_groupAt_9 ?_
  refine W.widen (k := 0) (n := 0) (Nat.le_of_ble_eq_true rfl) (Nat.le_of_ble_eq_true rfl) ?_
  exact jw_iret hx hb hr hlocks rfl rfl hP hD hS dX4_groupAt_10
set_option maxHeartbeats 4000000 in
set_option maxRecDepth 100000 in
theorem k36_J6_bitCount_0f7a4 {l : Launch} {D : va_G} {Y : Nat → ClassId} {tt : Nat → Nat} (sz : Nat) : Met l yJ6_bitCount_0f7a4 wsJ6_bitCount_0f7a4 ({ frames := 0, cells := 0, slots := 0, locals := 0 }) (jw_Pc D Y tt [.int 1] [] sz) (jw_Qi D (fun r => r = 1) (fun w => w = []) (va_A [] sz)) 0 0 (va_A [] sz) := by
  refine jw_met (fun A => jw_Qi D (fun r => r = 1) (fun w => w = []) A) (cc := cJ6_bitCount_0f7a4) (maxL := 1) (ret := (some .int)) pn_J6_bitCount_0f7a4 rfl rfl ?_
  intro p e s m below meth c A H locs ls hx hb hml hr hts hown hlocks hin hP hD hA hS hE hl
  have hown : s.vm.findClass RJ6 = some m.cls := hown
  have hl : lv_has ls 1 [(0, .int 1)] := hl
  refine lv_iload_n hx hb dJ6_bitCount_0f7a4_0 rfl (lv_at hl 0 rfl) ?_
  refine lv_iload_n hx hb dJ6_bitCount_0f7a4_1 rfl (lv_at hl 0 rfl) ?_
  refine lv_iconst (v := 1) hx hb dJ6_bitCount_0f7a4_2 (by decide +kernel) ?_
  refine lv_iushr (v := 0) hx hb dJ6_bitCount_0f7a4_3 (by decide +kernel) ?_
  refine lv_ldcw (v := 1431655765) hx hb hown (hts _ mw_J6_bitCount_0f7a4__1) dJ6_bitCount_0f7a4_4 ?_
  refine jw_iand (v := 0) hx hb dJ6_bitCount_0f7a4_7 (by decide +kernel) ?_
  refine jw_isub (v := 1) hx hb dJ6_bitCount_0f7a4_8 (by decide +kernel) ?_
  refine lv_istore_n (lv' := [(0, .int 1)]) hx hb dJ6_bitCount_0f7a4_9 rfl hl (by decide) rfl (fun ls hl => ?_)
  refine lv_iload_n hx hb dJ6_bitCount_0f7a4_10 rfl (lv_at hl 0 rfl) ?_
  refine lv_ldcw (v := 858993459) hx hb hown (hts _ mw_J6_bitCount_0f7a4__2) dJ6_bitCount_0f7a4_11 ?_
  refine jw_iand (v := 1) hx hb dJ6_bitCount_0f7a4_14 (by decide +kernel) ?_
  refine lv_iload_n hx hb dJ6_bitCount_0f7a4_15 rfl (lv_at hl 0 rfl) ?_
  refine lv_iconst (v := 2) hx hb dJ6_bitCount_0f7a4_16 (by decide +kernel) ?_
  refine lv_iushr (v := 0) hx hb dJ6_bitCount_0f7a4_17 (by decide +kernel) ?_
  refine lv_ldcw (v := 858993459) hx hb hown (hts _ mw_J6_bitCount_0f7a4__2) dJ6_bitCount_0f7a4_18 ?_
  refine jw_iand (v := 0) hx hb dJ6_bitCount_0f7a4_21 (by decide +kernel) ?_
  refine jw_iadd (v := 1) hx hb dJ6_bitCount_0f7a4_22 (by decide +kernel) ?_
  refine lv_istore_n (lv' := [(0, .int 1)]) hx hb dJ6_bitCount_0f7a4_23 rfl hl (by decide) rfl (fun ls hl => ?_)
  refine lv_iload_n hx hb dJ6_bitCount_0f7a4_24 rfl (lv_at hl 0 rfl) ?_
  refine lv_iload_n hx hb dJ6_bitCount_0f7a4_25 rfl (lv_at hl 0 rfl) ?_
  refine lv_iconst (v := 4) hx hb dJ6_bitCount_0f7a4_26 (by decide +kernel) ?_
  refine lv_iushr (v := 0) hx hb dJ6_bitCount_0f7a4_27 (by decide +kernel) ?_
  refine jw_iadd (v := 1) hx hb dJ6_bitCount_0f7a4_28 (by decide +kernel) ?_
  refine lv_ldcw (v := 252645135) hx hb hown (hts _ mw_J6_bitCount_0f7a4__3) dJ6_bitCount_0f7a4_29 ?_
  refine jw_iand (v := 1) hx hb dJ6_bitCount_0f7a4_32 (by decide +kernel) ?_
  refine lv_istore_n (lv' := [(0, .int 1)]) hx hb dJ6_bitCount_0f7a4_33 rfl hl (by decide) rfl (fun ls hl => ?_)
  refine lv_iload_n hx hb dJ6_bitCount_0f7a4_34 rfl (lv_at hl 0 rfl) ?_
  refine lv_iload_n hx hb dJ6_bitCount_0f7a4_35 rfl (lv_at hl 0 rfl) ?_
  refine lv_bipush (v := 8) hx hb dJ6_bitCount_0f7a4_36 (by decide +kernel) ?_
  refine lv_iushr (v := 0) hx hb dJ6_bitCount_0f7a4_38 (by decide +kernel) ?_
  refine jw_iadd (v := 1) hx hb dJ6_bitCount_0f7a4_39 (by decide +kernel) ?_
  refine lv_istore_n (lv' := [(0, .int 1)]) hx hb dJ6_bitCount_0f7a4_40 rfl hl (by decide) rfl (fun ls hl => ?_)
  refine lv_iload_n hx hb dJ6_bitCount_0f7a4_41 rfl (lv_at hl 0 rfl) ?_
  refine lv_iload_n hx hb dJ6_bitCount_0f7a4_42 rfl (lv_at hl 0 rfl) ?_
  refine lv_bipush (v := 16) hx hb dJ6_bitCount_0f7a4_43 (by decide +kernel) ?_
  refine lv_iushr (v := 0) hx hb dJ6_bitCount_0f7a4_45 (by decide +kernel) ?_
  refine jw_iadd (v := 1) hx hb dJ6_bitCount_0f7a4_46 (by decide +kernel) ?_
  refine lv_istore_n (lv' := [(0, .int 1)]) hx hb dJ6_bitCount_0f7a4_47 rfl hl (by decide) rfl (fun ls hl => ?_)
  refine lv_iload_n hx hb dJ6_bitCount_0f7a4_48 rfl (lv_at hl 0 rfl) ?_
  refine lv_bipush (v := 63) hx hb dJ6_bitCount_0f7a4_49 (by decide +kernel) ?_
  refine jw_iand (v := 1) hx hb dJ6_bitCount_0f7a4_51 (by decide +kernel) ?_
  refine W.widen (k := 0) (n := 0) (Nat.le_of_ble_eq_true rfl) (Nat.le_of_ble_eq_true rfl) ?_
  exact jw_iret hx hb hr hlocks rfl rfl hP hD hS dJ6_bitCount_0f7a4_52
set_option maxHeartbeats 4000000 in
set_option maxRecDepth 100000 in
theorem k37_X4_only {l : Launch} {D : va_G} {Y : Nat → ClassId} {tt : Nat → Nat} (sz : Nat) : Met l yX4_only wsX4_only ({ frames := 1, cells := 0, slots := 0, locals := 20 }) (jw_Pc D Y tt [.int 2] [] sz) (jw_Qi D (fun r => r = 1) (fun w => w = []) (va_A [] sz)) 0 0 (va_A [] sz) := by
  refine jw_met (fun A => jw_Qi D (fun r => r = 1) (fun w => w = []) A) (cc := cX4_only) (maxL := 1) (ret := (some .int)) pn_X4_only rfl rfl ?_
  intro p e s m below meth c A H locs ls hx hb hml hr hts hown hlocks hin hP hD hA hS hE hl
  have hown : s.vm.findClass RX4 = some m.cls := hown
  have hl : lv_has ls 1 [(0, .int 2)] := hl
  refine lv_iload_n hx hb dX4_only_0 rfl (lv_at hl 0 rfl) ?_
  refine lv_if_ne (tgt := 8) hx hb dX4_only_1 (by decide) (fun _ => ?_) (fun c9 => absurd c9 (by decide +kernel))
  refine lv_iload_n hx hb dX4_only_8 rfl (lv_at hl 0 rfl) ?_
  refine lv_iload_n hx hb dX4_only_9 rfl (lv_at hl 0 rfl) ?_
  refine jw_ineg (v := (-2)) hx hb dX4_only_10 (by decide +kernel) ?_
  refine jw_iand (v := 2) hx hb dX4_only_11 (by decide +kernel) ?_
  refine lv_iconst (v := 1) hx hb dX4_only_12 (by decide +kernel) ?_
  refine jw_isub (v := 1) hx hb dX4_only_13 (by decide +kernel) ?_
  refine jw_mi (wc := []) (cs := 0) (ss := 0) (va_runS (As := [.int 1]) (rest := []) ⟨hx, hb, hml, hown, hts⟩ (k36_J6_bitCount_0f7a4 H.size) (va_cwS 1 hts gX4_only_J6_bitCount_0f7a4 rfl rfl rfl ydS_J6_bitCount_0f7a4 ⟨Nat.le_of_ble_eq_true rfl, Nat.le_of_ble_eq_true rfl⟩) (jw_mpreS hP hD hS hA hE [] rfl) rfl rfl hl.1 rfl (lv_room (Nat.le_of_ble_eq_true rfl)) dX4_only_14 ⟨Nat.le_of_ble_eq_true rfl, Nat.le_of_ble_eq_true rfl⟩) hP hD hS hA [] rfl rfl rfl (fun r9 w1 H locs hr9 hw9 hP hD hS => ?_)
  subst hr9
  subst hw9
  have hP : va_P D vwCl [] H := hP
  have hD : va_D A [] := hD
  refine W.widen (k := 0) (n := 0) (Nat.le_of_ble_eq_true rfl) (Nat.le_of_ble_eq_true rfl) ?_
  exact jw_iret hx hb hr hlocks rfl rfl hP hD hS dX4_only_17
set_option maxHeartbeats 4000000 in
set_option maxRecDepth 100000 in
theorem k38_X4_rankWithSwapped {l : Launch} {D : va_G} {Y : Nat → ClassId} {tt : Nat → Nat} (h0 h1 h2 h3 h4 h5 : Nat) (sz : Nat) : Met l yX4_rankWithSwapped wsX4_rankWithSwapped ({ frames := 2, cells := 0, slots := 0, locals := 40 }) (jw_Pc D Y tt [.ref h0, .int 0, .int 0, .int 1] [(h0, .inr (7, [.int 2, .int 2, .int 3, .int 0, .ref h1, .ref h3, .ref h2, .ref h4, .ref h5])), (h1, .inl (Y 1, 96, .inl (jw_l 0 [0, 1, 0, 0, 1, 0]))), (h2, .inl (Y 1, 16, .inl (jw_l 0 [1, 2, 0, 0, 2, 1])))] sz) (jw_Qi D (fun r => r = 1) (fun w => w = [(h0, .inr (7, [.int 2, .int 2, .int 3, .int 0, .ref h1, .ref h3, .ref h2, .ref h4, .ref h5])), (h1, .inl (Y 1, 96, .inl (jw_l 0 [0, 1, 0, 0, 1, 0]))), (h2, .inl (Y 1, 16, .inl (jw_l 0 [1, 2, 0, 0, 2, 1])))]) (va_A [(h0, .inr (7, [.int 2, .int 2, .int 3, .int 0, .ref h1, .ref h3, .ref h2, .ref h4, .ref h5])), (h1, .inl (Y 1, 96, .inl (jw_l 0 [0, 1, 0, 0, 1, 0]))), (h2, .inl (Y 1, 16, .inl (jw_l 0 [1, 2, 0, 0, 2, 1])))] sz)) 0 0 (va_A [(h0, .inr (7, [.int 2, .int 2, .int 3, .int 0, .ref h1, .ref h3, .ref h2, .ref h4, .ref h5])), (h1, .inl (Y 1, 96, .inl (jw_l 0 [0, 1, 0, 0, 1, 0]))), (h2, .inl (Y 1, 16, .inl (jw_l 0 [1, 2, 0, 0, 2, 1])))] sz) := by
  refine jw_met (fun A => jw_Qi D (fun r => r = 1) (fun w => w = [(h0, .inr (7, [.int 2, .int 2, .int 3, .int 0, .ref h1, .ref h3, .ref h2, .ref h4, .ref h5])), (h1, .inl (Y 1, 96, .inl (jw_l 0 [0, 1, 0, 0, 1, 0]))), (h2, .inl (Y 1, 16, .inl (jw_l 0 [1, 2, 0, 0, 2, 1])))]) A) (cc := cX4_rankWithSwapped) (maxL := 8) (ret := (some .int)) pn_X4_rankWithSwapped rfl rfl ?_
  intro p e s m below meth c A H locs ls hx hb hml hr hts hown hlocks hin hP hD hA hS hE hl
  have hown : s.vm.findClass RX4 = some m.cls := hown
  have hl : lv_has ls 8 [(0, .ref h0), (1, .int 0), (2, .int 0), (3, .int 1)] := hl
  refine lv_aload_n hx hb dX4_rankWithSwapped_0 rfl (lv_at hl 0 rfl) ?_
  refine va_get (D := D) (ci := 7) (v := .int 3) (C := RX4) (T := TX4) (N := 9) hx hb hts iw_X4_rankWithSwapped__X4 hown hE.1 hP 0 rfl rfl 2 (by decide) (hts _ mw_X4_rankWithSwapped__1) (fun _ h9 => h9) rfl dX4_rankWithSwapped_1 ?_
  refine lv_istore (lv' := [(4, .int 3), (0, .ref h0), (1, .int 0), (2, .int 0), (3, .int 1)]) hx hb dX4_rankWithSwapped_4 hl (by decide) rfl (fun ls hl => ?_)
  refine lv_iconst (v := 0) hx hb dX4_rankWithSwapped_6 (by decide +kernel) ?_
  refine lv_istore (lv' := [(5, .int 0), (4, .int 3), (0, .ref h0), (1, .int 0), (2, .int 0), (3, .int 1)]) hx hb dX4_rankWithSwapped_7 hl (by decide) rfl (fun ls hl => ?_)
  refine lv_iload hx hb dX4_rankWithSwapped_9 (lv_at hl 0 rfl) ?_
  refine lv_aload_n hx hb dX4_rankWithSwapped_11 rfl (lv_at hl 2 rfl) ?_
  refine va_get (D := D) (ci := 7) (v := .int 2) (C := RX4) (T := TX4) (N := 9) hx hb hts iw_X4_rankWithSwapped__X4 hown hE.1 hP 0 rfl rfl 0 (by decide) (hts _ mw_X4_rankWithSwapped__2) (fun _ h9 => h9) rfl dX4_rankWithSwapped_12 ?_
  refine lv_icmp_ge (tgt := 74) hx hb dX4_rankWithSwapped_15 (by decide) (fun c9 => absurd c9 (by decide +kernel)) (fun _ => ?_)
  refine lv_aload_n hx hb dX4_rankWithSwapped_18 rfl (lv_at hl 2 rfl) ?_
  refine lv_iload_n hx hb dX4_rankWithSwapped_19 rfl (lv_at hl 3 rfl) ?_
  refine lv_iload hx hb dX4_rankWithSwapped_20 (lv_at hl 0 rfl) ?_
  refine jw_mi (wc := [(h0, .inr (7, [.int 2, .int 2, .int 3, .int 0, .ref h1, .ref h3, .ref h2, .ref h4, .ref h5])), (h1, .inl (Y 1, 96, .inl (jw_l 0 [0, 1, 0, 0, 1, 0])))]) (cs := 0) (ss := 0) (va_runV (As := [.int 0, .int 0]) (rest := []) ⟨hx, hb, hml, hown, hts⟩ (k34_X4_groupAt h0 h1 h3 h2 h4 h5 H.size) (cwV 2 hts gX4_rankWithSwapped_X4_groupAt rfl rfl rfl ydV_X4_groupAt ⟨Nat.le_of_ble_eq_true rfl, Nat.le_of_ble_eq_true rfl⟩) (jw_mpreV (ci := 7) (q0 := 0) hP hD hS hA hE [true, true] rfl rfl rfl) rfl rfl hl.1 rfl (lv_room (Nat.le_of_ble_eq_true rfl)) dX4_rankWithSwapped_22 ⟨Nat.le_of_ble_eq_true rfl, Nat.le_of_ble_eq_true rfl⟩) hP hD hS hA [true, true] rfl rfl rfl (fun r9 w1 H locs hr9 hw9 hP hD hS => ?_)
  subst hr9
  subst hw9
  have hP : va_P D vwCl [(h0, .inr (7, [.int 2, .int 2, .int 3, .int 0, .ref h1, .ref h3, .ref h2, .ref h4, .ref h5])), (h1, .inl (Y 1, 96, .inl (jw_l 0 [0, 1, 0, 0, 1, 0]))), (h2, .inl (Y 1, 16, .inl (jw_l 0 [1, 2, 0, 0, 2, 1])))] H := hP
  have hD : va_D A [(h0, .inr (7, [.int 2, .int 2, .int 3, .int 0, .ref h1, .ref h3, .ref h2, .ref h4, .ref h5])), (h1, .inl (Y 1, 96, .inl (jw_l 0 [0, 1, 0, 0, 1, 0]))), (h2, .inl (Y 1, 16, .inl (jw_l 0 [1, 2, 0, 0, 2, 1])))] := hD
  refine lv_istore (lv' := [(6, .int 0), (5, .int 0), (4, .int 3), (0, .ref h0), (1, .int 0), (2, .int 0), (3, .int 1)]) hx hb dX4_rankWithSwapped_25 hl (by decide) rfl (fun ls hl => ?_)
  refine lv_iload hx hb dX4_rankWithSwapped_27 (lv_at hl 0 rfl) ?_
  refine lv_iload_n hx hb dX4_rankWithSwapped_29 rfl (lv_at hl 5 rfl) ?_
  refine lv_icmp_ne (tgt := 37) hx hb dX4_rankWithSwapped_30 (by decide) (fun c9 => absurd (by decide +kernel) c9) (fun _ => ?_)
  refine lv_iload_n hx hb dX4_rankWithSwapped_33 rfl (lv_at hl 6 rfl) ?_
  refine lv_goto (tgt := 49) hx hb dX4_rankWithSwapped_34 (by decide) ?_
  refine lv_istore (lv' := [(7, .int 1), (6, .int 0), (5, .int 0), (4, .int 3), (0, .ref h0), (1, .int 0), (2, .int 0), (3, .int 1)]) hx hb dX4_rankWithSwapped_49 hl (by decide) rfl (fun ls hl => ?_)
  refine lv_iload hx hb dX4_rankWithSwapped_51 (lv_at hl 3 rfl) ?_
  refine lv_aload_n hx hb dX4_rankWithSwapped_53 rfl (lv_at hl 4 rfl) ?_
  refine va_get (D := D) (ci := 7) (v := .ref h2) (C := RX4) (T := TX4) (N := 9) hx hb hts iw_X4_rankWithSwapped__X4 hown hE.1 hP 0 rfl rfl 6 (by decide) (hts _ mw_X4_rankWithSwapped__3) (fun _ h9 => h9) rfl dX4_rankWithSwapped_54 ?_
  refine lv_iload hx hb dX4_rankWithSwapped_57 (lv_at hl 2 rfl) ?_
  refine lv_iconst (v := 4) hx hb dX4_rankWithSwapped_59 (by decide +kernel) ?_
  refine jw_imul (v := 0) hx hb dX4_rankWithSwapped_60 (by decide +kernel) ?_
  refine lv_iload hx hb dX4_rankWithSwapped_61 (lv_at hl 0 rfl) ?_
  refine jw_iadd (v := 1) hx hb dX4_rankWithSwapped_63 (by decide +kernel) ?_
  refine jw_iald (v := 2) hx hb hE hP 2 1 rfl (by decide +kernel) (by decide +kernel) dX4_rankWithSwapped_64 ?_
  refine jw_iand (v := 2) hx hb dX4_rankWithSwapped_65 (by decide +kernel) ?_
  refine lv_istore (lv' := [(4, .int 2), (7, .int 1), (6, .int 0), (5, .int 0), (0, .ref h0), (1, .int 0), (2, .int 0), (3, .int 1)]) hx hb dX4_rankWithSwapped_66 hl (by decide) rfl (fun ls hl => ?_)
  refine lv_iinc (v := 1) (lv' := [(5, .int 1), (4, .int 2), (7, .int 1), (6, .int 0), (0, .ref h0), (1, .int 0), (2, .int 0), (3, .int 1)]) hx hb dX4_rankWithSwapped_68 hl (k := 3) rfl (by decide +kernel) (by decide) rfl (fun ls hl => ?_)
  refine lv_goto (tgt := 9) hx hb dX4_rankWithSwapped_71 (by decide) ?_
  refine lv_iload hx hb dX4_rankWithSwapped_9 (lv_at hl 0 rfl) ?_
  refine lv_aload_n hx hb dX4_rankWithSwapped_11 rfl (lv_at hl 4 rfl) ?_
  refine va_get (D := D) (ci := 7) (v := .int 2) (C := RX4) (T := TX4) (N := 9) hx hb hts iw_X4_rankWithSwapped__X4 hown hE.1 hP 0 rfl rfl 0 (by decide) (hts _ mw_X4_rankWithSwapped__2) (fun _ h9 => h9) rfl dX4_rankWithSwapped_12 ?_
  refine lv_icmp_ge (tgt := 74) hx hb dX4_rankWithSwapped_15 (by decide) (fun c9 => absurd c9 (by decide +kernel)) (fun _ => ?_)
  refine lv_aload_n hx hb dX4_rankWithSwapped_18 rfl (lv_at hl 4 rfl) ?_
  refine lv_iload_n hx hb dX4_rankWithSwapped_19 rfl (lv_at hl 5 rfl) ?_
  refine lv_iload hx hb dX4_rankWithSwapped_20 (lv_at hl 0 rfl) ?_
  refine jw_mi (wc := [(h0, .inr (7, [.int 2, .int 2, .int 3, .int 0, .ref h1, .ref h3, .ref h2, .ref h4, .ref h5])), (h1, .inl (Y 1, 96, .inl (jw_l 0 [0, 1, 0, 0, 1, 0])))]) (cs := 0) (ss := 0) (va_runV (As := [.int 0, .int 1]) (rest := []) ⟨hx, hb, hml, hown, hts⟩ (k35_X4_groupAt h0 h1 h3 h2 h4 h5 H.size) (cwV 2 hts gX4_rankWithSwapped_X4_groupAt rfl rfl rfl ydV_X4_groupAt ⟨Nat.le_of_ble_eq_true rfl, Nat.le_of_ble_eq_true rfl⟩) (jw_mpreV (ci := 7) (q0 := 0) hP hD hS hA hE [true, true] rfl rfl rfl) rfl rfl hl.1 rfl (lv_room (Nat.le_of_ble_eq_true rfl)) dX4_rankWithSwapped_22 ⟨Nat.le_of_ble_eq_true rfl, Nat.le_of_ble_eq_true rfl⟩) hP hD hS hA [true, true] rfl rfl rfl (fun r9 w1 H locs hr9 hw9 hP hD hS => ?_)
  subst hr9
  subst hw9
  have hP : va_P D vwCl [(h0, .inr (7, [.int 2, .int 2, .int 3, .int 0, .ref h1, .ref h3, .ref h2, .ref h4, .ref h5])), (h1, .inl (Y 1, 96, .inl (jw_l 0 [0, 1, 0, 0, 1, 0]))), (h2, .inl (Y 1, 16, .inl (jw_l 0 [1, 2, 0, 0, 2, 1])))] H := hP
  have hD : va_D A [(h0, .inr (7, [.int 2, .int 2, .int 3, .int 0, .ref h1, .ref h3, .ref h2, .ref h4, .ref h5])), (h1, .inl (Y 1, 96, .inl (jw_l 0 [0, 1, 0, 0, 1, 0]))), (h2, .inl (Y 1, 16, .inl (jw_l 0 [1, 2, 0, 0, 2, 1])))] := hD
  refine lv_istore (lv' := [(6, .int 1), (5, .int 1), (4, .int 2), (7, .int 1), (0, .ref h0), (1, .int 0), (2, .int 0), (3, .int 1)]) hx hb dX4_rankWithSwapped_25 hl (by decide) rfl (fun ls hl => ?_)
  refine lv_iload hx hb dX4_rankWithSwapped_27 (lv_at hl 0 rfl) ?_
  refine lv_iload_n hx hb dX4_rankWithSwapped_29 rfl (lv_at hl 6 rfl) ?_
  refine lv_icmp_ne (tgt := 37) hx hb dX4_rankWithSwapped_30 (by decide) (fun _ => ?_) (fun c9 => absurd c9 (by decide +kernel))
  refine lv_iload hx hb dX4_rankWithSwapped_37 (lv_at hl 0 rfl) ?_
  refine lv_iload_n hx hb dX4_rankWithSwapped_39 rfl (lv_at hl 7 rfl) ?_
  refine lv_icmp_ne (tgt := 47) hx hb dX4_rankWithSwapped_40 (by decide) (fun c9 => absurd (by decide +kernel) c9) (fun _ => ?_)
  refine lv_iload_n hx hb dX4_rankWithSwapped_43 rfl (lv_at hl 6 rfl) ?_
  refine lv_goto (tgt := 49) hx hb dX4_rankWithSwapped_44 (by decide) ?_
  refine lv_istore (lv' := [(7, .int 0), (6, .int 1), (5, .int 1), (4, .int 2), (0, .ref h0), (1, .int 0), (2, .int 0), (3, .int 1)]) hx hb dX4_rankWithSwapped_49 hl (by decide) rfl (fun ls hl => ?_)
  refine lv_iload hx hb dX4_rankWithSwapped_51 (lv_at hl 3 rfl) ?_
  refine lv_aload_n hx hb dX4_rankWithSwapped_53 rfl (lv_at hl 4 rfl) ?_
  refine va_get (D := D) (ci := 7) (v := .ref h2) (C := RX4) (T := TX4) (N := 9) hx hb hts iw_X4_rankWithSwapped__X4 hown hE.1 hP 0 rfl rfl 6 (by decide) (hts _ mw_X4_rankWithSwapped__3) (fun _ h9 => h9) rfl dX4_rankWithSwapped_54 ?_
  refine lv_iload hx hb dX4_rankWithSwapped_57 (lv_at hl 2 rfl) ?_
  refine lv_iconst (v := 4) hx hb dX4_rankWithSwapped_59 (by decide +kernel) ?_
  refine jw_imul (v := 4) hx hb dX4_rankWithSwapped_60 (by decide +kernel) ?_
  refine lv_iload hx hb dX4_rankWithSwapped_61 (lv_at hl 0 rfl) ?_
  refine jw_iadd (v := 4) hx hb dX4_rankWithSwapped_63 (by decide +kernel) ?_
  refine jw_iald (v := 2) hx hb hE hP 2 4 rfl (by decide +kernel) (by decide +kernel) dX4_rankWithSwapped_64 ?_
  refine jw_iand (v := 2) hx hb dX4_rankWithSwapped_65 (by decide +kernel) ?_
  refine lv_istore (lv' := [(4, .int 2), (7, .int 0), (6, .int 1), (5, .int 1), (0, .ref h0), (1, .int 0), (2, .int 0), (3, .int 1)]) hx hb dX4_rankWithSwapped_66 hl (by decide) rfl (fun ls hl => ?_)
  refine lv_iinc (v := 2) (lv' := [(5, .int 2), (4, .int 2), (7, .int 0), (6, .int 1), (0, .ref h0), (1, .int 0), (2, .int 0), (3, .int 1)]) hx hb dX4_rankWithSwapped_68 hl (k := 3) rfl (by decide +kernel) (by decide) rfl (fun ls hl => ?_)
  refine lv_goto (tgt := 9) hx hb dX4_rankWithSwapped_71 (by decide) ?_
  refine lv_iload hx hb dX4_rankWithSwapped_9 (lv_at hl 0 rfl) ?_
  refine lv_aload_n hx hb dX4_rankWithSwapped_11 rfl (lv_at hl 4 rfl) ?_
  refine va_get (D := D) (ci := 7) (v := .int 2) (C := RX4) (T := TX4) (N := 9) hx hb hts iw_X4_rankWithSwapped__X4 hown hE.1 hP 0 rfl rfl 0 (by decide) (hts _ mw_X4_rankWithSwapped__2) (fun _ h9 => h9) rfl dX4_rankWithSwapped_12 ?_
  refine lv_icmp_ge (tgt := 74) hx hb dX4_rankWithSwapped_15 (by decide) (fun _ => ?_) (fun c9 => absurd (by decide +kernel) c9)
  refine lv_iload hx hb dX4_rankWithSwapped_74 (lv_at hl 1 rfl) ?_
  refine jw_mi (wc := []) (cs := 0) (ss := 0) (va_runS (As := [.int 2]) (rest := []) ⟨hx, hb, hml, hown, hts⟩ (k37_X4_only H.size) (va_cwS 1 hts gX4_rankWithSwapped_X4_only rfl rfl rfl ydS_X4_only ⟨Nat.le_of_ble_eq_true rfl, Nat.le_of_ble_eq_true rfl⟩) (jw_mpreS hP hD hS hA hE [] rfl) rfl rfl hl.1 rfl (lv_room (Nat.le_of_ble_eq_true rfl)) dX4_rankWithSwapped_76 ⟨Nat.le_of_ble_eq_true rfl, Nat.le_of_ble_eq_true rfl⟩) hP hD hS hA [] rfl rfl rfl (fun r9 w1 H locs hr9 hw9 hP hD hS => ?_)
  subst hr9
  subst hw9
  have hP : va_P D vwCl [(h0, .inr (7, [.int 2, .int 2, .int 3, .int 0, .ref h1, .ref h3, .ref h2, .ref h4, .ref h5])), (h1, .inl (Y 1, 96, .inl (jw_l 0 [0, 1, 0, 0, 1, 0]))), (h2, .inl (Y 1, 16, .inl (jw_l 0 [1, 2, 0, 0, 2, 1])))] H := hP
  have hD : va_D A [(h0, .inr (7, [.int 2, .int 2, .int 3, .int 0, .ref h1, .ref h3, .ref h2, .ref h4, .ref h5])), (h1, .inl (Y 1, 96, .inl (jw_l 0 [0, 1, 0, 0, 1, 0]))), (h2, .inl (Y 1, 16, .inl (jw_l 0 [1, 2, 0, 0, 2, 1])))] := hD
  refine W.widen (k := 0) (n := 0) (Nat.le_of_ble_eq_true rfl) (Nat.le_of_ble_eq_true rfl) ?_
  exact jw_iret hx hb hr hlocks rfl rfl hP hD hS dX4_rankWithSwapped_79
set_option maxHeartbeats 4000000 in
set_option maxRecDepth 100000 in
theorem k39_X4_setSwaps {l : Launch} {D : va_G} {Y : Nat → ClassId} {tt : Nat → Nat} (h0 h1 h2 h3 h4 h5 : Nat) (sz : Nat) : Met l yX4_setSwaps wsX4_setSwaps ({ frames := 3, cells := 0, slots := 0, locals := 67 }) (jw_Pc D Y tt [.ref h0, .int 0] [(h0, .inr (7, [.int 2, .int 2, .int 3, .int 0, .ref h1, .ref h4, .ref h2, .ref h3, .ref h5])), (h1, .inl (Y 1, 96, .inl (jw_l 0 [0, 1, 0, 0, 1, 0]))), (h2, .inl (Y 1, 16, .inl (jw_l 0 [1, 2, 0, 0, 2, 1]))), (h3, .inl (Y 1, 144, .inl (jw_l 0 [])))] sz) (jw_Qv D (fun w => w = [(h0, .inr (7, [.int 2, .int 2, .int 3, .int 1, .ref h1, .ref h4, .ref h2, .ref h3, .ref h5])), (h1, .inl (Y 1, 96, .inl (jw_l 0 [0, 1, 0, 0, 1, 0]))), (h2, .inl (Y 1, 16, .inl (jw_l 0 [1, 2, 0, 0, 2, 1]))), (h3, .inl (Y 1, 144, .inl (jw_l 0 [1])))]) (va_A [(h0, .inr (7, [.int 2, .int 2, .int 3, .int 0, .ref h1, .ref h4, .ref h2, .ref h3, .ref h5])), (h1, .inl (Y 1, 96, .inl (jw_l 0 [0, 1, 0, 0, 1, 0]))), (h2, .inl (Y 1, 16, .inl (jw_l 0 [1, 2, 0, 0, 2, 1]))), (h3, .inl (Y 1, 144, .inl (jw_l 0 [])))] sz)) 0 0 (va_A [(h0, .inr (7, [.int 2, .int 2, .int 3, .int 0, .ref h1, .ref h4, .ref h2, .ref h3, .ref h5])), (h1, .inl (Y 1, 96, .inl (jw_l 0 [0, 1, 0, 0, 1, 0]))), (h2, .inl (Y 1, 16, .inl (jw_l 0 [1, 2, 0, 0, 2, 1]))), (h3, .inl (Y 1, 144, .inl (jw_l 0 [])))] sz) := by
  refine jw_met (fun A => jw_Qv D (fun w => w = [(h0, .inr (7, [.int 2, .int 2, .int 3, .int 1, .ref h1, .ref h4, .ref h2, .ref h3, .ref h5])), (h1, .inl (Y 1, 96, .inl (jw_l 0 [0, 1, 0, 0, 1, 0]))), (h2, .inl (Y 1, 16, .inl (jw_l 0 [1, 2, 0, 0, 2, 1]))), (h3, .inl (Y 1, 144, .inl (jw_l 0 [1])))]) A) (cc := cX4_setSwaps) (maxL := 5) (ret := none) pn_X4_setSwaps rfl rfl ?_
  intro p e s m below meth c A H locs ls hx hb hml hr hts hown hlocks hin hP hD hA hS hE hl
  have hown : s.vm.findClass RX4 = some m.cls := hown
  have hl : lv_has ls 5 [(0, .ref h0), (1, .int 0)] := hl
  refine lv_iconst (v := 0) hx hb dX4_setSwaps_0 (by decide +kernel) ?_
  refine lv_istore_n (lv' := [(2, .int 0), (0, .ref h0), (1, .int 0)]) hx hb dX4_setSwaps_1 rfl hl (by decide) rfl (fun ls hl => ?_)
  refine lv_iconst (v := 0) hx hb dX4_setSwaps_2 (by decide +kernel) ?_
  refine lv_istore_n (lv' := [(3, .int 0), (2, .int 0), (0, .ref h0), (1, .int 0)]) hx hb dX4_setSwaps_3 rfl hl (by decide) rfl (fun ls hl => ?_)
  refine lv_iload_n hx hb dX4_setSwaps_4 rfl (lv_at hl 0 rfl) ?_
  refine lv_aload_n hx hb dX4_setSwaps_5 rfl (lv_at hl 2 rfl) ?_
  refine va_get (D := D) (ci := 7) (v := .int 2) (C := RX4) (T := TX4) (N := 9) hx hb hts iw_X4_setSwaps__X4 hown hE.1 hP 0 rfl rfl 0 (by decide) (hts _ mw_X4_setSwaps__1) (fun _ h9 => h9) rfl dX4_setSwaps_6 ?_
  refine lv_icmp_ge (tgt := 60) hx hb dX4_setSwaps_9 (by decide) (fun c9 => absurd c9 (by decide +kernel)) (fun _ => ?_)
  refine lv_iload_n hx hb dX4_setSwaps_12 rfl (lv_at hl 0 rfl) ?_
  refine lv_iconst (v := 1) hx hb dX4_setSwaps_13 (by decide +kernel) ?_
  refine jw_iadd (v := 1) hx hb dX4_setSwaps_14 (by decide +kernel) ?_
  refine lv_istore (lv' := [(4, .int 1), (3, .int 0), (2, .int 0), (0, .ref h0), (1, .int 0)]) hx hb dX4_setSwaps_15 hl (by decide) rfl (fun ls hl => ?_)
  refine lv_iload hx hb dX4_setSwaps_17 (lv_at hl 0 rfl) ?_
  refine lv_aload_n hx hb dX4_setSwaps_19 rfl (lv_at hl 3 rfl) ?_
  refine va_get (D := D) (ci := 7) (v := .int 2) (C := RX4) (T := TX4) (N := 9) hx hb hts iw_X4_setSwaps__X4 hown hE.1 hP 0 rfl rfl 0 (by decide) (hts _ mw_X4_setSwaps__1) (fun _ h9 => h9) rfl dX4_setSwaps_20 ?_
  refine lv_icmp_ge (tgt := 54) hx hb dX4_setSwaps_23 (by decide) (fun c9 => absurd c9 (by decide +kernel)) (fun _ => ?_)
  refine lv_aload_n hx hb dX4_setSwaps_26 rfl (lv_at hl 3 rfl) ?_
  refine va_get (D := D) (ci := 7) (v := .ref h3) (C := RX4) (T := TX4) (N := 9) hx hb hts iw_X4_setSwaps__X4 hown hE.1 hP 0 rfl rfl 7 (by decide) (hts _ mw_X4_setSwaps__2) (fun _ h9 => h9) rfl dX4_setSwaps_27 ?_
  refine lv_iload_n hx hb dX4_setSwaps_30 rfl (lv_at hl 4 rfl) ?_
  refine lv_bipush (v := 6) hx hb dX4_setSwaps_31 (by decide +kernel) ?_
  refine jw_imul (v := 0) hx hb dX4_setSwaps_33 (by decide +kernel) ?_
  refine lv_iload_n hx hb dX4_setSwaps_34 rfl (lv_at hl 2 rfl) ?_
  refine jw_iadd (v := 0) hx hb dX4_setSwaps_35 (by decide +kernel) ?_
  refine lv_aload_n hx hb dX4_setSwaps_36 rfl (lv_at hl 3 rfl) ?_
  refine lv_iload_n hx hb dX4_setSwaps_37 rfl (lv_at hl 4 rfl) ?_
  refine lv_iload_n hx hb dX4_setSwaps_38 rfl (lv_at hl 1 rfl) ?_
  refine lv_iload hx hb dX4_setSwaps_39 (lv_at hl 0 rfl) ?_
  refine jw_mi (wc := [(h0, .inr (7, [.int 2, .int 2, .int 3, .int 0, .ref h1, .ref h4, .ref h2, .ref h3, .ref h5])), (h1, .inl (Y 1, 96, .inl (jw_l 0 [0, 1, 0, 0, 1, 0]))), (h2, .inl (Y 1, 16, .inl (jw_l 0 [1, 2, 0, 0, 2, 1])))]) (cs := 0) (ss := 0) (va_runV (As := [.int 0, .int 0, .int 1]) (rest := [.int 0, .ref h3]) ⟨hx, hb, hml, hown, hts⟩ (k38_X4_rankWithSwapped h0 h1 h2 h4 h3 h5 H.size) (cwV 3 hts gX4_setSwaps_X4_rankWithSwapped rfl rfl rfl ydV_X4_rankWithSwapped ⟨Nat.le_of_ble_eq_true rfl, Nat.le_of_ble_eq_true rfl⟩) (jw_mpreV (ci := 7) (q0 := 0) hP hD hS hA hE [true, true, true] rfl rfl rfl) rfl rfl hl.1 rfl (lv_room (Nat.le_of_ble_eq_true rfl)) dX4_setSwaps_41 ⟨Nat.le_of_ble_eq_true rfl, Nat.le_of_ble_eq_true rfl⟩) hP hD hS hA [true, true, true] rfl rfl rfl (fun r9 w1 H locs hr9 hw9 hP hD hS => ?_)
  subst hr9
  subst hw9
  have hP : va_P D vwCl [(h0, .inr (7, [.int 2, .int 2, .int 3, .int 0, .ref h1, .ref h4, .ref h2, .ref h3, .ref h5])), (h1, .inl (Y 1, 96, .inl (jw_l 0 [0, 1, 0, 0, 1, 0]))), (h2, .inl (Y 1, 16, .inl (jw_l 0 [1, 2, 0, 0, 2, 1]))), (h3, .inl (Y 1, 144, .inl (jw_l 0 [])))] H := hP
  have hD : va_D A [(h0, .inr (7, [.int 2, .int 2, .int 3, .int 0, .ref h1, .ref h4, .ref h2, .ref h3, .ref h5])), (h1, .inl (Y 1, 96, .inl (jw_l 0 [0, 1, 0, 0, 1, 0]))), (h2, .inl (Y 1, 16, .inl (jw_l 0 [1, 2, 0, 0, 2, 1]))), (h3, .inl (Y 1, 144, .inl (jw_l 0 [])))] := hD
  refine jw_iast (ws' := [(h0, .inr (7, [.int 2, .int 2, .int 3, .int 0, .ref h1, .ref h4, .ref h2, .ref h3, .ref h5])), (h1, .inl (Y 1, 96, .inl (jw_l 0 [0, 1, 0, 0, 1, 0]))), (h2, .inl (Y 1, 16, .inl (jw_l 0 [1, 2, 0, 0, 2, 1]))), (h3, .inl (Y 1, 144, .inl (jw_l 0 [1])))]) hx hb hE hP hD hS 3 0 [1] rfl (by decide +kernel) (by decide +kernel) rfl dX4_setSwaps_44 (fun H locs hP hD hS => ?_)
  refine lv_iinc (v := 1) (lv' := [(2, .int 1), (4, .int 1), (3, .int 0), (0, .ref h0), (1, .int 0)]) hx hb dX4_setSwaps_45 hl (k := 2) rfl (by decide +kernel) (by decide) rfl (fun ls hl => ?_)
  refine lv_iinc (v := 2) (lv' := [(4, .int 2), (2, .int 1), (3, .int 0), (0, .ref h0), (1, .int 0)]) hx hb dX4_setSwaps_48 hl (k := 1) rfl (by decide +kernel) (by decide) rfl (fun ls hl => ?_)
  refine lv_goto (tgt := 17) hx hb dX4_setSwaps_51 (by decide) ?_
  refine lv_iload hx hb dX4_setSwaps_17 (lv_at hl 0 rfl) ?_
  refine lv_aload_n hx hb dX4_setSwaps_19 rfl (lv_at hl 3 rfl) ?_
  refine va_get (D := D) (ci := 7) (v := .int 2) (C := RX4) (T := TX4) (N := 9) hx hb hts iw_X4_setSwaps__X4 hown hE.1 hP 0 rfl rfl 0 (by decide) (hts _ mw_X4_setSwaps__1) (fun _ h9 => h9) rfl dX4_setSwaps_20 ?_
  refine lv_icmp_ge (tgt := 54) hx hb dX4_setSwaps_23 (by decide) (fun _ => ?_) (fun c9 => absurd (by decide +kernel) c9)
  refine lv_iinc (v := 1) (lv' := [(3, .int 1), (4, .int 2), (2, .int 1), (0, .ref h0), (1, .int 0)]) hx hb dX4_setSwaps_54 hl (k := 2) rfl (by decide +kernel) (by decide) rfl (fun ls hl => ?_)
  refine lv_goto (tgt := 4) hx hb dX4_setSwaps_57 (by decide) ?_
  refine lv_iload_n hx hb dX4_setSwaps_4 rfl (lv_at hl 0 rfl) ?_
  refine lv_aload_n hx hb dX4_setSwaps_5 rfl (lv_at hl 3 rfl) ?_
  refine va_get (D := D) (ci := 7) (v := .int 2) (C := RX4) (T := TX4) (N := 9) hx hb hts iw_X4_setSwaps__X4 hown hE.1 hP 0 rfl rfl 0 (by decide) (hts _ mw_X4_setSwaps__1) (fun _ h9 => h9) rfl dX4_setSwaps_6 ?_
  refine lv_icmp_ge (tgt := 60) hx hb dX4_setSwaps_9 (by decide) (fun c9 => absurd c9 (by decide +kernel)) (fun _ => ?_)
  refine lv_iload_n hx hb dX4_setSwaps_12 rfl (lv_at hl 0 rfl) ?_
  refine lv_iconst (v := 1) hx hb dX4_setSwaps_13 (by decide +kernel) ?_
  refine jw_iadd (v := 2) hx hb dX4_setSwaps_14 (by decide +kernel) ?_
  refine lv_istore (lv' := [(4, .int 2), (3, .int 1), (2, .int 1), (0, .ref h0), (1, .int 0)]) hx hb dX4_setSwaps_15 hl (by decide) rfl (fun ls hl => ?_)
  refine lv_iload hx hb dX4_setSwaps_17 (lv_at hl 0 rfl) ?_
  refine lv_aload_n hx hb dX4_setSwaps_19 rfl (lv_at hl 3 rfl) ?_
  refine va_get (D := D) (ci := 7) (v := .int 2) (C := RX4) (T := TX4) (N := 9) hx hb hts iw_X4_setSwaps__X4 hown hE.1 hP 0 rfl rfl 0 (by decide) (hts _ mw_X4_setSwaps__1) (fun _ h9 => h9) rfl dX4_setSwaps_20 ?_
  refine lv_icmp_ge (tgt := 54) hx hb dX4_setSwaps_23 (by decide) (fun _ => ?_) (fun c9 => absurd (by decide +kernel) c9)
  refine lv_iinc (v := 2) (lv' := [(3, .int 2), (4, .int 2), (2, .int 1), (0, .ref h0), (1, .int 0)]) hx hb dX4_setSwaps_54 hl (k := 1) rfl (by decide +kernel) (by decide) rfl (fun ls hl => ?_)
  refine lv_goto (tgt := 4) hx hb dX4_setSwaps_57 (by decide) ?_
  refine lv_iload_n hx hb dX4_setSwaps_4 rfl (lv_at hl 0 rfl) ?_
  refine lv_aload_n hx hb dX4_setSwaps_5 rfl (lv_at hl 3 rfl) ?_
  refine va_get (D := D) (ci := 7) (v := .int 2) (C := RX4) (T := TX4) (N := 9) hx hb hts iw_X4_setSwaps__X4 hown hE.1 hP 0 rfl rfl 0 (by decide) (hts _ mw_X4_setSwaps__1) (fun _ h9 => h9) rfl dX4_setSwaps_6 ?_
  refine lv_icmp_ge (tgt := 60) hx hb dX4_setSwaps_9 (by decide) (fun _ => ?_) (fun c9 => absurd (by decide +kernel) c9)
  refine lv_aload_n hx hb dX4_setSwaps_60 rfl (lv_at hl 3 rfl) ?_
  refine lv_iload_n hx hb dX4_setSwaps_61 rfl (lv_at hl 2 rfl) ?_
  refine va_put (D := D) (ci := 7) (v := .int 1) (C := RX4) (T := TX4) (N := 9) hx hb hts iw_X4_setSwaps__X4 tyX4 tyX4_ok nmX4 hown hE.1 hP hD hS 0 rfl rfl 3 (by decide) (hts _ mw_X4_setSwaps__3) (fun _ h9 => h9) rfl (tyX4_ok 3 (by decide)) rfl rfl (Nat.le_of_ble_eq_true rfl) dX4_setSwaps_62 (fun H locs hP hD hS => ?_)
  have hP : va_P D vwCl [(h0, .inr (7, [.int 2, .int 2, .int 3, .int 1, .ref h1, .ref h4, .ref h2, .ref h3, .ref h5])), (h1, .inl (Y 1, 96, .inl (jw_l 0 [0, 1, 0, 0, 1, 0]))), (h2, .inl (Y 1, 16, .inl (jw_l 0 [1, 2, 0, 0, 2, 1]))), (h3, .inl (Y 1, 144, .inl (jw_l 0 [1])))] H := hP
  have hD : va_D A [(h0, .inr (7, [.int 2, .int 2, .int 3, .int 1, .ref h1, .ref h4, .ref h2, .ref h3, .ref h5])), (h1, .inl (Y 1, 96, .inl (jw_l 0 [0, 1, 0, 0, 1, 0]))), (h2, .inl (Y 1, 16, .inl (jw_l 0 [1, 2, 0, 0, 2, 1]))), (h3, .inl (Y 1, 144, .inl (jw_l 0 [1])))] := hD
  refine W.widen (k := 0) (n := 0) (Nat.le_of_ble_eq_true rfl) (Nat.le_of_ble_eq_true rfl) ?_
  exact jw_vret hx hb hr hlocks rfl hP hD hS dX4_setSwaps_65
set_option maxHeartbeats 4000000 in
set_option maxRecDepth 100000 in
theorem k40_X4_groupAt {l : Launch} {D : va_G} {Y : Nat → ClassId} {tt : Nat → Nat} (h0 h1 h2 h3 h4 h5 : Nat) (sz : Nat) : Met l yX4_groupAt wsX4_groupAt ({ frames := 0, cells := 0, slots := 0, locals := 0 }) (jw_Pc D Y tt [.ref h0, .int 1, .int 0] [(h0, .inr (7, [.int 2, .int 2, .int 3, .int 1, .ref h1, .ref h2, .ref h3, .ref h4, .ref h5])), (h1, .inl (Y 1, 96, .inl (jw_l 0 [0, 1, 0, 0, 1, 0])))] sz) (jw_Qi D (fun r => r = 1) (fun w => w = [(h0, .inr (7, [.int 2, .int 2, .int 3, .int 1, .ref h1, .ref h2, .ref h3, .ref h4, .ref h5])), (h1, .inl (Y 1, 96, .inl (jw_l 0 [0, 1, 0, 0, 1, 0])))]) (va_A [(h0, .inr (7, [.int 2, .int 2, .int 3, .int 1, .ref h1, .ref h2, .ref h3, .ref h4, .ref h5])), (h1, .inl (Y 1, 96, .inl (jw_l 0 [0, 1, 0, 0, 1, 0])))] sz)) 0 0 (va_A [(h0, .inr (7, [.int 2, .int 2, .int 3, .int 1, .ref h1, .ref h2, .ref h3, .ref h4, .ref h5])), (h1, .inl (Y 1, 96, .inl (jw_l 0 [0, 1, 0, 0, 1, 0])))] sz) := by
  refine jw_met (fun A => jw_Qi D (fun r => r = 1) (fun w => w = [(h0, .inr (7, [.int 2, .int 2, .int 3, .int 1, .ref h1, .ref h2, .ref h3, .ref h4, .ref h5])), (h1, .inl (Y 1, 96, .inl (jw_l 0 [0, 1, 0, 0, 1, 0])))]) A) (cc := cX4_groupAt) (maxL := 3) (ret := (some .int)) pn_X4_groupAt rfl rfl ?_
  intro p e s m below meth c A H locs ls hx hb hml hr hts hown hlocks hin hP hD hA hS hE hl
  have hown : s.vm.findClass RX4 = some m.cls := hown
  have hl : lv_has ls 3 [(0, .ref h0), (1, .int 1), (2, .int 0)] := hl
  refine lv_aload_n hx hb dX4_groupAt_0 rfl (lv_at hl 0 rfl) ?_
  refine va_get (D := D) (ci := 7) (v := .ref h1) (C := RX4) (T := TX4) (N := 9) hx hb hts iw_X4_groupAt__X4 hown hE.1 hP 0 rfl rfl 4 (by decide) (hts _ mw_X4_groupAt__1) (fun _ h9 => h9) rfl dX4_groupAt_1 ?_
  refine lv_iload_n hx hb dX4_groupAt_4 rfl (lv_at hl 1 rfl) ?_
  refine lv_iconst (v := 4) hx hb dX4_groupAt_5 (by decide +kernel) ?_
  refine jw_imul (v := 4) hx hb dX4_groupAt_6 (by decide +kernel) ?_
  refine lv_iload_n hx hb dX4_groupAt_7 rfl (lv_at hl 2 rfl) ?_
  refine jw_iadd (v := 4) hx hb dX4_groupAt_8 (by decide +kernel) ?_
  refine jw_iald (v := 1) hx hb hE hP 1 4 rfl (by decide +kernel) (by decide +kernel) dX4_groupAt_9 ?_
  refine W.widen (k := 0) (n := 0) (Nat.le_of_ble_eq_true rfl) (Nat.le_of_ble_eq_true rfl) ?_
  exact jw_iret hx hb hr hlocks rfl rfl hP hD hS dX4_groupAt_10
set_option maxHeartbeats 4000000 in
set_option maxRecDepth 100000 in
theorem k41_X4_groupAt {l : Launch} {D : va_G} {Y : Nat → ClassId} {tt : Nat → Nat} (h0 h1 h2 h3 h4 h5 : Nat) (sz : Nat) : Met l yX4_groupAt wsX4_groupAt ({ frames := 0, cells := 0, slots := 0, locals := 0 }) (jw_Pc D Y tt [.ref h0, .int 1, .int 1] [(h0, .inr (7, [.int 2, .int 2, .int 3, .int 1, .ref h1, .ref h2, .ref h3, .ref h4, .ref h5])), (h1, .inl (Y 1, 96, .inl (jw_l 0 [0, 1, 0, 0, 1, 0])))] sz) (jw_Qi D (fun r => r = 0) (fun w => w = [(h0, .inr (7, [.int 2, .int 2, .int 3, .int 1, .ref h1, .ref h2, .ref h3, .ref h4, .ref h5])), (h1, .inl (Y 1, 96, .inl (jw_l 0 [0, 1, 0, 0, 1, 0])))]) (va_A [(h0, .inr (7, [.int 2, .int 2, .int 3, .int 1, .ref h1, .ref h2, .ref h3, .ref h4, .ref h5])), (h1, .inl (Y 1, 96, .inl (jw_l 0 [0, 1, 0, 0, 1, 0])))] sz)) 0 0 (va_A [(h0, .inr (7, [.int 2, .int 2, .int 3, .int 1, .ref h1, .ref h2, .ref h3, .ref h4, .ref h5])), (h1, .inl (Y 1, 96, .inl (jw_l 0 [0, 1, 0, 0, 1, 0])))] sz) := by
  refine jw_met (fun A => jw_Qi D (fun r => r = 0) (fun w => w = [(h0, .inr (7, [.int 2, .int 2, .int 3, .int 1, .ref h1, .ref h2, .ref h3, .ref h4, .ref h5])), (h1, .inl (Y 1, 96, .inl (jw_l 0 [0, 1, 0, 0, 1, 0])))]) A) (cc := cX4_groupAt) (maxL := 3) (ret := (some .int)) pn_X4_groupAt rfl rfl ?_
  intro p e s m below meth c A H locs ls hx hb hml hr hts hown hlocks hin hP hD hA hS hE hl
  have hown : s.vm.findClass RX4 = some m.cls := hown
  have hl : lv_has ls 3 [(0, .ref h0), (1, .int 1), (2, .int 1)] := hl
  refine lv_aload_n hx hb dX4_groupAt_0 rfl (lv_at hl 0 rfl) ?_
  refine va_get (D := D) (ci := 7) (v := .ref h1) (C := RX4) (T := TX4) (N := 9) hx hb hts iw_X4_groupAt__X4 hown hE.1 hP 0 rfl rfl 4 (by decide) (hts _ mw_X4_groupAt__1) (fun _ h9 => h9) rfl dX4_groupAt_1 ?_
  refine lv_iload_n hx hb dX4_groupAt_4 rfl (lv_at hl 1 rfl) ?_
  refine lv_iconst (v := 4) hx hb dX4_groupAt_5 (by decide +kernel) ?_
  refine jw_imul (v := 4) hx hb dX4_groupAt_6 (by decide +kernel) ?_
  refine lv_iload_n hx hb dX4_groupAt_7 rfl (lv_at hl 2 rfl) ?_
  refine jw_iadd (v := 5) hx hb dX4_groupAt_8 (by decide +kernel) ?_
  refine jw_iald (v := 0) hx hb hE hP 1 5 rfl (by decide +kernel) (by decide +kernel) dX4_groupAt_9 ?_
  refine W.widen (k := 0) (n := 0) (Nat.le_of_ble_eq_true rfl) (Nat.le_of_ble_eq_true rfl) ?_
  exact jw_iret hx hb hr hlocks rfl rfl hP hD hS dX4_groupAt_10
set_option maxHeartbeats 4000000 in
set_option maxRecDepth 100000 in
theorem k42_J6_bitCount_0f7a4 {l : Launch} {D : va_G} {Y : Nat → ClassId} {tt : Nat → Nat} (sz : Nat) : Met l yJ6_bitCount_0f7a4 wsJ6_bitCount_0f7a4 ({ frames := 0, cells := 0, slots := 0, locals := 0 }) (jw_Pc D Y tt [.int 0] [] sz) (jw_Qi D (fun r => r = 0) (fun w => w = []) (va_A [] sz)) 0 0 (va_A [] sz) := by
  refine jw_met (fun A => jw_Qi D (fun r => r = 0) (fun w => w = []) A) (cc := cJ6_bitCount_0f7a4) (maxL := 1) (ret := (some .int)) pn_J6_bitCount_0f7a4 rfl rfl ?_
  intro p e s m below meth c A H locs ls hx hb hml hr hts hown hlocks hin hP hD hA hS hE hl
  have hown : s.vm.findClass RJ6 = some m.cls := hown
  have hl : lv_has ls 1 [(0, .int 0)] := hl
  refine lv_iload_n hx hb dJ6_bitCount_0f7a4_0 rfl (lv_at hl 0 rfl) ?_
  refine lv_iload_n hx hb dJ6_bitCount_0f7a4_1 rfl (lv_at hl 0 rfl) ?_
  refine lv_iconst (v := 1) hx hb dJ6_bitCount_0f7a4_2 (by decide +kernel) ?_
  refine lv_iushr (v := 0) hx hb dJ6_bitCount_0f7a4_3 (by decide +kernel) ?_
  refine lv_ldcw (v := 1431655765) hx hb hown (hts _ mw_J6_bitCount_0f7a4__1) dJ6_bitCount_0f7a4_4 ?_
  refine jw_iand (v := 0) hx hb dJ6_bitCount_0f7a4_7 (by decide +kernel) ?_
  refine jw_isub (v := 0) hx hb dJ6_bitCount_0f7a4_8 (by decide +kernel) ?_
  refine lv_istore_n (lv' := [(0, .int 0)]) hx hb dJ6_bitCount_0f7a4_9 rfl hl (by decide) rfl (fun ls hl => ?_)
  refine lv_iload_n hx hb dJ6_bitCount_0f7a4_10 rfl (lv_at hl 0 rfl) ?_
  refine lv_ldcw (v := 858993459) hx hb hown (hts _ mw_J6_bitCount_0f7a4__2) dJ6_bitCount_0f7a4_11 ?_
  refine jw_iand (v := 0) hx hb dJ6_bitCount_0f7a4_14 (by decide +kernel) ?_
  refine lv_iload_n hx hb dJ6_bitCount_0f7a4_15 rfl (lv_at hl 0 rfl) ?_
  refine lv_iconst (v := 2) hx hb dJ6_bitCount_0f7a4_16 (by decide +kernel) ?_
  refine lv_iushr (v := 0) hx hb dJ6_bitCount_0f7a4_17 (by decide +kernel) ?_
  refine lv_ldcw (v := 858993459) hx hb hown (hts _ mw_J6_bitCount_0f7a4__2) dJ6_bitCount_0f7a4_18 ?_
  refine jw_iand (v := 0) hx hb dJ6_bitCount_0f7a4_21 (by decide +kernel) ?_
  refine jw_iadd (v := 0) hx hb dJ6_bitCount_0f7a4_22 (by decide +kernel) ?_
  refine lv_istore_n (lv' := [(0, .int 0)]) hx hb dJ6_bitCount_0f7a4_23 rfl hl (by decide) rfl (fun ls hl => ?_)
  refine lv_iload_n hx hb dJ6_bitCount_0f7a4_24 rfl (lv_at hl 0 rfl) ?_
  refine lv_iload_n hx hb dJ6_bitCount_0f7a4_25 rfl (lv_at hl 0 rfl) ?_
  refine lv_iconst (v := 4) hx hb dJ6_bitCount_0f7a4_26 (by decide +kernel) ?_
  refine lv_iushr (v := 0) hx hb dJ6_bitCount_0f7a4_27 (by decide +kernel) ?_
  refine jw_iadd (v := 0) hx hb dJ6_bitCount_0f7a4_28 (by decide +kernel) ?_
  refine lv_ldcw (v := 252645135) hx hb hown (hts _ mw_J6_bitCount_0f7a4__3) dJ6_bitCount_0f7a4_29 ?_
  refine jw_iand (v := 0) hx hb dJ6_bitCount_0f7a4_32 (by decide +kernel) ?_
  refine lv_istore_n (lv' := [(0, .int 0)]) hx hb dJ6_bitCount_0f7a4_33 rfl hl (by decide) rfl (fun ls hl => ?_)
  refine lv_iload_n hx hb dJ6_bitCount_0f7a4_34 rfl (lv_at hl 0 rfl) ?_
  refine lv_iload_n hx hb dJ6_bitCount_0f7a4_35 rfl (lv_at hl 0 rfl) ?_
  refine lv_bipush (v := 8) hx hb dJ6_bitCount_0f7a4_36 (by decide +kernel) ?_
  refine lv_iushr (v := 0) hx hb dJ6_bitCount_0f7a4_38 (by decide +kernel) ?_
  refine jw_iadd (v := 0) hx hb dJ6_bitCount_0f7a4_39 (by decide +kernel) ?_
  refine lv_istore_n (lv' := [(0, .int 0)]) hx hb dJ6_bitCount_0f7a4_40 rfl hl (by decide) rfl (fun ls hl => ?_)
  refine lv_iload_n hx hb dJ6_bitCount_0f7a4_41 rfl (lv_at hl 0 rfl) ?_
  refine lv_iload_n hx hb dJ6_bitCount_0f7a4_42 rfl (lv_at hl 0 rfl) ?_
  refine lv_bipush (v := 16) hx hb dJ6_bitCount_0f7a4_43 (by decide +kernel) ?_
  refine lv_iushr (v := 0) hx hb dJ6_bitCount_0f7a4_45 (by decide +kernel) ?_
  refine jw_iadd (v := 0) hx hb dJ6_bitCount_0f7a4_46 (by decide +kernel) ?_
  refine lv_istore_n (lv' := [(0, .int 0)]) hx hb dJ6_bitCount_0f7a4_47 rfl hl (by decide) rfl (fun ls hl => ?_)
  refine lv_iload_n hx hb dJ6_bitCount_0f7a4_48 rfl (lv_at hl 0 rfl) ?_
  refine lv_bipush (v := 63) hx hb dJ6_bitCount_0f7a4_49 (by decide +kernel) ?_
  refine jw_iand (v := 0) hx hb dJ6_bitCount_0f7a4_51 (by decide +kernel) ?_
  refine W.widen (k := 0) (n := 0) (Nat.le_of_ble_eq_true rfl) (Nat.le_of_ble_eq_true rfl) ?_
  exact jw_iret hx hb hr hlocks rfl rfl hP hD hS dJ6_bitCount_0f7a4_52
set_option maxHeartbeats 4000000 in
set_option maxRecDepth 100000 in
theorem k43_X4_only {l : Launch} {D : va_G} {Y : Nat → ClassId} {tt : Nat → Nat} (sz : Nat) : Met l yX4_only wsX4_only ({ frames := 1, cells := 0, slots := 0, locals := 20 }) (jw_Pc D Y tt [.int 1] [] sz) (jw_Qi D (fun r => r = 0) (fun w => w = []) (va_A [] sz)) 0 0 (va_A [] sz) := by
  refine jw_met (fun A => jw_Qi D (fun r => r = 0) (fun w => w = []) A) (cc := cX4_only) (maxL := 1) (ret := (some .int)) pn_X4_only rfl rfl ?_
  intro p e s m below meth c A H locs ls hx hb hml hr hts hown hlocks hin hP hD hA hS hE hl
  have hown : s.vm.findClass RX4 = some m.cls := hown
  have hl : lv_has ls 1 [(0, .int 1)] := hl
  refine lv_iload_n hx hb dX4_only_0 rfl (lv_at hl 0 rfl) ?_
  refine lv_if_ne (tgt := 8) hx hb dX4_only_1 (by decide) (fun _ => ?_) (fun c9 => absurd c9 (by decide +kernel))
  refine lv_iload_n hx hb dX4_only_8 rfl (lv_at hl 0 rfl) ?_
  refine lv_iload_n hx hb dX4_only_9 rfl (lv_at hl 0 rfl) ?_
  refine jw_ineg (v := (-1)) hx hb dX4_only_10 (by decide +kernel) ?_
  refine jw_iand (v := 1) hx hb dX4_only_11 (by decide +kernel) ?_
  refine lv_iconst (v := 1) hx hb dX4_only_12 (by decide +kernel) ?_
  refine jw_isub (v := 0) hx hb dX4_only_13 (by decide +kernel) ?_
  refine jw_mi (wc := []) (cs := 0) (ss := 0) (va_runS (As := [.int 0]) (rest := []) ⟨hx, hb, hml, hown, hts⟩ (k42_J6_bitCount_0f7a4 H.size) (va_cwS 1 hts gX4_only_J6_bitCount_0f7a4 rfl rfl rfl ydS_J6_bitCount_0f7a4 ⟨Nat.le_of_ble_eq_true rfl, Nat.le_of_ble_eq_true rfl⟩) (jw_mpreS hP hD hS hA hE [] rfl) rfl rfl hl.1 rfl (lv_room (Nat.le_of_ble_eq_true rfl)) dX4_only_14 ⟨Nat.le_of_ble_eq_true rfl, Nat.le_of_ble_eq_true rfl⟩) hP hD hS hA [] rfl rfl rfl (fun r9 w1 H locs hr9 hw9 hP hD hS => ?_)
  subst hr9
  subst hw9
  have hP : va_P D vwCl [] H := hP
  have hD : va_D A [] := hD
  refine W.widen (k := 0) (n := 0) (Nat.le_of_ble_eq_true rfl) (Nat.le_of_ble_eq_true rfl) ?_
  exact jw_iret hx hb hr hlocks rfl rfl hP hD hS dX4_only_17
set_option maxHeartbeats 4000000 in
set_option maxRecDepth 100000 in
theorem k44_X4_rankWithSwapped {l : Launch} {D : va_G} {Y : Nat → ClassId} {tt : Nat → Nat} (h0 h1 h2 h3 h4 h5 : Nat) (sz : Nat) : Met l yX4_rankWithSwapped wsX4_rankWithSwapped ({ frames := 2, cells := 0, slots := 0, locals := 40 }) (jw_Pc D Y tt [.ref h0, .int 1, .int 0, .int 1] [(h0, .inr (7, [.int 2, .int 2, .int 3, .int 1, .ref h1, .ref h3, .ref h2, .ref h4, .ref h5])), (h1, .inl (Y 1, 96, .inl (jw_l 0 [0, 1, 0, 0, 1, 0]))), (h2, .inl (Y 1, 16, .inl (jw_l 0 [1, 2, 0, 0, 2, 1])))] sz) (jw_Qi D (fun r => r = 0) (fun w => w = [(h0, .inr (7, [.int 2, .int 2, .int 3, .int 1, .ref h1, .ref h3, .ref h2, .ref h4, .ref h5])), (h1, .inl (Y 1, 96, .inl (jw_l 0 [0, 1, 0, 0, 1, 0]))), (h2, .inl (Y 1, 16, .inl (jw_l 0 [1, 2, 0, 0, 2, 1])))]) (va_A [(h0, .inr (7, [.int 2, .int 2, .int 3, .int 1, .ref h1, .ref h3, .ref h2, .ref h4, .ref h5])), (h1, .inl (Y 1, 96, .inl (jw_l 0 [0, 1, 0, 0, 1, 0]))), (h2, .inl (Y 1, 16, .inl (jw_l 0 [1, 2, 0, 0, 2, 1])))] sz)) 0 0 (va_A [(h0, .inr (7, [.int 2, .int 2, .int 3, .int 1, .ref h1, .ref h3, .ref h2, .ref h4, .ref h5])), (h1, .inl (Y 1, 96, .inl (jw_l 0 [0, 1, 0, 0, 1, 0]))), (h2, .inl (Y 1, 16, .inl (jw_l 0 [1, 2, 0, 0, 2, 1])))] sz) := by
  refine jw_met (fun A => jw_Qi D (fun r => r = 0) (fun w => w = [(h0, .inr (7, [.int 2, .int 2, .int 3, .int 1, .ref h1, .ref h3, .ref h2, .ref h4, .ref h5])), (h1, .inl (Y 1, 96, .inl (jw_l 0 [0, 1, 0, 0, 1, 0]))), (h2, .inl (Y 1, 16, .inl (jw_l 0 [1, 2, 0, 0, 2, 1])))]) A) (cc := cX4_rankWithSwapped) (maxL := 8) (ret := (some .int)) pn_X4_rankWithSwapped rfl rfl ?_
  intro p e s m below meth c A H locs ls hx hb hml hr hts hown hlocks hin hP hD hA hS hE hl
  have hown : s.vm.findClass RX4 = some m.cls := hown
  have hl : lv_has ls 8 [(0, .ref h0), (1, .int 1), (2, .int 0), (3, .int 1)] := hl
  refine lv_aload_n hx hb dX4_rankWithSwapped_0 rfl (lv_at hl 0 rfl) ?_
  refine va_get (D := D) (ci := 7) (v := .int 3) (C := RX4) (T := TX4) (N := 9) hx hb hts iw_X4_rankWithSwapped__X4 hown hE.1 hP 0 rfl rfl 2 (by decide) (hts _ mw_X4_rankWithSwapped__1) (fun _ h9 => h9) rfl dX4_rankWithSwapped_1 ?_
  refine lv_istore (lv' := [(4, .int 3), (0, .ref h0), (1, .int 1), (2, .int 0), (3, .int 1)]) hx hb dX4_rankWithSwapped_4 hl (by decide) rfl (fun ls hl => ?_)
  refine lv_iconst (v := 0) hx hb dX4_rankWithSwapped_6 (by decide +kernel) ?_
  refine lv_istore (lv' := [(5, .int 0), (4, .int 3), (0, .ref h0), (1, .int 1), (2, .int 0), (3, .int 1)]) hx hb dX4_rankWithSwapped_7 hl (by decide) rfl (fun ls hl => ?_)
  refine lv_iload hx hb dX4_rankWithSwapped_9 (lv_at hl 0 rfl) ?_
  refine lv_aload_n hx hb dX4_rankWithSwapped_11 rfl (lv_at hl 2 rfl) ?_
  refine va_get (D := D) (ci := 7) (v := .int 2) (C := RX4) (T := TX4) (N := 9) hx hb hts iw_X4_rankWithSwapped__X4 hown hE.1 hP 0 rfl rfl 0 (by decide) (hts _ mw_X4_rankWithSwapped__2) (fun _ h9 => h9) rfl dX4_rankWithSwapped_12 ?_
  refine lv_icmp_ge (tgt := 74) hx hb dX4_rankWithSwapped_15 (by decide) (fun c9 => absurd c9 (by decide +kernel)) (fun _ => ?_)
  refine lv_aload_n hx hb dX4_rankWithSwapped_18 rfl (lv_at hl 2 rfl) ?_
  refine lv_iload_n hx hb dX4_rankWithSwapped_19 rfl (lv_at hl 3 rfl) ?_
  refine lv_iload hx hb dX4_rankWithSwapped_20 (lv_at hl 0 rfl) ?_
  refine jw_mi (wc := [(h0, .inr (7, [.int 2, .int 2, .int 3, .int 1, .ref h1, .ref h3, .ref h2, .ref h4, .ref h5])), (h1, .inl (Y 1, 96, .inl (jw_l 0 [0, 1, 0, 0, 1, 0])))]) (cs := 0) (ss := 0) (va_runV (As := [.int 1, .int 0]) (rest := []) ⟨hx, hb, hml, hown, hts⟩ (k40_X4_groupAt h0 h1 h3 h2 h4 h5 H.size) (cwV 2 hts gX4_rankWithSwapped_X4_groupAt rfl rfl rfl ydV_X4_groupAt ⟨Nat.le_of_ble_eq_true rfl, Nat.le_of_ble_eq_true rfl⟩) (jw_mpreV (ci := 7) (q0 := 0) hP hD hS hA hE [true, true] rfl rfl rfl) rfl rfl hl.1 rfl (lv_room (Nat.le_of_ble_eq_true rfl)) dX4_rankWithSwapped_22 ⟨Nat.le_of_ble_eq_true rfl, Nat.le_of_ble_eq_true rfl⟩) hP hD hS hA [true, true] rfl rfl rfl (fun r9 w1 H locs hr9 hw9 hP hD hS => ?_)
  subst hr9
  subst hw9
  have hP : va_P D vwCl [(h0, .inr (7, [.int 2, .int 2, .int 3, .int 1, .ref h1, .ref h3, .ref h2, .ref h4, .ref h5])), (h1, .inl (Y 1, 96, .inl (jw_l 0 [0, 1, 0, 0, 1, 0]))), (h2, .inl (Y 1, 16, .inl (jw_l 0 [1, 2, 0, 0, 2, 1])))] H := hP
  have hD : va_D A [(h0, .inr (7, [.int 2, .int 2, .int 3, .int 1, .ref h1, .ref h3, .ref h2, .ref h4, .ref h5])), (h1, .inl (Y 1, 96, .inl (jw_l 0 [0, 1, 0, 0, 1, 0]))), (h2, .inl (Y 1, 16, .inl (jw_l 0 [1, 2, 0, 0, 2, 1])))] := hD
  refine lv_istore (lv' := [(6, .int 1), (5, .int 0), (4, .int 3), (0, .ref h0), (1, .int 1), (2, .int 0), (3, .int 1)]) hx hb dX4_rankWithSwapped_25 hl (by decide) rfl (fun ls hl => ?_)
  refine lv_iload hx hb dX4_rankWithSwapped_27 (lv_at hl 0 rfl) ?_
  refine lv_iload_n hx hb dX4_rankWithSwapped_29 rfl (lv_at hl 5 rfl) ?_
  refine lv_icmp_ne (tgt := 37) hx hb dX4_rankWithSwapped_30 (by decide) (fun _ => ?_) (fun c9 => absurd c9 (by decide +kernel))
  refine lv_iload hx hb dX4_rankWithSwapped_37 (lv_at hl 0 rfl) ?_
  refine lv_iload_n hx hb dX4_rankWithSwapped_39 rfl (lv_at hl 6 rfl) ?_
  refine lv_icmp_ne (tgt := 47) hx hb dX4_rankWithSwapped_40 (by decide) (fun c9 => absurd (by decide +kernel) c9) (fun _ => ?_)
  refine lv_iload_n hx hb dX4_rankWithSwapped_43 rfl (lv_at hl 5 rfl) ?_
  refine lv_goto (tgt := 49) hx hb dX4_rankWithSwapped_44 (by decide) ?_
  refine lv_istore (lv' := [(7, .int 0), (6, .int 1), (5, .int 0), (4, .int 3), (0, .ref h0), (1, .int 1), (2, .int 0), (3, .int 1)]) hx hb dX4_rankWithSwapped_49 hl (by decide) rfl (fun ls hl => ?_)
  refine lv_iload hx hb dX4_rankWithSwapped_51 (lv_at hl 3 rfl) ?_
  refine lv_aload_n hx hb dX4_rankWithSwapped_53 rfl (lv_at hl 4 rfl) ?_
  refine va_get (D := D) (ci := 7) (v := .ref h2) (C := RX4) (T := TX4) (N := 9) hx hb hts iw_X4_rankWithSwapped__X4 hown hE.1 hP 0 rfl rfl 6 (by decide) (hts _ mw_X4_rankWithSwapped__3) (fun _ h9 => h9) rfl dX4_rankWithSwapped_54 ?_
  refine lv_iload hx hb dX4_rankWithSwapped_57 (lv_at hl 2 rfl) ?_
  refine lv_iconst (v := 4) hx hb dX4_rankWithSwapped_59 (by decide +kernel) ?_
  refine jw_imul (v := 0) hx hb dX4_rankWithSwapped_60 (by decide +kernel) ?_
  refine lv_iload hx hb dX4_rankWithSwapped_61 (lv_at hl 0 rfl) ?_
  refine jw_iadd (v := 0) hx hb dX4_rankWithSwapped_63 (by decide +kernel) ?_
  refine jw_iald (v := 1) hx hb hE hP 2 0 rfl (by decide +kernel) (by decide +kernel) dX4_rankWithSwapped_64 ?_
  refine jw_iand (v := 1) hx hb dX4_rankWithSwapped_65 (by decide +kernel) ?_
  refine lv_istore (lv' := [(4, .int 1), (7, .int 0), (6, .int 1), (5, .int 0), (0, .ref h0), (1, .int 1), (2, .int 0), (3, .int 1)]) hx hb dX4_rankWithSwapped_66 hl (by decide) rfl (fun ls hl => ?_)
  refine lv_iinc (v := 1) (lv' := [(5, .int 1), (4, .int 1), (7, .int 0), (6, .int 1), (0, .ref h0), (1, .int 1), (2, .int 0), (3, .int 1)]) hx hb dX4_rankWithSwapped_68 hl (k := 3) rfl (by decide +kernel) (by decide) rfl (fun ls hl => ?_)
  refine lv_goto (tgt := 9) hx hb dX4_rankWithSwapped_71 (by decide) ?_
  refine lv_iload hx hb dX4_rankWithSwapped_9 (lv_at hl 0 rfl) ?_
  refine lv_aload_n hx hb dX4_rankWithSwapped_11 rfl (lv_at hl 4 rfl) ?_
  refine va_get (D := D) (ci := 7) (v := .int 2) (C := RX4) (T := TX4) (N := 9) hx hb hts iw_X4_rankWithSwapped__X4 hown hE.1 hP 0 rfl rfl 0 (by decide) (hts _ mw_X4_rankWithSwapped__2) (fun _ h9 => h9) rfl dX4_rankWithSwapped_12 ?_
  refine lv_icmp_ge (tgt := 74) hx hb dX4_rankWithSwapped_15 (by decide) (fun c9 => absurd c9 (by decide +kernel)) (fun _ => ?_)
  refine lv_aload_n hx hb dX4_rankWithSwapped_18 rfl (lv_at hl 4 rfl) ?_
  refine lv_iload_n hx hb dX4_rankWithSwapped_19 rfl (lv_at hl 5 rfl) ?_
  refine lv_iload hx hb dX4_rankWithSwapped_20 (lv_at hl 0 rfl) ?_
  refine jw_mi (wc := [(h0, .inr (7, [.int 2, .int 2, .int 3, .int 1, .ref h1, .ref h3, .ref h2, .ref h4, .ref h5])), (h1, .inl (Y 1, 96, .inl (jw_l 0 [0, 1, 0, 0, 1, 0])))]) (cs := 0) (ss := 0) (va_runV (As := [.int 1, .int 1]) (rest := []) ⟨hx, hb, hml, hown, hts⟩ (k41_X4_groupAt h0 h1 h3 h2 h4 h5 H.size) (cwV 2 hts gX4_rankWithSwapped_X4_groupAt rfl rfl rfl ydV_X4_groupAt ⟨Nat.le_of_ble_eq_true rfl, Nat.le_of_ble_eq_true rfl⟩) (jw_mpreV (ci := 7) (q0 := 0) hP hD hS hA hE [true, true] rfl rfl rfl) rfl rfl hl.1 rfl (lv_room (Nat.le_of_ble_eq_true rfl)) dX4_rankWithSwapped_22 ⟨Nat.le_of_ble_eq_true rfl, Nat.le_of_ble_eq_true rfl⟩) hP hD hS hA [true, true] rfl rfl rfl (fun r9 w1 H locs hr9 hw9 hP hD hS => ?_)
  subst hr9
  subst hw9
  have hP : va_P D vwCl [(h0, .inr (7, [.int 2, .int 2, .int 3, .int 1, .ref h1, .ref h3, .ref h2, .ref h4, .ref h5])), (h1, .inl (Y 1, 96, .inl (jw_l 0 [0, 1, 0, 0, 1, 0]))), (h2, .inl (Y 1, 16, .inl (jw_l 0 [1, 2, 0, 0, 2, 1])))] H := hP
  have hD : va_D A [(h0, .inr (7, [.int 2, .int 2, .int 3, .int 1, .ref h1, .ref h3, .ref h2, .ref h4, .ref h5])), (h1, .inl (Y 1, 96, .inl (jw_l 0 [0, 1, 0, 0, 1, 0]))), (h2, .inl (Y 1, 16, .inl (jw_l 0 [1, 2, 0, 0, 2, 1])))] := hD
  refine lv_istore (lv' := [(6, .int 0), (5, .int 1), (4, .int 1), (7, .int 0), (0, .ref h0), (1, .int 1), (2, .int 0), (3, .int 1)]) hx hb dX4_rankWithSwapped_25 hl (by decide) rfl (fun ls hl => ?_)
  refine lv_iload hx hb dX4_rankWithSwapped_27 (lv_at hl 0 rfl) ?_
  refine lv_iload_n hx hb dX4_rankWithSwapped_29 rfl (lv_at hl 6 rfl) ?_
  refine lv_icmp_ne (tgt := 37) hx hb dX4_rankWithSwapped_30 (by decide) (fun c9 => absurd (by decide +kernel) c9) (fun _ => ?_)
  refine lv_iload_n hx hb dX4_rankWithSwapped_33 rfl (lv_at hl 7 rfl) ?_
  refine lv_goto (tgt := 49) hx hb dX4_rankWithSwapped_34 (by decide) ?_
  refine lv_istore (lv' := [(7, .int 1), (6, .int 0), (5, .int 1), (4, .int 1), (0, .ref h0), (1, .int 1), (2, .int 0), (3, .int 1)]) hx hb dX4_rankWithSwapped_49 hl (by decide) rfl (fun ls hl => ?_)
  refine lv_iload hx hb dX4_rankWithSwapped_51 (lv_at hl 3 rfl) ?_
  refine lv_aload_n hx hb dX4_rankWithSwapped_53 rfl (lv_at hl 4 rfl) ?_
  refine va_get (D := D) (ci := 7) (v := .ref h2) (C := RX4) (T := TX4) (N := 9) hx hb hts iw_X4_rankWithSwapped__X4 hown hE.1 hP 0 rfl rfl 6 (by decide) (hts _ mw_X4_rankWithSwapped__3) (fun _ h9 => h9) rfl dX4_rankWithSwapped_54 ?_
  refine lv_iload hx hb dX4_rankWithSwapped_57 (lv_at hl 2 rfl) ?_
  refine lv_iconst (v := 4) hx hb dX4_rankWithSwapped_59 (by decide +kernel) ?_
  refine jw_imul (v := 4) hx hb dX4_rankWithSwapped_60 (by decide +kernel) ?_
  refine lv_iload hx hb dX4_rankWithSwapped_61 (lv_at hl 0 rfl) ?_
  refine jw_iadd (v := 5) hx hb dX4_rankWithSwapped_63 (by decide +kernel) ?_
  refine jw_iald (v := 1) hx hb hE hP 2 5 rfl (by decide +kernel) (by decide +kernel) dX4_rankWithSwapped_64 ?_
  refine jw_iand (v := 1) hx hb dX4_rankWithSwapped_65 (by decide +kernel) ?_
  refine lv_istore (lv' := [(4, .int 1), (7, .int 1), (6, .int 0), (5, .int 1), (0, .ref h0), (1, .int 1), (2, .int 0), (3, .int 1)]) hx hb dX4_rankWithSwapped_66 hl (by decide) rfl (fun ls hl => ?_)
  refine lv_iinc (v := 2) (lv' := [(5, .int 2), (4, .int 1), (7, .int 1), (6, .int 0), (0, .ref h0), (1, .int 1), (2, .int 0), (3, .int 1)]) hx hb dX4_rankWithSwapped_68 hl (k := 3) rfl (by decide +kernel) (by decide) rfl (fun ls hl => ?_)
  refine lv_goto (tgt := 9) hx hb dX4_rankWithSwapped_71 (by decide) ?_
  refine lv_iload hx hb dX4_rankWithSwapped_9 (lv_at hl 0 rfl) ?_
  refine lv_aload_n hx hb dX4_rankWithSwapped_11 rfl (lv_at hl 4 rfl) ?_
  refine va_get (D := D) (ci := 7) (v := .int 2) (C := RX4) (T := TX4) (N := 9) hx hb hts iw_X4_rankWithSwapped__X4 hown hE.1 hP 0 rfl rfl 0 (by decide) (hts _ mw_X4_rankWithSwapped__2) (fun _ h9 => h9) rfl dX4_rankWithSwapped_12 ?_
  refine lv_icmp_ge (tgt := 74) hx hb dX4_rankWithSwapped_15 (by decide) (fun _ => ?_) (fun c9 => absurd (by decide +kernel) c9)
  refine lv_iload hx hb dX4_rankWithSwapped_74 (lv_at hl 1 rfl) ?_
  refine jw_mi (wc := []) (cs := 0) (ss := 0) (va_runS (As := [.int 1]) (rest := []) ⟨hx, hb, hml, hown, hts⟩ (k43_X4_only H.size) (va_cwS 1 hts gX4_rankWithSwapped_X4_only rfl rfl rfl ydS_X4_only ⟨Nat.le_of_ble_eq_true rfl, Nat.le_of_ble_eq_true rfl⟩) (jw_mpreS hP hD hS hA hE [] rfl) rfl rfl hl.1 rfl (lv_room (Nat.le_of_ble_eq_true rfl)) dX4_rankWithSwapped_76 ⟨Nat.le_of_ble_eq_true rfl, Nat.le_of_ble_eq_true rfl⟩) hP hD hS hA [] rfl rfl rfl (fun r9 w1 H locs hr9 hw9 hP hD hS => ?_)
  subst hr9
  subst hw9
  have hP : va_P D vwCl [(h0, .inr (7, [.int 2, .int 2, .int 3, .int 1, .ref h1, .ref h3, .ref h2, .ref h4, .ref h5])), (h1, .inl (Y 1, 96, .inl (jw_l 0 [0, 1, 0, 0, 1, 0]))), (h2, .inl (Y 1, 16, .inl (jw_l 0 [1, 2, 0, 0, 2, 1])))] H := hP
  have hD : va_D A [(h0, .inr (7, [.int 2, .int 2, .int 3, .int 1, .ref h1, .ref h3, .ref h2, .ref h4, .ref h5])), (h1, .inl (Y 1, 96, .inl (jw_l 0 [0, 1, 0, 0, 1, 0]))), (h2, .inl (Y 1, 16, .inl (jw_l 0 [1, 2, 0, 0, 2, 1])))] := hD
  refine W.widen (k := 0) (n := 0) (Nat.le_of_ble_eq_true rfl) (Nat.le_of_ble_eq_true rfl) ?_
  exact jw_iret hx hb hr hlocks rfl rfl hP hD hS dX4_rankWithSwapped_79
set_option maxHeartbeats 4000000 in
set_option maxRecDepth 100000 in
theorem k45_X4_setSwaps {l : Launch} {D : va_G} {Y : Nat → ClassId} {tt : Nat → Nat} (h0 h1 h2 h3 h4 h5 : Nat) (sz : Nat) : Met l yX4_setSwaps wsX4_setSwaps ({ frames := 3, cells := 0, slots := 0, locals := 67 }) (jw_Pc D Y tt [.ref h0, .int 1] [(h0, .inr (7, [.int 2, .int 2, .int 3, .int 1, .ref h1, .ref h4, .ref h2, .ref h3, .ref h5])), (h1, .inl (Y 1, 96, .inl (jw_l 0 [0, 1, 0, 0, 1, 0]))), (h2, .inl (Y 1, 16, .inl (jw_l 0 [1, 2, 0, 0, 2, 1]))), (h3, .inl (Y 1, 144, .inl (jw_l 0 [1])))] sz) (jw_Qv D (fun w => w = [(h0, .inr (7, [.int 2, .int 2, .int 3, .int 1, .ref h1, .ref h4, .ref h2, .ref h3, .ref h5])), (h1, .inl (Y 1, 96, .inl (jw_l 0 [0, 1, 0, 0, 1, 0]))), (h2, .inl (Y 1, 16, .inl (jw_l 0 [1, 2, 0, 0, 2, 1]))), (h3, .inl (Y 1, 144, .inl (jw_l 0 [1, 0, 0, 0, 0, 0, 0])))]) (va_A [(h0, .inr (7, [.int 2, .int 2, .int 3, .int 1, .ref h1, .ref h4, .ref h2, .ref h3, .ref h5])), (h1, .inl (Y 1, 96, .inl (jw_l 0 [0, 1, 0, 0, 1, 0]))), (h2, .inl (Y 1, 16, .inl (jw_l 0 [1, 2, 0, 0, 2, 1]))), (h3, .inl (Y 1, 144, .inl (jw_l 0 [1])))] sz)) 0 0 (va_A [(h0, .inr (7, [.int 2, .int 2, .int 3, .int 1, .ref h1, .ref h4, .ref h2, .ref h3, .ref h5])), (h1, .inl (Y 1, 96, .inl (jw_l 0 [0, 1, 0, 0, 1, 0]))), (h2, .inl (Y 1, 16, .inl (jw_l 0 [1, 2, 0, 0, 2, 1]))), (h3, .inl (Y 1, 144, .inl (jw_l 0 [1])))] sz) := by
  refine jw_met (fun A => jw_Qv D (fun w => w = [(h0, .inr (7, [.int 2, .int 2, .int 3, .int 1, .ref h1, .ref h4, .ref h2, .ref h3, .ref h5])), (h1, .inl (Y 1, 96, .inl (jw_l 0 [0, 1, 0, 0, 1, 0]))), (h2, .inl (Y 1, 16, .inl (jw_l 0 [1, 2, 0, 0, 2, 1]))), (h3, .inl (Y 1, 144, .inl (jw_l 0 [1, 0, 0, 0, 0, 0, 0])))]) A) (cc := cX4_setSwaps) (maxL := 5) (ret := none) pn_X4_setSwaps rfl rfl ?_
  intro p e s m below meth c A H locs ls hx hb hml hr hts hown hlocks hin hP hD hA hS hE hl
  have hown : s.vm.findClass RX4 = some m.cls := hown
  have hl : lv_has ls 5 [(0, .ref h0), (1, .int 1)] := hl
  refine lv_iconst (v := 0) hx hb dX4_setSwaps_0 (by decide +kernel) ?_
  refine lv_istore_n (lv' := [(2, .int 0), (0, .ref h0), (1, .int 1)]) hx hb dX4_setSwaps_1 rfl hl (by decide) rfl (fun ls hl => ?_)
  refine lv_iconst (v := 0) hx hb dX4_setSwaps_2 (by decide +kernel) ?_
  refine lv_istore_n (lv' := [(3, .int 0), (2, .int 0), (0, .ref h0), (1, .int 1)]) hx hb dX4_setSwaps_3 rfl hl (by decide) rfl (fun ls hl => ?_)
  refine lv_iload_n hx hb dX4_setSwaps_4 rfl (lv_at hl 0 rfl) ?_
  refine lv_aload_n hx hb dX4_setSwaps_5 rfl (lv_at hl 2 rfl) ?_
  refine va_get (D := D) (ci := 7) (v := .int 2) (C := RX4) (T := TX4) (N := 9) hx hb hts iw_X4_setSwaps__X4 hown hE.1 hP 0 rfl rfl 0 (by decide) (hts _ mw_X4_setSwaps__1) (fun _ h9 => h9) rfl dX4_setSwaps_6 ?_
  refine lv_icmp_ge (tgt := 60) hx hb dX4_setSwaps_9 (by decide) (fun c9 => absurd c9 (by decide +kernel)) (fun _ => ?_)
  refine lv_iload_n hx hb dX4_setSwaps_12 rfl (lv_at hl 0 rfl) ?_
  refine lv_iconst (v := 1) hx hb dX4_setSwaps_13 (by decide +kernel) ?_
  refine jw_iadd (v := 1) hx hb dX4_setSwaps_14 (by decide +kernel) ?_
  refine lv_istore (lv' := [(4, .int 1), (3, .int 0), (2, .int 0), (0, .ref h0), (1, .int 1)]) hx hb dX4_setSwaps_15 hl (by decide) rfl (fun ls hl => ?_)
  refine lv_iload hx hb dX4_setSwaps_17 (lv_at hl 0 rfl) ?_
  refine lv_aload_n hx hb dX4_setSwaps_19 rfl (lv_at hl 3 rfl) ?_
  refine va_get (D := D) (ci := 7) (v := .int 2) (C := RX4) (T := TX4) (N := 9) hx hb hts iw_X4_setSwaps__X4 hown hE.1 hP 0 rfl rfl 0 (by decide) (hts _ mw_X4_setSwaps__1) (fun _ h9 => h9) rfl dX4_setSwaps_20 ?_
  refine lv_icmp_ge (tgt := 54) hx hb dX4_setSwaps_23 (by decide) (fun c9 => absurd c9 (by decide +kernel)) (fun _ => ?_)
  refine lv_aload_n hx hb dX4_setSwaps_26 rfl (lv_at hl 3 rfl) ?_
  refine va_get (D := D) (ci := 7) (v := .ref h3) (C := RX4) (T := TX4) (N := 9) hx hb hts iw_X4_setSwaps__X4 hown hE.1 hP 0 rfl rfl 7 (by decide) (hts _ mw_X4_setSwaps__2) (fun _ h9 => h9) rfl dX4_setSwaps_27 ?_
  refine lv_iload_n hx hb dX4_setSwaps_30 rfl (lv_at hl 4 rfl) ?_
  refine lv_bipush (v := 6) hx hb dX4_setSwaps_31 (by decide +kernel) ?_
  refine jw_imul (v := 6) hx hb dX4_setSwaps_33 (by decide +kernel) ?_
  refine lv_iload_n hx hb dX4_setSwaps_34 rfl (lv_at hl 2 rfl) ?_
  refine jw_iadd (v := 6) hx hb dX4_setSwaps_35 (by decide +kernel) ?_
  refine lv_aload_n hx hb dX4_setSwaps_36 rfl (lv_at hl 3 rfl) ?_
  refine lv_iload_n hx hb dX4_setSwaps_37 rfl (lv_at hl 4 rfl) ?_
  refine lv_iload_n hx hb dX4_setSwaps_38 rfl (lv_at hl 1 rfl) ?_
  refine lv_iload hx hb dX4_setSwaps_39 (lv_at hl 0 rfl) ?_
  refine jw_mi (wc := [(h0, .inr (7, [.int 2, .int 2, .int 3, .int 1, .ref h1, .ref h4, .ref h2, .ref h3, .ref h5])), (h1, .inl (Y 1, 96, .inl (jw_l 0 [0, 1, 0, 0, 1, 0]))), (h2, .inl (Y 1, 16, .inl (jw_l 0 [1, 2, 0, 0, 2, 1])))]) (cs := 0) (ss := 0) (va_runV (As := [.int 1, .int 0, .int 1]) (rest := [.int 6, .ref h3]) ⟨hx, hb, hml, hown, hts⟩ (k44_X4_rankWithSwapped h0 h1 h2 h4 h3 h5 H.size) (cwV 3 hts gX4_setSwaps_X4_rankWithSwapped rfl rfl rfl ydV_X4_rankWithSwapped ⟨Nat.le_of_ble_eq_true rfl, Nat.le_of_ble_eq_true rfl⟩) (jw_mpreV (ci := 7) (q0 := 0) hP hD hS hA hE [true, true, true] rfl rfl rfl) rfl rfl hl.1 rfl (lv_room (Nat.le_of_ble_eq_true rfl)) dX4_setSwaps_41 ⟨Nat.le_of_ble_eq_true rfl, Nat.le_of_ble_eq_true rfl⟩) hP hD hS hA [true, true, true] rfl rfl rfl (fun r9 w1 H locs hr9 hw9 hP hD hS => ?_)
  subst hr9
  subst hw9
  have hP : va_P D vwCl [(h0, .inr (7, [.int 2, .int 2, .int 3, .int 1, .ref h1, .ref h4, .ref h2, .ref h3, .ref h5])), (h1, .inl (Y 1, 96, .inl (jw_l 0 [0, 1, 0, 0, 1, 0]))), (h2, .inl (Y 1, 16, .inl (jw_l 0 [1, 2, 0, 0, 2, 1]))), (h3, .inl (Y 1, 144, .inl (jw_l 0 [1])))] H := hP
  have hD : va_D A [(h0, .inr (7, [.int 2, .int 2, .int 3, .int 1, .ref h1, .ref h4, .ref h2, .ref h3, .ref h5])), (h1, .inl (Y 1, 96, .inl (jw_l 0 [0, 1, 0, 0, 1, 0]))), (h2, .inl (Y 1, 16, .inl (jw_l 0 [1, 2, 0, 0, 2, 1]))), (h3, .inl (Y 1, 144, .inl (jw_l 0 [1])))] := hD
  refine jw_iast (ws' := [(h0, .inr (7, [.int 2, .int 2, .int 3, .int 1, .ref h1, .ref h4, .ref h2, .ref h3, .ref h5])), (h1, .inl (Y 1, 96, .inl (jw_l 0 [0, 1, 0, 0, 1, 0]))), (h2, .inl (Y 1, 16, .inl (jw_l 0 [1, 2, 0, 0, 2, 1]))), (h3, .inl (Y 1, 144, .inl (jw_l 0 [1, 0, 0, 0, 0, 0, 0])))]) hx hb hE hP hD hS 3 6 [1, 0, 0, 0, 0, 0, 0] rfl (by decide +kernel) (by decide +kernel) rfl dX4_setSwaps_44 (fun H locs hP hD hS => ?_)
  refine lv_iinc (v := 1) (lv' := [(2, .int 1), (4, .int 1), (3, .int 0), (0, .ref h0), (1, .int 1)]) hx hb dX4_setSwaps_45 hl (k := 2) rfl (by decide +kernel) (by decide) rfl (fun ls hl => ?_)
  refine lv_iinc (v := 2) (lv' := [(4, .int 2), (2, .int 1), (3, .int 0), (0, .ref h0), (1, .int 1)]) hx hb dX4_setSwaps_48 hl (k := 1) rfl (by decide +kernel) (by decide) rfl (fun ls hl => ?_)
  refine lv_goto (tgt := 17) hx hb dX4_setSwaps_51 (by decide) ?_
  refine lv_iload hx hb dX4_setSwaps_17 (lv_at hl 0 rfl) ?_
  refine lv_aload_n hx hb dX4_setSwaps_19 rfl (lv_at hl 3 rfl) ?_
  refine va_get (D := D) (ci := 7) (v := .int 2) (C := RX4) (T := TX4) (N := 9) hx hb hts iw_X4_setSwaps__X4 hown hE.1 hP 0 rfl rfl 0 (by decide) (hts _ mw_X4_setSwaps__1) (fun _ h9 => h9) rfl dX4_setSwaps_20 ?_
  refine lv_icmp_ge (tgt := 54) hx hb dX4_setSwaps_23 (by decide) (fun _ => ?_) (fun c9 => absurd (by decide +kernel) c9)
  refine lv_iinc (v := 1) (lv' := [(3, .int 1), (4, .int 2), (2, .int 1), (0, .ref h0), (1, .int 1)]) hx hb dX4_setSwaps_54 hl (k := 2) rfl (by decide +kernel) (by decide) rfl (fun ls hl => ?_)
  refine lv_goto (tgt := 4) hx hb dX4_setSwaps_57 (by decide) ?_
  refine lv_iload_n hx hb dX4_setSwaps_4 rfl (lv_at hl 0 rfl) ?_
  refine lv_aload_n hx hb dX4_setSwaps_5 rfl (lv_at hl 3 rfl) ?_
  refine va_get (D := D) (ci := 7) (v := .int 2) (C := RX4) (T := TX4) (N := 9) hx hb hts iw_X4_setSwaps__X4 hown hE.1 hP 0 rfl rfl 0 (by decide) (hts _ mw_X4_setSwaps__1) (fun _ h9 => h9) rfl dX4_setSwaps_6 ?_
  refine lv_icmp_ge (tgt := 60) hx hb dX4_setSwaps_9 (by decide) (fun c9 => absurd c9 (by decide +kernel)) (fun _ => ?_)
  refine lv_iload_n hx hb dX4_setSwaps_12 rfl (lv_at hl 0 rfl) ?_
  refine lv_iconst (v := 1) hx hb dX4_setSwaps_13 (by decide +kernel) ?_
  refine jw_iadd (v := 2) hx hb dX4_setSwaps_14 (by decide +kernel) ?_
  refine lv_istore (lv' := [(4, .int 2), (3, .int 1), (2, .int 1), (0, .ref h0), (1, .int 1)]) hx hb dX4_setSwaps_15 hl (by decide) rfl (fun ls hl => ?_)
  refine lv_iload hx hb dX4_setSwaps_17 (lv_at hl 0 rfl) ?_
  refine lv_aload_n hx hb dX4_setSwaps_19 rfl (lv_at hl 3 rfl) ?_
  refine va_get (D := D) (ci := 7) (v := .int 2) (C := RX4) (T := TX4) (N := 9) hx hb hts iw_X4_setSwaps__X4 hown hE.1 hP 0 rfl rfl 0 (by decide) (hts _ mw_X4_setSwaps__1) (fun _ h9 => h9) rfl dX4_setSwaps_20 ?_
  refine lv_icmp_ge (tgt := 54) hx hb dX4_setSwaps_23 (by decide) (fun _ => ?_) (fun c9 => absurd (by decide +kernel) c9)
  refine lv_iinc (v := 2) (lv' := [(3, .int 2), (4, .int 2), (2, .int 1), (0, .ref h0), (1, .int 1)]) hx hb dX4_setSwaps_54 hl (k := 1) rfl (by decide +kernel) (by decide) rfl (fun ls hl => ?_)
  refine lv_goto (tgt := 4) hx hb dX4_setSwaps_57 (by decide) ?_
  refine lv_iload_n hx hb dX4_setSwaps_4 rfl (lv_at hl 0 rfl) ?_
  refine lv_aload_n hx hb dX4_setSwaps_5 rfl (lv_at hl 3 rfl) ?_
  refine va_get (D := D) (ci := 7) (v := .int 2) (C := RX4) (T := TX4) (N := 9) hx hb hts iw_X4_setSwaps__X4 hown hE.1 hP 0 rfl rfl 0 (by decide) (hts _ mw_X4_setSwaps__1) (fun _ h9 => h9) rfl dX4_setSwaps_6 ?_
  refine lv_icmp_ge (tgt := 60) hx hb dX4_setSwaps_9 (by decide) (fun _ => ?_) (fun c9 => absurd (by decide +kernel) c9)
  refine lv_aload_n hx hb dX4_setSwaps_60 rfl (lv_at hl 3 rfl) ?_
  refine lv_iload_n hx hb dX4_setSwaps_61 rfl (lv_at hl 2 rfl) ?_
  refine va_put (D := D) (ci := 7) (v := .int 1) (C := RX4) (T := TX4) (N := 9) hx hb hts iw_X4_setSwaps__X4 tyX4 tyX4_ok nmX4 hown hE.1 hP hD hS 0 rfl rfl 3 (by decide) (hts _ mw_X4_setSwaps__3) (fun _ h9 => h9) rfl (tyX4_ok 3 (by decide)) rfl rfl (Nat.le_of_ble_eq_true rfl) dX4_setSwaps_62 (fun H locs hP hD hS => ?_)
  have hP : va_P D vwCl [(h0, .inr (7, [.int 2, .int 2, .int 3, .int 1, .ref h1, .ref h4, .ref h2, .ref h3, .ref h5])), (h1, .inl (Y 1, 96, .inl (jw_l 0 [0, 1, 0, 0, 1, 0]))), (h2, .inl (Y 1, 16, .inl (jw_l 0 [1, 2, 0, 0, 2, 1]))), (h3, .inl (Y 1, 144, .inl (jw_l 0 [1, 0, 0, 0, 0, 0, 0])))] H := hP
  have hD : va_D A [(h0, .inr (7, [.int 2, .int 2, .int 3, .int 1, .ref h1, .ref h4, .ref h2, .ref h3, .ref h5])), (h1, .inl (Y 1, 96, .inl (jw_l 0 [0, 1, 0, 0, 1, 0]))), (h2, .inl (Y 1, 16, .inl (jw_l 0 [1, 2, 0, 0, 2, 1]))), (h3, .inl (Y 1, 144, .inl (jw_l 0 [1, 0, 0, 0, 0, 0, 0])))] := hD
  refine W.widen (k := 0) (n := 0) (Nat.le_of_ble_eq_true rfl) (Nat.le_of_ble_eq_true rfl) ?_
  exact jw_vret hx hb hr hlocks rfl hP hD hS dX4_setSwaps_65
set_option maxHeartbeats 4000000 in
set_option maxRecDepth 100000 in
theorem k46_X4_set {l : Launch} {D : va_G} {Y : Nat → ClassId} {tt : Nat → Nat} (h0 h1 h2 h3 h4 h5 : Nat) (sz : Nat) : Met l yX4_set wsX4_set ({ frames := 4, cells := 0, slots := 0, locals := 91 }) (jw_Pc D Y tt [.ref h0, .int 2] [(h0, .inr (7, [.int 0, .int 0, .int 0, .int 0, .ref h1, .ref h2, .ref h3, .ref h4, .ref h5])), (h1, .inl (Y 1, 96, .inl (jw_l 0 []))), (h2, .inl (Y 1, 96, .inl (jw_l 0 []))), (h3, .inl (Y 1, 16, .inl (jw_l 0 []))), (h4, .inl (Y 1, 144, .inl (jw_l 0 []))), (h5, .inl (Y 1, 4, .inl (jw_l 0 [])))] sz) (jw_Qv D (fun w => w = [(h0, .inr (7, [.int 2, .int 2, .int 3, .int 1, .ref h1, .ref h2, .ref h3, .ref h4, .ref h5])), (h1, .inl (Y 1, 96, .inl (jw_l 0 [0, 1, 0, 0, 1, 0]))), (h2, .inl (Y 1, 96, .inl (jw_l 0 [0, 1, 0, 0, 1, 0]))), (h3, .inl (Y 1, 16, .inl (jw_l 0 [1, 2, 0, 0, 2, 1]))), (h4, .inl (Y 1, 144, .inl (jw_l 0 [1, 0, 0, 0, 0, 0, 0]))), (h5, .inl (Y 1, 4, .inl (jw_l 0 [3, 3])))]) (va_A [(h0, .inr (7, [.int 0, .int 0, .int 0, .int 0, .ref h1, .ref h2, .ref h3, .ref h4, .ref h5])), (h1, .inl (Y 1, 96, .inl (jw_l 0 []))), (h2, .inl (Y 1, 96, .inl (jw_l 0 []))), (h3, .inl (Y 1, 16, .inl (jw_l 0 []))), (h4, .inl (Y 1, 144, .inl (jw_l 0 []))), (h5, .inl (Y 1, 4, .inl (jw_l 0 [])))] sz)) 0 0 (va_A [(h0, .inr (7, [.int 0, .int 0, .int 0, .int 0, .ref h1, .ref h2, .ref h3, .ref h4, .ref h5])), (h1, .inl (Y 1, 96, .inl (jw_l 0 []))), (h2, .inl (Y 1, 96, .inl (jw_l 0 []))), (h3, .inl (Y 1, 16, .inl (jw_l 0 []))), (h4, .inl (Y 1, 144, .inl (jw_l 0 []))), (h5, .inl (Y 1, 4, .inl (jw_l 0 [])))] sz) := by
  refine jw_met (fun A => jw_Qv D (fun w => w = [(h0, .inr (7, [.int 2, .int 2, .int 3, .int 1, .ref h1, .ref h2, .ref h3, .ref h4, .ref h5])), (h1, .inl (Y 1, 96, .inl (jw_l 0 [0, 1, 0, 0, 1, 0]))), (h2, .inl (Y 1, 96, .inl (jw_l 0 [0, 1, 0, 0, 1, 0]))), (h3, .inl (Y 1, 16, .inl (jw_l 0 [1, 2, 0, 0, 2, 1]))), (h4, .inl (Y 1, 144, .inl (jw_l 0 [1, 0, 0, 0, 0, 0, 0]))), (h5, .inl (Y 1, 4, .inl (jw_l 0 [3, 3])))]) A) (cc := cX4_set) (maxL := 3) (ret := none) pn_X4_set rfl rfl ?_
  intro p e s m below meth c A H locs ls hx hb hml hr hts hown hlocks hin hP hD hA hS hE hl
  have hown : s.vm.findClass RX4 = some m.cls := hown
  have hl : lv_has ls 3 [(0, .ref h0), (1, .int 2)] := hl
  refine lv_iload_n hx hb dX4_set_0 rfl (lv_at hl 1 rfl) ?_
  refine lv_aload_n hx hb dX4_set_1 rfl (lv_at hl 0 rfl) ?_
  refine va_get (D := D) (ci := 7) (v := .int 0) (C := RX4) (T := TX4) (N := 9) hx hb hts iw_X4_set__X4 hown hE.1 hP 0 rfl rfl 0 (by decide) (hts _ mw_X4_set__1) (fun _ h9 => h9) rfl dX4_set_2 ?_
  refine lv_icmp_eq (tgt := 18) hx hb dX4_set_5 (by decide) (fun c9 => absurd c9 (by decide +kernel)) (fun _ => ?_)
  refine lv_iload_n hx hb dX4_set_8 rfl (lv_at hl 1 rfl) ?_
  refine lv_iconst (v := 1) hx hb dX4_set_9 (by decide +kernel) ?_
  refine lv_icmp_lt (tgt := 18) hx hb dX4_set_10 (by decide) (fun c9 => absurd c9 (by decide +kernel)) (fun _ => ?_)
  refine lv_iload_n hx hb dX4_set_13 rfl (lv_at hl 1 rfl) ?_
  refine lv_iconst (v := 4) hx hb dX4_set_14 (by decide +kernel) ?_
  refine lv_icmp_le (tgt := 19) hx hb dX4_set_15 (by decide) (fun _ => ?_) (fun c9 => absurd (by decide +kernel) c9)
  refine lv_aload_n hx hb dX4_set_19 rfl (lv_at hl 0 rfl) ?_
  refine lv_iload_n hx hb dX4_set_20 rfl (lv_at hl 1 rfl) ?_
  refine va_put (D := D) (ci := 7) (v := .int 2) (C := RX4) (T := TX4) (N := 9) hx hb hts iw_X4_set__X4 tyX4 tyX4_ok nmX4 hown hE.1 hP hD hS 0 rfl rfl 0 (by decide) (hts _ mw_X4_set__1) (fun _ h9 => h9) rfl (tyX4_ok 0 (by decide)) rfl rfl (Nat.le_of_ble_eq_true rfl) dX4_set_21 (fun H locs hP hD hS => ?_)
  have hP : va_P D vwCl [(h0, .inr (7, [.int 2, .int 0, .int 0, .int 0, .ref h1, .ref h2, .ref h3, .ref h4, .ref h5])), (h1, .inl (Y 1, 96, .inl (jw_l 0 []))), (h2, .inl (Y 1, 96, .inl (jw_l 0 []))), (h3, .inl (Y 1, 16, .inl (jw_l 0 []))), (h4, .inl (Y 1, 144, .inl (jw_l 0 []))), (h5, .inl (Y 1, 4, .inl (jw_l 0 [])))] H := hP
  have hD : va_D A [(h0, .inr (7, [.int 2, .int 0, .int 0, .int 0, .ref h1, .ref h2, .ref h3, .ref h4, .ref h5])), (h1, .inl (Y 1, 96, .inl (jw_l 0 []))), (h2, .inl (Y 1, 96, .inl (jw_l 0 []))), (h3, .inl (Y 1, 16, .inl (jw_l 0 []))), (h4, .inl (Y 1, 144, .inl (jw_l 0 []))), (h5, .inl (Y 1, 4, .inl (jw_l 0 [])))] := hD
  refine lv_aload_n hx hb dX4_set_24 rfl (lv_at hl 0 rfl) ?_
  refine lv_iconst (v := 0) hx hb dX4_set_25 (by decide +kernel) ?_
  refine va_put (D := D) (ci := 7) (v := .int 0) (C := RX4) (T := TX4) (N := 9) hx hb hts iw_X4_set__X4 tyX4 tyX4_ok nmX4 hown hE.1 hP hD hS 0 rfl rfl 1 (by decide) (hts _ mw_X4_set__2) (fun _ h9 => h9) rfl (tyX4_ok 1 (by decide)) rfl rfl (Nat.le_of_ble_eq_true rfl) dX4_set_26 (fun H locs hP hD hS => ?_)
  have hP : va_P D vwCl [(h0, .inr (7, [.int 2, .int 0, .int 0, .int 0, .ref h1, .ref h2, .ref h3, .ref h4, .ref h5])), (h1, .inl (Y 1, 96, .inl (jw_l 0 []))), (h2, .inl (Y 1, 96, .inl (jw_l 0 []))), (h3, .inl (Y 1, 16, .inl (jw_l 0 []))), (h4, .inl (Y 1, 144, .inl (jw_l 0 []))), (h5, .inl (Y 1, 4, .inl (jw_l 0 [])))] H := hP
  have hD : va_D A [(h0, .inr (7, [.int 2, .int 0, .int 0, .int 0, .ref h1, .ref h2, .ref h3, .ref h4, .ref h5])), (h1, .inl (Y 1, 96, .inl (jw_l 0 []))), (h2, .inl (Y 1, 96, .inl (jw_l 0 []))), (h3, .inl (Y 1, 16, .inl (jw_l 0 []))), (h4, .inl (Y 1, 144, .inl (jw_l 0 []))), (h5, .inl (Y 1, 4, .inl (jw_l 0 [])))] := hD
  refine lv_aload_n hx hb dX4_set_29 rfl (lv_at hl 0 rfl) ?_
  refine va_get (D := D) (ci := 7) (v := .ref h3) (C := RX4) (T := TX4) (N := 9) hx hb hts iw_X4_set__X4 hown hE.1 hP 0 rfl rfl 6 (by decide) (hts _ mw_X4_set__3) (fun _ h9 => h9) rfl dX4_set_30 ?_
  refine lv_iconst (v := 0) hx hb dX4_set_33 (by decide +kernel) ?_
  refine jw_mv (wc := [(h3, .inl (Y 1, 16, .inl (jw_l 0 [])))]) (cs := 0) (ss := 0) (va_runS (As := [.ref h3, .int 0]) (rest := []) ⟨hx, hb, hml, hown, hts⟩ (jw_fill (n := 16) (h0 := h3) (v := 0) (sz := H.size) (by decide)) (va_cwS 2 hts gX4_set_J7_fill_53178 rfl rfl rfl ydS_J7_fill_53178 ⟨Nat.le_of_ble_eq_true rfl, Nat.le_of_ble_eq_true rfl⟩) (jw_mpreS hP hD hS hA hE [false, false, false, true] rfl) rfl rfl hl.1 rfl (lv_room (Nat.le_of_ble_eq_true rfl)) dX4_set_34 ⟨Nat.le_of_ble_eq_true rfl, Nat.le_of_ble_eq_true rfl⟩) hP hD hS hA [false, false, false, true] rfl rfl rfl (fun w1 H locs hw9 hP hD hS => ?_)
  subst hw9
  have hP : va_P D vwCl [(h0, .inr (7, [.int 2, .int 0, .int 0, .int 0, .ref h1, .ref h2, .ref h3, .ref h4, .ref h5])), (h1, .inl (Y 1, 96, .inl (jw_l 0 []))), (h2, .inl (Y 1, 96, .inl (jw_l 0 []))), (h3, .inl (Y 1, 16, .inl (jw_l 0 []))), (h4, .inl (Y 1, 144, .inl (jw_l 0 []))), (h5, .inl (Y 1, 4, .inl (jw_l 0 [])))] H := hP
  have hD : va_D A [(h0, .inr (7, [.int 2, .int 0, .int 0, .int 0, .ref h1, .ref h2, .ref h3, .ref h4, .ref h5])), (h1, .inl (Y 1, 96, .inl (jw_l 0 []))), (h2, .inl (Y 1, 96, .inl (jw_l 0 []))), (h3, .inl (Y 1, 16, .inl (jw_l 0 []))), (h4, .inl (Y 1, 144, .inl (jw_l 0 []))), (h5, .inl (Y 1, 4, .inl (jw_l 0 [])))] := hD
  refine lv_iconst (v := 0) hx hb dX4_set_37 (by decide +kernel) ?_
  refine lv_istore_n (lv' := [(2, .int 0), (0, .ref h0), (1, .int 2)]) hx hb dX4_set_38 rfl hl (by decide) rfl (fun ls hl => ?_)
  refine lv_iload_n hx hb dX4_set_39 rfl (lv_at hl 0 rfl) ?_
  refine lv_iconst (v := 1) hx hb dX4_set_40 (by decide +kernel) ?_
  refine lv_iconst (v := 2) hx hb dX4_set_41 (by decide +kernel) ?_
  refine lv_iload_n hx hb dX4_set_42 rfl (lv_at hl 2 rfl) ?_
  refine jw_imul (v := 4) hx hb dX4_set_43 (by decide +kernel) ?_
  refine jw_ishl (v := 16) hx hb dX4_set_44 (by decide +kernel) ?_
  refine lv_icmp_ge (tgt := 79) hx hb dX4_set_45 (by decide) (fun c9 => absurd c9 (by decide +kernel)) (fun _ => ?_)
  refine lv_aload_n hx hb dX4_set_48 rfl (lv_at hl 1 rfl) ?_
  refine va_get (D := D) (ci := 7) (v := .int 0) (C := RX4) (T := TX4) (N := 9) hx hb hts iw_X4_set__X4 hown hE.1 hP 0 rfl rfl 1 (by decide) (hts _ mw_X4_set__2) (fun _ h9 => h9) rfl dX4_set_49 ?_
  refine lv_bipush (v := 24) hx hb dX4_set_52 (by decide +kernel) ?_
  refine lv_icmp_ge (tgt := 73) hx hb dX4_set_54 (by decide) (fun c9 => absurd c9 (by decide +kernel)) (fun _ => ?_)
  refine lv_iload_n hx hb dX4_set_57 rfl (lv_at hl 0 rfl) ?_
  refine lv_iload_n hx hb dX4_set_58 rfl (lv_at hl 2 rfl) ?_
  refine lv_aload_n hx hb dX4_set_59 rfl (lv_at hl 1 rfl) ?_
  refine va_get (D := D) (ci := 7) (v := .ref h5) (C := RX4) (T := TX4) (N := 9) hx hb hts iw_X4_set__X4 hown hE.1 hP 0 rfl rfl 8 (by decide) (hts _ mw_X4_set__4) (fun _ h9 => h9) rfl dX4_set_60 ?_
  refine jw_mi (wc := [(h5, .inl (Y 1, 4, .inl (jw_l 0 [])))]) (cs := 0) (ss := 0) (va_runS (As := [.int 0, .int 2, .ref h5]) (rest := []) ⟨hx, hb, hml, hown, hts⟩ (k16_X4_readRow h5 H.size) (va_cwS 3 hts gX4_set_X4_readRow rfl rfl rfl ydS_X4_readRow ⟨Nat.le_of_ble_eq_true rfl, Nat.le_of_ble_eq_true rfl⟩) (jw_mpreS hP hD hS hA hE [false, false, false, false, false, true] rfl) rfl rfl hl.1 rfl (lv_room (Nat.le_of_ble_eq_true rfl)) dX4_set_63 ⟨Nat.le_of_ble_eq_true rfl, Nat.le_of_ble_eq_true rfl⟩) hP hD hS hA [false, false, false, false, false, true] rfl rfl rfl (fun r9 w1 H locs hr9 hw9 hP hD hS => ?_)
  subst hr9
  subst hw9
  have hP : va_P D vwCl [(h0, .inr (7, [.int 2, .int 0, .int 0, .int 0, .ref h1, .ref h2, .ref h3, .ref h4, .ref h5])), (h1, .inl (Y 1, 96, .inl (jw_l 0 []))), (h2, .inl (Y 1, 96, .inl (jw_l 0 []))), (h3, .inl (Y 1, 16, .inl (jw_l 0 []))), (h4, .inl (Y 1, 144, .inl (jw_l 0 []))), (h5, .inl (Y 1, 4, .inl (jw_l 0 [0, 0])))] H := hP
  have hD : va_D A [(h0, .inr (7, [.int 2, .int 0, .int 0, .int 0, .ref h1, .ref h2, .ref h3, .ref h4, .ref h5])), (h1, .inl (Y 1, 96, .inl (jw_l 0 []))), (h2, .inl (Y 1, 96, .inl (jw_l 0 []))), (h3, .inl (Y 1, 16, .inl (jw_l 0 []))), (h4, .inl (Y 1, 144, .inl (jw_l 0 []))), (h5, .inl (Y 1, 4, .inl (jw_l 0 [0, 0])))] := hD
  refine lv_if_eq (tgt := 73) hx hb dX4_set_66 (by decide) (fun _ => ?_) (fun c9 => absurd (by decide +kernel) c9)
  refine lv_iinc (v := 1) (lv' := [(2, .int 1), (0, .ref h0), (1, .int 2)]) hx hb dX4_set_73 hl (k := 0) rfl (by decide +kernel) (by decide) rfl (fun ls hl => ?_)
  refine lv_goto (tgt := 39) hx hb dX4_set_76 (by decide) ?_
  refine lv_iload_n hx hb dX4_set_39 rfl (lv_at hl 0 rfl) ?_
  refine lv_iconst (v := 1) hx hb dX4_set_40 (by decide +kernel) ?_
  refine lv_iconst (v := 2) hx hb dX4_set_41 (by decide +kernel) ?_
  refine lv_iload_n hx hb dX4_set_42 rfl (lv_at hl 2 rfl) ?_
  refine jw_imul (v := 4) hx hb dX4_set_43 (by decide +kernel) ?_
  refine jw_ishl (v := 16) hx hb dX4_set_44 (by decide +kernel) ?_
  refine lv_icmp_ge (tgt := 79) hx hb dX4_set_45 (by decide) (fun c9 => absurd c9 (by decide +kernel)) (fun _ => ?_)
  refine lv_aload_n hx hb dX4_set_48 rfl (lv_at hl 1 rfl) ?_
  refine va_get (D := D) (ci := 7) (v := .int 0) (C := RX4) (T := TX4) (N := 9) hx hb hts iw_X4_set__X4 hown hE.1 hP 0 rfl rfl 1 (by decide) (hts _ mw_X4_set__2) (fun _ h9 => h9) rfl dX4_set_49 ?_
  refine lv_bipush (v := 24) hx hb dX4_set_52 (by decide +kernel) ?_
  refine lv_icmp_ge (tgt := 73) hx hb dX4_set_54 (by decide) (fun c9 => absurd c9 (by decide +kernel)) (fun _ => ?_)
  refine lv_iload_n hx hb dX4_set_57 rfl (lv_at hl 0 rfl) ?_
  refine lv_iload_n hx hb dX4_set_58 rfl (lv_at hl 2 rfl) ?_
  refine lv_aload_n hx hb dX4_set_59 rfl (lv_at hl 1 rfl) ?_
  refine va_get (D := D) (ci := 7) (v := .ref h5) (C := RX4) (T := TX4) (N := 9) hx hb hts iw_X4_set__X4 hown hE.1 hP 0 rfl rfl 8 (by decide) (hts _ mw_X4_set__4) (fun _ h9 => h9) rfl dX4_set_60 ?_
  refine jw_mi (wc := [(h5, .inl (Y 1, 4, .inl (jw_l 0 [0, 0])))]) (cs := 0) (ss := 0) (va_runS (As := [.int 1, .int 2, .ref h5]) (rest := []) ⟨hx, hb, hml, hown, hts⟩ (k17_X4_readRow h5 H.size) (va_cwS 3 hts gX4_set_X4_readRow rfl rfl rfl ydS_X4_readRow ⟨Nat.le_of_ble_eq_true rfl, Nat.le_of_ble_eq_true rfl⟩) (jw_mpreS hP hD hS hA hE [false, false, false, false, false, true] rfl) rfl rfl hl.1 rfl (lv_room (Nat.le_of_ble_eq_true rfl)) dX4_set_63 ⟨Nat.le_of_ble_eq_true rfl, Nat.le_of_ble_eq_true rfl⟩) hP hD hS hA [false, false, false, false, false, true] rfl rfl rfl (fun r9 w1 H locs hr9 hw9 hP hD hS => ?_)
  subst hr9
  subst hw9
  have hP : va_P D vwCl [(h0, .inr (7, [.int 2, .int 0, .int 0, .int 0, .ref h1, .ref h2, .ref h3, .ref h4, .ref h5])), (h1, .inl (Y 1, 96, .inl (jw_l 0 []))), (h2, .inl (Y 1, 96, .inl (jw_l 0 []))), (h3, .inl (Y 1, 16, .inl (jw_l 0 []))), (h4, .inl (Y 1, 144, .inl (jw_l 0 []))), (h5, .inl (Y 1, 4, .inl (jw_l 0 [0, 1])))] H := hP
  have hD : va_D A [(h0, .inr (7, [.int 2, .int 0, .int 0, .int 0, .ref h1, .ref h2, .ref h3, .ref h4, .ref h5])), (h1, .inl (Y 1, 96, .inl (jw_l 0 []))), (h2, .inl (Y 1, 96, .inl (jw_l 0 []))), (h3, .inl (Y 1, 16, .inl (jw_l 0 []))), (h4, .inl (Y 1, 144, .inl (jw_l 0 []))), (h5, .inl (Y 1, 4, .inl (jw_l 0 [0, 1])))] := hD
  refine lv_if_eq (tgt := 73) hx hb dX4_set_66 (by decide) (fun c9 => absurd c9 (by decide +kernel)) (fun _ => ?_)
  refine lv_aload_n hx hb dX4_set_69 rfl (lv_at hl 1 rfl) ?_
  refine jw_mv (wc := [(h0, .inr (7, [.int 2, .int 0, .int 0, .int 0, .ref h1, .ref h2, .ref h3, .ref h4, .ref h5])), (h1, .inl (Y 1, 96, .inl (jw_l 0 []))), (h2, .inl (Y 1, 96, .inl (jw_l 0 []))), (h3, .inl (Y 1, 16, .inl (jw_l 0 []))), (h5, .inl (Y 1, 4, .inl (jw_l 0 [0, 1])))]) (cs := 0) (ss := 0) (va_runV (As := []) (rest := []) ⟨hx, hb, hml, hown, hts⟩ (k18_X4_addRow h0 h1 h2 h3 h5 h4 H.size) (cwV 0 hts gX4_set_X4_addRow rfl rfl rfl ydV_X4_addRow ⟨Nat.le_of_ble_eq_true rfl, Nat.le_of_ble_eq_true rfl⟩) (jw_mpreV (ci := 7) (q0 := 0) hP hD hS hA hE [true, true, true, true, false, true] rfl rfl rfl) rfl rfl hl.1 rfl (lv_room (Nat.le_of_ble_eq_true rfl)) dX4_set_70 ⟨Nat.le_of_ble_eq_true rfl, Nat.le_of_ble_eq_true rfl⟩) hP hD hS hA [true, true, true, true, false, true] rfl rfl rfl (fun w1 H locs hw9 hP hD hS => ?_)
  subst hw9
  have hP : va_P D vwCl [(h0, .inr (7, [.int 2, .int 1, .int 0, .int 0, .ref h1, .ref h2, .ref h3, .ref h4, .ref h5])), (h1, .inl (Y 1, 96, .inl (jw_l 0 [0, 1]))), (h2, .inl (Y 1, 96, .inl (jw_l 0 [0, 1]))), (h3, .inl (Y 1, 16, .inl (jw_l 0 [1, 0, 0, 0, 0, 1]))), (h4, .inl (Y 1, 144, .inl (jw_l 0 []))), (h5, .inl (Y 1, 4, .inl (jw_l 0 [0, 1])))] H := hP
  have hD : va_D A [(h0, .inr (7, [.int 2, .int 1, .int 0, .int 0, .ref h1, .ref h2, .ref h3, .ref h4, .ref h5])), (h1, .inl (Y 1, 96, .inl (jw_l 0 [0, 1]))), (h2, .inl (Y 1, 96, .inl (jw_l 0 [0, 1]))), (h3, .inl (Y 1, 16, .inl (jw_l 0 [1, 0, 0, 0, 0, 1]))), (h4, .inl (Y 1, 144, .inl (jw_l 0 []))), (h5, .inl (Y 1, 4, .inl (jw_l 0 [0, 1])))] := hD
  refine lv_iinc (v := 2) (lv' := [(2, .int 2), (0, .ref h0), (1, .int 2)]) hx hb dX4_set_73 hl (k := 0) rfl (by decide +kernel) (by decide) rfl (fun ls hl => ?_)
  refine lv_goto (tgt := 39) hx hb dX4_set_76 (by decide) ?_
  refine lv_iload_n hx hb dX4_set_39 rfl (lv_at hl 0 rfl) ?_
  refine lv_iconst (v := 1) hx hb dX4_set_40 (by decide +kernel) ?_
  refine lv_iconst (v := 2) hx hb dX4_set_41 (by decide +kernel) ?_
  refine lv_iload_n hx hb dX4_set_42 rfl (lv_at hl 2 rfl) ?_
  refine jw_imul (v := 4) hx hb dX4_set_43 (by decide +kernel) ?_
  refine jw_ishl (v := 16) hx hb dX4_set_44 (by decide +kernel) ?_
  refine lv_icmp_ge (tgt := 79) hx hb dX4_set_45 (by decide) (fun c9 => absurd c9 (by decide +kernel)) (fun _ => ?_)
  refine lv_aload_n hx hb dX4_set_48 rfl (lv_at hl 1 rfl) ?_
  refine va_get (D := D) (ci := 7) (v := .int 1) (C := RX4) (T := TX4) (N := 9) hx hb hts iw_X4_set__X4 hown hE.1 hP 0 rfl rfl 1 (by decide) (hts _ mw_X4_set__2) (fun _ h9 => h9) rfl dX4_set_49 ?_
  refine lv_bipush (v := 24) hx hb dX4_set_52 (by decide +kernel) ?_
  refine lv_icmp_ge (tgt := 73) hx hb dX4_set_54 (by decide) (fun c9 => absurd c9 (by decide +kernel)) (fun _ => ?_)
  refine lv_iload_n hx hb dX4_set_57 rfl (lv_at hl 0 rfl) ?_
  refine lv_iload_n hx hb dX4_set_58 rfl (lv_at hl 2 rfl) ?_
  refine lv_aload_n hx hb dX4_set_59 rfl (lv_at hl 1 rfl) ?_
  refine va_get (D := D) (ci := 7) (v := .ref h5) (C := RX4) (T := TX4) (N := 9) hx hb hts iw_X4_set__X4 hown hE.1 hP 0 rfl rfl 8 (by decide) (hts _ mw_X4_set__4) (fun _ h9 => h9) rfl dX4_set_60 ?_
  refine jw_mi (wc := [(h5, .inl (Y 1, 4, .inl (jw_l 0 [0, 1])))]) (cs := 0) (ss := 0) (va_runS (As := [.int 2, .int 2, .ref h5]) (rest := []) ⟨hx, hb, hml, hown, hts⟩ (k19_X4_readRow h5 H.size) (va_cwS 3 hts gX4_set_X4_readRow rfl rfl rfl ydS_X4_readRow ⟨Nat.le_of_ble_eq_true rfl, Nat.le_of_ble_eq_true rfl⟩) (jw_mpreS hP hD hS hA hE [false, false, false, false, false, true] rfl) rfl rfl hl.1 rfl (lv_room (Nat.le_of_ble_eq_true rfl)) dX4_set_63 ⟨Nat.le_of_ble_eq_true rfl, Nat.le_of_ble_eq_true rfl⟩) hP hD hS hA [false, false, false, false, false, true] rfl rfl rfl (fun r9 w1 H locs hr9 hw9 hP hD hS => ?_)
  subst hr9
  subst hw9
  have hP : va_P D vwCl [(h0, .inr (7, [.int 2, .int 1, .int 0, .int 0, .ref h1, .ref h2, .ref h3, .ref h4, .ref h5])), (h1, .inl (Y 1, 96, .inl (jw_l 0 [0, 1]))), (h2, .inl (Y 1, 96, .inl (jw_l 0 [0, 1]))), (h3, .inl (Y 1, 16, .inl (jw_l 0 [1, 0, 0, 0, 0, 1]))), (h4, .inl (Y 1, 144, .inl (jw_l 0 []))), (h5, .inl (Y 1, 4, .inl (jw_l 0 [0, 2])))] H := hP
  have hD : va_D A [(h0, .inr (7, [.int 2, .int 1, .int 0, .int 0, .ref h1, .ref h2, .ref h3, .ref h4, .ref h5])), (h1, .inl (Y 1, 96, .inl (jw_l 0 [0, 1]))), (h2, .inl (Y 1, 96, .inl (jw_l 0 [0, 1]))), (h3, .inl (Y 1, 16, .inl (jw_l 0 [1, 0, 0, 0, 0, 1]))), (h4, .inl (Y 1, 144, .inl (jw_l 0 []))), (h5, .inl (Y 1, 4, .inl (jw_l 0 [0, 2])))] := hD
  refine lv_if_eq (tgt := 73) hx hb dX4_set_66 (by decide) (fun _ => ?_) (fun c9 => absurd (by decide +kernel) c9)
  refine lv_iinc (v := 3) (lv' := [(2, .int 3), (0, .ref h0), (1, .int 2)]) hx hb dX4_set_73 hl (k := 0) rfl (by decide +kernel) (by decide) rfl (fun ls hl => ?_)
  refine lv_goto (tgt := 39) hx hb dX4_set_76 (by decide) ?_
  refine lv_iload_n hx hb dX4_set_39 rfl (lv_at hl 0 rfl) ?_
  refine lv_iconst (v := 1) hx hb dX4_set_40 (by decide +kernel) ?_
  refine lv_iconst (v := 2) hx hb dX4_set_41 (by decide +kernel) ?_
  refine lv_iload_n hx hb dX4_set_42 rfl (lv_at hl 2 rfl) ?_
  refine jw_imul (v := 4) hx hb dX4_set_43 (by decide +kernel) ?_
  refine jw_ishl (v := 16) hx hb dX4_set_44 (by decide +kernel) ?_
  refine lv_icmp_ge (tgt := 79) hx hb dX4_set_45 (by decide) (fun c9 => absurd c9 (by decide +kernel)) (fun _ => ?_)
  refine lv_aload_n hx hb dX4_set_48 rfl (lv_at hl 1 rfl) ?_
  refine va_get (D := D) (ci := 7) (v := .int 1) (C := RX4) (T := TX4) (N := 9) hx hb hts iw_X4_set__X4 hown hE.1 hP 0 rfl rfl 1 (by decide) (hts _ mw_X4_set__2) (fun _ h9 => h9) rfl dX4_set_49 ?_
  refine lv_bipush (v := 24) hx hb dX4_set_52 (by decide +kernel) ?_
  refine lv_icmp_ge (tgt := 73) hx hb dX4_set_54 (by decide) (fun c9 => absurd c9 (by decide +kernel)) (fun _ => ?_)
  refine lv_iload_n hx hb dX4_set_57 rfl (lv_at hl 0 rfl) ?_
  refine lv_iload_n hx hb dX4_set_58 rfl (lv_at hl 2 rfl) ?_
  refine lv_aload_n hx hb dX4_set_59 rfl (lv_at hl 1 rfl) ?_
  refine va_get (D := D) (ci := 7) (v := .ref h5) (C := RX4) (T := TX4) (N := 9) hx hb hts iw_X4_set__X4 hown hE.1 hP 0 rfl rfl 8 (by decide) (hts _ mw_X4_set__4) (fun _ h9 => h9) rfl dX4_set_60 ?_
  refine jw_mi (wc := [(h5, .inl (Y 1, 4, .inl (jw_l 0 [0, 2])))]) (cs := 0) (ss := 0) (va_runS (As := [.int 3, .int 2, .ref h5]) (rest := []) ⟨hx, hb, hml, hown, hts⟩ (k20_X4_readRow h5 H.size) (va_cwS 3 hts gX4_set_X4_readRow rfl rfl rfl ydS_X4_readRow ⟨Nat.le_of_ble_eq_true rfl, Nat.le_of_ble_eq_true rfl⟩) (jw_mpreS hP hD hS hA hE [false, false, false, false, false, true] rfl) rfl rfl hl.1 rfl (lv_room (Nat.le_of_ble_eq_true rfl)) dX4_set_63 ⟨Nat.le_of_ble_eq_true rfl, Nat.le_of_ble_eq_true rfl⟩) hP hD hS hA [false, false, false, false, false, true] rfl rfl rfl (fun r9 w1 H locs hr9 hw9 hP hD hS => ?_)
  subst hr9
  subst hw9
  have hP : va_P D vwCl [(h0, .inr (7, [.int 2, .int 1, .int 0, .int 0, .ref h1, .ref h2, .ref h3, .ref h4, .ref h5])), (h1, .inl (Y 1, 96, .inl (jw_l 0 [0, 1]))), (h2, .inl (Y 1, 96, .inl (jw_l 0 [0, 1]))), (h3, .inl (Y 1, 16, .inl (jw_l 0 [1, 0, 0, 0, 0, 1]))), (h4, .inl (Y 1, 144, .inl (jw_l 0 []))), (h5, .inl (Y 1, 4, .inl (jw_l 0 [0, 3])))] H := hP
  have hD : va_D A [(h0, .inr (7, [.int 2, .int 1, .int 0, .int 0, .ref h1, .ref h2, .ref h3, .ref h4, .ref h5])), (h1, .inl (Y 1, 96, .inl (jw_l 0 [0, 1]))), (h2, .inl (Y 1, 96, .inl (jw_l 0 [0, 1]))), (h3, .inl (Y 1, 16, .inl (jw_l 0 [1, 0, 0, 0, 0, 1]))), (h4, .inl (Y 1, 144, .inl (jw_l 0 []))), (h5, .inl (Y 1, 4, .inl (jw_l 0 [0, 3])))] := hD
  refine lv_if_eq (tgt := 73) hx hb dX4_set_66 (by decide) (fun _ => ?_) (fun c9 => absurd (by decide +kernel) c9)
  refine lv_iinc (v := 4) (lv' := [(2, .int 4), (0, .ref h0), (1, .int 2)]) hx hb dX4_set_73 hl (k := 0) rfl (by decide +kernel) (by decide) rfl (fun ls hl => ?_)
  refine lv_goto (tgt := 39) hx hb dX4_set_76 (by decide) ?_
  refine lv_iload_n hx hb dX4_set_39 rfl (lv_at hl 0 rfl) ?_
  refine lv_iconst (v := 1) hx hb dX4_set_40 (by decide +kernel) ?_
  refine lv_iconst (v := 2) hx hb dX4_set_41 (by decide +kernel) ?_
  refine lv_iload_n hx hb dX4_set_42 rfl (lv_at hl 2 rfl) ?_
  refine jw_imul (v := 4) hx hb dX4_set_43 (by decide +kernel) ?_
  refine jw_ishl (v := 16) hx hb dX4_set_44 (by decide +kernel) ?_
  refine lv_icmp_ge (tgt := 79) hx hb dX4_set_45 (by decide) (fun c9 => absurd c9 (by decide +kernel)) (fun _ => ?_)
  refine lv_aload_n hx hb dX4_set_48 rfl (lv_at hl 1 rfl) ?_
  refine va_get (D := D) (ci := 7) (v := .int 1) (C := RX4) (T := TX4) (N := 9) hx hb hts iw_X4_set__X4 hown hE.1 hP 0 rfl rfl 1 (by decide) (hts _ mw_X4_set__2) (fun _ h9 => h9) rfl dX4_set_49 ?_
  refine lv_bipush (v := 24) hx hb dX4_set_52 (by decide +kernel) ?_
  refine lv_icmp_ge (tgt := 73) hx hb dX4_set_54 (by decide) (fun c9 => absurd c9 (by decide +kernel)) (fun _ => ?_)
  refine lv_iload_n hx hb dX4_set_57 rfl (lv_at hl 0 rfl) ?_
  refine lv_iload_n hx hb dX4_set_58 rfl (lv_at hl 2 rfl) ?_
  refine lv_aload_n hx hb dX4_set_59 rfl (lv_at hl 1 rfl) ?_
  refine va_get (D := D) (ci := 7) (v := .ref h5) (C := RX4) (T := TX4) (N := 9) hx hb hts iw_X4_set__X4 hown hE.1 hP 0 rfl rfl 8 (by decide) (hts _ mw_X4_set__4) (fun _ h9 => h9) rfl dX4_set_60 ?_
  refine jw_mi (wc := [(h5, .inl (Y 1, 4, .inl (jw_l 0 [0, 3])))]) (cs := 0) (ss := 0) (va_runS (As := [.int 4, .int 2, .ref h5]) (rest := []) ⟨hx, hb, hml, hown, hts⟩ (k21_X4_readRow h5 H.size) (va_cwS 3 hts gX4_set_X4_readRow rfl rfl rfl ydS_X4_readRow ⟨Nat.le_of_ble_eq_true rfl, Nat.le_of_ble_eq_true rfl⟩) (jw_mpreS hP hD hS hA hE [false, false, false, false, false, true] rfl) rfl rfl hl.1 rfl (lv_room (Nat.le_of_ble_eq_true rfl)) dX4_set_63 ⟨Nat.le_of_ble_eq_true rfl, Nat.le_of_ble_eq_true rfl⟩) hP hD hS hA [false, false, false, false, false, true] rfl rfl rfl (fun r9 w1 H locs hr9 hw9 hP hD hS => ?_)
  subst hr9
  subst hw9
  have hP : va_P D vwCl [(h0, .inr (7, [.int 2, .int 1, .int 0, .int 0, .ref h1, .ref h2, .ref h3, .ref h4, .ref h5])), (h1, .inl (Y 1, 96, .inl (jw_l 0 [0, 1]))), (h2, .inl (Y 1, 96, .inl (jw_l 0 [0, 1]))), (h3, .inl (Y 1, 16, .inl (jw_l 0 [1, 0, 0, 0, 0, 1]))), (h4, .inl (Y 1, 144, .inl (jw_l 0 []))), (h5, .inl (Y 1, 4, .inl (jw_l 0 [1, 0])))] H := hP
  have hD : va_D A [(h0, .inr (7, [.int 2, .int 1, .int 0, .int 0, .ref h1, .ref h2, .ref h3, .ref h4, .ref h5])), (h1, .inl (Y 1, 96, .inl (jw_l 0 [0, 1]))), (h2, .inl (Y 1, 96, .inl (jw_l 0 [0, 1]))), (h3, .inl (Y 1, 16, .inl (jw_l 0 [1, 0, 0, 0, 0, 1]))), (h4, .inl (Y 1, 144, .inl (jw_l 0 []))), (h5, .inl (Y 1, 4, .inl (jw_l 0 [1, 0])))] := hD
  refine lv_if_eq (tgt := 73) hx hb dX4_set_66 (by decide) (fun c9 => absurd c9 (by decide +kernel)) (fun _ => ?_)
  refine lv_aload_n hx hb dX4_set_69 rfl (lv_at hl 1 rfl) ?_
  refine jw_mv (wc := [(h0, .inr (7, [.int 2, .int 1, .int 0, .int 0, .ref h1, .ref h2, .ref h3, .ref h4, .ref h5])), (h1, .inl (Y 1, 96, .inl (jw_l 0 [0, 1]))), (h2, .inl (Y 1, 96, .inl (jw_l 0 [0, 1]))), (h3, .inl (Y 1, 16, .inl (jw_l 0 [1, 0, 0, 0, 0, 1]))), (h5, .inl (Y 1, 4, .inl (jw_l 0 [1, 0])))]) (cs := 0) (ss := 0) (va_runV (As := []) (rest := []) ⟨hx, hb, hml, hown, hts⟩ (k22_X4_addRow h0 h1 h2 h3 h5 h4 H.size) (cwV 0 hts gX4_set_X4_addRow rfl rfl rfl ydV_X4_addRow ⟨Nat.le_of_ble_eq_true rfl, Nat.le_of_ble_eq_true rfl⟩) (jw_mpreV (ci := 7) (q0 := 0) hP hD hS hA hE [true, true, true, true, false, true] rfl rfl rfl) rfl rfl hl.1 rfl (lv_room (Nat.le_of_ble_eq_true rfl)) dX4_set_70 ⟨Nat.le_of_ble_eq_true rfl, Nat.le_of_ble_eq_true rfl⟩) hP hD hS hA [true, true, true, true, false, true] rfl rfl rfl (fun w1 H locs hw9 hP hD hS => ?_)
  subst hw9
  have hP : va_P D vwCl [(h0, .inr (7, [.int 2, .int 2, .int 0, .int 0, .ref h1, .ref h2, .ref h3, .ref h4, .ref h5])), (h1, .inl (Y 1, 96, .inl (jw_l 0 [0, 1, 0, 0, 1, 0]))), (h2, .inl (Y 1, 96, .inl (jw_l 0 [0, 1, 0, 0, 1, 0]))), (h3, .inl (Y 1, 16, .inl (jw_l 0 [1, 2, 0, 0, 2, 1]))), (h4, .inl (Y 1, 144, .inl (jw_l 0 []))), (h5, .inl (Y 1, 4, .inl (jw_l 0 [1, 0])))] H := hP
  have hD : va_D A [(h0, .inr (7, [.int 2, .int 2, .int 0, .int 0, .ref h1, .ref h2, .ref h3, .ref h4, .ref h5])), (h1, .inl (Y 1, 96, .inl (jw_l 0 [0, 1, 0, 0, 1, 0]))), (h2, .inl (Y 1, 96, .inl (jw_l 0 [0, 1, 0, 0, 1, 0]))), (h3, .inl (Y 1, 16, .inl (jw_l 0 [1, 2, 0, 0, 2, 1]))), (h4, .inl (Y 1, 144, .inl (jw_l 0 []))), (h5, .inl (Y 1, 4, .inl (jw_l 0 [1, 0])))] := hD
  refine lv_iinc (v := 5) (lv' := [(2, .int 5), (0, .ref h0), (1, .int 2)]) hx hb dX4_set_73 hl (k := 0) rfl (by decide +kernel) (by decide) rfl (fun ls hl => ?_)
  refine lv_goto (tgt := 39) hx hb dX4_set_76 (by decide) ?_
  refine lv_iload_n hx hb dX4_set_39 rfl (lv_at hl 0 rfl) ?_
  refine lv_iconst (v := 1) hx hb dX4_set_40 (by decide +kernel) ?_
  refine lv_iconst (v := 2) hx hb dX4_set_41 (by decide +kernel) ?_
  refine lv_iload_n hx hb dX4_set_42 rfl (lv_at hl 2 rfl) ?_
  refine jw_imul (v := 4) hx hb dX4_set_43 (by decide +kernel) ?_
  refine jw_ishl (v := 16) hx hb dX4_set_44 (by decide +kernel) ?_
  refine lv_icmp_ge (tgt := 79) hx hb dX4_set_45 (by decide) (fun c9 => absurd c9 (by decide +kernel)) (fun _ => ?_)
  refine lv_aload_n hx hb dX4_set_48 rfl (lv_at hl 1 rfl) ?_
  refine va_get (D := D) (ci := 7) (v := .int 2) (C := RX4) (T := TX4) (N := 9) hx hb hts iw_X4_set__X4 hown hE.1 hP 0 rfl rfl 1 (by decide) (hts _ mw_X4_set__2) (fun _ h9 => h9) rfl dX4_set_49 ?_
  refine lv_bipush (v := 24) hx hb dX4_set_52 (by decide +kernel) ?_
  refine lv_icmp_ge (tgt := 73) hx hb dX4_set_54 (by decide) (fun c9 => absurd c9 (by decide +kernel)) (fun _ => ?_)
  refine lv_iload_n hx hb dX4_set_57 rfl (lv_at hl 0 rfl) ?_
  refine lv_iload_n hx hb dX4_set_58 rfl (lv_at hl 2 rfl) ?_
  refine lv_aload_n hx hb dX4_set_59 rfl (lv_at hl 1 rfl) ?_
  refine va_get (D := D) (ci := 7) (v := .ref h5) (C := RX4) (T := TX4) (N := 9) hx hb hts iw_X4_set__X4 hown hE.1 hP 0 rfl rfl 8 (by decide) (hts _ mw_X4_set__4) (fun _ h9 => h9) rfl dX4_set_60 ?_
  refine jw_mi (wc := [(h5, .inl (Y 1, 4, .inl (jw_l 0 [1, 0])))]) (cs := 0) (ss := 0) (va_runS (As := [.int 5, .int 2, .ref h5]) (rest := []) ⟨hx, hb, hml, hown, hts⟩ (k23_X4_readRow h5 H.size) (va_cwS 3 hts gX4_set_X4_readRow rfl rfl rfl ydS_X4_readRow ⟨Nat.le_of_ble_eq_true rfl, Nat.le_of_ble_eq_true rfl⟩) (jw_mpreS hP hD hS hA hE [false, false, false, false, false, true] rfl) rfl rfl hl.1 rfl (lv_room (Nat.le_of_ble_eq_true rfl)) dX4_set_63 ⟨Nat.le_of_ble_eq_true rfl, Nat.le_of_ble_eq_true rfl⟩) hP hD hS hA [false, false, false, false, false, true] rfl rfl rfl (fun r9 w1 H locs hr9 hw9 hP hD hS => ?_)
  subst hr9
  subst hw9
  have hP : va_P D vwCl [(h0, .inr (7, [.int 2, .int 2, .int 0, .int 0, .ref h1, .ref h2, .ref h3, .ref h4, .ref h5])), (h1, .inl (Y 1, 96, .inl (jw_l 0 [0, 1, 0, 0, 1, 0]))), (h2, .inl (Y 1, 96, .inl (jw_l 0 [0, 1, 0, 0, 1, 0]))), (h3, .inl (Y 1, 16, .inl (jw_l 0 [1, 2, 0, 0, 2, 1]))), (h4, .inl (Y 1, 144, .inl (jw_l 0 []))), (h5, .inl (Y 1, 4, .inl (jw_l 0 [1, 1])))] H := hP
  have hD : va_D A [(h0, .inr (7, [.int 2, .int 2, .int 0, .int 0, .ref h1, .ref h2, .ref h3, .ref h4, .ref h5])), (h1, .inl (Y 1, 96, .inl (jw_l 0 [0, 1, 0, 0, 1, 0]))), (h2, .inl (Y 1, 96, .inl (jw_l 0 [0, 1, 0, 0, 1, 0]))), (h3, .inl (Y 1, 16, .inl (jw_l 0 [1, 2, 0, 0, 2, 1]))), (h4, .inl (Y 1, 144, .inl (jw_l 0 []))), (h5, .inl (Y 1, 4, .inl (jw_l 0 [1, 1])))] := hD
  refine lv_if_eq (tgt := 73) hx hb dX4_set_66 (by decide) (fun _ => ?_) (fun c9 => absurd (by decide +kernel) c9)
  refine lv_iinc (v := 6) (lv' := [(2, .int 6), (0, .ref h0), (1, .int 2)]) hx hb dX4_set_73 hl (k := 0) rfl (by decide +kernel) (by decide) rfl (fun ls hl => ?_)
  refine lv_goto (tgt := 39) hx hb dX4_set_76 (by decide) ?_
  refine lv_iload_n hx hb dX4_set_39 rfl (lv_at hl 0 rfl) ?_
  refine lv_iconst (v := 1) hx hb dX4_set_40 (by decide +kernel) ?_
  refine lv_iconst (v := 2) hx hb dX4_set_41 (by decide +kernel) ?_
  refine lv_iload_n hx hb dX4_set_42 rfl (lv_at hl 2 rfl) ?_
  refine jw_imul (v := 4) hx hb dX4_set_43 (by decide +kernel) ?_
  refine jw_ishl (v := 16) hx hb dX4_set_44 (by decide +kernel) ?_
  refine lv_icmp_ge (tgt := 79) hx hb dX4_set_45 (by decide) (fun c9 => absurd c9 (by decide +kernel)) (fun _ => ?_)
  refine lv_aload_n hx hb dX4_set_48 rfl (lv_at hl 1 rfl) ?_
  refine va_get (D := D) (ci := 7) (v := .int 2) (C := RX4) (T := TX4) (N := 9) hx hb hts iw_X4_set__X4 hown hE.1 hP 0 rfl rfl 1 (by decide) (hts _ mw_X4_set__2) (fun _ h9 => h9) rfl dX4_set_49 ?_
  refine lv_bipush (v := 24) hx hb dX4_set_52 (by decide +kernel) ?_
  refine lv_icmp_ge (tgt := 73) hx hb dX4_set_54 (by decide) (fun c9 => absurd c9 (by decide +kernel)) (fun _ => ?_)
  refine lv_iload_n hx hb dX4_set_57 rfl (lv_at hl 0 rfl) ?_
  refine lv_iload_n hx hb dX4_set_58 rfl (lv_at hl 2 rfl) ?_
  refine lv_aload_n hx hb dX4_set_59 rfl (lv_at hl 1 rfl) ?_
  refine va_get (D := D) (ci := 7) (v := .ref h5) (C := RX4) (T := TX4) (N := 9) hx hb hts iw_X4_set__X4 hown hE.1 hP 0 rfl rfl 8 (by decide) (hts _ mw_X4_set__4) (fun _ h9 => h9) rfl dX4_set_60 ?_
  refine jw_mi (wc := [(h5, .inl (Y 1, 4, .inl (jw_l 0 [1, 1])))]) (cs := 0) (ss := 0) (va_runS (As := [.int 6, .int 2, .ref h5]) (rest := []) ⟨hx, hb, hml, hown, hts⟩ (k24_X4_readRow h5 H.size) (va_cwS 3 hts gX4_set_X4_readRow rfl rfl rfl ydS_X4_readRow ⟨Nat.le_of_ble_eq_true rfl, Nat.le_of_ble_eq_true rfl⟩) (jw_mpreS hP hD hS hA hE [false, false, false, false, false, true] rfl) rfl rfl hl.1 rfl (lv_room (Nat.le_of_ble_eq_true rfl)) dX4_set_63 ⟨Nat.le_of_ble_eq_true rfl, Nat.le_of_ble_eq_true rfl⟩) hP hD hS hA [false, false, false, false, false, true] rfl rfl rfl (fun r9 w1 H locs hr9 hw9 hP hD hS => ?_)
  subst hr9
  subst hw9
  have hP : va_P D vwCl [(h0, .inr (7, [.int 2, .int 2, .int 0, .int 0, .ref h1, .ref h2, .ref h3, .ref h4, .ref h5])), (h1, .inl (Y 1, 96, .inl (jw_l 0 [0, 1, 0, 0, 1, 0]))), (h2, .inl (Y 1, 96, .inl (jw_l 0 [0, 1, 0, 0, 1, 0]))), (h3, .inl (Y 1, 16, .inl (jw_l 0 [1, 2, 0, 0, 2, 1]))), (h4, .inl (Y 1, 144, .inl (jw_l 0 []))), (h5, .inl (Y 1, 4, .inl (jw_l 0 [1, 2])))] H := hP
  have hD : va_D A [(h0, .inr (7, [.int 2, .int 2, .int 0, .int 0, .ref h1, .ref h2, .ref h3, .ref h4, .ref h5])), (h1, .inl (Y 1, 96, .inl (jw_l 0 [0, 1, 0, 0, 1, 0]))), (h2, .inl (Y 1, 96, .inl (jw_l 0 [0, 1, 0, 0, 1, 0]))), (h3, .inl (Y 1, 16, .inl (jw_l 0 [1, 2, 0, 0, 2, 1]))), (h4, .inl (Y 1, 144, .inl (jw_l 0 []))), (h5, .inl (Y 1, 4, .inl (jw_l 0 [1, 2])))] := hD
  refine lv_if_eq (tgt := 73) hx hb dX4_set_66 (by decide) (fun _ => ?_) (fun c9 => absurd (by decide +kernel) c9)
  refine lv_iinc (v := 7) (lv' := [(2, .int 7), (0, .ref h0), (1, .int 2)]) hx hb dX4_set_73 hl (k := 0) rfl (by decide +kernel) (by decide) rfl (fun ls hl => ?_)
  refine lv_goto (tgt := 39) hx hb dX4_set_76 (by decide) ?_
  refine lv_iload_n hx hb dX4_set_39 rfl (lv_at hl 0 rfl) ?_
  refine lv_iconst (v := 1) hx hb dX4_set_40 (by decide +kernel) ?_
  refine lv_iconst (v := 2) hx hb dX4_set_41 (by decide +kernel) ?_
  refine lv_iload_n hx hb dX4_set_42 rfl (lv_at hl 2 rfl) ?_
  refine jw_imul (v := 4) hx hb dX4_set_43 (by decide +kernel) ?_
  refine jw_ishl (v := 16) hx hb dX4_set_44 (by decide +kernel) ?_
  refine lv_icmp_ge (tgt := 79) hx hb dX4_set_45 (by decide) (fun c9 => absurd c9 (by decide +kernel)) (fun _ => ?_)
  refine lv_aload_n hx hb dX4_set_48 rfl (lv_at hl 1 rfl) ?_
  refine va_get (D := D) (ci := 7) (v := .int 2) (C := RX4) (T := TX4) (N := 9) hx hb hts iw_X4_set__X4 hown hE.1 hP 0 rfl rfl 1 (by decide) (hts _ mw_X4_set__2) (fun _ h9 => h9) rfl dX4_set_49 ?_
  refine lv_bipush (v := 24) hx hb dX4_set_52 (by decide +kernel) ?_
  refine lv_icmp_ge (tgt := 73) hx hb dX4_set_54 (by decide) (fun c9 => absurd c9 (by decide +kernel)) (fun _ => ?_)
  refine lv_iload_n hx hb dX4_set_57 rfl (lv_at hl 0 rfl) ?_
  refine lv_iload_n hx hb dX4_set_58 rfl (lv_at hl 2 rfl) ?_
  refine lv_aload_n hx hb dX4_set_59 rfl (lv_at hl 1 rfl) ?_
  refine va_get (D := D) (ci := 7) (v := .ref h5) (C := RX4) (T := TX4) (N := 9) hx hb hts iw_X4_set__X4 hown hE.1 hP 0 rfl rfl 8 (by decide) (hts _ mw_X4_set__4) (fun _ h9 => h9) rfl dX4_set_60 ?_
  refine jw_mi (wc := [(h5, .inl (Y 1, 4, .inl (jw_l 0 [1, 2])))]) (cs := 0) (ss := 0) (va_runS (As := [.int 7, .int 2, .ref h5]) (rest := []) ⟨hx, hb, hml, hown, hts⟩ (k25_X4_readRow h5 H.size) (va_cwS 3 hts gX4_set_X4_readRow rfl rfl rfl ydS_X4_readRow ⟨Nat.le_of_ble_eq_true rfl, Nat.le_of_ble_eq_true rfl⟩) (jw_mpreS hP hD hS hA hE [false, false, false, false, false, true] rfl) rfl rfl hl.1 rfl (lv_room (Nat.le_of_ble_eq_true rfl)) dX4_set_63 ⟨Nat.le_of_ble_eq_true rfl, Nat.le_of_ble_eq_true rfl⟩) hP hD hS hA [false, false, false, false, false, true] rfl rfl rfl (fun r9 w1 H locs hr9 hw9 hP hD hS => ?_)
  subst hr9
  subst hw9
  have hP : va_P D vwCl [(h0, .inr (7, [.int 2, .int 2, .int 0, .int 0, .ref h1, .ref h2, .ref h3, .ref h4, .ref h5])), (h1, .inl (Y 1, 96, .inl (jw_l 0 [0, 1, 0, 0, 1, 0]))), (h2, .inl (Y 1, 96, .inl (jw_l 0 [0, 1, 0, 0, 1, 0]))), (h3, .inl (Y 1, 16, .inl (jw_l 0 [1, 2, 0, 0, 2, 1]))), (h4, .inl (Y 1, 144, .inl (jw_l 0 []))), (h5, .inl (Y 1, 4, .inl (jw_l 0 [1, 3])))] H := hP
  have hD : va_D A [(h0, .inr (7, [.int 2, .int 2, .int 0, .int 0, .ref h1, .ref h2, .ref h3, .ref h4, .ref h5])), (h1, .inl (Y 1, 96, .inl (jw_l 0 [0, 1, 0, 0, 1, 0]))), (h2, .inl (Y 1, 96, .inl (jw_l 0 [0, 1, 0, 0, 1, 0]))), (h3, .inl (Y 1, 16, .inl (jw_l 0 [1, 2, 0, 0, 2, 1]))), (h4, .inl (Y 1, 144, .inl (jw_l 0 []))), (h5, .inl (Y 1, 4, .inl (jw_l 0 [1, 3])))] := hD
  refine lv_if_eq (tgt := 73) hx hb dX4_set_66 (by decide) (fun _ => ?_) (fun c9 => absurd (by decide +kernel) c9)
  refine lv_iinc (v := 8) (lv' := [(2, .int 8), (0, .ref h0), (1, .int 2)]) hx hb dX4_set_73 hl (k := 0) rfl (by decide +kernel) (by decide) rfl (fun ls hl => ?_)
  refine lv_goto (tgt := 39) hx hb dX4_set_76 (by decide) ?_
  refine lv_iload_n hx hb dX4_set_39 rfl (lv_at hl 0 rfl) ?_
  refine lv_iconst (v := 1) hx hb dX4_set_40 (by decide +kernel) ?_
  refine lv_iconst (v := 2) hx hb dX4_set_41 (by decide +kernel) ?_
  refine lv_iload_n hx hb dX4_set_42 rfl (lv_at hl 2 rfl) ?_
  refine jw_imul (v := 4) hx hb dX4_set_43 (by decide +kernel) ?_
  refine jw_ishl (v := 16) hx hb dX4_set_44 (by decide +kernel) ?_
  refine lv_icmp_ge (tgt := 79) hx hb dX4_set_45 (by decide) (fun c9 => absurd c9 (by decide +kernel)) (fun _ => ?_)
  refine lv_aload_n hx hb dX4_set_48 rfl (lv_at hl 1 rfl) ?_
  refine va_get (D := D) (ci := 7) (v := .int 2) (C := RX4) (T := TX4) (N := 9) hx hb hts iw_X4_set__X4 hown hE.1 hP 0 rfl rfl 1 (by decide) (hts _ mw_X4_set__2) (fun _ h9 => h9) rfl dX4_set_49 ?_
  refine lv_bipush (v := 24) hx hb dX4_set_52 (by decide +kernel) ?_
  refine lv_icmp_ge (tgt := 73) hx hb dX4_set_54 (by decide) (fun c9 => absurd c9 (by decide +kernel)) (fun _ => ?_)
  refine lv_iload_n hx hb dX4_set_57 rfl (lv_at hl 0 rfl) ?_
  refine lv_iload_n hx hb dX4_set_58 rfl (lv_at hl 2 rfl) ?_
  refine lv_aload_n hx hb dX4_set_59 rfl (lv_at hl 1 rfl) ?_
  refine va_get (D := D) (ci := 7) (v := .ref h5) (C := RX4) (T := TX4) (N := 9) hx hb hts iw_X4_set__X4 hown hE.1 hP 0 rfl rfl 8 (by decide) (hts _ mw_X4_set__4) (fun _ h9 => h9) rfl dX4_set_60 ?_
  refine jw_mi (wc := [(h5, .inl (Y 1, 4, .inl (jw_l 0 [1, 3])))]) (cs := 0) (ss := 0) (va_runS (As := [.int 8, .int 2, .ref h5]) (rest := []) ⟨hx, hb, hml, hown, hts⟩ (k26_X4_readRow h5 H.size) (va_cwS 3 hts gX4_set_X4_readRow rfl rfl rfl ydS_X4_readRow ⟨Nat.le_of_ble_eq_true rfl, Nat.le_of_ble_eq_true rfl⟩) (jw_mpreS hP hD hS hA hE [false, false, false, false, false, true] rfl) rfl rfl hl.1 rfl (lv_room (Nat.le_of_ble_eq_true rfl)) dX4_set_63 ⟨Nat.le_of_ble_eq_true rfl, Nat.le_of_ble_eq_true rfl⟩) hP hD hS hA [false, false, false, false, false, true] rfl rfl rfl (fun r9 w1 H locs hr9 hw9 hP hD hS => ?_)
  subst hr9
  subst hw9
  have hP : va_P D vwCl [(h0, .inr (7, [.int 2, .int 2, .int 0, .int 0, .ref h1, .ref h2, .ref h3, .ref h4, .ref h5])), (h1, .inl (Y 1, 96, .inl (jw_l 0 [0, 1, 0, 0, 1, 0]))), (h2, .inl (Y 1, 96, .inl (jw_l 0 [0, 1, 0, 0, 1, 0]))), (h3, .inl (Y 1, 16, .inl (jw_l 0 [1, 2, 0, 0, 2, 1]))), (h4, .inl (Y 1, 144, .inl (jw_l 0 []))), (h5, .inl (Y 1, 4, .inl (jw_l 0 [2, 0])))] H := hP
  have hD : va_D A [(h0, .inr (7, [.int 2, .int 2, .int 0, .int 0, .ref h1, .ref h2, .ref h3, .ref h4, .ref h5])), (h1, .inl (Y 1, 96, .inl (jw_l 0 [0, 1, 0, 0, 1, 0]))), (h2, .inl (Y 1, 96, .inl (jw_l 0 [0, 1, 0, 0, 1, 0]))), (h3, .inl (Y 1, 16, .inl (jw_l 0 [1, 2, 0, 0, 2, 1]))), (h4, .inl (Y 1, 144, .inl (jw_l 0 []))), (h5, .inl (Y 1, 4, .inl (jw_l 0 [2, 0])))] := hD
  refine lv_if_eq (tgt := 73) hx hb dX4_set_66 (by decide) (fun _ => ?_) (fun c9 => absurd (by decide +kernel) c9)
  refine lv_iinc (v := 9) (lv' := [(2, .int 9), (0, .ref h0), (1, .int 2)]) hx hb dX4_set_73 hl (k := 0) rfl (by decide +kernel) (by decide) rfl (fun ls hl => ?_)
  refine lv_goto (tgt := 39) hx hb dX4_set_76 (by decide) ?_
  refine lv_iload_n hx hb dX4_set_39 rfl (lv_at hl 0 rfl) ?_
  refine lv_iconst (v := 1) hx hb dX4_set_40 (by decide +kernel) ?_
  refine lv_iconst (v := 2) hx hb dX4_set_41 (by decide +kernel) ?_
  refine lv_iload_n hx hb dX4_set_42 rfl (lv_at hl 2 rfl) ?_
  refine jw_imul (v := 4) hx hb dX4_set_43 (by decide +kernel) ?_
  refine jw_ishl (v := 16) hx hb dX4_set_44 (by decide +kernel) ?_
  refine lv_icmp_ge (tgt := 79) hx hb dX4_set_45 (by decide) (fun c9 => absurd c9 (by decide +kernel)) (fun _ => ?_)
  refine lv_aload_n hx hb dX4_set_48 rfl (lv_at hl 1 rfl) ?_
  refine va_get (D := D) (ci := 7) (v := .int 2) (C := RX4) (T := TX4) (N := 9) hx hb hts iw_X4_set__X4 hown hE.1 hP 0 rfl rfl 1 (by decide) (hts _ mw_X4_set__2) (fun _ h9 => h9) rfl dX4_set_49 ?_
  refine lv_bipush (v := 24) hx hb dX4_set_52 (by decide +kernel) ?_
  refine lv_icmp_ge (tgt := 73) hx hb dX4_set_54 (by decide) (fun c9 => absurd c9 (by decide +kernel)) (fun _ => ?_)
  refine lv_iload_n hx hb dX4_set_57 rfl (lv_at hl 0 rfl) ?_
  refine lv_iload_n hx hb dX4_set_58 rfl (lv_at hl 2 rfl) ?_
  refine lv_aload_n hx hb dX4_set_59 rfl (lv_at hl 1 rfl) ?_
  refine va_get (D := D) (ci := 7) (v := .ref h5) (C := RX4) (T := TX4) (N := 9) hx hb hts iw_X4_set__X4 hown hE.1 hP 0 rfl rfl 8 (by decide) (hts _ mw_X4_set__4) (fun _ h9 => h9) rfl dX4_set_60 ?_
  refine jw_mi (wc := [(h5, .inl (Y 1, 4, .inl (jw_l 0 [2, 0])))]) (cs := 0) (ss := 0) (va_runS (As := [.int 9, .int 2, .ref h5]) (rest := []) ⟨hx, hb, hml, hown, hts⟩ (k27_X4_readRow h5 H.size) (va_cwS 3 hts gX4_set_X4_readRow rfl rfl rfl ydS_X4_readRow ⟨Nat.le_of_ble_eq_true rfl, Nat.le_of_ble_eq_true rfl⟩) (jw_mpreS hP hD hS hA hE [false, false, false, false, false, true] rfl) rfl rfl hl.1 rfl (lv_room (Nat.le_of_ble_eq_true rfl)) dX4_set_63 ⟨Nat.le_of_ble_eq_true rfl, Nat.le_of_ble_eq_true rfl⟩) hP hD hS hA [false, false, false, false, false, true] rfl rfl rfl (fun r9 w1 H locs hr9 hw9 hP hD hS => ?_)
  subst hr9
  subst hw9
  have hP : va_P D vwCl [(h0, .inr (7, [.int 2, .int 2, .int 0, .int 0, .ref h1, .ref h2, .ref h3, .ref h4, .ref h5])), (h1, .inl (Y 1, 96, .inl (jw_l 0 [0, 1, 0, 0, 1, 0]))), (h2, .inl (Y 1, 96, .inl (jw_l 0 [0, 1, 0, 0, 1, 0]))), (h3, .inl (Y 1, 16, .inl (jw_l 0 [1, 2, 0, 0, 2, 1]))), (h4, .inl (Y 1, 144, .inl (jw_l 0 []))), (h5, .inl (Y 1, 4, .inl (jw_l 0 [2, 1])))] H := hP
  have hD : va_D A [(h0, .inr (7, [.int 2, .int 2, .int 0, .int 0, .ref h1, .ref h2, .ref h3, .ref h4, .ref h5])), (h1, .inl (Y 1, 96, .inl (jw_l 0 [0, 1, 0, 0, 1, 0]))), (h2, .inl (Y 1, 96, .inl (jw_l 0 [0, 1, 0, 0, 1, 0]))), (h3, .inl (Y 1, 16, .inl (jw_l 0 [1, 2, 0, 0, 2, 1]))), (h4, .inl (Y 1, 144, .inl (jw_l 0 []))), (h5, .inl (Y 1, 4, .inl (jw_l 0 [2, 1])))] := hD
  refine lv_if_eq (tgt := 73) hx hb dX4_set_66 (by decide) (fun _ => ?_) (fun c9 => absurd (by decide +kernel) c9)
  refine lv_iinc (v := 10) (lv' := [(2, .int 10), (0, .ref h0), (1, .int 2)]) hx hb dX4_set_73 hl (k := 0) rfl (by decide +kernel) (by decide) rfl (fun ls hl => ?_)
  refine lv_goto (tgt := 39) hx hb dX4_set_76 (by decide) ?_
  refine lv_iload_n hx hb dX4_set_39 rfl (lv_at hl 0 rfl) ?_
  refine lv_iconst (v := 1) hx hb dX4_set_40 (by decide +kernel) ?_
  refine lv_iconst (v := 2) hx hb dX4_set_41 (by decide +kernel) ?_
  refine lv_iload_n hx hb dX4_set_42 rfl (lv_at hl 2 rfl) ?_
  refine jw_imul (v := 4) hx hb dX4_set_43 (by decide +kernel) ?_
  refine jw_ishl (v := 16) hx hb dX4_set_44 (by decide +kernel) ?_
  refine lv_icmp_ge (tgt := 79) hx hb dX4_set_45 (by decide) (fun c9 => absurd c9 (by decide +kernel)) (fun _ => ?_)
  refine lv_aload_n hx hb dX4_set_48 rfl (lv_at hl 1 rfl) ?_
  refine va_get (D := D) (ci := 7) (v := .int 2) (C := RX4) (T := TX4) (N := 9) hx hb hts iw_X4_set__X4 hown hE.1 hP 0 rfl rfl 1 (by decide) (hts _ mw_X4_set__2) (fun _ h9 => h9) rfl dX4_set_49 ?_
  refine lv_bipush (v := 24) hx hb dX4_set_52 (by decide +kernel) ?_
  refine lv_icmp_ge (tgt := 73) hx hb dX4_set_54 (by decide) (fun c9 => absurd c9 (by decide +kernel)) (fun _ => ?_)
  refine lv_iload_n hx hb dX4_set_57 rfl (lv_at hl 0 rfl) ?_
  refine lv_iload_n hx hb dX4_set_58 rfl (lv_at hl 2 rfl) ?_
  refine lv_aload_n hx hb dX4_set_59 rfl (lv_at hl 1 rfl) ?_
  refine va_get (D := D) (ci := 7) (v := .ref h5) (C := RX4) (T := TX4) (N := 9) hx hb hts iw_X4_set__X4 hown hE.1 hP 0 rfl rfl 8 (by decide) (hts _ mw_X4_set__4) (fun _ h9 => h9) rfl dX4_set_60 ?_
  refine jw_mi (wc := [(h5, .inl (Y 1, 4, .inl (jw_l 0 [2, 1])))]) (cs := 0) (ss := 0) (va_runS (As := [.int 10, .int 2, .ref h5]) (rest := []) ⟨hx, hb, hml, hown, hts⟩ (k28_X4_readRow h5 H.size) (va_cwS 3 hts gX4_set_X4_readRow rfl rfl rfl ydS_X4_readRow ⟨Nat.le_of_ble_eq_true rfl, Nat.le_of_ble_eq_true rfl⟩) (jw_mpreS hP hD hS hA hE [false, false, false, false, false, true] rfl) rfl rfl hl.1 rfl (lv_room (Nat.le_of_ble_eq_true rfl)) dX4_set_63 ⟨Nat.le_of_ble_eq_true rfl, Nat.le_of_ble_eq_true rfl⟩) hP hD hS hA [false, false, false, false, false, true] rfl rfl rfl (fun r9 w1 H locs hr9 hw9 hP hD hS => ?_)
  subst hr9
  subst hw9
  have hP : va_P D vwCl [(h0, .inr (7, [.int 2, .int 2, .int 0, .int 0, .ref h1, .ref h2, .ref h3, .ref h4, .ref h5])), (h1, .inl (Y 1, 96, .inl (jw_l 0 [0, 1, 0, 0, 1, 0]))), (h2, .inl (Y 1, 96, .inl (jw_l 0 [0, 1, 0, 0, 1, 0]))), (h3, .inl (Y 1, 16, .inl (jw_l 0 [1, 2, 0, 0, 2, 1]))), (h4, .inl (Y 1, 144, .inl (jw_l 0 []))), (h5, .inl (Y 1, 4, .inl (jw_l 0 [2, 2])))] H := hP
  have hD : va_D A [(h0, .inr (7, [.int 2, .int 2, .int 0, .int 0, .ref h1, .ref h2, .ref h3, .ref h4, .ref h5])), (h1, .inl (Y 1, 96, .inl (jw_l 0 [0, 1, 0, 0, 1, 0]))), (h2, .inl (Y 1, 96, .inl (jw_l 0 [0, 1, 0, 0, 1, 0]))), (h3, .inl (Y 1, 16, .inl (jw_l 0 [1, 2, 0, 0, 2, 1]))), (h4, .inl (Y 1, 144, .inl (jw_l 0 []))), (h5, .inl (Y 1, 4, .inl (jw_l 0 [2, 2])))] := hD
  refine lv_if_eq (tgt := 73) hx hb dX4_set_66 (by decide) (fun _ => ?_) (fun c9 => absurd (by decide +kernel) c9)
  refine lv_iinc (v := 11) (lv' := [(2, .int 11), (0, .ref h0), (1, .int 2)]) hx hb dX4_set_73 hl (k := 0) rfl (by decide +kernel) (by decide) rfl (fun ls hl => ?_)
  refine lv_goto (tgt := 39) hx hb dX4_set_76 (by decide) ?_
  refine lv_iload_n hx hb dX4_set_39 rfl (lv_at hl 0 rfl) ?_
  refine lv_iconst (v := 1) hx hb dX4_set_40 (by decide +kernel) ?_
  refine lv_iconst (v := 2) hx hb dX4_set_41 (by decide +kernel) ?_
  refine lv_iload_n hx hb dX4_set_42 rfl (lv_at hl 2 rfl) ?_
  refine jw_imul (v := 4) hx hb dX4_set_43 (by decide +kernel) ?_
  refine jw_ishl (v := 16) hx hb dX4_set_44 (by decide +kernel) ?_
  refine lv_icmp_ge (tgt := 79) hx hb dX4_set_45 (by decide) (fun c9 => absurd c9 (by decide +kernel)) (fun _ => ?_)
  refine lv_aload_n hx hb dX4_set_48 rfl (lv_at hl 1 rfl) ?_
  refine va_get (D := D) (ci := 7) (v := .int 2) (C := RX4) (T := TX4) (N := 9) hx hb hts iw_X4_set__X4 hown hE.1 hP 0 rfl rfl 1 (by decide) (hts _ mw_X4_set__2) (fun _ h9 => h9) rfl dX4_set_49 ?_
  refine lv_bipush (v := 24) hx hb dX4_set_52 (by decide +kernel) ?_
  refine lv_icmp_ge (tgt := 73) hx hb dX4_set_54 (by decide) (fun c9 => absurd c9 (by decide +kernel)) (fun _ => ?_)
  refine lv_iload_n hx hb dX4_set_57 rfl (lv_at hl 0 rfl) ?_
  refine lv_iload_n hx hb dX4_set_58 rfl (lv_at hl 2 rfl) ?_
  refine lv_aload_n hx hb dX4_set_59 rfl (lv_at hl 1 rfl) ?_
  refine va_get (D := D) (ci := 7) (v := .ref h5) (C := RX4) (T := TX4) (N := 9) hx hb hts iw_X4_set__X4 hown hE.1 hP 0 rfl rfl 8 (by decide) (hts _ mw_X4_set__4) (fun _ h9 => h9) rfl dX4_set_60 ?_
  refine jw_mi (wc := [(h5, .inl (Y 1, 4, .inl (jw_l 0 [2, 2])))]) (cs := 0) (ss := 0) (va_runS (As := [.int 11, .int 2, .ref h5]) (rest := []) ⟨hx, hb, hml, hown, hts⟩ (k29_X4_readRow h5 H.size) (va_cwS 3 hts gX4_set_X4_readRow rfl rfl rfl ydS_X4_readRow ⟨Nat.le_of_ble_eq_true rfl, Nat.le_of_ble_eq_true rfl⟩) (jw_mpreS hP hD hS hA hE [false, false, false, false, false, true] rfl) rfl rfl hl.1 rfl (lv_room (Nat.le_of_ble_eq_true rfl)) dX4_set_63 ⟨Nat.le_of_ble_eq_true rfl, Nat.le_of_ble_eq_true rfl⟩) hP hD hS hA [false, false, false, false, false, true] rfl rfl rfl (fun r9 w1 H locs hr9 hw9 hP hD hS => ?_)
  subst hr9
  subst hw9
  have hP : va_P D vwCl [(h0, .inr (7, [.int 2, .int 2, .int 0, .int 0, .ref h1, .ref h2, .ref h3, .ref h4, .ref h5])), (h1, .inl (Y 1, 96, .inl (jw_l 0 [0, 1, 0, 0, 1, 0]))), (h2, .inl (Y 1, 96, .inl (jw_l 0 [0, 1, 0, 0, 1, 0]))), (h3, .inl (Y 1, 16, .inl (jw_l 0 [1, 2, 0, 0, 2, 1]))), (h4, .inl (Y 1, 144, .inl (jw_l 0 []))), (h5, .inl (Y 1, 4, .inl (jw_l 0 [2, 3])))] H := hP
  have hD : va_D A [(h0, .inr (7, [.int 2, .int 2, .int 0, .int 0, .ref h1, .ref h2, .ref h3, .ref h4, .ref h5])), (h1, .inl (Y 1, 96, .inl (jw_l 0 [0, 1, 0, 0, 1, 0]))), (h2, .inl (Y 1, 96, .inl (jw_l 0 [0, 1, 0, 0, 1, 0]))), (h3, .inl (Y 1, 16, .inl (jw_l 0 [1, 2, 0, 0, 2, 1]))), (h4, .inl (Y 1, 144, .inl (jw_l 0 []))), (h5, .inl (Y 1, 4, .inl (jw_l 0 [2, 3])))] := hD
  refine lv_if_eq (tgt := 73) hx hb dX4_set_66 (by decide) (fun _ => ?_) (fun c9 => absurd (by decide +kernel) c9)
  refine lv_iinc (v := 12) (lv' := [(2, .int 12), (0, .ref h0), (1, .int 2)]) hx hb dX4_set_73 hl (k := 0) rfl (by decide +kernel) (by decide) rfl (fun ls hl => ?_)
  refine lv_goto (tgt := 39) hx hb dX4_set_76 (by decide) ?_
  refine lv_iload_n hx hb dX4_set_39 rfl (lv_at hl 0 rfl) ?_
  refine lv_iconst (v := 1) hx hb dX4_set_40 (by decide +kernel) ?_
  refine lv_iconst (v := 2) hx hb dX4_set_41 (by decide +kernel) ?_
  refine lv_iload_n hx hb dX4_set_42 rfl (lv_at hl 2 rfl) ?_
  refine jw_imul (v := 4) hx hb dX4_set_43 (by decide +kernel) ?_
  refine jw_ishl (v := 16) hx hb dX4_set_44 (by decide +kernel) ?_
  refine lv_icmp_ge (tgt := 79) hx hb dX4_set_45 (by decide) (fun c9 => absurd c9 (by decide +kernel)) (fun _ => ?_)
  refine lv_aload_n hx hb dX4_set_48 rfl (lv_at hl 1 rfl) ?_
  refine va_get (D := D) (ci := 7) (v := .int 2) (C := RX4) (T := TX4) (N := 9) hx hb hts iw_X4_set__X4 hown hE.1 hP 0 rfl rfl 1 (by decide) (hts _ mw_X4_set__2) (fun _ h9 => h9) rfl dX4_set_49 ?_
  refine lv_bipush (v := 24) hx hb dX4_set_52 (by decide +kernel) ?_
  refine lv_icmp_ge (tgt := 73) hx hb dX4_set_54 (by decide) (fun c9 => absurd c9 (by decide +kernel)) (fun _ => ?_)
  refine lv_iload_n hx hb dX4_set_57 rfl (lv_at hl 0 rfl) ?_
  refine lv_iload_n hx hb dX4_set_58 rfl (lv_at hl 2 rfl) ?_
  refine lv_aload_n hx hb dX4_set_59 rfl (lv_at hl 1 rfl) ?_
  refine va_get (D := D) (ci := 7) (v := .ref h5) (C := RX4) (T := TX4) (N := 9) hx hb hts iw_X4_set__X4 hown hE.1 hP 0 rfl rfl 8 (by decide) (hts _ mw_X4_set__4) (fun _ h9 => h9) rfl dX4_set_60 ?_
  refine jw_mi (wc := [(h5, .inl (Y 1, 4, .inl (jw_l 0 [2, 3])))]) (cs := 0) (ss := 0) (va_runS (As := [.int 12, .int 2, .ref h5]) (rest := []) ⟨hx, hb, hml, hown, hts⟩ (k30_X4_readRow h5 H.size) (va_cwS 3 hts gX4_set_X4_readRow rfl rfl rfl ydS_X4_readRow ⟨Nat.le_of_ble_eq_true rfl, Nat.le_of_ble_eq_true rfl⟩) (jw_mpreS hP hD hS hA hE [false, false, false, false, false, true] rfl) rfl rfl hl.1 rfl (lv_room (Nat.le_of_ble_eq_true rfl)) dX4_set_63 ⟨Nat.le_of_ble_eq_true rfl, Nat.le_of_ble_eq_true rfl⟩) hP hD hS hA [false, false, false, false, false, true] rfl rfl rfl (fun r9 w1 H locs hr9 hw9 hP hD hS => ?_)
  subst hr9
  subst hw9
  have hP : va_P D vwCl [(h0, .inr (7, [.int 2, .int 2, .int 0, .int 0, .ref h1, .ref h2, .ref h3, .ref h4, .ref h5])), (h1, .inl (Y 1, 96, .inl (jw_l 0 [0, 1, 0, 0, 1, 0]))), (h2, .inl (Y 1, 96, .inl (jw_l 0 [0, 1, 0, 0, 1, 0]))), (h3, .inl (Y 1, 16, .inl (jw_l 0 [1, 2, 0, 0, 2, 1]))), (h4, .inl (Y 1, 144, .inl (jw_l 0 []))), (h5, .inl (Y 1, 4, .inl (jw_l 0 [3, 0])))] H := hP
  have hD : va_D A [(h0, .inr (7, [.int 2, .int 2, .int 0, .int 0, .ref h1, .ref h2, .ref h3, .ref h4, .ref h5])), (h1, .inl (Y 1, 96, .inl (jw_l 0 [0, 1, 0, 0, 1, 0]))), (h2, .inl (Y 1, 96, .inl (jw_l 0 [0, 1, 0, 0, 1, 0]))), (h3, .inl (Y 1, 16, .inl (jw_l 0 [1, 2, 0, 0, 2, 1]))), (h4, .inl (Y 1, 144, .inl (jw_l 0 []))), (h5, .inl (Y 1, 4, .inl (jw_l 0 [3, 0])))] := hD
  refine lv_if_eq (tgt := 73) hx hb dX4_set_66 (by decide) (fun _ => ?_) (fun c9 => absurd (by decide +kernel) c9)
  refine lv_iinc (v := 13) (lv' := [(2, .int 13), (0, .ref h0), (1, .int 2)]) hx hb dX4_set_73 hl (k := 0) rfl (by decide +kernel) (by decide) rfl (fun ls hl => ?_)
  refine lv_goto (tgt := 39) hx hb dX4_set_76 (by decide) ?_
  refine lv_iload_n hx hb dX4_set_39 rfl (lv_at hl 0 rfl) ?_
  refine lv_iconst (v := 1) hx hb dX4_set_40 (by decide +kernel) ?_
  refine lv_iconst (v := 2) hx hb dX4_set_41 (by decide +kernel) ?_
  refine lv_iload_n hx hb dX4_set_42 rfl (lv_at hl 2 rfl) ?_
  refine jw_imul (v := 4) hx hb dX4_set_43 (by decide +kernel) ?_
  refine jw_ishl (v := 16) hx hb dX4_set_44 (by decide +kernel) ?_
  refine lv_icmp_ge (tgt := 79) hx hb dX4_set_45 (by decide) (fun c9 => absurd c9 (by decide +kernel)) (fun _ => ?_)
  refine lv_aload_n hx hb dX4_set_48 rfl (lv_at hl 1 rfl) ?_
  refine va_get (D := D) (ci := 7) (v := .int 2) (C := RX4) (T := TX4) (N := 9) hx hb hts iw_X4_set__X4 hown hE.1 hP 0 rfl rfl 1 (by decide) (hts _ mw_X4_set__2) (fun _ h9 => h9) rfl dX4_set_49 ?_
  refine lv_bipush (v := 24) hx hb dX4_set_52 (by decide +kernel) ?_
  refine lv_icmp_ge (tgt := 73) hx hb dX4_set_54 (by decide) (fun c9 => absurd c9 (by decide +kernel)) (fun _ => ?_)
  refine lv_iload_n hx hb dX4_set_57 rfl (lv_at hl 0 rfl) ?_
  refine lv_iload_n hx hb dX4_set_58 rfl (lv_at hl 2 rfl) ?_
  refine lv_aload_n hx hb dX4_set_59 rfl (lv_at hl 1 rfl) ?_
  refine va_get (D := D) (ci := 7) (v := .ref h5) (C := RX4) (T := TX4) (N := 9) hx hb hts iw_X4_set__X4 hown hE.1 hP 0 rfl rfl 8 (by decide) (hts _ mw_X4_set__4) (fun _ h9 => h9) rfl dX4_set_60 ?_
  refine jw_mi (wc := [(h5, .inl (Y 1, 4, .inl (jw_l 0 [3, 0])))]) (cs := 0) (ss := 0) (va_runS (As := [.int 13, .int 2, .ref h5]) (rest := []) ⟨hx, hb, hml, hown, hts⟩ (k31_X4_readRow h5 H.size) (va_cwS 3 hts gX4_set_X4_readRow rfl rfl rfl ydS_X4_readRow ⟨Nat.le_of_ble_eq_true rfl, Nat.le_of_ble_eq_true rfl⟩) (jw_mpreS hP hD hS hA hE [false, false, false, false, false, true] rfl) rfl rfl hl.1 rfl (lv_room (Nat.le_of_ble_eq_true rfl)) dX4_set_63 ⟨Nat.le_of_ble_eq_true rfl, Nat.le_of_ble_eq_true rfl⟩) hP hD hS hA [false, false, false, false, false, true] rfl rfl rfl (fun r9 w1 H locs hr9 hw9 hP hD hS => ?_)
  subst hr9
  subst hw9
  have hP : va_P D vwCl [(h0, .inr (7, [.int 2, .int 2, .int 0, .int 0, .ref h1, .ref h2, .ref h3, .ref h4, .ref h5])), (h1, .inl (Y 1, 96, .inl (jw_l 0 [0, 1, 0, 0, 1, 0]))), (h2, .inl (Y 1, 96, .inl (jw_l 0 [0, 1, 0, 0, 1, 0]))), (h3, .inl (Y 1, 16, .inl (jw_l 0 [1, 2, 0, 0, 2, 1]))), (h4, .inl (Y 1, 144, .inl (jw_l 0 []))), (h5, .inl (Y 1, 4, .inl (jw_l 0 [3, 1])))] H := hP
  have hD : va_D A [(h0, .inr (7, [.int 2, .int 2, .int 0, .int 0, .ref h1, .ref h2, .ref h3, .ref h4, .ref h5])), (h1, .inl (Y 1, 96, .inl (jw_l 0 [0, 1, 0, 0, 1, 0]))), (h2, .inl (Y 1, 96, .inl (jw_l 0 [0, 1, 0, 0, 1, 0]))), (h3, .inl (Y 1, 16, .inl (jw_l 0 [1, 2, 0, 0, 2, 1]))), (h4, .inl (Y 1, 144, .inl (jw_l 0 []))), (h5, .inl (Y 1, 4, .inl (jw_l 0 [3, 1])))] := hD
  refine lv_if_eq (tgt := 73) hx hb dX4_set_66 (by decide) (fun _ => ?_) (fun c9 => absurd (by decide +kernel) c9)
  refine lv_iinc (v := 14) (lv' := [(2, .int 14), (0, .ref h0), (1, .int 2)]) hx hb dX4_set_73 hl (k := 0) rfl (by decide +kernel) (by decide) rfl (fun ls hl => ?_)
  refine lv_goto (tgt := 39) hx hb dX4_set_76 (by decide) ?_
  refine lv_iload_n hx hb dX4_set_39 rfl (lv_at hl 0 rfl) ?_
  refine lv_iconst (v := 1) hx hb dX4_set_40 (by decide +kernel) ?_
  refine lv_iconst (v := 2) hx hb dX4_set_41 (by decide +kernel) ?_
  refine lv_iload_n hx hb dX4_set_42 rfl (lv_at hl 2 rfl) ?_
  refine jw_imul (v := 4) hx hb dX4_set_43 (by decide +kernel) ?_
  refine jw_ishl (v := 16) hx hb dX4_set_44 (by decide +kernel) ?_
  refine lv_icmp_ge (tgt := 79) hx hb dX4_set_45 (by decide) (fun c9 => absurd c9 (by decide +kernel)) (fun _ => ?_)
  refine lv_aload_n hx hb dX4_set_48 rfl (lv_at hl 1 rfl) ?_
  refine va_get (D := D) (ci := 7) (v := .int 2) (C := RX4) (T := TX4) (N := 9) hx hb hts iw_X4_set__X4 hown hE.1 hP 0 rfl rfl 1 (by decide) (hts _ mw_X4_set__2) (fun _ h9 => h9) rfl dX4_set_49 ?_
  refine lv_bipush (v := 24) hx hb dX4_set_52 (by decide +kernel) ?_
  refine lv_icmp_ge (tgt := 73) hx hb dX4_set_54 (by decide) (fun c9 => absurd c9 (by decide +kernel)) (fun _ => ?_)
  refine lv_iload_n hx hb dX4_set_57 rfl (lv_at hl 0 rfl) ?_
  refine lv_iload_n hx hb dX4_set_58 rfl (lv_at hl 2 rfl) ?_
  refine lv_aload_n hx hb dX4_set_59 rfl (lv_at hl 1 rfl) ?_
  refine va_get (D := D) (ci := 7) (v := .ref h5) (C := RX4) (T := TX4) (N := 9) hx hb hts iw_X4_set__X4 hown hE.1 hP 0 rfl rfl 8 (by decide) (hts _ mw_X4_set__4) (fun _ h9 => h9) rfl dX4_set_60 ?_
  refine jw_mi (wc := [(h5, .inl (Y 1, 4, .inl (jw_l 0 [3, 1])))]) (cs := 0) (ss := 0) (va_runS (As := [.int 14, .int 2, .ref h5]) (rest := []) ⟨hx, hb, hml, hown, hts⟩ (k32_X4_readRow h5 H.size) (va_cwS 3 hts gX4_set_X4_readRow rfl rfl rfl ydS_X4_readRow ⟨Nat.le_of_ble_eq_true rfl, Nat.le_of_ble_eq_true rfl⟩) (jw_mpreS hP hD hS hA hE [false, false, false, false, false, true] rfl) rfl rfl hl.1 rfl (lv_room (Nat.le_of_ble_eq_true rfl)) dX4_set_63 ⟨Nat.le_of_ble_eq_true rfl, Nat.le_of_ble_eq_true rfl⟩) hP hD hS hA [false, false, false, false, false, true] rfl rfl rfl (fun r9 w1 H locs hr9 hw9 hP hD hS => ?_)
  subst hr9
  subst hw9
  have hP : va_P D vwCl [(h0, .inr (7, [.int 2, .int 2, .int 0, .int 0, .ref h1, .ref h2, .ref h3, .ref h4, .ref h5])), (h1, .inl (Y 1, 96, .inl (jw_l 0 [0, 1, 0, 0, 1, 0]))), (h2, .inl (Y 1, 96, .inl (jw_l 0 [0, 1, 0, 0, 1, 0]))), (h3, .inl (Y 1, 16, .inl (jw_l 0 [1, 2, 0, 0, 2, 1]))), (h4, .inl (Y 1, 144, .inl (jw_l 0 []))), (h5, .inl (Y 1, 4, .inl (jw_l 0 [3, 2])))] H := hP
  have hD : va_D A [(h0, .inr (7, [.int 2, .int 2, .int 0, .int 0, .ref h1, .ref h2, .ref h3, .ref h4, .ref h5])), (h1, .inl (Y 1, 96, .inl (jw_l 0 [0, 1, 0, 0, 1, 0]))), (h2, .inl (Y 1, 96, .inl (jw_l 0 [0, 1, 0, 0, 1, 0]))), (h3, .inl (Y 1, 16, .inl (jw_l 0 [1, 2, 0, 0, 2, 1]))), (h4, .inl (Y 1, 144, .inl (jw_l 0 []))), (h5, .inl (Y 1, 4, .inl (jw_l 0 [3, 2])))] := hD
  refine lv_if_eq (tgt := 73) hx hb dX4_set_66 (by decide) (fun _ => ?_) (fun c9 => absurd (by decide +kernel) c9)
  refine lv_iinc (v := 15) (lv' := [(2, .int 15), (0, .ref h0), (1, .int 2)]) hx hb dX4_set_73 hl (k := 0) rfl (by decide +kernel) (by decide) rfl (fun ls hl => ?_)
  refine lv_goto (tgt := 39) hx hb dX4_set_76 (by decide) ?_
  refine lv_iload_n hx hb dX4_set_39 rfl (lv_at hl 0 rfl) ?_
  refine lv_iconst (v := 1) hx hb dX4_set_40 (by decide +kernel) ?_
  refine lv_iconst (v := 2) hx hb dX4_set_41 (by decide +kernel) ?_
  refine lv_iload_n hx hb dX4_set_42 rfl (lv_at hl 2 rfl) ?_
  refine jw_imul (v := 4) hx hb dX4_set_43 (by decide +kernel) ?_
  refine jw_ishl (v := 16) hx hb dX4_set_44 (by decide +kernel) ?_
  refine lv_icmp_ge (tgt := 79) hx hb dX4_set_45 (by decide) (fun c9 => absurd c9 (by decide +kernel)) (fun _ => ?_)
  refine lv_aload_n hx hb dX4_set_48 rfl (lv_at hl 1 rfl) ?_
  refine va_get (D := D) (ci := 7) (v := .int 2) (C := RX4) (T := TX4) (N := 9) hx hb hts iw_X4_set__X4 hown hE.1 hP 0 rfl rfl 1 (by decide) (hts _ mw_X4_set__2) (fun _ h9 => h9) rfl dX4_set_49 ?_
  refine lv_bipush (v := 24) hx hb dX4_set_52 (by decide +kernel) ?_
  refine lv_icmp_ge (tgt := 73) hx hb dX4_set_54 (by decide) (fun c9 => absurd c9 (by decide +kernel)) (fun _ => ?_)
  refine lv_iload_n hx hb dX4_set_57 rfl (lv_at hl 0 rfl) ?_
  refine lv_iload_n hx hb dX4_set_58 rfl (lv_at hl 2 rfl) ?_
  refine lv_aload_n hx hb dX4_set_59 rfl (lv_at hl 1 rfl) ?_
  refine va_get (D := D) (ci := 7) (v := .ref h5) (C := RX4) (T := TX4) (N := 9) hx hb hts iw_X4_set__X4 hown hE.1 hP 0 rfl rfl 8 (by decide) (hts _ mw_X4_set__4) (fun _ h9 => h9) rfl dX4_set_60 ?_
  refine jw_mi (wc := [(h5, .inl (Y 1, 4, .inl (jw_l 0 [3, 2])))]) (cs := 0) (ss := 0) (va_runS (As := [.int 15, .int 2, .ref h5]) (rest := []) ⟨hx, hb, hml, hown, hts⟩ (k33_X4_readRow h5 H.size) (va_cwS 3 hts gX4_set_X4_readRow rfl rfl rfl ydS_X4_readRow ⟨Nat.le_of_ble_eq_true rfl, Nat.le_of_ble_eq_true rfl⟩) (jw_mpreS hP hD hS hA hE [false, false, false, false, false, true] rfl) rfl rfl hl.1 rfl (lv_room (Nat.le_of_ble_eq_true rfl)) dX4_set_63 ⟨Nat.le_of_ble_eq_true rfl, Nat.le_of_ble_eq_true rfl⟩) hP hD hS hA [false, false, false, false, false, true] rfl rfl rfl (fun r9 w1 H locs hr9 hw9 hP hD hS => ?_)
  subst hr9
  subst hw9
  have hP : va_P D vwCl [(h0, .inr (7, [.int 2, .int 2, .int 0, .int 0, .ref h1, .ref h2, .ref h3, .ref h4, .ref h5])), (h1, .inl (Y 1, 96, .inl (jw_l 0 [0, 1, 0, 0, 1, 0]))), (h2, .inl (Y 1, 96, .inl (jw_l 0 [0, 1, 0, 0, 1, 0]))), (h3, .inl (Y 1, 16, .inl (jw_l 0 [1, 2, 0, 0, 2, 1]))), (h4, .inl (Y 1, 144, .inl (jw_l 0 []))), (h5, .inl (Y 1, 4, .inl (jw_l 0 [3, 3])))] H := hP
  have hD : va_D A [(h0, .inr (7, [.int 2, .int 2, .int 0, .int 0, .ref h1, .ref h2, .ref h3, .ref h4, .ref h5])), (h1, .inl (Y 1, 96, .inl (jw_l 0 [0, 1, 0, 0, 1, 0]))), (h2, .inl (Y 1, 96, .inl (jw_l 0 [0, 1, 0, 0, 1, 0]))), (h3, .inl (Y 1, 16, .inl (jw_l 0 [1, 2, 0, 0, 2, 1]))), (h4, .inl (Y 1, 144, .inl (jw_l 0 []))), (h5, .inl (Y 1, 4, .inl (jw_l 0 [3, 3])))] := hD
  refine lv_if_eq (tgt := 73) hx hb dX4_set_66 (by decide) (fun _ => ?_) (fun c9 => absurd (by decide +kernel) c9)
  refine lv_iinc (v := 16) (lv' := [(2, .int 16), (0, .ref h0), (1, .int 2)]) hx hb dX4_set_73 hl (k := 0) rfl (by decide +kernel) (by decide) rfl (fun ls hl => ?_)
  refine lv_goto (tgt := 39) hx hb dX4_set_76 (by decide) ?_
  refine lv_iload_n hx hb dX4_set_39 rfl (lv_at hl 0 rfl) ?_
  refine lv_iconst (v := 1) hx hb dX4_set_40 (by decide +kernel) ?_
  refine lv_iconst (v := 2) hx hb dX4_set_41 (by decide +kernel) ?_
  refine lv_iload_n hx hb dX4_set_42 rfl (lv_at hl 2 rfl) ?_
  refine jw_imul (v := 4) hx hb dX4_set_43 (by decide +kernel) ?_
  refine jw_ishl (v := 16) hx hb dX4_set_44 (by decide +kernel) ?_
  refine lv_icmp_ge (tgt := 79) hx hb dX4_set_45 (by decide) (fun _ => ?_) (fun c9 => absurd (by decide +kernel) c9)
  refine lv_aload_n hx hb dX4_set_79 rfl (lv_at hl 1 rfl) ?_
  refine lv_iconst (v := 1) hx hb dX4_set_80 (by decide +kernel) ?_
  refine lv_aload_n hx hb dX4_set_81 rfl (lv_at hl 1 rfl) ?_
  refine va_get (D := D) (ci := 7) (v := .int 2) (C := RX4) (T := TX4) (N := 9) hx hb hts iw_X4_set__X4 hown hE.1 hP 0 rfl rfl 1 (by decide) (hts _ mw_X4_set__2) (fun _ h9 => h9) rfl dX4_set_82 ?_
  refine jw_ishl (v := 4) hx hb dX4_set_85 (by decide +kernel) ?_
  refine lv_iconst (v := 1) hx hb dX4_set_86 (by decide +kernel) ?_
  refine jw_isub (v := 3) hx hb dX4_set_87 (by decide +kernel) ?_
  refine va_put (D := D) (ci := 7) (v := .int 3) (C := RX4) (T := TX4) (N := 9) hx hb hts iw_X4_set__X4 tyX4 tyX4_ok nmX4 hown hE.1 hP hD hS 0 rfl rfl 2 (by decide) (hts _ mw_X4_set__5) (fun _ h9 => h9) rfl (tyX4_ok 2 (by decide)) rfl rfl (Nat.le_of_ble_eq_true rfl) dX4_set_88 (fun H locs hP hD hS => ?_)
  have hP : va_P D vwCl [(h0, .inr (7, [.int 2, .int 2, .int 3, .int 0, .ref h1, .ref h2, .ref h3, .ref h4, .ref h5])), (h1, .inl (Y 1, 96, .inl (jw_l 0 [0, 1, 0, 0, 1, 0]))), (h2, .inl (Y 1, 96, .inl (jw_l 0 [0, 1, 0, 0, 1, 0]))), (h3, .inl (Y 1, 16, .inl (jw_l 0 [1, 2, 0, 0, 2, 1]))), (h4, .inl (Y 1, 144, .inl (jw_l 0 []))), (h5, .inl (Y 1, 4, .inl (jw_l 0 [3, 3])))] H := hP
  have hD : va_D A [(h0, .inr (7, [.int 2, .int 2, .int 3, .int 0, .ref h1, .ref h2, .ref h3, .ref h4, .ref h5])), (h1, .inl (Y 1, 96, .inl (jw_l 0 [0, 1, 0, 0, 1, 0]))), (h2, .inl (Y 1, 96, .inl (jw_l 0 [0, 1, 0, 0, 1, 0]))), (h3, .inl (Y 1, 16, .inl (jw_l 0 [1, 2, 0, 0, 2, 1]))), (h4, .inl (Y 1, 144, .inl (jw_l 0 []))), (h5, .inl (Y 1, 4, .inl (jw_l 0 [3, 3])))] := hD
  refine lv_iconst (v := 0) hx hb dX4_set_91 (by decide +kernel) ?_
  refine lv_istore_n (lv' := [(2, .int 0), (0, .ref h0), (1, .int 2)]) hx hb dX4_set_92 rfl hl (by decide) rfl (fun ls hl => ?_)
  refine lv_iload_n hx hb dX4_set_93 rfl (lv_at hl 0 rfl) ?_
  refine lv_aload_n hx hb dX4_set_94 rfl (lv_at hl 1 rfl) ?_
  refine va_get (D := D) (ci := 7) (v := .int 2) (C := RX4) (T := TX4) (N := 9) hx hb hts iw_X4_set__X4 hown hE.1 hP 0 rfl rfl 1 (by decide) (hts _ mw_X4_set__2) (fun _ h9 => h9) rfl dX4_set_95 ?_
  refine lv_icmp_ge (tgt := 112) hx hb dX4_set_98 (by decide) (fun c9 => absurd c9 (by decide +kernel)) (fun _ => ?_)
  refine lv_aload_n hx hb dX4_set_101 rfl (lv_at hl 1 rfl) ?_
  refine lv_iload_n hx hb dX4_set_102 rfl (lv_at hl 0 rfl) ?_
  refine jw_mv (wc := [(h0, .inr (7, [.int 2, .int 2, .int 3, .int 0, .ref h1, .ref h2, .ref h3, .ref h4, .ref h5])), (h1, .inl (Y 1, 96, .inl (jw_l 0 [0, 1, 0, 0, 1, 0]))), (h3, .inl (Y 1, 16, .inl (jw_l 0 [1, 2, 0, 0, 2, 1]))), (h4, .inl (Y 1, 144, .inl (jw_l 0 [])))]) (cs := 0) (ss := 0) (va_runV (As := [.int 0]) (rest := []) ⟨hx, hb, hml, hown, hts⟩ (k39_X4_setSwaps h0 h1 h3 h4 h2 h5 H.size) (cwV 1 hts gX4_set_X4_setSwaps rfl rfl rfl ydV_X4_setSwaps ⟨Nat.le_of_ble_eq_true rfl, Nat.le_of_ble_eq_true rfl⟩) (jw_mpreV (ci := 7) (q0 := 0) hP hD hS hA hE [true, true, false, true, true] rfl rfl rfl) rfl rfl hl.1 rfl (lv_room (Nat.le_of_ble_eq_true rfl)) dX4_set_103 ⟨Nat.le_of_ble_eq_true rfl, Nat.le_of_ble_eq_true rfl⟩) hP hD hS hA [true, true, false, true, true] rfl rfl rfl (fun w1 H locs hw9 hP hD hS => ?_)
  subst hw9
  have hP : va_P D vwCl [(h0, .inr (7, [.int 2, .int 2, .int 3, .int 1, .ref h1, .ref h2, .ref h3, .ref h4, .ref h5])), (h1, .inl (Y 1, 96, .inl (jw_l 0 [0, 1, 0, 0, 1, 0]))), (h2, .inl (Y 1, 96, .inl (jw_l 0 [0, 1, 0, 0, 1, 0]))), (h3, .inl (Y 1, 16, .inl (jw_l 0 [1, 2, 0, 0, 2, 1]))), (h4, .inl (Y 1, 144, .inl (jw_l 0 [1]))), (h5, .inl (Y 1, 4, .inl (jw_l 0 [3, 3])))] H := hP
  have hD : va_D A [(h0, .inr (7, [.int 2, .int 2, .int 3, .int 1, .ref h1, .ref h2, .ref h3, .ref h4, .ref h5])), (h1, .inl (Y 1, 96, .inl (jw_l 0 [0, 1, 0, 0, 1, 0]))), (h2, .inl (Y 1, 96, .inl (jw_l 0 [0, 1, 0, 0, 1, 0]))), (h3, .inl (Y 1, 16, .inl (jw_l 0 [1, 2, 0, 0, 2, 1]))), (h4, .inl (Y 1, 144, .inl (jw_l 0 [1]))), (h5, .inl (Y 1, 4, .inl (jw_l 0 [3, 3])))] := hD
  refine lv_iinc (v := 1) (lv' := [(2, .int 1), (0, .ref h0), (1, .int 2)]) hx hb dX4_set_106 hl (k := 0) rfl (by decide +kernel) (by decide) rfl (fun ls hl => ?_)
  refine lv_goto (tgt := 93) hx hb dX4_set_109 (by decide) ?_
  refine lv_iload_n hx hb dX4_set_93 rfl (lv_at hl 0 rfl) ?_
  refine lv_aload_n hx hb dX4_set_94 rfl (lv_at hl 1 rfl) ?_
  refine va_get (D := D) (ci := 7) (v := .int 2) (C := RX4) (T := TX4) (N := 9) hx hb hts iw_X4_set__X4 hown hE.1 hP 0 rfl rfl 1 (by decide) (hts _ mw_X4_set__2) (fun _ h9 => h9) rfl dX4_set_95 ?_
  refine lv_icmp_ge (tgt := 112) hx hb dX4_set_98 (by decide) (fun c9 => absurd c9 (by decide +kernel)) (fun _ => ?_)
  refine lv_aload_n hx hb dX4_set_101 rfl (lv_at hl 1 rfl) ?_
  refine lv_iload_n hx hb dX4_set_102 rfl (lv_at hl 0 rfl) ?_
  refine jw_mv (wc := [(h0, .inr (7, [.int 2, .int 2, .int 3, .int 1, .ref h1, .ref h2, .ref h3, .ref h4, .ref h5])), (h1, .inl (Y 1, 96, .inl (jw_l 0 [0, 1, 0, 0, 1, 0]))), (h3, .inl (Y 1, 16, .inl (jw_l 0 [1, 2, 0, 0, 2, 1]))), (h4, .inl (Y 1, 144, .inl (jw_l 0 [1])))]) (cs := 0) (ss := 0) (va_runV (As := [.int 1]) (rest := []) ⟨hx, hb, hml, hown, hts⟩ (k45_X4_setSwaps h0 h1 h3 h4 h2 h5 H.size) (cwV 1 hts gX4_set_X4_setSwaps rfl rfl rfl ydV_X4_setSwaps ⟨Nat.le_of_ble_eq_true rfl, Nat.le_of_ble_eq_true rfl⟩) (jw_mpreV (ci := 7) (q0 := 0) hP hD hS hA hE [true, true, false, true, true] rfl rfl rfl) rfl rfl hl.1 rfl (lv_room (Nat.le_of_ble_eq_true rfl)) dX4_set_103 ⟨Nat.le_of_ble_eq_true rfl, Nat.le_of_ble_eq_true rfl⟩) hP hD hS hA [true, true, false, true, true] rfl rfl rfl (fun w1 H locs hw9 hP hD hS => ?_)
  subst hw9
  have hP : va_P D vwCl [(h0, .inr (7, [.int 2, .int 2, .int 3, .int 1, .ref h1, .ref h2, .ref h3, .ref h4, .ref h5])), (h1, .inl (Y 1, 96, .inl (jw_l 0 [0, 1, 0, 0, 1, 0]))), (h2, .inl (Y 1, 96, .inl (jw_l 0 [0, 1, 0, 0, 1, 0]))), (h3, .inl (Y 1, 16, .inl (jw_l 0 [1, 2, 0, 0, 2, 1]))), (h4, .inl (Y 1, 144, .inl (jw_l 0 [1, 0, 0, 0, 0, 0, 0]))), (h5, .inl (Y 1, 4, .inl (jw_l 0 [3, 3])))] H := hP
  have hD : va_D A [(h0, .inr (7, [.int 2, .int 2, .int 3, .int 1, .ref h1, .ref h2, .ref h3, .ref h4, .ref h5])), (h1, .inl (Y 1, 96, .inl (jw_l 0 [0, 1, 0, 0, 1, 0]))), (h2, .inl (Y 1, 96, .inl (jw_l 0 [0, 1, 0, 0, 1, 0]))), (h3, .inl (Y 1, 16, .inl (jw_l 0 [1, 2, 0, 0, 2, 1]))), (h4, .inl (Y 1, 144, .inl (jw_l 0 [1, 0, 0, 0, 0, 0, 0]))), (h5, .inl (Y 1, 4, .inl (jw_l 0 [3, 3])))] := hD
  refine lv_iinc (v := 2) (lv' := [(2, .int 2), (0, .ref h0), (1, .int 2)]) hx hb dX4_set_106 hl (k := 0) rfl (by decide +kernel) (by decide) rfl (fun ls hl => ?_)
  refine lv_goto (tgt := 93) hx hb dX4_set_109 (by decide) ?_
  refine lv_iload_n hx hb dX4_set_93 rfl (lv_at hl 0 rfl) ?_
  refine lv_aload_n hx hb dX4_set_94 rfl (lv_at hl 1 rfl) ?_
  refine va_get (D := D) (ci := 7) (v := .int 2) (C := RX4) (T := TX4) (N := 9) hx hb hts iw_X4_set__X4 hown hE.1 hP 0 rfl rfl 1 (by decide) (hts _ mw_X4_set__2) (fun _ h9 => h9) rfl dX4_set_95 ?_
  refine lv_icmp_ge (tgt := 112) hx hb dX4_set_98 (by decide) (fun _ => ?_) (fun c9 => absurd (by decide +kernel) c9)
  refine W.widen (k := 0) (n := 0) (Nat.le_of_ble_eq_true rfl) (Nat.le_of_ble_eq_true rfl) ?_
  exact jw_vret hx hb hr hlocks rfl hP hD hS dX4_set_112
set_option maxHeartbeats 4000000 in
set_option maxRecDepth 100000 in
theorem k47_J7_rangeCheck_23922 {l : Launch} {D : va_G} {Y : Nat → ClassId} {tt : Nat → Nat} (sz : Nat) : Met l yJ7_rangeCheck_23922 wsJ7_rangeCheck_23922 ({ frames := 0, cells := 0, slots := 0, locals := 0 }) (jw_Pc D Y tt [.int 1, .int 0, .int 1] [] sz) (jw_Qv D (fun w => w = []) (va_A [] sz)) 0 0 (va_A [] sz) := by
  refine jw_met (fun A => jw_Qv D (fun w => w = []) A) (cc := cJ7_rangeCheck_23922) (maxL := 3) (ret := none) pn_J7_rangeCheck_23922 rfl rfl ?_
  intro p e s m below meth c A H locs ls hx hb hml hr hts hown hlocks hin hP hD hA hS hE hl
  have hown : s.vm.findClass RJ7 = some m.cls := hown
  have hl : lv_has ls 3 [(0, .int 1), (1, .int 0), (2, .int 1)] := hl
  refine lv_iload_n hx hb dJ7_rangeCheck_23922_0 rfl (lv_at hl 1 rfl) ?_
  refine lv_iload_n hx hb dJ7_rangeCheck_23922_1 rfl (lv_at hl 2 rfl) ?_
  refine lv_icmp_le (tgt := 46) hx hb dJ7_rangeCheck_23922_2 (by decide) (fun _ => ?_) (fun c9 => absurd (by decide +kernel) c9)
  refine lv_iload_n hx hb dJ7_rangeCheck_23922_46 rfl (lv_at hl 1 rfl) ?_
  refine lv_if_ge (tgt := 59) hx hb dJ7_rangeCheck_23922_47 (by decide) (fun _ => ?_) (fun c9 => absurd (by decide +kernel) c9)
  refine lv_iload_n hx hb dJ7_rangeCheck_23922_59 rfl (lv_at hl 2 rfl) ?_
  refine lv_iload_n hx hb dJ7_rangeCheck_23922_60 rfl (lv_at hl 0 rfl) ?_
  refine lv_icmp_le (tgt := 73) hx hb dJ7_rangeCheck_23922_61 (by decide) (fun _ => ?_) (fun c9 => absurd (by decide +kernel) c9)
  refine W.widen (k := 0) (n := 0) (Nat.le_of_ble_eq_true rfl) (Nat.le_of_ble_eq_true rfl) ?_
  exact jw_vret hx hb hr hlocks rfl hP hD hS dJ7_rangeCheck_23922_73
set_option maxHeartbeats 4000000 in
set_option maxRecDepth 100000 in
theorem k48_J7_fill_fda19 {l : Launch} {D : va_G} {Y : Nat → ClassId} {tt : Nat → Nat} (h0 : Nat) (sz : Nat) : Met l yJ7_fill_fda19 wsJ7_fill_fda19 ({ frames := 1, cells := 0, slots := 0, locals := 22 }) (jw_Pc D Y tt [.ref h0, .int 0, .int 1, .int 0] [(h0, .inl (Y 1, 1, .inl (jw_l 0 [])))] sz) (jw_Qv D (fun w => w = [(h0, .inl (Y 1, 1, .inl (jw_l 0 [0])))]) (va_A [(h0, .inl (Y 1, 1, .inl (jw_l 0 [])))] sz)) 0 0 (va_A [(h0, .inl (Y 1, 1, .inl (jw_l 0 [])))] sz) := by
  refine jw_met (fun A => jw_Qv D (fun w => w = [(h0, .inl (Y 1, 1, .inl (jw_l 0 [0])))]) A) (cc := cJ7_fill_fda19) (maxL := 5) (ret := none) pn_J7_fill_fda19 rfl rfl ?_
  intro p e s m below meth c A H locs ls hx hb hml hr hts hown hlocks hin hP hD hA hS hE hl
  have hown : s.vm.findClass RJ7 = some m.cls := hown
  have hl : lv_has ls 5 [(0, .ref h0), (1, .int 0), (2, .int 1), (3, .int 0)] := hl
  refine lv_aload_n hx hb dJ7_fill_fda19_0 rfl (lv_at hl 0 rfl) ?_
  refine jw_alen (v := 1) hx hb hE hP 0 1 rfl rfl (by decide +kernel) dJ7_fill_fda19_1 ?_
  refine lv_iload_n hx hb dJ7_fill_fda19_2 rfl (lv_at hl 1 rfl) ?_
  refine lv_iload_n hx hb dJ7_fill_fda19_3 rfl (lv_at hl 2 rfl) ?_
  refine jw_mv (wc := []) (cs := 0) (ss := 0) (va_runS (As := [.int 1, .int 0, .int 1]) (rest := []) ⟨hx, hb, hml, hown, hts⟩ (k47_J7_rangeCheck_23922 H.size) (va_cwS 3 hts gJ7_fill_fda19_J7_rangeCheck_23922 rfl rfl rfl ydS_J7_rangeCheck_23922 ⟨Nat.le_of_ble_eq_true rfl, Nat.le_of_ble_eq_true rfl⟩) (jw_mpreS hP hD hS hA hE [] rfl) rfl rfl hl.1 rfl (lv_room (Nat.le_of_ble_eq_true rfl)) dJ7_fill_fda19_4 ⟨Nat.le_of_ble_eq_true rfl, Nat.le_of_ble_eq_true rfl⟩) hP hD hS hA [] rfl rfl rfl (fun w1 H locs hw9 hP hD hS => ?_)
  subst hw9
  have hP : va_P D vwCl [(h0, .inl (Y 1, 1, .inl (jw_l 0 [])))] H := hP
  have hD : va_D A [(h0, .inl (Y 1, 1, .inl (jw_l 0 [])))] := hD
  refine lv_iload_n hx hb dJ7_fill_fda19_7 rfl (lv_at hl 1 rfl) ?_
  refine lv_istore (lv' := [(4, .int 0), (0, .ref h0), (1, .int 0), (2, .int 1), (3, .int 0)]) hx hb dJ7_fill_fda19_8 hl (by decide) rfl (fun ls hl => ?_)
  refine lv_iload hx hb dJ7_fill_fda19_10 (lv_at hl 0 rfl) ?_
  refine lv_iload_n hx hb dJ7_fill_fda19_12 rfl (lv_at hl 3 rfl) ?_
  refine lv_icmp_ge (tgt := 27) hx hb dJ7_fill_fda19_13 (by decide) (fun c9 => absurd c9 (by decide +kernel)) (fun _ => ?_)
  refine lv_aload_n hx hb dJ7_fill_fda19_16 rfl (lv_at hl 1 rfl) ?_
  refine lv_iload hx hb dJ7_fill_fda19_17 (lv_at hl 0 rfl) ?_
  refine lv_iload_n hx hb dJ7_fill_fda19_19 rfl (lv_at hl 4 rfl) ?_
  refine jw_iast (ws' := [(h0, .inl (Y 1, 1, .inl (jw_l 0 [0])))]) hx hb hE hP hD hS 0 0 [0] rfl (by decide +kernel) (by decide +kernel) rfl dJ7_fill_fda19_20 (fun H locs hP hD hS => ?_)
  refine lv_iinc (v := 1) (lv' := [(4, .int 1), (0, .ref h0), (1, .int 0), (2, .int 1), (3, .int 0)]) hx hb dJ7_fill_fda19_21 hl (k := 0) rfl (by decide +kernel) (by decide) rfl (fun ls hl => ?_)
  refine lv_goto (tgt := 10) hx hb dJ7_fill_fda19_24 (by decide) ?_
  refine lv_iload hx hb dJ7_fill_fda19_10 (lv_at hl 0 rfl) ?_
  refine lv_iload_n hx hb dJ7_fill_fda19_12 rfl (lv_at hl 3 rfl) ?_
  refine lv_icmp_ge (tgt := 27) hx hb dJ7_fill_fda19_13 (by decide) (fun _ => ?_) (fun c9 => absurd (by decide +kernel) c9)
  refine W.widen (k := 0) (n := 0) (Nat.le_of_ble_eq_true rfl) (Nat.le_of_ble_eq_true rfl) ?_
  exact jw_vret hx hb hr hlocks rfl hP hD hS dJ7_fill_fda19_27
set_option maxHeartbeats 4000000 in
set_option maxRecDepth 100000 in
theorem k49_X2_listLawful {l : Launch} {D : va_G} {Y : Nat → ClassId} {tt : Nat → Nat} (h0 h1 h2 h3 h4 h5 h6 h7 h8 : Nat) (sz : Nat) : Met l yX2_listLawful wsX2_listLawful ({ frames := 0, cells := 0, slots := 0, locals := 0 }) (jw_Pc D Y tt [.ref h0] [(h0, .inr (5, [.ref h3, .ref h4, .int 1, .int 0, .ref h5, .ref h1, .ref h2, .ref h6, .ref h7, .ref h8])), (h1, .inl (Y 1, 1, .inl (jw_l 0 [0]))), (h2, .inl (Y 1, 1, .inl (jw_l 0 [])))] sz) (jw_Qv D (fun w => w = [(h0, .inr (5, [.ref h3, .ref h4, .int 1, .int 1, .ref h5, .ref h1, .ref h2, .ref h6, .ref h7, .ref h8])), (h1, .inl (Y 1, 1, .inl (jw_l 0 [0]))), (h2, .inl (Y 1, 1, .inl (jw_l 0 [0])))]) (va_A [(h0, .inr (5, [.ref h3, .ref h4, .int 1, .int 0, .ref h5, .ref h1, .ref h2, .ref h6, .ref h7, .ref h8])), (h1, .inl (Y 1, 1, .inl (jw_l 0 [0]))), (h2, .inl (Y 1, 1, .inl (jw_l 0 [])))] sz)) 0 0 (va_A [(h0, .inr (5, [.ref h3, .ref h4, .int 1, .int 0, .ref h5, .ref h1, .ref h2, .ref h6, .ref h7, .ref h8])), (h1, .inl (Y 1, 1, .inl (jw_l 0 [0]))), (h2, .inl (Y 1, 1, .inl (jw_l 0 [])))] sz) := by
  refine jw_met (fun A => jw_Qv D (fun w => w = [(h0, .inr (5, [.ref h3, .ref h4, .int 1, .int 1, .ref h5, .ref h1, .ref h2, .ref h6, .ref h7, .ref h8])), (h1, .inl (Y 1, 1, .inl (jw_l 0 [0]))), (h2, .inl (Y 1, 1, .inl (jw_l 0 [0])))]) A) (cc := cX2_listLawful) (maxL := 2) (ret := none) pn_X2_listLawful rfl rfl ?_
  intro p e s m below meth c A H locs ls hx hb hml hr hts hown hlocks hin hP hD hA hS hE hl
  have hown : s.vm.findClass RX2 = some m.cls := hown
  have hl : lv_has ls 2 [(0, .ref h0)] := hl
  refine lv_aload_n hx hb dX2_listLawful_0 rfl (lv_at hl 0 rfl) ?_
  refine lv_iconst (v := 0) hx hb dX2_listLawful_1 (by decide +kernel) ?_
  refine va_put (D := D) (ci := 5) (v := .int 0) (C := RX2) (T := TX2) (N := 10) hx hb hts iw_X2_listLawful__X2 tyX2 tyX2_ok nmX2 hown hE.1 hP hD hS 0 rfl rfl 3 (by decide) (hts _ mw_X2_listLawful__1) (fun _ h9 => h9) rfl (tyX2_ok 3 (by decide)) rfl rfl (Nat.le_of_ble_eq_true rfl) dX2_listLawful_2 (fun H locs hP hD hS => ?_)
  have hP : va_P D vwCl [(h0, .inr (5, [.ref h3, .ref h4, .int 1, .int 0, .ref h5, .ref h1, .ref h2, .ref h6, .ref h7, .ref h8])), (h1, .inl (Y 1, 1, .inl (jw_l 0 [0]))), (h2, .inl (Y 1, 1, .inl (jw_l 0 [])))] H := hP
  have hD : va_D A [(h0, .inr (5, [.ref h3, .ref h4, .int 1, .int 0, .ref h5, .ref h1, .ref h2, .ref h6, .ref h7, .ref h8])), (h1, .inl (Y 1, 1, .inl (jw_l 0 [0]))), (h2, .inl (Y 1, 1, .inl (jw_l 0 [])))] := hD
  refine lv_iconst (v := 0) hx hb dX2_listLawful_5 (by decide +kernel) ?_
  refine lv_istore_n (lv' := [(1, .int 0), (0, .ref h0)]) hx hb dX2_listLawful_6 rfl hl (by decide) rfl (fun ls hl => ?_)
  refine lv_iload_n hx hb dX2_listLawful_7 rfl (lv_at hl 0 rfl) ?_
  refine lv_aload_n hx hb dX2_listLawful_8 rfl (lv_at hl 1 rfl) ?_
  refine va_get (D := D) (ci := 5) (v := .int 1) (C := RX2) (T := TX2) (N := 10) hx hb hts iw_X2_listLawful__X2 hown hE.1 hP 0 rfl rfl 2 (by decide) (hts _ mw_X2_listLawful__2) (fun _ h9 => h9) rfl dX2_listLawful_9 ?_
  refine lv_icmp_ge (tgt := 50) hx hb dX2_listLawful_12 (by decide) (fun c9 => absurd c9 (by decide +kernel)) (fun _ => ?_)
  refine lv_aload_n hx hb dX2_listLawful_15 rfl (lv_at hl 1 rfl) ?_
  refine va_get (D := D) (ci := 5) (v := .ref h1) (C := RX2) (T := TX2) (N := 10) hx hb hts iw_X2_listLawful__X2 hown hE.1 hP 0 rfl rfl 5 (by decide) (hts _ mw_X2_listLawful__3) (fun _ h9 => h9) rfl dX2_listLawful_16 ?_
  refine lv_iload_n hx hb dX2_listLawful_19 rfl (lv_at hl 0 rfl) ?_
  refine jw_iald (v := 0) hx hb hE hP 1 0 rfl (by decide +kernel) (by decide +kernel) dX2_listLawful_20 ?_
  refine lv_if_ne (tgt := 44) hx hb dX2_listLawful_21 (by decide) (fun c9 => absurd (by decide +kernel) c9) (fun _ => ?_)
  refine lv_aload_n hx hb dX2_listLawful_24 rfl (lv_at hl 1 rfl) ?_
  refine va_get (D := D) (ci := 5) (v := .ref h2) (C := RX2) (T := TX2) (N := 10) hx hb hts iw_X2_listLawful__X2 hown hE.1 hP 0 rfl rfl 6 (by decide) (hts _ mw_X2_listLawful__4) (fun _ h9 => h9) rfl dX2_listLawful_25 ?_
  refine lv_aload_n hx hb dX2_listLawful_28 rfl (lv_at hl 1 rfl) ?_
  refine va_get (D := D) (ci := 5) (v := .int 0) (C := RX2) (T := TX2) (N := 10) hx hb hts iw_X2_listLawful__X2 hown hE.1 hP 0 rfl rfl 3 (by decide) (hts _ mw_X2_listLawful__1) (fun _ h9 => h9) rfl dX2_listLawful_29 ?_
  refine lv_iload_n hx hb dX2_listLawful_32 rfl (lv_at hl 0 rfl) ?_
  refine jw_iast (ws' := [(h0, .inr (5, [.ref h3, .ref h4, .int 1, .int 0, .ref h5, .ref h1, .ref h2, .ref h6, .ref h7, .ref h8])), (h1, .inl (Y 1, 1, .inl (jw_l 0 [0]))), (h2, .inl (Y 1, 1, .inl (jw_l 0 [0])))]) hx hb hE hP hD hS 2 0 [0] rfl (by decide +kernel) (by decide +kernel) rfl dX2_listLawful_33 (fun H locs hP hD hS => ?_)
  refine lv_aload_n hx hb dX2_listLawful_34 rfl (lv_at hl 1 rfl) ?_
  refine lv_dup hx hb dX2_listLawful_35 rfl ?_
  refine va_get (D := D) (ci := 5) (v := .int 0) (C := RX2) (T := TX2) (N := 10) hx hb hts iw_X2_listLawful__X2 hown hE.1 hP 0 rfl rfl 3 (by decide) (hts _ mw_X2_listLawful__1) (fun _ h9 => h9) rfl dX2_listLawful_36 ?_
  refine lv_iconst (v := 1) hx hb dX2_listLawful_39 (by decide +kernel) ?_
  refine jw_iadd (v := 1) hx hb dX2_listLawful_40 (by decide +kernel) ?_
  refine va_put (D := D) (ci := 5) (v := .int 1) (C := RX2) (T := TX2) (N := 10) hx hb hts iw_X2_listLawful__X2 tyX2 tyX2_ok nmX2 hown hE.1 hP hD hS 0 rfl rfl 3 (by decide) (hts _ mw_X2_listLawful__1) (fun _ h9 => h9) rfl (tyX2_ok 3 (by decide)) rfl rfl (Nat.le_of_ble_eq_true rfl) dX2_listLawful_41 (fun H locs hP hD hS => ?_)
  have hP : va_P D vwCl [(h0, .inr (5, [.ref h3, .ref h4, .int 1, .int 1, .ref h5, .ref h1, .ref h2, .ref h6, .ref h7, .ref h8])), (h1, .inl (Y 1, 1, .inl (jw_l 0 [0]))), (h2, .inl (Y 1, 1, .inl (jw_l 0 [0])))] H := hP
  have hD : va_D A [(h0, .inr (5, [.ref h3, .ref h4, .int 1, .int 1, .ref h5, .ref h1, .ref h2, .ref h6, .ref h7, .ref h8])), (h1, .inl (Y 1, 1, .inl (jw_l 0 [0]))), (h2, .inl (Y 1, 1, .inl (jw_l 0 [0])))] := hD
  refine lv_iinc (v := 1) (lv' := [(1, .int 1), (0, .ref h0)]) hx hb dX2_listLawful_44 hl (k := 0) rfl (by decide +kernel) (by decide) rfl (fun ls hl => ?_)
  refine lv_goto (tgt := 7) hx hb dX2_listLawful_47 (by decide) ?_
  refine lv_iload_n hx hb dX2_listLawful_7 rfl (lv_at hl 0 rfl) ?_
  refine lv_aload_n hx hb dX2_listLawful_8 rfl (lv_at hl 1 rfl) ?_
  refine va_get (D := D) (ci := 5) (v := .int 1) (C := RX2) (T := TX2) (N := 10) hx hb hts iw_X2_listLawful__X2 hown hE.1 hP 0 rfl rfl 2 (by decide) (hts _ mw_X2_listLawful__2) (fun _ h9 => h9) rfl dX2_listLawful_9 ?_
  refine lv_icmp_ge (tgt := 50) hx hb dX2_listLawful_12 (by decide) (fun _ => ?_) (fun c9 => absurd (by decide +kernel) c9)
  refine W.widen (k := 0) (n := 0) (Nat.le_of_ble_eq_true rfl) (Nat.le_of_ble_eq_true rfl) ?_
  exact jw_vret hx hb hr hlocks rfl hP hD hS dX2_listLawful_50
set_option maxHeartbeats 4000000 in
set_option maxRecDepth 100000 in
theorem k50_X2_addUp {l : Launch} {D : va_G} {Y : Nat → ClassId} {tt : Nat → Nat} (h0 : Nat) (sz : Nat) : Met l yX2_addUp wsX2_addUp ({ frames := 0, cells := 0, slots := 0, locals := 0 }) (jw_Pc D Y tt [.ref h0, .int 0] [] sz) (jw_Qv D (fun w => w = []) (va_A [] sz)) 0 0 (va_A [] sz) := by
  refine jw_met (fun A => jw_Qv D (fun w => w = []) A) (cc := cX2_addUp) (maxL := 5) (ret := none) pn_X2_addUp rfl rfl ?_
  intro p e s m below meth c A H locs ls hx hb hml hr hts hown hlocks hin hP hD hA hS hE hl
  have hown : s.vm.findClass RX2 = some m.cls := hown
  have hl : lv_has ls 5 [(0, .ref h0), (1, .int 0)] := hl
  refine lv_iconst (v := 0) hx hb dX2_addUp_0 (by decide +kernel) ?_
  refine lv_istore_n (lv' := [(2, .int 0), (0, .ref h0), (1, .int 0)]) hx hb dX2_addUp_1 rfl hl (by decide) rfl (fun ls hl => ?_)
  refine lv_iload_n hx hb dX2_addUp_2 rfl (lv_at hl 0 rfl) ?_
  refine lv_iload_n hx hb dX2_addUp_3 rfl (lv_at hl 2 rfl) ?_
  refine lv_icmp_ge (tgt := 54) hx hb dX2_addUp_4 (by decide) (fun _ => ?_) (fun c9 => absurd (by decide +kernel) c9)
  refine W.widen (k := 0) (n := 0) (Nat.le_of_ble_eq_true rfl) (Nat.le_of_ble_eq_true rfl) ?_
  exact jw_vret hx hb hr hlocks rfl hP hD hS dX2_addUp_54
set_option maxHeartbeats 4000000 in
set_option maxRecDepth 100000 in
theorem k51_X2_tellWithin {l : Launch} {D : va_G} {Y : Nat → ClassId} {tt : Nat → Nat} (h0 h1 h2 h3 h4 h5 h6 h7 h8 h9 h10 h11 h12 h13 : Nat) (sz : Nat) : Met l yX2_tellWithin wsX2_tellWithin ({ frames := 1, cells := 0, slots := 0, locals := 24 }) (jw_Pc D Y tt [.ref h1] [(h0, .inr (6, [.int 2, .int 0, .int 0, .int 0, .int 0, .ref h4, .ref h5, .ref h6, .ref h7, .ref h8, .int 0])), (h1, .inr (5, [.ref h0, .ref h9, .int 1, .int 1, .ref h10, .ref h2, .ref h11, .ref h3, .ref h12, .ref h13])), (h2, .inl (Y 1, 1, .inl (jw_l 0 [0]))), (h3, .inl (Y 1, 1024, .inl (jw_l 0 [])))] sz) (jw_Qv D (fun w => w = [(h0, .inr (6, [.int 2, .int 0, .int 0, .int 0, .int 0, .ref h4, .ref h5, .ref h6, .ref h7, .ref h8, .int 0])), (h1, .inr (5, [.ref h0, .ref h9, .int 1, .int 1, .ref h10, .ref h2, .ref h11, .ref h3, .ref h12, .ref h13])), (h2, .inl (Y 1, 1, .inl (jw_l 0 [0]))), (h3, .inl (Y 1, 1024, .inl (jw_l 0 [1])))]) (va_A [(h0, .inr (6, [.int 2, .int 0, .int 0, .int 0, .int 0, .ref h4, .ref h5, .ref h6, .ref h7, .ref h8, .int 0])), (h1, .inr (5, [.ref h0, .ref h9, .int 1, .int 1, .ref h10, .ref h2, .ref h11, .ref h3, .ref h12, .ref h13])), (h2, .inl (Y 1, 1, .inl (jw_l 0 [0]))), (h3, .inl (Y 1, 1024, .inl (jw_l 0 [])))] sz)) 0 0 (va_A [(h0, .inr (6, [.int 2, .int 0, .int 0, .int 0, .int 0, .ref h4, .ref h5, .ref h6, .ref h7, .ref h8, .int 0])), (h1, .inr (5, [.ref h0, .ref h9, .int 1, .int 1, .ref h10, .ref h2, .ref h11, .ref h3, .ref h12, .ref h13])), (h2, .inl (Y 1, 1, .inl (jw_l 0 [0]))), (h3, .inl (Y 1, 1024, .inl (jw_l 0 [])))] sz) := by
  refine jw_met (fun A => jw_Qv D (fun w => w = [(h0, .inr (6, [.int 2, .int 0, .int 0, .int 0, .int 0, .ref h4, .ref h5, .ref h6, .ref h7, .ref h8, .int 0])), (h1, .inr (5, [.ref h0, .ref h9, .int 1, .int 1, .ref h10, .ref h2, .ref h11, .ref h3, .ref h12, .ref h13])), (h2, .inl (Y 1, 1, .inl (jw_l 0 [0]))), (h3, .inl (Y 1, 1024, .inl (jw_l 0 [1])))]) A) (cc := cX2_tellWithin) (maxL := 2) (ret := none) pn_X2_tellWithin rfl rfl ?_
  intro p e s m below meth c A H locs ls hx hb hml hr hts hown hlocks hin hP hD hA hS hE hl
  have hown : s.vm.findClass RX2 = some m.cls := hown
  have hl : lv_has ls 2 [(0, .ref h1)] := hl
  refine lv_aload_n hx hb dX2_tellWithin_0 rfl (lv_at hl 0 rfl) ?_
  refine va_get (D := D) (ci := 5) (v := .ref h3) (C := RX2) (T := TX2) (N := 10) hx hb hts iw_X2_tellWithin__X2 hown hE.1 hP 1 rfl rfl 7 (by decide) (hts _ mw_X2_tellWithin__1) (fun _ h9 => h9) rfl dX2_tellWithin_1 ?_
  refine lv_iconst (v := 0) hx hb dX2_tellWithin_4 (by decide +kernel) ?_
  refine jw_mv (wc := [(h3, .inl (Y 1, 1024, .inl (jw_l 0 [])))]) (cs := 0) (ss := 0) (va_runS (As := [.ref h3, .int 0]) (rest := []) ⟨hx, hb, hml, hown, hts⟩ (jw_fill (n := 1024) (h0 := h3) (v := 0) (sz := H.size) (by decide)) (va_cwS 2 hts gX2_tellWithin_J7_fill_53178 rfl rfl rfl ydS_J7_fill_53178 ⟨Nat.le_of_ble_eq_true rfl, Nat.le_of_ble_eq_true rfl⟩) (jw_mpreS hP hD hS hA hE [false, false, false, true] rfl) rfl rfl hl.1 rfl (lv_room (Nat.le_of_ble_eq_true rfl)) dX2_tellWithin_5 ⟨Nat.le_of_ble_eq_true rfl, Nat.le_of_ble_eq_true rfl⟩) hP hD hS hA [false, false, false, true] rfl rfl rfl (fun w1 H locs hw9 hP hD hS => ?_)
  subst hw9
  have hP : va_P D vwCl [(h0, .inr (6, [.int 2, .int 0, .int 0, .int 0, .int 0, .ref h4, .ref h5, .ref h6, .ref h7, .ref h8, .int 0])), (h1, .inr (5, [.ref h0, .ref h9, .int 1, .int 1, .ref h10, .ref h2, .ref h11, .ref h3, .ref h12, .ref h13])), (h2, .inl (Y 1, 1, .inl (jw_l 0 [0]))), (h3, .inl (Y 1, 1024, .inl (jw_l 0 [])))] H := hP
  have hD : va_D A [(h0, .inr (6, [.int 2, .int 0, .int 0, .int 0, .int 0, .ref h4, .ref h5, .ref h6, .ref h7, .ref h8, .int 0])), (h1, .inr (5, [.ref h0, .ref h9, .int 1, .int 1, .ref h10, .ref h2, .ref h11, .ref h3, .ref h12, .ref h13])), (h2, .inl (Y 1, 1, .inl (jw_l 0 [0]))), (h3, .inl (Y 1, 1024, .inl (jw_l 0 [])))] := hD
  refine lv_iconst (v := 0) hx hb dX2_tellWithin_8 (by decide +kernel) ?_
  refine lv_istore_n (lv' := [(1, .int 0), (0, .ref h1)]) hx hb dX2_tellWithin_9 rfl hl (by decide) rfl (fun ls hl => ?_)
  refine lv_iload_n hx hb dX2_tellWithin_10 rfl (lv_at hl 0 rfl) ?_
  refine lv_aload_n hx hb dX2_tellWithin_11 rfl (lv_at hl 1 rfl) ?_
  refine va_get (D := D) (ci := 5) (v := .int 1) (C := RX2) (T := TX2) (N := 10) hx hb hts iw_X2_tellWithin__X2 hown hE.1 hP 1 rfl rfl 2 (by decide) (hts _ mw_X2_tellWithin__2) (fun _ h9 => h9) rfl dX2_tellWithin_12 ?_
  refine lv_icmp_ge (tgt := 39) hx hb dX2_tellWithin_15 (by decide) (fun c9 => absurd c9 (by decide +kernel)) (fun _ => ?_)
  refine lv_aload_n hx hb dX2_tellWithin_18 rfl (lv_at hl 1 rfl) ?_
  refine va_get (D := D) (ci := 5) (v := .ref h3) (C := RX2) (T := TX2) (N := 10) hx hb hts iw_X2_tellWithin__X2 hown hE.1 hP 1 rfl rfl 7 (by decide) (hts _ mw_X2_tellWithin__1) (fun _ h9 => h9) rfl dX2_tellWithin_19 ?_
  refine lv_aload_n hx hb dX2_tellWithin_22 rfl (lv_at hl 1 rfl) ?_
  refine va_get (D := D) (ci := 5) (v := .ref h2) (C := RX2) (T := TX2) (N := 10) hx hb hts iw_X2_tellWithin__X2 hown hE.1 hP 1 rfl rfl 5 (by decide) (hts _ mw_X2_tellWithin__3) (fun _ h9 => h9) rfl dX2_tellWithin_23 ?_
  refine lv_iload_n hx hb dX2_tellWithin_26 rfl (lv_at hl 0 rfl) ?_
  refine jw_iald (v := 0) hx hb hE hP 2 0 rfl (by decide +kernel) (by decide +kernel) dX2_tellWithin_27 ?_
  refine lv_dup2_11 hx hb dX2_tellWithin_28 rfl rfl ?_
  refine jw_iald (v := 0) hx hb hE hP 3 0 rfl (by decide +kernel) (by decide +kernel) dX2_tellWithin_29 ?_
  refine lv_iconst (v := 1) hx hb dX2_tellWithin_30 (by decide +kernel) ?_
  refine jw_iadd (v := 1) hx hb dX2_tellWithin_31 (by decide +kernel) ?_
  refine jw_iast (ws' := [(h0, .inr (6, [.int 2, .int 0, .int 0, .int 0, .int 0, .ref h4, .ref h5, .ref h6, .ref h7, .ref h8, .int 0])), (h1, .inr (5, [.ref h0, .ref h9, .int 1, .int 1, .ref h10, .ref h2, .ref h11, .ref h3, .ref h12, .ref h13])), (h2, .inl (Y 1, 1, .inl (jw_l 0 [0]))), (h3, .inl (Y 1, 1024, .inl (jw_l 0 [1])))]) hx hb hE hP hD hS 3 0 [1] rfl (by decide +kernel) (by decide +kernel) rfl dX2_tellWithin_32 (fun H locs hP hD hS => ?_)
  refine lv_iinc (v := 1) (lv' := [(1, .int 1), (0, .ref h1)]) hx hb dX2_tellWithin_33 hl (k := 0) rfl (by decide +kernel) (by decide) rfl (fun ls hl => ?_)
  refine lv_goto (tgt := 10) hx hb dX2_tellWithin_36 (by decide) ?_
  refine lv_iload_n hx hb dX2_tellWithin_10 rfl (lv_at hl 0 rfl) ?_
  refine lv_aload_n hx hb dX2_tellWithin_11 rfl (lv_at hl 1 rfl) ?_
  refine va_get (D := D) (ci := 5) (v := .int 1) (C := RX2) (T := TX2) (N := 10) hx hb hts iw_X2_tellWithin__X2 hown hE.1 hP 1 rfl rfl 2 (by decide) (hts _ mw_X2_tellWithin__2) (fun _ h9 => h9) rfl dX2_tellWithin_12 ?_
  refine lv_icmp_ge (tgt := 39) hx hb dX2_tellWithin_15 (by decide) (fun _ => ?_) (fun c9 => absurd (by decide +kernel) c9)
  refine lv_aload_n hx hb dX2_tellWithin_39 rfl (lv_at hl 1 rfl) ?_
  refine va_get (D := D) (ci := 5) (v := .ref h3) (C := RX2) (T := TX2) (N := 10) hx hb hts iw_X2_tellWithin__X2 hown hE.1 hP 1 rfl rfl 7 (by decide) (hts _ mw_X2_tellWithin__1) (fun _ h9 => h9) rfl dX2_tellWithin_40 ?_
  refine lv_aload_n hx hb dX2_tellWithin_43 rfl (lv_at hl 1 rfl) ?_
  refine va_get (D := D) (ci := 5) (v := .ref h0) (C := RX2) (T := TX2) (N := 10) hx hb hts iw_X2_tellWithin__X2 hown hE.1 hP 1 rfl rfl 0 (by decide) (hts _ mw_X2_tellWithin__4) (fun _ h9 => h9) rfl dX2_tellWithin_44 ?_
  refine va_getN (D := D) (ci := 6) (v := .int 0) (C := RX3) (T := TX3) (N := 11) hx hb hts iw_X2_tellWithin__X3 hown hE.1 hP 0 rfl rfl 4 (by decide) (nf_X2_58 hE) (fun _ h9 => h9) rfl dX2_tellWithin_47 ?_
  refine jw_mv (wc := []) (cs := 0) (ss := 0) (va_runS (As := [.ref h3, .int 0]) (rest := []) ⟨hx, hb, hml, hown, hts⟩ (k50_X2_addUp h3 H.size) (va_cwS 2 hts gX2_tellWithin_X2_addUp rfl rfl rfl ydS_X2_addUp ⟨Nat.le_of_ble_eq_true rfl, Nat.le_of_ble_eq_true rfl⟩) (jw_mpreS hP hD hS hA hE [] rfl) rfl rfl hl.1 rfl (lv_room (Nat.le_of_ble_eq_true rfl)) dX2_tellWithin_50 ⟨Nat.le_of_ble_eq_true rfl, Nat.le_of_ble_eq_true rfl⟩) hP hD hS hA [] rfl rfl rfl (fun w1 H locs hw9 hP hD hS => ?_)
  subst hw9
  have hP : va_P D vwCl [(h0, .inr (6, [.int 2, .int 0, .int 0, .int 0, .int 0, .ref h4, .ref h5, .ref h6, .ref h7, .ref h8, .int 0])), (h1, .inr (5, [.ref h0, .ref h9, .int 1, .int 1, .ref h10, .ref h2, .ref h11, .ref h3, .ref h12, .ref h13])), (h2, .inl (Y 1, 1, .inl (jw_l 0 [0]))), (h3, .inl (Y 1, 1024, .inl (jw_l 0 [1])))] H := hP
  have hD : va_D A [(h0, .inr (6, [.int 2, .int 0, .int 0, .int 0, .int 0, .ref h4, .ref h5, .ref h6, .ref h7, .ref h8, .int 0])), (h1, .inr (5, [.ref h0, .ref h9, .int 1, .int 1, .ref h10, .ref h2, .ref h11, .ref h3, .ref h12, .ref h13])), (h2, .inl (Y 1, 1, .inl (jw_l 0 [0]))), (h3, .inl (Y 1, 1024, .inl (jw_l 0 [1])))] := hD
  refine W.widen (k := 0) (n := 0) (Nat.le_of_ble_eq_true rfl) (Nat.le_of_ble_eq_true rfl) ?_
  exact jw_vret hx hb hr hlocks rfl hP hD hS dX2_tellWithin_53
set_option maxHeartbeats 4000000 in
set_option maxRecDepth 100000 in
theorem k52_X2_renew {l : Launch} {D : va_G} {Y : Nat → ClassId} {tt : Nat → Nat} (h0 h1 h2 h3 h4 h5 h6 h7 h8 h9 h10 h11 h12 h13 : Nat) (sz : Nat) : Met l yX2_renew wsX2_renew ({ frames := 2, cells := 0, slots := 0, locals := 46 }) (jw_Pc D Y tt [.ref h1] [(h0, .inr (6, [.int 2, .int 0, .int 0, .int 0, .int 0, .ref h5, .ref h6, .ref h7, .ref h8, .ref h9, .int 0])), (h1, .inr (5, [.ref h0, .ref h10, .int 0, .int 0, .ref h11, .ref h2, .ref h3, .ref h4, .ref h12, .ref h13])), (h2, .inl (Y 1, 1, .inl (jw_l 0 []))), (h3, .inl (Y 1, 1, .inl (jw_l 0 []))), (h4, .inl (Y 1, 1024, .inl (jw_l 0 [])))] sz) (jw_Qv D (fun w => w = [(h0, .inr (6, [.int 2, .int 0, .int 0, .int 0, .int 0, .ref h5, .ref h6, .ref h7, .ref h8, .ref h9, .int 0])), (h1, .inr (5, [.ref h0, .ref h10, .int 1, .int 1, .ref h11, .ref h2, .ref h3, .ref h4, .ref h12, .ref h13])), (h2, .inl (Y 1, 1, .inl (jw_l 0 [0]))), (h3, .inl (Y 1, 1, .inl (jw_l 0 [0]))), (h4, .inl (Y 1, 1024, .inl (jw_l 0 [1])))]) (va_A [(h0, .inr (6, [.int 2, .int 0, .int 0, .int 0, .int 0, .ref h5, .ref h6, .ref h7, .ref h8, .ref h9, .int 0])), (h1, .inr (5, [.ref h0, .ref h10, .int 0, .int 0, .ref h11, .ref h2, .ref h3, .ref h4, .ref h12, .ref h13])), (h2, .inl (Y 1, 1, .inl (jw_l 0 []))), (h3, .inl (Y 1, 1, .inl (jw_l 0 []))), (h4, .inl (Y 1, 1024, .inl (jw_l 0 [])))] sz)) 0 0 (va_A [(h0, .inr (6, [.int 2, .int 0, .int 0, .int 0, .int 0, .ref h5, .ref h6, .ref h7, .ref h8, .ref h9, .int 0])), (h1, .inr (5, [.ref h0, .ref h10, .int 0, .int 0, .ref h11, .ref h2, .ref h3, .ref h4, .ref h12, .ref h13])), (h2, .inl (Y 1, 1, .inl (jw_l 0 []))), (h3, .inl (Y 1, 1, .inl (jw_l 0 []))), (h4, .inl (Y 1, 1024, .inl (jw_l 0 [])))] sz) := by
  refine jw_met (fun A => jw_Qv D (fun w => w = [(h0, .inr (6, [.int 2, .int 0, .int 0, .int 0, .int 0, .ref h5, .ref h6, .ref h7, .ref h8, .ref h9, .int 0])), (h1, .inr (5, [.ref h0, .ref h10, .int 1, .int 1, .ref h11, .ref h2, .ref h3, .ref h4, .ref h12, .ref h13])), (h2, .inl (Y 1, 1, .inl (jw_l 0 [0]))), (h3, .inl (Y 1, 1, .inl (jw_l 0 [0]))), (h4, .inl (Y 1, 1024, .inl (jw_l 0 [1])))]) A) (cc := cX2_renew) (maxL := 2) (ret := none) pn_X2_renew rfl rfl ?_
  intro p e s m below meth c A H locs ls hx hb hml hr hts hown hlocks hin hP hD hA hS hE hl
  have hown : s.vm.findClass RX2 = some m.cls := hown
  have hl : lv_has ls 2 [(0, .ref h1)] := hl
  refine lv_aload_n hx hb dX2_renew_0 rfl (lv_at hl 0 rfl) ?_
  refine lv_iconst (v := 1) hx hb dX2_renew_1 (by decide +kernel) ?_
  refine va_put (D := D) (ci := 5) (v := .int 1) (C := RX2) (T := TX2) (N := 10) hx hb hts iw_X2_renew__X2 tyX2 tyX2_ok nmX2 hown hE.1 hP hD hS 1 rfl rfl 2 (by decide) (hts _ mw_X2_renew__1) (fun _ h9 => h9) rfl (tyX2_ok 2 (by decide)) rfl rfl (Nat.le_of_ble_eq_true rfl) dX2_renew_2 (fun H locs hP hD hS => ?_)
  have hP : va_P D vwCl [(h0, .inr (6, [.int 2, .int 0, .int 0, .int 0, .int 0, .ref h5, .ref h6, .ref h7, .ref h8, .ref h9, .int 0])), (h1, .inr (5, [.ref h0, .ref h10, .int 1, .int 0, .ref h11, .ref h2, .ref h3, .ref h4, .ref h12, .ref h13])), (h2, .inl (Y 1, 1, .inl (jw_l 0 []))), (h3, .inl (Y 1, 1, .inl (jw_l 0 []))), (h4, .inl (Y 1, 1024, .inl (jw_l 0 [])))] H := hP
  have hD : va_D A [(h0, .inr (6, [.int 2, .int 0, .int 0, .int 0, .int 0, .ref h5, .ref h6, .ref h7, .ref h8, .ref h9, .int 0])), (h1, .inr (5, [.ref h0, .ref h10, .int 1, .int 0, .ref h11, .ref h2, .ref h3, .ref h4, .ref h12, .ref h13])), (h2, .inl (Y 1, 1, .inl (jw_l 0 []))), (h3, .inl (Y 1, 1, .inl (jw_l 0 []))), (h4, .inl (Y 1, 1024, .inl (jw_l 0 [])))] := hD
  refine lv_aload_n hx hb dX2_renew_5 rfl (lv_at hl 0 rfl) ?_
  refine va_get (D := D) (ci := 5) (v := .ref h0) (C := RX2) (T := TX2) (N := 10) hx hb hts iw_X2_renew__X2 hown hE.1 hP 1 rfl rfl 0 (by decide) (hts _ mw_X2_renew__2) (fun _ h9 => h9) rfl dX2_renew_6 ?_
  refine va_getN (D := D) (ci := 6) (v := .int 0) (C := RX3) (T := TX3) (N := 11) hx hb hts iw_X2_renew__X3 hown hE.1 hP 0 rfl rfl 1 (by decide) (nf_X2_42 hE) (fun _ h9 => h9) rfl dX2_renew_9 ?_
  refine lv_iconst (v := 1) hx hb dX2_renew_12 (by decide +kernel) ?_
  refine jw_isub (v := (-1)) hx hb dX2_renew_13 (by decide +kernel) ?_
  refine lv_istore_n (lv' := [(1, .int (-1)), (0, .ref h1)]) hx hb dX2_renew_14 rfl hl (by decide) rfl (fun ls hl => ?_)
  refine lv_iload_n hx hb dX2_renew_15 rfl (lv_at hl 0 rfl) ?_
  refine lv_if_lt (tgt := 51) hx hb dX2_renew_16 (by decide) (fun _ => ?_) (fun c9 => absurd (by decide +kernel) c9)
  refine lv_aload_n hx hb dX2_renew_51 rfl (lv_at hl 1 rfl) ?_
  refine va_get (D := D) (ci := 5) (v := .ref h2) (C := RX2) (T := TX2) (N := 10) hx hb hts iw_X2_renew__X2 hown hE.1 hP 1 rfl rfl 5 (by decide) (hts _ mw_X2_renew__5) (fun _ h9 => h9) rfl dX2_renew_52 ?_
  refine jw_alen (v := 1) hx hb hE hP 2 1 rfl rfl (by decide +kernel) dX2_renew_55 ?_
  refine lv_aload_n hx hb dX2_renew_56 rfl (lv_at hl 1 rfl) ?_
  refine va_get (D := D) (ci := 5) (v := .int 1) (C := RX2) (T := TX2) (N := 10) hx hb hts iw_X2_renew__X2 hown hE.1 hP 1 rfl rfl 2 (by decide) (hts _ mw_X2_renew__1) (fun _ h9 => h9) rfl dX2_renew_57 ?_
  refine lv_icmp_ge (tgt := 83) hx hb dX2_renew_60 (by decide) (fun _ => ?_) (fun c9 => absurd (by decide +kernel) c9)
  refine lv_aload_n hx hb dX2_renew_83 rfl (lv_at hl 1 rfl) ?_
  refine va_get (D := D) (ci := 5) (v := .ref h2) (C := RX2) (T := TX2) (N := 10) hx hb hts iw_X2_renew__X2 hown hE.1 hP 1 rfl rfl 5 (by decide) (hts _ mw_X2_renew__5) (fun _ h9 => h9) rfl dX2_renew_84 ?_
  refine lv_iconst (v := 0) hx hb dX2_renew_87 (by decide +kernel) ?_
  refine lv_aload_n hx hb dX2_renew_88 rfl (lv_at hl 1 rfl) ?_
  refine va_get (D := D) (ci := 5) (v := .int 1) (C := RX2) (T := TX2) (N := 10) hx hb hts iw_X2_renew__X2 hown hE.1 hP 1 rfl rfl 2 (by decide) (hts _ mw_X2_renew__1) (fun _ h9 => h9) rfl dX2_renew_89 ?_
  refine lv_iconst (v := 0) hx hb dX2_renew_92 (by decide +kernel) ?_
  refine jw_mv (wc := [(h2, .inl (Y 1, 1, .inl (jw_l 0 [])))]) (cs := 0) (ss := 0) (va_runS (As := [.ref h2, .int 0, .int 1, .int 0]) (rest := []) ⟨hx, hb, hml, hown, hts⟩ (k48_J7_fill_fda19 h2 H.size) (va_cwS 4 hts gX2_renew_J7_fill_fda19 rfl rfl rfl ydS_J7_fill_fda19 ⟨Nat.le_of_ble_eq_true rfl, Nat.le_of_ble_eq_true rfl⟩) (jw_mpreS hP hD hS hA hE [false, false, true] rfl) rfl rfl hl.1 rfl (lv_room (Nat.le_of_ble_eq_true rfl)) dX2_renew_93 ⟨Nat.le_of_ble_eq_true rfl, Nat.le_of_ble_eq_true rfl⟩) hP hD hS hA [false, false, true] rfl rfl rfl (fun w1 H locs hw9 hP hD hS => ?_)
  subst hw9
  have hP : va_P D vwCl [(h0, .inr (6, [.int 2, .int 0, .int 0, .int 0, .int 0, .ref h5, .ref h6, .ref h7, .ref h8, .ref h9, .int 0])), (h1, .inr (5, [.ref h0, .ref h10, .int 1, .int 0, .ref h11, .ref h2, .ref h3, .ref h4, .ref h12, .ref h13])), (h2, .inl (Y 1, 1, .inl (jw_l 0 [0]))), (h3, .inl (Y 1, 1, .inl (jw_l 0 []))), (h4, .inl (Y 1, 1024, .inl (jw_l 0 [])))] H := hP
  have hD : va_D A [(h0, .inr (6, [.int 2, .int 0, .int 0, .int 0, .int 0, .ref h5, .ref h6, .ref h7, .ref h8, .ref h9, .int 0])), (h1, .inr (5, [.ref h0, .ref h10, .int 1, .int 0, .ref h11, .ref h2, .ref h3, .ref h4, .ref h12, .ref h13])), (h2, .inl (Y 1, 1, .inl (jw_l 0 [0]))), (h3, .inl (Y 1, 1, .inl (jw_l 0 []))), (h4, .inl (Y 1, 1024, .inl (jw_l 0 [])))] := hD
  refine lv_aload_n hx hb dX2_renew_96 rfl (lv_at hl 1 rfl) ?_
  refine va_get (D := D) (ci := 5) (v := .ref h0) (C := RX2) (T := TX2) (N := 10) hx hb hts iw_X2_renew__X2 hown hE.1 hP 1 rfl rfl 0 (by decide) (hts _ mw_X2_renew__2) (fun _ h9 => h9) rfl dX2_renew_97 ?_
  refine va_getN (D := D) (ci := 6) (v := .int 0) (C := RX3) (T := TX3) (N := 11) hx hb hts iw_X2_renew__X3 hown hE.1 hP 0 rfl rfl 1 (by decide) (nf_X2_42 hE) (fun _ h9 => h9) rfl dX2_renew_100 ?_
  refine lv_if_le (tgt := 158) hx hb dX2_renew_103 (by decide) (fun _ => ?_) (fun c9 => absurd (by decide +kernel) c9)
  refine lv_aload_n hx hb dX2_renew_158 rfl (lv_at hl 1 rfl) ?_
  refine jw_mv (wc := [(h1, .inr (5, [.ref h0, .ref h10, .int 1, .int 0, .ref h11, .ref h2, .ref h3, .ref h4, .ref h12, .ref h13])), (h2, .inl (Y 1, 1, .inl (jw_l 0 [0]))), (h3, .inl (Y 1, 1, .inl (jw_l 0 [])))]) (cs := 0) (ss := 0) (va_runV (As := []) (rest := []) ⟨hx, hb, hml, hown, hts⟩ (k49_X2_listLawful h1 h2 h3 h0 h10 h11 h4 h12 h13 H.size) (cwV 0 hts gX2_renew_X2_listLawful rfl rfl rfl ydV_X2_listLawful ⟨Nat.le_of_ble_eq_true rfl, Nat.le_of_ble_eq_true rfl⟩) (jw_mpreV (ci := 5) (q0 := 1) hP hD hS hA hE [false, true, true, true] rfl rfl rfl) rfl rfl hl.1 rfl (lv_room (Nat.le_of_ble_eq_true rfl)) dX2_renew_159 ⟨Nat.le_of_ble_eq_true rfl, Nat.le_of_ble_eq_true rfl⟩) hP hD hS hA [false, true, true, true] rfl rfl rfl (fun w1 H locs hw9 hP hD hS => ?_)
  subst hw9
  have hP : va_P D vwCl [(h0, .inr (6, [.int 2, .int 0, .int 0, .int 0, .int 0, .ref h5, .ref h6, .ref h7, .ref h8, .ref h9, .int 0])), (h1, .inr (5, [.ref h0, .ref h10, .int 1, .int 1, .ref h11, .ref h2, .ref h3, .ref h4, .ref h12, .ref h13])), (h2, .inl (Y 1, 1, .inl (jw_l 0 [0]))), (h3, .inl (Y 1, 1, .inl (jw_l 0 [0]))), (h4, .inl (Y 1, 1024, .inl (jw_l 0 [])))] H := hP
  have hD : va_D A [(h0, .inr (6, [.int 2, .int 0, .int 0, .int 0, .int 0, .ref h5, .ref h6, .ref h7, .ref h8, .ref h9, .int 0])), (h1, .inr (5, [.ref h0, .ref h10, .int 1, .int 1, .ref h11, .ref h2, .ref h3, .ref h4, .ref h12, .ref h13])), (h2, .inl (Y 1, 1, .inl (jw_l 0 [0]))), (h3, .inl (Y 1, 1, .inl (jw_l 0 [0]))), (h4, .inl (Y 1, 1024, .inl (jw_l 0 [])))] := hD
  refine lv_aload_n hx hb dX2_renew_162 rfl (lv_at hl 1 rfl) ?_
  refine jw_mv (wc := [(h0, .inr (6, [.int 2, .int 0, .int 0, .int 0, .int 0, .ref h5, .ref h6, .ref h7, .ref h8, .ref h9, .int 0])), (h1, .inr (5, [.ref h0, .ref h10, .int 1, .int 1, .ref h11, .ref h2, .ref h3, .ref h4, .ref h12, .ref h13])), (h2, .inl (Y 1, 1, .inl (jw_l 0 [0]))), (h4, .inl (Y 1, 1024, .inl (jw_l 0 [])))]) (cs := 0) (ss := 0) (va_runV (As := []) (rest := []) ⟨hx, hb, hml, hown, hts⟩ (k51_X2_tellWithin h0 h1 h2 h4 h5 h6 h7 h8 h9 h10 h11 h3 h12 h13 H.size) (cwV 0 hts gX2_renew_X2_tellWithin rfl rfl rfl ydV_X2_tellWithin ⟨Nat.le_of_ble_eq_true rfl, Nat.le_of_ble_eq_true rfl⟩) (jw_mpreV (ci := 5) (q0 := 1) hP hD hS hA hE [true, true, true, false, true] rfl rfl rfl) rfl rfl hl.1 rfl (lv_room (Nat.le_of_ble_eq_true rfl)) dX2_renew_163 ⟨Nat.le_of_ble_eq_true rfl, Nat.le_of_ble_eq_true rfl⟩) hP hD hS hA [true, true, true, false, true] rfl rfl rfl (fun w1 H locs hw9 hP hD hS => ?_)
  subst hw9
  have hP : va_P D vwCl [(h0, .inr (6, [.int 2, .int 0, .int 0, .int 0, .int 0, .ref h5, .ref h6, .ref h7, .ref h8, .ref h9, .int 0])), (h1, .inr (5, [.ref h0, .ref h10, .int 1, .int 1, .ref h11, .ref h2, .ref h3, .ref h4, .ref h12, .ref h13])), (h2, .inl (Y 1, 1, .inl (jw_l 0 [0]))), (h3, .inl (Y 1, 1, .inl (jw_l 0 [0]))), (h4, .inl (Y 1, 1024, .inl (jw_l 0 [1])))] H := hP
  have hD : va_D A [(h0, .inr (6, [.int 2, .int 0, .int 0, .int 0, .int 0, .ref h5, .ref h6, .ref h7, .ref h8, .ref h9, .int 0])), (h1, .inr (5, [.ref h0, .ref h10, .int 1, .int 1, .ref h11, .ref h2, .ref h3, .ref h4, .ref h12, .ref h13])), (h2, .inl (Y 1, 1, .inl (jw_l 0 [0]))), (h3, .inl (Y 1, 1, .inl (jw_l 0 [0]))), (h4, .inl (Y 1, 1024, .inl (jw_l 0 [1])))] := hD
  refine W.widen (k := 0) (n := 0) (Nat.le_of_ble_eq_true rfl) (Nat.le_of_ble_eq_true rfl) ?_
  exact jw_vret hx hb hr hlocks rfl hP hD hS dX2_renew_166
set_option maxHeartbeats 4000000 in
set_option maxRecDepth 100000 in
theorem k53_X8_empty {l : Launch} {D : va_G} {Y : Nat → ClassId} {tt : Nat → Nat} (h0 h1 h2 h3 h4 h5 h6 h7 : Nat) (sz : Nat) : Met l yX8_empty wsX8_empty ({ frames := 1, cells := 0, slots := 0, locals := 23 }) (jw_Pc D Y tt [.ref h0] [(h0, .inr (11, [.ref h2, .ref h3, .ref h4, .ref h5, .ref h1, .ref h6, .int 0, .ref h7])), (h1, .inl (Y 1, 12, .inl (jw_l 0 [])))] sz) (jw_Qv D (fun w => w = [(h0, .inr (11, [.ref h2, .ref h3, .ref h4, .ref h5, .ref h1, .ref h6, .int 0, .ref h7])), (h1, .inl (Y 1, 12, .inl (jw_l (-1) [])))]) (va_A [(h0, .inr (11, [.ref h2, .ref h3, .ref h4, .ref h5, .ref h1, .ref h6, .int 0, .ref h7])), (h1, .inl (Y 1, 12, .inl (jw_l 0 [])))] sz)) 0 0 (va_A [(h0, .inr (11, [.ref h2, .ref h3, .ref h4, .ref h5, .ref h1, .ref h6, .int 0, .ref h7])), (h1, .inl (Y 1, 12, .inl (jw_l 0 [])))] sz) := by
  refine jw_met (fun A => jw_Qv D (fun w => w = [(h0, .inr (11, [.ref h2, .ref h3, .ref h4, .ref h5, .ref h1, .ref h6, .int 0, .ref h7])), (h1, .inl (Y 1, 12, .inl (jw_l (-1) [])))]) A) (cc := cX8_empty) (maxL := 1) (ret := none) pn_X8_empty rfl rfl ?_
  intro p e s m below meth c A H locs ls hx hb hml hr hts hown hlocks hin hP hD hA hS hE hl
  have hown : s.vm.findClass RX8 = some m.cls := hown
  have hl : lv_has ls 1 [(0, .ref h0)] := hl
  refine lv_aload_n hx hb dX8_empty_0 rfl (lv_at hl 0 rfl) ?_
  refine lv_iconst (v := 0) hx hb dX8_empty_1 (by decide +kernel) ?_
  refine va_put (D := D) (ci := 11) (v := .int 0) (C := RX8) (T := TX8) (N := 8) hx hb hts iw_X8_empty__X8 tyX8 tyX8_ok nmX8 hown hE.1 hP hD hS 0 rfl rfl 6 (by decide) (hts _ mw_X8_empty__1) (fun _ h9 => h9) rfl (tyX8_ok 6 (by decide)) rfl rfl (Nat.le_of_ble_eq_true rfl) dX8_empty_2 (fun H locs hP hD hS => ?_)
  have hP : va_P D vwCl [(h0, .inr (11, [.ref h2, .ref h3, .ref h4, .ref h5, .ref h1, .ref h6, .int 0, .ref h7])), (h1, .inl (Y 1, 12, .inl (jw_l 0 [])))] H := hP
  have hD : va_D A [(h0, .inr (11, [.ref h2, .ref h3, .ref h4, .ref h5, .ref h1, .ref h6, .int 0, .ref h7])), (h1, .inl (Y 1, 12, .inl (jw_l 0 [])))] := hD
  refine lv_aload_n hx hb dX8_empty_5 rfl (lv_at hl 0 rfl) ?_
  refine va_get (D := D) (ci := 11) (v := .ref h1) (C := RX8) (T := TX8) (N := 8) hx hb hts iw_X8_empty__X8 hown hE.1 hP 0 rfl rfl 4 (by decide) (hts _ mw_X8_empty__2) (fun _ h9 => h9) rfl dX8_empty_6 ?_
  refine lv_iconst (v := (-1)) hx hb dX8_empty_9 (by decide +kernel) ?_
  refine jw_mv (wc := [(h1, .inl (Y 1, 12, .inl (jw_l 0 [])))]) (cs := 0) (ss := 0) (va_runS (As := [.ref h1, .int (-1)]) (rest := []) ⟨hx, hb, hml, hown, hts⟩ (jw_fill (n := 12) (h0 := h1) (v := (-1)) (sz := H.size) (by decide)) (va_cwS 2 hts gX8_empty_J7_fill_53178 rfl rfl rfl ydS_J7_fill_53178 ⟨Nat.le_of_ble_eq_true rfl, Nat.le_of_ble_eq_true rfl⟩) (jw_mpreS hP hD hS hA hE [false, true] rfl) rfl rfl hl.1 rfl (lv_room (Nat.le_of_ble_eq_true rfl)) dX8_empty_10 ⟨Nat.le_of_ble_eq_true rfl, Nat.le_of_ble_eq_true rfl⟩) hP hD hS hA [false, true] rfl rfl rfl (fun w1 H locs hw9 hP hD hS => ?_)
  subst hw9
  have hP : va_P D vwCl [(h0, .inr (11, [.ref h2, .ref h3, .ref h4, .ref h5, .ref h1, .ref h6, .int 0, .ref h7])), (h1, .inl (Y 1, 12, .inl (jw_l (-1) [])))] H := hP
  have hD : va_D A [(h0, .inr (11, [.ref h2, .ref h3, .ref h4, .ref h5, .ref h1, .ref h6, .int 0, .ref h7])), (h1, .inl (Y 1, 12, .inl (jw_l (-1) [])))] := hD
  refine W.widen (k := 0) (n := 0) (Nat.le_of_ble_eq_true rfl) (Nat.le_of_ble_eq_true rfl) ?_
  exact jw_vret hx hb hr hlocks rfl hP hD hS dX8_empty_13
set_option maxHeartbeats 4000000 in
set_option maxRecDepth 100000 in
theorem k54_X8_putInTurn {l : Launch} {D : va_G} {Y : Nat → ClassId} {tt : Nat → Nat} (h0 h1 h2 h3 h4 h5 h6 h7 : Nat) (sz : Nat) : Met l yX8_putInTurn wsX8_putInTurn ({ frames := 2, cells := 0, slots := 0, locals := 48 }) (jw_Pc D Y tt [.ref h0] [(h0, .inr (11, [.ref h4, .ref h5, .ref h1, .ref h2, .ref h3, .ref h6, .int 0, .ref h7])), (h1, .inl (Y 1, 4, .inl (jw_l 0 []))), (h2, .inl (Y 1, 4, .inl (jw_l 0 []))), (h3, .inl (Y 1, 12, .inl (jw_l 0 [])))] sz) (jw_Qv D (fun w => w = [(h0, .inr (11, [.ref h4, .ref h5, .ref h1, .ref h2, .ref h3, .ref h6, .int 0, .ref h7])), (h1, .inl (Y 1, 4, .inl (jw_l 0 [0, 1, 2, 3]))), (h2, .inl (Y 1, 4, .inl (jw_l 0 [0, 1, 2, 3]))), (h3, .inl (Y 1, 12, .inl (jw_l (-1) [])))]) (va_A [(h0, .inr (11, [.ref h4, .ref h5, .ref h1, .ref h2, .ref h3, .ref h6, .int 0, .ref h7])), (h1, .inl (Y 1, 4, .inl (jw_l 0 []))), (h2, .inl (Y 1, 4, .inl (jw_l 0 []))), (h3, .inl (Y 1, 12, .inl (jw_l 0 [])))] sz)) 0 0 (va_A [(h0, .inr (11, [.ref h4, .ref h5, .ref h1, .ref h2, .ref h3, .ref h6, .int 0, .ref h7])), (h1, .inl (Y 1, 4, .inl (jw_l 0 []))), (h2, .inl (Y 1, 4, .inl (jw_l 0 []))), (h3, .inl (Y 1, 12, .inl (jw_l 0 [])))] sz) := by
  refine jw_met (fun A => jw_Qv D (fun w => w = [(h0, .inr (11, [.ref h4, .ref h5, .ref h1, .ref h2, .ref h3, .ref h6, .int 0, .ref h7])), (h1, .inl (Y 1, 4, .inl (jw_l 0 [0, 1, 2, 3]))), (h2, .inl (Y 1, 4, .inl (jw_l 0 [0, 1, 2, 3]))), (h3, .inl (Y 1, 12, .inl (jw_l (-1) [])))]) A) (cc := cX8_putInTurn) (maxL := 1) (ret := none) pn_X8_putInTurn rfl rfl ?_
  intro p e s m below meth c A H locs ls hx hb hml hr hts hown hlocks hin hP hD hA hS hE hl
  have hown : s.vm.findClass RX8 = some m.cls := hown
  have hl : lv_has ls 1 [(0, .ref h0)] := hl
  refine va_getsN hx hb hE.2.2.2.2.1.1 hS hown (nf_X8_35 hE) (fun _ h9 => h9) dX8_putInTurn_0 ?_
  refine lv_iconst (v := 0) hx hb dX8_putInTurn_3 (by decide +kernel) ?_
  refine lv_aload_n hx hb dX8_putInTurn_4 rfl (lv_at hl 0 rfl) ?_
  refine va_get (D := D) (ci := 11) (v := .ref h1) (C := RX8) (T := TX8) (N := 8) hx hb hts iw_X8_putInTurn__X8 hown hE.1 hP 0 rfl rfl 2 (by decide) (hts _ mw_X8_putInTurn__1) (fun _ h9 => h9) rfl dX8_putInTurn_5 ?_
  refine lv_iconst (v := 0) hx hb dX8_putInTurn_8 (by decide +kernel) ?_
  refine lv_iconst (v := 4) hx hb dX8_putInTurn_9 (by decide +kernel) ?_
  refine jw_copyt (ws' := [(h0, .inr (11, [.ref h4, .ref h5, .ref h1, .ref h2, .ref h3, .ref h6, .int 0, .ref h7])), (h1, .inl (Y 1, 4, .inl (jw_l 0 [0, 1, 2, 3]))), (h2, .inl (Y 1, 4, .inl (jw_l 0 []))), (h3, .inl (Y 1, 12, .inl (jw_l 0 [])))]) hx hb (by rw [hml]; exact hl.1.symm) hown (hts _ mw_X8_putInTurn__2) (hts _ mw_X8_putInTurn__3) (hts _ mw_X8_putInTurn__4) (hts _ mw_X8_putInTurn__5) hE hP hD hS hE.2.2.2.2.1 1 [0, 1, 2, 3] rfl 0 0 4 (by decide +kernel) (by decide +kernel) (by decide +kernel) rfl rfl (by decide +kernel) rfl (Nat.le_of_ble_eq_true rfl) (by decide +kernel) dX8_putInTurn_10 (fun H locs hP hD hS => ?_)
  refine va_getsN hx hb hE.2.2.2.2.1.1 hS hown (nf_X8_35 hE) (fun _ h9 => h9) dX8_putInTurn_13 ?_
  refine lv_iconst (v := 0) hx hb dX8_putInTurn_16 (by decide +kernel) ?_
  refine lv_aload_n hx hb dX8_putInTurn_17 rfl (lv_at hl 0 rfl) ?_
  refine va_get (D := D) (ci := 11) (v := .ref h2) (C := RX8) (T := TX8) (N := 8) hx hb hts iw_X8_putInTurn__X8 hown hE.1 hP 0 rfl rfl 3 (by decide) (hts _ mw_X8_putInTurn__6) (fun _ h9 => h9) rfl dX8_putInTurn_18 ?_
  refine lv_iconst (v := 0) hx hb dX8_putInTurn_21 (by decide +kernel) ?_
  refine lv_iconst (v := 4) hx hb dX8_putInTurn_22 (by decide +kernel) ?_
  refine jw_copyt (ws' := [(h0, .inr (11, [.ref h4, .ref h5, .ref h1, .ref h2, .ref h3, .ref h6, .int 0, .ref h7])), (h1, .inl (Y 1, 4, .inl (jw_l 0 [0, 1, 2, 3]))), (h2, .inl (Y 1, 4, .inl (jw_l 0 [0, 1, 2, 3]))), (h3, .inl (Y 1, 12, .inl (jw_l 0 [])))]) hx hb (by rw [hml]; exact hl.1.symm) hown (hts _ mw_X8_putInTurn__2) (hts _ mw_X8_putInTurn__3) (hts _ mw_X8_putInTurn__4) (hts _ mw_X8_putInTurn__5) hE hP hD hS hE.2.2.2.2.1 2 [0, 1, 2, 3] rfl 0 0 4 (by decide +kernel) (by decide +kernel) (by decide +kernel) rfl rfl (by decide +kernel) rfl (Nat.le_of_ble_eq_true rfl) (by decide +kernel) dX8_putInTurn_23 (fun H locs hP hD hS => ?_)
  refine lv_aload_n hx hb dX8_putInTurn_26 rfl (lv_at hl 0 rfl) ?_
  refine jw_mv (wc := [(h0, .inr (11, [.ref h4, .ref h5, .ref h1, .ref h2, .ref h3, .ref h6, .int 0, .ref h7])), (h3, .inl (Y 1, 12, .inl (jw_l 0 [])))]) (cs := 0) (ss := 0) (va_runV (As := []) (rest := []) ⟨hx, hb, hml, hown, hts⟩ (k53_X8_empty h0 h3 h4 h5 h1 h2 h6 h7 H.size) (cwV 0 hts gX8_putInTurn_X8_empty rfl rfl rfl ydV_X8_empty ⟨Nat.le_of_ble_eq_true rfl, Nat.le_of_ble_eq_true rfl⟩) (jw_mpreV (ci := 11) (q0 := 0) hP hD hS hA hE [true, false, false, true] rfl rfl rfl) rfl rfl hl.1 rfl (lv_room (Nat.le_of_ble_eq_true rfl)) dX8_putInTurn_27 ⟨Nat.le_of_ble_eq_true rfl, Nat.le_of_ble_eq_true rfl⟩) hP hD hS hA [true, false, false, true] rfl rfl rfl (fun w1 H locs hw9 hP hD hS => ?_)
  subst hw9
  have hP : va_P D vwCl [(h0, .inr (11, [.ref h4, .ref h5, .ref h1, .ref h2, .ref h3, .ref h6, .int 0, .ref h7])), (h1, .inl (Y 1, 4, .inl (jw_l 0 [0, 1, 2, 3]))), (h2, .inl (Y 1, 4, .inl (jw_l 0 [0, 1, 2, 3]))), (h3, .inl (Y 1, 12, .inl (jw_l (-1) [])))] H := hP
  have hD : va_D A [(h0, .inr (11, [.ref h4, .ref h5, .ref h1, .ref h2, .ref h3, .ref h6, .int 0, .ref h7])), (h1, .inl (Y 1, 4, .inl (jw_l 0 [0, 1, 2, 3]))), (h2, .inl (Y 1, 4, .inl (jw_l 0 [0, 1, 2, 3]))), (h3, .inl (Y 1, 12, .inl (jw_l (-1) [])))] := hD
  refine W.widen (k := 0) (n := 0) (Nat.le_of_ble_eq_true rfl) (Nat.le_of_ble_eq_true rfl) ?_
  exact jw_vret hx hb hr hlocks rfl hP hD hS dX8_putInTurn_30
set_option maxHeartbeats 4000000 in
set_option maxRecDepth 100000 in
theorem k55_X9_forget {l : Launch} {D : va_G} {Y : Nat → ClassId} {tt : Nat → Nat} (h0 h1 h2 h3 h4 : Nat) (sz : Nat) : Met l yX9_forget wsX9_forget ({ frames := 0, cells := 0, slots := 0, locals := 0 }) (jw_Pc D Y tt [.ref h0] [(h0, .inr (12, [.ref h1, .ref h2, .ref h3, .ref h4, .int (-1), .int 0, .int 0, .int 0, .int 0, .int 0]))] sz) (jw_Qv D (fun w => w = [(h0, .inr (12, [.ref h1, .ref h2, .ref h3, .ref h4, .int (-1), .int 0, .int 0, .int 0, .int 0, .int 0]))]) (va_A [(h0, .inr (12, [.ref h1, .ref h2, .ref h3, .ref h4, .int (-1), .int 0, .int 0, .int 0, .int 0, .int 0]))] sz)) 0 0 (va_A [(h0, .inr (12, [.ref h1, .ref h2, .ref h3, .ref h4, .int (-1), .int 0, .int 0, .int 0, .int 0, .int 0]))] sz) := by
  refine jw_met (fun A => jw_Qv D (fun w => w = [(h0, .inr (12, [.ref h1, .ref h2, .ref h3, .ref h4, .int (-1), .int 0, .int 0, .int 0, .int 0, .int 0]))]) A) (cc := cX9_forget) (maxL := 1) (ret := none) pn_X9_forget rfl rfl ?_
  intro p e s m below meth c A H locs ls hx hb hml hr hts hown hlocks hin hP hD hA hS hE hl
  have hown : s.vm.findClass RX9 = some m.cls := hown
  have hl : lv_has ls 1 [(0, .ref h0)] := hl
  refine lv_aload_n hx hb dX9_forget_0 rfl (lv_at hl 0 rfl) ?_
  refine lv_iconst (v := (-1)) hx hb dX9_forget_1 (by decide +kernel) ?_
  refine va_put (D := D) (ci := 12) (v := .int (-1)) (C := RX9) (T := TX9) (N := 10) hx hb hts iw_X9_forget__X9 tyX9 tyX9_ok nmX9 hown hE.1 hP hD hS 0 rfl rfl 4 (by decide) (hts _ mw_X9_forget__1) (fun _ h9 => h9) rfl (tyX9_ok 4 (by decide)) rfl rfl (Nat.le_of_ble_eq_true rfl) dX9_forget_2 (fun H locs hP hD hS => ?_)
  have hP : va_P D vwCl [(h0, .inr (12, [.ref h1, .ref h2, .ref h3, .ref h4, .int (-1), .int 0, .int 0, .int 0, .int 0, .int 0]))] H := hP
  have hD : va_D A [(h0, .inr (12, [.ref h1, .ref h2, .ref h3, .ref h4, .int (-1), .int 0, .int 0, .int 0, .int 0, .int 0]))] := hD
  refine lv_aload_n hx hb dX9_forget_5 rfl (lv_at hl 0 rfl) ?_
  refine lv_iconst (v := 0) hx hb dX9_forget_6 (by decide +kernel) ?_
  refine va_put (D := D) (ci := 12) (v := .int 0) (C := RX9) (T := TX9) (N := 10) hx hb hts iw_X9_forget__X9 tyX9 tyX9_ok nmX9 hown hE.1 hP hD hS 0 rfl rfl 5 (by decide) (hts _ mw_X9_forget__2) (fun _ h9 => h9) rfl (tyX9_ok 5 (by decide)) rfl rfl (Nat.le_of_ble_eq_true rfl) dX9_forget_7 (fun H locs hP hD hS => ?_)
  have hP : va_P D vwCl [(h0, .inr (12, [.ref h1, .ref h2, .ref h3, .ref h4, .int (-1), .int 0, .int 0, .int 0, .int 0, .int 0]))] H := hP
  have hD : va_D A [(h0, .inr (12, [.ref h1, .ref h2, .ref h3, .ref h4, .int (-1), .int 0, .int 0, .int 0, .int 0, .int 0]))] := hD
  refine W.widen (k := 0) (n := 0) (Nat.le_of_ble_eq_true rfl) (Nat.le_of_ble_eq_true rfl) ?_
  exact jw_vret hx hb hr hlocks rfl hP hD hS dX9_forget_10
set_option maxHeartbeats 4000000 in
set_option maxRecDepth 100000 in
theorem k56_X11_stageChanged {l : Launch} {D : va_G} {Y : Nat → ClassId} {tt : Nat → Nat} (h0 h1 h2 h3 h4 h5 h6 h7 h8 h9 h10 h11 h12 h13 h14 h15 h16 h17 h18 h19 h20 h21 h22 h23 h24 : Nat) (sz : Nat) : Met l yX11_stageChanged wsX11_stageChanged ({ frames := 0, cells := 0, slots := 0, locals := 0 }) (jw_Pc D Y tt [.ref h0] [(h0, .inr (14, [.ref h5, .int 0, .ref h6, .ref h7, .ref h8, .ref h9, .ref h10, .ref h11, .ref h12, .ref h13, .ref h14, .ref h15, .ref h1, .ref h16, .ref h17, .ref h18, .int (-3), .int (-3)])), (h1, .inl (Y 4, 3, .inr (.inr (.inr (.inr (jw_R [some h2, some h3, some h4])))))), (h2, .inr (4, [.ref h19, .ref h20, .long 0, .int 0])), (h3, .inr (4, [.ref h21, .ref h22, .long 0, .int 0])), (h4, .inr (4, [.ref h23, .ref h24, .long 0, .int 0]))] sz) (jw_Qv D (fun w => w = [(h0, .inr (14, [.ref h5, .int 0, .ref h6, .ref h7, .ref h8, .ref h9, .ref h10, .ref h11, .ref h12, .ref h13, .ref h14, .ref h15, .ref h1, .ref h16, .ref h17, .ref h18, .int (-3), .int (-3)])), (h1, .inl (Y 4, 3, .inr (.inr (.inr (.inr (jw_R [some h2, some h3, some h4])))))), (h2, .inr (4, [.ref h19, .ref h20, .long 0, .int 0])), (h3, .inr (4, [.ref h21, .ref h22, .long 0, .int 0])), (h4, .inr (4, [.ref h23, .ref h24, .long 0, .int 0]))]) (va_A [(h0, .inr (14, [.ref h5, .int 0, .ref h6, .ref h7, .ref h8, .ref h9, .ref h10, .ref h11, .ref h12, .ref h13, .ref h14, .ref h15, .ref h1, .ref h16, .ref h17, .ref h18, .int (-3), .int (-3)])), (h1, .inl (Y 4, 3, .inr (.inr (.inr (.inr (jw_R [some h2, some h3, some h4])))))), (h2, .inr (4, [.ref h19, .ref h20, .long 0, .int 0])), (h3, .inr (4, [.ref h21, .ref h22, .long 0, .int 0])), (h4, .inr (4, [.ref h23, .ref h24, .long 0, .int 0]))] sz)) 0 0 (va_A [(h0, .inr (14, [.ref h5, .int 0, .ref h6, .ref h7, .ref h8, .ref h9, .ref h10, .ref h11, .ref h12, .ref h13, .ref h14, .ref h15, .ref h1, .ref h16, .ref h17, .ref h18, .int (-3), .int (-3)])), (h1, .inl (Y 4, 3, .inr (.inr (.inr (.inr (jw_R [some h2, some h3, some h4])))))), (h2, .inr (4, [.ref h19, .ref h20, .long 0, .int 0])), (h3, .inr (4, [.ref h21, .ref h22, .long 0, .int 0])), (h4, .inr (4, [.ref h23, .ref h24, .long 0, .int 0]))] sz) := by
  refine jw_met (fun A => jw_Qv D (fun w => w = [(h0, .inr (14, [.ref h5, .int 0, .ref h6, .ref h7, .ref h8, .ref h9, .ref h10, .ref h11, .ref h12, .ref h13, .ref h14, .ref h15, .ref h1, .ref h16, .ref h17, .ref h18, .int (-3), .int (-3)])), (h1, .inl (Y 4, 3, .inr (.inr (.inr (.inr (jw_R [some h2, some h3, some h4])))))), (h2, .inr (4, [.ref h19, .ref h20, .long 0, .int 0])), (h3, .inr (4, [.ref h21, .ref h22, .long 0, .int 0])), (h4, .inr (4, [.ref h23, .ref h24, .long 0, .int 0]))]) A) (cc := cX11_stageChanged) (maxL := 2) (ret := none) pn_X11_stageChanged rfl rfl ?_
  intro p e s m below meth c A H locs ls hx hb hml hr hts hown hlocks hin hP hD hA hS hE hl
  have hown : s.vm.findClass RX11 = some m.cls := hown
  have hl : lv_has ls 2 [(0, .ref h0)] := hl
  refine lv_iconst (v := 0) hx hb dX11_stageChanged_0 (by decide +kernel) ?_
  refine lv_istore_n (lv' := [(1, .int 0), (0, .ref h0)]) hx hb dX11_stageChanged_1 rfl hl (by decide) rfl (fun ls hl => ?_)
  refine lv_iload_n hx hb dX11_stageChanged_2 rfl (lv_at hl 0 rfl) ?_
  refine lv_iconst (v := 3) hx hb dX11_stageChanged_3 (by decide +kernel) ?_
  refine lv_icmp_ge (tgt := 23) hx hb dX11_stageChanged_4 (by decide) (fun c9 => absurd c9 (by decide +kernel)) (fun _ => ?_)
  refine lv_aload_n hx hb dX11_stageChanged_7 rfl (lv_at hl 1 rfl) ?_
  refine va_get (D := D) (ci := 14) (v := .ref h1) (C := RX11) (T := TX11) (N := 18) hx hb hts iw_X11_stageChanged__X11 hown hE.1 hP 0 rfl rfl 12 (by decide) (hts _ mw_X11_stageChanged__1) (fun _ h9 => h9) rfl dX11_stageChanged_8 ?_
  refine lv_iload_n hx hb dX11_stageChanged_11 rfl (lv_at hl 0 rfl) ?_
  refine jw_aald (v := h2) hx hb hE hP 1 0 rfl (by decide +kernel) rfl dX11_stageChanged_12 ?_
  refine lv_iconst (v := 0) hx hb dX11_stageChanged_13 (by decide +kernel) ?_
  refine va_putN (D := D) (ci := 4) (v := .int 0) (C := RX1) (T := TX1) (N := 4) hx hb hts iw_X11_stageChanged__X1 tyX1 tyX1_ok nmX1 hown hE.1 hP hD hS 2 rfl rfl 3 (by decide) (nf_X11_149 hE) (fun _ h9 => h9) rfl (tyX1_ok 3 (by decide)) rfl rfl (Nat.le_of_ble_eq_true rfl) dX11_stageChanged_14 (fun H locs hP hD hS => ?_)
  have hP : va_P D vwCl [(h0, .inr (14, [.ref h5, .int 0, .ref h6, .ref h7, .ref h8, .ref h9, .ref h10, .ref h11, .ref h12, .ref h13, .ref h14, .ref h15, .ref h1, .ref h16, .ref h17, .ref h18, .int (-3), .int (-3)])), (h1, .inl (Y 4, 3, .inr (.inr (.inr (.inr (jw_R [some h2, some h3, some h4])))))), (h2, .inr (4, [.ref h19, .ref h20, .long 0, .int 0])), (h3, .inr (4, [.ref h21, .ref h22, .long 0, .int 0])), (h4, .inr (4, [.ref h23, .ref h24, .long 0, .int 0]))] H := hP
  have hD : va_D A [(h0, .inr (14, [.ref h5, .int 0, .ref h6, .ref h7, .ref h8, .ref h9, .ref h10, .ref h11, .ref h12, .ref h13, .ref h14, .ref h15, .ref h1, .ref h16, .ref h17, .ref h18, .int (-3), .int (-3)])), (h1, .inl (Y 4, 3, .inr (.inr (.inr (.inr (jw_R [some h2, some h3, some h4])))))), (h2, .inr (4, [.ref h19, .ref h20, .long 0, .int 0])), (h3, .inr (4, [.ref h21, .ref h22, .long 0, .int 0])), (h4, .inr (4, [.ref h23, .ref h24, .long 0, .int 0]))] := hD
  refine lv_iinc (v := 1) (lv' := [(1, .int 1), (0, .ref h0)]) hx hb dX11_stageChanged_17 hl (k := 0) rfl (by decide +kernel) (by decide) rfl (fun ls hl => ?_)
  refine lv_goto (tgt := 2) hx hb dX11_stageChanged_20 (by decide) ?_
  refine lv_iload_n hx hb dX11_stageChanged_2 rfl (lv_at hl 0 rfl) ?_
  refine lv_iconst (v := 3) hx hb dX11_stageChanged_3 (by decide +kernel) ?_
  refine lv_icmp_ge (tgt := 23) hx hb dX11_stageChanged_4 (by decide) (fun c9 => absurd c9 (by decide +kernel)) (fun _ => ?_)
  refine lv_aload_n hx hb dX11_stageChanged_7 rfl (lv_at hl 1 rfl) ?_
  refine va_get (D := D) (ci := 14) (v := .ref h1) (C := RX11) (T := TX11) (N := 18) hx hb hts iw_X11_stageChanged__X11 hown hE.1 hP 0 rfl rfl 12 (by decide) (hts _ mw_X11_stageChanged__1) (fun _ h9 => h9) rfl dX11_stageChanged_8 ?_
  refine lv_iload_n hx hb dX11_stageChanged_11 rfl (lv_at hl 0 rfl) ?_
  refine jw_aald (v := h3) hx hb hE hP 1 1 rfl (by decide +kernel) rfl dX11_stageChanged_12 ?_
  refine lv_iconst (v := 0) hx hb dX11_stageChanged_13 (by decide +kernel) ?_
  refine va_putN (D := D) (ci := 4) (v := .int 0) (C := RX1) (T := TX1) (N := 4) hx hb hts iw_X11_stageChanged__X1 tyX1 tyX1_ok nmX1 hown hE.1 hP hD hS 3 rfl rfl 3 (by decide) (nf_X11_149 hE) (fun _ h9 => h9) rfl (tyX1_ok 3 (by decide)) rfl rfl (Nat.le_of_ble_eq_true rfl) dX11_stageChanged_14 (fun H locs hP hD hS => ?_)
  have hP : va_P D vwCl [(h0, .inr (14, [.ref h5, .int 0, .ref h6, .ref h7, .ref h8, .ref h9, .ref h10, .ref h11, .ref h12, .ref h13, .ref h14, .ref h15, .ref h1, .ref h16, .ref h17, .ref h18, .int (-3), .int (-3)])), (h1, .inl (Y 4, 3, .inr (.inr (.inr (.inr (jw_R [some h2, some h3, some h4])))))), (h2, .inr (4, [.ref h19, .ref h20, .long 0, .int 0])), (h3, .inr (4, [.ref h21, .ref h22, .long 0, .int 0])), (h4, .inr (4, [.ref h23, .ref h24, .long 0, .int 0]))] H := hP
  have hD : va_D A [(h0, .inr (14, [.ref h5, .int 0, .ref h6, .ref h7, .ref h8, .ref h9, .ref h10, .ref h11, .ref h12, .ref h13, .ref h14, .ref h15, .ref h1, .ref h16, .ref h17, .ref h18, .int (-3), .int (-3)])), (h1, .inl (Y 4, 3, .inr (.inr (.inr (.inr (jw_R [some h2, some h3, some h4])))))), (h2, .inr (4, [.ref h19, .ref h20, .long 0, .int 0])), (h3, .inr (4, [.ref h21, .ref h22, .long 0, .int 0])), (h4, .inr (4, [.ref h23, .ref h24, .long 0, .int 0]))] := hD
  refine lv_iinc (v := 2) (lv' := [(1, .int 2), (0, .ref h0)]) hx hb dX11_stageChanged_17 hl (k := 0) rfl (by decide +kernel) (by decide) rfl (fun ls hl => ?_)
  refine lv_goto (tgt := 2) hx hb dX11_stageChanged_20 (by decide) ?_
  refine lv_iload_n hx hb dX11_stageChanged_2 rfl (lv_at hl 0 rfl) ?_
  refine lv_iconst (v := 3) hx hb dX11_stageChanged_3 (by decide +kernel) ?_
  refine lv_icmp_ge (tgt := 23) hx hb dX11_stageChanged_4 (by decide) (fun c9 => absurd c9 (by decide +kernel)) (fun _ => ?_)
  refine lv_aload_n hx hb dX11_stageChanged_7 rfl (lv_at hl 1 rfl) ?_
  refine va_get (D := D) (ci := 14) (v := .ref h1) (C := RX11) (T := TX11) (N := 18) hx hb hts iw_X11_stageChanged__X11 hown hE.1 hP 0 rfl rfl 12 (by decide) (hts _ mw_X11_stageChanged__1) (fun _ h9 => h9) rfl dX11_stageChanged_8 ?_
  refine lv_iload_n hx hb dX11_stageChanged_11 rfl (lv_at hl 0 rfl) ?_
  refine jw_aald (v := h4) hx hb hE hP 1 2 rfl (by decide +kernel) rfl dX11_stageChanged_12 ?_
  refine lv_iconst (v := 0) hx hb dX11_stageChanged_13 (by decide +kernel) ?_
  refine va_putN (D := D) (ci := 4) (v := .int 0) (C := RX1) (T := TX1) (N := 4) hx hb hts iw_X11_stageChanged__X1 tyX1 tyX1_ok nmX1 hown hE.1 hP hD hS 4 rfl rfl 3 (by decide) (nf_X11_149 hE) (fun _ h9 => h9) rfl (tyX1_ok 3 (by decide)) rfl rfl (Nat.le_of_ble_eq_true rfl) dX11_stageChanged_14 (fun H locs hP hD hS => ?_)
  have hP : va_P D vwCl [(h0, .inr (14, [.ref h5, .int 0, .ref h6, .ref h7, .ref h8, .ref h9, .ref h10, .ref h11, .ref h12, .ref h13, .ref h14, .ref h15, .ref h1, .ref h16, .ref h17, .ref h18, .int (-3), .int (-3)])), (h1, .inl (Y 4, 3, .inr (.inr (.inr (.inr (jw_R [some h2, some h3, some h4])))))), (h2, .inr (4, [.ref h19, .ref h20, .long 0, .int 0])), (h3, .inr (4, [.ref h21, .ref h22, .long 0, .int 0])), (h4, .inr (4, [.ref h23, .ref h24, .long 0, .int 0]))] H := hP
  have hD : va_D A [(h0, .inr (14, [.ref h5, .int 0, .ref h6, .ref h7, .ref h8, .ref h9, .ref h10, .ref h11, .ref h12, .ref h13, .ref h14, .ref h15, .ref h1, .ref h16, .ref h17, .ref h18, .int (-3), .int (-3)])), (h1, .inl (Y 4, 3, .inr (.inr (.inr (.inr (jw_R [some h2, some h3, some h4])))))), (h2, .inr (4, [.ref h19, .ref h20, .long 0, .int 0])), (h3, .inr (4, [.ref h21, .ref h22, .long 0, .int 0])), (h4, .inr (4, [.ref h23, .ref h24, .long 0, .int 0]))] := hD
  refine lv_iinc (v := 3) (lv' := [(1, .int 3), (0, .ref h0)]) hx hb dX11_stageChanged_17 hl (k := 0) rfl (by decide +kernel) (by decide) rfl (fun ls hl => ?_)
  refine lv_goto (tgt := 2) hx hb dX11_stageChanged_20 (by decide) ?_
  refine lv_iload_n hx hb dX11_stageChanged_2 rfl (lv_at hl 0 rfl) ?_
  refine lv_iconst (v := 3) hx hb dX11_stageChanged_3 (by decide +kernel) ?_
  refine lv_icmp_ge (tgt := 23) hx hb dX11_stageChanged_4 (by decide) (fun _ => ?_) (fun c9 => absurd (by decide +kernel) c9)
  refine W.widen (k := 0) (n := 0) (Nat.le_of_ble_eq_true rfl) (Nat.le_of_ble_eq_true rfl) ?_
  exact jw_vret hx hb hr hlocks rfl hP hD hS dX11_stageChanged_23
set_option maxHeartbeats 4000000 in
set_option maxRecDepth 100000 in
theorem k57_X11_startChanged {l : Launch} {D : va_G} {Y : Nat → ClassId} {tt : Nat → Nat} (h0 h1 h2 h3 h4 h5 h6 h7 h8 h9 h10 h11 h12 h13 h14 h15 h16 h17 h18 h19 h20 h21 h22 h23 h24 h25 h26 h27 h28 h29 h30 h31 : Nat) (sz : Nat) : Met l yX11_startChanged wsX11_startChanged ({ frames := 1, cells := 0, slots := 0, locals := 21 }) (jw_Pc D Y tt [.ref h0] [(h0, .inr (14, [.ref h8, .int 0, .ref h9, .ref h10, .ref h11, .ref h12, .ref h13, .ref h14, .ref h15, .ref h16, .ref h17, .ref h1, .ref h2, .ref h18, .ref h19, .ref h20, .int (-3), .int (-3)])), (h1, .inl (Y 4, 3, .inr (.inr (.inr (.inr (jw_R [some h3, some h21, some h6])))))), (h2, .inl (Y 4, 3, .inr (.inr (.inr (.inr (jw_R [some h4, some h5, some h7])))))), (h3, .inr (4, [.ref h22, .ref h23, .long 0, .int 0])), (h4, .inr (4, [.ref h24, .ref h25, .long 0, .int 0])), (h5, .inr (4, [.ref h26, .ref h27, .long 0, .int 0])), (h6, .inr (4, [.ref h28, .ref h29, .long 0, .int 0])), (h7, .inr (4, [.ref h30, .ref h31, .long 0, .int 0]))] sz) (jw_Qv D (fun w => w = [(h0, .inr (14, [.ref h8, .int 0, .ref h9, .ref h10, .ref h11, .ref h12, .ref h13, .ref h14, .ref h15, .ref h16, .ref h17, .ref h1, .ref h2, .ref h18, .ref h19, .ref h20, .int (-3), .int (-3)])), (h1, .inl (Y 4, 3, .inr (.inr (.inr (.inr (jw_R [some h3, some h21, some h6])))))), (h2, .inl (Y 4, 3, .inr (.inr (.inr (.inr (jw_R [some h4, some h5, some h7])))))), (h3, .inr (4, [.ref h22, .ref h23, .long 0, .int 0])), (h4, .inr (4, [.ref h24, .ref h25, .long 0, .int 0])), (h5, .inr (4, [.ref h26, .ref h27, .long 0, .int 0])), (h6, .inr (4, [.ref h28, .ref h29, .long 0, .int 0])), (h7, .inr (4, [.ref h30, .ref h31, .long 0, .int 0]))]) (va_A [(h0, .inr (14, [.ref h8, .int 0, .ref h9, .ref h10, .ref h11, .ref h12, .ref h13, .ref h14, .ref h15, .ref h16, .ref h17, .ref h1, .ref h2, .ref h18, .ref h19, .ref h20, .int (-3), .int (-3)])), (h1, .inl (Y 4, 3, .inr (.inr (.inr (.inr (jw_R [some h3, some h21, some h6])))))), (h2, .inl (Y 4, 3, .inr (.inr (.inr (.inr (jw_R [some h4, some h5, some h7])))))), (h3, .inr (4, [.ref h22, .ref h23, .long 0, .int 0])), (h4, .inr (4, [.ref h24, .ref h25, .long 0, .int 0])), (h5, .inr (4, [.ref h26, .ref h27, .long 0, .int 0])), (h6, .inr (4, [.ref h28, .ref h29, .long 0, .int 0])), (h7, .inr (4, [.ref h30, .ref h31, .long 0, .int 0]))] sz)) 0 0 (va_A [(h0, .inr (14, [.ref h8, .int 0, .ref h9, .ref h10, .ref h11, .ref h12, .ref h13, .ref h14, .ref h15, .ref h16, .ref h17, .ref h1, .ref h2, .ref h18, .ref h19, .ref h20, .int (-3), .int (-3)])), (h1, .inl (Y 4, 3, .inr (.inr (.inr (.inr (jw_R [some h3, some h21, some h6])))))), (h2, .inl (Y 4, 3, .inr (.inr (.inr (.inr (jw_R [some h4, some h5, some h7])))))), (h3, .inr (4, [.ref h22, .ref h23, .long 0, .int 0])), (h4, .inr (4, [.ref h24, .ref h25, .long 0, .int 0])), (h5, .inr (4, [.ref h26, .ref h27, .long 0, .int 0])), (h6, .inr (4, [.ref h28, .ref h29, .long 0, .int 0])), (h7, .inr (4, [.ref h30, .ref h31, .long 0, .int 0]))] sz) := by
  refine jw_met (fun A => jw_Qv D (fun w => w = [(h0, .inr (14, [.ref h8, .int 0, .ref h9, .ref h10, .ref h11, .ref h12, .ref h13, .ref h14, .ref h15, .ref h16, .ref h17, .ref h1, .ref h2, .ref h18, .ref h19, .ref h20, .int (-3), .int (-3)])), (h1, .inl (Y 4, 3, .inr (.inr (.inr (.inr (jw_R [some h3, some h21, some h6])))))), (h2, .inl (Y 4, 3, .inr (.inr (.inr (.inr (jw_R [some h4, some h5, some h7])))))), (h3, .inr (4, [.ref h22, .ref h23, .long 0, .int 0])), (h4, .inr (4, [.ref h24, .ref h25, .long 0, .int 0])), (h5, .inr (4, [.ref h26, .ref h27, .long 0, .int 0])), (h6, .inr (4, [.ref h28, .ref h29, .long 0, .int 0])), (h7, .inr (4, [.ref h30, .ref h31, .long 0, .int 0]))]) A) (cc := cX11_startChanged) (maxL := 1) (ret := none) pn_X11_startChanged rfl rfl ?_
  intro p e s m below meth c A H locs ls hx hb hml hr hts hown hlocks hin hP hD hA hS hE hl
  have hown : s.vm.findClass RX11 = some m.cls := hown
  have hl : lv_has ls 1 [(0, .ref h0)] := hl
  refine lv_aload_n hx hb dX11_startChanged_0 rfl (lv_at hl 0 rfl) ?_
  refine va_get (D := D) (ci := 14) (v := .ref h1) (C := RX11) (T := TX11) (N := 18) hx hb hts iw_X11_startChanged__X11 hown hE.1 hP 0 rfl rfl 11 (by decide) (hts _ mw_X11_startChanged__1) (fun _ h9 => h9) rfl dX11_startChanged_1 ?_
  refine lv_iconst (v := 0) hx hb dX11_startChanged_4 (by decide +kernel) ?_
  refine jw_aald (v := h3) hx hb hE hP 1 0 rfl (by decide +kernel) rfl dX11_startChanged_5 ?_
  refine lv_iconst (v := 0) hx hb dX11_startChanged_6 (by decide +kernel) ?_
  refine va_putN (D := D) (ci := 4) (v := .int 0) (C := RX1) (T := TX1) (N := 4) hx hb hts iw_X11_startChanged__X1 tyX1 tyX1_ok nmX1 hown hE.1 hP hD hS 3 rfl rfl 3 (by decide) (nf_X11_149 hE) (fun _ h9 => h9) rfl (tyX1_ok 3 (by decide)) rfl rfl (Nat.le_of_ble_eq_true rfl) dX11_startChanged_7 (fun H locs hP hD hS => ?_)
  have hP : va_P D vwCl [(h0, .inr (14, [.ref h8, .int 0, .ref h9, .ref h10, .ref h11, .ref h12, .ref h13, .ref h14, .ref h15, .ref h16, .ref h17, .ref h1, .ref h2, .ref h18, .ref h19, .ref h20, .int (-3), .int (-3)])), (h1, .inl (Y 4, 3, .inr (.inr (.inr (.inr (jw_R [some h3, some h21, some h6])))))), (h2, .inl (Y 4, 3, .inr (.inr (.inr (.inr (jw_R [some h4, some h5, some h7])))))), (h3, .inr (4, [.ref h22, .ref h23, .long 0, .int 0])), (h4, .inr (4, [.ref h24, .ref h25, .long 0, .int 0])), (h5, .inr (4, [.ref h26, .ref h27, .long 0, .int 0])), (h6, .inr (4, [.ref h28, .ref h29, .long 0, .int 0])), (h7, .inr (4, [.ref h30, .ref h31, .long 0, .int 0]))] H := hP
  have hD : va_D A [(h0, .inr (14, [.ref h8, .int 0, .ref h9, .ref h10, .ref h11, .ref h12, .ref h13, .ref h14, .ref h15, .ref h16, .ref h17, .ref h1, .ref h2, .ref h18, .ref h19, .ref h20, .int (-3), .int (-3)])), (h1, .inl (Y 4, 3, .inr (.inr (.inr (.inr (jw_R [some h3, some h21, some h6])))))), (h2, .inl (Y 4, 3, .inr (.inr (.inr (.inr (jw_R [some h4, some h5, some h7])))))), (h3, .inr (4, [.ref h22, .ref h23, .long 0, .int 0])), (h4, .inr (4, [.ref h24, .ref h25, .long 0, .int 0])), (h5, .inr (4, [.ref h26, .ref h27, .long 0, .int 0])), (h6, .inr (4, [.ref h28, .ref h29, .long 0, .int 0])), (h7, .inr (4, [.ref h30, .ref h31, .long 0, .int 0]))] := hD
  refine lv_aload_n hx hb dX11_startChanged_10 rfl (lv_at hl 0 rfl) ?_
  refine va_get (D := D) (ci := 14) (v := .ref h1) (C := RX11) (T := TX11) (N := 18) hx hb hts iw_X11_startChanged__X11 hown hE.1 hP 0 rfl rfl 11 (by decide) (hts _ mw_X11_startChanged__1) (fun _ h9 => h9) rfl dX11_startChanged_11 ?_
  refine lv_iconst (v := 2) hx hb dX11_startChanged_14 (by decide +kernel) ?_
  refine jw_aald (v := h6) hx hb hE hP 1 2 rfl (by decide +kernel) rfl dX11_startChanged_15 ?_
  refine lv_iconst (v := 0) hx hb dX11_startChanged_16 (by decide +kernel) ?_
  refine va_putN (D := D) (ci := 4) (v := .int 0) (C := RX1) (T := TX1) (N := 4) hx hb hts iw_X11_startChanged__X1 tyX1 tyX1_ok nmX1 hown hE.1 hP hD hS 6 rfl rfl 3 (by decide) (nf_X11_149 hE) (fun _ h9 => h9) rfl (tyX1_ok 3 (by decide)) rfl rfl (Nat.le_of_ble_eq_true rfl) dX11_startChanged_17 (fun H locs hP hD hS => ?_)
  have hP : va_P D vwCl [(h0, .inr (14, [.ref h8, .int 0, .ref h9, .ref h10, .ref h11, .ref h12, .ref h13, .ref h14, .ref h15, .ref h16, .ref h17, .ref h1, .ref h2, .ref h18, .ref h19, .ref h20, .int (-3), .int (-3)])), (h1, .inl (Y 4, 3, .inr (.inr (.inr (.inr (jw_R [some h3, some h21, some h6])))))), (h2, .inl (Y 4, 3, .inr (.inr (.inr (.inr (jw_R [some h4, some h5, some h7])))))), (h3, .inr (4, [.ref h22, .ref h23, .long 0, .int 0])), (h4, .inr (4, [.ref h24, .ref h25, .long 0, .int 0])), (h5, .inr (4, [.ref h26, .ref h27, .long 0, .int 0])), (h6, .inr (4, [.ref h28, .ref h29, .long 0, .int 0])), (h7, .inr (4, [.ref h30, .ref h31, .long 0, .int 0]))] H := hP
  have hD : va_D A [(h0, .inr (14, [.ref h8, .int 0, .ref h9, .ref h10, .ref h11, .ref h12, .ref h13, .ref h14, .ref h15, .ref h16, .ref h17, .ref h1, .ref h2, .ref h18, .ref h19, .ref h20, .int (-3), .int (-3)])), (h1, .inl (Y 4, 3, .inr (.inr (.inr (.inr (jw_R [some h3, some h21, some h6])))))), (h2, .inl (Y 4, 3, .inr (.inr (.inr (.inr (jw_R [some h4, some h5, some h7])))))), (h3, .inr (4, [.ref h22, .ref h23, .long 0, .int 0])), (h4, .inr (4, [.ref h24, .ref h25, .long 0, .int 0])), (h5, .inr (4, [.ref h26, .ref h27, .long 0, .int 0])), (h6, .inr (4, [.ref h28, .ref h29, .long 0, .int 0])), (h7, .inr (4, [.ref h30, .ref h31, .long 0, .int 0]))] := hD
  refine lv_aload_n hx hb dX11_startChanged_20 rfl (lv_at hl 0 rfl) ?_
  refine jw_mv (wc := [(h0, .inr (14, [.ref h8, .int 0, .ref h9, .ref h10, .ref h11, .ref h12, .ref h13, .ref h14, .ref h15, .ref h16, .ref h17, .ref h1, .ref h2, .ref h18, .ref h19, .ref h20, .int (-3), .int (-3)])), (h2, .inl (Y 4, 3, .inr (.inr (.inr (.inr (jw_R [some h4, some h5, some h7])))))), (h4, .inr (4, [.ref h24, .ref h25, .long 0, .int 0])), (h5, .inr (4, [.ref h26, .ref h27, .long 0, .int 0])), (h7, .inr (4, [.ref h30, .ref h31, .long 0, .int 0]))]) (cs := 0) (ss := 0) (va_runV (As := []) (rest := []) ⟨hx, hb, hml, hown, hts⟩ (k56_X11_stageChanged h0 h2 h4 h5 h7 h8 h9 h10 h11 h12 h13 h14 h15 h16 h17 h1 h18 h19 h20 h24 h25 h26 h27 h30 h31 H.size) (cwV 0 hts gX11_startChanged_X11_stageChanged rfl rfl rfl ydV_X11_stageChanged ⟨Nat.le_of_ble_eq_true rfl, Nat.le_of_ble_eq_true rfl⟩) (jw_mpreV (ci := 14) (q0 := 0) hP hD hS hA hE [true, false, true, false, true, true, false, true] rfl rfl rfl) rfl rfl hl.1 rfl (lv_room (Nat.le_of_ble_eq_true rfl)) dX11_startChanged_21 ⟨Nat.le_of_ble_eq_true rfl, Nat.le_of_ble_eq_true rfl⟩) hP hD hS hA [true, false, true, false, true, true, false, true] rfl rfl rfl (fun w1 H locs hw9 hP hD hS => ?_)
  subst hw9
  have hP : va_P D vwCl [(h0, .inr (14, [.ref h8, .int 0, .ref h9, .ref h10, .ref h11, .ref h12, .ref h13, .ref h14, .ref h15, .ref h16, .ref h17, .ref h1, .ref h2, .ref h18, .ref h19, .ref h20, .int (-3), .int (-3)])), (h1, .inl (Y 4, 3, .inr (.inr (.inr (.inr (jw_R [some h3, some h21, some h6])))))), (h2, .inl (Y 4, 3, .inr (.inr (.inr (.inr (jw_R [some h4, some h5, some h7])))))), (h3, .inr (4, [.ref h22, .ref h23, .long 0, .int 0])), (h4, .inr (4, [.ref h24, .ref h25, .long 0, .int 0])), (h5, .inr (4, [.ref h26, .ref h27, .long 0, .int 0])), (h6, .inr (4, [.ref h28, .ref h29, .long 0, .int 0])), (h7, .inr (4, [.ref h30, .ref h31, .long 0, .int 0]))] H := hP
  have hD : va_D A [(h0, .inr (14, [.ref h8, .int 0, .ref h9, .ref h10, .ref h11, .ref h12, .ref h13, .ref h14, .ref h15, .ref h16, .ref h17, .ref h1, .ref h2, .ref h18, .ref h19, .ref h20, .int (-3), .int (-3)])), (h1, .inl (Y 4, 3, .inr (.inr (.inr (.inr (jw_R [some h3, some h21, some h6])))))), (h2, .inl (Y 4, 3, .inr (.inr (.inr (.inr (jw_R [some h4, some h5, some h7])))))), (h3, .inr (4, [.ref h22, .ref h23, .long 0, .int 0])), (h4, .inr (4, [.ref h24, .ref h25, .long 0, .int 0])), (h5, .inr (4, [.ref h26, .ref h27, .long 0, .int 0])), (h6, .inr (4, [.ref h28, .ref h29, .long 0, .int 0])), (h7, .inr (4, [.ref h30, .ref h31, .long 0, .int 0]))] := hD
  refine W.widen (k := 0) (n := 0) (Nat.le_of_ble_eq_true rfl) (Nat.le_of_ble_eq_true rfl) ?_
  exact jw_vret hx hb hr hlocks rfl hP hD hS dX11_startChanged_24
