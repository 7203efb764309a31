/-! Arrays.fill of a whole row: the loop -/
theorem jw_fill_loop {p : Program} {l : Launch} {e : Env} {R : Room} {s : State} {m : MethodId} {args : Array Value} {below : List Frame} {meth : Method} {c : Code} {D : va_G} {Y : Nat → ClassId} {tt : Nat → Nat} {A : Nat → Prop} {h0 n : Nat} {v : Int32} (hn : n < 2147483648) (hx : p.tables.exec = Jvm.exec) (hb : c.code = cJ7_fill_53178) (hr : meth.sig.returnType = none) (hlocks : meth.locks = false) (hE : jw_E D Y tt A s s.heap) :
    ∀ (k i : Nat) (f : Nat → Int32) (H : Heap) (locs : List Loc) (ls : Array Slot), i ≤ n → n - i < k → (∀ j, j < i → f j = v) → va_P D vwCl [(h0, .inl (Y 1, n, .inl f))] H → va_D A [(h0, .inl (Y 1, n, .inl f))] → va_S A s.heap H locs → lv_has ls 4 [(2, .int (nI i)), (3, .int (nI n)), (0, .ref h0), (1, .int v)] →
      W p l e R s m args below meth c H locs 0 0 (MQ below (jw_Qv D (fun w => w = [(h0, .inl (Y 1, n, .inl (jw_l v [])))]) A) args s 0 0 A) (F0 m 5 ls []) := by
  intro k
  induction k with
  | zero => intro i f H locs ls h1 h2; omega
  | succ k ih =>
    intro i f H locs ls h1 h2 hf hP hD hS hl
    refine lv_iload_n hx hb dJ7_fill_53178_5 rfl (lv_at hl 0 rfl) ?_
    refine lv_iload_n hx hb dJ7_fill_53178_6 rfl (lv_at hl 1 rfl) ?_
    refine lv_icmp_ge (tgt := 20) hx hb dJ7_fill_53178_7 (by decide) (fun c9 => ?_) (fun c9 => ?_)
    · have hi : n ≤ i := (nI_leI hn (by omega)).mp c9
      have hP : va_P D vwCl [(h0, .inl (Y 1, n, .inl (jw_l v [])))] H := jw_P1I (fun j hj => by rw [hf j (by omega)]; simp [jw_l]) hP
      exact jw_vret hx hb hr hlocks rfl hP (jw_D1 hD) hS dJ7_fill_53178_20
    · have hi : i < n := Nat.not_le.mp (fun q => c9 ((nI_leI hn (by omega)).mpr q))
      refine lv_aload_n hx hb dJ7_fill_53178_10 rfl (lv_at hl 2 rfl) ?_
      refine lv_iload_n hx hb dJ7_fill_53178_11 rfl (lv_at hl 0 rfl) ?_
      refine lv_iload_n hx hb dJ7_fill_53178_12 rfl (lv_at hl 3 rfl) ?_
      refine va_iast hx hb hE.1 hP hD hS 0 1 rfl rfl (vp_in_nI hi hn) dJ7_fill_53178_13 (fun H locs hP hD hS => ?_)
      rw [nI_clamp (show i < 2 ^ 31 by omega)] at hP hD
      refine lv_iinc (v := nI (i + 1)) (lv' := [(2, .int (nI (i + 1))), (3, .int (nI n)), (0, .ref h0), (1, .int v)]) hx hb dJ7_fill_53178_14 hl (k := 0) rfl (nI_1 i) (by decide) rfl (fun ls hl => ?_)
      refine lv_goto (tgt := 5) hx hb dJ7_fill_53178_17 (by decide) ?_
      refine ih (i + 1) (upd f i v) H locs ls (by omega) (by omega) (fun j hj => ?_) hP hD hS hl
      by_cases hji : j = i
      · subst hji; exact pk_us
      · rw [pk_un hji]; exact hf j (by omega)
theorem jw_fill {l : Launch} {D : va_G} {Y : Nat → ClassId} {tt : Nat → Nat} {h0 n sz : Nat} {v : Int32} {f : Nat → Int32} (hn : n < 2147483648) : Met l yJ7_fill_53178 wsJ7_fill_53178 ({ frames := 0, cells := 0, slots := 0, locals := 0 }) (jw_Pc D Y tt [.ref h0, .int v] [(h0, .inl (Y 1, n, .inl f))] sz) (jw_Qv D (fun w => w = [(h0, .inl (Y 1, n, .inl (jw_l v [])))]) (va_A [(h0, .inl (Y 1, n, .inl f))] sz)) 0 0 (va_A [(h0, .inl (Y 1, n, .inl f))] sz) := by
  refine jw_met (fun A => jw_Qv D (fun w => w = [(h0, .inl (Y 1, n, .inl (jw_l v [])))]) A) (cc := cJ7_fill_53178) (maxL := 4) (ret := none) pn_J7_fill_53178 rfl rfl ?_
  intro p e s m below meth c A H locs ls hx hb hml hr hts hown hlocks hin hP hD hA hS hE hl
  have hl : lv_has ls 4 [(0, .ref h0), (1, .int v)] := hl
  refine lv_iconst (v := 0) hx hb dJ7_fill_53178_0 (by decide) ?_
  refine lv_istore_n (lv' := [(2, .int 0), (0, .ref h0), (1, .int v)]) hx hb dJ7_fill_53178_1 rfl hl (by decide) rfl (fun ls hl => ?_)
  refine lv_aload_n hx hb dJ7_fill_53178_2 rfl (lv_at hl 1 rfl) ?_
  refine jw_alen (v := nI n) hx hb hE hP 0 1 rfl rfl rfl dJ7_fill_53178_3 ?_
  refine lv_istore_n (lv' := [(3, .int (nI n)), (2, .int 0), (0, .ref h0), (1, .int v)]) hx hb dJ7_fill_53178_4 rfl hl (by decide) rfl (fun ls hl => ?_)
  exact jw_fill_loop hn hx hb hr hlocks hE (n + 1) 0 f H locs ls (by omega) (by omega) (fun j hj => by omega) hP hD hS (lv_sub hl [1, 0, 2, 3] rfl)
theorem jw_fillL_loop {p : Program} {l : Launch} {e : Env} {R : Room} {s : State} {m : MethodId} {args : Array Value} {below : List Frame} {meth : Method} {c : Code} {D : va_G} {Y : Nat → ClassId} {tt : Nat → Nat} {A : Nat → Prop} {h0 n : Nat} {v : Int64} (hn : n < 2147483648) (hx : p.tables.exec = Jvm.exec) (hb : c.code = cJ7_fill_d0a16) (hr : meth.sig.returnType = none) (hlocks : meth.locks = false) (hE : jw_E D Y tt A s s.heap) :
    ∀ (k i : Nat) (f : Nat → Int64) (H : Heap) (locs : List Loc) (ls : Array Slot), i ≤ n → n - i < k → (∀ j, j < i → f j = v) → va_P D vwCl [(h0, .inl (Y 2, n, .inr (.inl f)))] H → va_D A [(h0, .inl (Y 2, n, .inr (.inl f)))] → va_S A s.heap H locs → lv_has ls 5 [(3, .int (nI i)), (4, .int (nI n)), (0, .ref h0), (1, .long v)] →
      W p l e R s m args below meth c H locs 0 0 (MQ below (jw_Qv D (fun w => w = [(h0, .inl (Y 2, n, .inr (.inl (jw_L v []))))]) A) args s 0 0 A) (F0 m 6 ls []) := by
  intro k
  induction k with
  | zero => intro i f H locs ls h1 h2; omega
  | succ k ih =>
    intro i f H locs ls h1 h2 hf hP hD hS hl
    refine lv_iload_n hx hb dJ7_fill_d0a16_6 rfl (lv_at hl 0 rfl) ?_
    refine lv_iload hx hb dJ7_fill_d0a16_7 (lv_at hl 1 rfl) ?_
    refine lv_icmp_ge (tgt := 22) hx hb dJ7_fill_d0a16_9 (by decide) (fun c9 => ?_) (fun c9 => ?_)
    · have hi : n ≤ i := (nI_leI hn (by omega)).mp c9
      have hP : va_P D vwCl [(h0, .inl (Y 2, n, .inr (.inl (jw_L v []))))] H := jw_P1L (fun j hj => by rw [hf j (by omega)]; simp [jw_L]) hP
      exact jw_vret hx hb hr hlocks rfl hP (jw_D1 hD) hS dJ7_fill_d0a16_22
    · have hi : i < n := Nat.not_le.mp (fun q => c9 ((nI_leI hn (by omega)).mpr q))
      refine lv_aload_n hx hb dJ7_fill_d0a16_12 rfl (lv_at hl 2 rfl) ?_
      refine lv_iload_n hx hb dJ7_fill_d0a16_13 rfl (lv_at hl 0 rfl) ?_
      refine lv_lload_n hx hb dJ7_fill_d0a16_14 rfl (lv_at hl 3 rfl) ?_
      refine va_last hx hb hE.1 hP hD hS 0 2 rfl rfl (vp_in_nI hi hn) dJ7_fill_d0a16_15 (fun H locs hP hD hS => ?_)
      rw [nI_clamp (show i < 2 ^ 31 by omega)] at hP hD
      refine lv_iinc (v := nI (i + 1)) (lv' := [(3, .int (nI (i + 1))), (4, .int (nI n)), (0, .ref h0), (1, .long v)]) hx hb dJ7_fill_d0a16_16 hl (k := 0) rfl (nI_1 i) (by decide) rfl (fun ls hl => ?_)
      refine lv_goto (tgt := 6) hx hb dJ7_fill_d0a16_19 (by decide) ?_
      refine ih (i + 1) (vp_updL f i v) H locs ls (by omega) (by omega) (fun j hj => ?_) hP hD hS hl
      by_cases hji : j = i
      · subst hji; exact pk_uLs
      · rw [pk_uLn hji]; exact hf j (by omega)
theorem jw_fillL {l : Launch} {D : va_G} {Y : Nat → ClassId} {tt : Nat → Nat} {h0 n sz : Nat} {v : Int64} {f : Nat → Int64} (hn : n < 2147483648) : Met l yJ7_fill_d0a16 wsJ7_fill_d0a16 ({ frames := 0, cells := 0, slots := 0, locals := 0 }) (jw_Pc D Y tt [.ref h0, .long v] [(h0, .inl (Y 2, n, .inr (.inl f)))] sz) (jw_Qv D (fun w => w = [(h0, .inl (Y 2, n, .inr (.inl (jw_L v []))))]) (va_A [(h0, .inl (Y 2, n, .inr (.inl f)))] sz)) 0 0 (va_A [(h0, .inl (Y 2, n, .inr (.inl f)))] sz) := by
  refine jw_met (fun A => jw_Qv D (fun w => w = [(h0, .inl (Y 2, n, .inr (.inl (jw_L v []))))]) A) (cc := cJ7_fill_d0a16) (maxL := 5) (ret := none) pn_J7_fill_d0a16 rfl rfl ?_
  intro p e s m below meth c A H locs ls hx hb hml hr hts hown hlocks hin hP hD hA hS hE hl
  have hl : lv_has ls 5 [(0, .ref h0), (1, .long v)] := hl
  refine lv_iconst (v := 0) hx hb dJ7_fill_d0a16_0 (by decide) ?_
  refine lv_istore_n (lv' := [(3, .int 0), (0, .ref h0), (1, .long v)]) hx hb dJ7_fill_d0a16_1 rfl hl (by decide) rfl (fun ls hl => ?_)
  refine lv_aload_n hx hb dJ7_fill_d0a16_2 rfl (lv_at hl 1 rfl) ?_
  refine jw_alen (v := nI n) hx hb hE hP 0 2 rfl rfl rfl dJ7_fill_d0a16_3 ?_
  refine lv_istore (lv' := [(4, .int (nI n)), (3, .int 0), (0, .ref h0), (1, .long v)]) hx hb dJ7_fill_d0a16_4 hl (by decide) rfl (fun ls hl => ?_)
  exact jw_fillL_loop hn hx hb hr hlocks hE (n + 1) 0 f H locs ls (by omega) (by omega) (fun j hj => by omega) hP hD hS (lv_sub hl [1, 0, 2, 3] rfl)
