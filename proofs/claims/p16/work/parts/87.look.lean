/-! look: what its throws need beside the rest -/
abbrev jw_rx : ByteArray := prog_30_method_4_code
def jw_xw : List Cond := vx_atS RX11 454 "java/lang/IndexOutOfBoundsException" ["java/lang/RuntimeException", "java/lang/Exception"] ++ jw_atX RX11 461 "java/util/NoSuchElementException" 13 jw_rx ["java/lang/RuntimeException", "java/lang/Exception"]
def jw_isC : Cond → Bool
  | .castable _ _ => true
  | _ => false
def jw_isD : Cond → Bool
  | .declares _ => true
  | _ => false
def jw_okx (w : Cond) : Bool := w.onTables && (jw_isC w || jw_isD w || goodWord w)
theorem jw_isCs {w : Cond} (h : jw_isC w = true) : ∃ a b, w = .castable a b := by
  cases w <;> first | exact ⟨_, _, rfl⟩ | exact absurd h (by simp [jw_isC])
theorem jw_isDs {w : Cond} (h : jw_isD w = true) : ∃ x, w = .declares x := by
  cases w <;> first | exact ⟨_, rfl⟩ | exact absurd h (by simp [jw_isD])
theorem jw_okw {w : Cond} (h : jw_okx w = true) {s U : State} (hW : s.WarmedH U.vm) (hz : va_Nw w s) : va_Nw w U := by
  obtain ⟨-, h2⟩ := (Bool.and_eq_true _ _).mp h |> fun x => (⟨x.1, x.2⟩ : w.onTables = true ∧ (jw_isC w || jw_isD w || goodWord w) = true)
  rcases (Bool.or_eq_true _ _).mp h2 with h3 | h3
  · rcases (Bool.or_eq_true _ _).mp h3 with h4 | h4
    · obtain ⟨a, b, rfl⟩ := jw_isCs h4
      exact va_Nw.warmC hW hz
    · obtain ⟨x, rfl⟩ := jw_isDs h4
      exact va_Nw.warmD hW hz
  · exact word_at hW (good_of_word h3) hz
theorem jw_okt {w : Cond} (h : jw_okx w = true) : w.onTables = true := ((Bool.and_eq_true _ _).mp h).1
theorem jw_xwk : ∀ w ∈ jw_xw, jw_okx w = true := by decide +kernel
def jw_XE (sa sb : Nat) (A : Nat → Prop) (U : State) (H : Heap) : Prop :=
  vk_R RX11 452 "no such team" sa U ∧ vk_R RX11 459 "no such what" sb U ∧ vx_Zq Bundle.tN "UNASSIGNED_STACK" Bundle.steD A U H ∧ vx_Zq Bundle.tN "SUPPRESSED_SENTINEL" Bundle.listD A U H ∧ va_Nc "java/util/NoSuchElementException" "java/lang/IndexOutOfBoundsException" U ∧ ∀ w ∈ jw_xw, va_Nw w U
theorem jw_XE.call {sa sb : Nat} {A B : Nat → Prop} {s U : State} {H : Heap} {locs : List Loc} (h : jw_XE sa sb A s s.heap) (hS : va_S A s.heap H locs) (hF : ∀ q, B q → A q) (hU : U.heap = H) (hW : s.WarmedH U.vm) : jw_XE sa sb B U U.heap := by
  obtain ⟨h1, h2, h3, h4, h5, h6⟩ := h
  have hq : ∀ a : Nat, a < s.heap.size → ¬ A a → U.heap[a]? = s.heap[a]? := fun a x y => by rw [hU]; exact hS.2.1 a x y
  exact ⟨h1.warm hW, h2.warm hW, ((h3.kept hq).moved hW.alike).narrow hF, ((h4.kept hq).moved hW.alike).narrow hF, h5.moved hW.alike, fun w hw => jw_okw (jw_xwk w hw) hW (h6 w hw)⟩
theorem jw_XE.calling {sa sb : Nat} {A : Nat → Prop} {U : State} {g : JFrame} {mk : MethodId} {a : Array Value} (h : jw_XE sa sb A U U.heap) : jw_XE sa sb A (U.calling g mk a) (U.calling g mk a).heap := by
  obtain ⟨h1, h2, h3, h4, h5, h6⟩ := h
  have e : U.vm.Alike (U.calling g mk a).vm := Vm.Alike.refl U.vm
  exact ⟨h1.same rfl, h2.same rfl, h3.moved e, h4.moved e, h5.moved e, fun w hw => va_Nw.same (u := U) (U := U.calling g mk a) (jw_okt (jw_xwk w hw)) rfl (h6 w hw)⟩
theorem jw_XE.word {sa sb : Nat} {A : Nat → Prop} {U : State} {H : Heap} (h : jw_XE sa sb A U H) {w : Cond} (hw : w ∈ jw_xw) (a : Array Value) : w.before a U = true := (h.2.2.2.2.2 w hw).use (jw_okt (jw_xwk w hw))
abbrev jw_Pcx (D : va_G) (Y : Nat → ClassId) (tt : Nat → Nat) (sa sb : Nat) (As : List Value) (w0 : va_W) (sz : Nat) : Array Value → State → Prop :=
  va_Pc As (fun U => U.heap.size = sz ∧ va_P D vwCl w0 U.heap ∧ va_D (fun _ => True) w0 ∧ jw_E D Y tt (va_A w0 sz) U U.heap ∧ jw_XE sa sb (va_A w0 sz) U U.heap)
theorem jw_blindx {D : va_G} {Y : Nat → ClassId} {tt : Nat → Nat} {sa sb : Nat} {As : List Value} {w0 : va_W} {sz : Nat} : FrameBlind (jw_Pcx D Y tt sa sb As w0 sz) := by
  intro a U g mk h
  obtain ⟨h1, h2, h3, h4, h5, h6⟩ := h
  exact ⟨h1, h2, h3, h4, h5.calling, h6.calling⟩
theorem jw_mpreSx {s : State} {H : Heap} {locs : List Loc} {D : va_G} {Y : Nat → ClassId} {tt : Nat → Nat} {sa sb : Nat} {A : Nat → Prop} {ws wc : va_W} {As : List Value} (hP : va_P D vwCl ws H) (hD : va_D A ws) (hS : va_S A s.heap H locs) (hA : ∀ q, s.heap.size ≤ q → A q) (hE : jw_E D Y tt A s s.heap) (hXE : jw_XE sa sb A s s.heap) (mk : List Bool) (hC : jw_sel mk ws = wc) : PreS s H (jw_Pcx D Y tt sa sb As wc H.size) As := by
  have hF := jw_freeM hD hS hA mk hC
  have h := jw_mpreS (As := As) hP hD hS hA hE mk hC
  refine ⟨jw_blindx, fun U hU hW => ?_⟩
  obtain ⟨a1, a2, a3, a4, a5⟩ := h.2 U hU hW
  exact ⟨a1, a2, a3, a4, a5, hXE.call hS hF hU hW⟩
theorem jw_rx0 : decode jw_rx 0 = .ok (.aload_n 0, 1) := by decide +kernel
theorem jw_rx1 : decode jw_rx 1 = .ok (.aload_n 1, 1) := by decide +kernel
theorem jw_rx2 : decode jw_rx 2 = .ok (.invokespecial 13, 3) := by decide +kernel
theorem jw_rx5 : decode jw_rx 5 = .ok (.return_, 1) := by decide +kernel
theorem jw_keptP {D : va_G} {w0 : va_W} {H H1 : Heap} (hP : va_P D vwCl w0 H) (hk : ∀ q : Nat, q < H.size → H1[q]? = H[q]?) : va_P D vwCl w0 H1 := by
  have hp := jw_P_iff.mp hP
  exact jw_P_iff.mpr (fun x hx => (hp x hx).kept (hk x.1 (hp x hx).lt))
set_option maxHeartbeats 8000000 in
set_option maxRecDepth 100000 in
theorem kx_look {l : Launch} (hl9 : l.stackTraces = false) {D : va_G} {Y : Nat → ClassId} {tt : Nat → Nat} {sa sb : Nat} (fu : Nat) (h0 h1 h2 h3 h4 h5 h6 h7 h8 h9 h10 h11 h12 h13 h14 h15 h16 h17 h18 h19 h20 : Nat) (c73_taped : Int32) (c73_nearestOrder : Int32) (c73_nearestArrangement : Int32) (c248_groups : Int32) (c248_pots : Int32) (c248_teams : Int32) (c248_marks : Int32) (c248_bars : Int32) (c248_groupsNamed : Int32) (a250 : Nat → Int32) (p1 p2 : Int32) (t12 : c248_teams.toInt ≤ 12) (sz : Nat) : vx_Met l yX11_look wsX11_look ({ frames := 8, cells := 1, slots := 6, locals := 200 }) (jw_Pcx D Y tt sa sb [.ref h0, .int p1, .int p2] [(h0, .inr (14, [.ref h3, .int c73_taped, .ref h1, .ref h4, .ref h5, .ref h6, .ref h7, .ref h8, .ref h9, .ref h10, .ref h11, .ref h12, .ref h13, .ref h14, .ref h15, .ref h16, .int c73_nearestOrder, .int c73_nearestArrangement])), (h1, .inr (6, [.int c248_groups, .int c248_pots, .int c248_teams, .int c248_marks, .int c248_bars, .ref h17, .ref h2, .ref h18, .ref h19, .ref h20, .int c248_groupsNamed])), (h2, .inl (Y 1, 12, .inl a250))] sz) (jw_Qi D (fun _ => True) (fun w => w = [(h0, .inr (14, [.ref h3, .int c73_taped, .ref h1, .ref h4, .ref h5, .ref h6, .ref h7, .ref h8, .ref h9, .ref h10, .ref h11, .ref h12, .ref h13, .ref h14, .ref h15, .ref h16, .int c73_nearestOrder, .int c73_nearestArrangement])), (h1, .inr (6, [.int c248_groups, .int c248_pots, .int c248_teams, .int c248_marks, .int c248_bars, .ref h17, .ref h2, .ref h18, .ref h19, .ref h20, .int c248_groupsNamed])), (h2, .inl (Y 1, 12, .inl a250))]) (va_A [(h0, .inr (14, [.ref h3, .int c73_taped, .ref h1, .ref h4, .ref h5, .ref h6, .ref h7, .ref h8, .ref h9, .ref h10, .ref h11, .ref h12, .ref h13, .ref h14, .ref h15, .ref h16, .int c73_nearestOrder, .int c73_nearestArrangement])), (h1, .inr (6, [.int c248_groups, .int c248_pots, .int c248_teams, .int c248_marks, .int c248_bars, .ref h17, .ref h2, .ref h18, .ref h19, .ref h20, .int c248_groupsNamed])), (h2, .inl (Y 1, 12, .inl a250))] sz)) (vx_X (fun _ : Unit => True) (fun (E : String) (_ : Unit) (t : State) => (E = "java/lang/IndexOutOfBoundsException" ∨ E = "java/util/NoSuchElementException") ∧ va_P D vwCl [(h0, .inr (14, [.ref h3, .int c73_taped, .ref h1, .ref h4, .ref h5, .ref h6, .ref h7, .ref h8, .ref h9, .ref h10, .ref h11, .ref h12, .ref h13, .ref h14, .ref h15, .ref h16, .int c73_nearestOrder, .int c73_nearestArrangement])), (h1, .inr (6, [.int c248_groups, .int c248_pots, .int c248_teams, .int c248_marks, .int c248_bars, .ref h17, .ref h2, .ref h18, .ref h19, .ref h20, .int c248_groupsNamed])), (h2, .inl (Y 1, 12, .inl a250))] t.heap) (va_A [(h0, .inr (14, [.ref h3, .int c73_taped, .ref h1, .ref h4, .ref h5, .ref h6, .ref h7, .ref h8, .ref h9, .ref h10, .ref h11, .ref h12, .ref h13, .ref h14, .ref h15, .ref h16, .int c73_nearestOrder, .int c73_nearestArrangement])), (h1, .inr (6, [.int c248_groups, .int c248_pots, .int c248_teams, .int c248_marks, .int c248_bars, .ref h17, .ref h2, .ref h18, .ref h19, .ref h20, .int c248_groupsNamed])), (h2, .inl (Y 1, 12, .inl a250))] sz)) 1 6 (va_A [(h0, .inr (14, [.ref h3, .int c73_taped, .ref h1, .ref h4, .ref h5, .ref h6, .ref h7, .ref h8, .ref h9, .ref h10, .ref h11, .ref h12, .ref h13, .ref h14, .ref h15, .ref h16, .int c73_nearestOrder, .int c73_nearestArrangement])), (h1, .inr (6, [.int c248_groups, .int c248_pots, .int c248_teams, .int c248_marks, .int c248_bars, .ref h17, .ref h2, .ref h18, .ref h19, .ref h20, .int c248_groupsNamed])), (h2, .inl (Y 1, 12, .inl a250))] sz) := by
  refine vx_ofW (cc := cX11_look) (maxL := 3) (ret := (some .int)) pn_X11_look rfl ?_
  intro p e s m args below meth c s₁ B hml hno hv
  obtain ⟨rfl, hsz, hP, hD0, hE, hXE⟩ := hv
  subst hsz
  have hx := B.exec
  have hb := B.bytes
  have hr := B.returns
  have hts := atoms_spec (ws := wsX11_look) B.pre
  have hown : s.vm.findClass RX11 = some m.cls := findClass_of_methodNamed B.named
  have hlocks := B.notSynchronized
  have hl := lv_entry ([.ref h0, .int p1, .int p2]) (n := 3) (Nat.le_of_ble_eq_true rfl)
  rw [lg_entry_eq]
  generalize (lg_sl ([.ref h0, .int p1, .int p2]) ++ List.replicate (3 - (lg_sl ([.ref h0, .int p1, .int p2])).length) Slot.unset).toArray = ls at hl ⊢
  have hl : lv_has ls 3 [(0, .ref h0), (1, .int p1), (2, .int p2)] := hl
  have hD := hD0.self (sz := s.heap.size)
  generalize hAe : va_A [(h0, .inr (14, [.ref h3, .int c73_taped, .ref h1, .ref h4, .ref h5, .ref h6, .ref h7, .ref h8, .ref h9, .ref h10, .ref h11, .ref h12, .ref h13, .ref h14, .ref h15, .ref h16, .int c73_nearestOrder, .int c73_nearestArrangement])), (h1, .inr (6, [.int c248_groups, .int c248_pots, .int c248_teams, .int c248_marks, .int c248_bars, .ref h17, .ref h2, .ref h18, .ref h19, .ref h20, .int c248_groupsNamed])), (h2, .inl (Y 1, 12, .inl a250))] s.heap.size = A at hD hE hXE ⊢
  have hA : ∀ q : Nat, s.heap.size ≤ q → A q := fun q h => by rw [← hAe]; exact Or.inr h
  have hS : va_S A s.heap s.heap [] := va_S.rf
  obtain ⟨H, hH⟩ : ∃ H, H = s.heap := ⟨_, rfl⟩
  obtain ⟨locs, hlo⟩ : ∃ L : List Loc, L = [] := ⟨_, rfl⟩
  have hP : va_P D vwCl [(h0, .inr (14, [.ref h3, .int c73_taped, .ref h1, .ref h4, .ref h5, .ref h6, .ref h7, .ref h8, .ref h9, .ref h10, .ref h11, .ref h12, .ref h13, .ref h14, .ref h15, .ref h16, .int c73_nearestOrder, .int c73_nearestArrangement])), (h1, .inr (6, [.int c248_groups, .int c248_pots, .int c248_teams, .int c248_marks, .int c248_bars, .ref h17, .ref h2, .ref h18, .ref h19, .ref h20, .int c248_groupsNamed])), (h2, .inl (Y 1, 12, .inl a250))] H := by rw [hH]; exact hP
  have hS : va_S A s.heap H locs := by rw [hH, hlo]; exact hS
  show W p l e (headSpec wsX11_look ({ frames := 8, cells := 1, slots := 6, locals := 200 })).room s m _ below meth c s.heap [] 0 0 _ _
  rw [← hH, ← hlo]
  show W p l e ({ frames := 8, cells := 1, slots := 6, locals := 200 }) s m _ below meth c H locs 0 0 _ _
  obtain ⟨r, hf, hr9⟩ : ∃ r, f159_X11_isTeam fu c248_teams p1 = some r ∧ (r = 0 ∨ (0 ≤ p1.toInt ∧ p1.toInt < c248_teams.toInt)) := by
    by_cases a1 : p1 < 0
    · exact ⟨0, if_pos a1, Or.inl rfl⟩
    · by_cases a2 : c248_teams ≤ p1
      · exact ⟨0, (if_neg a1).trans (if_pos a2), Or.inl rfl⟩
      · have := dz_fnlt a1
        have := dz_fnle a2
        have := dz_l0'
        exact ⟨1, (if_neg a1).trans (if_neg a2), Or.inr ⟨by omega, by omega⟩⟩
  refine lv_aload_n hx hb dX11_look_0 rfl (lv_at hl 0 rfl) ?_
  refine lv_iload_n hx hb dX11_look_1 rfl (lv_at hl 1 rfl) ?_
  refine jw_mi (wc := [(h0, .inr (14, [.ref h3, .int c73_taped, .ref h1, .ref h4, .ref h5, .ref h6, .ref h7, .ref h8, .ref h9, .ref h10, .ref h11, .ref h12, .ref h13, .ref h14, .ref h15, .ref h16, .int c73_nearestOrder, .int c73_nearestArrangement])), (h1, .inr (6, [.int c248_groups, .int c248_pots, .int c248_teams, .int c248_marks, .int c248_bars, .ref h17, .ref h2, .ref h18, .ref h19, .ref h20, .int c248_groupsNamed]))]) (cs := 0) (ss := 0) (va_runV (As := [.int p1]) (rest := []) ⟨hx, hb, hml, hown, hts⟩ (e159_X11_isTeam fu h0 h1 h3 h4 h5 h6 h7 h8 h9 h10 h11 h12 h13 h14 h15 h16 h17 h2 h18 h19 h20 c73_taped c73_nearestOrder c73_nearestArrangement c248_groups c248_pots c248_teams c248_marks c248_bars c248_groupsNamed p1 r hf H.size) (cwV 1 hts gX11_look_X11_isTeam rfl rfl rfl ydV_X11_isTeam ⟨Nat.le_of_ble_eq_true rfl, Nat.le_of_ble_eq_true rfl⟩) (jw_mpreV (ci := 14) (q0 := 0) hP hD hS hA hE [true, true] rfl rfl rfl) rfl rfl hl.1 rfl (lv_room (Nat.le_of_ble_eq_true rfl)) dX11_look_2 ⟨Nat.le_of_ble_eq_true rfl, Nat.le_of_ble_eq_true rfl⟩) hP hD hS hA [true, true] rfl rfl rfl (fun r9 w1 H locs hq9 hw9 hP hD hS => ?_)
  rw [hq9]
  subst hw9
  have hP : va_P D vwCl [(h0, .inr (14, [.ref h3, .int c73_taped, .ref h1, .ref h4, .ref h5, .ref h6, .ref h7, .ref h8, .ref h9, .ref h10, .ref h11, .ref h12, .ref h13, .ref h14, .ref h15, .ref h16, .int c73_nearestOrder, .int c73_nearestArrangement])), (h1, .inr (6, [.int c248_groups, .int c248_pots, .int c248_teams, .int c248_marks, .int c248_bars, .ref h17, .ref h2, .ref h18, .ref h19, .ref h20, .int c248_groupsNamed])), (h2, .inl (Y 1, 12, .inl a250))] H := hP
  have hD : va_D A [(h0, .inr (14, [.ref h3, .int c73_taped, .ref h1, .ref h4, .ref h5, .ref h6, .ref h7, .ref h8, .ref h9, .ref h10, .ref h11, .ref h12, .ref h13, .ref h14, .ref h15, .ref h16, .int c73_nearestOrder, .int c73_nearestArrangement])), (h1, .inr (6, [.int c248_groups, .int c248_pots, .int c248_teams, .int c248_marks, .int c248_bars, .ref h17, .ref h2, .ref h18, .ref h19, .ref h20, .int c248_groupsNamed])), (h2, .inl (Y 1, 12, .inl a250))] := hD
  refine lv_if_ne (tgt := 19) hx hb dX11_look_5 (by decide) (fun c1 => ?_) (fun c1 => ?_)
  · obtain ⟨t0, t1⟩ := hr9.resolve_left c1
    refine lv_iload_n hx hb dX11_look_19 rfl (lv_at hl 2 rfl) ?_
    refine lv_if_eq (tgt := 39) hx hb dX11_look_20 (by decide) (fun c2 => ?_) (fun c2 => ?_)
    · refine lv_iload_n hx hb dX11_look_39 rfl (lv_at hl 2 rfl) ?_
      refine lv_if_ne (tgt := 54) hx hb dX11_look_40 (by decide) (fun c3 => absurd c2 c3) (fun _ => ?_)
      refine lv_aload_n hx hb dX11_look_43 rfl (lv_at hl 0 rfl) ?_
      refine va_get (D := D) (ci := 14) (v := .ref h1) (C := RX11) (T := TX11) (N := 18) hx hb hts iw_X11_look__X11 hown hE.1 hP 0 rfl rfl 2 (by decide) (hts _ mw_X11_look__5) (fun _ h9 => h9) rfl dX11_look_44 ?_
      refine lv_iload_n hx hb dX11_look_47 rfl (lv_at hl 1 rfl) ?_
      obtain ⟨r2, hf2⟩ : ∃ r, f160_X3_potOf fu c248_groups p1 = some r := by
        by_cases a1 : c248_groups ≤ 0
        · exact ⟨0, if_pos a1⟩
        · exact ⟨_, (if_neg a1).trans (if_pos (fun q => a1 (by rw [q]; decide)))⟩
      refine jw_mi (wc := [(h1, .inr (6, [.int c248_groups, .int c248_pots, .int c248_teams, .int c248_marks, .int c248_bars, .ref h17, .ref h2, .ref h18, .ref h19, .ref h20, .int c248_groupsNamed]))]) (cs := 0) (ss := 0) (va_runV (As := [.int p1]) (rest := []) ⟨hx, hb, hml, hown, hts⟩ (e160_X3_potOf fu h1 h17 h2 h18 h19 h20 c248_groups c248_pots c248_teams c248_marks c248_bars c248_groupsNamed p1 r2 hf2 H.size) (cwV 1 hts gX11_look_X3_potOf rfl rfl rfl ydV_X3_potOf ⟨Nat.le_of_ble_eq_true rfl, Nat.le_of_ble_eq_true rfl⟩) (jw_mpreV (ci := 6) (q0 := 1) hP hD hS hA hE [false, true] rfl rfl rfl) rfl rfl hl.1 rfl (lv_room (Nat.le_of_ble_eq_true rfl)) dX11_look_48 ⟨Nat.le_of_ble_eq_true rfl, Nat.le_of_ble_eq_true rfl⟩) hP hD hS hA [false, true] rfl rfl rfl (fun r9 w1 H locs hq9 hw9 hP hD hS => ?_)
      rw [hq9]
      subst hw9
      have hP : va_P D vwCl [(h0, .inr (14, [.ref h3, .int c73_taped, .ref h1, .ref h4, .ref h5, .ref h6, .ref h7, .ref h8, .ref h9, .ref h10, .ref h11, .ref h12, .ref h13, .ref h14, .ref h15, .ref h16, .int c73_nearestOrder, .int c73_nearestArrangement])), (h1, .inr (6, [.int c248_groups, .int c248_pots, .int c248_teams, .int c248_marks, .int c248_bars, .ref h17, .ref h2, .ref h18, .ref h19, .ref h20, .int c248_groupsNamed])), (h2, .inl (Y 1, 12, .inl a250))] H := hP
      have hD : va_D A [(h0, .inr (14, [.ref h3, .int c73_taped, .ref h1, .ref h4, .ref h5, .ref h6, .ref h7, .ref h8, .ref h9, .ref h10, .ref h11, .ref h12, .ref h13, .ref h14, .ref h15, .ref h16, .int c73_nearestOrder, .int c73_nearestArrangement])), (h1, .inr (6, [.int c248_groups, .int c248_pots, .int c248_teams, .int c248_marks, .int c248_bars, .ref h17, .ref h2, .ref h18, .ref h19, .ref h20, .int c248_groupsNamed])), (h2, .inl (Y 1, 12, .inl a250))] := hD
      refine lv_goto (tgt := 63) hx hb dX11_look_51 (by decide) ?_
      refine W.widen (k := 1) (n := 6) (Nat.le_of_ble_eq_true rfl) (Nat.le_of_ble_eq_true rfl) (vx_ret ?_)
      exact jw_iret hx hb hr hlocks trivial rfl hP hD hS dX11_look_63
    · refine lv_iload_n hx hb dX11_look_23 rfl (lv_at hl 2 rfl) ?_
      refine lv_iconst (v := 1) hx hb dX11_look_24 (by decide +kernel) ?_
      refine lv_icmp_eq (tgt := 39) hx hb dX11_look_25 (by decide) (fun c3 => ?_) (fun c3 => ?_)
      · refine lv_iload_n hx hb dX11_look_39 rfl (lv_at hl 2 rfl) ?_
        refine lv_if_ne (tgt := 54) hx hb dX11_look_40 (by decide) (fun _ => ?_) (fun c4 => absurd c4 c2)
        refine lv_aload_n hx hb dX11_look_54 rfl (lv_at hl 0 rfl) ?_
        refine va_get (D := D) (ci := 14) (v := .ref h1) (C := RX11) (T := TX11) (N := 18) hx hb hts iw_X11_look__X11 hown hE.1 hP 0 rfl rfl 2 (by decide) (hts _ mw_X11_look__5) (fun _ h9 => h9) rfl dX11_look_55 ?_
        refine va_getN (D := D) (ci := 6) (v := .ref h2) (C := RX3) (T := TX3) (N := 11) hx hb hts iw_X11_look__X3 hown hE.1 hP 1 rfl rfl 6 (by decide) (nf_X11_462 hE) (fun _ h9 => h9) rfl dX11_look_58 ?_
        refine lv_iload_n hx hb dX11_look_61 rfl (lv_at hl 1 rfl) ?_
        refine va_iald hx hb hE.1 hP 2 1 rfl rfl (dz_inp t0 (by omega)) dX11_look_62 ?_
        refine W.widen (k := 1) (n := 6) (Nat.le_of_ble_eq_true rfl) (Nat.le_of_ble_eq_true rfl) (vx_ret ?_)
        exact jw_iret hx hb hr hlocks trivial rfl hP hD hS dX11_look_63
      · exact jw_throwX (cls := "java/util/NoSuchElementException") (text := "no such what") (names := ["java/lang/RuntimeException", "java/lang/Exception"]) (ik := 457) (is := 459) (ic := 461) (ix := 13) (rx := jw_rx) hx hb hl9 jw_rx0 jw_rx1 jw_rx2 jw_rx5 hown (by decide +kernel) (by decide +kernel) (hts _ mw_X11_look__3) (hts _ mw_X11_look__4) hXE.2.1 (fun w h => hXE.word (List.mem_append_right _ h) _) (by decide +kernel) hXE.2.2.1 hXE.2.2.2.1 hS (hl.1.trans hml.symm) dX11_look_28 dX11_look_31 dX11_look_32 dX11_look_35 dX11_look_38 (fun x h => (hno x h).elim) (by decide) (by decide) (by decide) (by decide) hlocks (fun t hvm hz hk => ⟨(), trivial, ⟨Or.inr rfl, jw_keptP hP hk⟩, Nat.le_trans hS.1 hz, fun q g1 g2 => by rw [hk q (Nat.lt_of_lt_of_le g1 hS.1)]; exact hS.2.1 q g1 g2⟩) hS.2.2 (by decide) (by decide)
  · exact vx_throwSW (cls := "java/lang/IndexOutOfBoundsException") (text := "no such team") (names := ["java/lang/RuntimeException", "java/lang/Exception"]) (ik := 450) (is := 452) (ic := 454) hx hb hl9 hown (by decide +kernel) (by decide +kernel) (hts _ mw_X11_look__1) (hts _ mw_X11_look__2) hXE.1 (fun w h => hXE.word (List.mem_append_left _ h) _) (by decide +kernel) hXE.2.2.1 hXE.2.2.2.1 hS (hl.1.trans hml.symm) dX11_look_8 dX11_look_11 dX11_look_12 dX11_look_15 dX11_look_18 (fun x h => (hno x h).elim) (by decide) (by decide) (by decide) (by decide) hlocks (fun t hvm hz hk => ⟨(), trivial, ⟨Or.inl rfl, jw_keptP hP hk⟩, Nat.le_trans hS.1 hz, fun q g1 g2 => by rw [hk q (Nat.lt_of_lt_of_le g1 hS.1)]; exact hS.2.1 q g1 g2⟩) hS.2.2 (by decide) (by decide)
set_option maxHeartbeats 8000000 in
set_option maxRecDepth 100000 in
theorem kl_look {l : Launch} (hl9 : l.stackTraces = false) {D : va_G} {Y : Nat → ClassId} {tt : Nat → Nat} {sa sb : Nat} (fu : Nat) (h0 h1 h2 h3 h4 h5 h6 h7 h8 h9 h10 h11 h12 h13 h14 h15 h16 h17 h18 h19 h20 ho : Nat) (c73_taped : Int32) (c73_nearestOrder : Int32) (c73_nearestArrangement : Int32) (c248_groups : Int32) (c248_pots : Int32) (c248_teams : Int32) (c248_marks : Int32) (c248_bars : Int32) (c248_groupsNamed : Int32) (a250 : Nat → Int32) (ao : Nat → Int64) (p1 p2 : Int32) (t12 : c248_teams.toInt ≤ 12) (sz : Nat) : Met l yL_look wsL_look ({ frames := 9, cells := 1, slots := 6, locals := 222 }) (jw_Pcx D Y tt sa sb [.ref h0, .int p1, .int p2, .ref ho] [(h0, .inr (14, [.ref h3, .int c73_taped, .ref h1, .ref h4, .ref h5, .ref h6, .ref h7, .ref h8, .ref h9, .ref h10, .ref h11, .ref h12, .ref h13, .ref h14, .ref h15, .ref h16, .int c73_nearestOrder, .int c73_nearestArrangement])), (h1, .inr (6, [.int c248_groups, .int c248_pots, .int c248_teams, .int c248_marks, .int c248_bars, .ref h17, .ref h2, .ref h18, .ref h19, .ref h20, .int c248_groupsNamed])), (h2, .inl (Y 1, 12, .inl a250)), (ho, .inl (Y 2, 1, .inr (.inl ao)))] sz) (jw_Qi D (fun _ => True) (fun w => ∃ ao2, w = [(h0, .inr (14, [.ref h3, .int c73_taped, .ref h1, .ref h4, .ref h5, .ref h6, .ref h7, .ref h8, .ref h9, .ref h10, .ref h11, .ref h12, .ref h13, .ref h14, .ref h15, .ref h16, .int c73_nearestOrder, .int c73_nearestArrangement])), (h1, .inr (6, [.int c248_groups, .int c248_pots, .int c248_teams, .int c248_marks, .int c248_bars, .ref h17, .ref h2, .ref h18, .ref h19, .ref h20, .int c248_groupsNamed])), (h2, .inl (Y 1, 12, .inl a250)), (ho, .inl (Y 2, 1, .inr (.inl ao2)))]) (va_A [(h0, .inr (14, [.ref h3, .int c73_taped, .ref h1, .ref h4, .ref h5, .ref h6, .ref h7, .ref h8, .ref h9, .ref h10, .ref h11, .ref h12, .ref h13, .ref h14, .ref h15, .ref h16, .int c73_nearestOrder, .int c73_nearestArrangement])), (h1, .inr (6, [.int c248_groups, .int c248_pots, .int c248_teams, .int c248_marks, .int c248_bars, .ref h17, .ref h2, .ref h18, .ref h19, .ref h20, .int c248_groupsNamed])), (h2, .inl (Y 1, 12, .inl a250)), (ho, .inl (Y 2, 1, .inr (.inl ao)))] sz)) 1 6 (va_A [(h0, .inr (14, [.ref h3, .int c73_taped, .ref h1, .ref h4, .ref h5, .ref h6, .ref h7, .ref h8, .ref h9, .ref h10, .ref h11, .ref h12, .ref h13, .ref h14, .ref h15, .ref h16, .int c73_nearestOrder, .int c73_nearestArrangement])), (h1, .inr (6, [.int c248_groups, .int c248_pots, .int c248_teams, .int c248_marks, .int c248_bars, .ref h17, .ref h2, .ref h18, .ref h19, .ref h20, .int c248_groupsNamed])), (h2, .inl (Y 1, 12, .inl a250)), (ho, .inl (Y 2, 1, .inr (.inl ao)))] sz) := by
  refine va_MetW (cc := cL_look) (maxL := 5) (ret := (some .int)) pn_L_look rfl ?_
  intro p e s m args below meth c s₁ B hml hv
  obtain ⟨rfl, hsz, hP, hD0, hE, hXE⟩ := hv
  subst hsz
  have hx := B.exec
  have hb := B.bytes
  have hr := B.returns
  have hts := atoms_spec (ws := wsL_look) B.pre
  have hown : s.vm.findClass RL = some m.cls := findClass_of_methodNamed B.named
  have hlocks := B.notSynchronized
  have htab := vx_table (x := yL_look) B (hts _ List.mem_cons_self)
  have hl := lv_entry ([.ref h0, .int p1, .int p2, .ref ho]) (n := 5) (Nat.le_of_ble_eq_true rfl)
  rw [lg_entry_eq]
  generalize (lg_sl ([.ref h0, .int p1, .int p2, .ref ho]) ++ List.replicate (5 - (lg_sl ([.ref h0, .int p1, .int p2, .ref ho])).length) Slot.unset).toArray = ls at hl ⊢
  have hl : lv_has ls 5 [(0, .ref h0), (1, .int p1), (2, .int p2), (3, .ref ho)] := hl
  have hD := hD0.self (sz := s.heap.size)
  generalize hAe : va_A [(h0, .inr (14, [.ref h3, .int c73_taped, .ref h1, .ref h4, .ref h5, .ref h6, .ref h7, .ref h8, .ref h9, .ref h10, .ref h11, .ref h12, .ref h13, .ref h14, .ref h15, .ref h16, .int c73_nearestOrder, .int c73_nearestArrangement])), (h1, .inr (6, [.int c248_groups, .int c248_pots, .int c248_teams, .int c248_marks, .int c248_bars, .ref h17, .ref h2, .ref h18, .ref h19, .ref h20, .int c248_groupsNamed])), (h2, .inl (Y 1, 12, .inl a250)), (ho, .inl (Y 2, 1, .inr (.inl ao)))] s.heap.size = A at hD hE hXE ⊢
  have hA : ∀ q : Nat, s.heap.size ≤ q → A q := fun q h => by rw [← hAe]; exact Or.inr h
  have hS : va_S A s.heap s.heap [] := va_S.rf
  refine lv_aload_n hx hb dL_look_0 rfl (lv_at hl 3 rfl) ?_
  refine lv_iconst (v := 0) hx hb dL_look_1 (by decide +kernel) ?_
  refine lv_aload_n hx hb dL_look_2 rfl (lv_at hl 0 rfl) ?_
  refine lv_iload_n hx hb dL_look_3 rfl (lv_at hl 1 rfl) ?_
  refine lv_iload_n hx hb dL_look_4 rfl (lv_at hl 2 rfl) ?_
  have hC : jw_sel [true, true, true] [(h0, .inr (14, [.ref h3, .int c73_taped, .ref h1, .ref h4, .ref h5, .ref h6, .ref h7, .ref h8, .ref h9, .ref h10, .ref h11, .ref h12, .ref h13, .ref h14, .ref h15, .ref h16, .int c73_nearestOrder, .int c73_nearestArrangement])), (h1, .inr (6, [.int c248_groups, .int c248_pots, .int c248_teams, .int c248_marks, .int c248_bars, .ref h17, .ref h2, .ref h18, .ref h19, .ref h20, .int c248_groupsNamed])), (h2, .inl (Y 1, 12, .inl a250)), (ho, .inl (Y 2, 1, .inr (.inl ao)))] = [(h0, .inr (14, [.ref h3, .int c73_taped, .ref h1, .ref h4, .ref h5, .ref h6, .ref h7, .ref h8, .ref h9, .ref h10, .ref h11, .ref h12, .ref h13, .ref h14, .ref h15, .ref h16, .int c73_nearestOrder, .int c73_nearestArrangement])), (h1, .inr (6, [.int c248_groups, .int c248_pots, .int c248_teams, .int c248_marks, .int c248_bars, .ref h17, .ref h2, .ref h18, .ref h19, .ref h20, .int c248_groupsNamed])), (h2, .inl (Y 1, 12, .inl a250))] := rfl
  have hpre := jw_mpreSx (As := [.ref h0, .int p1, .int p2]) hP hD hS hA hE hXE [true, true, true] hC
  have hF := jw_freeM hD hS hA [true, true, true] hC
  have hD0' : va_D (va_A [(h0, .inr (14, [.ref h3, .int c73_taped, .ref h1, .ref h4, .ref h5, .ref h6, .ref h7, .ref h8, .ref h9, .ref h10, .ref h11, .ref h12, .ref h13, .ref h14, .ref h15, .ref h16, .int c73_nearestOrder, .int c73_nearestArrangement])), (h1, .inr (6, [.int c248_groups, .int c248_pots, .int c248_teams, .int c248_marks, .int c248_bars, .ref h17, .ref h2, .ref h18, .ref h19, .ref h20, .int c248_groupsNamed])), (h2, .inl (Y 1, 12, .inl a250))] s.heap.size) [(h0, .inr (14, [.ref h3, .int c73_taped, .ref h1, .ref h4, .ref h5, .ref h6, .ref h7, .ref h8, .ref h9, .ref h10, .ref h11, .ref h12, .ref h13, .ref h14, .ref h15, .ref h16, .int c73_nearestOrder, .int c73_nearestArrangement])), (h1, .inr (6, [.int c248_groups, .int c248_pots, .int c248_teams, .int c248_marks, .int c248_bars, .ref h17, .ref h2, .ref h18, .ref h19, .ref h20, .int c248_groupsNamed])), (h2, .inl (Y 1, 12, .inl a250))] := va_D.self (sz := s.heap.size) (hD0.sub [0, 1, 2] rfl rfl)
  refine vx_calli (vx_runV (As := [.int p1, .int p2]) (rest := [.int 0, .ref ho]) ⟨hx, hb, hml, hown, hts⟩ (kx_look hl9 fu h0 h1 h2 h3 h4 h5 h6 h7 h8 h9 h10 h11 h12 h13 h14 h15 h16 h17 h18 h19 h20 c73_taped c73_nearestOrder c73_nearestArrangement c248_groups c248_pots c248_teams c248_marks c248_bars c248_groupsNamed a250 p1 p2 t12 s.heap.size) (cwV 2 hts gL_look_X11_look rfl rfl rfl ydV_X11_look ⟨Nat.le_of_ble_eq_true rfl, Nat.le_of_ble_eq_true rfl⟩) ⟨hpre.1, va_recv hE.1 hP (ci := 14) (q0 := 0) rfl rfl, hpre.2⟩ rfl rfl hl.1 rfl (lv_room (Nat.le_of_ble_eq_true rfl)) dL_look_5 ⟨Nat.le_of_ble_eq_true rfl, Nat.le_of_ble_eq_true rfl⟩) hS (fun q _ h => hF q h) hF (fun q _ h => hF q h) (fun E ce q9 u t H1 locs1 ht hvm hu hEq hz hk hS1 hc1 hc2 hc3 => ?_) (fun r u t H1 locs1 ht hvm hw hB hz hk hS1 => ?_)
  · obtain ⟨hEE, hP1⟩ := hEq
    rw [ht] at hP1
    obtain ⟨hP9, hD9⟩ := jw_join hP hD [true, true, true] hC hk hF hP1 hD0'
    have hP9 : va_P D vwCl [(h0, .inr (14, [.ref h3, .int c73_taped, .ref h1, .ref h4, .ref h5, .ref h6, .ref h7, .ref h8, .ref h9, .ref h10, .ref h11, .ref h12, .ref h13, .ref h14, .ref h15, .ref h16, .int c73_nearestOrder, .int c73_nearestArrangement])), (h1, .inr (6, [.int c248_groups, .int c248_pots, .int c248_teams, .int c248_marks, .int c248_bars, .ref h17, .ref h2, .ref h18, .ref h19, .ref h20, .int c248_groupsNamed])), (h2, .inl (Y 1, 12, .inl a250)), (ho, .inl (Y 2, 1, .inr (.inl ao)))] H1 := hP9
    have hD9 : va_D A [(h0, .inr (14, [.ref h3, .int c73_taped, .ref h1, .ref h4, .ref h5, .ref h6, .ref h7, .ref h8, .ref h9, .ref h10, .ref h11, .ref h12, .ref h13, .ref h14, .ref h15, .ref h16, .int c73_nearestOrder, .int c73_nearestArrangement])), (h1, .inr (6, [.int c248_groups, .int c248_pots, .int c248_teams, .int c248_marks, .int c248_bars, .ref h17, .ref h2, .ref h18, .ref h19, .ref h20, .int c248_groupsNamed])), (h2, .inl (Y 1, 12, .inl a250)), (ho, .inl (Y 2, 1, .inr (.inl ao)))] := hD9
    rcases hEE with hEE | hEE
    · subst hEE
      refine vx_catch (name := "java/lang/IndexOutOfBoundsException") hown [] ⟨0, 10, 13, 13⟩ [⟨0, 10, 17, 15⟩] htab (fun z hz9 => nomatch hz9) (by decide) (by decide) (hts _ (List.mem_of_getElem? (i := 1) rfl)) (hXE.word (by decide +kernel) _) hc1 hc2 hc3 ?_
      refine lv_astore (lv' := [(4, .ref q9), (0, .ref h0), (1, .int p1), (2, .int p2), (3, .ref ho)]) hx hb dL_look_13 hl (by decide) rfl (fun ls hl => ?_)
      refine lv_iconst (v := 1) hx hb dL_look_15 (by decide +kernel) ?_
      exact jw_iret hx hb hr hlocks trivial ⟨ao, rfl⟩ hP9 hD9 hS1 dL_look_16
    · subst hEE
      refine vx_catch (name := "java/util/NoSuchElementException") hown [⟨0, 10, 13, 13⟩] ⟨0, 10, 17, 15⟩ [] htab (fun z hz9 => ?_) (by decide) (by decide) (hts _ (List.mem_of_getElem? (i := 2) rfl)) (hXE.word (by decide +kernel) _) hc1 hc2 hc3 ?_
      · have hz9 := List.mem_singleton.mp hz9
        subst hz9
        exact Or.inr ⟨by decide, _, hts _ (List.mem_of_getElem? (i := 1) rfl), hXE.2.2.2.2.1⟩
      · refine lv_astore (lv' := [(4, .ref q9), (0, .ref h0), (1, .int p1), (2, .int p2), (3, .ref ho)]) hx hb dL_look_17 hl (by decide) rfl (fun ls hl => ?_)
        refine lv_iconst (v := 2) hx hb dL_look_19 (by decide +kernel) ?_
        exact jw_iret hx hb hr hlocks trivial ⟨ao, rfl⟩ hP9 hD9 hS1 dL_look_20
  · obtain ⟨w1, hw1, hP1, hD1⟩ := hB
    subst hw1
    rw [ht] at hP1
    obtain ⟨hP9, hD9⟩ := jw_join hP hD [true, true, true] hC hk hF hP1 hD1
    have hP : va_P D vwCl [(h0, .inr (14, [.ref h3, .int c73_taped, .ref h1, .ref h4, .ref h5, .ref h6, .ref h7, .ref h8, .ref h9, .ref h10, .ref h11, .ref h12, .ref h13, .ref h14, .ref h15, .ref h16, .int c73_nearestOrder, .int c73_nearestArrangement])), (h1, .inr (6, [.int c248_groups, .int c248_pots, .int c248_teams, .int c248_marks, .int c248_bars, .ref h17, .ref h2, .ref h18, .ref h19, .ref h20, .int c248_groupsNamed])), (h2, .inl (Y 1, 12, .inl a250)), (ho, .inl (Y 2, 1, .inr (.inl ao)))] H1 := hP9
    have hD : va_D A [(h0, .inr (14, [.ref h3, .int c73_taped, .ref h1, .ref h4, .ref h5, .ref h6, .ref h7, .ref h8, .ref h9, .ref h10, .ref h11, .ref h12, .ref h13, .ref h14, .ref h15, .ref h16, .int c73_nearestOrder, .int c73_nearestArrangement])), (h1, .inr (6, [.int c248_groups, .int c248_pots, .int c248_teams, .int c248_marks, .int c248_bars, .ref h17, .ref h2, .ref h18, .ref h19, .ref h20, .int c248_groupsNamed])), (h2, .inl (Y 1, 12, .inl a250)), (ho, .inl (Y 2, 1, .inr (.inl ao)))] := hD9
    have hS := hS1
    refine lv_i2l (v := r.toInt64) hx hb dL_look_8 rfl ?_
    refine va_last hx hb hE.1 hP hD hS 3 2 rfl rfl (dz_inp (by decide) (by decide)) dL_look_9 (fun H locs hP hD hS => ?_)
    refine lv_goto (tgt := 21) hx hb dL_look_10 (by decide) ?_
    refine lv_iconst (v := 0) hx hb dL_look_21 (by decide +kernel) ?_
    exact jw_iret hx hb hr hlocks trivial ⟨_, rfl⟩ hP hD hS dL_look_22
