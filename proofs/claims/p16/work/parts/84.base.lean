/-! the law: its script, what a case needs of the cells, its end -/
theorem jw_pickP {D : va_G} {ws w1 : va_W} {H : Heap} (hP : va_P D vwCl ws H) (mk : List Bool) (h : jw_sel mk ws = w1) : va_P D vwCl w1 H := by
  subst h
  exact jw_P_iff.mpr (fun x hx => jw_P_iff.mp hP x (jw_sel_mem hx))
theorem jw_pickD {A : Nat → Prop} {ws w1 : va_W} (hD : va_D A ws) (mk : List Bool) (h : jw_sel mk ws = w1) : va_D A w1 := by
  subst h
  have hd := jw_D_iff.mp hD
  exact jw_D_iff.mpr ⟨(jw_sel_sub.map _).nodup hd.1, fun x hx => hd.2 x (jw_sel_mem hx)⟩
theorem jw_sld {p : Program} {l : Launch} {e : Env} {R : Room} {s : State} {m : MethodId} {args : Array Value} {below : List Frame} {meth : Method} {c : Code} {H : Heap} {locs : List Loc} {cells slots : Nat} {Q : State → Prop} {cc : ByteArray} {pc : Nat} {ls : Array Slot} {rest : List Value} {A : Nat → Prop} (hx : p.tables.exec = Jvm.exec) (hb : c.code = cc) {b L : Nat} {xs : Nat → Int32} (hX : va_X b L xs s s.heap) (hbl : b < s.heap.size) (hbA : ¬ A b) (hS : va_S A s.heap H locs) (k : Nat) {i v : Int32} (hi : jw_ix i L k = true) (hv : xs k = v) (hdg : decode cc pc = .ok (.iaload, 1))
    (kk : W p l e R s m args below meth c H locs cells slots Q (F0 m (pc + 1) ls (.int v :: rest))) : W p l e R s m args below meth c H locs cells slots Q (F0 m pc ls (.int i :: .ref b :: rest)) := by
  obtain ⟨h1, h2⟩ := jw_ix_in hi
  subst h2 hv
  exact va_sld hx hb hX hbl hbA hS h1 hdg kk
set_option maxHeartbeats 4000000 in
theorem law_exit {p : Program} {l : Launch} {e : Env} {s : State} {m : MethodId} {below : List Frame} {meth : Method} {c : Code} {b L : Nat} {xs : Nat → Int32} {A : Nat → Prop} {H : Heap} {locs : List Loc} {ls : Array Slot} {cells slots : Nat} (C0 : lw_At p s m meth c b L xs) (hAo : ∀ q, A q → s.heap.size ≤ q) (hS : va_S A s.heap H locs) (hc : cells ≤ 601024) (hs : slots ≤ 7293034) : W p l e room_1 s m #[Value.ref b] below meth c H locs cells slots (lw_Z below #[Value.ref b] s) (F0 m 1202 ls []) := by
  obtain ⟨hx, hb, hr, hml, hown, hts, hX, hbl, hlocks, hgv⟩ := id C0
  refine lv_iconst (v := 1) hx hb dL_law_1202 (by decide +kernel) ?_
  refine va_forget (fun q hq => hAo _ (hS.2.2 q hq)) ?_
  refine W.widen (k := 601024) (n := 7293034) hc hs ?_
  exact lw_ret hx hb hr hlocks dL_law_1203
/-! the law: the room, the world between calls, what a call is to leave -/
def jw_c (n269 n306 n308 j : Nat) : Nat := 1000 + dz_pot n269 + dz_potT n306 + dz_pot n308 + 8 * j
def jw_sl (n269 n306 n308 j : Nat) : Nat := 399000 + jw_c n269 n306 n308 j
theorem jw_cb (n269 n306 n308 : Nat) {j : Nat} (hj : j ≤ 512) : jw_c n269 n306 n308 j ≤ 110000 := by
  have h1 := dz_potb n269
  have h2 := dz_potTb n306
  have h3 := dz_potb n308
  unfold jw_c
  omega
theorem jw_sb (n269 n306 n308 : Nat) {j : Nat} (hj : j ≤ 512) : jw_sl n269 n306 n308 j ≤ 509000 := by
  have h1 := jw_cb n269 n306 n308 hj
  unfold jw_sl
  omega
theorem jw_hf {C S U : Nat} (hC : C ≤ 200000) (hS : S ≤ 600000) (hU : U ≤ 40000) : C + U ≤ room_1.cells ∧ S + U ≤ room_1.slots := ⟨show C + U ≤ 601024 by omega, show S + U ≤ 7293034 by omega⟩
