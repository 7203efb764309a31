/-! THE BASE: what every contract of p1 is said in, and rows that name what an instruction gives -/
/-- the array classes: bytes, ints, longs, booleans, rows of Chances -/
abbrev jw_T (Y : Nat → ClassId) : List (ClassId × FieldType) := [(Y 0, .byte), (Y 1, .int), (Y 2, .long), (Y 3, .boolean), (Y 4, .object "BallPots$Chances")]
/-- a row's numbers: those of xs, then b -/
def jw_l (b : Int32) (xs : List Int32) : Nat → Int32 := fun j => xs.getD j b
def jw_L (b : Int64) (xs : List Int64) : Nat → Int64 := fun j => xs.getD j b
def jw_R (xs : List (Option Nat)) : Nat → Option Nat := fun j => xs.getD j none
/-- xs with v at k, b between -/
def jw_up {α : Type} (b : α) (v : α) : Nat → List α → List α
  | 0, [] => [v]
  | 0, _ :: t => v :: t
  | k + 1, [] => b :: jw_up b v k []
  | k + 1, h :: t => h :: jw_up b v k t
theorem jw_up_get {α : Type} (b v : α) (k : Nat) (xs : List α) (j : Nat) : (jw_up b v k xs).getD j b = if j = k then v else xs.getD j b := by
  induction k generalizing xs j with
  | zero =>
    cases xs with
    | nil => cases j <;> simp [jw_up]
    | cons h t => cases j <;> simp [jw_up]
  | succ k ih =>
    cases xs with
    | nil =>
      cases j with
      | zero => simp [jw_up]
      | succ j => simpa [jw_up] using ih [] j
    | cons h t =>
      cases j with
      | zero => simp [jw_up]
      | succ j => simpa [jw_up] using ih t j
theorem jw_upd {b v : Int32} {k : Nat} {xs ys : List Int32} (h : jw_up b v k xs = ys) : upd (jw_l b xs) k v = jw_l b ys := by
  subst h
  funext j
  exact (jw_up_get b v k xs j).symm
theorem jw_updL {b v : Int64} {k : Nat} {xs ys : List Int64} (h : jw_up b v k xs = ys) : vp_updL (jw_L b xs) k v = jw_L b ys := by
  subst h
  funext j
  exact (jw_up_get b v k xs j).symm
theorem jw_updR {v : Nat} {k : Nat} {xs ys : List (Option Nat)} (h : jw_up none (some v) k xs = ys) : va_up (jw_R xs) k (some v) = jw_R ys := by
  subst h
  funext j
  exact (jw_up_get none (some v) k xs j).symm
/-- i is the place k of a row of n -/
def jw_ix (i : Int32) (n k : Nat) : Bool := decide (i = nI k) && (Nat.blt k n && Nat.blt n 2147483648)
theorem jw_ix_in {i : Int32} {n k : Nat} (h : jw_ix i n k = true) : vp_in i n ∧ i.toNatClampNeg = k := by
  unfold jw_ix at h
  simp only [Bool.and_eq_true, decide_eq_true_eq] at h
  obtain ⟨h1, h2, h3⟩ := h
  have h2 : k < n := Nat.le_of_ble_eq_true h2
  have h3 : n < 2147483648 := Nat.le_of_ble_eq_true h3
  subst h1
  exact ⟨vp_in_nI h2 h3, nI_clamp (by omega)⟩
theorem jw_flt {a b : Int32} (h : a < b) : a.toInt < b.toInt := Int32.lt_iff_toInt_lt.mp h
theorem jw_fle {a b : Int32} (h : a ≤ b) : a.toInt ≤ b.toInt := Int32.le_iff_toInt_le.mp h
theorem jw_fnl {a b : Int32} (h : ¬ a < b) : b.toInt ≤ a.toInt := Int.not_lt.mp (fun q => h (Int32.lt_iff_toInt_lt.mpr q))
theorem jw_fnle {a b : Int32} (h : ¬ a ≤ b) : b.toInt < a.toInt := Int.not_le.mp (fun q => h (Int32.le_iff_toInt_le.mpr q))
theorem jw_feq {a b : Int32} (h : a = b) : a.toInt = b.toInt := by rw [h]
theorem jw_fne {a b : Int32} (h : ¬ a = b) : a.toInt ≠ b.toInt := fun q => h (Int32.toInt_inj.mp q)
theorem jw_of {a b : Int32} (h : a.toInt = b.toInt) : a = b := Int32.toInt_inj.mp h
/-- rows are alike where their places are -/
theorem jw_cellI {cA : ClassId} {n : Nat} {f g : Nat → Int32} (h : ∀ j, j < n → f j = g j) : vp_cell cA (n, .inl f) = vp_cell cA (n, .inl g) := by
  rw [vp_cell_i, vp_cell_i]
  have e : (Array.ofFn (n := n) fun j => Value.int (f j.val)) = (Array.ofFn (n := n) fun j => Value.int (g j.val)) := by
    congr 1
    funext j
    rw [h j.val j.isLt]
  simp only [arrV, e]
theorem jw_cellL {cA : ClassId} {n : Nat} {f g : Nat → Int64} (h : ∀ j, j < n → f j = g j) : vp_cell cA (n, .inr (.inl f)) = vp_cell cA (n, .inr (.inl g)) := by
  rw [vp_cell_l, vp_cell_l]
  have e : (Array.ofFn (n := n) fun j => Value.long (f j.val)) = (Array.ofFn (n := n) fun j => Value.long (g j.val)) := by
    congr 1
    funext j
    rw [h j.val j.isLt]
  simp only [arrV, e]
/-- the world of one row, said otherwise -/
theorem jw_P1I {D : va_G} {a : Nat} {cA : ClassId} {n : Nat} {f g : Nat → Int32} {H : Heap} (h : ∀ j, j < n → f j = g j) (hP : va_P D vwCl [(a, .inl (cA, n, .inl f))] H) : va_P D vwCl [(a, .inl (cA, n, .inl g))] H := by
  intro k q hk
  have hz : k < 1 := (List.getElem?_eq_some_iff.mp hk).1
  rw [show k = 0 by omega] at hk
  cases hk
  have := hP 0 _ rfl
  show H[a]? = some (vp_cell _ _)
  rw [← jw_cellI h]
  exact this
theorem jw_P1L {D : va_G} {a : Nat} {cA : ClassId} {n : Nat} {f g : Nat → Int64} {H : Heap} (h : ∀ j, j < n → f j = g j) (hP : va_P D vwCl [(a, .inl (cA, n, .inr (.inl f)))] H) : va_P D vwCl [(a, .inl (cA, n, .inr (.inl g)))] H := by
  intro k q hk
  have hz : k < 1 := (List.getElem?_eq_some_iff.mp hk).1
  rw [show k = 0 by omega] at hk
  cases hk
  have := hP 0 _ rfl
  show H[a]? = some (vp_cell _ _)
  rw [← jw_cellL h]
  exact this
theorem jw_D1 {A : Nat → Prop} {a : Nat} {x y : va_E} (h : va_D A [(a, x)]) : va_D A [(a, y)] := by
  refine ⟨fun i j p q hi hj _ => ?_, fun k q hk => ?_⟩
  · have h1 : i < 1 := (List.getElem?_eq_some_iff.mp hi).1
    have h2 : j < 1 := (List.getElem?_eq_some_iff.mp hj).1
    omega
  · have hz : k < 1 := (List.getElem?_eq_some_iff.mp hk).1
    rw [show k = 0 by omega] at hk
    cases hk
    exact h.2 0 (a, x) rfl
/-- what the statics hold -/
def jw_s0 : Nat → Int32 := jw_l 0 [0, 1, 2, 3]
def jw_s1 : Nat → Int32 := jw_l 0 [1, 1, 2, 6, 24]
def jw_s2 : Nat → Int32 := jw_l 0 [1, 1, 4, 72, 3456]
def jw_s3 : Nat → Int32 := jw_l 0 [1, 1, 2, 6, 12]
def jw_stat (C n : String) (t N : Nat) (f : Nat → Int32) (A : Nat → Prop) (U : State) (H : Heap) : Prop := va_Z C n "[I" (.ref t) A U H ∧ va_T .int t N (fun j => .int (f j)) A U H
theorem jw_stat.moved {C n : String} {t N : Nat} {f : Nat → Int32} {A : Nat → Prop} {u U : State} {H : Heap} (hvm : u.vm.Alike U.vm) (h : jw_stat C n t N f A u H) : jw_stat C n t N f A U H := ⟨h.1.moved hvm, h.2.moved hvm⟩
theorem jw_stat.kept {C n : String} {t N : Nat} {f : Nat → Int32} {A : Nat → Prop} {U : State} {H H1 : Heap} (h : jw_stat C n t N f A U H) (hq : ∀ a : Nat, a < H.size → ¬ A a → H1[a]? = H[a]?) : jw_stat C n t N f A U H1 := ⟨h.1.kept hq, h.2.kept hq⟩
theorem jw_stat.narrow {C n : String} {t N : Nat} {f : Nat → Int32} {A B : Nat → Prop} {U : State} {H : Heap} (h : jw_stat C n t N f A U H) (hAB : ∀ q, B q → A q) : jw_stat C n t N f B U H := ⟨h.1.narrow hAB, h.2.narrow hAB⟩
/-- what is there around every call: the classes, the nest's links, the statics -/
def jw_E (D : va_G) (Y : Nat → ClassId) (tt : Nat → Nat) (A : Nat → Prop) (U : State) (H : Heap) : Prop :=
  va_K D vwCl (jw_T Y) U ∧ (∀ q ∈ jw_nf, va_Nw (.fieldLinkNest q.1 q.2.1 q.2.2.1 q.2.2.2.1 q.2.2.2.2.1 q.2.2.2.2.2) U) ∧ (∀ q ∈ jw_nm, va_Nw (.methodLinkNest q.1 q.2.1 q.2.2.1 q.2.2.2) U) ∧ va_AO "BallPots$Chances" U ∧
  jw_stat "BallPots" "IN_TURN" (tt 0) 4 jw_s0 A U H ∧ jw_stat "BallPots" "SKIP_ROWS" (tt 1) 5 jw_s1 A U H ∧ jw_stat "BallPots" "FIELD_ROWS" (tt 2) 5 jw_s2 A U H ∧ jw_stat "BallPots" "SHARES" (tt 3) 5 jw_s3 A U H
theorem jw_E.call {D : va_G} {Y : Nat → ClassId} {tt : Nat → Nat} {A B : Nat → Prop} {s U : State} {H : Heap} {locs : List Loc} (h : jw_E D Y tt A s s.heap) (hS : va_S A s.heap H locs) (hF : ∀ q, B q → A q) (hU : U.heap = H) (hW : s.WarmedH U.vm) : jw_E D Y tt B U U.heap := by
  obtain ⟨h1, h2, h3, h4, h5, h6, h7, h8⟩ := h
  have hq : ∀ a : Nat, a < s.heap.size → ¬ A a → U.heap[a]? = s.heap[a]? := fun a x y => by rw [hU]; exact hS.2.1 a x y
  exact ⟨h1.moved hW.alike, fun q hq => va_Nw.warmF hW (h2 q hq), fun q hq => va_Nw.warmM hW (h3 q hq), h4.moved hW.alike, ((h5.kept hq).moved hW.alike).narrow hF, ((h6.kept hq).moved hW.alike).narrow hF, ((h7.kept hq).moved hW.alike).narrow hF, ((h8.kept hq).moved hW.alike).narrow hF⟩
theorem jw_E.calling {D : va_G} {Y : Nat → ClassId} {tt : Nat → Nat} {A : Nat → Prop} {U : State} {g : JFrame} {mk : MethodId} {a : Array Value} (h : jw_E D Y tt A U U.heap) : jw_E D Y tt A (U.calling g mk a) (U.calling g mk a).heap := by
  obtain ⟨h1, h2, h3, h4, h5, h6, h7, h8⟩ := h
  have e : U.vm.Alike (U.calling g mk a).vm := Vm.Alike.refl U.vm
  exact ⟨h1.moved e, fun q hq => (h2 q hq).same rfl rfl, fun q hq => (h3 q hq).same rfl rfl, h4.moved e, h5.moved e, h6.moved e, h7.moved e, h8.moved e⟩
/-- a contract's start -/
abbrev jw_Pc (D : va_G) (Y : Nat → ClassId) (tt : Nat → Nat) (As : List Value) (w0 : va_W) (sz : Nat) : Array Value → State → Prop :=
  va_Pc As (fun U => U.heap.size = sz ∧ va_P D vwCl w0 U.heap ∧ va_D (fun _ => True) w0 ∧ jw_E D Y tt (va_A w0 sz) U U.heap)
theorem jw_blind {D : va_G} {Y : Nat → ClassId} {tt : Nat → Nat} {As : List Value} {w0 : va_W} {sz : Nat} : FrameBlind (jw_Pc D Y tt As w0 sz) := by
  intro a U g mk h
  obtain ⟨h1, h2, h3, h4, h5⟩ := h
  exact ⟨h1, h2, h3, h4, h5.calling⟩
/-- the world behind a call -/
abbrev jw_B (D : va_G) (W1 : va_W → Prop) (A : Nat → Prop) : Unit → State → Prop := fun _ t => ∃ w1, W1 w1 ∧ va_P D vwCl w1 t.heap ∧ va_D A w1
abbrev jw_Qv (D : va_G) (W1 : va_W → Prop) (A : Nat → Prop) := va_Qv (fun _ : Unit => True) (jw_B D W1 A) A
abbrev jw_Qi (D : va_G) (P : Int32 → Prop) (W1 : va_W → Prop) (A : Nat → Prop) := va_Qi (fun (r : Int32) (_ : Unit) => P r) (jw_B D W1 A) A
abbrev jw_Ql (D : va_G) (P : Int64 → Prop) (W1 : va_W → Prop) (A : Nat → Prop) := va_Ql (fun (r : Int64) (_ : Unit) => P r) (jw_B D W1 A) A
abbrev jw_Qr (D : va_G) (P : Nat → Prop) (W1 : va_W → Prop) (A : Nat → Prop) := va_Qr (fun _ : Unit => True) (fun _ a t => P a ∧ jw_B D W1 A () t) A
theorem jw_met {l : Launch} {D : va_G} {Y : Nat → ClassId} {tt : Nat → Nat} {y : MethodName} {cc : ByteArray} {maxL : Nat} {ret : Option FieldType} {wsY ws' : List Cond} {rm : Room} {As : List Value} {w0 : va_W} {sz mc ms : Nat} (Qc : (Nat → Prop) → Array Value → State → Outcome → State → Prop)
    (hy : plainName y.cls = true) (hw : wsY = Cond.code y cc maxL ret :: ws') (hAs : Nat.ble (lg_sl As).length maxL = true)
    (body : ∀ (p : Program) (e : Env) (s : State) (m : MethodId) (below : List Frame) (meth : Method) (c : Code) (A : Nat → Prop) (H : Heap) (locs : List Loc) (ls : Array Slot), p.tables.exec = Jvm.exec → c.code = cc → c.maxLocals = maxL → meth.sig.returnType = ret → (∀ w ∈ wsY, w.before As.toArray s = true) → s.vm.findClass y.cls = some m.cls → meth.locks = false → meth.name = y.name → va_P D vwCl w0 H → va_D A w0 → (∀ q, s.heap.size ≤ q → A q) → va_S A s.heap H locs → jw_E D Y tt A s s.heap → lv_has ls maxL (lv_args 0 As) →
      W p l e rm s m As.toArray below meth c H locs 0 0 (MQ below (Qc A) As.toArray s mc ms A) (F0 m 0 ls [])) :
    Met l y wsY rm (jw_Pc D Y tt As w0 sz) (Qc (va_A w0 sz)) mc ms (va_A w0 sz) := by
  refine Met.ofW (cc := cc) (maxL := maxL) (ret := ret) hy hw ?_
  intro p e s m args below meth c s₁ B hml hv
  obtain ⟨rfl, hsz, hP, hD0, hE⟩ := hv
  subst hsz
  have hl := lv_entry As (n := maxL) (Nat.le_of_ble_eq_true hAs)
  rw [lg_entry_eq]
  exact body p e s m below meth c (va_A w0 s.heap.size) s.heap [] _ B.exec B.bytes hml B.returns (atoms_spec (ws := wsY) B.pre) (findClass_of_methodNamed B.named) B.notSynchronized (name_of_methodNamed B.named B.method).1 hP hD0.self (fun q h => Or.inr h) va_S.rf hE hl
section JW
variable {p : Program} {l : Launch} {e : Env} {R : Room} {s : State} {m : MethodId} {args : Array Value} {below : List Frame} {meth : Method} {c : Code} {H : Heap} {locs : List Loc} {cells slots : Nat} {Q : State → Prop}
variable {cc : ByteArray} {pc : Nat} {ls : Array Slot} {rest : List Value} {D : va_G} {Y : Nat → ClassId} {tt : Nat → Nat} {A : Nat → Prop} {a : Nat} {ws : va_W}
/-! numbers, named -/
theorem jw_n {x v : Int32} (h : x = v) (k : W p l e R s m args below meth c H locs cells slots Q (F0 m pc ls (.int v :: rest))) : W p l e R s m args below meth c H locs cells slots Q (F0 m pc ls (.int x :: rest)) := h ▸ k
theorem jw_nl {x v : Int64} (h : x = v) (k : W p l e R s m args below meth c H locs cells slots Q (F0 m pc ls (.long v :: rest))) : W p l e R s m args below meth c H locs cells slots Q (F0 m pc ls (.long x :: rest)) := h ▸ k
theorem jw_iadd (hx : p.tables.exec = Jvm.exec) (hb : c.code = cc) {x y v : Int32} (hdg : decode cc pc = .ok (.iadd, 1)) (h : x + y = v) (k : W p l e R s m args below meth c H locs cells slots Q (F0 m (pc + 1) ls (.int v :: rest))) : W p l e R s m args below meth c H locs cells slots Q (F0 m pc ls (.int y :: .int x :: rest)) := lv_iadd hx hb hdg (jw_n h k)
theorem jw_isub (hx : p.tables.exec = Jvm.exec) (hb : c.code = cc) {x y v : Int32} (hdg : decode cc pc = .ok (.isub, 1)) (h : x - y = v) (k : W p l e R s m args below meth c H locs cells slots Q (F0 m (pc + 1) ls (.int v :: rest))) : W p l e R s m args below meth c H locs cells slots Q (F0 m pc ls (.int y :: .int x :: rest)) := lv_isub hx hb hdg (jw_n h k)
theorem jw_imul (hx : p.tables.exec = Jvm.exec) (hb : c.code = cc) {x y v : Int32} (hdg : decode cc pc = .ok (.imul, 1)) (h : x * y = v) (k : W p l e R s m args below meth c H locs cells slots Q (F0 m (pc + 1) ls (.int v :: rest))) : W p l e R s m args below meth c H locs cells slots Q (F0 m pc ls (.int y :: .int x :: rest)) := lv_imul hx hb hdg (jw_n h k)
theorem jw_idiv (hx : p.tables.exec = Jvm.exec) (hb : c.code = cc) {x y v : Int32} (hdg : decode cc pc = .ok (.idiv, 1)) (hne : ¬ y = 0) (h : x / y = v) (k : W p l e R s m args below meth c H locs cells slots Q (F0 m (pc + 1) ls (.int v :: rest))) : W p l e R s m args below meth c H locs cells slots Q (F0 m pc ls (.int y :: .int x :: rest)) := lv_idiv hx hb hdg hne (jw_n h k)
theorem jw_irem (hx : p.tables.exec = Jvm.exec) (hb : c.code = cc) {x y v : Int32} (hdg : decode cc pc = .ok (.irem, 1)) (hne : ¬ y = 0) (h : x - x / y * y = v) (k : W p l e R s m args below meth c H locs cells slots Q (F0 m (pc + 1) ls (.int v :: rest))) : W p l e R s m args below meth c H locs cells slots Q (F0 m pc ls (.int y :: .int x :: rest)) := lv_irem hx hb hdg hne (jw_n h k)
theorem jw_iand (hx : p.tables.exec = Jvm.exec) (hb : c.code = cc) {x y v : Int32} (hdg : decode cc pc = .ok (.iand, 1)) (h : x &&& y = v) (k : W p l e R s m args below meth c H locs cells slots Q (F0 m (pc + 1) ls (.int v :: rest))) : W p l e R s m args below meth c H locs cells slots Q (F0 m pc ls (.int y :: .int x :: rest)) := lv_iand hx hb hdg (jw_n h k)
theorem jw_ior (hx : p.tables.exec = Jvm.exec) (hb : c.code = cc) {x y v : Int32} (hdg : decode cc pc = .ok (.ior, 1)) (h : x ||| y = v) (k : W p l e R s m args below meth c H locs cells slots Q (F0 m (pc + 1) ls (.int v :: rest))) : W p l e R s m args below meth c H locs cells slots Q (F0 m pc ls (.int y :: .int x :: rest)) := lv_ior hx hb hdg (jw_n h k)
theorem jw_ixor (hx : p.tables.exec = Jvm.exec) (hb : c.code = cc) {x y v : Int32} (hdg : decode cc pc = .ok (.ixor, 1)) (h : x ^^^ y = v) (k : W p l e R s m args below meth c H locs cells slots Q (F0 m (pc + 1) ls (.int v :: rest))) : W p l e R s m args below meth c H locs cells slots Q (F0 m pc ls (.int y :: .int x :: rest)) := lv_ixor hx hb hdg (jw_n h k)
theorem jw_ishl (hx : p.tables.exec = Jvm.exec) (hb : c.code = cc) {x y v : Int32} (hdg : decode cc pc = .ok (.ishl, 1)) (h : x <<< (y &&& 31) = v) (k : W p l e R s m args below meth c H locs cells slots Q (F0 m (pc + 1) ls (.int v :: rest))) : W p l e R s m args below meth c H locs cells slots Q (F0 m pc ls (.int y :: .int x :: rest)) := lv_ishl hx hb hdg (jw_n h k)
theorem jw_ishr (hx : p.tables.exec = Jvm.exec) (hb : c.code = cc) {x y v : Int32} (hdg : decode cc pc = .ok (.ishr, 1)) (h : x >>> (y &&& 31) = v) (k : W p l e R s m args below meth c H locs cells slots Q (F0 m (pc + 1) ls (.int v :: rest))) : W p l e R s m args below meth c H locs cells slots Q (F0 m pc ls (.int y :: .int x :: rest)) := lv_ishr hx hb hdg (jw_n h k)
theorem jw_ladd (hx : p.tables.exec = Jvm.exec) (hb : c.code = cc) {x y v : Int64} (hdg : decode cc pc = .ok (.ladd, 1)) (h : x + y = v) (k : W p l e R s m args below meth c H locs cells slots Q (F0 m (pc + 1) ls (.long v :: rest))) : W p l e R s m args below meth c H locs cells slots Q (F0 m pc ls (.long y :: .long x :: rest)) := lv_ladd hx hb hdg (jw_nl h k)
theorem jw_lsub (hx : p.tables.exec = Jvm.exec) (hb : c.code = cc) {x y v : Int64} (hdg : decode cc pc = .ok (.lsub, 1)) (h : x - y = v) (k : W p l e R s m args below meth c H locs cells slots Q (F0 m (pc + 1) ls (.long v :: rest))) : W p l e R s m args below meth c H locs cells slots Q (F0 m pc ls (.long y :: .long x :: rest)) := lv_lsub hx hb hdg (jw_nl h k)
theorem jw_lmul (hx : p.tables.exec = Jvm.exec) (hb : c.code = cc) {x y v : Int64} (hdg : decode cc pc = .ok (.lmul, 1)) (h : x * y = v) (k : W p l e R s m args below meth c H locs cells slots Q (F0 m (pc + 1) ls (.long v :: rest))) : W p l e R s m args below meth c H locs cells slots Q (F0 m pc ls (.long y :: .long x :: rest)) := lv_lmul hx hb hdg (jw_nl h k)
theorem jw_land (hx : p.tables.exec = Jvm.exec) (hb : c.code = cc) {x y v : Int64} (hdg : decode cc pc = .ok (.land, 1)) (h : x &&& y = v) (k : W p l e R s m args below meth c H locs cells slots Q (F0 m (pc + 1) ls (.long v :: rest))) : W p l e R s m args below meth c H locs cells slots Q (F0 m pc ls (.long y :: .long x :: rest)) := lv_land hx hb hdg (jw_nl h k)
theorem jw_ldiv (hx : p.tables.exec = Jvm.exec) (hb : c.code = cc) {x y v : Int64} (hdg : decode cc pc = .ok (.ldiv, 1)) (hne : ¬ y = 0) (h : x / y = v) (k : W p l e R s m args below meth c H locs cells slots Q (F0 m (pc + 1) ls (.long v :: rest))) : W p l e R s m args below meth c H locs cells slots Q (F0 m pc ls (.long y :: .long x :: rest)) := lv_ldiv hx hb hdg hne (jw_nl h k)
theorem jw_lrem (hx : p.tables.exec = Jvm.exec) (hb : c.code = cc) {x y v : Int64} (hdg : decode cc pc = .ok (.lrem, 1)) (hne : ¬ y = 0) (h : x - x / y * y = v) (k : W p l e R s m args below meth c H locs cells slots Q (F0 m (pc + 1) ls (.long v :: rest))) : W p l e R s m args below meth c H locs cells slots Q (F0 m pc ls (.long y :: .long x :: rest)) := lv_lrem hx hb hdg hne (jw_nl h k)
theorem jw_ineg (hx : p.tables.exec = Jvm.exec) (hb : c.code = cc) {x v : Int32} (hdg : decode cc pc = .ok (.ineg, 1)) (h : -x = v) (k : W p l e R s m args below meth c H locs cells slots Q (F0 m (pc + 1) ls (.int v :: rest))) : W p l e R s m args below meth c H locs cells slots Q (F0 m pc ls (.int x :: rest)) := lv_ineg hx hb hdg (jw_n h k)
theorem jw_lneg (hx : p.tables.exec = Jvm.exec) (hb : c.code = cc) {x v : Int64} (hdg : decode cc pc = .ok (.lneg, 1)) (h : -x = v) (k : W p l e R s m args below meth c H locs cells slots Q (F0 m (pc + 1) ls (.long v :: rest))) : W p l e R s m args below meth c H locs cells slots Q (F0 m pc ls (.long x :: rest)) := lv_lneg hx hb hdg (jw_nl h k)
theorem jw_lcmp (hx : p.tables.exec = Jvm.exec) (hb : c.code = cc) {x y : Int64} {v : Int32} (hdg : decode cc pc = .ok (.lcmp, 1)) (h : lg_cmp x y = v) (k : W p l e R s m args below meth c H locs cells slots Q (F0 m (pc + 1) ls (.int v :: rest))) : W p l e R s m args below meth c H locs cells slots Q (F0 m pc ls (.long y :: .long x :: rest)) := W.lcmp hx hb hdg (jw_n h k)
/-! rows of numbers -/
theorem jw_iald (hx : p.tables.exec = Jvm.exec) (hb : c.code = cc) (hE : jw_E D Y tt A s s.heap) (hP : va_P D vwCl ws H) (q0 k : Nat) {n : Nat} {f : Nat → Int32} {v : Int32} (ha : ws[q0]? = some (a, .inl (Y 1, n, .inl f))) {i : Int32} (hi : jw_ix i n k = true) (hv : f k = v) (hdg : decode cc pc = .ok (.iaload, 1))
    (kk : W p l e R s m args below meth c H locs cells slots Q (F0 m (pc + 1) ls (.int v :: rest))) : W p l e R s m args below meth c H locs cells slots Q (F0 m pc ls (.int i :: .ref a :: rest)) := by
  obtain ⟨h1, h2⟩ := jw_ix_in hi
  subst h2 hv
  exact va_iald hx hb hE.1 hP q0 1 ha rfl h1 hdg kk
theorem jw_bald (hx : p.tables.exec = Jvm.exec) (hb : c.code = cc) (hE : jw_E D Y tt A s s.heap) (hP : va_P D vwCl ws H) (q0 k : Nat) {n : Nat} {f : Nat → Int32} {v : Int32} (ha : ws[q0]? = some (a, .inl (Y 0, n, .inl f))) {i : Int32} (hi : jw_ix i n k = true) (hv : f k = v) (hdg : decode cc pc = .ok (.baload, 1))
    (kk : W p l e R s m args below meth c H locs cells slots Q (F0 m (pc + 1) ls (.int v :: rest))) : W p l e R s m args below meth c H locs cells slots Q (F0 m pc ls (.int i :: .ref a :: rest)) := by
  obtain ⟨h1, h2⟩ := jw_ix_in hi
  subst h2 hv
  exact va_bald hx hb hE.1 hP q0 0 ha rfl h1 hdg kk
theorem jw_zald (hx : p.tables.exec = Jvm.exec) (hb : c.code = cc) (hE : jw_E D Y tt A s s.heap) (hP : va_P D vwCl ws H) (q0 k : Nat) {n : Nat} {f : Nat → Int32} {v : Int32} (ha : ws[q0]? = some (a, .inl (Y 3, n, .inl f))) {i : Int32} (hi : jw_ix i n k = true) (hv : f k = v) (hdg : decode cc pc = .ok (.baload, 1))
    (kk : W p l e R s m args below meth c H locs cells slots Q (F0 m (pc + 1) ls (.int v :: rest))) : W p l e R s m args below meth c H locs cells slots Q (F0 m pc ls (.int i :: .ref a :: rest)) := by
  obtain ⟨h1, h2⟩ := jw_ix_in hi
  subst h2 hv
  exact va_zald hx hb hE.1 hP q0 3 ha rfl h1 hdg kk
theorem jw_lald (hx : p.tables.exec = Jvm.exec) (hb : c.code = cc) (hE : jw_E D Y tt A s s.heap) (hP : va_P D vwCl ws H) (q0 k : Nat) {n : Nat} {f : Nat → Int64} {v : Int64} (ha : ws[q0]? = some (a, .inl (Y 2, n, .inr (.inl f)))) {i : Int32} (hi : jw_ix i n k = true) (hv : f k = v) (hdg : decode cc pc = .ok (.laload, 1))
    (kk : W p l e R s m args below meth c H locs cells slots Q (F0 m (pc + 1) ls (.long v :: rest))) : W p l e R s m args below meth c H locs cells slots Q (F0 m pc ls (.int i :: .ref a :: rest)) := by
  obtain ⟨h1, h2⟩ := jw_ix_in hi
  subst h2 hv
  exact va_lald hx hb hE.1 hP q0 2 ha rfl h1 hdg kk
theorem jw_aald (hx : p.tables.exec = Jvm.exec) (hb : c.code = cc) (hE : jw_E D Y tt A s s.heap) (hP : va_P D vwCl ws H) (q0 k : Nat) {n : Nat} {f : Nat → Option Nat} {v : Nat} (ha : ws[q0]? = some (a, .inl (Y 4, n, .inr (.inr (.inr (.inr f)))))) {i : Int32} (hi : jw_ix i n k = true) (hv : f k = some v) (hdg : decode cc pc = .ok (.aaload, 1))
    (kk : W p l e R s m args below meth c H locs cells slots Q (F0 m (pc + 1) ls (.ref v :: rest))) : W p l e R s m args below meth c H locs cells slots Q (F0 m pc ls (.int i :: .ref a :: rest)) := by
  obtain ⟨h1, h2⟩ := jw_ix_in hi
  subst h2
  refine va_aldq hx hb hE.1 hP q0 4 ha rfl h1 hdg ?_
  rw [hv]
  exact kk
theorem jw_tald (hx : p.tables.exec = Jvm.exec) (hb : c.code = cc) {C nm : String} {t N : Nat} {f : Nat → Int32} (hT : jw_stat C nm t N f A s s.heap) (hS : va_S A s.heap H locs) (k : Nat) {v : Int32} {i : Int32} (hi : jw_ix i N k = true) (hv : f k = v) (hdg : decode cc pc = .ok (.iaload, 1))
    (kk : W p l e R s m args below meth c H locs cells slots Q (F0 m (pc + 1) ls (.int v :: rest))) : W p l e R s m args below meth c H locs cells slots Q (F0 m pc ls (.int i :: .ref t :: rest)) := by
  obtain ⟨h1, h2⟩ := jw_ix_in hi
  subst h2 hv
  exact va_ti hx hb hT.2 hS h1 rfl hdg kk
theorem jw_iast (hx : p.tables.exec = Jvm.exec) (hb : c.code = cc) (hE : jw_E D Y tt A s s.heap) (hP : va_P D vwCl ws H) (hD : va_D A ws) (hS : va_S A s.heap H locs) (q0 k : Nat) {n : Nat} {b : Int32} {xs : List Int32} (ys : List Int32) (ha : ws[q0]? = some (a, .inl (Y 1, n, .inl (jw_l b xs)))) {i x : Int32} (hi : jw_ix i n k = true) (hy : jw_up b x k xs = ys) {ws' : va_W} (hw : ws.set q0 (a, .inl (Y 1, n, .inl (jw_l b ys))) = ws') (hdg : decode cc pc = .ok (.iastore, 1))
    (kk : ∀ (H1 : Heap) (locs1 : List Loc), va_P D vwCl ws' H1 → va_D A ws' → va_S A s.heap H1 locs1 → W p l e R s m args below meth c H1 locs1 cells slots Q (F0 m (pc + 1) ls rest)) : W p l e R s m args below meth c H locs cells slots Q (F0 m pc ls (.int x :: .int i :: .ref a :: rest)) := by
  obtain ⟨h1, h2⟩ := jw_ix_in hi
  subst h2 hw
  refine va_iast hx hb hE.1 hP hD hS q0 1 ha rfl h1 hdg ?_
  rw [jw_upd hy]
  exact kk
theorem jw_bast (hx : p.tables.exec = Jvm.exec) (hb : c.code = cc) (hE : jw_E D Y tt A s s.heap) (hP : va_P D vwCl ws H) (hD : va_D A ws) (hS : va_S A s.heap H locs) (q0 k : Nat) {n : Nat} {b : Int32} {xs : List Int32} (ys : List Int32) (ha : ws[q0]? = some (a, .inl (Y 0, n, .inl (jw_l b xs)))) {i x : Int32} (hi : jw_ix i n k = true) (hy : jw_up b (vp_nar .byte x) k xs = ys) {ws' : va_W} (hw : ws.set q0 (a, .inl (Y 0, n, .inl (jw_l b ys))) = ws') (hdg : decode cc pc = .ok (.bastore, 1))
    (kk : ∀ (H1 : Heap) (locs1 : List Loc), va_P D vwCl ws' H1 → va_D A ws' → va_S A s.heap H1 locs1 → W p l e R s m args below meth c H1 locs1 cells slots Q (F0 m (pc + 1) ls rest)) : W p l e R s m args below meth c H locs cells slots Q (F0 m pc ls (.int x :: .int i :: .ref a :: rest)) := by
  obtain ⟨h1, h2⟩ := jw_ix_in hi
  subst h2 hw
  refine va_bast hx hb hE.1 hP hD hS q0 0 ha rfl h1 hdg ?_
  rw [jw_upd hy]
  exact kk
theorem jw_zast (hx : p.tables.exec = Jvm.exec) (hb : c.code = cc) (hE : jw_E D Y tt A s s.heap) (hP : va_P D vwCl ws H) (hD : va_D A ws) (hS : va_S A s.heap H locs) (q0 k : Nat) {n : Nat} {b : Int32} {xs : List Int32} (ys : List Int32) (ha : ws[q0]? = some (a, .inl (Y 3, n, .inl (jw_l b xs)))) {i x : Int32} (hi : jw_ix i n k = true) (hy : jw_up b (vp_nar .boolean x) k xs = ys) {ws' : va_W} (hw : ws.set q0 (a, .inl (Y 3, n, .inl (jw_l b ys))) = ws') (hdg : decode cc pc = .ok (.bastore, 1))
    (kk : ∀ (H1 : Heap) (locs1 : List Loc), va_P D vwCl ws' H1 → va_D A ws' → va_S A s.heap H1 locs1 → W p l e R s m args below meth c H1 locs1 cells slots Q (F0 m (pc + 1) ls rest)) : W p l e R s m args below meth c H locs cells slots Q (F0 m pc ls (.int x :: .int i :: .ref a :: rest)) := by
  obtain ⟨h1, h2⟩ := jw_ix_in hi
  subst h2 hw
  refine va_zast hx hb hE.1 hP hD hS q0 3 ha rfl h1 hdg ?_
  rw [jw_upd hy]
  exact kk
theorem jw_last (hx : p.tables.exec = Jvm.exec) (hb : c.code = cc) (hE : jw_E D Y tt A s s.heap) (hP : va_P D vwCl ws H) (hD : va_D A ws) (hS : va_S A s.heap H locs) (q0 k : Nat) {n : Nat} {b : Int64} {xs : List Int64} (ys : List Int64) (ha : ws[q0]? = some (a, .inl (Y 2, n, .inr (.inl (jw_L b xs))))) {i : Int32} {x : Int64} (hi : jw_ix i n k = true) (hy : jw_up b x k xs = ys) {ws' : va_W} (hw : ws.set q0 (a, .inl (Y 2, n, .inr (.inl (jw_L b ys)))) = ws') (hdg : decode cc pc = .ok (.lastore, 1))
    (kk : ∀ (H1 : Heap) (locs1 : List Loc), va_P D vwCl ws' H1 → va_D A ws' → va_S A s.heap H1 locs1 → W p l e R s m args below meth c H1 locs1 cells slots Q (F0 m (pc + 1) ls rest)) : W p l e R s m args below meth c H locs cells slots Q (F0 m pc ls (.long x :: .int i :: .ref a :: rest)) := by
  obtain ⟨h1, h2⟩ := jw_ix_in hi
  subst h2 hw
  refine va_last hx hb hE.1 hP hD hS q0 2 ha rfl h1 hdg ?_
  rw [jw_updL hy]
  exact kk
theorem jw_aast (hx : p.tables.exec = Jvm.exec) (hb : c.code = cc) (hE : jw_E D Y tt A s s.heap) (hP : va_P D vwCl ws H) (hD : va_D A ws) (hS : va_S A s.heap H locs) (q0 k qk : Nat) {n v : Nat} {vs : List Value} {xs : List (Option Nat)} (ys : List (Option Nat)) (ha : ws[q0]? = some (a, .inl (Y 4, n, .inr (.inr (.inr (.inr (jw_R xs))))))) (hv : ws[qk]? = some (v, .inr (4, vs))) {i : Int32} (hi : jw_ix i n k = true) (hy : jw_up none (some v) k xs = ys) {ws' : va_W} (hw : ws.set q0 (a, .inl (Y 4, n, .inr (.inr (.inr (.inr (jw_R ys)))))) = ws') (hdg : decode cc pc = .ok (.aastore, 1))
    (kk : ∀ (H1 : Heap) (locs1 : List Loc), va_P D vwCl ws' H1 → va_D A ws' → va_S A s.heap H1 locs1 → W p l e R s m args below meth c H1 locs1 cells slots Q (F0 m (pc + 1) ls rest)) : W p l e R s m args below meth c H locs cells slots Q (F0 m pc ls (.ref v :: .int i :: .ref a :: rest)) := by
  obtain ⟨h1, h2⟩ := jw_ix_in hi
  subst h2 hw
  refine va_astq hx hb hE.1 hP hD hS q0 4 qk 4 (r := (RX1, TX1, 4)) ha rfl hv rfl h1 hdg ?_
  rw [jw_updR hy]
  exact kk
theorem jw_alen (hx : p.tables.exec = Jvm.exec) (hb : c.code = cc) (hE : jw_E D Y tt A s s.heap) (hP : va_P D vwCl ws H) (q0 t0 : Nat) {cA : ClassId} {x : vp_A} {ty : FieldType} (ha : ws[q0]? = some (a, .inl (cA, x))) (ht : (jw_T Y)[t0]? = some (cA, ty)) {v : Int32} (hv : Int32.ofNat x.1 = v) (hdg : decode cc pc = .ok (.arraylength, 1))
    (kk : W p l e R s m args below meth c H locs cells slots Q (F0 m (pc + 1) ls (.int v :: rest))) : W p l e R s m args below meth c H locs cells slots Q (F0 m pc ls (.ref a :: rest)) := va_alen hx hb hE.1 hP q0 t0 ha ht hv hdg kk
/-! new rows -/
theorem jw_ra {U : State} {cA cB : ClassId} {ty : FieldType} (h : va_RA U cA ty) (h2 : va_RA U cB ty) : cA = cB := by
  cases ty with
  | object C =>
    obtain ⟨_, _, _, _, _, h4⟩ := h
    obtain ⟨_, _, _, _, _, h5⟩ := h2
    exact Option.some.inj (h4.symm.trans h5)
  | _ => exact Option.some.inj (Eq.trans (Eq.symm h) h2)
theorem jw_newa (hx : p.tables.exec = Jvm.exec) (hb : c.code = cc) (t0 : Nat) {atype : ArrayType} {ty : FieldType} {cA : ClassId} (harr : (Cond.arrayClass (newarray.typeOf atype)).before args s = true) (hty : newarray.typeOf atype = ty) (hE : jw_E D Y tt A s s.heap) (ht : (jw_T Y)[t0]? = some (cA, ty)) (hP : va_P D vwCl ws H) (hD : va_D A ws) (hS : va_S A s.heap H locs) (hA : ∀ q, s.heap.size ≤ q → A q)
    {n : Int32} {N' : Nat} {a0 : vp_A} (ha : ∀ cA : ClassId, vp_cell cA a0 = arrV cA N' (fun _ => defaultValue ty)) (hn : ¬ n < 0) (hN : n.toNatClampNeg = N') (hbytes : Nat.ble (N' * componentBytes ty) 536870912 = true) (hcells : Nat.ble (cells + 1) R.cells = true) (hslots : Nat.ble (slots + N') R.slots = true) (hdg : decode cc pc = .ok (.newarray atype, 2))
    (kk : ∀ (q : Nat) (H1 : Heap), va_P D vwCl (ws ++ [(q, .inl (cA, a0))]) H1 → va_D A (ws ++ [(q, .inl (cA, a0))]) → va_S A s.heap H1 locs →
      W p l e R s m args below meth c H1 locs (cells + 1) (slots + N') Q (F0 m (pc + 2) ls (.ref q :: rest))) : W p l e R s m args below meth c H locs cells slots Q (F0 m pc ls (.int n :: rest)) := by
  refine va_newa hx hb harr hty hE.1 hP hD hS hA ha hn hN (Nat.le_of_ble_eq_true hbytes) (Nat.le_of_ble_eq_true hcells) (Nat.le_of_ble_eq_true hslots) hdg (fun q cB H1 hK hP hD hS => ?_)
  have e1 := (hK.2 5 (cB, ty) rfl).2
  have e2 := (hE.1.2 t0 _ ht).2
  cases jw_ra e1 e2
  exact kk q H1 hP hD hS
theorem jw_newq (hx : p.tables.exec = Jvm.exec) (hb : c.code = cc) {own : String} {index : Nat} (hown : s.vm.findClass own = some m.cls) (hclink : (Cond.classLink own index "BallPots$Chances").before args s = true) (hE : jw_E D Y tt A s s.heap) (hP : va_P D vwCl ws H) (hD : va_D A ws) (hS : va_S A s.heap H locs) (hA : ∀ q, s.heap.size ≤ q → A q)
    {n : Int32} {N' : Nat} (hn : ¬ n < 0) (hN : n.toNatClampNeg = N') (hbytes : Nat.ble (N' * 4) 536870912 = true) (hcells : Nat.ble (cells + 1) R.cells = true) (hslots : Nat.ble (slots + N') R.slots = true) (hdg : decode cc pc = .ok (.anewarray index, 3))
    (kk : ∀ (q : Nat) (H1 : Heap), va_P D vwCl (ws ++ [(q, .inl (Y 4, N', .inr (.inr (.inr (.inr (jw_R []))))))]) H1 → va_D A (ws ++ [(q, .inl (Y 4, N', .inr (.inr (.inr (.inr (jw_R []))))))]) → va_S A s.heap H1 locs →
      W p l e R s m args below meth c H1 locs (cells + 1) (slots + N') Q (F0 m (pc + 3) ls (.ref q :: rest))) : W p l e R s m args below meth c H locs cells slots Q (F0 m pc ls (.int n :: rest)) := by
  refine va_newq hx hb hown hclink hE.2.2.2.1 hE.1 hP hD hS hA hn hN (Nat.le_of_ble_eq_true hbytes) (Nat.le_of_ble_eq_true hcells) (Nat.le_of_ble_eq_true hslots) hdg (fun q cB H1 hK hP hD hS => ?_)
  have e1 := (hK.2 5 (cB, .object "BallPots$Chances") rfl).2
  have e2 := (hE.1.2 4 _ rfl).2
  cases jw_ra e1 e2
  have e3 : (fun _ => none : Nat → Option Nat) = jw_R [] := by funext j; simp [jw_R]
  rw [e3] at hP hD
  exact kk q H1 hP hD hS
theorem jw_a0I (N : Nat) (cA : ClassId) : vp_cell cA (N, .inl (jw_l 0 [])) = arrV cA N (fun _ => defaultValue .int) := by
  have e3 : jw_l 0 [] = (fun _ => 0) := by funext j; simp [jw_l]
  rw [e3]; rfl
theorem jw_a0B (N : Nat) (cA : ClassId) : vp_cell cA (N, .inl (jw_l 0 [])) = arrV cA N (fun _ => defaultValue .byte) := by
  have e3 : jw_l 0 [] = (fun _ => 0) := by funext j; simp [jw_l]
  rw [e3]; rfl
theorem jw_a0Z (N : Nat) (cA : ClassId) : vp_cell cA (N, .inl (jw_l 0 [])) = arrV cA N (fun _ => defaultValue .boolean) := by
  have e3 : jw_l 0 [] = (fun _ => 0) := by funext j; simp [jw_l]
  rw [e3]; rfl
theorem jw_a0J (N : Nat) (cA : ClassId) : vp_cell cA (N, .inr (.inl (jw_L 0 []))) = arrV cA N (fun _ => defaultValue .long) := by
  have e3 : jw_L 0 [] = (fun _ => 0) := by funext j; simp [jw_L]
  rw [e3]; rfl
/-! calls -/
section Calls
variable {y : MethodName} {bytes : ByteArray} {maxL nL mc ms n index : Nat} {ret : Option FieldType} {wsY : List Cond} {rm : Room} {Qc : Array Value → State → Outcome → State → Prop} {Ts : List Cond} {own C : String} {b : Addr} {As : List Value} {g : JFrame} {wc wr : va_W} {W1 : va_W → Prop} {st0 : List Value}
theorem jw_preS (hP : va_P D vwCl ws H) (hD : va_D A ws) (hS : va_S A s.heap H locs) (hA : ∀ q, s.heap.size ≤ q → A q) (hE : jw_E D Y tt A s s.heap) (isC : List Nat) (hC : isC.map (fun i => ws[i]?) = wc.map some) (hn : va_nd isC = true) : PreS s H (jw_Pc D Y tt As wc H.size) As := by
  have hF := va_free (wc := wc) hD hS hA isC hC
  have hP' : va_P D vwCl wc H := by
    intro k q hk
    have h1 : (isC.map (fun i => ws[i]?))[k]? = some (some q) := by rw [hC, List.getElem?_map, hk]; rfl
    rw [List.getElem?_map] at h1
    cases hi : isC[k]? with
    | none => rw [hi] at h1; cases h1
    | some i => rw [hi] at h1; exact hP i q (Option.some.inj h1)
  have hD' := hD.sub (ws' := wc) isC hn hC
  exact ⟨jw_blind, fun U hU hW => ⟨rfl, by rw [hU], by rw [hU]; exact hP', hD'.weaken (fun _ _ _ _ => trivial), hE.call hS hF hU hW⟩⟩
theorem jw_preV {ci q0 : Nat} {q : vw_C} {fs : List Value} (hP : va_P D vwCl ws H) (hD : va_D A ws) (hS : va_S A s.heap H locs) (hA : ∀ q, s.heap.size ≤ q → A q) (hE : jw_E D Y tt A s s.heap) (isC : List Nat) (hC : isC.map (fun i => ws[i]?) = wc.map some) (hn : va_nd isC = true) (hc : vwCl[ci]? = some q) (he : ws[q0]? = some (b, .inr (ci, fs))) : PreV s H q.1 b (jw_Pc D Y tt (.ref b :: As) wc H.size) As := by
  have h := jw_preS (As := .ref b :: As) hP hD hS hA hE isC hC hn
  exact ⟨h.1, va_recv hE.1 hP hc he, h.2⟩
theorem jw_cv {a0 : Array Value} (hr : va_Run p l e R s m args below meth c H locs cells slots mc ms (F0 m pc ls st0) rest (jw_Qv D W1 (va_A wc H.size) a0) (va_A wc H.size)) (hP : va_P D vwCl ws H) (hD : va_D A ws) (hS : va_S A s.heap H locs) (hA : ∀ q, s.heap.size ≤ q → A q) (isC isR : List Nat) (hC : isC.map (fun i => ws[i]?) = wc.map some) (hR : isR.map (fun i => ws[i]?) = wr.map some) (hn : va_nd isR = true) (hdis : ∀ i ∈ isR, i ∉ isC) {cs ss : Nat} (e1 : cells + mc = cs) (e2 : slots + ms = ss)
    (kk : ∀ (w1 : va_W) (H1 : Heap) (locs1 : List Loc), W1 w1 → va_P D vwCl (wr ++ w1) H1 → va_D A (wr ++ w1) → va_S A s.heap H1 locs1 → W p l e R s m args below meth c H1 locs1 cs ss Q (F0 m (pc + 3) ls rest)) : W p l e R s m args below meth c H locs cells slots Q (F0 m pc ls st0) := by
  subst e1 e2
  have hF := va_free (wc := wc) hD hS hA isC hC
  refine va_callv hr hS (fun q _ h => hF q h) hF (fun u t H1 locs1 ht hvm hw hB hz hk hS1 => ?_)
  obtain ⟨w1, hw1, hP1, hD1⟩ := hB
  rw [ht] at hP1
  obtain ⟨hP2, hD2⟩ := va_join hP hD isC isR hC hR hn hdis hk hF hP1 hD1
  exact kk w1 H1 locs1 hw1 hP2 hD2 hS1
theorem jw_ci {a0 : Array Value} {P : Int32 → Prop} (hr : va_Run p l e R s m args below meth c H locs cells slots mc ms (F0 m pc ls st0) rest (jw_Qi D P W1 (va_A wc H.size) a0) (va_A wc H.size)) (hP : va_P D vwCl ws H) (hD : va_D A ws) (hS : va_S A s.heap H locs) (hA : ∀ q, s.heap.size ≤ q → A q) (isC isR : List Nat) (hC : isC.map (fun i => ws[i]?) = wc.map some) (hR : isR.map (fun i => ws[i]?) = wr.map some) (hn : va_nd isR = true) (hdis : ∀ i ∈ isR, i ∉ isC) {cs ss : Nat} (e1 : cells + mc = cs) (e2 : slots + ms = ss)
    (kk : ∀ (r : Int32) (w1 : va_W) (H1 : Heap) (locs1 : List Loc), P r → W1 w1 → va_P D vwCl (wr ++ w1) H1 → va_D A (wr ++ w1) → va_S A s.heap H1 locs1 → W p l e R s m args below meth c H1 locs1 cs ss Q (F0 m (pc + 3) ls (.int r :: rest))) : W p l e R s m args below meth c H locs cells slots Q (F0 m pc ls st0) := by
  subst e1 e2
  have hF := va_free (wc := wc) hD hS hA isC hC
  refine va_calli hr hS (fun q _ h => hF q h) hF (fun r u t H1 locs1 ht hvm hw hB hz hk hS1 => ?_)
  obtain ⟨w1, hw1, hP1, hD1⟩ := hB
  rw [ht] at hP1
  obtain ⟨hP2, hD2⟩ := va_join hP hD isC isR hC hR hn hdis hk hF hP1 hD1
  exact kk r w1 H1 locs1 hw hw1 hP2 hD2 hS1
theorem jw_cl {a0 : Array Value} {P : Int64 → Prop} (hr : va_Run p l e R s m args below meth c H locs cells slots mc ms (F0 m pc ls st0) rest (jw_Ql D P W1 (va_A wc H.size) a0) (va_A wc H.size)) (hP : va_P D vwCl ws H) (hD : va_D A ws) (hS : va_S A s.heap H locs) (hA : ∀ q, s.heap.size ≤ q → A q) (isC isR : List Nat) (hC : isC.map (fun i => ws[i]?) = wc.map some) (hR : isR.map (fun i => ws[i]?) = wr.map some) (hn : va_nd isR = true) (hdis : ∀ i ∈ isR, i ∉ isC) {cs ss : Nat} (e1 : cells + mc = cs) (e2 : slots + ms = ss)
    (kk : ∀ (r : Int64) (w1 : va_W) (H1 : Heap) (locs1 : List Loc), P r → W1 w1 → va_P D vwCl (wr ++ w1) H1 → va_D A (wr ++ w1) → va_S A s.heap H1 locs1 → W p l e R s m args below meth c H1 locs1 cs ss Q (F0 m (pc + 3) ls (.long r :: rest))) : W p l e R s m args below meth c H locs cells slots Q (F0 m pc ls st0) := by
  subst e1 e2
  have hF := va_free (wc := wc) hD hS hA isC hC
  refine va_calll hr hS (fun q _ h => hF q h) hF (fun r u t H1 locs1 ht hvm hw hB hz hk hS1 => ?_)
  obtain ⟨w1, hw1, hP1, hD1⟩ := hB
  rw [ht] at hP1
  obtain ⟨hP2, hD2⟩ := va_join hP hD isC isR hC hR hn hdis hk hF hP1 hD1
  exact kk r w1 H1 locs1 hw hw1 hP2 hD2 hS1
theorem jw_cr {a0 : Array Value} {P : Nat → Prop} (hr : va_Run p l e R s m args below meth c H locs cells slots mc ms (F0 m pc ls st0) rest (jw_Qr D P W1 (va_A wc H.size) a0) (va_A wc H.size)) (hP : va_P D vwCl ws H) (hD : va_D A ws) (hS : va_S A s.heap H locs) (hA : ∀ q, s.heap.size ≤ q → A q) (isC isR : List Nat) (hC : isC.map (fun i => ws[i]?) = wc.map some) (hR : isR.map (fun i => ws[i]?) = wr.map some) (hn : va_nd isR = true) (hdis : ∀ i ∈ isR, i ∉ isC) {cs ss : Nat} (e1 : cells + mc = cs) (e2 : slots + ms = ss)
    (kk : ∀ (r : Nat) (w1 : va_W) (H1 : Heap) (locs1 : List Loc), P r → W1 w1 → va_P D vwCl (wr ++ w1) H1 → va_D A (wr ++ w1) → va_S A s.heap H1 locs1 → W p l e R s m args below meth c H1 locs1 cs ss Q (F0 m (pc + 3) ls (.ref r :: rest))) : W p l e R s m args below meth c H locs cells slots Q (F0 m pc ls st0) := by
  subst e1 e2
  have hF := va_free (wc := wc) hD hS hA isC hC
  refine va_callr hr hS (fun q _ h => hF q h) hF (fun u r t H1 locs1 ht hvm hw hB hz hk hS1 => ?_)
  obtain ⟨hp, w1, hw1, hP1, hD1⟩ := hB
  rw [ht] at hP1
  obtain ⟨hP2, hD2⟩ := va_join hP hD isC isR hC hR hn hdis hk hF hP1 hD1
  exact kk r w1 H1 locs1 hp hw1 hP2 hD2 hS1
end Calls
/-! ends -/
theorem jw_vret {W1 : va_W → Prop} (hx : p.tables.exec = Jvm.exec) (hb : c.code = cc) (hr : meth.sig.returnType = none) (hlocks : meth.locks = false) (h1 : W1 ws) (hP : va_P D vwCl ws H) (hD : va_D A ws) (hS : va_S A s.heap H locs) (hdg : decode cc pc = .ok (.return_, 1)) : W p l e R s m args below meth c H locs cells slots (MQ below (jw_Qv D W1 A) args s cells slots A) (F0 m pc ls []) :=
  W.vret hx hb hr (fun t ht hW => ⟨⟨(), rfl, trivial, ws, h1, by rw [ht]; exact hP, hD⟩, hS.F ht⟩) hS.2.2 hdg hlocks
theorem jw_iret {W1 : va_W → Prop} {P : Int32 → Prop} {v : Int32} (hx : p.tables.exec = Jvm.exec) (hb : c.code = cc) (hr : meth.sig.returnType = some .int) (hlocks : meth.locks = false) (hp : P v) (h1 : W1 ws) (hP : va_P D vwCl ws H) (hD : va_D A ws) (hS : va_S A s.heap H locs) (hdg : decode cc pc = .ok (.ireturn, 1)) : W p l e R s m args below meth c H locs cells slots (MQ below (jw_Qi D P W1 A) args s cells slots A) (F0 m pc ls [.int v]) :=
  W.iret hx hb hr (fun t ht hW => ⟨⟨v, (), rfl, hp, ws, h1, by rw [ht]; exact hP, hD⟩, hS.F ht⟩) hS.2.2 hdg hlocks
theorem jw_zret {W1 : va_W → Prop} {P : Int32 → Prop} {v : Int32} (hx : p.tables.exec = Jvm.exec) (hb : c.code = cc) (hr : meth.sig.returnType = some .boolean) (hlocks : meth.locks = false) (hn : narrow .boolean (.int v) = .int v) (hp : P v) (h1 : W1 ws) (hP : va_P D vwCl ws H) (hD : va_D A ws) (hS : va_S A s.heap H locs) (hdg : decode cc pc = .ok (.ireturn, 1)) : W p l e R s m args below meth c H locs cells slots (MQ below (jw_Qi D P W1 A) args s cells slots A) (F0 m pc ls [.int v]) :=
  W.zret hx hb hr hn (fun t ht hW => ⟨⟨v, (), rfl, hp, ws, h1, by rw [ht]; exact hP, hD⟩, hS.F ht⟩) hS.2.2 hdg hlocks
theorem jw_lret {W1 : va_W → Prop} {P : Int64 → Prop} {v : Int64} (hx : p.tables.exec = Jvm.exec) (hb : c.code = cc) (hr : meth.sig.returnType = some .long) (hlocks : meth.locks = false) (hp : P v) (h1 : W1 ws) (hP : va_P D vwCl ws H) (hD : va_D A ws) (hS : va_S A s.heap H locs) (hdg : decode cc pc = .ok (.lreturn, 1)) : W p l e R s m args below meth c H locs cells slots (MQ below (jw_Ql D P W1 A) args s cells slots A) (F0 m pc ls [.long v]) :=
  W.lret hx hb hr (fun t ht hW => ⟨⟨v, (), rfl, hp, ws, h1, by rw [ht]; exact hP, hD⟩, hS.F ht⟩) hS.2.2 hdg hlocks
theorem jw_aret {W1 : va_W → Prop} {P : Nat → Prop} {v : Nat} {E : String} (hx : p.tables.exec = Jvm.exec) (hb : c.code = cc) (hr : meth.sig.returnType = some (.object E)) (hlocks : meth.locks = false) (hp : P v) (h1 : W1 ws) (hP : va_P D vwCl ws H) (hD : va_D A ws) (hS : va_S A s.heap H locs) (hdg : decode cc pc = .ok (.areturn, 1)) : W p l e R s m args below meth c H locs cells slots (MQ below (jw_Qr D P W1 A) args s cells slots A) (F0 m pc ls [.ref v]) :=
  W.aret hx hb hr (Or.inl ⟨E, rfl⟩) (Or.inr ⟨v, rfl⟩) (fun t ht hW => ⟨⟨(), v, rfl, trivial, hp, ws, h1, by rw [ht]; exact hP, hD⟩, hS.F ht⟩) hS.2.2 hdg hlocks
end JW
