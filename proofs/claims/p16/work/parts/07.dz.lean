/-! what the decompiled functions are said in -/
abbrev dz_in (i : Int32) (n : Nat) : Prop := ¬ (i < 0 ∨ n ≤ i.toNatClampNeg)
abbrev dz_rem (x y : Int32) : Int32 := x - x / y * y
abbrev dz_reml (x y : Int64) : Int64 := x - x / y * y
abbrev dz_ush (x y : Int32) : Int32 := (x.toUInt32 >>> (y.toUInt32 &&& Int32.toUInt32 31)).toInt32
theorem dz_pos {c : Prop} [d9 : Decidable c] {R : Type} {a b : Option R} {r : R} (hc : c) (h : (if c then a else b) = some r) : a = some r := by rw [if_pos hc] at h; exact h
theorem dz_neg {c : Prop} [d9 : Decidable c] {R : Type} {a b : Option R} {r : R} (hc : ¬ c) (h : (if c then a else b) = some r) : b = some r := by rw [if_neg hc] at h; exact h
theorem dz_get {c : Prop} [d9 : Decidable c] {R : Type} {a : Option R} {r : R} (h : (if c then a else none) = some r) : c ∧ a = some r := by
  by_cases hc : c
  · rw [if_pos hc] at h; exact ⟨hc, h⟩
  · rw [if_neg hc] at h; cases h
theorem dz_bind {S R : Type} {o : Option S} {f : S → Option R} {r : R} (h : o.bind f = some r) : ∃ x, o = some x ∧ f x = some r := by
  cases o with
  | none => cases h
  | some x => exact ⟨x, rfl, h⟩
/-- the machine at a label comes to Q -/
abbrev dz_W (p : Program) (l : Launch) (e : Env) (R : Room) (s : State) (m : MethodId) (args : Array Value) (below : List Frame) (meth : Method) (c : Code) (A : Nat → Prop) (D : va_G) (sl : Nat) (Q : State → Prop) (w : va_W) (maxL : Nat) (lv : List (Nat × Value)) (pc : Nat) (st : List Value) : Prop :=
  ∀ (H : Heap) (locs : List Loc) (ls : Array Slot), va_P D vwCl w H → va_D A w → va_S A s.heap H locs → lv_has ls maxL lv → W p l e R s m args below meth c H locs sl sl Q (F0 m pc ls st)
theorem dz_ble {a b : Nat} (h : a ≤ b) : Nat.ble a b = true := Nat.ble_eq.mpr h
/-- how many places a new row takes -/
def dz_needT (fr bars : Int32) (n : Nat) : Nat := if fr = 0 then (if n < ((1 + bars * (bars + 1) / 2) * 144).toNatClampNeg then ((1 + bars * (bars + 1) / 2) * 144).toNatClampNeg else 0) else 0
def dz_needC (total : Int32) (n : Nat) : Nat := if n < total.toNatClampNeg then 2 * total.toNatClampNeg else 0
