/-! rows of six, rows of the ranks so far, what holds of a result -/
def dz_rt (a : Nat → Int32) (m w : Nat) (lo hi : Int) : Prop := ∀ r g, r < m → g < w → lo ≤ (a (6 * r + g)).toInt ∧ (a (6 * r + g)).toInt ≤ hi
theorem dz_rtat {a : Nat → Int32} {m w : Nat} {lo hi : Int} (h : dz_rt a m w lo hi) {x y : Int32} (x0 : 0 ≤ x.toInt) (x1 : x.toInt < (m : Int)) (y0 : 0 ≤ y.toInt) (y1 : y.toInt < (w : Int)) (e : ((x * 6) + y).toInt = 6 * x.toInt + y.toInt) : lo ≤ (a ((x * 6) + y).toNatClampNeg).toInt ∧ (a ((x * 6) + y).toNatClampNeg).toInt ≤ hi := by
  have t := dz_tn ((x * 6) + y)
  have h2 := h x.toInt.toNat y.toInt.toNat (by omega) (by omega)
  rw [show ((x * 6) + y).toNatClampNeg = 6 * x.toInt.toNat + y.toInt.toNat by omega]
  exact h2
def dz_rv (a : Nat → Int32) (S R : Nat) (v1 v2 : Int) : Prop := ∀ r g : Nat, g < S → ((r : Int) < v1 ∨ ((r : Int) = v1 ∧ (g : Int) < v2)) → 0 ≤ (a (6 * r + g)).toInt ∧ (a (6 * r + g)).toInt < (R : Int)
theorem dz_rvm {a : Nat → Int32} {S R : Nat} {v1 v2 w : Int} (h : dz_rv a S R v1 v2) (e : w = v2) : dz_rv a S R v1 w := by
  subst e
  exact h
theorem dz_rvu {a : Nat → Int32} {S R : Nat} {v1 v2 w x : Int32} (h : dz_rv a S R v1.toInt v2.toInt) (x0 : 0 ≤ x.toInt) (x1 : x.toInt < (R : Int)) (a0 : 0 ≤ v1.toInt) (b0 : 0 ≤ v2.toInt) (e : ((v1 * 6) + v2).toInt = 6 * v1.toInt + v2.toInt) (ew : w.toInt = v2.toInt + 1) : dz_rv (upd a ((v1 * 6) + v2).toNatClampNeg x) S R v1.toInt w.toInt := by
  intro r g hg hc
  have t := dz_tn ((v1 * 6) + v2)
  show 0 ≤ (if 6 * r + g = ((v1 * 6) + v2).toNatClampNeg then x else a (6 * r + g)).toInt ∧ (if 6 * r + g = ((v1 * 6) + v2).toNatClampNeg then x else a (6 * r + g)).toInt < (R : Int)
  by_cases q : 6 * r + g = ((v1 * 6) + v2).toNatClampNeg
  · rw [if_pos q]; exact ⟨x0, x1⟩
  · rw [if_neg q]
    exact h r g hg (by omega)
theorem dz_rve {a : Nat → Int32} {S R : Nat} {v1 w : Int} (h : dz_rv a S R v1 (S : Int)) (e : w = v1 + 1) : dz_rv a S R w 0 := by
  intro r g hg hc
  exact h r g hg (by omega)
theorem dz_rvt {a : Nat → Int32} {S R : Nat} (h : dz_rv a S R (R : Int) 0) : dz_rt a R S 0 ((R : Int) - 1) := by
  intro r g hr hg
  have := h r g hg (by omega)
  omega
theorem dz_rv0 {a : Nat → Int32} {S R : Nat} : dz_rv a S R 0 0 := by
  intro r g hg hc
  omega
def dz_P {R : Type} (o : Option R) (Q : R → Prop) : Prop := ∀ r, o = some r → Q r
theorem dz_Pn {R : Type} {Q : R → Prop} : dz_P none Q := fun r h => by cases h
theorem dz_Ps {R : Type} {x : R} {Q : R → Prop} (h : Q x) : dz_P (some x) Q := fun r e => by cases e; exact h
theorem dz_Pi {R : Type} {c : Prop} [d9 : Decidable c] {a b : Option R} {Q : R → Prop} (h1 : c → dz_P a Q) (h2 : ¬ c → dz_P b Q) : dz_P (if c then a else b) Q := by
  by_cases hc : c
  · rw [if_pos hc]; exact h1 hc
  · rw [if_neg hc]; exact h2 hc
theorem dz_Pb {S R : Type} {o : Option S} {f : S → Option R} {P : S → Prop} {Q : R → Prop} (h : dz_P o P) (k : ∀ x, P x → dz_P (f x) Q) : dz_P (o.bind f) Q := by
  intro r e
  cases o with
  | none => cases e
  | some x => exact k x (h x rfl) r e
theorem dz_Pa {S R : Type} {o : Option S} {f : S → Option R} {Q : R → Prop} (k : ∀ x, dz_P (f x) Q) : dz_P (o.bind f) Q := dz_Pb (P := fun _ => True) (fun _ _ => trivial) (fun x _ => k x)
theorem dz_TP {R : Type} {o : Option R} {P Q : R → Prop} (h : dz_T o P) (k : dz_P o Q) : dz_T o (fun r => P r ∧ Q r) := by
  obtain ⟨r, a, b⟩ := h
  exact ⟨r, a, b, k r a⟩
