/-! rows of unlike numbers as bits -/
def dz_dd (v : Int32) (k : Nat) : Int32 := (v >>> ((2 * Int32.ofNat k) &&& 31)) &&& 3
def dz_or (v : Int32) : Nat → Int32
  | 0 => 0
  | k + 1 => dz_or v k ||| ((1 : Int32) <<< (dz_dd v k &&& 31))
def dz_on (v : Int32) (n : Nat) : Prop := (List.range n).map (fun k => (dz_dd v k).toInt) ∈ dz_perms n
def dz_dw (v : Int32) (a : Nat → Int32) (n : Nat) : Prop := ∀ j, j < n → a j = dz_dd v j
theorem dz_ddk {v k : Int32} (k0 : 0 ≤ k.toInt) : dz_dd v k.toInt.toNat = (v >>> ((2 * k) &&& 31)) &&& 3 := by
  have r := dz_rng k
  unfold dz_dd
  rw [← dz_eqn (b := k) (c := k.toInt.toNat) (by omega) (by omega)]
theorem dz_ddb (v : Int32) (k : Nat) : 0 ≤ (dz_dd v k).toInt ∧ (dz_dd v k).toInt ≤ 3 := by
  have l : (3 : Int32).toInt = 3 := by decide
  have h := dz_andr (a := v >>> ((2 * Int32.ofNat k) &&& 31)) (b := 3) (by omega)
  unfold dz_dd
  omega
theorem dz_oe0 {v k : Int32} (hk : k.toInt = 0) : (0 : Int32) = dz_or v k.toInt.toNat := by rw [hk]; rfl
theorem dz_oes {v w k k' : Int32} (h : w = dz_or v k.toInt.toNat) (k0 : 0 ≤ k.toInt) (e : k'.toInt = k.toInt + 1) : (w ||| ((1 : Int32) <<< (((v >>> ((2 * k) &&& 31)) &&& 3) &&& 31))) = dz_or v k'.toInt.toNat := by
  rw [show k'.toInt.toNat = k.toInt.toNat + 1 by omega]
  show _ = dz_or v k.toInt.toNat ||| ((1 : Int32) <<< (dz_dd v k.toInt.toNat &&& 31))
  rw [dz_ddk k0, h]
theorem dz_on2 : ∀ n0 n1 : Fin 4, (((0 : Int32) ||| ((1 : Int32) <<< (Int32.ofNat n0.val &&& 31))) ||| ((1 : Int32) <<< (Int32.ofNat n1.val &&& 31))).toInt = 3 → [(n0.val : Int), (n1.val : Int)] ∈ dz_perms 2 := by decide +kernel
theorem dz_on1 : ∀ n0 : Fin 4, ((0 : Int32) ||| ((1 : Int32) <<< (Int32.ofNat n0.val &&& 31))).toInt = 1 → [(n0.val : Int)] ∈ dz_perms 1 := by decide +kernel
theorem dz_on3 : ∀ n0 n1 n2 : Fin 4, ((((0 : Int32) ||| ((1 : Int32) <<< (Int32.ofNat n0.val &&& 31))) ||| ((1 : Int32) <<< (Int32.ofNat n1.val &&& 31))) ||| ((1 : Int32) <<< (Int32.ofNat n2.val &&& 31))).toInt = 7 → [(n0.val : Int), (n1.val : Int), (n2.val : Int)] ∈ dz_perms 3 := by decide +kernel
theorem dz_on4 : ∀ n0 n1 n2 n3 : Fin 4, (((((0 : Int32) ||| ((1 : Int32) <<< (Int32.ofNat n0.val &&& 31))) ||| ((1 : Int32) <<< (Int32.ofNat n1.val &&& 31))) ||| ((1 : Int32) <<< (Int32.ofNat n2.val &&& 31))) ||| ((1 : Int32) <<< (Int32.ofNat n3.val &&& 31))).toInt = 15 → [(n0.val : Int), (n1.val : Int), (n2.val : Int), (n3.val : Int)] ∈ dz_perms 4 := by decide +kernel
theorem dz_ddf (v : Int32) (k : Nat) : ∃ n : Fin 4, dz_dd v k = Int32.ofNat n.val ∧ (dz_dd v k).toInt = (n.val : Int) := by
  have b := dz_ddb v k
  exact ⟨⟨(dz_dd v k).toInt.toNat, by omega⟩, dz_eqn (by show _ = (((dz_dd v k).toInt.toNat : Nat) : Int); omega) (by show (dz_dd v k).toInt.toNat < _; omega), by show _ = (((dz_dd v k).toInt.toNat : Nat) : Int); omega⟩
theorem dz_ons {v w g : Int32} (g0 : 0 ≤ g.toInt) (g4 : g.toInt ≤ 4) (hw : w = dz_or v g.toInt.toNat) (h : w.toInt = (((1 : Int32) <<< (g &&& 31)) - 1).toInt) : dz_on v g.toInt.toNat := by
  obtain ⟨n0, e0, f0⟩ := dz_ddf v 0
  obtain ⟨n1, e1, f1⟩ := dz_ddf v 1
  obtain ⟨n2, e2, f2⟩ := dz_ddf v 2
  obtain ⟨n3, e3, f3⟩ := dz_ddf v 3
  rw [hw] at h
  rcases (show g.toInt = 0 ∨ g.toInt = 1 ∨ g.toInt = 2 ∨ g.toInt = 3 ∨ g.toInt = 4 by omega) with e | e | e | e | e
  · rw [e]; exact (by decide : ([] : List Int) ∈ dz_perms 0)
  · have eg : g = 1 := Int32.toInt_inj.mp (by rw [e]; decide)
    subst eg
    have h2 : ((0 : Int32) ||| ((1 : Int32) <<< (dz_dd v 0 &&& 31))).toInt = (((1 : Int32) <<< ((1 : Int32) &&& 31)) - 1).toInt := h
    rw [e0] at h2
    have hx := dz_on1 n0 h2
    rw [← f0] at hx
    exact hx
  · have eg : g = 2 := Int32.toInt_inj.mp (by rw [e]; decide)
    subst eg
    have h2 : (((0 : Int32) ||| ((1 : Int32) <<< (dz_dd v 0 &&& 31))) ||| ((1 : Int32) <<< (dz_dd v 1 &&& 31))).toInt = (((1 : Int32) <<< ((2 : Int32) &&& 31)) - 1).toInt := h
    rw [e0, e1] at h2
    have hx := dz_on2 n0 n1 h2
    rw [← f0, ← f1] at hx
    exact hx
  · have eg : g = 3 := Int32.toInt_inj.mp (by rw [e]; decide)
    subst eg
    have h2 : ((((0 : Int32) ||| ((1 : Int32) <<< (dz_dd v 0 &&& 31))) ||| ((1 : Int32) <<< (dz_dd v 1 &&& 31))) ||| ((1 : Int32) <<< (dz_dd v 2 &&& 31))).toInt = (((1 : Int32) <<< ((3 : Int32) &&& 31)) - 1).toInt := h
    rw [e0, e1, e2] at h2
    have hx := dz_on3 n0 n1 n2 h2
    rw [← f0, ← f1, ← f2] at hx
    exact hx
  · have eg : g = 4 := Int32.toInt_inj.mp (by rw [e]; decide)
    subst eg
    have h2 : (((((0 : Int32) ||| ((1 : Int32) <<< (dz_dd v 0 &&& 31))) ||| ((1 : Int32) <<< (dz_dd v 1 &&& 31))) ||| ((1 : Int32) <<< (dz_dd v 2 &&& 31))) ||| ((1 : Int32) <<< (dz_dd v 3 &&& 31))).toInt = (((1 : Int32) <<< ((4 : Int32) &&& 31)) - 1).toInt := h
    rw [e0, e1, e2, e3] at h2
    have hx := dz_on4 n0 n1 n2 n3 h2
    rw [← f0, ← f1, ← f2, ← f3] at hx
    exact hx
theorem dz_dw0 {v : Int32} {a : Nat → Int32} {n : Nat} (h : n = 0) : dz_dw v a n := fun j hj => by omega
theorem dz_dws {v k k' : Int32} {a : Nat → Int32} (h : dz_dw v a k.toInt.toNat) (k0 : 0 ≤ k.toInt) (e : k'.toInt = k.toInt + 1) : dz_dw v (upd a k.toNatClampNeg ((v >>> ((2 * k) &&& 31)) &&& 3)) k'.toInt.toNat := fun j hj => by
  have t := dz_tn k
  show (if j = k.toNatClampNeg then ((v >>> ((2 * k) &&& 31)) &&& 3) else a j) = dz_dd v j
  by_cases q : j = k.toNatClampNeg
  · rw [if_pos q, q, t, dz_ddk k0]
  · rw [if_neg q]; exact h j (by omega)
theorem dz_dwp {v : Int32} {a : Nat → Int32} {n p m : Nat} (h : dz_on v p) (hw : dz_dw v a n) (hn : p ≤ n) (hm : m = p) : dz_pm a m := by
  subst hm
  refine ⟨_, h, fun k x e => ?_⟩
  rw [List.getElem?_map] at e
  rcases Nat.lt_or_ge k m with q | q
  · rw [List.getElem?_range q] at e
    simp at e
    rw [hw k (by omega)]; exact e
  · rw [List.getElem?_eq_none (by simp; exact q)] at e
    cases e
