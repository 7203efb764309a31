/-! the reference: its rows of groups -/
def dz_ns : Nat → List Nat
  | 2 => [1, 2]
  | 3 => [5, 7, 11, 15, 19, 21]
  | 4 => [27, 30, 39, 45, 54, 57, 75, 78, 99, 108, 114, 120, 135, 141, 147, 156, 177, 180, 198, 201, 210, 216, 225, 228]
  | _ => []
def dz_cn (G n : Nat) : Nat := (dz_ns G).countP (fun x => Nat.blt x n)
def dz_lr (G : Nat) (v ranks : Int32) (a : Nat → Int32) : Prop := ranks.toInt = (dz_cn G v.toInt.toNat : Int) ∧ ∀ r i, r < dz_cn G v.toInt.toNat → i < G → (a (4 * r + i)).toInt = dz_pr G r i
abbrev dz_us2 (g v : Int32) : Int32 := (((0 : Int32) ||| ((1 : Int32) <<< ((dz_rem v g) &&& 31))) ||| ((1 : Int32) <<< ((dz_rem (v / g) g) &&& 31)))
abbrev dz_up2 (g v c : Int32) (a : Nat → Int32) : Nat → Int32 := (upd (upd a ((4 * c) + (g - 1)).toNatClampNeg (dz_rem v g)) ((4 * c) + ((g - 1) + (-1))).toNatClampNeg (dz_rem (v / g) g))
theorem dz_t1_2 : ∀ n : Fin 4, ((dz_us2 2 (Int32.ofNat n.val)).toInt = 3) = (n.val ∈ dz_ns 2) := by decide +kernel
theorem dz_t2_2 : ∀ n : Fin 4, dz_cn 2 (n.val + 1) = dz_cn 2 n.val + (if n.val ∈ dz_ns 2 then 1 else 0) := by decide +kernel
theorem dz_t3_2 : ∀ n : Fin 4, n.val ∈ dz_ns 2 → ((fun (g v : Int32) => (dz_rem v g).toInt) 2 (Int32.ofNat n.val)) = dz_pr 2 (dz_cn 2 n.val) 1 ∧ ((fun (g v : Int32) => (dz_rem (v / g) g).toInt) 2 (Int32.ofNat n.val)) = dz_pr 2 (dz_cn 2 n.val) 0 := by decide +kernel
theorem dz_t4_2 : ∀ n : Fin 5, dz_cn 2 n.val ≤ 2 := by decide +kernel
theorem dz_lr0_2 {v c : Int32} {a : Nat → Int32} (hv : v.toInt = 0) (hc : c.toInt = 0) : dz_lr 2 v c a := by
  have e : dz_cn 2 v.toInt.toNat = 0 := by rw [hv]; decide
  refine ⟨by rw [e]; exact hc, fun r i hr => ?_⟩
  rw [e] at hr; omega
theorem dz_lrb2 {g v c : Int32} {a : Nat → Int32} (x : dz_lr 2 v c a) (hg : g.toInt = 2) (v0 : 0 ≤ v.toInt) (v1 : v.toInt ≤ 4) : 0 ≤ c.toInt ∧ c.toInt ≤ 2 ∧ (v.toInt < 4 → (dz_us2 g v).toInt = (((1 : Int32) <<< (g &&& 31)) - 1).toInt → c.toInt + 1 ≤ 2) := by
  have h4 := dz_t4_2 ⟨v.toInt.toNat, by omega⟩
  have hx := x.1
  simp only at h4
  refine ⟨by omega, by omega, fun hl hu => ?_⟩
  have eg : g = 2 := Int32.toInt_inj.mp (by rw [hg]; decide)
  subst eg
  have ev := dz_eqn (b := v) (c := v.toInt.toNat) (by omega) (by omega)
  have h1 := dz_t1_2 ⟨v.toInt.toNat, by omega⟩
  have h2 := dz_t2_2 ⟨v.toInt.toNat, by omega⟩
  have h5 := dz_t4_2 ⟨v.toInt.toNat + 1, by omega⟩
  simp only at h1 h2 h5
  rw [← ev] at h1
  have w : (((1 : Int32) <<< ((2 : Int32) &&& 31)) - 1).toInt = 3 := by decide
  rw [w] at hu
  rw [if_pos (h1 ▸ hu)] at h2
  omega
theorem dz_lrT2 {g v c v2 c2 : Int32} {a : Nat → Int32} (x : dz_lr 2 v c a) (hg : g.toInt = 2) (v0 : 0 ≤ v.toInt) (v1 : v.toInt < 4) (hv : v2.toInt = v.toInt + 1) (hc : c2.toInt = c.toInt + 1) (hu : (dz_us2 g v).toInt = (((1 : Int32) <<< (g &&& 31)) - 1).toInt) : dz_lr 2 v2 c2 (dz_up2 g v c a) := by
  have hb := dz_lrb2 (g := g) x hg v0 (by omega)
  have eg : g = 2 := Int32.toInt_inj.mp (by rw [hg]; decide)
  subst eg
  have ev := dz_eqn (b := v) (c := v.toInt.toNat) (by omega) (by omega)
  have h1 := dz_t1_2 ⟨v.toInt.toNat, by omega⟩
  have h2 := dz_t2_2 ⟨v.toInt.toNat, by omega⟩
  have h3 := dz_t3_2 ⟨v.toInt.toNat, by omega⟩
  simp only at h1 h2 h3
  rw [← ev] at h1 h3
  have w : (((1 : Int32) <<< ((2 : Int32) &&& 31)) - 1).toInt = 3 := by decide
  rw [w] at hu
  have ew : v2.toInt.toNat = v.toInt.toNat + 1 := by omega
  obtain ⟨x1, x2⟩ := x
  have l4 : (4 : Int32).toInt = 4 := by decide
  have ec := dz_mull (a := 4) (b := c) 4 l4 (by omega) (by omega)
  have k0 : ((2 - 1) : Int32).toInt = 1 := by decide
  have e0 := dz_add (a := 4 * c) (b := (2 - 1)) (by omega) (by omega)
  have f0 := dz_tn ((4 * c) + (2 - 1))
  rw [e0, ec, k0] at f0
  have k1 : (((2 - 1) + (-1)) : Int32).toInt = 0 := by decide
  have e1 := dz_add (a := 4 * c) (b := ((2 - 1) + (-1))) (by omega) (by omega)
  have f1 := dz_tn ((4 * c) + ((2 - 1) + (-1)))
  rw [e1, ec, k1] at f1
  have rd : ∀ n : Nat, dz_up2 2 v c a n = (if n = ((4 * c) + ((2 - 1) + (-1))).toNatClampNeg then (dz_rem (v / 2) 2) else (if n = ((4 * c) + (2 - 1)).toNatClampNeg then (dz_rem v 2) else a n)) := fun n => rfl
  rw [if_pos (h1 ▸ hu)] at h2
  have h3 := h3 (h1 ▸ hu)
  refine ⟨by rw [ew, h2]; omega, fun r i hr hi => ?_⟩
  rw [ew, h2] at hr
  rcases Nat.lt_or_ge r (dz_cn 2 v.toInt.toNat) with hq | hq
  · rw [rd, f0, f1, if_neg (by omega), if_neg (by omega)]
    exact x2 r i hq hi
  · have er : r = dz_cn 2 v.toInt.toNat := by omega
    subst er
    rcases (show i = 0 ∨ i = 1 by omega) with rfl | rfl
    · rw [rd, f0, f1, if_pos (by omega)]
      exact h3.2
    · rw [rd, f0, f1, if_neg (by omega), if_pos (by omega)]
      exact h3.1
theorem dz_lrF2 {g v c v2 c2 : Int32} {a : Nat → Int32} (x : dz_lr 2 v c a) (hg : g.toInt = 2) (v0 : 0 ≤ v.toInt) (v1 : v.toInt < 4) (hv : v2.toInt = v.toInt + 1) (hc : c2.toInt = c.toInt) (hu : (dz_us2 g v).toInt ≠ (((1 : Int32) <<< (g &&& 31)) - 1).toInt) : dz_lr 2 v2 c2 (dz_up2 g v c a) := by
  have hb := dz_lrb2 (g := g) x hg v0 (by omega)
  have eg : g = 2 := Int32.toInt_inj.mp (by rw [hg]; decide)
  subst eg
  have ev := dz_eqn (b := v) (c := v.toInt.toNat) (by omega) (by omega)
  have h1 := dz_t1_2 ⟨v.toInt.toNat, by omega⟩
  have h2 := dz_t2_2 ⟨v.toInt.toNat, by omega⟩
  have h3 := dz_t3_2 ⟨v.toInt.toNat, by omega⟩
  simp only at h1 h2 h3
  rw [← ev] at h1 h3
  have w : (((1 : Int32) <<< ((2 : Int32) &&& 31)) - 1).toInt = 3 := by decide
  rw [w] at hu
  have ew : v2.toInt.toNat = v.toInt.toNat + 1 := by omega
  obtain ⟨x1, x2⟩ := x
  have l4 : (4 : Int32).toInt = 4 := by decide
  have ec := dz_mull (a := 4) (b := c) 4 l4 (by omega) (by omega)
  have k0 : ((2 - 1) : Int32).toInt = 1 := by decide
  have e0 := dz_add (a := 4 * c) (b := (2 - 1)) (by omega) (by omega)
  have f0 := dz_tn ((4 * c) + (2 - 1))
  rw [e0, ec, k0] at f0
  have k1 : (((2 - 1) + (-1)) : Int32).toInt = 0 := by decide
  have e1 := dz_add (a := 4 * c) (b := ((2 - 1) + (-1))) (by omega) (by omega)
  have f1 := dz_tn ((4 * c) + ((2 - 1) + (-1)))
  rw [e1, ec, k1] at f1
  have rd : ∀ n : Nat, dz_up2 2 v c a n = (if n = ((4 * c) + ((2 - 1) + (-1))).toNatClampNeg then (dz_rem (v / 2) 2) else (if n = ((4 * c) + (2 - 1)).toNatClampNeg then (dz_rem v 2) else a n)) := fun n => rfl
  rw [if_neg (fun q => hu (h1 ▸ q))] at h2
  refine ⟨by rw [ew, h2]; omega, fun r i hr hi => ?_⟩
  rw [ew, h2] at hr
  rw [rd, f0, f1, if_neg (by omega), if_neg (by omega)]
  exact x2 r i (by omega) hi
theorem dz_lrE2 {v c : Int32} {a : Nat → Int32} (x : dz_lr 2 v c a) (hv : v.toInt = 4) : c.toInt = 2 ∧ dz_rw 2 2 a := by
  have e : dz_cn 2 v.toInt.toNat = 2 := by rw [hv]; decide
  obtain ⟨x1, x2⟩ := x
  rw [e] at x1 x2
  exact ⟨x1, x2⟩
abbrev dz_us3 (g v : Int32) : Int32 := ((((0 : Int32) ||| ((1 : Int32) <<< ((dz_rem v g) &&& 31))) ||| ((1 : Int32) <<< ((dz_rem (v / g) g) &&& 31))) ||| ((1 : Int32) <<< ((dz_rem ((v / g) / g) g) &&& 31)))
abbrev dz_up3 (g v c : Int32) (a : Nat → Int32) : Nat → Int32 := (upd (upd (upd a ((4 * c) + (g - 1)).toNatClampNeg (dz_rem v g)) ((4 * c) + ((g - 1) + (-1))).toNatClampNeg (dz_rem (v / g) g)) ((4 * c) + (((g - 1) + (-1)) + (-1))).toNatClampNeg (dz_rem ((v / g) / g) g))
theorem dz_t1_3 : ∀ n : Fin 27, ((dz_us3 3 (Int32.ofNat n.val)).toInt = 7) = (n.val ∈ dz_ns 3) := by decide +kernel
theorem dz_t2_3 : ∀ n : Fin 27, dz_cn 3 (n.val + 1) = dz_cn 3 n.val + (if n.val ∈ dz_ns 3 then 1 else 0) := by decide +kernel
theorem dz_t3_3 : ∀ n : Fin 27, n.val ∈ dz_ns 3 → ((fun (g v : Int32) => (dz_rem v g).toInt) 3 (Int32.ofNat n.val)) = dz_pr 3 (dz_cn 3 n.val) 2 ∧ ((fun (g v : Int32) => (dz_rem (v / g) g).toInt) 3 (Int32.ofNat n.val)) = dz_pr 3 (dz_cn 3 n.val) 1 ∧ ((fun (g v : Int32) => (dz_rem ((v / g) / g) g).toInt) 3 (Int32.ofNat n.val)) = dz_pr 3 (dz_cn 3 n.val) 0 := by decide +kernel
theorem dz_t4_3 : ∀ n : Fin 28, dz_cn 3 n.val ≤ 6 := by decide +kernel
theorem dz_lr0_3 {v c : Int32} {a : Nat → Int32} (hv : v.toInt = 0) (hc : c.toInt = 0) : dz_lr 3 v c a := by
  have e : dz_cn 3 v.toInt.toNat = 0 := by rw [hv]; decide
  refine ⟨by rw [e]; exact hc, fun r i hr => ?_⟩
  rw [e] at hr; omega
theorem dz_lrb3 {g v c : Int32} {a : Nat → Int32} (x : dz_lr 3 v c a) (hg : g.toInt = 3) (v0 : 0 ≤ v.toInt) (v1 : v.toInt ≤ 27) : 0 ≤ c.toInt ∧ c.toInt ≤ 6 ∧ (v.toInt < 27 → (dz_us3 g v).toInt = (((1 : Int32) <<< (g &&& 31)) - 1).toInt → c.toInt + 1 ≤ 6) := by
  have h4 := dz_t4_3 ⟨v.toInt.toNat, by omega⟩
  have hx := x.1
  simp only at h4
  refine ⟨by omega, by omega, fun hl hu => ?_⟩
  have eg : g = 3 := Int32.toInt_inj.mp (by rw [hg]; decide)
  subst eg
  have ev := dz_eqn (b := v) (c := v.toInt.toNat) (by omega) (by omega)
  have h1 := dz_t1_3 ⟨v.toInt.toNat, by omega⟩
  have h2 := dz_t2_3 ⟨v.toInt.toNat, by omega⟩
  have h5 := dz_t4_3 ⟨v.toInt.toNat + 1, by omega⟩
  simp only at h1 h2 h5
  rw [← ev] at h1
  have w : (((1 : Int32) <<< ((3 : Int32) &&& 31)) - 1).toInt = 7 := by decide
  rw [w] at hu
  rw [if_pos (h1 ▸ hu)] at h2
  omega
theorem dz_lrT3 {g v c v2 c2 : Int32} {a : Nat → Int32} (x : dz_lr 3 v c a) (hg : g.toInt = 3) (v0 : 0 ≤ v.toInt) (v1 : v.toInt < 27) (hv : v2.toInt = v.toInt + 1) (hc : c2.toInt = c.toInt + 1) (hu : (dz_us3 g v).toInt = (((1 : Int32) <<< (g &&& 31)) - 1).toInt) : dz_lr 3 v2 c2 (dz_up3 g v c a) := by
  have hb := dz_lrb3 (g := g) x hg v0 (by omega)
  have eg : g = 3 := Int32.toInt_inj.mp (by rw [hg]; decide)
  subst eg
  have ev := dz_eqn (b := v) (c := v.toInt.toNat) (by omega) (by omega)
  have h1 := dz_t1_3 ⟨v.toInt.toNat, by omega⟩
  have h2 := dz_t2_3 ⟨v.toInt.toNat, by omega⟩
  have h3 := dz_t3_3 ⟨v.toInt.toNat, by omega⟩
  simp only at h1 h2 h3
  rw [← ev] at h1 h3
  have w : (((1 : Int32) <<< ((3 : Int32) &&& 31)) - 1).toInt = 7 := by decide
  rw [w] at hu
  have ew : v2.toInt.toNat = v.toInt.toNat + 1 := by omega
  obtain ⟨x1, x2⟩ := x
  have l4 : (4 : Int32).toInt = 4 := by decide
  have ec := dz_mull (a := 4) (b := c) 4 l4 (by omega) (by omega)
  have k0 : ((3 - 1) : Int32).toInt = 2 := by decide
  have e0 := dz_add (a := 4 * c) (b := (3 - 1)) (by omega) (by omega)
  have f0 := dz_tn ((4 * c) + (3 - 1))
  rw [e0, ec, k0] at f0
  have k1 : (((3 - 1) + (-1)) : Int32).toInt = 1 := by decide
  have e1 := dz_add (a := 4 * c) (b := ((3 - 1) + (-1))) (by omega) (by omega)
  have f1 := dz_tn ((4 * c) + ((3 - 1) + (-1)))
  rw [e1, ec, k1] at f1
  have k2 : ((((3 - 1) + (-1)) + (-1)) : Int32).toInt = 0 := by decide
  have e2 := dz_add (a := 4 * c) (b := (((3 - 1) + (-1)) + (-1))) (by omega) (by omega)
  have f2 := dz_tn ((4 * c) + (((3 - 1) + (-1)) + (-1)))
  rw [e2, ec, k2] at f2
  have rd : ∀ n : Nat, dz_up3 3 v c a n = (if n = ((4 * c) + (((3 - 1) + (-1)) + (-1))).toNatClampNeg then (dz_rem ((v / 3) / 3) 3) else (if n = ((4 * c) + ((3 - 1) + (-1))).toNatClampNeg then (dz_rem (v / 3) 3) else (if n = ((4 * c) + (3 - 1)).toNatClampNeg then (dz_rem v 3) else a n))) := fun n => rfl
  rw [if_pos (h1 ▸ hu)] at h2
  have h3 := h3 (h1 ▸ hu)
  refine ⟨by rw [ew, h2]; omega, fun r i hr hi => ?_⟩
  rw [ew, h2] at hr
  rcases Nat.lt_or_ge r (dz_cn 3 v.toInt.toNat) with hq | hq
  · rw [rd, f0, f1, f2, if_neg (by omega), if_neg (by omega), if_neg (by omega)]
    exact x2 r i hq hi
  · have er : r = dz_cn 3 v.toInt.toNat := by omega
    subst er
    rcases (show i = 0 ∨ i = 1 ∨ i = 2 by omega) with rfl | rfl | rfl
    · rw [rd, f0, f1, f2, if_pos (by omega)]
      exact h3.2.2
    · rw [rd, f0, f1, f2, if_neg (by omega), if_pos (by omega)]
      exact h3.2.1
    · rw [rd, f0, f1, f2, if_neg (by omega), if_neg (by omega), if_pos (by omega)]
      exact h3.1
theorem dz_lrF3 {g v c v2 c2 : Int32} {a : Nat → Int32} (x : dz_lr 3 v c a) (hg : g.toInt = 3) (v0 : 0 ≤ v.toInt) (v1 : v.toInt < 27) (hv : v2.toInt = v.toInt + 1) (hc : c2.toInt = c.toInt) (hu : (dz_us3 g v).toInt ≠ (((1 : Int32) <<< (g &&& 31)) - 1).toInt) : dz_lr 3 v2 c2 (dz_up3 g v c a) := by
  have hb := dz_lrb3 (g := g) x hg v0 (by omega)
  have eg : g = 3 := Int32.toInt_inj.mp (by rw [hg]; decide)
  subst eg
  have ev := dz_eqn (b := v) (c := v.toInt.toNat) (by omega) (by omega)
  have h1 := dz_t1_3 ⟨v.toInt.toNat, by omega⟩
  have h2 := dz_t2_3 ⟨v.toInt.toNat, by omega⟩
  have h3 := dz_t3_3 ⟨v.toInt.toNat, by omega⟩
  simp only at h1 h2 h3
  rw [← ev] at h1 h3
  have w : (((1 : Int32) <<< ((3 : Int32) &&& 31)) - 1).toInt = 7 := by decide
  rw [w] at hu
  have ew : v2.toInt.toNat = v.toInt.toNat + 1 := by omega
  obtain ⟨x1, x2⟩ := x
  have l4 : (4 : Int32).toInt = 4 := by decide
  have ec := dz_mull (a := 4) (b := c) 4 l4 (by omega) (by omega)
  have k0 : ((3 - 1) : Int32).toInt = 2 := by decide
  have e0 := dz_add (a := 4 * c) (b := (3 - 1)) (by omega) (by omega)
  have f0 := dz_tn ((4 * c) + (3 - 1))
  rw [e0, ec, k0] at f0
  have k1 : (((3 - 1) + (-1)) : Int32).toInt = 1 := by decide
  have e1 := dz_add (a := 4 * c) (b := ((3 - 1) + (-1))) (by omega) (by omega)
  have f1 := dz_tn ((4 * c) + ((3 - 1) + (-1)))
  rw [e1, ec, k1] at f1
  have k2 : ((((3 - 1) + (-1)) + (-1)) : Int32).toInt = 0 := by decide
  have e2 := dz_add (a := 4 * c) (b := (((3 - 1) + (-1)) + (-1))) (by omega) (by omega)
  have f2 := dz_tn ((4 * c) + (((3 - 1) + (-1)) + (-1)))
  rw [e2, ec, k2] at f2
  have rd : ∀ n : Nat, dz_up3 3 v c a n = (if n = ((4 * c) + (((3 - 1) + (-1)) + (-1))).toNatClampNeg then (dz_rem ((v / 3) / 3) 3) else (if n = ((4 * c) + ((3 - 1) + (-1))).toNatClampNeg then (dz_rem (v / 3) 3) else (if n = ((4 * c) + (3 - 1)).toNatClampNeg then (dz_rem v 3) else a n))) := fun n => rfl
  rw [if_neg (fun q => hu (h1 ▸ q))] at h2
  refine ⟨by rw [ew, h2]; omega, fun r i hr hi => ?_⟩
  rw [ew, h2] at hr
  rw [rd, f0, f1, f2, if_neg (by omega), if_neg (by omega), if_neg (by omega)]
  exact x2 r i (by omega) hi
theorem dz_lrE3 {v c : Int32} {a : Nat → Int32} (x : dz_lr 3 v c a) (hv : v.toInt = 27) : c.toInt = 6 ∧ dz_rw 3 6 a := by
  have e : dz_cn 3 v.toInt.toNat = 6 := by rw [hv]; decide
  obtain ⟨x1, x2⟩ := x
  rw [e] at x1 x2
  exact ⟨x1, x2⟩
abbrev dz_us4 (g v : Int32) : Int32 := (((((0 : Int32) ||| ((1 : Int32) <<< ((dz_rem v g) &&& 31))) ||| ((1 : Int32) <<< ((dz_rem (v / g) g) &&& 31))) ||| ((1 : Int32) <<< ((dz_rem ((v / g) / g) g) &&& 31))) ||| ((1 : Int32) <<< ((dz_rem (((v / g) / g) / g) g) &&& 31)))
abbrev dz_up4 (g v c : Int32) (a : Nat → Int32) : Nat → Int32 := (upd (upd (upd (upd a ((4 * c) + (g - 1)).toNatClampNeg (dz_rem v g)) ((4 * c) + ((g - 1) + (-1))).toNatClampNeg (dz_rem (v / g) g)) ((4 * c) + (((g - 1) + (-1)) + (-1))).toNatClampNeg (dz_rem ((v / g) / g) g)) ((4 * c) + ((((g - 1) + (-1)) + (-1)) + (-1))).toNatClampNeg (dz_rem (((v / g) / g) / g) g))
theorem dz_t1_4 : ∀ n : Fin 256, ((dz_us4 4 (Int32.ofNat n.val)).toInt = 15) = (n.val ∈ dz_ns 4) := by decide +kernel
theorem dz_t2_4 : ∀ n : Fin 256, dz_cn 4 (n.val + 1) = dz_cn 4 n.val + (if n.val ∈ dz_ns 4 then 1 else 0) := by decide +kernel
theorem dz_t3_4 : ∀ n : Fin 256, n.val ∈ dz_ns 4 → ((fun (g v : Int32) => (dz_rem v g).toInt) 4 (Int32.ofNat n.val)) = dz_pr 4 (dz_cn 4 n.val) 3 ∧ ((fun (g v : Int32) => (dz_rem (v / g) g).toInt) 4 (Int32.ofNat n.val)) = dz_pr 4 (dz_cn 4 n.val) 2 ∧ ((fun (g v : Int32) => (dz_rem ((v / g) / g) g).toInt) 4 (Int32.ofNat n.val)) = dz_pr 4 (dz_cn 4 n.val) 1 ∧ ((fun (g v : Int32) => (dz_rem (((v / g) / g) / g) g).toInt) 4 (Int32.ofNat n.val)) = dz_pr 4 (dz_cn 4 n.val) 0 := by decide +kernel
theorem dz_t4_4 : ∀ n : Fin 257, dz_cn 4 n.val ≤ 24 := by decide +kernel
theorem dz_lr0_4 {v c : Int32} {a : Nat → Int32} (hv : v.toInt = 0) (hc : c.toInt = 0) : dz_lr 4 v c a := by
  have e : dz_cn 4 v.toInt.toNat = 0 := by rw [hv]; decide
  refine ⟨by rw [e]; exact hc, fun r i hr => ?_⟩
  rw [e] at hr; omega
theorem dz_lrb4 {g v c : Int32} {a : Nat → Int32} (x : dz_lr 4 v c a) (hg : g.toInt = 4) (v0 : 0 ≤ v.toInt) (v1 : v.toInt ≤ 256) : 0 ≤ c.toInt ∧ c.toInt ≤ 24 ∧ (v.toInt < 256 → (dz_us4 g v).toInt = (((1 : Int32) <<< (g &&& 31)) - 1).toInt → c.toInt + 1 ≤ 24) := by
  have h4 := dz_t4_4 ⟨v.toInt.toNat, by omega⟩
  have hx := x.1
  simp only at h4
  refine ⟨by omega, by omega, fun hl hu => ?_⟩
  have eg : g = 4 := Int32.toInt_inj.mp (by rw [hg]; decide)
  subst eg
  have ev := dz_eqn (b := v) (c := v.toInt.toNat) (by omega) (by omega)
  have h1 := dz_t1_4 ⟨v.toInt.toNat, by omega⟩
  have h2 := dz_t2_4 ⟨v.toInt.toNat, by omega⟩
  have h5 := dz_t4_4 ⟨v.toInt.toNat + 1, by omega⟩
  simp only at h1 h2 h5
  rw [← ev] at h1
  have w : (((1 : Int32) <<< ((4 : Int32) &&& 31)) - 1).toInt = 15 := by decide
  rw [w] at hu
  rw [if_pos (h1 ▸ hu)] at h2
  omega
theorem dz_lrT4 {g v c v2 c2 : Int32} {a : Nat → Int32} (x : dz_lr 4 v c a) (hg : g.toInt = 4) (v0 : 0 ≤ v.toInt) (v1 : v.toInt < 256) (hv : v2.toInt = v.toInt + 1) (hc : c2.toInt = c.toInt + 1) (hu : (dz_us4 g v).toInt = (((1 : Int32) <<< (g &&& 31)) - 1).toInt) : dz_lr 4 v2 c2 (dz_up4 g v c a) := by
  have hb := dz_lrb4 (g := g) x hg v0 (by omega)
  have eg : g = 4 := Int32.toInt_inj.mp (by rw [hg]; decide)
  subst eg
  have ev := dz_eqn (b := v) (c := v.toInt.toNat) (by omega) (by omega)
  have h1 := dz_t1_4 ⟨v.toInt.toNat, by omega⟩
  have h2 := dz_t2_4 ⟨v.toInt.toNat, by omega⟩
  have h3 := dz_t3_4 ⟨v.toInt.toNat, by omega⟩
  simp only at h1 h2 h3
  rw [← ev] at h1 h3
  have w : (((1 : Int32) <<< ((4 : Int32) &&& 31)) - 1).toInt = 15 := by decide
  rw [w] at hu
  have ew : v2.toInt.toNat = v.toInt.toNat + 1 := by omega
  obtain ⟨x1, x2⟩ := x
  have l4 : (4 : Int32).toInt = 4 := by decide
  have ec := dz_mull (a := 4) (b := c) 4 l4 (by omega) (by omega)
  have k0 : ((4 - 1) : Int32).toInt = 3 := by decide
  have e0 := dz_add (a := 4 * c) (b := (4 - 1)) (by omega) (by omega)
  have f0 := dz_tn ((4 * c) + (4 - 1))
  rw [e0, ec, k0] at f0
  have k1 : (((4 - 1) + (-1)) : Int32).toInt = 2 := by decide
  have e1 := dz_add (a := 4 * c) (b := ((4 - 1) + (-1))) (by omega) (by omega)
  have f1 := dz_tn ((4 * c) + ((4 - 1) + (-1)))
  rw [e1, ec, k1] at f1
  have k2 : ((((4 - 1) + (-1)) + (-1)) : Int32).toInt = 1 := by decide
  have e2 := dz_add (a := 4 * c) (b := (((4 - 1) + (-1)) + (-1))) (by omega) (by omega)
  have f2 := dz_tn ((4 * c) + (((4 - 1) + (-1)) + (-1)))
  rw [e2, ec, k2] at f2
  have k3 : (((((4 - 1) + (-1)) + (-1)) + (-1)) : Int32).toInt = 0 := by decide
  have e3 := dz_add (a := 4 * c) (b := ((((4 - 1) + (-1)) + (-1)) + (-1))) (by omega) (by omega)
  have f3 := dz_tn ((4 * c) + ((((4 - 1) + (-1)) + (-1)) + (-1)))
  rw [e3, ec, k3] at f3
  have rd : ∀ n : Nat, dz_up4 4 v c a n = (if n = ((4 * c) + ((((4 - 1) + (-1)) + (-1)) + (-1))).toNatClampNeg then (dz_rem (((v / 4) / 4) / 4) 4) else (if n = ((4 * c) + (((4 - 1) + (-1)) + (-1))).toNatClampNeg then (dz_rem ((v / 4) / 4) 4) else (if n = ((4 * c) + ((4 - 1) + (-1))).toNatClampNeg then (dz_rem (v / 4) 4) else (if n = ((4 * c) + (4 - 1)).toNatClampNeg then (dz_rem v 4) else a n)))) := fun n => rfl
  rw [if_pos (h1 ▸ hu)] at h2
  have h3 := h3 (h1 ▸ hu)
  refine ⟨by rw [ew, h2]; omega, fun r i hr hi => ?_⟩
  rw [ew, h2] at hr
  rcases Nat.lt_or_ge r (dz_cn 4 v.toInt.toNat) with hq | hq
  · rw [rd, f0, f1, f2, f3, if_neg (by omega), if_neg (by omega), if_neg (by omega), if_neg (by omega)]
    exact x2 r i hq hi
  · have er : r = dz_cn 4 v.toInt.toNat := by omega
    subst er
    rcases (show i = 0 ∨ i = 1 ∨ i = 2 ∨ i = 3 by omega) with rfl | rfl | rfl | rfl
    · rw [rd, f0, f1, f2, f3, if_pos (by omega)]
      exact h3.2.2.2
    · rw [rd, f0, f1, f2, f3, if_neg (by omega), if_pos (by omega)]
      exact h3.2.2.1
    · rw [rd, f0, f1, f2, f3, if_neg (by omega), if_neg (by omega), if_pos (by omega)]
      exact h3.2.1
    · rw [rd, f0, f1, f2, f3, if_neg (by omega), if_neg (by omega), if_neg (by omega), if_pos (by omega)]
      exact h3.1
theorem dz_lrF4 {g v c v2 c2 : Int32} {a : Nat → Int32} (x : dz_lr 4 v c a) (hg : g.toInt = 4) (v0 : 0 ≤ v.toInt) (v1 : v.toInt < 256) (hv : v2.toInt = v.toInt + 1) (hc : c2.toInt = c.toInt) (hu : (dz_us4 g v).toInt ≠ (((1 : Int32) <<< (g &&& 31)) - 1).toInt) : dz_lr 4 v2 c2 (dz_up4 g v c a) := by
  have hb := dz_lrb4 (g := g) x hg v0 (by omega)
  have eg : g = 4 := Int32.toInt_inj.mp (by rw [hg]; decide)
  subst eg
  have ev := dz_eqn (b := v) (c := v.toInt.toNat) (by omega) (by omega)
  have h1 := dz_t1_4 ⟨v.toInt.toNat, by omega⟩
  have h2 := dz_t2_4 ⟨v.toInt.toNat, by omega⟩
  have h3 := dz_t3_4 ⟨v.toInt.toNat, by omega⟩
  simp only at h1 h2 h3
  rw [← ev] at h1 h3
  have w : (((1 : Int32) <<< ((4 : Int32) &&& 31)) - 1).toInt = 15 := by decide
  rw [w] at hu
  have ew : v2.toInt.toNat = v.toInt.toNat + 1 := by omega
  obtain ⟨x1, x2⟩ := x
  have l4 : (4 : Int32).toInt = 4 := by decide
  have ec := dz_mull (a := 4) (b := c) 4 l4 (by omega) (by omega)
  have k0 : ((4 - 1) : Int32).toInt = 3 := by decide
  have e0 := dz_add (a := 4 * c) (b := (4 - 1)) (by omega) (by omega)
  have f0 := dz_tn ((4 * c) + (4 - 1))
  rw [e0, ec, k0] at f0
  have k1 : (((4 - 1) + (-1)) : Int32).toInt = 2 := by decide
  have e1 := dz_add (a := 4 * c) (b := ((4 - 1) + (-1))) (by omega) (by omega)
  have f1 := dz_tn ((4 * c) + ((4 - 1) + (-1)))
  rw [e1, ec, k1] at f1
  have k2 : ((((4 - 1) + (-1)) + (-1)) : Int32).toInt = 1 := by decide
  have e2 := dz_add (a := 4 * c) (b := (((4 - 1) + (-1)) + (-1))) (by omega) (by omega)
  have f2 := dz_tn ((4 * c) + (((4 - 1) + (-1)) + (-1)))
  rw [e2, ec, k2] at f2
  have k3 : (((((4 - 1) + (-1)) + (-1)) + (-1)) : Int32).toInt = 0 := by decide
  have e3 := dz_add (a := 4 * c) (b := ((((4 - 1) + (-1)) + (-1)) + (-1))) (by omega) (by omega)
  have f3 := dz_tn ((4 * c) + ((((4 - 1) + (-1)) + (-1)) + (-1)))
  rw [e3, ec, k3] at f3
  have rd : ∀ n : Nat, dz_up4 4 v c a n = (if n = ((4 * c) + ((((4 - 1) + (-1)) + (-1)) + (-1))).toNatClampNeg then (dz_rem (((v / 4) / 4) / 4) 4) else (if n = ((4 * c) + (((4 - 1) + (-1)) + (-1))).toNatClampNeg then (dz_rem ((v / 4) / 4) 4) else (if n = ((4 * c) + ((4 - 1) + (-1))).toNatClampNeg then (dz_rem (v / 4) 4) else (if n = ((4 * c) + (4 - 1)).toNatClampNeg then (dz_rem v 4) else a n)))) := fun n => rfl
  rw [if_neg (fun q => hu (h1 ▸ q))] at h2
  refine ⟨by rw [ew, h2]; omega, fun r i hr hi => ?_⟩
  rw [ew, h2] at hr
  rw [rd, f0, f1, f2, f3, if_neg (by omega), if_neg (by omega), if_neg (by omega), if_neg (by omega)]
  exact x2 r i (by omega) hi
theorem dz_lrE4 {v c : Int32} {a : Nat → Int32} (x : dz_lr 4 v c a) (hv : v.toInt = 256) : c.toInt = 24 ∧ dz_rw 4 24 a := by
  have e : dz_cn 4 v.toInt.toNat = 24 := by rw [hv]; decide
  obtain ⟨x1, x2⟩ := x
  rw [e] at x1 x2
  exact ⟨x1, x2⟩
