/-- run: how many places of a part are open -/
def dz_fc (G p : Nat) : Nat → Nat
  | 0 => 0
  | n + 1 => dz_fc G p n + (if dz_dg G p n = G then 1 else 0)
theorem dz_fcm {G p n m : Nat} (h : n ≤ m) : dz_fc G p n ≤ dz_fc G p m := by
  induction m with
  | zero => rw [Nat.le_zero.mp h]; exact Nat.le_refl _
  | succ m ih =>
    by_cases e : n = m + 1
    · rw [e]; exact Nat.le_refl _
    · exact Nat.le_trans (ih (by omega)) (Nat.le_add_right _ _)
theorem dz_fc0 {G p n : Nat} (hG : G = 2 ∨ G = 3 ∨ G = 4) (hp : p = (G + 1) ^ G - 1) (hn : n ≤ G) : dz_fc G p n = n := by
  subst hp
  induction n with
  | zero => rfl
  | succ n ih =>
    show dz_fc G _ n + _ = _
    rw [ih (by omega), if_pos (dz_dgT hG (by omega))]
theorem dz_fcd {G p p' i g : Nat} (hs : dz_sd G p p' i g) (hi : dz_dg G p i = G) (n : Nat) (hn : n ≤ G) : (n ≤ i → dz_fc G p' n = dz_fc G p n) ∧ (i < n → dz_fc G p' n + 1 = dz_fc G p n) := by
  induction n with
  | zero => exact ⟨fun _ => rfl, fun h => absurd h (Nat.not_lt_zero _)⟩
  | succ n ih =>
    obtain ⟨h1, h2⟩ := ih (by omega)
    constructor
    · intro h
      show dz_fc G p' n + _ = dz_fc G p n + _
      rw [h1 (by omega), hs.2.2.2 n (by omega) (by omega)]
    · intro h
      show dz_fc G p' n + _ + 1 = dz_fc G p n + _
      by_cases e : n = i
      · rw [h1 (by omega), e, hi, hs.2.2.1, if_pos rfl, if_neg (by have := hs.2.1; omega)]
      · rw [← h2 (by omega), hs.2.2.2 n (by omega) e]; omega
theorem dz_fcs {G R p i : Nat} {m q k l : Int32} (hs : dz_po G R m p q.toInt.toNat i) (hi : dz_dg G p i = G) (iG : i < G) (h : ((dz_fc G p G : Nat) : Int) = k.toInt) (e : l.toInt = k.toInt - 1) : ((dz_fc G q.toInt.toNat G : Nat) : Int) = l.toInt := by
  obtain ⟨g, hs⟩ := hs.2
  have := (dz_fcd hs hi G (Nat.le_refl G)).2 iG
  omega
theorem dz_fcz {G p : Nat} (h : dz_fc G p G = 0) (i : Nat) (hi : i < G) : dz_dg G p i < G := by
  have h1 : dz_fc G p (i + 1) ≤ dz_fc G p G := dz_fcm hi
  have h2 : dz_fc G p (i + 1) = dz_fc G p i + (if dz_dg G p i = G then 1 else 0) := rfl
  have h3 : dz_dg G p i < G + 1 := Nat.mod_lt _ (by omega)
  by_cases e : dz_dg G p i = G
  · rw [if_pos e] at h2; omega
  · omega
theorem dz_runR {G R p r : Nat} {m k : Int32} (hG : G = 2 ∨ G = 3 ∨ G = 4) (hR : R = dz_R G) (h : dz_me G R m p) (hc : ((dz_fc G p G : Nat) : Int) = k.toInt) (hk : k.toInt = 0) (hr : r < R) (hf : dz_ft G p r) : dz_bit m r := by
  obtain ⟨q, h1, h2, h3⟩ := h
  have e : r = q := by
    apply dz_pru hG (hR ▸ hr) (hR ▸ h1)
    intro i hi
    have w := dz_fcz (by omega : dz_fc G p G = 0) i hi
    rw [hf i hi w, h3 i hi w]
  rw [e]; exact h2
def dz_sk (G p : Nat) (s i : Int32) : Prop := 0 ≤ s.toInt ∧ 0 ≤ i.toInt ∧ s.toInt + ((dz_fc G p i.toInt.toNat : Nat) : Int) < ((dz_fc G p G : Nat) : Int)
theorem dz_skl {G p : Nat} {s i : Int32} (h : dz_sk G p s i) : i.toInt < (G : Int) := by
  by_cases q : i.toInt < (G : Int)
  · exact q
  · have := dz_fcm (G := G) (p := p) (n := G) (m := i.toInt.toNat) (by omega)
    have := h.1; have := h.2.2
    omega
theorem dz_sk0 {G p : Nat} {s i k : Int32} (hc : ((dz_fc G p G : Nat) : Int) = k.toInt) (h0 : 0 ≤ s.toInt) (h1 : s.toInt < k.toInt) (hi : i.toInt = 0) : dz_sk G p s i := by
  refine ⟨h0, by omega, ?_⟩
  rw [hi]
  have e : dz_fc G p (0 : Int).toNat = 0 := rfl
  rw [e]; omega
theorem dz_sks {G p : Nat} {s i s' i' d : Int32} (h : dz_sk G p s i) (hd : d.toInt = ((dz_dg G p i.toInt.toNat : Nat) : Int)) (hs : (d.toInt < (G : Int) ∧ s'.toInt = s.toInt) ∨ ((G : Int) ≤ d.toInt ∧ 0 < s.toInt ∧ s'.toInt = s.toInt - 1)) (hi : i'.toInt = i.toInt + 1) : dz_sk G p s' i' := by
  obtain ⟨h1, h2, h3⟩ := h
  have e : i'.toInt.toNat = i.toInt.toNat + 1 := by omega
  have f : dz_fc G p (i.toInt.toNat + 1) = dz_fc G p i.toInt.toNat + (if dz_dg G p i.toInt.toNat = G then 1 else 0) := rfl
  have b : dz_dg G p i.toInt.toNat < G + 1 := Nat.mod_lt _ (by omega)
  refine ⟨by omega, by omega, ?_⟩
  rw [e, f]
  by_cases q : dz_dg G p i.toInt.toNat = G
  · rw [if_pos q]; omega
  · rw [if_neg q]; omega
theorem dz_dgG {G p : Nat} {i d : Int32} (hd : d.toInt = ((dz_dg G p i.toInt.toNat : Nat) : Int)) (h : (G : Int) ≤ d.toInt) : dz_dg G p i.toInt.toNat = G := by
  have b : dz_dg G p i.toInt.toNat < G + 1 := Nat.mod_lt _ (by omega)
  omega
theorem dz_rml {x y : Int64} (x0 : 0 ≤ x.toInt) (x1 : x.toInt ≤ 2147483647) (y0 : 1 ≤ y.toInt) (y1 : y.toInt ≤ 4) : 0 ≤ (dz_reml x y).toInt32.toInt ∧ (dz_reml x y).toInt32.toInt < y.toInt := by
  have d := Int.emod_add_mul_ediv x.toInt y.toInt
  have m0 := Int.emod_nonneg x.toInt (show y.toInt ≠ 0 by omega)
  have m1 := Int.emod_lt_of_pos x.toInt (show 0 < y.toInt by omega)
  have q0 := Int.ediv_nonneg x0 (show 0 ≤ y.toInt by omega)
  have q1 := Int.ediv_le_self y.toInt x0
  have e1 : (x / y).toInt = x.toInt / y.toInt := by
    rw [Int64.toInt_div, Int.tdiv_eq_ediv_of_nonneg x0]
    exact Int.bmod_eq_of_le (by omega) (by omega)
  have e2 : (x / y * y).toInt = x.toInt / y.toInt * y.toInt := by
    rw [Int64.toInt_mul, e1]
    rw [Int.mul_comm] at d
    exact Int.bmod_eq_of_le (by omega) (by omega)
  have e3 : (x - x / y * y).toInt = x.toInt % y.toInt := by
    rw [Int64.toInt_sub, e2]
    rw [Int.mul_comm] at d
    rw [show x.toInt - x.toInt / y.toInt * y.toInt = x.toInt % y.toInt by omega]
    exact Int.bmod_eq_of_le (by omega) (by omega)
  have e4 : (dz_reml x y).toInt32.toInt = (dz_reml x y).toInt.bmod (2 ^ 32) := Int64.toInt_toInt32 _
  rw [e4, e3, Int.bmod_eq_of_le (by omega) (by omega)]
  omega
theorem dz_rmk {x : Int64} {v : Int32} (a0 : 0 ≤ x.toInt) (a1 : x.toInt ≤ 2147483647) (h : v.toInt ≤ 4) : v.toInt ≤ 0 ∨ (0 ≤ (dz_reml (x / 65536) v.toInt64).toInt32.toInt ∧ (dz_reml (x / 65536) v.toInt64).toInt32.toInt < v.toInt) := by
  by_cases q : v.toInt ≤ 0
  · exact Or.inl q
  · right
    have hv : v.toInt64.toInt = v.toInt := Int32.toInt_toInt64 v
    have e1 : (x / 65536).toInt = x.toInt / 65536 := by
      rw [Int64.toInt_div, show (65536 : Int64).toInt = 65536 by decide, Int.tdiv_eq_ediv_of_nonneg a0]
      exact Int.bmod_eq_of_le (by omega) (by omega)
    have w := dz_rml (x := x / 65536) (y := v.toInt64) (by omega) (by omega) (by omega) (by omega)
    rw [hv] at w
    exact w
theorem dz_cnx (fu : Nat) (x : Int64) : dz_T (f82_X12_comesNext fu x) (fun r => 0 ≤ r.toInt ∧ r.toInt ≤ 2147483647) := ⟨_, rfl, dz_andl64⟩
