/-! the reference: bars, draws, the lawful ones -/
def dz_bq (a : Nat → Int32) (n : Nat) : Prop := ∀ b, b < n → 0 ≤ (a (3 * b)).toInt ∧ (a (3 * b)).toInt ≤ 3 ∧ ((a (3 * b)).toInt ≠ 0 ∨ (a (3 * b + 2)).toInt ≤ 5)
theorem dz_bq0 {a : Nat → Int32} {n : Nat} (h : n = 0) : dz_bq a n := fun b hb => by omega
theorem dz_bqm {a : Nat → Int32} {n m : Nat} (h : dz_bq a n) (e : m ≤ n) : dz_bq a m := fun b hb => h b (by omega)
theorem dz_bqat {a : Nat → Int32} {n : Nat} {b : Int32} (h : dz_bq a n) (b0 : 0 ≤ b.toInt) (b1 : b.toInt < (n : Int)) (b9 : b.toInt ≤ 9) : 0 ≤ (a ((3 : Int32) * b).toNatClampNeg).toInt ∧ (a ((3 : Int32) * b).toNatClampNeg).toInt ≤ 3 ∧ ((a ((3 : Int32) * b).toNatClampNeg).toInt ≠ 0 ∨ (a (((3 : Int32) * b) + 2).toNatClampNeg).toInt ≤ 5) := by
  have l3 : (3 : Int32).toInt = 3 := by decide
  have l2 : (2 : Int32).toInt = 2 := by decide
  have e1 := dz_mull (a := 3) (b := b) 3 l3 (by omega) (by omega)
  have e2 := dz_add (a := 3 * b) (b := 2) (by omega) (by omega)
  have t1 := dz_tn ((3 : Int32) * b)
  have t2 := dz_tn (((3 : Int32) * b) + 2)
  have h := h b.toInt.toNat (by omega)
  rw [show ((3 : Int32) * b).toNatClampNeg = 3 * b.toInt.toNat by omega, show (((3 : Int32) * b) + 2).toNatClampNeg = 3 * b.toInt.toNat + 2 by omega]
  exact h
theorem dz_bq3 {a : Nat → Int32} {n n' s o t : Int32} (h : dz_bq a n.toInt.toNat) (n0 : 0 ≤ n.toInt) (n9 : n.toInt ≤ 9) (hn : n'.toInt = n.toInt + 1) (s0 : 0 ≤ s.toInt) (s3 : s.toInt ≤ 3) (ht : s.toInt ≠ 0 ∨ t.toInt ≤ 5) : dz_bq (upd (upd (upd a ((3 : Int32) * n).toNatClampNeg s) (((3 : Int32) * n) + 1).toNatClampNeg o) (((3 : Int32) * n) + 2).toNatClampNeg t) n'.toInt.toNat := by
  have l3 : (3 : Int32).toInt = 3 := by decide
  have l2 : (2 : Int32).toInt = 2 := by decide
  have l1 : (1 : Int32).toInt = 1 := by decide
  have e0 := dz_mull (a := 3) (b := n) 3 l3 (by omega) (by omega)
  have e1 := dz_add (a := 3 * n) (b := 1) (by omega) (by omega)
  have e2 := dz_add (a := 3 * n) (b := 2) (by omega) (by omega)
  have t0 := dz_tn ((3 : Int32) * n)
  have t1 := dz_tn (((3 : Int32) * n) + 1)
  have t2 := dz_tn (((3 : Int32) * n) + 2)
  have rd : ∀ j, (upd (upd (upd a ((3 : Int32) * n).toNatClampNeg s) (((3 : Int32) * n) + 1).toNatClampNeg o) (((3 : Int32) * n) + 2).toNatClampNeg t) j = if j = (((3 : Int32) * n) + 2).toNatClampNeg then t else if j = (((3 : Int32) * n) + 1).toNatClampNeg then o else if j = ((3 : Int32) * n).toNatClampNeg then s else a j := fun j => rfl
  intro b hb
  rcases Nat.lt_or_ge b n.toInt.toNat with q | q
  · rw [rd, rd, if_neg (by omega), if_neg (by omega), if_neg (by omega), if_neg (by omega), if_neg (by omega), if_neg (by omega)]
    exact h b q
  · rw [rd, rd, if_neg (by omega), if_neg (by omega), if_pos (by omega), if_pos (by omega)]
    exact ⟨s0, s3, ht⟩
theorem dz_bqc {a b : Nat → Int32} {n : Nat} (h : dz_bq b n) (e : ∀ j, j < 3 * n → a j = b j) : dz_bq a n := fun k hk => by
  rw [e _ (by omega), e _ (by omega)]; exact h k hk
/-- a row that is copied from its beginning on -/
def dz_cp (a b : Nat → Int32) (n : Nat) : Prop := ∀ j, j < n → a j = b j
theorem dz_cp0 {a b : Nat → Int32} {n : Nat} (h : n = 0) : dz_cp a b n := fun j hj => by omega
theorem dz_cps {a b : Nat → Int32} {k k' : Int32} (h : dz_cp a b k.toInt.toNat) (k0 : 0 ≤ k.toInt) (e : k'.toInt = k.toInt + 1) : dz_cp (upd a k.toNatClampNeg (b k.toNatClampNeg)) b k'.toInt.toNat := fun j hj => by
  have t := dz_tn k
  show (if j = k.toNatClampNeg then b k.toNatClampNeg else a j) = b j
  by_cases q : j = k.toNatClampNeg
  · rw [if_pos q, q]
  · rw [if_neg q]; exact h j (by omega)
/-- what group each team has in each draw -/
def dz_gq (G R P : Nat) (a : Nat → Int32) (N : Nat) : Prop := ∀ c p i, p < P → i < G → 12 * c + p * G + i < N → (a (12 * c + p * G + i)).toInt = dz_pr G (c / R ^ (P - 1 - p) % R) i
theorem dz_gq0 {G R P : Nat} {a : Nat → Int32} {N : Nat} (h : N = 0) : dz_gq G R P a N := fun c p i _ _ hN => by omega
theorem dz_gqm {G R P : Nat} {a : Nat → Int32} {N M : Nat} (h : dz_gq G R P a N) (e : M = N) : dz_gq G R P a M := e ▸ h
theorem dz_gqS {G R P : Nat} {a : Nat → Int32} {n m : Nat} {v1 v2 v4 j w : Int32} (hG : G = 2 ∨ G = 3 ∨ G = 4) (h : dz_gq G R P a n) (a0 : 0 ≤ v1.toInt) (b0 : 0 ≤ v2.toInt) (b1 : v2.toInt < (P : Int)) (hP : P * G ≤ 12) (c0 : 0 ≤ v4.toInt) (c1 : v4.toInt < (G : Int)) (hn : (n : Int) = 12 * v1.toInt + (G : Int) * v2.toInt + v4.toInt) (hm : m = n + 1) (hj : j.toInt = (n : Int)) (hw : w.toInt = dz_pr G (v1.toInt.toNat / R ^ (P - 1 - v2.toInt.toNat) % R) v4.toInt.toNat) : dz_gq G R P (upd a j.toNatClampNeg w) m := by
  intro c p i hp hi hN
  have t := dz_tn j
  show (if 12 * c + p * G + i = j.toNatClampNeg then w else a (12 * c + p * G + i)).toInt = _
  by_cases e : 12 * c + p * G + i = n
  · rw [if_pos (by omega)]
    have : c = v1.toInt.toNat ∧ p = v2.toInt.toNat ∧ i = v4.toInt.toNat := by
      rcases hG with rfl | rfl | rfl <;> omega
    obtain ⟨rfl, rfl, rfl⟩ := this
    exact hw
  · rw [if_neg (by omega)]
    exact h c p i hp hi (by omega)
theorem dz_gqE {G R P : Nat} {a : Nat → Int32} {n m : Nat} {v1 : Int32} (hG : G = 2 ∨ G = 3 ∨ G = 4) (h : dz_gq G R P a n) (a0 : 0 ≤ v1.toInt) (hP : P * G ≤ 12) (hn : (n : Int) = 12 * v1.toInt + (G : Int) * (P : Int)) (hm : (m : Int) = 12 * v1.toInt + 12) : dz_gq G R P a m := by
  intro c p i hp hi hN
  apply h c p i hp hi
  rcases hG with rfl | rfl | rfl <;> omega
theorem dz_gqw {G R r : Nat} {a : Nat → Int32} {v3 v4 : Int32} (hG : G = 2 ∨ G = 3 ∨ G = 4) (hR : R = dz_R G) (h : dz_rw G R a) (hr : r < R) (e : v3.toInt = (r : Int)) (c0 : 0 ≤ v4.toInt) (c1 : v4.toInt < (G : Int)) : (vp_nar .byte (a (((4 : Int32) * v3) + v4).toNatClampNeg).toInt8.toInt32).toInt = dz_pr G r v4.toInt.toNat := by
  have hp := dz_prb hG (show r < dz_R G by omega) (show v4.toInt.toNat < G by omega)
  have hR4 : R ≤ 24 := by rcases hG with rfl | rfl | rfl <;> simp [dz_R] at hR <;> omega
  have l4 : (4 : Int32).toInt = 4 := by decide
  have e1 := dz_mull (a := 4) (b := v3) 4 l4 (by omega) (by omega)
  have e2 := dz_add (a := 4 * v3) (b := v4) (by omega) (by omega)
  have t := dz_tn (((4 : Int32) * v3) + v4)
  have h := h r v4.toInt.toNat hr (by omega)
  rw [show (((4 : Int32) * v3) + v4).toNatClampNeg = 4 * r + v4.toInt.toNat by omega, dz_nby (by omega) (by omega)]
  exact h
/-- the numbers from 0 on -/
def dz_id (a : Nat → Int32) (n : Nat) : Prop := ∀ j : Nat, j < n → (a j).toInt = (j : Int)
theorem dz_id0 {a : Nat → Int32} {n : Nat} (h : n = 0) : dz_id a n := fun j hj => by omega
theorem dz_ids {a : Nat → Int32} {k k' : Int32} (h : dz_id a k.toInt.toNat) (k0 : 0 ≤ k.toInt) (e : k'.toInt = k.toInt + 1) : dz_id (upd a k.toNatClampNeg k) k'.toInt.toNat := fun j hj => by
  have t := dz_tn k
  show (if j = k.toNatClampNeg then k else a j).toInt = (j : Int)
  by_cases q : j = k.toNatClampNeg
  · rw [if_pos q]; omega
  · rw [if_neg q]; exact h j (by omega)
theorem dz_idp {a : Nat → Int32} {n p : Nat} (h : dz_id a n) (hn : 4 ≤ n) (hp : p ≤ 4) : dz_pm a p := by
  have h0 := h 0 (by omega)
  have h1 := h 1 (by omega)
  have h2 := h 2 (by omega)
  have h3 := h 3 (by omega)
  rcases (show p = 0 ∨ p = 1 ∨ p = 2 ∨ p = 3 ∨ p = 4 by omega) with rfl | rfl | rfl | rfl | rfl
  · exact ⟨[], by decide, dz_ptmk0⟩
  · exact ⟨[0], by decide, dz_ptmk1 h0⟩
  · exact ⟨[0, 1], by decide, dz_ptmk2 h0 h1⟩
  · exact ⟨[0, 1, 2], by decide, dz_ptmk3 h0 h1 h2⟩
  · exact ⟨[0, 1, 2, 3], by decide, dz_ptmk4 h0 h1 h2 h3⟩
theorem dz_kg4 {κ : Nat} (hκ : κ < 14) : (dz_kg κ = 2 ∨ dz_kg κ = 3 ∨ dz_kg κ = 4) ∧ dz_kr κ = dz_R (dz_kg κ) ∧ dz_kp κ * dz_kg κ ≤ 12 := dz_kall (P := fun k => (dz_kg k = 2 ∨ dz_kg k = 3 ∨ dz_kg k = 4) ∧ dz_kr k = dz_R (dz_kg k) ∧ dz_kp k * dz_kg k ≤ 12) (by decide) hκ
/-- some lawful draw -/
def dz_lf (l : Int32) (a : Nat → Int32) (n : Nat) : Prop := l.toInt ≠ 0 → ∃ c, c < n ∧ (a c).toInt = 0
theorem dz_lf0 {l : Int32} {a : Nat → Int32} {n : Nat} (h : l.toInt = 0) : dz_lf l a n := fun q => absurd h q
theorem dz_lfu {l : Int32} {a : Nat → Int32} {n : Nat} {i v : Int32} (h : dz_lf l a n) (i0 : 0 ≤ i.toInt) (e : (n : Int) ≤ i.toInt) : dz_lf l (upd a i.toNatClampNeg v) n := fun q => by
  obtain ⟨c, hc, hz⟩ := h q
  have t := dz_tn i
  refine ⟨c, hc, ?_⟩
  show (if c = i.toNatClampNeg then v else a c).toInt = 0
  rw [if_neg (by omega)]; exact hz
theorem dz_lf1 {l : Int32} {a : Nat → Int32} {n : Nat} {i : Int32} (i0 : 0 ≤ i.toInt) (h : (a i.toNatClampNeg).toInt = 0) (e : i.toInt < (n : Int)) : dz_lf l a n := fun _ => ⟨i.toNatClampNeg, by have := dz_tn i; omega, h⟩
theorem dz_lfm {l l' : Int32} {a : Nat → Int32} {n m : Nat} (h : dz_lf l a n) (e : l'.toInt = l.toInt) (hm : n ≤ m) : dz_lf l' a m := fun q => by
  obtain ⟨c, hc, hz⟩ := h (by omega)
  exact ⟨c, by omega, hz⟩
/-- groups and pots as read are a configuration -/
theorem dz_kof {g p t : Int32} (p0 : 0 ≤ p.toInt) (p4 : p.toInt ≤ 4) (t12 : t.toInt ≤ 12) (h : (g.toInt = 2 ∧ t.toInt = 2 * p.toInt) ∨ (g.toInt = 3 ∧ t.toInt = 3 * p.toInt) ∨ (g.toInt = 4 ∧ t.toInt = 4 * p.toInt)) : ∃ κ : Nat, κ < 14 ∧ g.toInt = ((dz_kg κ : Nat) : Int) ∧ p.toInt = ((dz_kp κ : Nat) : Int) ∧ t.toInt = ((dz_km κ : Nat) : Int) := by
  have ex : ∀ k : Nat, k < 14 → g.toInt = ((dz_kg k : Nat) : Int) → p.toInt = ((dz_kp k : Nat) : Int) → ((dz_km k : Nat) : Int) = t.toInt → ∃ κ : Nat, κ < 14 ∧ g.toInt = ((dz_kg κ : Nat) : Int) ∧ p.toInt = ((dz_kp κ : Nat) : Int) ∧ t.toInt = ((dz_km κ : Nat) : Int) := fun k a b c d => ⟨k, a, b, c, d.symm⟩
  rcases h with ⟨e1, e2⟩ | ⟨e1, e2⟩ | ⟨e1, e2⟩
  · rcases (show p.toInt = 0 ∨ p.toInt = 1 ∨ p.toInt = 2 ∨ p.toInt = 3 ∨ p.toInt = 4 by omega) with e | e | e | e | e
    · exact ex 0 (by decide) (by rw [e1]; rfl) (by rw [e]; rfl) (by rw [e2, e]; rfl)
    · exact ex 1 (by decide) (by rw [e1]; rfl) (by rw [e]; rfl) (by rw [e2, e]; rfl)
    · exact ex 2 (by decide) (by rw [e1]; rfl) (by rw [e]; rfl) (by rw [e2, e]; rfl)
    · exact ex 3 (by decide) (by rw [e1]; rfl) (by rw [e]; rfl) (by rw [e2, e]; rfl)
    · exact ex 4 (by decide) (by rw [e1]; rfl) (by rw [e]; rfl) (by rw [e2, e]; rfl)
  · rcases (show p.toInt = 0 ∨ p.toInt = 1 ∨ p.toInt = 2 ∨ p.toInt = 3 ∨ p.toInt = 4 by omega) with e | e | e | e | e
    · exact ex 5 (by decide) (by rw [e1]; rfl) (by rw [e]; rfl) (by rw [e2, e]; rfl)
    · exact ex 6 (by decide) (by rw [e1]; rfl) (by rw [e]; rfl) (by rw [e2, e]; rfl)
    · exact ex 7 (by decide) (by rw [e1]; rfl) (by rw [e]; rfl) (by rw [e2, e]; rfl)
    · exact ex 8 (by decide) (by rw [e1]; rfl) (by rw [e]; rfl) (by rw [e2, e]; rfl)
    · exact ex 9 (by decide) (by rw [e1]; rfl) (by rw [e]; rfl) (by rw [e2, e]; rfl)
  · rcases (show p.toInt = 0 ∨ p.toInt = 1 ∨ p.toInt = 2 ∨ p.toInt = 3 by omega) with e | e | e | e
    · exact ex 10 (by decide) (by rw [e1]; rfl) (by rw [e]; rfl) (by rw [e2, e]; rfl)
    · exact ex 11 (by decide) (by rw [e1]; rfl) (by rw [e]; rfl) (by rw [e2, e]; rfl)
    · exact ex 12 (by decide) (by rw [e1]; rfl) (by rw [e]; rfl) (by rw [e2, e]; rfl)
    · exact ex 13 (by decide) (by rw [e1]; rfl) (by rw [e]; rfl) (by rw [e2, e]; rfl)
/-- rankIn -/
theorem t18_X12_rankIn_L (fu : Nat) (pots ranks v2 : Int32) (R : Nat) (hR : ranks.toInt = (R : Int)) (R1 : 1 ≤ R) : ∀ (n k : Nat) (v3 v4 : Int32), v4.toInt = v2.toInt + (n : Int) → n + 1 ≤ k → 0 ≤ v3.toInt → dz_T (F18_X12_rankIn fu pots ranks k v2 v3 v4) (fun r => r.toInt = ((v3.toInt.toNat / R ^ n % R : Nat) : Int)) := by
  intro n
  induction n with
  | zero =>
    intro k v3 v4 h4 hk h3
    obtain ⟨kk, rfl⟩ : ∃ y, k = y + 1 := ⟨k - 1, by omega⟩
    show dz_T (s18_X12_rankIn_1 fu pots ranks (F18_X12_rankIn fu pots ranks kk) v2 v3 v4) _
    unfold s18_X12_rankIn_1
    refine dz_Tle (fun h => ?_) (fun h => ?_)
    · refine dz_Tz (by omega) (dz_Ts ?_)
      have e := (dz_remv (a := v3) (b := ranks) h3 (by omega)).1
      rw [e, hR, Nat.pow_zero, Nat.div_one]
      have w := Int.toNat_of_nonneg h3
      generalize v3.toInt.toNat = m at w ⊢
      rw [← w]; rfl
    · exfalso; omega
  | succ n ih =>
    intro k v3 v4 h4 hk h3
    obtain ⟨kk, rfl⟩ : ∃ y, k = y + 1 := ⟨k - 1, by omega⟩
    show dz_T (s18_X12_rankIn_1 fu pots ranks (F18_X12_rankIn fu pots ranks kk) v2 v3 v4) _
    unfold s18_X12_rankIn_1
    refine dz_Tle (fun h => ?_) (fun h => ?_)
    · exfalso; omega
    · refine dz_Tz (by omega) ?_
      have r4 := dz_rng v4
      have r2 := dz_rng v2
      have m1 : (-1 : Int32).toInt = -1 := by decide
      have e4 := dz_add (a := v4) (b := -1) (by omega) (by omega)
      have e := dz_divv (a := v3) (b := ranks) h3 (by omega)
      have h := ih kk (v3 / ranks) (v4 + (-1)) (by omega) (by omega) e.2.1
      refine dz_Tw h (fun r hr => ?_)
      have w := Int.toNat_of_nonneg h3
      have q : (v3 / ranks).toInt.toNat = v3.toInt.toNat / R := by
        rw [e.1, hR]
        generalize v3.toInt.toNat = m at w ⊢
        rw [← w]; rfl
      rw [hr, q, Nat.div_div_eq_div_mul, Nat.pow_succ, Nat.mul_comm]
theorem t18_X12_rankIn_v (fu : Nat) (hfu : 1000000000000 ≤ fu) (pots ranks v1 v2 : Int32) (P R : Nat) (hP : pots.toInt = (P : Int)) (P4 : P ≤ 4) (hR : ranks.toInt = (R : Int)) (R1 : 1 ≤ R) (h1 : 0 ≤ v1.toInt) (h2 : 0 ≤ v2.toInt) (h3 : v2.toInt < (P : Int)) : dz_T (f18_X12_rankIn fu pots ranks v1 v2) (fun r => r.toInt = ((v1.toInt.toNat / R ^ (P - 1 - v2.toInt.toNat) % R : Nat) : Int)) := by
  have l1 : (1 : Int32).toInt = 1 := by decide
  have e := dz_sub (a := pots) (b := 1) (by omega) (by omega)
  exact t18_X12_rankIn_L fu pots ranks v2 R hR R1 (P - 1 - v2.toInt.toNat) fu v1 (pots - 1) (by omega) (by omega) h1
def dz_wd : List Int := 103 :: 114 :: 111 :: 117 :: 112 :: 115 :: 32 :: 112 :: 111 :: 116 :: 32 :: 109 :: 97 :: 114 :: 107 :: 32 :: 97 :: 116 :: 109 :: 111 :: 115 :: 116 :: 32 :: 97 :: 112 :: 97 :: 114 :: 116 :: 32 :: 110 :: 101 :: 118 :: 101 :: 114 :: 32 :: 102 :: 105 :: 120 :: 101 :: 100 :: 32 :: []
/-- the words: how many spaces come before a place -/
def dz_cq (n k : Int) : Prop := 0 ≤ n ∧ n ≤ 41 ∧ (((dz_wd.take n.toNat).count 32 : Nat) : Int) = k
theorem dz_cqt : ∀ i : Fin 41, (dz_wd[i.val]? = some 32 ∧ (dz_wd.take (i.val + 1)).count 32 = (dz_wd.take i.val).count 32 + 1) ∨ ((∃ x : Fin 200, x.val ≠ 32 ∧ dz_wd[i.val]? = some (x.val : Int)) ∧ (dz_wd.take (i.val + 1)).count 32 = (dz_wd.take i.val).count 32) := by decide +kernel
theorem dz_cqu : ∀ i : Fin 42, (dz_wd.take i.val).count 32 ≤ 7 := by decide +kernel
theorem dz_cqb {n k : Int} (h : dz_cq n k) : 0 ≤ k ∧ k ≤ 7 := by
  obtain ⟨h0, h1, h2⟩ := h
  have := dz_cqu ⟨n.toNat, by omega⟩
  simp only at this
  omega
theorem dz_cqm {n k n' k' : Int} (h : dz_cq n k) (e : n' = n) (f : k' = k) : dz_cq n' k' := by rw [e, f]; exact h
theorem dz_cq0 {n k : Int} (e : n = 0) (f : k = 0) : dz_cq n k := by rw [e, f]; exact ⟨by decide, by decide, by decide⟩
theorem dz_cqs {a : Nat → Int32} (hr : dz_pt a dz_wd) {i : Int32} {n n' k : Int} (h : dz_cq n k) (hi : i.toInt = n) (hn : n ≤ 40) (hne : (a i.toNatClampNeg).toInt ≠ 32) (e : n' = n + 1) : dz_cq n' k := by
  obtain ⟨h0, h1, h2⟩ := h
  have t := dz_tn i
  have ht : i.toNatClampNeg = n.toNat := by omega
  rw [ht] at hne
  subst e
  rcases dz_cqt ⟨n.toNat, by omega⟩ with ⟨q1, q2⟩ | ⟨_, q2⟩
  · exact absurd (hr _ _ q1) hne
  · refine ⟨by omega, by omega, ?_⟩
    rw [show (n + 1).toNat = n.toNat + 1 by omega, q2]; exact h2
theorem dz_cqe {a : Nat → Int32} (hr : dz_pt a dz_wd) {i : Int32} {n n' k k' : Int} (h : dz_cq n k) (hi : i.toInt = n) (hn : n ≤ 40) (hne : (a i.toNatClampNeg).toInt = 32) (e : n' = n + 1) (f : k' = k + 1) : dz_cq n' k' := by
  obtain ⟨h0, h1, h2⟩ := h
  have t := dz_tn i
  have ht : i.toNatClampNeg = n.toNat := by omega
  rw [ht] at hne
  subst e
  subst f
  rcases dz_cqt ⟨n.toNat, by omega⟩ with ⟨q1, q2⟩ | ⟨⟨x, hx, q1⟩, q2⟩
  · have q3 : (dz_wd.take (n.toNat + 1)).count 32 = (dz_wd.take n.toNat).count 32 + 1 := q2
    refine ⟨by omega, by omega, ?_⟩
    rw [show (n + 1).toNat = n.toNat + 1 by omega, q3]; omega
  · have q3 : (a n.toNat).toInt = (x.val : Int) := hr _ _ q1
    omega
theorem dz_w40 {a : Nat → Int32} (hr : dz_pt a dz_wd) {i : Int32} : i.toInt ≠ 40 ∨ (a i.toNatClampNeg).toInt = 32 := by
  rcases Classical.em (i.toInt = 40) with h | h
  · right
    have t := dz_tn i
    rw [show i.toNatClampNeg = 40 by omega]
    exact hr 40 32 (by decide)
  · exact Or.inl h
theorem dz_cq6 {a : Nat → Int32} (hr : dz_pt a dz_wd) {i : Int32} {n k : Int} (h : dz_cq n k) (hi : i.toInt = n) (hn : n ≤ 40) : (a i.toNatClampNeg).toInt ≠ 32 ∨ k ≤ 6 := by
  rcases Classical.em ((a i.toNatClampNeg).toInt = 32) with q | q
  · have := dz_cqb (dz_cqe hr h hi hn q rfl rfl)
    right; omega
  · exact Or.inl q
theorem dz_w3 {k w : Int32} (h : k.toInt ≠ 1 ∨ (0 ≤ w.toInt ∧ w.toInt ≤ 6)) : k.toInt ≠ 1 ∨ (w - 3).toInt = w.toInt - 3 := by
  rcases h with h | h
  · exact Or.inl h
  · right
    have l3 : (3 : Int32).toInt = 3 := by decide
    have := dz_sub (a := w) (b := 3) (by omega) (by omega)
    omega
