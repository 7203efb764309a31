/-! the signs of a text: runs, numbers, words -/
def rd_b (x : Int32) : Prop := x = 10 ∨ x = 32
def rd_l (x : Int32) : Prop := 97 ≤ x.toInt ∧ x.toInt ≤ 122
def rd_d (x : Int32) : Prop := 48 ≤ x.toInt ∧ x.toInt ≤ 57
def rd_run (P : Int32 → Prop) (a : Nat → Int32) (n p q : Nat) : Prop := p ≤ q ∧ q ≤ n ∧ (∀ j, p ≤ j → j < q → P (a j)) ∧ (q = n ∨ ¬ P (a q))
theorem rd_run1 {P : Int32 → Prop} {a : Nat → Int32} {n p q q' : Nat} (h : rd_run P a n p q) (h' : rd_run P a n p q') : q = q' := by
  obtain ⟨a1, a2, a3, a4⟩ := h
  obtain ⟨b1, b2, b3, b4⟩ := h'
  rcases Nat.lt_trichotomy q q' with c | c | c
  · exfalso
    rcases a4 with d | d
    · omega
    · exact d (b3 q a1 c)
  · exact c
  · exfalso
    rcases b4 with d | d
    · omega
    · exact d (a3 q' b1 c)
/-- the number of k digits from s on, never above 100 -/
def rd_nv (a : Nat → Int32) (s : Nat) : Nat → Nat
  | 0 => 0
  | k + 1 => if 10 * rd_nv a s k + ((a (s + k)).toInt - 48).toNat ≤ 99 then 10 * rd_nv a s k + ((a (s + k)).toInt - 48).toNat else 100
/-- a number as far as it matters -/
def rd_cap (v : Int) (m : Nat) : Prop := (v = (m : Int) ∧ m ≤ 99) ∨ (100 ≤ v ∧ m = 100)
theorem rd_cap0 {a : Nat → Int32} {s : Nat} : rd_cap 0 (rd_nv a s 0) := Or.inl ⟨rfl, Nat.zero_le 99⟩
theorem rd_capr {v w : Int} {m : Nat} (h : rd_cap v m) (h2 : rd_cap w m) (lo hi : Int) (hh : hi ≤ 99) : (lo ≤ v ∧ v ≤ hi ↔ lo ≤ w ∧ w ≤ hi) ∧ (v ≤ hi → v = w) := by
  unfold rd_cap at h h2
  constructor
  · constructor <;> intro _ <;> omega
  · intro _
    omega
/-- one digit more, where numbers are held at 1000 -/
theorem rd_capC {a : Nat → Int32} {s k : Nat} {v d : Int} (h : rd_cap v (rd_nv a s k)) (hd : d = (a (s + k)).toInt) (d0 : 48 ≤ d) (d1 : d ≤ 57) (v0 : 0 ≤ v) {w : Int} (hw : (w = 10 * v + d - 48 ∧ 10 * v + d - 48 ≤ 1000) ∨ (w = 1000 ∧ 1000 < 10 * v + d - 48)) : rd_cap w (rd_nv a s (k + 1)) := by
  unfold rd_cap at h ⊢
  have e : rd_nv a s (k + 1) = if 10 * rd_nv a s k + ((a (s + k)).toInt - 48).toNat ≤ 99 then 10 * rd_nv a s k + ((a (s + k)).toInt - 48).toNat else 100 := rfl
  rw [e, ← hd]
  split <;> omega
/-- one digit more, where numbers above 99 stay -/
theorem rd_capR {a : Nat → Int32} {s k : Nat} {v d : Int} (h : rd_cap v (rd_nv a s k)) (hd : d = (a (s + k)).toInt) (d0 : 48 ≤ d) (d1 : d ≤ 57) (v0 : 0 ≤ v) {w : Int} (hw : (w = 10 * v + d - 48 ∧ v ≤ 99) ∨ (w = v ∧ 99 < v)) : rd_cap w (rd_nv a s (k + 1)) := by
  unfold rd_cap at h ⊢
  have e : rd_nv a s (k + 1) = if 10 * rd_nv a s k + ((a (s + k)).toInt - 48).toNat ≤ 99 then 10 * rd_nv a s k + ((a (s + k)).toInt - 48).toNat else 100 := rfl
  rw [e, ← hd]
  split <;> omega
/-- a letter of a word of less than six letters, 0 behind its end -/
def rd_c (a : Nat → Int32) (s q i : Nat) : Int := if s + i < q then (a (s + i)).toInt - 96 else 0
/-- a word as a number: five bits a letter, the first highest -/
def rd_pk (a : Nat → Int32) (s q : Nat) : Int := rd_c a s q 0 * 33554432 + rd_c a s q 1 * 1048576 + rd_c a s q 2 * 32768 + rd_c a s q 3 * 1024 + rd_c a s q 4 * 32 + rd_c a s q 5
/-- a token: where it starts, what stands behind it, what it is -/
def rd_tk (a : Nat → Int32) (n p s q : Nat) (k : Nat) (v : Int) : Prop :=
  rd_run rd_b a n p s ∧
    ((s = n ∧ q = s ∧ k = 0) ∨ (s < n ∧ rd_l (a s) ∧ rd_run rd_l a n s q ∧ ((q - s ≤ 6 ∧ k = 1 ∧ v = rd_pk a s q) ∨ (6 < q - s ∧ k = 4))) ∨
      (s < n ∧ rd_d (a s) ∧ rd_run rd_d a n s q ∧ k = 2 ∧ v = ((rd_nv a s (q - s) : Nat) : Int)) ∨ (s < n ∧ ¬ rd_l (a s) ∧ ¬ rd_d (a s) ∧ q = s + 1 ∧ ((a s = 59 ∧ k = 3) ∨ (a s ≠ 59 ∧ k = 4))))
theorem rd_ld {x : Int32} (h : rd_l x) (h2 : rd_d x) : False := by
  obtain ⟨a, b⟩ := h
  obtain ⟨c, d⟩ := h2
  omega
theorem rd_tk1 {a : Nat → Int32} {n p s q k s' q' k' : Nat} {v v' : Int} (h : rd_tk a n p s q k v) (h' : rd_tk a n p s' q' k' v') : s = s' ∧ q = q' ∧ k = k' ∧ (k = 1 ∨ k = 2 → v = v') := by
  obtain ⟨r, t⟩ := h
  obtain ⟨r', t'⟩ := h'
  have e := rd_run1 r r'
  subst e
  rcases t with ⟨a1, a2, a3⟩ | ⟨a1, a2, a3, a4⟩ | ⟨a1, a2, a3, a4, a5⟩ | ⟨a1, a2, a3, a4, a5⟩ <;> rcases t' with ⟨b1, b2, b3⟩ | ⟨b1, b2, b3, b4⟩ | ⟨b1, b2, b3, b4, b5⟩ | ⟨b1, b2, b3, b4, b5⟩
  · exact ⟨rfl, by omega, by omega, fun h => by omega⟩
  · omega
  · omega
  · omega
  · omega
  · have e := rd_run1 a3 b3
    subst e
    rcases a4 with ⟨c1, c2, c3⟩ | ⟨c1, c2⟩ <;> rcases b4 with ⟨d1, d2, d3⟩ | ⟨d1, d2⟩
    · exact ⟨rfl, rfl, by omega, fun _ => by rw [c3, d3]⟩
    · omega
    · omega
    · exact ⟨rfl, rfl, by omega, fun h => by omega⟩
  · exact (rd_ld a2 b2).elim
  · exact absurd a2 b2
  · omega
  · exact (rd_ld b2 a2).elim
  · have e := rd_run1 a3 b3
    subst e
    exact ⟨rfl, rfl, by omega, fun _ => by rw [a5, b5]⟩
  · exact absurd a2 b3
  · omega
  · exact absurd b2 a2
  · exact absurd b2 a3
  · refine ⟨rfl, by omega, ?_, fun h => by omega⟩
    rcases a5 with ⟨c1, c2⟩ | ⟨c1, c2⟩ <;> rcases b5 with ⟨d1, d2⟩ | ⟨d1, d2⟩
    · omega
    · exact absurd c1 d1
    · exact absurd d1 c1
    · omega
/-- disjoint bits: an or is a sum -/
theorem rd_or {x y : Int32} (n : Nat) (hn : n ≤ 30) (x0 : 0 ≤ x.toInt) (xm : x.toInt % ((2 ^ n : Nat) : Int) = 0) (y0 : 0 ≤ y.toInt) (y1 : y.toInt < ((2 ^ n : Nat) : Int)) : (x ||| y).toInt = x.toInt + y.toInt := by
  have hx := (dz_bn x).1 x0
  have hy := (dz_bn y).1 y0
  have e : (x ||| y).toBitVec.toNat = x.toBitVec.toNat ||| y.toBitVec.toNat := BitVec.toNat_or _ _
  have hp : 0 < 2 ^ n := Nat.two_pow_pos n
  have hm : x.toBitVec.toNat % 2 ^ n = 0 := by
    have := xm
    rw [hx.1] at this
    exact_mod_cast this
  have hd : x.toBitVec.toNat = 2 ^ n * (x.toBitVec.toNat / 2 ^ n) := by
    have := Nat.div_add_mod x.toBitVec.toNat (2 ^ n)
    omega
  have hy1 : y.toBitVec.toNat < 2 ^ n := by
    have := y1
    rw [hy.1] at this
    exact_mod_cast this
  have es : x.toBitVec.toNat ||| y.toBitVec.toNat = x.toBitVec.toNat + y.toBitVec.toNat := by
    rw [hd, ← Nat.two_pow_add_eq_or_of_lt hy1]
  have hb : x.toBitVec.toNat + y.toBitVec.toNat < 2147483648 := by
    have h31 : 2147483648 = 2 ^ n * 2 ^ (31 - n) := by
      rw [← Nat.pow_add, show n + (31 - n) = 31 by omega]
    have hq : x.toBitVec.toNat / 2 ^ n < 2 ^ (31 - n) := Nat.div_lt_of_lt_mul (by rw [← h31]; exact hx.2)
    have h2 : 2 ^ n * (x.toBitVec.toNat / 2 ^ n) + 2 ^ n ≤ 2 ^ n * 2 ^ (31 - n) := by
      have := Nat.mul_le_mul_left (2 ^ n) (Nat.succ_le_of_lt hq)
      rw [Nat.mul_succ] at this
      exact this
    omega
  have hr := (dz_bn (x ||| y)).2 (by rw [e, es]; exact hb)
  rw [hr, e, es]
  omega
