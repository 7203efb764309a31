/-! total correctness of the decompiled functions: what their proofs are said in -/
def dz_T {R : Type} (o : Option R) (Q : R → Prop) : Prop := ∃ r, o = some r ∧ Q r
theorem dz_Ts {R : Type} {r : R} {Q : R → Prop} (h : Q r) : dz_T (some r) Q := ⟨r, rfl, h⟩
theorem dz_Tw {R : Type} {o : Option R} {P Q : R → Prop} (h : dz_T o P) (k : ∀ r, P r → Q r) : dz_T o Q := by
  obtain ⟨r, a, b⟩ := h
  exact ⟨r, a, k r b⟩
theorem dz_Ti {R : Type} {c : Prop} [d9 : Decidable c] {a b : Option R} {Q : R → Prop} (h1 : c → dz_T a Q) (h2 : ¬ c → dz_T b Q) : dz_T (if c then a else b) Q := by
  by_cases hc : c
  · rw [if_pos hc]; exact h1 hc
  · rw [if_neg hc]; exact h2 hc
theorem dz_Tib {S R : Type} {c : Prop} [d9 : Decidable c] {a b : Option S} {f : S → Option R} {Q : R → Prop} (h1 : c → dz_T (a.bind f) Q) (h2 : ¬ c → dz_T (b.bind f) Q) : dz_T ((if c then a else b).bind f) Q := by
  by_cases hc : c
  · rw [if_pos hc]; exact h1 hc
  · rw [if_neg hc]; exact h2 hc
theorem dz_Tg {R : Type} {c : Prop} [d9 : Decidable c] {a : Option R} {Q : R → Prop} (hc : c) (h : dz_T a Q) : dz_T (if c then a else none) Q := by rw [if_pos hc]; exact h
theorem dz_Tgb {S R : Type} {c : Prop} [d9 : Decidable c] {a : Option S} {f : S → Option R} {Q : R → Prop} (hc : c) (h : dz_T (a.bind f) Q) : dz_T ((if c then a else none).bind f) Q := by rw [if_pos hc]; exact h
theorem dz_Tb {S R : Type} {o : Option S} {f : S → Option R} {P : S → Prop} {Q : R → Prop} (h : dz_T o P) (k : ∀ x, P x → dz_T (f x) Q) : dz_T (o.bind f) Q := by
  obtain ⟨x, hx, px⟩ := h
  rw [hx]; exact k x px
theorem dz_Tba {S S2 R : Type} {o : Option S} {f : S → Option S2} {g : S2 → Option R} {Q : R → Prop} (h : dz_T (o.bind (fun x => (f x).bind g)) Q) : dz_T ((o.bind f).bind g) Q := by
  cases o with
  | none => exact h
  | some x => exact h
theorem dz_Tbe {S R : Type} {o o' : Option S} {f : S → Option R} {Q : R → Prop} (e : o = o') (h : dz_T (o'.bind f) Q) : dz_T (o.bind f) Q := by rw [e]; exact h
theorem dz_Tsb {S R : Type} {x : S} {f : S → Option R} {Q : R → Prop} (h : dz_T (f x) Q) : dz_T ((some x).bind f) Q := h
theorem dz_fnle {a b : Int32} (h : ¬ a ≤ b) : b.toInt < a.toInt := Int.not_le.mp (fun q => h (Int32.le_iff_toInt_le.mpr q))
theorem dz_fnlt {a b : Int32} (h : ¬ a < b) : b.toInt ≤ a.toInt := Int.not_lt.mp (fun q => h (Int32.lt_iff_toInt_lt.mpr q))
theorem dz_fne {a b : Int32} (h : ¬ a = b) : a.toInt ≠ b.toInt := fun q => h (Int32.toInt_inj.mp q)
theorem dz_Tle {R : Type} {x y : Int32} [d9 : Decidable (x ≤ y)] {a b : Option R} {Q : R → Prop} (h1 : x.toInt ≤ y.toInt → dz_T a Q) (h2 : y.toInt < x.toInt → dz_T b Q) : dz_T (if x ≤ y then a else b) Q := dz_Ti (fun h => h1 (Int32.le_iff_toInt_le.mp h)) (fun h => h2 (dz_fnle h))
theorem dz_Tlt {R : Type} {x y : Int32} [d9 : Decidable (x < y)] {a b : Option R} {Q : R → Prop} (h1 : x.toInt < y.toInt → dz_T a Q) (h2 : y.toInt ≤ x.toInt → dz_T b Q) : dz_T (if x < y then a else b) Q := dz_Ti (fun h => h1 (Int32.lt_iff_toInt_lt.mp h)) (fun h => h2 (dz_fnlt h))
theorem dz_Teq {R : Type} {x y : Int32} [d9 : Decidable (x = y)] {a b : Option R} {Q : R → Prop} (h1 : x.toInt = y.toInt → dz_T a Q) (h2 : x.toInt ≠ y.toInt → dz_T b Q) : dz_T (if x = y then a else b) Q := dz_Ti (fun h => h1 (by rw [h])) (fun h => h2 (dz_fne h))
theorem dz_Tleb {S R : Type} {x y : Int32} [d9 : Decidable (x ≤ y)] {a b : Option S} {f : S → Option R} {Q : R → Prop} (h1 : x.toInt ≤ y.toInt → dz_T (a.bind f) Q) (h2 : y.toInt < x.toInt → dz_T (b.bind f) Q) : dz_T ((if x ≤ y then a else b).bind f) Q := dz_Tib (fun h => h1 (Int32.le_iff_toInt_le.mp h)) (fun h => h2 (dz_fnle h))
theorem dz_Tltb {S R : Type} {x y : Int32} [d9 : Decidable (x < y)] {a b : Option S} {f : S → Option R} {Q : R → Prop} (h1 : x.toInt < y.toInt → dz_T (a.bind f) Q) (h2 : y.toInt ≤ x.toInt → dz_T (b.bind f) Q) : dz_T ((if x < y then a else b).bind f) Q := dz_Tib (fun h => h1 (Int32.lt_iff_toInt_lt.mp h)) (fun h => h2 (dz_fnlt h))
theorem dz_Teqb {S R : Type} {x y : Int32} [d9 : Decidable (x = y)] {a b : Option S} {f : S → Option R} {Q : R → Prop} (h1 : x.toInt = y.toInt → dz_T (a.bind f) Q) (h2 : x.toInt ≠ y.toInt → dz_T (b.bind f) Q) : dz_T ((if x = y then a else b).bind f) Q := dz_Tib (fun h => h1 (by rw [h])) (fun h => h2 (dz_fne h))
theorem dz_l0' : (0 : Int32).toInt = 0 := by decide
theorem dz_inp {i : Int32} {n : Nat} (h0 : 0 ≤ i.toInt) (h1 : i.toInt < (n : Int)) : dz_in i n := by
  intro hh
  have z := dz_l0'
  cases hh with
  | inl h => have := Int32.lt_iff_toInt_lt.mp h; omega
  | inr h => have := Int32.toNat_toInt i; omega
theorem dz_Tin {R : Type} {i : Int32} {n : Nat} [d9 : Decidable (dz_in i n)] {a : Option R} {Q : R → Prop} (h0 : 0 ≤ i.toInt) (h1 : i.toInt < (n : Int)) (h : dz_T a Q) : dz_T (if dz_in i n then a else none) Q := dz_Tg (dz_inp h0 h1) h
theorem dz_Tinb {S R : Type} {i : Int32} {n : Nat} [d9 : Decidable (dz_in i n)] {a : Option S} {f : S → Option R} {Q : R → Prop} (h0 : 0 ≤ i.toInt) (h1 : i.toInt < (n : Int)) (h : dz_T (a.bind f) Q) : dz_T ((if dz_in i n then a else none).bind f) Q := dz_Tgb (dz_inp h0 h1) h
theorem dz_nz {y : Int32} (h : y.toInt ≠ 0) : ¬ y = 0 := fun q => h (by rw [q]; exact dz_l0')
theorem dz_Tz {R : Type} {y : Int32} [d9 : Decidable (¬ y = 0)] {a : Option R} {Q : R → Prop} (hy : y.toInt ≠ 0) (h : dz_T a Q) : dz_T (if ¬ y = 0 then a else none) Q := dz_Tg (dz_nz hy) h
theorem dz_Tzb {S R : Type} {y : Int32} [d9 : Decidable (¬ y = 0)] {a : Option S} {f : S → Option R} {Q : R → Prop} (hy : y.toInt ≠ 0) (h : dz_T (a.bind f) Q) : dz_T ((if ¬ y = 0 then a else none).bind f) Q := dz_Tgb (dz_nz hy) h
theorem dz_ng {y : Int32} (h : 0 ≤ y.toInt) : ¬ y < 0 := fun q => by
  have := Int32.lt_iff_toInt_lt.mp q
  have z := dz_l0'
  omega
theorem dz_Tng {R : Type} {y : Int32} [d9 : Decidable (¬ y < 0)] {a : Option R} {Q : R → Prop} (hy : 0 ≤ y.toInt) (h : dz_T a Q) : dz_T (if ¬ y < 0 then a else none) Q := dz_Tg (dz_ng hy) h
theorem dz_Tngb {S R : Type} {y : Int32} [d9 : Decidable (¬ y < 0)] {a : Option S} {f : S → Option R} {Q : R → Prop} (hy : 0 ≤ y.toInt) (h : dz_T (a.bind f) Q) : dz_T ((if ¬ y < 0 then a else none).bind f) Q := dz_Tgb (dz_ng hy) h
theorem dz_nb {e : Int32} (h : e.toInt = 0 ∨ e.toInt = 1) : narrow .boolean (.int e) = .int e := by
  rcases h with h | h
  · have : e = 0 := Int32.toInt_inj.mp (by rw [h]; decide)
    subst this; rfl
  · have : e = 1 := Int32.toInt_inj.mp (by rw [h]; decide)
    subst this; rfl
theorem dz_rng (x : Int32) : -2147483648 ≤ x.toInt ∧ x.toInt ≤ 2147483647 := by
  have h1 := x.le_toInt
  have h2 := x.toInt_lt
  omega
theorem dz_add {a b : Int32} (h0 : -2147483648 ≤ a.toInt + b.toInt) (h1 : a.toInt + b.toInt ≤ 2147483647) : (a + b).toInt = a.toInt + b.toInt := by
  rw [Int32.toInt_add]; exact Int.bmod_eq_of_le (by omega) (by omega)
theorem dz_sub {a b : Int32} (h0 : -2147483648 ≤ a.toInt - b.toInt) (h1 : a.toInt - b.toInt ≤ 2147483647) : (a - b).toInt = a.toInt - b.toInt := by
  rw [Int32.toInt_sub]; exact Int.bmod_eq_of_le (by omega) (by omega)
theorem dz_neg' {a : Int32} (h1 : -2147483648 < a.toInt) : (-a).toInt = -a.toInt := by
  have := dz_rng a
  rw [Int32.toInt_neg]; exact Int.bmod_eq_of_le (by omega) (by omega)
theorem dz_mul {a b : Int32} (h0 : -2147483648 ≤ a.toInt * b.toInt) (h1 : a.toInt * b.toInt ≤ 2147483647) : (a * b).toInt = a.toInt * b.toInt := by
  rw [Int32.toInt_mul]; exact Int.bmod_eq_of_le (by omega) (by omega)
theorem dz_mull {a b : Int32} (n : Int) (hn : a.toInt = n) (h0 : -2147483648 ≤ n * b.toInt) (h1 : n * b.toInt ≤ 2147483647) : (a * b).toInt = n * b.toInt := by
  subst hn; exact dz_mul h0 h1
theorem dz_mulr {a b : Int32} (n : Int) (hn : b.toInt = n) (h0 : -2147483648 ≤ a.toInt * n) (h1 : a.toInt * n ≤ 2147483647) : (a * b).toInt = a.toInt * n := by
  subst hn; exact dz_mul h0 h1
theorem dz_mulb {a b : Int32} (A B : Int) (a0 : 0 ≤ a.toInt) (a1 : a.toInt ≤ A) (b0 : 0 ≤ b.toInt) (b1 : b.toInt ≤ B) (h : A * B ≤ 2147483647) : (a * b).toInt = a.toInt * b.toInt ∧ 0 ≤ (a * b).toInt ∧ (a * b).toInt ≤ A * B := by
  have h2 : 0 ≤ a.toInt * b.toInt := Int.mul_nonneg a0 b0
  have h3 : a.toInt * b.toInt ≤ A * B := Int.mul_le_mul a1 b1 b0 (by omega)
  have h4 := dz_mul (a := a) (b := b) (by omega) (by omega)
  exact ⟨h4, by omega, by omega⟩
theorem dz_ediv {a b : Int} (ha : 0 ≤ a) (hb : 0 < b) : 0 ≤ a / b ∧ a / b ≤ a ∧ 0 ≤ a / b * b ∧ a / b * b ≤ a ∧ a % b = a - a / b * b ∧ 0 ≤ a % b ∧ a % b < b ∧ a % b ≤ a := by
  have h1 : 0 ≤ a / b := Int.ediv_nonneg ha (by omega)
  have h2 : a / b ≤ a := Int.ediv_le_self b ha
  have h3 : 0 ≤ a / b * b := Int.mul_nonneg h1 (by omega)
  have h4 := Int.emod_def a b
  have h5 := Int.emod_nonneg a (show b ≠ 0 by omega)
  have h6 := Int.emod_lt_of_pos a hb
  rw [Int.mul_comm] at h4
  exact ⟨h1, h2, h3, by omega, h4, h5, h6, by omega⟩
theorem dz_divv {a b : Int32} (a0 : 0 ≤ a.toInt) (b0 : 0 < b.toInt) : (a / b).toInt = a.toInt / b.toInt ∧ 0 ≤ (a / b).toInt ∧ (a / b).toInt ≤ a.toInt := by
  have r := dz_rng a
  have h := dz_ediv a0 b0
  have : (a / b).toInt = a.toInt / b.toInt := by
    rw [Int32.toInt_div, Int.tdiv_eq_ediv_of_nonneg a0]; exact Int.bmod_eq_of_le (by omega) (by omega)
  exact ⟨this, by omega, by omega⟩
theorem dz_divn {a b : Int32} (n : Int) (a0 : 0 ≤ a.toInt) (hb : b.toInt = n) (hn : 0 < n) : (a / b).toInt = a.toInt / n := by
  subst hb; exact (dz_divv a0 hn).1
theorem dz_remv {a b : Int32} (a0 : 0 ≤ a.toInt) (b0 : 0 < b.toInt) : (dz_rem a b).toInt = a.toInt % b.toInt ∧ 0 ≤ (dz_rem a b).toInt ∧ (dz_rem a b).toInt < b.toInt ∧ (dz_rem a b).toInt ≤ a.toInt := by
  have r := dz_rng a
  have h := dz_ediv a0 b0
  have d := (dz_divv a0 b0).1
  have e : (a / b * b).toInt = a.toInt / b.toInt * b.toInt := by rw [dz_mul (by rw [d]; omega) (by rw [d]; omega), d]
  have : (dz_rem a b).toInt = a.toInt % b.toInt := by
    show (a - a / b * b).toInt = _
    rw [dz_sub (by rw [e]; omega) (by rw [e]; omega), e]; omega
  exact ⟨this, by omega, by omega, by omega⟩
theorem dz_remn {a b : Int32} (n : Int) (a0 : 0 ≤ a.toInt) (hb : b.toInt = n) (hn : 0 < n) : (dz_rem a b).toInt = a.toInt % n := by
  subst hb; exact (dz_remv a0 hn).1
theorem dz_tn (x : Int32) : x.toNatClampNeg = x.toInt.toNat := (Int32.toNat_toInt x).symm
theorem dz_ofn {n : Nat} (h : n < 2147483648) : (Int32.ofNat n).toInt = (n : Int) := Int32.toInt_ofNat_of_lt (by omega)
theorem dz_max {a b : Int32} : a.toInt ≤ (if a < b then b else a).toInt ∧ b.toInt ≤ (if a < b then b else a).toInt ∧ ((if a < b then b else a).toInt = a.toInt ∨ (if a < b then b else a).toInt = b.toInt) := by
  by_cases h : a < b
  · have := Int32.lt_iff_toInt_lt.mp h
    rw [if_pos h]; omega
  · have := dz_fnlt h
    rw [if_neg h]; omega
theorem dz_min {a b : Int32} : (if a < b then a else b).toInt ≤ a.toInt ∧ (if a < b then a else b).toInt ≤ b.toInt ∧ ((if a < b then a else b).toInt = a.toInt ∨ (if a < b then a else b).toInt = b.toInt) := by
  by_cases h : a < b
  · have := Int32.lt_iff_toInt_lt.mp h
    rw [if_pos h]; omega
  · have := dz_fnlt h
    rw [if_neg h]; omega
/-- bits -/
theorem dz_bn (x : Int32) : (0 ≤ x.toInt → x.toInt = (x.toBitVec.toNat : Int) ∧ x.toBitVec.toNat < 2147483648) ∧ (x.toBitVec.toNat < 2147483648 → x.toInt = (x.toBitVec.toNat : Int)) := by
  have h2 := BitVec.toInt_eq_toNat_cond x.toBitVec
  have h3 := x.toBitVec.isLt
  have h4 : x.toInt = x.toBitVec.toInt := rfl
  rw [h4]
  split at h2 <;> omega
theorem dz_andr {a b : Int32} (hb : 0 ≤ b.toInt) : 0 ≤ (a &&& b).toInt ∧ (a &&& b).toInt ≤ b.toInt := by
  have h1 := (dz_bn b).1 hb
  have h2 := (dz_bn (a &&& b)).2
  have h3 : (a &&& b).toBitVec.toNat = a.toBitVec.toNat &&& b.toBitVec.toNat := BitVec.toNat_and _ _
  have h4 : a.toBitVec.toNat &&& b.toBitVec.toNat ≤ b.toBitVec.toNat := Nat.and_le_right
  omega
theorem dz_andl {a b : Int32} (ha : 0 ≤ a.toInt) : 0 ≤ (a &&& b).toInt ∧ (a &&& b).toInt ≤ a.toInt := by
  have h1 := (dz_bn a).1 ha
  have h2 := (dz_bn (a &&& b)).2
  have h3 : (a &&& b).toBitVec.toNat = a.toBitVec.toNat &&& b.toBitVec.toNat := BitVec.toNat_and _ _
  have h4 : a.toBitVec.toNat &&& b.toBitVec.toNat ≤ a.toBitVec.toNat := Nat.and_le_left
  omega
theorem dz_p31 {n : Nat} (h : n ≤ 31) : (2 : Nat) ^ n ≤ 2147483648 := Nat.le_trans (Nat.pow_le_pow_right (by decide) h) (by decide)
theorem dz_orb {a b : Int32} (n : Nat) (a0 : 0 ≤ a.toInt) (b0 : 0 ≤ b.toInt) (ha : a.toInt < ((2 ^ n : Nat) : Int)) (hb : b.toInt < ((2 ^ n : Nat) : Int)) (hn : n ≤ 31) : 0 ≤ (a ||| b).toInt ∧ (a ||| b).toInt < ((2 ^ n : Nat) : Int) := by
  have h1 := (dz_bn a).1 a0
  have h1' := (dz_bn b).1 b0
  have h2 := (dz_bn (a ||| b)).2
  have h3 : (a ||| b).toBitVec.toNat = a.toBitVec.toNat ||| b.toBitVec.toNat := BitVec.toNat_or _ _
  have h4 : a.toBitVec.toNat ||| b.toBitVec.toNat < 2 ^ n := Nat.or_lt_two_pow (by omega) (by omega)
  have h5 := dz_p31 hn
  omega
theorem dz_xorb {a b : Int32} (n : Nat) (a0 : 0 ≤ a.toInt) (b0 : 0 ≤ b.toInt) (ha : a.toInt < ((2 ^ n : Nat) : Int)) (hb : b.toInt < ((2 ^ n : Nat) : Int)) (hn : n ≤ 31) : 0 ≤ (a ^^^ b).toInt ∧ (a ^^^ b).toInt < ((2 ^ n : Nat) : Int) := by
  have h1 := (dz_bn a).1 a0
  have h1' := (dz_bn b).1 b0
  have h2 := (dz_bn (a ^^^ b)).2
  have h3 : (a ^^^ b).toBitVec.toNat = a.toBitVec.toNat ^^^ b.toBitVec.toNat := BitVec.toNat_xor _ _
  have h4 : a.toBitVec.toNat ^^^ b.toBitVec.toNat < 2 ^ n := Nat.xor_lt_two_pow (by omega) (by omega)
  have h5 := dz_p31 hn
  omega
theorem dz_shr {a b : Int32} (a0 : 0 ≤ a.toInt) : 0 ≤ (a >>> b).toInt ∧ (a >>> b).toInt ≤ a.toInt := by
  have h1 := (dz_bn a).1 a0
  have h2 := (dz_bn (a >>> b)).2
  have hm : a.toBitVec.msb = false := by rw [BitVec.msb_eq_decide]; simp; omega
  have h3 : (a >>> b).toBitVec.toNat = a.toBitVec.toNat >>> ((b.toBitVec.smod 32).toNat) := BitVec.toNat_sshiftRight'_of_msb_false hm
  have h4 : a.toBitVec.toNat >>> ((b.toBitVec.smod 32).toNat) ≤ a.toBitVec.toNat := Nat.shiftRight_le _ _
  omega
theorem dz_eqn {b : Int32} {c : Nat} (h : b.toInt = (c : Int)) (hc : c < 2147483648) : b = Int32.ofNat c := Int32.toInt_inj.mp (by rw [h, Int32.toInt_ofNat_of_lt (by omega)])
theorem dz_sm : ∀ c : Fin 31, (Int32.ofNat c.val &&& 31).toBitVec.smod 32 = BitVec.ofNat 32 c.val := by decide
theorem dz_shlc {a b : Int32} (c : Nat) (a0 : 0 ≤ a.toInt) (hb : b.toInt = (c : Int)) (hc : c ≤ 30) (h : a.toInt * ((2 ^ c : Nat) : Int) ≤ 2147483647) : (a <<< (b &&& 31)).toInt = a.toInt * ((2 ^ c : Nat) : Int) := by
  have e := dz_eqn hb (by omega)
  subst e
  have h1 := (dz_bn a).1 a0
  have h2 := (dz_bn (a <<< (Int32.ofNat c &&& 31))).2
  have h3 : (a <<< (Int32.ofNat c &&& 31)).toBitVec = a.toBitVec <<< ((Int32.ofNat c &&& 31).toBitVec.smod 32) := rfl
  rw [dz_sm ⟨c, by omega⟩] at h3
  have h4 : (a.toBitVec <<< (BitVec.ofNat 32 c)).toNat = a.toBitVec.toNat <<< c % 2 ^ 32 := by
    rw [BitVec.shiftLeft_eq', BitVec.toNat_shiftLeft, BitVec.toNat_ofNat, Nat.mod_eq_of_lt (by omega : c < 2 ^ 32)]
  rw [Nat.shiftLeft_eq] at h4
  have h5 : ((a.toBitVec.toNat * 2 ^ c : Nat) : Int) = a.toInt * ((2 ^ c : Nat) : Int) := by rw [h1.1]; exact Int.natCast_mul _ _
  have h6 : a.toBitVec.toNat * 2 ^ c % 2 ^ 32 = a.toBitVec.toNat * 2 ^ c := Nat.mod_eq_of_lt (by omega)
  rw [h6] at h4
  rw [h3, h4] at h2
  rw [h2 (by omega), h5]
theorem dz_shlp {a b : Int32} (a0 : 0 ≤ a.toInt) (b0 : 0 ≤ b.toInt) (hb : b.toInt ≤ 30) (h : a.toInt * ((2 ^ b.toInt.toNat : Nat) : Int) ≤ 2147483647) : (a <<< (b &&& 31)).toInt = a.toInt * ((2 ^ b.toInt.toNat : Nat) : Int) := dz_shlc b.toInt.toNat a0 (by omega) (by omega) h
theorem dz_shlb {a b : Int32} (A : Int) (h : Nat) (a0 : 0 ≤ a.toInt) (a1 : a.toInt ≤ A) (b0 : 0 ≤ b.toInt) (b1 : b.toInt ≤ (h : Int)) (hh : h ≤ 30 ∧ A * ((2 ^ h : Nat) : Int) ≤ 2147483647) : 0 ≤ (a <<< (b &&& 31)).toInt ∧ (a <<< (b &&& 31)).toInt ≤ A * ((2 ^ h : Nat) : Int) := by
  have e : ((2 ^ b.toInt.toNat : Nat) : Int) ≤ ((2 ^ h : Nat) : Int) := Int.ofNat_le.mpr (Nat.pow_le_pow_right (by decide) (by omega))
  have e1 : a.toInt * ((2 ^ b.toInt.toNat : Nat) : Int) ≤ A * ((2 ^ h : Nat) : Int) := Int.mul_le_mul a1 e (Int.natCast_nonneg _) (by omega)
  have e2 : 0 ≤ a.toInt * ((2 ^ b.toInt.toNat : Nat) : Int) := Int.mul_nonneg a0 (Int.natCast_nonneg _)
  rw [dz_shlp a0 b0 (by omega) (by omega)]
  exact ⟨e2, e1⟩
theorem dz_shl1p {b : Int32} (b0 : 0 ≤ b.toInt) (b1 : b.toInt ≤ 30) : ((1 : Int32) <<< (b &&& 31)).toInt = ((2 ^ b.toInt.toNat : Nat) : Int) := by
  have o : (1 : Int32).toInt = 1 := by decide
  have e : (2 : Nat) ^ b.toInt.toNat ≤ 2 ^ 30 := Nat.pow_le_pow_right (by decide) (by omega)
  rw [dz_shlp (by rw [o]; decide) b0 b1 (by rw [o]; omega), o, Int.one_mul]
theorem dz_shl1 {b : Int32} (l h : Nat) (hl : (l : Int) ≤ b.toInt) (hh : b.toInt ≤ (h : Int)) (h30 : h ≤ 30) : ((2 ^ l : Nat) : Int) ≤ ((1 : Int32) <<< (b &&& 31)).toInt ∧ ((1 : Int32) <<< (b &&& 31)).toInt ≤ ((2 ^ h : Nat) : Int) := by
  rw [dz_shl1p (by omega) (by omega)]
  exact ⟨Int.ofNat_le.mpr (Nat.pow_le_pow_right (by decide) (by omega)), Int.ofNat_le.mpr (Nat.pow_le_pow_right (by decide) (by omega))⟩
theorem dz_ushn (a b : Int32) : (dz_ush a b).toBitVec.toNat = a.toBitVec.toNat >>> ((b.toBitVec.toNat &&& 31) % 32) := rfl
theorem dz_ushp {a b : Int32} (a0 : 0 ≤ a.toInt) : 0 ≤ (dz_ush a b).toInt ∧ (dz_ush a b).toInt ≤ a.toInt := by
  have h1 := (dz_bn a).1 a0
  have h2 := (dz_bn (dz_ush a b)).2
  have h3 := dz_ushn a b
  have h4 : a.toBitVec.toNat >>> ((b.toBitVec.toNat &&& 31) % 32) ≤ a.toBitVec.toNat := Nat.shiftRight_le _ _
  omega
theorem dz_ushc {a b : Int32} (c : Nat) (hb : b.toInt = (c : Int)) (h1 : 1 ≤ c) (h2 : c ≤ 31) : 0 ≤ (dz_ush a b).toInt ∧ (dz_ush a b).toInt < ((2 ^ (32 - c) : Nat) : Int) := by
  have q := (dz_bn b).1 (by omega)
  have h3 := dz_ushn a b
  have h4 : b.toBitVec.toNat = c := by omega
  have h5 : (c &&& 31) % 32 = c := by rw [show (31 : Nat) = 2 ^ 5 - 1 from rfl, Nat.and_two_pow_sub_one_eq_mod]; omega
  rw [h4, h5, Nat.shiftRight_eq_div_pow] at h3
  have h6 : a.toBitVec.toNat / 2 ^ c < 2 ^ (32 - c) := by
    rw [Nat.div_lt_iff_lt_mul (Nat.two_pow_pos c), ← Nat.pow_add, Nat.sub_add_cancel (by omega)]
    exact a.toBitVec.isLt
  have h7 : (2 : Nat) ^ (32 - c) ≤ 2147483648 := dz_p31 (by omega)
  have h8 := (dz_bn (dz_ush a b)).2
  omega
theorem dz_nby {a : Int32} (a0 : 0 ≤ a.toInt) (a1 : a.toInt ≤ 127) : (vp_nar .byte a.toInt8.toInt32).toInt = a.toInt := by
  have e := dz_eqn (b := a) (c := a.toInt.toNat) (by omega) (by omega)
  have h : ∀ c : Fin 128, (vp_nar .byte (Int32.ofNat c.val).toInt8.toInt32).toInt = (c.val : Int) := by decide +kernel
  have h2 : (vp_nar .byte (Int32.ofNat a.toInt.toNat).toInt8.toInt32).toInt = (a.toInt.toNat : Int) := h ⟨a.toInt.toNat, by omega⟩
  rw [← e] at h2
  rw [h2]; omega
/-- rows whose numbers lie between -/
def dz_rg (a : Nat → Int32) (n : Nat) (lo hi : Int) : Prop := ∀ k, k < n → lo ≤ (a k).toInt ∧ (a k).toInt ≤ hi
theorem dz_rgat {a : Nat → Int32} {n : Nat} {lo hi : Int} (h : dz_rg a n lo hi) {i : Int32} (h0 : 0 ≤ i.toInt) (h1 : i.toInt < (n : Int)) : lo ≤ (a i.toNatClampNeg).toInt ∧ (a i.toNatClampNeg).toInt ≤ hi := h _ (by have := dz_tn i; omega)
theorem dz_rgm {a : Nat → Int32} {n : Nat} {lo hi lo' hi' : Int} (h : dz_rg a n lo hi) (h0 : lo' ≤ lo) (h1 : hi ≤ hi') : dz_rg a n lo' hi' := fun k hk => by
  have := h k hk
  omega
theorem dz_rgu {a : Nat → Int32} {n i : Nat} {lo hi : Int} {v : Int32} (h : dz_rg a n lo hi) (h0 : lo ≤ v.toInt) (h1 : v.toInt ≤ hi) : dz_rg (upd a i v) n lo hi := fun k hk => by
  have := h k hk
  show lo ≤ (if k = i then v else a k).toInt ∧ (if k = i then v else a k).toInt ≤ hi
  split <;> omega
theorem dz_rgc {f g : Nat → Int32} {nf n sp dp m : Nat} {lo hi : Int} (hf : dz_rg f nf lo hi) (hg : dz_rg g n lo hi) (hs : sp + m ≤ nf) : dz_rg (va_cpy f g sp dp m) n lo hi := fun k hk => by
  show lo ≤ (if dp ≤ k ∧ k < dp + m then f (sp + (k - dp)) else g k).toInt ∧ (if dp ≤ k ∧ k < dp + m then f (sp + (k - dp)) else g k).toInt ≤ hi
  split
  · exact hf _ (by omega)
  · exact hg k hk
theorem dz_rg0 {n : Nat} {lo hi : Int} (h0 : lo ≤ 0) (h1 : 0 ≤ hi) : dz_rg (jw_l 0 []) n lo hi := fun k hk => by
  have e : jw_l 0 [] k = 0 := by simp [jw_l]
  have z := dz_l0'
  rw [e, z]; exact ⟨h0, h1⟩
theorem dz_rs0 : dz_rg jw_s0 4 0 3 := fun k hk => by
  have h : ∀ c : Fin 4, 0 ≤ (jw_s0 c.val).toInt ∧ (jw_s0 c.val).toInt ≤ 3 := by decide
  exact h ⟨k, hk⟩
theorem dz_rs1 : dz_rg jw_s1 5 1 24 := fun k hk => by
  have h : ∀ c : Fin 5, 1 ≤ (jw_s1 c.val).toInt ∧ (jw_s1 c.val).toInt ≤ 24 := by decide
  exact h ⟨k, hk⟩
theorem dz_rs2 : dz_rg jw_s2 5 1 3456 := fun k hk => by
  have h : ∀ c : Fin 5, 1 ≤ (jw_s2 c.val).toInt ∧ (jw_s2 c.val).toInt ≤ 3456 := by decide
  exact h ⟨k, hk⟩
theorem dz_rs3 : dz_rg jw_s3 5 1 12 := fun k hk => by
  have h : ∀ c : Fin 5, 1 ≤ (jw_s3 c.val).toInt ∧ (jw_s3 c.val).toInt ≤ 12 := by decide
  exact h ⟨k, hk⟩
theorem dz_rs03 : dz_rg jw_s0 3 0 2 := fun k hk => by
  have h : ∀ c : Fin 3, 0 ≤ (jw_s0 c.val).toInt ∧ (jw_s0 c.val).toInt ≤ 2 := by decide
  exact h ⟨k, hk⟩
theorem dz_rgc0 {f g : Nat → Int32} {n s m : Nat} {lo hi : Int} (hf : dz_rg f n lo hi) (hg : dz_rg g n lo hi) : dz_rg (va_cpy f g s s m) n lo hi := fun k hk => by
  show lo ≤ (if s ≤ k ∧ k < s + m then f (s + (k - s)) else g k).toInt ∧ (if s ≤ k ∧ k < s + m then f (s + (k - s)) else g k).toInt ≤ hi
  split
  · exact hf _ (by omega)
  · exact hg k hk
/-- rows of four: numbers at the first w places of the first m -/
def dz_rq (a : Nat → Int32) (m w : Nat) (lo hi : Int) : Prop := ∀ r g, r < m → g < w → lo ≤ (a (4 * r + g)).toInt ∧ (a (4 * r + g)).toInt ≤ hi
theorem dz_rqat {a : Nat → Int32} {m w : Nat} {lo hi : Int} (h : dz_rq a m w lo hi) {x y : Int32} (x0 : 0 ≤ x.toInt) (x1 : x.toInt < (m : Int)) (y0 : 0 ≤ y.toInt) (y1 : y.toInt < (w : Int)) (e : ((x * 4) + y).toInt = 4 * x.toInt + y.toInt) : lo ≤ (a ((x * 4) + y).toNatClampNeg).toInt ∧ (a ((x * 4) + y).toNatClampNeg).toInt ≤ hi := by
  have t := dz_tn ((x * 4) + y)
  have h2 := h x.toInt.toNat y.toInt.toNat (by omega) (by omega)
  rw [show ((x * 4) + y).toNatClampNeg = 4 * x.toInt.toNat + y.toInt.toNat by omega]
  exact h2
theorem dz_ups {a : Nat → Int32} {v i j : Int32} (h : i.toInt = j.toInt) : ((upd a j.toNatClampNeg v) i.toNatClampNeg).toInt = v.toInt := by
  have e : i = j := Int32.toInt_inj.mp h
  subst e
  show (if _ = _ then v else _ : Int32).toInt = _
  rw [if_pos rfl]
theorem dz_upn {a : Nat → Int32} {v i j : Int32} (hi : 0 ≤ i.toInt) (hj : 0 ≤ j.toInt) (h : i.toInt ≠ j.toInt) : ((upd a j.toNatClampNeg v) i.toNatClampNeg).toInt = (a i.toNatClampNeg).toInt := by
  have t1 := dz_tn i
  have t2 := dz_tn j
  show (if i.toNatClampNeg = j.toNatClampNeg then v else a i.toNatClampNeg).toInt = _
  rw [if_neg (by omega)]
theorem dz_upk {a : Nat → Int32} {v j : Int32} (k : Nat) (h : j.toInt = (k : Int)) : ((upd a j.toNatClampNeg v) k).toInt = v.toInt := by
  have t2 := dz_tn j
  show (if k = j.toNatClampNeg then v else a k).toInt = _
  rw [if_pos (by omega)]
theorem dz_upo {a : Nat → Int32} {v j : Int32} (k : Nat) (h : 0 ≤ j.toInt ∧ j.toInt ≠ (k : Int)) : ((upd a j.toNatClampNeg v) k).toInt = (a k).toInt := by
  have t2 := dz_tn j
  show (if k = j.toNatClampNeg then v else a k).toInt = _
  rw [if_neg (by omega)]
/-- a row's first numbers -/
def dz_pt (a : Nat → Int32) (xs : List Int) : Prop := ∀ k x, xs[k]? = some x → (a k).toInt = x
theorem dz_ptk {a : Nat → Int32} {xs : List Int} (h : dz_pt a xs) {x : Int} (k : Nat) (e : xs[k]? = some x) : (a k).toInt = x := h k x e
theorem dz_ptat {a : Nat → Int32} {xs : List Int} (h : dz_pt a xs) {i : Int32} {x : Int} (k : Nat) (hi : i.toInt = (k : Int)) (e : xs[k]? = some x) : (a i.toNatClampNeg).toInt = x := by
  have t := dz_tn i
  rw [show i.toNatClampNeg = k by omega]
  exact h k x e
theorem dz_ptrg {a : Nat → Int32} {xs : List Int} (h : dz_pt a xs) {i : Int32} (lo hi : Int) (hx : ∀ x ∈ xs, lo ≤ x ∧ x ≤ hi) (h0 : 0 ≤ i.toInt) (h1 : i.toInt < (xs.length : Int)) : lo ≤ (a i.toNatClampNeg).toInt ∧ (a i.toNatClampNeg).toInt ≤ hi := by
  have t := dz_tn i
  have hl : i.toNatClampNeg < xs.length := by omega
  have e := h i.toNatClampNeg (xs[i.toNatClampNeg]) (List.getElem?_eq_getElem hl)
  rw [e]
  exact hx _ (List.getElem_mem hl)
theorem dz_ptmk0 {a : Nat → Int32} : dz_pt a [] := fun k x h => by simp at h
theorem dz_ptmk1 {a : Nat → Int32} {x0 : Int} (h0 : (a 0).toInt = x0) : dz_pt a [x0] := fun k x h => by
  match k with
  | 0 => simp at h; rw [h0, h]
  | k + 1 => simp at h
theorem dz_ptmk2 {a : Nat → Int32} {x0 x1 : Int} (h0 : (a 0).toInt = x0) (h1 : (a 1).toInt = x1) : dz_pt a [x0, x1] := fun k x h => by
  match k with
  | 0 => simp at h; rw [h0, h]
  | 1 => simp at h; rw [h1, h]
  | k + 2 => simp at h
theorem dz_ptmk3 {a : Nat → Int32} {x0 x1 x2 : Int} (h0 : (a 0).toInt = x0) (h1 : (a 1).toInt = x1) (h2 : (a 2).toInt = x2) : dz_pt a [x0, x1, x2] := fun k x h => by
  match k with
  | 0 => simp at h; rw [h0, h]
  | 1 => simp at h; rw [h1, h]
  | 2 => simp at h; rw [h2, h]
  | k + 3 => simp at h
theorem dz_ptmk4 {a : Nat → Int32} {x0 x1 x2 x3 : Int} (h0 : (a 0).toInt = x0) (h1 : (a 1).toInt = x1) (h2 : (a 2).toInt = x2) (h3 : (a 3).toInt = x3) : dz_pt a [x0, x1, x2, x3] := fun k x h => by
  match k with
  | 0 => simp at h; rw [h0, h]
  | 1 => simp at h; rw [h1, h]
  | 2 => simp at h; rw [h2, h]
  | 3 => simp at h; rw [h3, h]
  | k + 4 => simp at h
theorem dz_ptmk5 {a : Nat → Int32} {x0 x1 x2 x3 x4 : Int} (h0 : (a 0).toInt = x0) (h1 : (a 1).toInt = x1) (h2 : (a 2).toInt = x2) (h3 : (a 3).toInt = x3) (h4 : (a 4).toInt = x4) : dz_pt a [x0, x1, x2, x3, x4] := fun k x h => by
  match k with
  | 0 => simp at h; rw [h0, h]
  | 1 => simp at h; rw [h1, h]
  | 2 => simp at h; rw [h2, h]
  | 3 => simp at h; rw [h3, h]
  | 4 => simp at h; rw [h4, h]
  | k + 5 => simp at h
theorem dz_nz64 {x : Int32} (h : x.toInt ≠ 0) : ¬ x.toInt64 = 0 := fun q => h (by
  have e : x.toInt64.toInt = x.toInt := Int32.toInt_toInt64 x
  rw [q] at e
  rw [← e]; decide)
/-- new rows' room -/
theorem dz_needCb {total : Int32} {n : Nat} (h0 : 0 ≤ total.toInt) (h1 : total.toInt ≤ 13824) : (dz_needC total n : Int) ≤ 27648 ∧ ((n : Int) < total.toInt → (dz_needC total n : Int) = 2 * total.toInt) ∧ (total.toInt ≤ (n : Int) → dz_needC total n = 0) := by
  have t := dz_tn total
  unfold dz_needC
  split <;> omega
theorem dz_needTb {fr bars : Int32} {n : Nat} (h0 : 0 ≤ bars.toInt) (h1 : bars.toInt ≤ 10) : (dz_needT fr bars n : Int) ≤ 8064 ∧ (fr.toInt ≠ 0 → dz_needT fr bars n = 0) := by
  have z := dz_l0'
  have o : (1 : Int32).toInt = 1 := by decide
  have w : (2 : Int32).toInt = 2 := by decide
  have q : (144 : Int32).toInt = 144 := by decide
  have e1 := dz_add (a := bars) (b := 1) (by omega) (by omega)
  have e2 := dz_mulb (a := bars) (b := bars + 1) 10 11 h0 h1 (by omega) (by omega) (by decide)
  have e3 := dz_divn (a := bars * (bars + 1)) (b := 2) 2 (by omega) w (by decide)
  have e4 := dz_add (a := 1) (b := bars * (bars + 1) / 2) (by omega) (by omega)
  have e5 := dz_mulr (a := 1 + bars * (bars + 1) / 2) (b := 144) 144 q (by omega) (by omega)
  have t := dz_tn ((1 + bars * (bars + 1) / 2) * 144)
  unfold dz_needT
  split
  · rename_i hf
    have : fr.toInt = 0 := by rw [hf]; exact z
    split <;> omega
  · omega
theorem dz_cnd {c : Int32} {P : Prop} (h : c.toInt = 0 ∨ P) (hc : c.toInt ≠ 0) : P := h.resolve_left hc
/-- rows of unlike numbers -/
def dz_perms : Nat → List (List Int)
  | 0 => [[]]
  | 1 => [[0]]
  | 2 => [[0, 1], [1, 0]]
  | 3 => [[0, 1, 2], [0, 2, 1], [1, 0, 2], [1, 2, 0], [2, 0, 1], [2, 1, 0]]
  | 4 => [[0, 1, 2, 3], [0, 1, 3, 2], [0, 2, 1, 3], [0, 2, 3, 1], [0, 3, 1, 2], [0, 3, 2, 1], [1, 0, 2, 3], [1, 0, 3, 2], [1, 2, 0, 3], [1, 2, 3, 0], [1, 3, 0, 2], [1, 3, 2, 0], [2, 0, 1, 3], [2, 0, 3, 1], [2, 1, 0, 3], [2, 1, 3, 0], [2, 3, 0, 1], [2, 3, 1, 0], [3, 0, 1, 2], [3, 0, 2, 1], [3, 1, 0, 2], [3, 1, 2, 0], [3, 2, 0, 1], [3, 2, 1, 0]]
  | _ => []
def dz_pm (a : Nat → Int32) (p : Nat) : Prop := ∃ xs, xs ∈ dz_perms p ∧ dz_pt a xs
theorem dz_pmb {p : Nat} (hp : p ≤ 4) : ∀ xs ∈ dz_perms p, xs.length = p ∧ ∀ x ∈ xs, 0 ≤ x ∧ x ≤ (p : Int) - 1 := by
  match p, hp with
  | 0, _ => decide
  | 1, _ => decide
  | 2, _ => decide
  | 3, _ => decide
  | 4, _ => decide
theorem dz_pmat {a : Nat → Int32} {p : Nat} (h : dz_pm a p) {i : Int32} (hp : p ≤ 4) (h0 : 0 ≤ i.toInt) (h1 : i.toInt < (p : Int)) : 0 ≤ (a i.toNatClampNeg).toInt ∧ (a i.toNatClampNeg).toInt ≤ (p : Int) - 1 := by
  obtain ⟨xs, hx, ht⟩ := h
  have hb := dz_pmb hp xs hx
  exact dz_ptrg ht 0 ((p : Int) - 1) hb.2 h0 (by rw [hb.1]; exact h1)
theorem dz_pmr {a : Nat → Int32} {p n : Nat} {lo hi : Int} (h : dz_pm a p) (hp : p ≤ 4) (hn : n ≤ p) (hlo : lo ≤ 0) (hhi : (p : Int) - 1 ≤ hi) : dz_rg a n lo hi := fun k hk => by
  obtain ⟨xs, hx, ht⟩ := h
  have hb := dz_pmb hp xs hx
  have hl : k < xs.length := by omega
  have e := ht k xs[k] (List.getElem?_eq_getElem hl)
  have m := hb.2 _ (List.getElem_mem hl)
  rw [e]; omega
theorem dz_pmc {f g : Nat → Int32} {p : Nat} (h : dz_pm f p) (hp : p ≤ 4) : dz_pm (va_cpy f g (0 : Int32).toNatClampNeg (0 : Int32).toNatClampNeg (4 : Int32).toNatClampNeg) p := by
  obtain ⟨xs, hx, ht⟩ := h
  have hb := dz_pmb hp xs hx
  refine ⟨xs, hx, fun k x e => ?_⟩
  have hl : k < xs.length := by
    rcases Nat.lt_or_ge k xs.length with h | h
    · exact h
    · rw [List.getElem?_eq_none h] at e; cases e
  have z : (0 : Int32).toNatClampNeg = 0 := by decide
  have w : (4 : Int32).toNatClampNeg = 4 := by decide
  rw [z, w]
  show (if 0 ≤ k ∧ k < 0 + 4 then f (0 + (k - 0)) else g k).toInt = x
  rw [if_pos (by omega), show 0 + (k - 0) = k by omega]
  exact ht k x e
theorem dz_pmj1 : dz_pm jw_s0 1 := ⟨[0], by decide, fun k x h => by
  match k with
  | 0 => simp at h; subst h; decide
  | k + 1 => simp at h⟩
theorem dz_pmj0 : dz_pm jw_s0 0 := ⟨[], by decide, fun k x h => by simp at h⟩
theorem dz_pmj2 : dz_pm jw_s0 2 := ⟨[0, 1], by decide, dz_ptmk2 (by decide) (by decide)⟩
theorem dz_pmj3 : dz_pm jw_s0 3 := ⟨[0, 1, 2], by decide, dz_ptmk3 (by decide) (by decide) (by decide)⟩
theorem dz_pmj4 : dz_pm jw_s0 4 := ⟨[0, 1, 2, 3], by decide, dz_ptmk4 (by decide) (by decide) (by decide) (by decide)⟩
theorem dz_pms0 {g : Nat → Int32} : dz_pm (va_cpy jw_s0 g (0 : Int32).toNatClampNeg (0 : Int32).toNatClampNeg (4 : Int32).toNatClampNeg) 0 := dz_pmc dz_pmj0 (by decide)
theorem dz_pms1 {g : Nat → Int32} : dz_pm (va_cpy jw_s0 g (0 : Int32).toNatClampNeg (0 : Int32).toNatClampNeg (4 : Int32).toNatClampNeg) 1 := dz_pmc dz_pmj1 (by decide)
theorem dz_pms2 {g : Nat → Int32} : dz_pm (va_cpy jw_s0 g (0 : Int32).toNatClampNeg (0 : Int32).toNatClampNeg (4 : Int32).toNatClampNeg) 2 := dz_pmc dz_pmj2 (by decide)
theorem dz_pms3 {g : Nat → Int32} : dz_pm (va_cpy jw_s0 g (0 : Int32).toNatClampNeg (0 : Int32).toNatClampNeg (4 : Int32).toNatClampNeg) 3 := dz_pmc dz_pmj3 (by decide)
theorem dz_pms4 {g : Nat → Int32} : dz_pm (va_cpy jw_s0 g (0 : Int32).toNatClampNeg (0 : Int32).toNatClampNeg (4 : Int32).toNatClampNeg) 4 := dz_pmc dz_pmj4 (by decide)
theorem dz_rgx {a : Nat → Int32} {k1 k2 v : Int32} {lo hi : Int} (h : dz_rg a k1.toInt.toNat lo hi) (e : k2.toInt = k1.toInt + 1) (h0 : 0 ≤ k1.toInt) (h1 : lo ≤ v.toInt) (h2 : v.toInt ≤ hi) : dz_rg (upd a k1.toNatClampNeg v) k2.toInt.toNat lo hi := fun k hk => by
  have t := dz_tn k1
  show lo ≤ (if k = k1.toNatClampNeg then v else a k).toInt ∧ (if k = k1.toNatClampNeg then v else a k).toInt ≤ hi
  split
  · exact ⟨h1, h2⟩
  · exact h k (by omega)
theorem dz_rgs {a : Nat → Int32} {n1 n2 : Nat} {lo hi : Int} (h : dz_rg a n1 lo hi) (e : n2 ≤ n1) : dz_rg a n2 lo hi := fun k hk => h k (by omega)
theorem dz_rgz {a : Nat → Int32} {n : Nat} {lo hi : Int} (e : n = 0) : dz_rg a n lo hi := fun k hk => by omega
theorem dz_rqat2 {a : Nat → Int32} {m w : Nat} {lo hi : Int} (h : dz_rq a m w lo hi) {x y : Int32} (x0 : 0 ≤ x.toInt) (x1 : x.toInt < 4 * (m : Int)) (xm : x.toInt % 4 = 0) (y0 : 0 ≤ y.toInt) (y1 : y.toInt < (w : Int)) (e : (x + y).toInt = x.toInt + y.toInt) : lo ≤ (a (x + y).toNatClampNeg).toInt ∧ (a (x + y).toNatClampNeg).toInt ≤ hi := by
  have t := dz_tn (x + y)
  have h2 := h (x.toInt / 4).toNat y.toInt.toNat (by omega) (by omega)
  rw [show (x + y).toNatClampNeg = 4 * (x.toInt / 4).toNat + y.toInt.toNat by omega]
  exact h2
