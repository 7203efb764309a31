/-! what rows of the bars' table and of the swaps may have cost -/
def dz_p2 (t n : Nat) : Nat := if t ≤ n then t else 0
theorem dz_p2m {t n m : Nat} (h : n ≤ m) : dz_p2 t n ≤ dz_p2 t m := by
  unfold dz_p2
  split <;> split <;> omega
theorem dz_p2b {t n : Nat} : dz_p2 t n ≤ t := by
  unfold dz_p2
  split <;> omega
theorem dz_p2g {t n m : Nat} (h : n < t) (h2 : t ≤ m) : t + dz_p2 t n ≤ dz_p2 t m := by
  unfold dz_p2
  rw [if_neg (by omega), if_pos h2]
  omega
def dz_potT (n : Nat) : Nat := dz_p2 144 n + dz_p2 288 n + dz_p2 576 n + dz_p2 1008 n + dz_p2 1584 n + dz_p2 2304 n + dz_p2 3168 n + dz_p2 4176 n + dz_p2 5328 n + dz_p2 6624 n + dz_p2 8064 n
theorem dz_potTb (n : Nat) : dz_potT n ≤ 33264 := by
  unfold dz_potT
  have b0 := dz_p2b (t := 144) (n := n)
  have b1 := dz_p2b (t := 288) (n := n)
  have b2 := dz_p2b (t := 576) (n := n)
  have b3 := dz_p2b (t := 1008) (n := n)
  have b4 := dz_p2b (t := 1584) (n := n)
  have b5 := dz_p2b (t := 2304) (n := n)
  have b6 := dz_p2b (t := 3168) (n := n)
  have b7 := dz_p2b (t := 4176) (n := n)
  have b8 := dz_p2b (t := 5328) (n := n)
  have b9 := dz_p2b (t := 6624) (n := n)
  have b10 := dz_p2b (t := 8064) (n := n)
  omega
theorem dz_potTm {n m : Nat} (h : n ≤ m) : dz_potT n ≤ dz_potT m := by
  unfold dz_potT
  have m0 := dz_p2m (t := 144) h
  have m1 := dz_p2m (t := 288) h
  have m2 := dz_p2m (t := 576) h
  have m3 := dz_p2m (t := 1008) h
  have m4 := dz_p2m (t := 1584) h
  have m5 := dz_p2m (t := 2304) h
  have m6 := dz_p2m (t := 3168) h
  have m7 := dz_p2m (t := 4176) h
  have m8 := dz_p2m (t := 5328) h
  have m9 := dz_p2m (t := 6624) h
  have m10 := dz_p2m (t := 8064) h
  omega
theorem dz_potTg {n m : Nat} {b : Int32} (b0 : 0 ≤ b.toInt) (b1 : b.toInt ≤ 10) (h : (n : Int) < dz_kn b) (h2 : dz_kn b ≤ (m : Int)) : dz_kn b + ((dz_potT n : Nat) : Int) ≤ ((dz_potT m : Nat) : Int) := by
  have h3 : n ≤ m := by omega
  unfold dz_kn at h h2 ⊢
  unfold dz_potT
  have m0 := dz_p2m (t := 144) h3
  have m1 := dz_p2m (t := 288) h3
  have m2 := dz_p2m (t := 576) h3
  have m3 := dz_p2m (t := 1008) h3
  have m4 := dz_p2m (t := 1584) h3
  have m5 := dz_p2m (t := 2304) h3
  have m6 := dz_p2m (t := 3168) h3
  have m7 := dz_p2m (t := 4176) h3
  have m8 := dz_p2m (t := 5328) h3
  have m9 := dz_p2m (t := 6624) h3
  have m10 := dz_p2m (t := 8064) h3
  rcases (show b.toInt = 0 ∨ b.toInt = 1 ∨ b.toInt = 2 ∨ b.toInt = 3 ∨ b.toInt = 4 ∨ b.toInt = 5 ∨ b.toInt = 6 ∨ b.toInt = 7 ∨ b.toInt = 8 ∨ b.toInt = 9 ∨ b.toInt = 10 by omega) with e | e | e | e | e | e | e | e | e | e | e
  · rw [e] at h h2 ⊢
    have g := dz_p2g (t := 144) (n := n) (m := m) (by omega) (by omega)
    omega
  · rw [e] at h h2 ⊢
    have g := dz_p2g (t := 288) (n := n) (m := m) (by omega) (by omega)
    omega
  · rw [e] at h h2 ⊢
    have g := dz_p2g (t := 576) (n := n) (m := m) (by omega) (by omega)
    omega
  · rw [e] at h h2 ⊢
    have g := dz_p2g (t := 1008) (n := n) (m := m) (by omega) (by omega)
    omega
  · rw [e] at h h2 ⊢
    have g := dz_p2g (t := 1584) (n := n) (m := m) (by omega) (by omega)
    omega
  · rw [e] at h h2 ⊢
    have g := dz_p2g (t := 2304) (n := n) (m := m) (by omega) (by omega)
    omega
  · rw [e] at h h2 ⊢
    have g := dz_p2g (t := 3168) (n := n) (m := m) (by omega) (by omega)
    omega
  · rw [e] at h h2 ⊢
    have g := dz_p2g (t := 4176) (n := n) (m := m) (by omega) (by omega)
    omega
  · rw [e] at h h2 ⊢
    have g := dz_p2g (t := 5328) (n := n) (m := m) (by omega) (by omega)
    omega
  · rw [e] at h h2 ⊢
    have g := dz_p2g (t := 6624) (n := n) (m := m) (by omega) (by omega)
    omega
  · rw [e] at h h2 ⊢
    have g := dz_p2g (t := 8064) (n := n) (m := m) (by omega) (by omega)
    omega
theorem dz_needTc {fr bars : Int32} {n : Nat} (h0 : 0 ≤ bars.toInt) (h1 : bars.toInt ≤ 10) : dz_needT fr bars n = 0 ∨ ((n : Int) < dz_kn bars ∧ ((dz_needT fr bars n : Nat) : Int) = dz_kn bars) := by
  have z := dz_l0'
  have o : (1 : Int32).toInt = 1 := by decide
  have w : (2 : Int32).toInt = 2 := by decide
  have q : (144 : Int32).toInt = 144 := by decide
  have e1 := dz_add (a := bars) (b := 1) (by omega) (by omega)
  have e2 := dz_mulb (a := bars) (b := bars + 1) 10 11 h0 h1 (by omega) (by omega) (by decide)
  have e3 := dz_divn (a := bars * (bars + 1)) (b := 2) 2 (by omega) w (by decide)
  have e4 := dz_add (a := 1) (b := bars * (bars + 1) / 2) (by omega) (by omega)
  have e5 := dz_mulr (a := 1 + bars * (bars + 1) / 2) (b := 144) 144 q (by omega) (by omega)
  have t := dz_tn ((1 + bars * (bars + 1) / 2) * 144)
  have e6 : (bars * (bars + 1)).toInt = bars.toInt * (bars.toInt + 1) := by rw [e2.1, e1, o]
  have e7 : ((1 + bars * (bars + 1) / 2) * 144).toInt = dz_kn bars := by
    unfold dz_kn
    rw [e5, e4, e3, e6, o]
    omega
  have p : 0 ≤ ((1 + bars * (bars + 1) / 2) * 144).toInt := by omega
  rw [e7] at p t
  unfold dz_needT
  split
  · split
    · exact Or.inr ⟨by omega, by omega⟩
    · exact Or.inl rfl
  · exact Or.inl rfl
theorem dz_needCc {total : Int32} {n : Nat} (h0 : 0 ≤ total.toInt) (h1 : total.toInt ≤ 13824) : dz_needC total n = 0 ∨ ((n : Int) < total.toInt ∧ ((dz_needC total n : Nat) : Int) = 2 * total.toInt) := by
  obtain ⟨a, b, c⟩ := dz_needCb (n := n) h0 h1
  by_cases h : (n : Int) < total.toInt
  · exact Or.inr ⟨h, b h⟩
  · exact Or.inl (c (by omega))
theorem dz_TT {R : Type} {o : Option R} {P Q : R → Prop} (h : dz_T o P) (k : dz_T o Q) : dz_T o (fun r => P r ∧ Q r) := by
  obtain ⟨r, a, b⟩ := h
  obtain ⟨r2, a2, b2⟩ := k
  rw [a] at a2
  cases a2
  exact ⟨r, a, b, b2⟩
theorem dz_zU {n m : Nat} (h : n ≤ m) : 0 + n ≤ m := by omega
theorem dz_Pbe {S R : Type} {o o' : Option S} {f : S → Option R} {Q : R → Prop} (e : o = o') (h : dz_P (o'.bind f) Q) : dz_P (o.bind f) Q := by rw [e]; exact h
theorem dz_Psb {S R : Type} {x : S} {f : S → Option R} {Q : R → Prop} (h : dz_P (f x) Q) : dz_P ((some x).bind f) Q := h
