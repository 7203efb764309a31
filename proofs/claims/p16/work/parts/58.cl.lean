/-- the class: lemmas behind the reference's -/
theorem dz_mulc {a b : Int32} (L A M B : Int) (L0 : 0 ≤ L) (M0 : 0 ≤ M) (a0 : L ≤ a.toInt) (a1 : a.toInt ≤ A) (b0 : M ≤ b.toInt) (b1 : b.toInt ≤ B) (h : A * B ≤ 2147483647) : (a * b).toInt = a.toInt * b.toInt ∧ L * M ≤ (a * b).toInt ∧ (a * b).toInt ≤ A * B := by
  have h2 : L * M ≤ a.toInt * b.toInt := Int.mul_le_mul a0 b0 M0 (by omega)
  have h5 : 0 ≤ L * M := Int.mul_nonneg L0 M0
  have h3 : a.toInt * b.toInt ≤ A * B := Int.mul_le_mul a1 b1 (by omega) (by omega)
  have h4 := dz_mul (a := a) (b := b) (by omega) (by omega)
  exact ⟨h4, by omega, by omega⟩
theorem dz_rr3 (x y : Int32) : 0 ≤ ((dz_ush x y) &&& 3).toInt ∧ ((dz_ush x y) &&& 3).toInt ≤ 3 := by
  generalize dz_ush x y = z
  have h3 : (z &&& 3).toBitVec.toNat = z.toBitVec.toNat &&& (3 : Int32).toBitVec.toNat := BitVec.toNat_and _ _
  have h4 : z.toBitVec.toNat &&& (3 : Int32).toBitVec.toNat ≤ (3 : Int32).toBitVec.toNat := Nat.and_le_right
  have h5 : (3 : Int32).toBitVec.toNat = 3 := by decide
  have h2 := BitVec.toInt_eq_toNat_cond (z &&& 3).toBitVec
  have h6 : (z &&& 3).toInt = (z &&& 3).toBitVec.toInt := rfl
  rw [h6]
  split at h2 <;> omega
theorem dz_rrs (fu : Nat) (v0 v1 v3 v4 : Int32) (a : Nat → Int32) (k : Nat) (h1 : v4.toInt < v1.toInt) (h2 : v4.toInt < 4) (h0 : 0 ≤ v4.toInt) :
    (F126_X4_readRow fu (k + 1)).1 v0 v1 v3 v4 a = (F126_X4_readRow fu k).1 v0 v1 (v3 ||| ((1 : Int32) <<< (((dz_ush v0 ((2 : Int32) * ((v1 - 1) - v4))) &&& 3) &&& 31))) (v4 + 1) (upd a v4.toNatClampNeg ((dz_ush v0 ((2 : Int32) * ((v1 - 1) - v4))) &&& 3)) := by
  show s126_X4_readRow_1 fu (F126_X4_readRow fu k).1 (F126_X4_readRow fu k).2 v0 v1 v3 v4 a = _
  unfold s126_X4_readRow_1
  have e4 : (4 : Int32).toInt = 4 := by decide
  have hin : dz_in v4 4 := by
    intro h
    rcases h with h | h
    · have := Int32.lt_iff_toInt_lt.mp h; have e0 : (0 : Int32).toInt = 0 := by decide
      omega
    · have : v4.toNatClampNeg = v4.toInt.toNat := rfl
      omega
  rw [if_neg (fun h => by have := Int32.le_iff_toInt_le.mp h; omega), if_neg (fun h => by have := Int32.le_iff_toInt_le.mp h; omega), if_pos hin, if_pos hin]
  have eu : ∀ d : Int32, (upd a v4.toNatClampNeg d) v4.toNatClampNeg = d := fun d => by simp [upd]
  rw [eu]
theorem dz_rre (fu : Nat) (v0 v1 v3 v4 : Int32) (a : Nat → Int32) (k : Nat) (h1 : v1.toInt ≤ v4.toInt) {Q : Int32 × (Nat → Int32) → Prop} (q1 : v3.toInt = (((1 : Int32) <<< (v1 &&& 31)) - 1).toInt → Q (1, a)) (q2 : Q (0, a)) :
    dz_T ((F126_X4_readRow fu (k + 2)).1 v0 v1 v3 v4 a) Q := by
  show dz_T (s126_X4_readRow_1 fu _ (s126_X4_readRow_2 fu) v0 v1 v3 v4 a) Q
  unfold s126_X4_readRow_1
  rw [if_pos (Int32.le_iff_toInt_le.mpr h1)]
  unfold s126_X4_readRow_2
  by_cases h : v3 = ((1 : Int32) <<< (v1 &&& 31)) - 1
  · rw [if_pos h]; exact ⟨_, rfl, q1 (by rw [h])⟩
  · rw [if_neg h]; exact ⟨_, rfl, q2⟩
theorem dz_pm00 (a : Nat → Int32) : dz_pm a 0 := ⟨[], by simp [dz_perms], fun k x h => by simp at h⟩
theorem t126_X4_readRow_m (fu : Nat) (hfu : 1000000000000 ≤ fu) (v0 : Int32) (v1 : Int32) (a266 : Nat → Int32) (p : Nat) (hp : p ≤ 4) (hv : v1.toInt = (p : Int)) (hr : dz_rg a266 4 0 3) : dz_T (f126_X4_readRow fu v0 v1 a266) (fun r => r.1.toInt ≤ 1 ∧ 0 ≤ r.1.toInt ∧ dz_rg r.2 4 0 3 ∧ (r.1.toInt = 0 ∨ dz_pm r.2 p)) := by
  obtain ⟨k, hk⟩ : ∃ k, fu = k + 6 := ⟨fu - 6, by omega⟩
  have l1 : (1 : Int32).toInt = 1 := by decide
  have l0 : (0 : Int32).toInt = 0 := by decide
  have m1 : (1 : Int32).toInt ≤ 1 := by decide
  have m2 : 0 ≤ (1 : Int32).toInt := by decide
  have m3 : (0 : Int32).toInt ≤ 1 := by decide
  have m4 : 0 ≤ (0 : Int32).toInt := by decide
  have j0 : ((0 : Int32)).toInt = 0 := by decide
  have j1 : ((0 : Int32) + 1).toInt = 1 := by decide
  have j2 : ((0 : Int32) + 1 + 1).toInt = 2 := by decide
  have j3 : ((0 : Int32) + 1 + 1 + 1).toInt = 3 := by decide
  have j4 : ((0 : Int32) + 1 + 1 + 1 + 1).toInt = 4 := by decide
  suffices ∀ n, n = k + 6 → dz_T ((F126_X4_readRow fu n).1 v0 v1 0 0 a266) (fun r => r.1.toInt ≤ 1 ∧ 0 ≤ r.1.toInt ∧ dz_rg r.2 4 0 3 ∧ (r.1.toInt = 0 ∨ dz_pm r.2 p)) from this fu hk
  intro n hn
  subst hn
  rcases (show p = 0 ∨ p = 1 ∨ p = 2 ∨ p = 3 ∨ p = 4 by omega) with rfl | rfl | rfl | rfl | rfl
  · refine dz_rre _ _ _ _ _ _ _ (by omega) (fun h => ⟨m1, m2, hr, Or.inr (dz_pm00 _)⟩) ⟨m3, m4, hr, Or.inl l0⟩
  · rw [dz_rrs _ _ _ _ _ _ _ (by omega) (by omega) (by omega)]
    refine dz_rre _ _ _ _ _ _ _ (by omega) (fun h => ⟨m1, m2, dz_rgu (hr) (dz_rr3 _ _).1 (dz_rr3 _ _).2, Or.inr (dz_pmk1 _ v1 (dz_rr3 _ _) j0 rfl (by omega) h)⟩) ⟨m3, m4, dz_rgu (hr) (dz_rr3 _ _).1 (dz_rr3 _ _).2, Or.inl l0⟩
  · rw [dz_rrs _ _ _ _ _ _ _ (by omega) (by omega) (by omega)]
    rw [dz_rrs _ _ _ _ _ _ _ (by omega) (by omega) (by omega)]
    refine dz_rre _ _ _ _ _ _ _ (by omega) (fun h => ⟨m1, m2, dz_rgu (dz_rgu (hr) (dz_rr3 _ _).1 (dz_rr3 _ _).2) (dz_rr3 _ _).1 (dz_rr3 _ _).2, Or.inr (dz_pmk2 _ _ v1 (dz_rr3 _ _) j0 rfl (dz_rr3 _ _) j1 rfl (by omega) h)⟩) ⟨m3, m4, dz_rgu (dz_rgu (hr) (dz_rr3 _ _).1 (dz_rr3 _ _).2) (dz_rr3 _ _).1 (dz_rr3 _ _).2, Or.inl l0⟩
  · rw [dz_rrs _ _ _ _ _ _ _ (by omega) (by omega) (by omega)]
    rw [dz_rrs _ _ _ _ _ _ _ (by omega) (by omega) (by omega)]
    rw [dz_rrs _ _ _ _ _ _ _ (by omega) (by omega) (by omega)]
    refine dz_rre _ _ _ _ _ _ _ (by omega) (fun h => ⟨m1, m2, dz_rgu (dz_rgu (dz_rgu (hr) (dz_rr3 _ _).1 (dz_rr3 _ _).2) (dz_rr3 _ _).1 (dz_rr3 _ _).2) (dz_rr3 _ _).1 (dz_rr3 _ _).2, Or.inr (dz_pmk3 _ _ _ v1 (dz_rr3 _ _) j0 rfl (dz_rr3 _ _) j1 rfl (dz_rr3 _ _) j2 rfl (by omega) h)⟩) ⟨m3, m4, dz_rgu (dz_rgu (dz_rgu (hr) (dz_rr3 _ _).1 (dz_rr3 _ _).2) (dz_rr3 _ _).1 (dz_rr3 _ _).2) (dz_rr3 _ _).1 (dz_rr3 _ _).2, Or.inl l0⟩
  · rw [dz_rrs _ _ _ _ _ _ _ (by omega) (by omega) (by omega)]
    rw [dz_rrs _ _ _ _ _ _ _ (by omega) (by omega) (by omega)]
    rw [dz_rrs _ _ _ _ _ _ _ (by omega) (by omega) (by omega)]
    rw [dz_rrs _ _ _ _ _ _ _ (by omega) (by omega) (by omega)]
    refine dz_rre _ _ _ _ _ _ _ (by omega) (fun h => ⟨m1, m2, dz_rgu (dz_rgu (dz_rgu (dz_rgu (hr) (dz_rr3 _ _).1 (dz_rr3 _ _).2) (dz_rr3 _ _).1 (dz_rr3 _ _).2) (dz_rr3 _ _).1 (dz_rr3 _ _).2) (dz_rr3 _ _).1 (dz_rr3 _ _).2, Or.inr (dz_pmk4 _ _ _ _ v1 (dz_rr3 _ _) j0 rfl (dz_rr3 _ _) j1 rfl (dz_rr3 _ _) j2 rfl (dz_rr3 _ _) j3 rfl (by omega) h)⟩) ⟨m3, m4, dz_rgu (dz_rgu (dz_rgu (dz_rgu (hr) (dz_rr3 _ _).1 (dz_rr3 _ _).2) (dz_rr3 _ _).1 (dz_rr3 _ _).2) (dz_rr3 _ _).1 (dz_rr3 _ _).2) (dz_rr3 _ _).1 (dz_rr3 _ _).2, Or.inl l0⟩
/-- the bars' table -/
def dz_kn (b : Int32) : Int := 144 * (1 + b.toInt * (b.toInt + 1) / 2)
theorem dz_b11 {P : Int32 → Prop} (h : ∀ k : Fin 11, P (Int32.ofNat k.val)) {b : Int32} (b0 : 0 ≤ b.toInt) (b1 : b.toInt ≤ 10) : P b := by
  have e : b = Int32.ofNat b.toInt.toNat := by
    apply Int32.toInt_inj.mp
    have w := (by decide : ∀ k : Fin 11, (Int32.ofNat k.val).toInt = (k.val : Int)) ⟨b.toInt.toNat, by omega⟩
    simp only at w
    rw [w]; omega
  have w := h ⟨b.toInt.toNat, by omega⟩
  simp only at w
  rw [← e] at w
  exact w
theorem dz_kn8 {b : Int32} (b0 : 0 ≤ b.toInt) (b1 : b.toInt ≤ 10) : 144 ≤ dz_kn b ∧ dz_kn b ≤ 8064 := dz_b11 (P := fun b => 144 ≤ dz_kn b ∧ dz_kn b ≤ 8064) (by decide) b0 b1
theorem dz_fkb {b : Int32} (b0 : 0 ≤ b.toInt) (b1 : b.toInt ≤ 10) : ((1 : Int32) + ((b * (b + 1)) / 2)).toInt ≤ 56 ∧ 1 ≤ ((1 : Int32) + ((b * (b + 1)) / 2)).toInt ∧ 144 * ((1 : Int32) + ((b * (b + 1)) / 2)).toInt = dz_kn b := dz_b11 (P := fun b => ((1 : Int32) + ((b * (b + 1)) / 2)).toInt ≤ 56 ∧ 1 ≤ ((1 : Int32) + ((b * (b + 1)) / 2)).toInt ∧ 144 * ((1 : Int32) + ((b * (b + 1)) / 2)).toInt = dz_kn b) (by decide) b0 b1
theorem t273_X0_firstKind_b (fu : Nat) (hfu : 1000000000000 ≤ fu) (v0 : Int32) (b0 : 0 ≤ v0.toInt) (b1 : v0.toInt ≤ 10) : dz_T (f273_X0_firstKind fu v0) (fun r => r.toInt ≤ 56 ∧ 1 ≤ r.toInt ∧ 144 * r.toInt = dz_kn v0) := ⟨_, rfl, dz_fkb b0 b1⟩
theorem dz_knm {h b : Int32} (h0 : 0 ≤ h.toInt) (hb : h.toInt < b.toInt) (b1 : b.toInt ≤ 10) : dz_kn h + 144 * (h.toInt + 1) ≤ dz_kn b :=
  dz_b11 (P := fun b => ∀ h : Int32, 0 ≤ h.toInt → h.toInt ≤ 10 → h.toInt < b.toInt → dz_kn h + 144 * (h.toInt + 1) ≤ dz_kn b) (fun k => fun h h0 h1 => dz_b11 (P := fun h => h.toInt < (Int32.ofNat k.val).toInt → dz_kn h + 144 * (h.toInt + 1) ≤ dz_kn (Int32.ofNat k.val)) (fun j => (by decide : ∀ k : Fin 11, ∀ j : Fin 11, (Int32.ofNat j.val).toInt < (Int32.ofNat k.val).toInt → dz_kn (Int32.ofNat j.val) + 144 * ((Int32.ofNat j.val).toInt + 1) ≤ dz_kn (Int32.ofNat k.val)) k j) h0 h1) (by omega) b1 h h0 (by omega) hb
theorem t275_X0_kindOf_b (fu : Nat) (hfu : 1000000000000 ≤ fu) (v0 v1 : Int32) (b : Int32) (b0 : 0 ≤ b.toInt) (b1 : b.toInt ≤ 10) (l0 : -1 ≤ v0.toInt) (l1 : v0.toInt < b.toInt ∨ v0.toInt = -1) (hh : v1.toInt = -1 ∨ (0 ≤ v0.toInt ∧ v0.toInt < v1.toInt ∧ v1.toInt < b.toInt)) : dz_T (f275_X0_kindOf fu v0 v1) (fun r => r.toInt ≤ 55 ∧ 0 ≤ r.toInt ∧ 144 * r.toInt + 144 ≤ dz_kn b) := by
  have km := dz_kn8 b0 b1
  have lm : (-1 : Int32).toInt = -1 := by decide
  have l1' : (1 : Int32).toInt = 1 := by decide
  unfold f275_X0_kindOf s275_X0_kindOf_0
  by_cases h : v0 = -1
  · rw [if_pos h]
    have z : (0 : Int32).toInt = 0 := by decide
    exact ⟨_, rfl, by omega, by omega, by omega⟩
  · rw [if_neg h]
    have hv : v0.toInt ≠ -1 := fun e => h (Int32.toInt_inj.mp (by omega))
    by_cases g : v1 = -1
    · rw [if_pos g]
      obtain ⟨r, hr, q⟩ := t273_X0_firstKind_b fu hfu v0 (by omega) (by omega)
      rw [hr]
      have m := dz_knm (h := v0) (b := b) (by omega) (by omega) b1
      exact ⟨_, rfl, by omega, by omega, by omega⟩
    · rw [if_neg g]
      have gv : v1.toInt ≠ -1 := fun e => g (Int32.toInt_inj.mp (by omega))
      obtain ⟨r, hr, q⟩ := t273_X0_firstKind_b fu hfu v1 (by omega) (by omega)
      rw [hr]
      have m := dz_knm (h := v1) (b := b) (by omega) (by omega) b1
      have e1 := dz_add (a := r) (b := 1) (by omega) (by omega)
      have e2 := dz_add (a := r + 1) (b := v0) (by omega) (by omega)
      exact ⟨_, rfl, by omega, by omega, by omega⟩
theorem dz_needTk {fr bars : Int32} {n : Nat} (b0 : 0 ≤ bars.toInt) (b1 : bars.toInt ≤ 10) : (fr.toInt = 0 → (n : Int) < dz_kn bars → ((dz_needT fr bars n : Nat) : Int) = dz_kn bars) := by
  intro h0 h1
  have f := dz_fkb b0 b1
  have l144 : (144 : Int32).toInt = 144 := by decide
  have m := dz_mulr (a := (1 : Int32) + ((bars * (bars + 1)) / 2)) (b := 144) 144 l144 (by omega) (by omega)
  have t := dz_needTe (fr := fr) (bars := bars) (n := n) h0 (by omega)
  rw [t]
  have c := dz_tn (((1 : Int32) + ((bars * (bars + 1)) / 2)) * 144)
  omega
