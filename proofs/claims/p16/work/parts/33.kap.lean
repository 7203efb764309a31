/-! the configurations: groups and pots -/
def dz_kg (k : Nat) : Nat := [2, 2, 2, 2, 2, 3, 3, 3, 3, 3, 4, 4, 4, 4].getD k 0
def dz_kp (k : Nat) : Nat := [0, 1, 2, 3, 4, 0, 1, 2, 3, 4, 0, 1, 2, 3].getD k 0
def dz_kr (k : Nat) : Nat := [2, 2, 2, 2, 2, 6, 6, 6, 6, 6, 24, 24, 24, 24].getD k 0
def dz_kt (k : Nat) : Nat := [1, 2, 4, 8, 16, 1, 6, 36, 216, 1296, 1, 24, 576, 13824].getD k 0
def dz_ke (k : Nat) : Nat := [3, 3, 3, 3, 3, 63, 63, 63, 63, 63, 16777215, 16777215, 16777215, 16777215].getD k 0
def dz_kw (k : Nat) : Nat := [1, 1, 1, 1, 1, 3, 3, 3, 3, 3, 6, 6, 6, 6].getD k 0
def dz_km (k : Nat) : Nat := [0, 2, 4, 6, 8, 0, 3, 6, 9, 12, 0, 4, 8, 12].getD k 0
def dz_kS (k : Nat) : List Int := [[], [1], [2, 1], [4, 2, 1], [8, 4, 2, 1], [], [1], [6, 1], [36, 6, 1], [216, 36, 6, 1], [], [1], [24, 1], [576, 24, 1]].getD k []
def dz_kF (k : Nat) : List Int := [[0], [0, 1], [0, 1, 3], [0, 1, 3, 7], [0, 1, 3, 7, 15], [0], [0, 1], [0, 1, 7], [0, 1, 7, 43], [0, 1, 7, 43, 259], [0], [0, 1], [0, 1, 25], [0, 1, 25, 601]].getD k []
theorem dz_kall {P : Nat → Prop} (h : ∀ c : Fin 14, P c.val) {k : Nat} (hk : k < 14) : P k := h ⟨k, hk⟩
theorem dz_kp4 {κ : Nat} (hκ : κ < 14) : dz_kp κ ≤ 4 := dz_kall (P := fun k => dz_kp k ≤ 4) (by decide) hκ
theorem dz_kt4 {κ : Nat} (hκ : κ < 14) : 1 ≤ dz_kt κ ∧ dz_kt κ ≤ 13824 := dz_kall (P := fun k => 1 ≤ dz_kt k ∧ dz_kt k ≤ 13824) (by decide) hκ
theorem dz_kSl {κ : Nat} (hκ : κ < 14) : (dz_kS κ).length = dz_kp κ ∧ ∀ x ∈ dz_kS κ, 1 ≤ x ∧ x ≤ 13824 := dz_kall (P := fun k => (dz_kS k).length = dz_kp k ∧ ∀ x ∈ dz_kS k, 1 ≤ x ∧ x ≤ 13824) (by decide) hκ
theorem dz_kSat {κ : Nat} {a : Nat → Int32} (h : dz_pt a (dz_kS κ)) {i : Int32} (hκ : κ < 14) (h0 : 0 ≤ i.toInt) (h1 : i.toInt < ((dz_kp κ : Nat) : Int)) : 1 ≤ (a i.toNatClampNeg).toInt ∧ (a i.toNatClampNeg).toInt ≤ 13824 :=
  dz_ptrg h 1 13824 (dz_kSl hκ).2 h0 (by rw [(dz_kSl hκ).1]; exact h1)
theorem dz_pmsk {κ : Nat} (hκ : κ < 14) {g : Nat → Int32} : dz_pm (va_cpy jw_s0 g (0 : Int32).toNatClampNeg (0 : Int32).toNatClampNeg (4 : Int32).toNatClampNeg) (dz_kp κ) := by
  have h := dz_kp4 hκ
  rcases (show dz_kp κ = 0 ∨ dz_kp κ = 1 ∨ dz_kp κ = 2 ∨ dz_kp κ = 3 ∨ dz_kp κ = 4 by omega) with e | e | e | e | e <;> rw [e]
  · exact dz_pms0
  · exact dz_pms1
  · exact dz_pms2
  · exact dz_pms3
  · exact dz_pms4
theorem dz_kfull {κ : Nat} (hκ : κ < 14) {o g : Int32} (h0 : 0 ≤ o.toInt) (h1 : o.toInt ≤ ((dz_km κ : Nat) : Int)) (hg : g.toInt = ((dz_kg κ : Nat) : Int)) : (o / g).toInt ≤ ((dz_kp κ : Nat) : Int) ∧ 0 ≤ (o / g).toInt ∧ (o.toInt < ((dz_km κ : Nat) : Int) → (o / g).toInt < ((dz_kp κ : Nat) : Int)) := by
  have h := dz_kall (P := fun k => dz_km k = dz_kg k * dz_kp k ∧ 0 < dz_kg k ∧ dz_kg k ≤ 4 ∧ dz_kp k ≤ 4) (by decide) hκ
  have d := dz_divv (a := o) (b := g) h0 (by omega)
  have e := dz_ediv h0 (show 0 < g.toInt by omega)
  have h2 : o.toInt / g.toInt ≤ ((dz_kp κ : Nat) : Int) := by
    apply Int.ediv_le_of_le_mul (by omega)
    rw [hg]
    have : ((dz_km κ : Nat) : Int) = ((dz_kp κ : Nat) : Int) * ((dz_kg κ : Nat) : Int) := by rw [h.1, Int.natCast_mul, Int.mul_comm]
    omega
  refine ⟨by omega, by omega, fun hl => ?_⟩
  have h3 : o.toInt / g.toInt < ((dz_kp κ : Nat) : Int) := by
    apply Int.ediv_lt_of_lt_mul (by omega)
    rw [hg]
    have : ((dz_km κ : Nat) : Int) = ((dz_kp κ : Nat) : Int) * ((dz_kg κ : Nat) : Int) := by rw [h.1, Int.natCast_mul, Int.mul_comm]
    omega
  omega
theorem dz_ptr {a : Nat → Int32} {xs : List Int} {n : Nat} {lo hi : Int} (h : dz_pt a xs) (hx : ∀ x ∈ xs, lo ≤ x ∧ x ≤ hi) (hl : True) (hn : n ≤ xs.length) : dz_rg a n lo hi := fun k hk => by
  have hl : k < xs.length := by omega
  rw [h k xs[k] (List.getElem?_eq_getElem hl)]
  exact hx _ (List.getElem_mem hl)
theorem dz_kr4 {κ : Nat} (hκ : κ < 14) : 2 ≤ dz_kr κ ∧ dz_kr κ ≤ 24 := dz_kall (P := fun k => 2 ≤ dz_kr k ∧ dz_kr k ≤ 24) (by decide) hκ
theorem dz_kteam {κ : Nat} (hκ : κ < 14) {o g : Int32} (hg : g.toInt = ((dz_kg κ : Nat) : Int)) : 0 ≤ o.toInt → o.toInt < ((dz_km κ : Nat) : Int) → (o / g).toInt < ((dz_kp κ : Nat) : Int) ∧ 0 ≤ (o / g).toInt := fun h0 h1 => by
  have h := dz_kfull hκ (o := o) (g := g) h0 (by omega) hg
  exact ⟨h.2.2 h1, h.2.1⟩
