/-! the reference's stage -/
def dz_ap (a50 a54 a55 : Nat → Int32) (c m : Nat) : Prop := ∀ k, k < m → (a50 (12 * c + (a54 k).toInt.toNat)).toInt = (a55 k).toInt
theorem dz_ap0 {a50 a54 a55 : Nat → Int32} {c m : Nat} (h : m = 0) : dz_ap a50 a54 a55 c m := fun k hk => by omega
theorem dz_apm {a50 a54 a55 : Nat → Int32} {c m n : Nat} (h : dz_ap a50 a54 a55 c m) (e : n ≤ m) : dz_ap a50 a54 a55 c n := fun k hk => h k (by omega)
theorem dz_apx {a50 a54 : Nat → Int32} {c k : Int32} (c0 : 0 ≤ c.toInt) (c1 : c.toInt ≤ 13823) (b0 : 0 ≤ (a54 k.toNatClampNeg).toInt) (b1 : (a54 k.toNatClampNeg).toInt ≤ 11) : a50 (((12 : Int32) * c) + (a54 k.toNatClampNeg)).toNatClampNeg = a50 (12 * c.toInt.toNat + (a54 k.toNatClampNeg).toInt.toNat) := by
  have l : (12 : Int32).toInt = 12 := by decide
  have e1 := dz_mull (a := 12) (b := c) 12 l (by omega) (by omega)
  have e2 := dz_add (a := 12 * c) (b := a54 k.toNatClampNeg) (by omega) (by omega)
  have t := dz_tn (((12 : Int32) * c) + (a54 k.toNatClampNeg))
  rw [show (((12 : Int32) * c) + (a54 k.toNatClampNeg)).toNatClampNeg = 12 * c.toInt.toNat + (a54 k.toNatClampNeg).toInt.toNat by omega]
theorem dz_aps {a50 a54 a55 : Nat → Int32} {c k k' : Int32} (h : dz_ap a50 a54 a55 c.toInt.toNat k.toInt.toNat) (c0 : 0 ≤ c.toInt) (c1 : c.toInt ≤ 13823) (b0 : 0 ≤ (a54 k.toNatClampNeg).toInt) (b1 : (a54 k.toNatClampNeg).toInt ≤ 11) (k0 : 0 ≤ k.toInt) (e : k'.toInt = k.toInt + 1) (q : (a50 (((12 : Int32) * c) + (a54 k.toNatClampNeg)).toNatClampNeg).toInt = (a55 k.toNatClampNeg).toInt) : dz_ap a50 a54 a55 c.toInt.toNat k'.toInt.toNat := fun j hj => by
  rw [dz_apx (a50 := a50) c0 c1 b0 b1] at q
  have t := dz_tn k
  by_cases w : j = k.toNatClampNeg
  · rw [w]; exact q
  · exact h j (by omega)
theorem dz_apn {a50 a54 a55 : Nat → Int32} {c k m : Int32} (c0 : 0 ≤ c.toInt) (c1 : c.toInt ≤ 13823) (b0 : 0 ≤ (a54 k.toNatClampNeg).toInt) (b1 : (a54 k.toNatClampNeg).toInt ≤ 11) (k0 : 0 ≤ k.toInt) (e : k.toInt < m.toInt) (q : (a50 (((12 : Int32) * c) + (a54 k.toNatClampNeg)).toNatClampNeg).toInt ≠ (a55 k.toNatClampNeg).toInt) : ¬ dz_ap a50 a54 a55 c.toInt.toNat m.toInt.toNat := fun h => by
  rw [dz_apx (a50 := a50) c0 c1 b0 b1] at q
  have t := dz_tn k
  exact q (h k.toNatClampNeg (by omega))
def dz_nt (a : Nat → Int32) (t : Int32) (m : Nat) : Prop := ∀ k, k < m → (a k).toInt ≠ t.toInt
theorem dz_nt0 {a : Nat → Int32} {t : Int32} {m : Nat} (h : m = 0) : dz_nt a t m := fun k hk => by omega
theorem dz_ntm {a : Nat → Int32} {t : Int32} {m n : Nat} (h : dz_nt a t m) (e : n ≤ m) : dz_nt a t n := fun k hk => h k (by omega)
theorem dz_nts {a : Nat → Int32} {t k k' : Int32} (h : dz_nt a t k.toInt.toNat) (k0 : 0 ≤ k.toInt) (e : k'.toInt = k.toInt + 1) (q : (a k.toNatClampNeg).toInt ≠ t.toInt) : dz_nt a t k'.toInt.toNat := fun j hj => by
  have w := dz_tn k
  by_cases r : j = k.toNatClampNeg
  · rw [r]; exact q
  · exact h j (by omega)
/-- some lawful draw as placed, with a team in a group -/
def dz_sc (a49 a50 a54 a55 : Nat → Int32) (t g : Int32) (m c : Nat) : Prop := (a49 c).toInt = 0 ∧ (a50 (12 * c + t.toInt.toNat)).toInt = g.toInt ∧ dz_ap a50 a54 a55 c m
def dz_sw (n : Nat) (a49 a50 a54 a55 : Nat → Int32) (t g : Int32) (m : Nat) : Prop := ∃ c, c < n ∧ dz_sc a49 a50 a54 a55 t g m c
def dz_bl (G : Int) (a54 a55 : Nat → Int32) (t g : Int32) (m : Nat) : Prop := ∃ k, k < m ∧ (a54 k).toInt / G = t.toInt / G ∧ (a55 k).toInt = g.toInt
def dz_nw (n : Nat) (a49 a50 a54 a55 : Nat → Int32) (t g : Int32) (m : Nat) : Prop := ∀ c, c < n → ¬ dz_sc a49 a50 a54 a55 t g m c
theorem dz_nw0 {n : Nat} {a49 a50 a54 a55 : Nat → Int32} {t g : Int32} {m : Nat} (h : n = 0) : dz_nw n a49 a50 a54 a55 t g m := fun c hc => by omega
theorem dz_scx {a50 : Nat → Int32} {c t : Int32} (c0 : 0 ≤ c.toInt) (c1 : c.toInt ≤ 13823) (b0 : 0 ≤ t.toInt) (b1 : t.toInt ≤ 11) : a50 (((12 : Int32) * c) + t).toNatClampNeg = a50 (12 * c.toInt.toNat + t.toInt.toNat) := by
  have l : (12 : Int32).toInt = 12 := by decide
  have e1 := dz_mull (a := 12) (b := c) 12 l (by omega) (by omega)
  have e2 := dz_add (a := 12 * c) (b := t) (by omega) (by omega)
  have w := dz_tn (((12 : Int32) * c) + t)
  rw [show (((12 : Int32) * c) + t).toNatClampNeg = 12 * c.toInt.toNat + t.toInt.toNat by omega]
theorem dz_nws {a49 a50 a54 a55 : Nat → Int32} {t g c c' : Int32} {m : Nat} (h : dz_nw c.toInt.toNat a49 a50 a54 a55 t g m) (c0 : 0 ≤ c.toInt) (e : c'.toInt = c.toInt + 1) (q : ¬ dz_sc a49 a50 a54 a55 t g m c.toInt.toNat) : dz_nw c'.toInt.toNat a49 a50 a54 a55 t g m := fun j hj => by
  by_cases r : j = c.toInt.toNat
  · rw [r]; exact q
  · exact h j (by omega)
theorem dz_sn1 {a49 a50 a54 a55 : Nat → Int32} {t g c : Int32} {m : Nat} (c0 : 0 ≤ c.toInt) (q : (a49 c.toNatClampNeg).toInt ≠ 0) : ¬ dz_sc a49 a50 a54 a55 t g m c.toInt.toNat := fun h => q (by rw [dz_tn]; exact h.1)
theorem dz_sn2 {a49 a50 a54 a55 : Nat → Int32} {t g c : Int32} {m : Nat} (c0 : 0 ≤ c.toInt) (c1 : c.toInt ≤ 13823) (b0 : 0 ≤ t.toInt) (b1 : t.toInt ≤ 11) (q : (a50 (((12 : Int32) * c) + t).toNatClampNeg).toInt ≠ g.toInt) : ¬ dz_sc a49 a50 a54 a55 t g m c.toInt.toNat := fun h => q (by rw [dz_scx (a50 := a50) c0 c1 b0 b1]; exact h.2.1)
theorem dz_sn3 {a49 a50 a54 a55 : Nat → Int32} {t g c : Int32} {m : Nat} (q : ¬ dz_ap a50 a54 a55 c.toInt.toNat m) : ¬ dz_sc a49 a50 a54 a55 t g m c.toInt.toNat := fun h => q h.2.2
theorem dz_swi {n : Nat} {a49 a50 a54 a55 : Nat → Int32} {t g c : Int32} {m : Nat} (c0 : 0 ≤ c.toInt) (cn : c.toInt < (n : Int)) (c1 : c.toInt ≤ 13823) (b0 : 0 ≤ t.toInt) (b1 : t.toInt ≤ 11) (q1 : (a49 c.toNatClampNeg).toInt = 0) (q2 : (a50 (((12 : Int32) * c) + t).toNatClampNeg).toInt = g.toInt) (q3 : dz_ap a50 a54 a55 c.toInt.toNat m) : dz_sw n a49 a50 a54 a55 t g m := ⟨c.toInt.toNat, by omega, by rw [← dz_tn]; exact q1, by rw [← dz_scx (a50 := a50) c0 c1 b0 b1]; exact q2, q3⟩
theorem dz_swn {n k : Nat} {a49 a50 a54 a55 : Nat → Int32} {t g : Int32} {m : Nat} (h : dz_nw k a49 a50 a54 a55 t g m) (e : n ≤ k) : ¬ dz_sw n a49 a50 a54 a55 t g m := fun ⟨c, hc, hs⟩ => h c (by omega) hs
theorem dz_bli {G : Int32} {a54 a55 : Nat → Int32} {t g k m : Int32} (k0 : 0 ≤ k.toInt) (km : k.toInt < m.toInt) (g0 : 0 < G.toInt) (b0 : 0 ≤ (a54 k.toNatClampNeg).toInt) (t0 : 0 ≤ t.toInt) (q1 : ((a54 k.toNatClampNeg) / G).toInt = (t / G).toInt) (q2 : (a55 k.toNatClampNeg).toInt = g.toInt) : dz_bl G.toInt a54 a55 t g m.toInt.toNat := by
  rw [(dz_divv b0 g0).1, (dz_divv t0 g0).1] at q1
  exact ⟨k.toNatClampNeg, by have := dz_tn k; omega, q1, q2⟩
/-- balls that are unlike -/
theorem dz_php : ∀ (n : Nat) (f : Nat → Nat), (∀ k, k < n + 1 → f k < n) → (∀ j k, j < k → k < n + 1 → f j ≠ f k) → False := by
  intro n
  induction n with
  | zero => intro f h _; have := h 0 (by omega); omega
  | succ n ih =>
    intro f h1 h2
    apply ih (fun k => if f k = n then f (n + 1) else f k)
    · intro k hk
      have a := h1 k (by omega)
      have b := h1 (n + 1) (by omega)
      have c := h2 k (n + 1) (by omega) (by omega)
      show (if f k = n then f (n + 1) else f k) < n
      split <;> omega
    · intro j k hj hk
      have a := h2 j k hj (by omega)
      have b := h2 j (n + 1) (by omega) (by omega)
      have c := h2 k (n + 1) (by omega) (by omega)
      show (if f j = n then f (n + 1) else f j) ≠ (if f k = n then f (n + 1) else f k)
      split <;> split <;> omega
/-- the stage -/
def dz_J (κ : Nat) (lawful out : Int32) (a49 a50 a54 a55 : Nat → Int32) : Prop := out.toInt ≤ ((dz_km κ : Nat) : Int) ∧ (lawful.toInt ≠ 0 → ∃ c, c < dz_kt κ ∧ (a49 c).toInt = 0 ∧ dz_ap a50 a54 a55 c out.toInt.toNat) ∧ (∀ k, k < out.toInt.toNat → 0 ≤ (a54 k).toInt ∧ (a54 k).toInt < ((dz_km κ : Nat) : Int)) ∧ (∀ j k, j < k → k < out.toInt.toNat → (a54 j).toInt ≠ (a54 k).toInt) ∧ (out.toInt ≠ 0 → lawful.toInt ≠ 0)
theorem dz_Jl {κ : Nat} {lawful out t : Int32} {a49 a50 a54 a55 : Nat → Int32} (h : dz_J κ lawful out a49 a50 a54 a55) (o0 : 0 ≤ out.toInt) (t0 : 0 ≤ t.toInt) (t1 : t.toInt < ((dz_km κ : Nat) : Int)) (hn : dz_nt a54 t out.toInt.toNat) : out.toInt < ((dz_km κ : Nat) : Int) := by
  apply Classical.byContradiction
  intro q
  have h1 := h.1
  apply dz_php (dz_km κ) (fun k => if k < out.toInt.toNat then (a54 k).toInt.toNat else t.toInt.toNat)
  · intro k hk
    show (if k < out.toInt.toNat then (a54 k).toInt.toNat else t.toInt.toNat) < dz_km κ
    split
    · rename_i w
      have := h.2.2.1 k w
      omega
    · omega
  · intro j k hj hk
    show (if j < out.toInt.toNat then (a54 j).toInt.toNat else t.toInt.toNat) ≠ (if k < out.toInt.toNat then (a54 k).toInt.toNat else t.toInt.toNat)
    rw [if_pos (by omega)]
    split
    · rename_i w
      have a := h.2.2.2.1 j k hj w
      have b := h.2.2.1 j (by omega)
      have c := h.2.2.1 k w
      omega
    · have a := hn j (by omega)
      have b := h.2.2.1 j (by omega)
      omega
def dz_gd (n : Nat) (G : Int) (a49 a50 a54 a55 : Nat → Int32) (t g : Int32) (m : Nat) : Prop := dz_sw n a49 a50 a54 a55 t g m ∧ ¬ dz_bl G a54 a55 t g m
def dz_bx (n : Nat) (G : Int) (a49 a50 a53 a54 a55 : Nat → Int32) (t k : Int32) (m : Nat) : Prop := ∃ j : Nat, k.toInt ≤ (j : Int) ∧ (j : Int) < 4 ∧ dz_gd n G a49 a50 a54 a55 t (a53 j) m
theorem dz_bxl {n : Nat} {G : Int} {a49 a50 a53 a54 a55 : Nat → Int32} {t k : Int32} {m : Nat} (h : dz_bx n G a49 a50 a53 a54 a55 t k m) : k.toInt < 4 := by
  obtain ⟨j, h1, h2, _⟩ := h
  omega
theorem dz_bxs {n : Nat} {G : Int} {a49 a50 a53 a54 a55 : Nat → Int32} {t k k' r : Int32} {m : Nat} (h : dz_bx n G a49 a50 a53 a54 a55 t k m) (k0 : 0 ≤ k.toInt) (e : k'.toInt = k.toInt + 1) (r0 : r.toInt ≠ 0) (q : r.toInt = 0 ∨ ¬ dz_sw n a49 a50 a54 a55 t (a53 k.toNatClampNeg) m ∨ dz_bl G a54 a55 t (a53 k.toNatClampNeg) m) : dz_bx n G a49 a50 a53 a54 a55 t k' m := by
  obtain ⟨j, h1, h2, h3⟩ := h
  have w := dz_tn k
  rcases Int.lt_or_eq_of_le h1 with z | z
  · exact ⟨j, by omega, h2, h3⟩
  · exfalso
    have ej : j = k.toNatClampNeg := by omega
    rw [ej] at h3
    rcases q with q | q | q
    · exact r0 q
    · exact q h3.1
    · exact h3.2 q
theorem dz_gqat {κ c : Nat} {t : Int} {p : Nat} {a50 : Nat → Int32} (hκ : κ < 14) (h : dz_gq (dz_kg κ) (dz_kr κ) p a50 (12 * dz_kt κ)) (hp : p = dz_kp κ) (hc : c < dz_kt κ) (t0 : 0 ≤ t) (t1 : t < ((dz_km κ : Nat) : Int)) : (a50 (12 * c + t.toNat)).toInt = dz_pr (dz_kg κ) (c / dz_kr κ ^ (dz_kp κ - 1 - (t / ((dz_kg κ : Nat) : Int)).toNat) % dz_kr κ) (t % ((dz_kg κ : Nat) : Int)).toNat := by
  have hk := dz_kall (P := fun k => dz_km k = dz_kg k * dz_kp k ∧ 0 < dz_kg k ∧ dz_kp k * dz_kg k ≤ 12) (by decide) hκ
  have e := dz_ediv (a := t) (b := ((dz_kg κ : Nat) : Int)) t0 (by omega)
  obtain ⟨e1, e2, e3, e4, e5, e6, e7, e8⟩ := e
  have q1 : t / ((dz_kg κ : Nat) : Int) < ((dz_kp κ : Nat) : Int) := by
    apply Int.ediv_lt_of_lt_mul (by omega)
    have : ((dz_km κ : Nat) : Int) = ((dz_kp κ : Nat) : Int) * ((dz_kg κ : Nat) : Int) := by rw [hk.1, Int.natCast_mul, Int.mul_comm]
    omega
  have q2 : (t / ((dz_kg κ : Nat) : Int)).toNat * dz_kg κ + (t % ((dz_kg κ : Nat) : Int)).toNat = t.toNat := by
    have : (((t / ((dz_kg κ : Nat) : Int)).toNat * dz_kg κ : Nat) : Int) = t / ((dz_kg κ : Nat) : Int) * ((dz_kg κ : Nat) : Int) := by rw [Int.natCast_mul, Int.toNat_of_nonneg e1]
    omega
  have q3 : dz_km κ ≤ 12 := by rw [hk.1, Nat.mul_comm]; exact hk.2.2
  have r := h c (t / ((dz_kg κ : Nat) : Int)).toNat (t % ((dz_kg κ : Nat) : Int)).toNat (by omega) (by omega) (by omega)
  rw [show 12 * c + (t / ((dz_kg κ : Nat) : Int)).toNat * dz_kg κ + (t % ((dz_kg κ : Nat) : Int)).toNat = 12 * c + t.toNat by omega, hp] at r
  exact r
theorem dz_bx0 {κ : Nat} {n p : Nat} {g lawful out t k : Int32} {a49 a50 a53 a54 a55 : Nat → Int32} (hκ : κ < 14) (hg : g.toInt = ((dz_kg κ : Nat) : Int)) (hJ : dz_J κ lawful out a49 a50 a54 a55) (hgq : dz_gq (dz_kg κ) (dz_kr κ) p a50 (12 * dz_kt κ)) (hp : p = dz_kp κ) (hpm : dz_pm a53 (dz_kg κ)) (hl : lawful.toInt ≠ 0) (t0 : 0 ≤ t.toInt) (t1 : t.toInt < ((dz_km κ : Nat) : Int)) (hn : dz_nt a54 t out.toInt.toNat) (e : n = dz_kt κ) (k0 : k.toInt = 0) : dz_bx n g.toInt a49 a50 a53 a54 a55 t k out.toInt.toNat := by
  subst e
  have hk := dz_kg4 hκ
  obtain ⟨c, hc, hz, ha⟩ := hJ.2.1 hl
  have r := dz_gqat hκ hgq hp hc t0 t1
  have hr : c / dz_kr κ ^ (dz_kp κ - 1 - (t.toInt / ((dz_kg κ : Nat) : Int)).toNat) % dz_kr κ < dz_R (dz_kg κ) := by
    rw [← hk.2.1]; exact Nat.mod_lt _ (by have := dz_kr4 hκ; omega)
  have hi : (t.toInt % ((dz_kg κ : Nat) : Int)).toNat < dz_kg κ := by
    have := Int.emod_lt_of_pos t.toInt (show (0 : Int) < ((dz_kg κ : Nat) : Int) by omega)
    have := Int.emod_nonneg t.toInt (show ((dz_kg κ : Nat) : Int) ≠ 0 by omega)
    omega
  have b := dz_prb hk.1 hr hi
  rw [← r] at b
  obtain ⟨j, j1, j2, j3⟩ := dz_ex0 (k := k) (g := (a50 (12 * c + t.toInt.toNat)).toInt) hpm (by omega) k0 b.1 (by omega)
  refine ⟨j, j1, by omega, ⟨c, hc, hz, j3.symm, ha⟩, ?_⟩
  rintro ⟨i, hi2, hd, hb⟩
  have t2 := hJ.2.2.1 i hi2
  have r2 := dz_gqat hκ hgq hp hc t2.1 t2.2
  have hx := ha i hi2
  have hd2 : (a54 i).toInt / ((dz_kg κ : Nat) : Int) = t.toInt / ((dz_kg κ : Nat) : Int) := by rw [← hg]; exact hd
  rw [j3, ← hx, r2, r, hd2] at hb
  have hi3 : ((a54 i).toInt % ((dz_kg κ : Nat) : Int)).toNat < dz_kg κ := by
    have := Int.emod_lt_of_pos (a54 i).toInt (show (0 : Int) < ((dz_kg κ : Nat) : Int) by omega)
    have := Int.emod_nonneg (a54 i).toInt (show ((dz_kg κ : Nat) : Int) ≠ 0 by omega)
    omega
  have ei := dz_pri hk.1 hr hi3 hi hb
  have n1 := hn i hi2
  have e1 := dz_ediv (a := t.toInt) (b := ((dz_kg κ : Nat) : Int)) t0 (by omega)
  have e2 := dz_ediv (a := (a54 i).toInt) (b := ((dz_kg κ : Nat) : Int)) t2.1 (by omega)
  rw [hd2] at e2
  omega
theorem dz_Jn {κ : Nat} {lawful out out2 t g : Int32} {n : Nat} {a49 a50 a54 a55 : Nat → Int32} (hJ : dz_J κ lawful out a49 a50 a54 a55) (o0 : 0 ≤ out.toInt) (hl : lawful.toInt ≠ 0) (t0 : 0 ≤ t.toInt) (t1 : t.toInt < ((dz_km κ : Nat) : Int)) (hn : dz_nt a54 t out.toInt.toNat) (e : n = dz_kt κ) (ho : out2.toInt = out.toInt + 1) (hs : dz_sw n a49 a50 a54 a55 t g out.toInt.toNat) : dz_J κ lawful out2 a49 a50 (upd a54 out.toNatClampNeg t) (upd a55 out.toNatClampNeg g) := by
  subst e
  have hlt := dz_Jl hJ o0 t0 t1 hn
  have w := dz_tn out
  have rd : ∀ (a : Nat → Int32) (v : Int32) (k : Nat), upd a out.toNatClampNeg v k = if k = out.toNatClampNeg then v else a k := fun _ _ _ => rfl
  obtain ⟨c, hc, q1, q2, q3⟩ := hs
  refine ⟨by omega, fun _ => ⟨c, hc, q1, fun k hk => ?_⟩, fun k hk => ?_, fun j k hj hk => ?_, fun _ => hl⟩
  · rw [rd, rd]
    by_cases z : k = out.toNatClampNeg
    · rw [if_pos z, if_pos z]; exact q2
    · rw [if_neg z, if_neg z]; exact q3 k (by omega)
  · rw [rd]
    by_cases z : k = out.toNatClampNeg
    · rw [if_pos z]; exact ⟨t0, t1⟩
    · rw [if_neg z]; exact hJ.2.2.1 k (by omega)
  · rw [rd, rd, if_neg (by omega)]
    by_cases z : k = out.toNatClampNeg
    · rw [if_pos z]; exact hn j (by omega)
    · rw [if_neg z]; exact hJ.2.2.2.1 j k hj (by omega)
theorem dz_Jm {κ : Nat} {lawful out out2 : Int32} {a49 a50 a54 a55 : Nat → Int32} (hJ : dz_J κ lawful out a49 a50 a54 a55) (h0 : 0 ≤ out2.toInt) (h : out2.toInt ≤ out.toInt) : dz_J κ lawful out2 a49 a50 a54 a55 := by
  obtain ⟨h1, h2, h3, h4, h5⟩ := hJ
  refine ⟨by omega, fun q => ?_, fun k hk => h3 k (by omega), fun j k hj hk => h4 j k hj (by omega), fun q => h5 (by omega)⟩
  obtain ⟨c, a, b, d⟩ := h2 q
  exact ⟨c, a, b, dz_apm d (by omega)⟩
theorem dz_J0 {κ : Nat} {lawful out : Int32} {n : Nat} {a49 a50 a54 a55 : Nat → Int32} (h : dz_lf lawful a49 n) (e : n = dz_kt κ) (ho : out.toInt = 0) : dz_J κ lawful out a49 a50 a54 a55 := by
  subst e
  refine ⟨by omega, fun q => ?_, fun k hk => by omega, fun j k hj hk => by omega, fun q => absurd ho q⟩
  obtain ⟨c, a, b⟩ := h q
  exact ⟨c, a, b, dz_ap0 (by omega)⟩
