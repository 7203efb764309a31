/-! the reference's masks: levels, ranks that can come -/
def dz_geo (R : Nat) : Nat → Nat
  | 0 => 0
  | k + 1 => dz_geo R k + R ^ k
def dz_lv (R : Nat) (a : Nat → Int32) (n : Nat) : Prop := ∀ j, j ≤ n → (a j).toInt = ((dz_geo R j : Nat) : Int)
theorem dz_lv0 {R : Nat} {a : Nat → Int32} {z v : Int32} {n : Nat} (hn : n = 0) (hz : z.toInt = 0) (hv : v.toInt = 0) : dz_lv R (upd a z.toNatClampNeg v) n := fun j hj => by
  have t := dz_tn z
  show (if j = z.toNatClampNeg then v else a j).toInt = _
  rw [if_pos (by omega), show j = 0 by omega, hv]; rfl
theorem dz_lvs {R : Nat} {a : Nat → Int32} {k k' n w : Int32} (h : dz_lv R a k.toInt.toNat) (k0 : 0 ≤ k.toInt) (hk : k'.toInt = k.toInt + 1) (hn : n.toInt = ((R ^ k.toInt.toNat : Nat) : Int)) (hw : w.toInt = (a k.toNatClampNeg).toInt + n.toInt) : dz_lv R (upd a k'.toNatClampNeg w) k'.toInt.toNat := fun j hj => by
  have t := dz_tn k
  have t2 := dz_tn k'
  show (if j = k'.toNatClampNeg then w else a j).toInt = _
  by_cases z : j = k'.toNatClampNeg
  · rw [if_pos z, hw, hn, t, h _ (by omega), show j = k.toInt.toNat + 1 by omega]
    show _ = ((dz_geo R k.toInt.toNat + R ^ k.toInt.toNat : Nat) : Int)
    omega
  · rw [if_neg z]; exact h j (by omega)
theorem dz_pws {R : Nat} {n n' r k k' : Int32} (hn : n.toInt = ((R ^ k.toInt.toNat : Nat) : Int)) (k0 : 0 ≤ k.toInt) (hk : k'.toInt = k.toInt + 1) (hr : r.toInt = (R : Int)) (h : n'.toInt = n.toInt * (R : Int)) : n'.toInt = ((R ^ k'.toInt.toNat : Nat) : Int) := by
  rw [h, hn, show k'.toInt.toNat = k.toInt.toNat + 1 by omega, Nat.pow_succ, Int.natCast_mul]
theorem dz_lvd2 {a : Nat → Int32} {n : Nat} {i : Int32} (h : dz_lv 2 a n) (i0 : 0 ≤ i.toInt) (hi : i.toInt ≤ (n : Int)) (h5 : i.toInt ≤ 5) : (i.toInt = 0 ∧ (a i.toNatClampNeg).toInt = 0) ∨ (i.toInt = 1 ∧ (a i.toNatClampNeg).toInt = 1) ∨ (i.toInt = 2 ∧ (a i.toNatClampNeg).toInt = 3) ∨ (i.toInt = 3 ∧ (a i.toNatClampNeg).toInt = 7) ∨ (i.toInt = 4 ∧ (a i.toNatClampNeg).toInt = 15) ∨ (i.toInt = 5 ∧ (a i.toNatClampNeg).toInt = 31) := by
  have e := h i.toNatClampNeg (by have := dz_tn i; omega)
  have t := dz_tn i
  rcases (show i.toInt = 0 ∨ i.toInt = 1 ∨ i.toInt = 2 ∨ i.toInt = 3 ∨ i.toInt = 4 ∨ i.toInt = 5 by omega) with q | q | q | q | q | q <;> rw [t, q] at e <;> simp [dz_geo] at e <;> rw [t, q] <;> simp <;> exact e
theorem dz_lvd3 {a : Nat → Int32} {n : Nat} {i : Int32} (h : dz_lv 6 a n) (i0 : 0 ≤ i.toInt) (hi : i.toInt ≤ (n : Int)) (h5 : i.toInt ≤ 5) : (i.toInt = 0 ∧ (a i.toNatClampNeg).toInt = 0) ∨ (i.toInt = 1 ∧ (a i.toNatClampNeg).toInt = 1) ∨ (i.toInt = 2 ∧ (a i.toNatClampNeg).toInt = 7) ∨ (i.toInt = 3 ∧ (a i.toNatClampNeg).toInt = 43) ∨ (i.toInt = 4 ∧ (a i.toNatClampNeg).toInt = 259) ∨ (i.toInt = 5 ∧ (a i.toNatClampNeg).toInt = 1555) := by
  have e := h i.toNatClampNeg (by have := dz_tn i; omega)
  have t := dz_tn i
  rcases (show i.toInt = 0 ∨ i.toInt = 1 ∨ i.toInt = 2 ∨ i.toInt = 3 ∨ i.toInt = 4 ∨ i.toInt = 5 by omega) with q | q | q | q | q | q <;> rw [t, q] at e <;> simp [dz_geo] at e <;> rw [t, q] <;> simp <;> exact e
theorem dz_lvd4 {a : Nat → Int32} {n : Nat} {i : Int32} (h : dz_lv 24 a n) (i0 : 0 ≤ i.toInt) (hi : i.toInt ≤ (n : Int)) (h5 : i.toInt ≤ 4) : (i.toInt = 0 ∧ (a i.toNatClampNeg).toInt = 0) ∨ (i.toInt = 1 ∧ (a i.toNatClampNeg).toInt = 1) ∨ (i.toInt = 2 ∧ (a i.toNatClampNeg).toInt = 25) ∨ (i.toInt = 3 ∧ (a i.toNatClampNeg).toInt = 601) ∨ (i.toInt = 4 ∧ (a i.toNatClampNeg).toInt = 14425) := by
  have e := h i.toNatClampNeg (by have := dz_tn i; omega)
  have t := dz_tn i
  rcases (show i.toInt = 0 ∨ i.toInt = 1 ∨ i.toInt = 2 ∨ i.toInt = 3 ∨ i.toInt = 4 by omega) with q | q | q | q | q <;> rw [t, q] at e <;> simp [dz_geo] at e <;> rw [t, q] <;> simp <;> exact e
/-- zeros -/
def dz_zr (a : Nat → Int32) (n : Nat) : Prop := ∀ j, j < n → (a j).toInt = 0
theorem dz_zr0 {a : Nat → Int32} {n : Nat} (h : n = 0) : dz_zr a n := fun j hj => by omega
theorem dz_zrs {a : Nat → Int32} {k k' v : Int32} (h : dz_zr a k.toInt.toNat) (k0 : 0 ≤ k.toInt) (e : k'.toInt = k.toInt + 1) (hv : v.toInt = 0) : dz_zr (upd a k.toNatClampNeg v) k'.toInt.toNat := fun j hj => by
  have t := dz_tn k
  show (if j = k.toNatClampNeg then v else a j).toInt = 0
  by_cases q : j = k.toNatClampNeg
  · rw [if_pos q]; exact hv
  · rw [if_neg q]; exact h j (by omega)
def dz_mz (R : Nat) (m : Int32) : Prop := ∃ r, r < R ∧ dz_bit m r
theorem dz_mzi {R : Nat} {m : Int32} (h0 : 0 ≤ m.toInt) (h1 : m.toInt < ((2 ^ R : Nat) : Int)) (h : m.toInt ≠ 0) : dz_mz R m := by
  obtain ⟨r, _, b⟩ := dz_bit_ex h
  exact ⟨r, dz_bit_lt h0 h1 b, b⟩
/-- below a set of ranks that can come, each has a set that is not empty; one place may still want it -/
def dz_MK (R P : Nat) (a : Nat → Int32) (kp xp : Nat) : Prop := ∀ k x r, k + 1 < P → x < R ^ k → r < R → dz_bit (a (dz_geo R k + x)) r → dz_mz R (a (dz_geo R (k + 1) + (x * R + r))) ∨ (k + 1 = kp ∧ x * R + r = xp)
theorem dz_geom {R k l : Nat} (h : k < l) : dz_geo R k + R ^ k ≤ dz_geo R l := by
  induction l with
  | zero => omega
  | succ l ih =>
    show _ ≤ dz_geo R l + R ^ l
    by_cases z : k = l
    · rw [z]; omega
    · have := ih (by omega)
      omega
theorem dz_geoi {R k l x y : Nat} (hx : x < R ^ k) (hy : y < R ^ l) (e : dz_geo R k + x = dz_geo R l + y) : k = l ∧ x = y := by
  have q : k = l := by
    apply Classical.byContradiction
    intro z
    rcases Nat.lt_or_gt_of_ne z with w | w
    · have := dz_geom (R := R) w
      omega
    · have := dz_geom (R := R) w
      omega
  subst q
  exact ⟨rfl, by omega⟩
theorem dz_MK0 {R P : Nat} {a : Nat → Int32} {n kp xp : Nat} (h : dz_zr a n) (hn : dz_geo R P ≤ n) : dz_MK R P a kp xp := fun k x r hk hx hr hb => by
  exfalso
  have g := dz_geom (R := R) (show k < P by omega)
  exact dz_bit_ne hb (h _ (by omega))
theorem dz_MKp {R P : Nat} {a : Nat → Int32} {kp xp kq xq : Nat} (h : dz_MK R P a kp xp) (e : kp = 0 ∨ P ≤ kp) : dz_MK R P a kq xq := fun k x r hk hx hr hb => by
  rcases h k x r hk hx hr hb with q | q
  · exact Or.inl q
  · omega
theorem dz_mzo {R : Nat} {a b : Int32} (h : dz_mz R a ∨ dz_mz R b) : dz_mz R (a ||| b) := by
  rcases h with ⟨r, h1, h2⟩ | ⟨r, h1, h2⟩
  · exact ⟨r, h1, dz_bit_or.mpr (Or.inl h2)⟩
  · exact ⟨r, h1, dz_bit_or.mpr (Or.inr h2)⟩
theorem dz_MKs {R P : Nat} {a : Nat → Int32} {k x r i : Int32} {k' x' : Nat} (h : dz_MK R P a k.toInt.toNat x.toInt.toNat) (hx : x.toInt.toNat < R ^ k.toInt.toNat) (r0 : 0 ≤ r.toInt) (r1 : r.toInt < (R : Int)) (r2 : r.toInt ≤ 30) (hi : i.toInt = ((dz_geo R k.toInt.toNat : Nat) : Int) + x.toInt) (x0 : 0 ≤ x.toInt) (hk' : k' = k.toInt.toNat + 1) (hx' : x' = x.toInt.toNat * R + r.toInt.toNat) : dz_MK R P (upd a i.toNatClampNeg ((a i.toNatClampNeg) ||| ((1 : Int32) <<< (r &&& 31)))) k' x' := by
  have t := dz_tn i
  have ei : i.toNatClampNeg = dz_geo R k.toInt.toNat + x.toInt.toNat := by omega
  rw [ei]
  have rd : ∀ j, upd a (dz_geo R k.toInt.toNat + x.toInt.toNat) ((a (dz_geo R k.toInt.toNat + x.toInt.toNat)) ||| ((1 : Int32) <<< (r &&& 31))) j = if j = dz_geo R k.toInt.toNat + x.toInt.toNat then ((a (dz_geo R k.toInt.toNat + x.toInt.toNat)) ||| ((1 : Int32) <<< (r &&& 31))) else a j := fun _ => rfl
  have nz : dz_mz R (a (dz_geo R k.toInt.toNat + x.toInt.toNat) ||| ((1 : Int32) <<< (r &&& 31))) := dz_mzo (Or.inr ⟨_, by omega, (dz_bit_shl r0 r2).mpr rfl⟩)
  have mono : ∀ j, dz_mz R (a j) → dz_mz R (upd a (dz_geo R k.toInt.toNat + x.toInt.toNat) ((a (dz_geo R k.toInt.toNat + x.toInt.toNat)) ||| ((1 : Int32) <<< (r &&& 31))) j) := fun j hj => by
    rw [rd]
    split
    · exact nz
    · exact hj
  intro l y s hl hy hs hb
  rw [rd] at hb
  by_cases z : dz_geo R l + y = dz_geo R k.toInt.toNat + x.toInt.toNat
  · obtain ⟨e1, e2⟩ := dz_geoi hy hx z
    rw [if_pos z, dz_bit_or] at hb
    rcases hb with hb | hb
    · rw [← z] at hb
      rcases h l y s hl hy hs hb with q | q
      · exact Or.inl (mono _ q)
      · omega
    · rw [dz_bit_shl r0 r2] at hb
      right
      subst e1 e2 hb
      omega
  · rw [if_neg z] at hb
    rcases h l y s hl hy hs hb with q | q
    · exact Or.inl (mono _ q)
    · left
      rw [rd, if_pos (by rw [q.1, q.2])]
      exact nz
/-- a step along the sets: the first is not empty once a lawful draw was seen -/
theorem dz_upmz {R : Nat} {a : Nat → Int32} {i r : Int32} (r0 : 0 ≤ r.toInt) (r1 : r.toInt < (R : Int)) (r2 : r.toInt ≤ 30) (h : dz_mz R (a 0) ∨ i.toInt = 0) : dz_mz R (upd a i.toNatClampNeg ((a i.toNatClampNeg) ||| ((1 : Int32) <<< (r &&& 31))) 0) := by
  show dz_mz R (if 0 = i.toNatClampNeg then _ else a 0)
  have t := dz_tn i
  by_cases z : 0 = i.toNatClampNeg
  · rw [if_pos z]
    exact dz_mzo (Or.inr ⟨_, by omega, (dz_bit_shl r0 r2).mpr rfl⟩)
  · rw [if_neg z]
    rcases h with h | h
    · exact h
    · omega
/-- which ranks have a team in a group -/
def dz_hq (G n m : Nat) (a : Nat → Int32) : Prop := ∀ i g r, i < G → g < G → (dz_bit (a (4 * i + g)) r ↔ (r < n ∨ (r = n ∧ i < m)) ∧ dz_pr G r i = (g : Int))
theorem dz_hq0 {G n m : Nat} {a : Nat → Int32} {k : Nat} (h : dz_zr a k) (hk : 16 ≤ k) (hG : G ≤ 4) (hn : n = 0) (hm : m = 0) : dz_hq G n m a := fun i g r hi hg => by
  constructor
  · intro q
    exact absurd (h _ (by omega)) (dz_bit_ne q)
  · rintro ⟨q, _⟩
    omega
theorem dz_hqn {G n m n' m' : Nat} {a : Nat → Int32} (h : dz_hq G n m a) (e : m = G) (hn : n' = n + 1) (hm : m' = 0) : dz_hq G n' m' a := fun i g r hi hg => by
  rw [h i g r hi hg]
  constructor
  · rintro ⟨q, w⟩
    exact ⟨by omega, w⟩
  · rintro ⟨q, w⟩
    exact ⟨by omega, w⟩
theorem dz_hqm {G n m n' m' : Nat} {a : Nat → Int32} (h : dz_hq G n m a) (hn : n' = n) (hm : m' = m) : dz_hq G n' m' a := by rw [hn, hm]; exact h
theorem dz_hqv {G R n m : Nat} {a : Nat → Int32} (h : dz_hq G n m a) (hn : n = R) (hm : m = 0) : dz_hv G R a := fun i g r hi hg => by
  rw [h i g r hi hg]
  constructor
  · rintro ⟨q, w⟩
    exact ⟨by omega, w⟩
  · rintro ⟨q, w⟩
    exact ⟨by omega, w⟩
theorem dz_hqs {G : Nat} {a : Nat → Int32} {n m n' m' : Nat} {r i j v : Int32} (h : dz_hq G n m a) (hG : G ≤ 4) (hn : (n : Int) = r.toInt) (hm : (m : Int) = i.toInt) (r0 : 0 ≤ r.toInt) (r1 : r.toInt ≤ 23) (i0 : 0 ≤ i.toInt) (i1 : i.toInt < (G : Int)) (hn' : n' = n) (hm' : m' = m + 1) (hv : v.toInt = dz_pr G r.toInt.toNat i.toInt.toNat) (v0 : 0 ≤ v.toInt) (v1 : v.toInt < (G : Int)) (hj : j.toInt = 4 * i.toInt + v.toInt) : dz_hq G n' m' (upd a j.toNatClampNeg ((a j.toNatClampNeg) ||| ((1 : Int32) <<< (r &&& 31)))) := fun k g s hk hg => by
  have t := dz_tn j
  show dz_bit (if 4 * k + g = j.toNatClampNeg then ((a j.toNatClampNeg) ||| ((1 : Int32) <<< (r &&& 31))) else a (4 * k + g)) s ↔ _
  by_cases z : 4 * k + g = j.toNatClampNeg
  · have ek : k = i.toInt.toNat := by omega
    have eg : (g : Int) = v.toInt := by omega
    rw [if_pos z, dz_bit_or, dz_bit_shl r0 (by omega), ← z, h k g s hk hg]
    constructor
    · rintro (⟨q, w⟩ | q)
      · exact ⟨by omega, w⟩
      · refine ⟨by omega, ?_⟩
        rw [eg, hv, q, ek]
    · rintro ⟨q, w⟩
      by_cases y : s = r.toInt.toNat
      · exact Or.inr y
      · exact Or.inl ⟨by omega, w⟩
  · rw [if_neg z, h k g s hk hg]
    constructor
    · rintro ⟨q, w⟩
      exact ⟨by omega, w⟩
    · rintro ⟨q, w⟩
      refine ⟨?_, w⟩
      by_cases y : s = n ∧ k = m
      · exfalso
        apply z
        rw [y.1, y.2, show n = r.toInt.toNat by omega, show m = i.toInt.toNat by omega, ← hv] at w
        omega
      · omega
theorem dz_lvm {R : Nat} {a : Nat → Int32} {n m : Nat} (h : dz_lv R a n) (e : m ≤ n) : dz_lv R a m := fun j hj => h j (by omega)
/-- no lawful draw so far -/
def dz_na (a : Nat → Int32) (n : Nat) : Prop := ∀ c, c < n → (a c).toInt ≠ 0
theorem dz_na0 {a : Nat → Int32} {n : Nat} (h : n = 0) : dz_na a n := fun c hc => by omega
theorem dz_nam {a : Nat → Int32} {n m : Nat} (h : dz_na a n) (e : m ≤ n) : dz_na a m := fun c hc => h c (by omega)
theorem dz_nas {a : Nat → Int32} {A B : Prop} {k k' : Int32} (h : A ∨ B ∨ dz_na a k.toInt.toNat) (k0 : 0 ≤ k.toInt) (e : k'.toInt = k.toInt + 1) (q : (a k.toNatClampNeg).toInt ≠ 0) : A ∨ B ∨ dz_na a k'.toInt.toNat := h.imp id (fun w => w.imp id (fun u c hc => by
  have t := dz_tn k
  by_cases z : c = k.toNatClampNeg
  · rw [z]; exact q
  · exact u c (by omega)))
theorem dz_naz {A B C D : Prop} (h : A ∨ B ∨ C) (hc : ¬ C ∨ B) : A ∨ B ∨ D := by
  rcases h with h | h | h
  · exact Or.inl h
  · exact Or.inr (Or.inl h)
  · rcases hc with q | q
    · exact absurd h q
    · exact Or.inr (Or.inl q)
/-- pots in turn: each is one of the pots -/
def dz_pq (a : Nat → Int32) (n : Nat) : Prop := ∀ k, k < n → 0 ≤ (a k).toInt ∧ (a k).toInt < (n : Int)
theorem dz_pqat {a : Nat → Int32} {n : Nat} {i : Int32} (h : dz_pq a n) : i.toInt < 0 ∨ (n : Int) ≤ i.toInt ∨ (0 ≤ (a i.toNatClampNeg).toInt ∧ (a i.toNatClampNeg).toInt < (n : Int)) := by
  have t := dz_tn i
  rcases Classical.em (i.toInt < 0) with q | q
  · exact Or.inl q
  · rcases Classical.em ((n : Int) ≤ i.toInt) with w | w
    · exact Or.inr (Or.inl w)
    · exact Or.inr (Or.inr (h _ (by omega)))
theorem dz_geo2 {P : Nat} (h : P ≤ 4) : dz_geo 2 P + 2 ^ P = dz_geo 2 (P + 1) := rfl
theorem dz_geo3 {P : Nat} (h : P ≤ 4) : dz_geo 6 P + 6 ^ P = dz_geo 6 (P + 1) := rfl
theorem dz_geo4 {P : Nat} (h : P ≤ 4) : dz_geo 24 P + 24 ^ P = dz_geo 24 (P + 1) := rfl
theorem dz_rwat {G R : Nat} {a : Nat → Int32} {r i : Int32} (hG : G = 2 ∨ G = 3 ∨ G = 4) (hR : R = dz_R G) (h : dz_rw G R a) (hr : 0 ≤ r.toInt ∧ r.toInt ≤ 23 ∧ 0 ≤ i.toInt) : (a (((4 : Int32) * r) + i).toNatClampNeg).toInt = dz_pr G r.toInt.toNat i.toInt.toNat ∧ 0 ≤ (a (((4 : Int32) * r) + i).toNatClampNeg).toInt ∧ (a (((4 : Int32) * r) + i).toNatClampNeg).toInt < (G : Int) ∨ (R : Int) ≤ r.toInt ∨ (G : Int) ≤ i.toInt := by
  rcases Classical.em ((R : Int) ≤ r.toInt) with q | q
  · exact Or.inr (Or.inl q)
  rcases Classical.em ((G : Int) ≤ i.toInt) with w | w
  · exact Or.inr (Or.inr w)
  left
  have l4 : (4 : Int32).toInt = 4 := by decide
  have e1 := dz_mull (a := 4) (b := r) 4 l4 (by omega) (by omega)
  have e2 := dz_add (a := 4 * r) (b := i) (by omega) (by omega)
  have t := dz_tn (((4 : Int32) * r) + i)
  have hh := h r.toInt.toNat i.toInt.toNat (by omega) (by omega)
  have hp := dz_prb hG (show r.toInt.toNat < dz_R G by omega) (show i.toInt.toNat < G by omega)
  rw [show (((4 : Int32) * r) + i).toNatClampNeg = 4 * r.toInt.toNat + i.toInt.toNat by omega, hh]
  exact ⟨rfl, hp.1, by omega⟩
/-- powers -/
def dz_pwt (G n : Nat) (a : Nat → Int32) : Prop := ∀ j, j < n → (a j).toInt = (((G + 1) ^ j : Nat) : Int)
theorem dz_pwt0 {G n : Nat} {a : Nat → Int32} (h : n = 0) : dz_pwt G n a := fun j hj => by omega
theorem dz_pwtm {G n m : Nat} {a : Nat → Int32} (h : dz_pwt G n a) (e : m ≤ n) : dz_pwt G m a := fun j hj => h j (by omega)
theorem dz_pwts {G : Nat} {a : Nat → Int32} {n n' : Nat} {k v : Int32} (h : dz_pwt G n a) (hn : (n : Int) = k.toInt) (hn' : n' = n + 1) (k0 : 0 ≤ k.toInt) (hv : v.toInt = (((G + 1) ^ k.toInt.toNat : Nat) : Int)) : dz_pwt G n' (upd a k.toNatClampNeg v) := fun j hj => by
  have t := dz_tn k
  show (if j = k.toNatClampNeg then v else a j).toInt = _
  by_cases z : j = k.toNatClampNeg
  · rw [if_pos z, z, t]; exact hv
  · rw [if_neg z]; exact h j (by omega)
theorem dz_dgk {G : Nat} {p i d : Int32} (k : Nat) (hi : i.toInt = (k : Int)) (N M : Int) (hN : (((G + 1) ^ k : Nat) : Int) = N) (hM : (G : Int) + 1 = M) (p0 : 0 ≤ p.toInt) (h : d.toInt = p.toInt / N % M) : d.toInt = ((dz_dg G p.toInt.toNat i.toInt.toNat : Nat) : Int) := by
  rw [h, ← hN, ← hM, show i.toInt.toNat = k by omega]
  unfold dz_dg
  have w := Int.toNat_of_nonneg p0
  generalize p.toInt.toNat = m at w ⊢
  rw [← w]
  rfl
theorem dz_dgD2 {p i : Int32} (h : dz_dg 2 p.toInt.toNat i.toInt.toNat = 2) (p0 : 0 ≤ p.toInt) (i0 : 0 ≤ i.toInt) (i1 : i.toInt < 2) : (i.toInt = 0 ∧ p.toInt % 3 = 2) ∨ (i.toInt = 1 ∧ p.toInt / 3 % 3 = 2) := by
  have t := dz_tn p
  unfold dz_dg at h
  rcases (show i.toInt = 0 ∨ i.toInt = 1 by omega) with q | q <;> rw [q] at h <;> simp at h <;> omega
theorem dz_dgD3 {p i : Int32} (h : dz_dg 3 p.toInt.toNat i.toInt.toNat = 3) (p0 : 0 ≤ p.toInt) (i0 : 0 ≤ i.toInt) (i1 : i.toInt < 3) : (i.toInt = 0 ∧ p.toInt % 4 = 3) ∨ (i.toInt = 1 ∧ p.toInt / 4 % 4 = 3) ∨ (i.toInt = 2 ∧ p.toInt / 16 % 4 = 3) := by
  have t := dz_tn p
  unfold dz_dg at h
  rcases (show i.toInt = 0 ∨ i.toInt = 1 ∨ i.toInt = 2 by omega) with q | q | q <;> rw [q] at h <;> simp at h <;> omega
theorem dz_dgD4 {p i : Int32} (h : dz_dg 4 p.toInt.toNat i.toInt.toNat = 4) (p0 : 0 ≤ p.toInt) (i0 : 0 ≤ i.toInt) (i1 : i.toInt < 4) : (i.toInt = 0 ∧ p.toInt % 5 = 4) ∨ (i.toInt = 1 ∧ p.toInt / 5 % 5 = 4) ∨ (i.toInt = 2 ∧ p.toInt / 25 % 5 = 4) ∨ (i.toInt = 3 ∧ p.toInt / 125 % 5 = 4) := by
  have t := dz_tn p
  unfold dz_dg at h
  rcases (show i.toInt = 0 ∨ i.toInt = 1 ∨ i.toInt = 2 ∨ i.toInt = 3 by omega) with q | q | q | q <;> rw [q] at h <;> simp at h <;> omega
/-- the table of swaps -/
def dz_td (G R : Nat) (a : Nat → Int32) : Prop := ∀ r g h, r < R → g < G → h < G → 0 ≤ (a (16 * r + 4 * g + h)).toInt ∧ (a (16 * r + 4 * g + h)).toInt < (R : Int)
theorem dz_tdat {G R : Nat} {a : Nat → Int32} {r g h : Int32} (t : dz_td G R a) (r0 : 0 ≤ r.toInt) (r1 : r.toInt < (R : Int)) (g0 : 0 ≤ g.toInt) (g1 : g.toInt < (G : Int)) (h0 : 0 ≤ h.toInt) (h1 : h.toInt < (G : Int)) (e : (((16 * r) + (4 * g)) + h).toInt = 16 * r.toInt + 4 * g.toInt + h.toInt) : 0 ≤ (a (((16 * r) + (4 * g)) + h).toNatClampNeg).toInt ∧ (a (((16 * r) + (4 * g)) + h).toNatClampNeg).toInt < (R : Int) := by
  have w := dz_tn (((16 * r) + (4 * g)) + h)
  rw [show (((16 * r) + (4 * g)) + h).toNatClampNeg = 16 * r.toInt.toNat + 4 * g.toInt.toNat + h.toInt.toNat by omega]
  exact t _ _ _ (by omega) (by omega) (by omega)
