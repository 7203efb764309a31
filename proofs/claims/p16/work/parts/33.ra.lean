/-! the reference: bits, ranks, digits -/
def dz_bit (m : Int32) (r : Nat) : Prop := m.toBitVec.getLsbD r = true
theorem dz_bit_and {a b : Int32} {r : Nat} : dz_bit (a &&& b) r ↔ dz_bit a r ∧ dz_bit b r := by
  unfold dz_bit
  have h : (a &&& b).toBitVec = a.toBitVec &&& b.toBitVec := rfl
  rw [h, BitVec.getLsbD_and, Bool.and_eq_true]
theorem dz_bit_or {a b : Int32} {r : Nat} : dz_bit (a ||| b) r ↔ dz_bit a r ∨ dz_bit b r := by
  unfold dz_bit
  have h : (a ||| b).toBitVec = a.toBitVec ||| b.toBitVec := rfl
  rw [h, BitVec.getLsbD_or, Bool.or_eq_true]
theorem dz_bit_ne {m : Int32} {r : Nat} (h : dz_bit m r) : m.toInt ≠ 0 := fun q => by
  have e : m = 0 := Int32.toInt_inj.mp (by rw [q]; decide)
  subst e
  unfold dz_bit at h
  have z : (0 : Int32).toBitVec = 0#32 := rfl
  rw [z, BitVec.getLsbD_zero] at h
  cases h
theorem dz_bit_ex {m : Int32} (h : m.toInt ≠ 0) : ∃ r, r < 32 ∧ dz_bit m r := by
  apply Classical.byContradiction
  intro hn
  apply h
  have e : m.toBitVec = 0#32 := by
    apply BitVec.eq_of_getLsbD_eq
    intro i hi
    rw [BitVec.getLsbD_zero]
    cases hb : m.toBitVec.getLsbD i with
    | false => rfl
    | true => exact absurd ⟨i, hi, hb⟩ hn
  show m.toBitVec.toInt = 0
  rw [e]; decide
theorem dz_bit_shl0 : ∀ c : Fin 31, ∀ r : Fin 32, ((1 : Int32) <<< (Int32.ofNat c.val &&& 31)).toBitVec.getLsbD r.val = decide (r.val = c.val) := by decide +kernel
theorem dz_bit_shl {k : Int32} {r : Nat} (k0 : 0 ≤ k.toInt) (k1 : k.toInt ≤ 30) : dz_bit ((1 : Int32) <<< (k &&& 31)) r ↔ r = k.toInt.toNat := by
  have e := dz_eqn (b := k) (c := k.toInt.toNat) (by omega) (by omega)
  rw [e]
  have hk : (Int32.ofNat k.toInt.toNat).toInt.toNat = k.toInt.toNat := by rw [← e]
  rw [hk]
  unfold dz_bit
  by_cases hr : r < 32
  · have h := dz_bit_shl0 ⟨k.toInt.toNat, by omega⟩ ⟨r, hr⟩
    rw [h]; simp
  · rw [BitVec.getLsbD_of_ge _ _ (by omega)]
    constructor
    · intro h; cases h
    · intro h; omega
theorem dz_bit_one {r : Nat} : dz_bit 1 r ↔ r = 0 := by
  have h := dz_bit_shl (k := 0) (r := r) (by decide) (by decide)
  have e : (1 : Int32) <<< ((0 : Int32) &&& 31) = 1 := by decide
  rw [e] at h
  have z : (0 : Int32).toInt.toNat = 0 := by decide
  rw [z] at h
  exact h
theorem dz_bit_shr0 {m k : Int32} (k0 : 0 ≤ k.toInt) (k1 : k.toInt ≤ 30) : dz_bit (m >>> (k &&& 31)) 0 ↔ dz_bit m k.toInt.toNat := by
  have e := dz_eqn (b := k) (c := k.toInt.toNat) (by omega) (by omega)
  have h3 : (m >>> (Int32.ofNat k.toInt.toNat &&& 31)).toBitVec = m.toBitVec.sshiftRight' ((Int32.ofNat k.toInt.toNat &&& 31).toBitVec.smod 32) := rfl
  have hs := dz_sm ⟨k.toInt.toNat, by omega⟩
  simp only at hs
  rw [hs] at h3
  unfold dz_bit
  rw [show k &&& 31 = Int32.ofNat k.toInt.toNat &&& 31 by rw [← e], h3]
  show (m.toBitVec.sshiftRight (BitVec.ofNat 32 k.toInt.toNat).toNat).getLsbD 0 = true ↔ _
  rw [BitVec.getLsbD_sshiftRight, BitVec.toNat_ofNat, Nat.mod_eq_of_lt (by omega : k.toInt.toNat < 2 ^ 32)]
  simp
  have t := dz_tn k
  omega
theorem dz_bit_shr {m k : Int32} (k0 : 0 ≤ k.toInt) (k1 : k.toInt ≤ 30) : ((m >>> (k &&& 31)) &&& 1).toInt = 0 ↔ ¬ dz_bit m k.toInt.toNat := by
  constructor
  · intro h hb
    exact dz_bit_ne (dz_bit_and.mpr ⟨(dz_bit_shr0 k0 k1).mpr hb, dz_bit_one.mpr rfl⟩) h
  · intro h
    apply Classical.byContradiction
    intro hn
    obtain ⟨r, _, hb⟩ := dz_bit_ex hn
    obtain ⟨b1, b2⟩ := dz_bit_and.mp hb
    have := dz_bit_one.mp b2
    subst this
    exact h ((dz_bit_shr0 k0 k1).mp b1)
theorem dz_bit_lt {m : Int32} {n r : Nat} (h0 : 0 ≤ m.toInt) (h1 : m.toInt < ((2 ^ n : Nat) : Int)) (h : dz_bit m r) : r < n := by
  apply Classical.byContradiction
  intro hn
  have h2 := (dz_bn m).1 h0
  have h3 : 2 ^ n ≤ 2 ^ r := Nat.pow_le_pow_right (by decide) (by omega)
  have h4 : m.toBitVec.toNat.testBit r = false := Nat.testBit_lt_two_pow (by omega)
  unfold dz_bit at h
  rw [BitVec.getLsbD, h4] at h
  cases h
/-- the ranks' rows -/
def dz_pr (G r i : Nat) : Int := ((dz_perms G).getD r []).getD i 0
def dz_dg (G p i : Nat) : Nat := p / (G + 1) ^ i % (G + 1)
def dz_ft (G p r : Nat) : Prop := ∀ i, i < G → dz_dg G p i < G → dz_pr G r i = (dz_dg G p i : Int)
def dz_rw (G R : Nat) (a : Nat → Int32) : Prop := ∀ r i, r < R → i < G → (a (4 * r + i)).toInt = dz_pr G r i
def dz_hv (G R : Nat) (a : Nat → Int32) : Prop := ∀ i g r, i < G → g < G → (dz_bit (a (4 * i + g)) r ↔ r < R ∧ dz_pr G r i = (g : Int))
def dz_R (G : Nat) : Nat := [0, 0, 2, 6, 24].getD G 0
theorem dz_prb {G r i : Nat} (hg : G = 2 ∨ G = 3 ∨ G = 4) (hr : r < dz_R G) (hi : i < G) : 0 ≤ dz_pr G r i ∧ dz_pr G r i ≤ (G : Int) - 1 := by
  rcases hg with rfl | rfl | rfl
  · exact (by decide : ∀ r : Fin 2, ∀ i : Fin 2, 0 ≤ dz_pr 2 r.val i.val ∧ dz_pr 2 r.val i.val ≤ ((2 : Nat) : Int) - 1) ⟨r, hr⟩ ⟨i, hi⟩
  · exact (by decide : ∀ r : Fin 6, ∀ i : Fin 3, 0 ≤ dz_pr 3 r.val i.val ∧ dz_pr 3 r.val i.val ≤ ((3 : Nat) : Int) - 1) ⟨r, hr⟩ ⟨i, hi⟩
  · exact (by decide +kernel : ∀ r : Fin 24, ∀ i : Fin 4, 0 ≤ dz_pr 4 r.val i.val ∧ dz_pr 4 r.val i.val ≤ ((4 : Nat) : Int) - 1) ⟨r, hr⟩ ⟨i, hi⟩
theorem dz_pri {G r i j : Nat} (hg : G = 2 ∨ G = 3 ∨ G = 4) (hr : r < dz_R G) (hi : i < G) (hj : j < G) (e : dz_pr G r i = dz_pr G r j) : i = j := by
  rcases hg with rfl | rfl | rfl
  · exact (by decide : ∀ r : Fin 2, ∀ i j : Fin 2, dz_pr 2 r.val i.val = dz_pr 2 r.val j.val → i.val = j.val) ⟨r, hr⟩ ⟨i, hi⟩ ⟨j, hj⟩ e
  · exact (by decide +kernel : ∀ r : Fin 6, ∀ i j : Fin 3, dz_pr 3 r.val i.val = dz_pr 3 r.val j.val → i.val = j.val) ⟨r, hr⟩ ⟨i, hi⟩ ⟨j, hj⟩ e
  · exact (by decide +kernel : ∀ r : Fin 24, ∀ i j : Fin 4, dz_pr 4 r.val i.val = dz_pr 4 r.val j.val → i.val = j.val) ⟨r, hr⟩ ⟨i, hi⟩ ⟨j, hj⟩ e
theorem dz_pru {G r q : Nat} (hg : G = 2 ∨ G = 3 ∨ G = 4) (hr : r < dz_R G) (hq : q < dz_R G) (e : ∀ i, i < G → dz_pr G r i = dz_pr G q i) : r = q := by
  rcases hg with rfl | rfl | rfl
  · exact (by decide : ∀ r q : Fin 2, (∀ i : Fin 2, dz_pr 2 r.val i.val = dz_pr 2 q.val i.val) → r.val = q.val) ⟨r, hr⟩ ⟨q, hq⟩ (fun i => e i.val i.isLt)
  · exact (by decide +kernel : ∀ r q : Fin 6, (∀ i : Fin 3, dz_pr 3 r.val i.val = dz_pr 3 q.val i.val) → r.val = q.val) ⟨r, hr⟩ ⟨q, hq⟩ (fun i => e i.val i.isLt)
  · exact (by decide +kernel : ∀ r q : Fin 24, (∀ i : Fin 4, dz_pr 4 r.val i.val = dz_pr 4 q.val i.val) → r.val = q.val) ⟨r, hr⟩ ⟨q, hq⟩ (fun i => e i.val i.isLt)
/-- a swap of two groups in a rank's row is a rank's row -/
def dz_sv (v g h : Int) : Int := if v = g then h else if v = h then g else v
theorem dz_prs {G r g h : Nat} (hg : G = 2 ∨ G = 3 ∨ G = 4) (hr : r < dz_R G) (h1 : g < G) (h2 : h < G) : ∃ q, q < dz_R G ∧ ∀ i, i < G → dz_pr G q i = dz_sv (dz_pr G r i) g h := by
  rcases hg with rfl | rfl | rfl
  · obtain ⟨q, e⟩ := (by decide +kernel : ∀ r : Fin 2, ∀ g h : Fin 2, ∃ q : Fin 2, ∀ i : Fin 2, dz_pr 2 q.val i.val = dz_sv (dz_pr 2 r.val i.val) g.val h.val) ⟨r, hr⟩ ⟨g, h1⟩ ⟨h, h2⟩
    exact ⟨q.val, q.isLt, fun i hi => e ⟨i, hi⟩⟩
  · obtain ⟨q, e⟩ := (by decide +kernel : ∀ r : Fin 6, ∀ g h : Fin 3, ∃ q : Fin 6, ∀ i : Fin 3, dz_pr 3 q.val i.val = dz_sv (dz_pr 3 r.val i.val) g.val h.val) ⟨r, hr⟩ ⟨g, h1⟩ ⟨h, h2⟩
    exact ⟨q.val, q.isLt, fun i hi => e ⟨i, hi⟩⟩
  · obtain ⟨q, e⟩ := (by decide +kernel : ∀ r : Fin 24, ∀ g h : Fin 4, ∃ q : Fin 24, ∀ i : Fin 4, dz_pr 4 q.val i.val = dz_sv (dz_pr 4 r.val i.val) g.val h.val) ⟨r, hr⟩ ⟨g, h1⟩ ⟨h, h2⟩
    exact ⟨q.val, q.isLt, fun i hi => e ⟨i, hi⟩⟩
/-- a number that a row of unlike ones holds, from a place on -/
def dz_ex (a : Nat → Int32) (k : Int32) (n : Nat) (g : Int) : Prop := ∃ j : Nat, k.toInt ≤ (j : Int) ∧ j < n ∧ (a j).toInt = g
theorem dz_exp : ∀ (p : Fin 5) (g : Fin 4), g.val < p.val → ∀ xs ∈ dz_perms p.val, ∃ j : Fin 4, j.val < p.val ∧ xs[j.val]? = some (g.val : Int) := by decide +kernel
theorem dz_ex0 {a : Nat → Int32} {k : Int32} {p : Nat} {g : Int} (h : dz_pm a p) (hp : p ≤ 4) (hk : k.toInt = 0) (g0 : 0 ≤ g) (g1 : g < (p : Int)) : dz_ex a k p g := by
  obtain ⟨xs, hx, ht⟩ := h
  obtain ⟨j, hj, e⟩ := dz_exp ⟨p, by omega⟩ ⟨g.toNat, by omega⟩ (by show g.toNat < p; omega) xs hx
  refine ⟨j.val, by omega, hj, ?_⟩
  have := ht j.val _ e
  simp only at this
  omega
theorem dz_exl {a : Nat → Int32} {k : Int32} {n : Nat} {g : Int} (h : dz_ex a k n g) : k.toInt < (n : Int) := by
  obtain ⟨j, h1, h2, _⟩ := h
  omega
theorem dz_exs {a : Nat → Int32} {k k' : Int32} {n : Nat} {g : Int} (h : dz_ex a k n g) (k0 : 0 ≤ k.toInt) (hk : k'.toInt = k.toInt + 1) (hn : (a k.toNatClampNeg).toInt ≠ g) : dz_ex a k' n g := by
  obtain ⟨j, h1, h2, h3⟩ := h
  refine ⟨j, ?_, h2, h3⟩
  have t := dz_tn k
  rcases Int.lt_or_eq_of_le h1 with q | q
  · omega
  · exfalso
    apply hn
    rw [show k.toNatClampNeg = j by omega]
    exact h3
