/-! the reference's swaps -/
def dz_sq (L : List Int) (a : Nat → Int32) (lo : Int) (P : Nat) : Prop := ∀ p : Nat, lo < (p : Int) → p < P → (a p).toInt ∈ L
theorem dz_sq0 {L : List Int} {a : Nat → Int32} {lo : Int} {P : Nat} (h : (P : Int) ≤ lo + 1) : dz_sq L a lo P := fun p h1 h2 => by omega
theorem dz_sqs {L : List Int} {a : Nat → Int32} {k v : Int32} {lo lo' : Int} {P : Nat} (h : dz_sq L a lo P) (hk : k.toInt = lo) (k0 : 0 ≤ k.toInt) (hl : lo' = lo - 1) (hv : v.toInt ∈ L) : dz_sq L (upd a k.toNatClampNeg v) lo' P := fun p h1 h2 => by
  have t := dz_tn k
  show (if p = k.toNatClampNeg then v else a p).toInt ∈ L
  by_cases z : p = k.toNatClampNeg
  · rw [if_pos z]; exact hv
  · rw [if_neg z]; exact h p (by omega) h2
theorem dz_sqm {L : List Int} {a : Nat → Int32} {lo lo' : Int} {P : Nat} (h : dz_sq L a lo P) (e : lo ≤ lo') : dz_sq L a lo' P := fun p h1 h2 => h p (by omega) h2
theorem dz_sqat {L : List Int} {a : Nat → Int32} {P : Nat} {p : Int32} (h : dz_sq L a (-1) P) (p0 : 0 ≤ p.toInt) (p1 : p.toInt < (P : Int)) : (a p.toNatClampNeg).toInt ∈ L := h _ (by omega) (by have := dz_tn p; omega)
def dz_tq (G R : Nat) (a : Nat → Int32) (N : Nat) : Prop := ∀ r g h, r < R → g < G → h < G → 16 * r + 4 * g + h < N → 0 ≤ (a (16 * r + 4 * g + h)).toInt ∧ (a (16 * r + 4 * g + h)).toInt < (R : Int)
theorem dz_tq0 {G R N : Nat} {a : Nat → Int32} (h : N = 0) : dz_tq G R a N := fun r g k _ _ _ q => by omega
theorem dz_tqm {G R N M : Nat} {a : Nat → Int32} (h : dz_tq G R a N) (e : ∀ r g k, g < G → k < G → 16 * r + 4 * g + k < M → 16 * r + 4 * g + k < N) : dz_tq G R a M := fun r g k h1 h2 h3 h4 => h r g k h1 h2 h3 (e r g k h2 h3 h4)
theorem dz_tqs {G R N M : Nat} {a : Nat → Int32} {j v : Int32} (h : dz_tq G R a N) (hj : j.toInt = (N : Int)) (hM : M = N + 1) (v0 : 0 ≤ v.toInt) (v1 : v.toInt < (R : Int)) : dz_tq G R (upd a j.toNatClampNeg v) M := fun r g k h1 h2 h3 h4 => by
  have t := dz_tn j
  show 0 ≤ (if 16 * r + 4 * g + k = j.toNatClampNeg then v else a (16 * r + 4 * g + k)).toInt ∧ (if 16 * r + 4 * g + k = j.toNatClampNeg then v else a (16 * r + 4 * g + k)).toInt < (R : Int)
  by_cases z : 16 * r + 4 * g + k = j.toNatClampNeg
  · rw [if_pos z]; exact ⟨v0, v1⟩
  · rw [if_neg z]; exact h r g k h1 h2 h3 (by omega)
theorem dz_tqd {G R N : Nat} {a : Nat → Int32} (h : dz_tq G R a N) (hG : G ≤ 4) (e : 16 * R ≤ N) : dz_td G R a := fun r g k h1 h2 h3 => h r g k h1 h2 h3 (by omega)
def dz_ps (G r : Nat) (g h : Int) : Nat → Int
  | 0 => 0
  | n + 1 => dz_ps G r g h n + dz_sv (dz_pr G r n) g h * (((G + 1) ^ n : Nat) : Int)
theorem dz_ps0 {G r : Nat} {g h : Int} {v : Int32} {n : Nat} (hn : n = 0) (hv : v.toInt = 0) : v.toInt = dz_ps G r g h n := by rw [hn, hv]; rfl
theorem dz_pss {G r : Nat} {g h v N : Int} {a a' w : Int32} {n n' : Nat} (x : a.toInt = dz_ps G r g h n) (hn : n' = n + 1) (hv : v = dz_pr G r n) (hN : (((G + 1) ^ n : Nat) : Int) = N) (hw : (v = g ∧ w.toInt = h) ∨ (v ≠ g ∧ v = h ∧ w.toInt = g) ∨ (v ≠ g ∧ v ≠ h ∧ w.toInt = v)) (ha : a'.toInt = a.toInt + w.toInt * N) : a'.toInt = dz_ps G r g h n' := by
  subst hn
  show _ = dz_ps G r g h n + dz_sv (dz_pr G r n) g h * (((G + 1) ^ n : Nat) : Int)
  have e : dz_sv (dz_pr G r n) g h = w.toInt := by
    rw [← hv]
    unfold dz_sv
    rcases hw with ⟨q1, q2⟩ | ⟨q1, q2, q3⟩ | ⟨q1, q2, q3⟩
    · rw [if_pos q1]; exact q2.symm
    · rw [if_neg q1, if_pos q2]; exact q3.symm
    · rw [if_neg q1, if_neg q2]; exact q3.symm
  rw [e, hN, ← x]; exact ha
theorem dz_psd2 : ∀ r : Fin 2, ∀ g h : Fin 2, ∃ q : Fin 2, ∀ i : Fin 2, dz_dg 2 (dz_ps 2 r.val g.val h.val 2).toNat i.val < 2 → dz_pr 2 q.val i.val = ((dz_dg 2 (dz_ps 2 r.val g.val h.val 2).toNat i.val : Nat) : Int) := by decide +kernel
theorem dz_psd3 : ∀ r : Fin 6, ∀ g h : Fin 3, ∃ q : Fin 6, ∀ i : Fin 3, dz_dg 3 (dz_ps 3 r.val g.val h.val 3).toNat i.val < 3 → dz_pr 3 q.val i.val = ((dz_dg 3 (dz_ps 3 r.val g.val h.val 3).toNat i.val : Nat) : Int) := by decide +kernel
theorem dz_psd4 : ∀ r : Fin 24, ∀ g h : Fin 4, ∃ q : Fin 24, ∀ i : Fin 4, dz_dg 4 (dz_ps 4 r.val g.val h.val 4).toNat i.val < 4 → dz_pr 4 q.val i.val = ((dz_dg 4 (dz_ps 4 r.val g.val h.val 4).toNat i.val : Nat) : Int) := by decide +kernel
theorem dz_psf {G R n : Nat} {r g h v : Int32} (hG : G = 2 ∨ G = 3 ∨ G = 4) (hR : R = dz_R G) (x : v.toInt = dz_ps G r.toInt.toNat g.toInt h.toInt n) (hn : n = G) (r0 : 0 ≤ r.toInt) (r1 : r.toInt < (R : Int)) (g0 : 0 ≤ g.toInt) (g1 : g.toInt < (G : Int)) (h0 : 0 ≤ h.toInt) (h1 : h.toInt < (G : Int)) : dz_fe G R v.toInt.toNat := by
  subst hn hR
  rw [x]
  have eg : g.toInt = ((g.toInt.toNat : Nat) : Int) := by omega
  have eh : h.toInt = ((h.toInt.toNat : Nat) : Int) := by omega
  rw [eg, eh]
  rcases hG with rfl | rfl | rfl
  · have r2 : r.toInt.toNat < 2 := by have : dz_R 2 = 2 := rfl; omega
    obtain ⟨q, e⟩ := dz_psd2 ⟨r.toInt.toNat, r2⟩ ⟨g.toInt.toNat, by omega⟩ ⟨h.toInt.toNat, by omega⟩
    exact ⟨q.val, q.isLt, fun i hi hd => e ⟨i, hi⟩ hd⟩
  · have r2 : r.toInt.toNat < 6 := by have : dz_R 3 = 6 := rfl; omega
    obtain ⟨q, e⟩ := dz_psd3 ⟨r.toInt.toNat, r2⟩ ⟨g.toInt.toNat, by omega⟩ ⟨h.toInt.toNat, by omega⟩
    exact ⟨q.val, q.isLt, fun i hi hd => e ⟨i, hi⟩ hd⟩
  · have r2 : r.toInt.toNat < 24 := by have : dz_R 4 = 24 := rfl; omega
    obtain ⟨q, e⟩ := dz_psd4 ⟨r.toInt.toNat, r2⟩ ⟨g.toInt.toNat, by omega⟩ ⟨h.toInt.toNat, by omega⟩
    exact ⟨q.val, q.isLt, fun i hi hd => e ⟨i, hi⟩ hd⟩
/-- how many draws are in no part yet -/
def dz_czn (a : Nat → Int32) : Nat → Nat
  | 0 => 0
  | n + 1 => dz_czn a n + (if (a n).toInt = -1 then 1 else 0)
def dz_cw (a : Nat → Int32) (k : Int) : Prop := ∀ N : Nat, N = 13824 → k + ((dz_czn a N : Nat) : Int) ≤ (N : Int)
theorem dz_cznb (a : Nat → Int32) (n : Nat) : dz_czn a n ≤ n := by
  induction n with
  | zero => exact Nat.le_refl _
  | succ n ih =>
    show dz_czn a n + (if (a n).toInt = -1 then 1 else 0) ≤ n + 1
    split <;> omega
theorem dz_czno {a : Nat → Int32} {i n : Nat} {v : Int32} (h : n ≤ i) : dz_czn (upd a i v) n = dz_czn a n := by
  induction n with
  | zero => rfl
  | succ n ih =>
    show dz_czn (upd a i v) n + (if (if n = i then v else a n).toInt = -1 then 1 else 0) = dz_czn a n + (if (a n).toInt = -1 then 1 else 0)
    rw [ih (by omega), if_neg (show ¬ n = i by omega)]
theorem dz_cznu {a : Nat → Int32} {i n : Nat} {v : Int32} (h : i < n) (ha : (a i).toInt = -1) (hv : v.toInt ≠ -1) : dz_czn (upd a i v) n + 1 = dz_czn a n := by
  induction n with
  | zero => omega
  | succ n ih =>
    show dz_czn (upd a i v) n + (if (if n = i then v else a n).toInt = -1 then 1 else 0) + 1 = dz_czn a n + (if (a n).toInt = -1 then 1 else 0)
    by_cases z : n = i
    · rw [if_pos z, if_neg hv, z, if_pos ha, dz_czno (Nat.le_refl i)]
    · rw [if_neg z]
      have := ih (by omega)
      omega
theorem dz_cw1 {a : Nat → Int32} {i v : Int32} {k : Int} (i0 : 0 ≤ i.toInt) (i1 : i.toInt < 13824) (hv : v.toInt ≠ -1) (ha : (a i.toNatClampNeg).toInt = -1) (hk : k = 1) : dz_cw (upd a i.toNatClampNeg v) k := fun N hN => by
  have e := dz_cznu (a := a) (i := i.toNatClampNeg) (n := N) (v := v) (by have := dz_tn i; omega) ha hv
  have b := dz_cznb a N
  omega
theorem dz_cws {a : Nat → Int32} {i v : Int32} {k k' : Int} (h : dz_cw a k) (i0 : 0 ≤ i.toInt) (i1 : i.toInt < 13824) (hv : v.toInt ≠ -1) (ha : (a i.toNatClampNeg).toInt = -1) (hk : k' = k + 1) : dz_cw (upd a i.toNatClampNeg v) k' := fun N hN => by
  have e := dz_cznu (a := a) (i := i.toNatClampNeg) (n := N) (v := v) (by have := dz_tn i; omega) ha hv
  have b := h N hN
  omega
theorem dz_cwb {a : Nat → Int32} {i : Int32} {k : Int} (h : dz_cw a k) (i0 : 0 ≤ i.toInt) (i1 : i.toInt < 13824) : k ≤ 13824 ∧ ((a i.toNatClampNeg).toInt ≠ -1 ∨ k < 13824) := by
  obtain ⟨N, hN⟩ : ∃ N : Nat, N = 13824 := ⟨_, rfl⟩
  have b := h N hN
  refine ⟨by omega, ?_⟩
  rcases Classical.em ((a i.toNatClampNeg).toInt = -1) with q | q
  · right
    have e := dz_cznu (a := a) (i := i.toNatClampNeg) (n := N) (v := 0) (by have := dz_tn i; omega) q (by decide)
    omega
  · exact Or.inl q
