/-! Ranks.set -/
def dz_sg (v0 v1 v4 : Int32) : Int32 := (1 : Int32) <<< (((dz_ush v0 ((2 : Int32) * ((v1 - 1) - v4))) &&& 3) &&& 31)
def dz_s2 (v0 : Int32) : Bool := (((0 : Int32) ||| dz_sg v0 2 0) ||| dz_sg v0 2 (0 + 1)) = (((1 : Int32) <<< ((2 : Int32) &&& 31)) - 1)
def dz_s3 (v0 : Int32) : Bool := ((((0 : Int32) ||| dz_sg v0 3 0) ||| dz_sg v0 3 (0 + 1)) ||| dz_sg v0 3 (0 + 1 + 1)) = (((1 : Int32) <<< ((3 : Int32) &&& 31)) - 1)
def dz_s4 (v0 : Int32) : Bool := (((((0 : Int32) ||| dz_sg v0 4 0) ||| dz_sg v0 4 (0 + 1)) ||| dz_sg v0 4 (0 + 1 + 1)) ||| dz_sg v0 4 (0 + 1 + 1 + 1)) = (((1 : Int32) <<< ((4 : Int32) &&& 31)) - 1)
theorem dz_rrx (fu : Nat) (v0 v1 v3 v4 : Int32) (a : Nat → Int32) (k : Nat) (h1 : v1.toInt ≤ v4.toInt) (b : Bool) (hb : b = decide (v3 = ((1 : Int32) <<< (v1 &&& 31)) - 1)) :
    dz_P ((F126_X4_readRow fu (k + 2)).1 v0 v1 v3 v4 a) (fun r => r.1.toInt = 0 ↔ b = false) := by
  show dz_P (s126_X4_readRow_1 fu _ (s126_X4_readRow_2 fu) v0 v1 v3 v4 a) _
  unfold s126_X4_readRow_1
  rw [if_pos (Int32.le_iff_toInt_le.mpr h1)]
  unfold s126_X4_readRow_2
  have l1 : (1 : Int32).toInt = 1 := by decide
  have l0 : (0 : Int32).toInt = 0 := by decide
  by_cases h : v3 = ((1 : Int32) <<< (v1 &&& 31)) - 1
  · rw [if_pos h]
    refine dz_Ps ?_
    rw [hb, decide_eq_true h, l1]
    simp
  · rw [if_neg h]
    refine dz_Ps ?_
    rw [hb, decide_eq_false h, l0]
    simp
theorem dz_rok2 (fu : Nat) (hfu : 1000000000000 ≤ fu) (v0 : Int32) (a : Nat → Int32) : dz_P (f126_X4_readRow fu v0 2 a) (fun r => r.1.toInt = 0 ↔ dz_s2 v0 = false) := by
  obtain ⟨k, hk⟩ : ∃ k, fu = k + 6 := ⟨fu - 6, by omega⟩
  suffices ∀ n, n = k + 6 → dz_P ((F126_X4_readRow fu n).1 v0 2 0 0 a) (fun r => r.1.toInt = 0 ↔ dz_s2 v0 = false) from this fu hk
  intro n hn
  subst hn
  rw [dz_rrs _ _ _ _ _ _ _ (by decide) (by decide) (by decide)]
  rw [dz_rrs _ _ _ _ _ _ _ (by decide) (by decide) (by decide)]
  exact dz_rrx _ _ _ _ _ _ _ (by decide) _ rfl
theorem dz_rok3 (fu : Nat) (hfu : 1000000000000 ≤ fu) (v0 : Int32) (a : Nat → Int32) : dz_P (f126_X4_readRow fu v0 3 a) (fun r => r.1.toInt = 0 ↔ dz_s3 v0 = false) := by
  obtain ⟨k, hk⟩ : ∃ k, fu = k + 6 := ⟨fu - 6, by omega⟩
  suffices ∀ n, n = k + 6 → dz_P ((F126_X4_readRow fu n).1 v0 3 0 0 a) (fun r => r.1.toInt = 0 ↔ dz_s3 v0 = false) from this fu hk
  intro n hn
  subst hn
  rw [dz_rrs _ _ _ _ _ _ _ (by decide) (by decide) (by decide)]
  rw [dz_rrs _ _ _ _ _ _ _ (by decide) (by decide) (by decide)]
  rw [dz_rrs _ _ _ _ _ _ _ (by decide) (by decide) (by decide)]
  exact dz_rrx _ _ _ _ _ _ _ (by decide) _ rfl
theorem dz_rok4 (fu : Nat) (hfu : 1000000000000 ≤ fu) (v0 : Int32) (a : Nat → Int32) : dz_P (f126_X4_readRow fu v0 4 a) (fun r => r.1.toInt = 0 ↔ dz_s4 v0 = false) := by
  obtain ⟨k, hk⟩ : ∃ k, fu = k + 6 := ⟨fu - 6, by omega⟩
  suffices ∀ n, n = k + 6 → dz_P ((F126_X4_readRow fu n).1 v0 4 0 0 a) (fun r => r.1.toInt = 0 ↔ dz_s4 v0 = false) from this fu hk
  intro n hn
  subst hn
  rw [dz_rrs _ _ _ _ _ _ _ (by decide) (by decide) (by decide)]
  rw [dz_rrs _ _ _ _ _ _ _ (by decide) (by decide) (by decide)]
  rw [dz_rrs _ _ _ _ _ _ _ (by decide) (by decide) (by decide)]
  rw [dz_rrs _ _ _ _ _ _ _ (by decide) (by decide) (by decide)]
  exact dz_rrx _ _ _ _ _ _ _ (by decide) _ rfl
def dz_cnS (f : Int32 → Bool) (k : Nat) : Nat := Nat.rec (motive := fun _ => Nat) 0 (fun j c => c + (if f (Int32.ofNat j) then 1 else 0)) k
theorem dz_cns (f : Int32 → Bool) (k : Nat) : dz_cnS f (k + 1) = dz_cnS f k + (if f (Int32.ofNat k) then 1 else 0) := rfl
theorem dz_cnm (f : Int32 → Bool) (k j : Nat) : dz_cnS f k ≤ dz_cnS f (k + j) := by
  induction j with
  | zero => exact Nat.le_refl _
  | succ j ih =>
    have := dz_cns f (k + j)
    rw [show k + (j + 1) = (k + j) + 1 by omega, this]
    omega
theorem dz_cn2 : dz_cnS dz_s2 16 = 2 := by decide +kernel
theorem dz_cn3 : dz_cnS dz_s3 64 = 6 := by decide +kernel
theorem dz_cn4 : dz_cnS dz_s4 256 = 24 := by decide +kernel
/-- a row of unlike numbers has each -/
theorem dz_pmo {a : Nat → Int32} {p : Nat} (hp : p ≤ 4) (h : dz_pm a p) {g : Nat} (hg : g < p) : ∃ j, j < p ∧ (a j).toInt = (g : Int) := by
  obtain ⟨xs, hx, ht⟩ := h
  have key : ∀ p : Fin 5, ∀ xs ∈ dz_perms p.val, ∀ g : Fin p.val, ∃ j : Fin p.val, xs[j.val]? = some (g.val : Int) := by decide
  obtain ⟨j, hj⟩ := key ⟨p, by omega⟩ xs hx ⟨g, hg⟩
  exact ⟨j.val, j.isLt, ht _ _ hj⟩
theorem dz_adr (fu : Nat) (c261_groups : Int32) (a266 : Nat → Int32) (c261_many : Int32) (a262 a263 a264 : Nat → Int32) (G m : Nat) (hG : c261_groups.toInt = (G : Int)) (hG4 : G ≤ 4) (hm : c261_many.toInt = (m : Int)) (hm3 : m ≤ 23) (hp : dz_pm a266 G) (hb : dz_rg a266 4 0 3) (hq : dz_rq a263 m G 0 ((G : Int) - 1)) : dz_P (f127_X4_addRow fu c261_groups a266 c261_many a262 a263 a264) (fun r => r.1.toInt = (m : Int) + 1 ∧ dz_rq r.2.2.1 (m + 1) G 0 ((G : Int) - 1)) := by
  have l0 : (0 : Int32).toInt = 0 := by decide
  have l1 : (1 : Int32).toInt = 1 := by decide
  have l4 : (4 : Int32).toInt = 4 := by decide
  suffices ∀ (k : Nat) (v1 : Int32) (a262 a263 a264 : Nat → Int32), 0 ≤ v1.toInt → dz_rq a263 m G 0 ((G : Int) - 1) → (∀ j : Nat, (j : Int) < v1.toInt → j < 4 → 0 ≤ (a263 (4 * m + (a266 j).toInt.toNat)).toInt ∧ (a263 (4 * m + (a266 j).toInt.toNat)).toInt ≤ (G : Int) - 1) → dz_P ((F127_X4_addRow fu c261_groups a266 k) v1 c261_many a262 a263 a264) (fun r => r.1.toInt = (m : Int) + 1 ∧ dz_rq r.2.2.1 (m + 1) G 0 ((G : Int) - 1)) from
    this fu 0 a262 a263 a264 (by omega) hq (fun j hj _ => by omega)
  intro k
  induction k with
  | zero => intro v1 a262 a263 a264 _ _ _; exact dz_Pn
  | succ k ih =>
    intro v1 a262 a263 a264 h0 hq hi
    show dz_P (s127_X4_addRow_1 fu c261_groups a266 (F127_X4_addRow fu c261_groups a266 k) v1 c261_many a262 a263 a264) _
    unfold s127_X4_addRow_1
    refine dz_Pi (fun h => dz_Ps ⟨?_, ?_⟩) (fun h => ?_)
    · have e := dz_add (a := c261_many) (b := 1) (by omega) (by omega)
      show (c261_many + 1).toInt = _
      omega
    · have h' := Int32.le_iff_toInt_le.mp h
      intro r g hr hg
      by_cases q : r < m
      · exact hq r g q hg
      · have e : r = m := by omega
        subst e
        obtain ⟨j, hj, hv⟩ := dz_pmo hG4 hp hg
        have w := hi j (by omega) (by omega)
        rw [hv] at w
        exact w
    · have h' := dz_fnle h
      refine dz_Pi (fun g1 => ?_) (fun _ => dz_Pn)
      refine dz_Pi (fun g2 => ?_) (fun _ => dz_Pn)
      refine dz_Pi (fun g3 => ?_) (fun _ => dz_Pn)
      refine dz_Pi (fun g4 => ?_) (fun _ => dz_Pn)
      refine dz_Pi (fun g5 => ?_) (fun _ => dz_Pn)
      have b := dz_rgat hb (i := v1) h0 (by omega)
      have e4 := dz_mulr (a := c261_many) (b := 4) 4 l4 (by omega) (by omega)
      have e := dz_add (a := c261_many * 4) (b := a266 v1.toNatClampNeg) (by omega) (by omega)
      have t := dz_tn ((c261_many * 4) + (a266 v1.toNatClampNeg))
      have tv := dz_tn v1
      have ev := dz_add (a := v1) (b := 1) (by omega) (by omega)
      refine ih _ _ _ _ (by omega) ?_ ?_
      · intro r g hr hg
        have w := hq r g hr hg
        show 0 ≤ (if 4 * r + g = ((c261_many * 4) + (a266 v1.toNatClampNeg)).toNatClampNeg then v1 else a263 (4 * r + g)).toInt ∧ (if 4 * r + g = ((c261_many * 4) + (a266 v1.toNatClampNeg)).toNatClampNeg then v1 else a263 (4 * r + g)).toInt ≤ _
        rw [if_neg (by omega)]
        exact w
      · intro j hj hj4
        show 0 ≤ (if 4 * m + (a266 j).toInt.toNat = ((c261_many * 4) + (a266 v1.toNatClampNeg)).toNatClampNeg then v1 else a263 (4 * m + (a266 j).toInt.toNat)).toInt ∧ (if 4 * m + (a266 j).toInt.toNat = ((c261_many * 4) + (a266 v1.toNatClampNeg)).toNatClampNeg then v1 else a263 (4 * m + (a266 j).toInt.toNat)).toInt ≤ _
        by_cases q : 4 * m + (a266 j).toInt.toNat = ((c261_many * 4) + (a266 v1.toNatClampNeg)).toNatClampNeg
        · rw [if_pos q]; omega
        · rw [if_neg q]
          by_cases qj : (j : Int) < v1.toInt
          · exact hi j qj hj4
          · exfalso
            have : j = v1.toNatClampNeg := by omega
            subst this
            omega
theorem dz_setL (fu : Nat) (hfu : 1000000000000 ≤ fu) (κ : Nat) (hκ : κ < 14) (g m e : Int32) (a262 a263 a264 a266 : Nat → Int32) (hg : g.toInt = ((dz_kg κ : Nat) : Int)) (hm : m.toInt = ((dz_kr κ : Nat) : Int)) (he : e.toInt = ((dz_ke κ : Nat) : Int)) (h2 : dz_rg a262 96 0 3) (h4 : dz_rg a264 16 0 16777215) :
    ∀ (d k : Nat) (v2 sw : Int32) (a265 : Nat → Int32), d + 1 ≤ k → 0 ≤ v2.toInt → v2.toInt + (d : Int) = ((dz_kr κ : Nat) : Int) → (d ≠ 0 ∨ sw.toInt = ((dz_kw κ : Nat) : Int)) → dz_rv a265 (dz_kw κ) (dz_kr κ) v2.toInt 0 → dz_T ((F133_X4_set fu k).2.1 v2 g m e sw a262 a263 a264 a265 a266) (fun r => r.1 = g ∧ r.2.1 = m ∧ r.2.2.1 = e ∧ r.2.2.2.1.toInt = ((dz_kw κ : Nat) : Int) ∧ r.2.2.2.2.1 = a262 ∧ r.2.2.2.2.2.1 = a263 ∧ r.2.2.2.2.2.2.1 = a264 ∧ dz_rt r.2.2.2.2.2.2.2.1 (dz_kr κ) (dz_kw κ) 0 (((dz_kr κ : Nat) : Int) - 1) ∧ r.2.2.2.2.2.2.2.2 = a266) := by
  have l1 : (1 : Int32).toInt = 1 := by decide
  have k4 := dz_kr4 hκ
  have kk := dz_kall (P := fun k => dz_kg k ≤ 4 ∧ dz_ke k ≤ 16777215) (by decide) hκ
  intro d
  induction d with
  | zero =>
    intro k v2 sw a265 hk h0 hv hs hr
    obtain ⟨k0, rfl⟩ : ∃ x, k = x + 1 := ⟨k - 1, by omega⟩
    show dz_T (s133_X4_set_2 fu _ v2 g m e sw a262 a263 a264 a265 a266) _
    unfold s133_X4_set_2
    rw [if_pos (Int32.le_iff_toInt_le.mpr (by omega))]
    refine dz_Ts ⟨rfl, rfl, rfl, ?_, rfl, rfl, rfl, ?_, rfl⟩
    · rcases hs with hs | hs
      · exact absurd rfl hs
      · exact hs
    · refine dz_rvt ?_
      have e2 : v2.toInt = ((dz_kr κ : Nat) : Int) := by omega
      rw [← e2]
      exact hr
  | succ d ih =>
    intro k v2 sw a265 hk h0 hv hs hr
    obtain ⟨k0, rfl⟩ : ∃ x, k = x + 1 := ⟨k - 1, by omega⟩
    show dz_T (s133_X4_set_2 fu (F133_X4_set fu k0).2.1 v2 g m e sw a262 a263 a264 a265 a266) _
    unfold s133_X4_set_2
    rw [if_neg (fun h => by have := Int32.le_iff_toInt_le.mp h; omega)]
    refine dz_Tb (t132_X4_setSwaps_s fu hfu κ hκ g e a262 a264 v2 sw a265 (by omega) (by omega) (by omega) (by omega) (by omega) (by omega) h2 h4 hr (by omega) hg he) (fun r q => ?_)
    obtain ⟨_, _, _, _, q5, q6⟩ := q
    have ev := dz_add (a := v2) (b := 1) (by omega) (by omega)
    refine ih k0 (v2 + 1) r.1 r.2 (by omega) (by omega) (by omega) (Or.inr q5) ?_
    rw [ev, l1]
    exact q6
theorem dz_setN (fu : Nat) (hfu : 1000000000000 ≤ fu) (κ : Nat) (hκ : κ < 14) (v1 g : Int32) (N : Nat) (okb : Int32 → Bool) (hg : g.toInt = ((dz_kg κ : Nat) : Int))
    (hN : ((1 : Int32) <<< (((2 : Int32) * v1) &&& 31)).toInt = (N : Int)) (hN2 : N ≤ 256)
    (hok : ∀ (v0 : Int32) (a : Nat → Int32), dz_rg a 4 0 3 → dz_T (f126_X4_readRow fu v0 v1 a) (fun r => (r.1.toInt = 0 ↔ okb v0 = false) ∧ dz_rg r.2 4 0 3 ∧ (r.1.toInt = 0 ∨ dz_pm r.2 (dz_kg κ))))
    (hcn : dz_cnS okb N = dz_kr κ) (he : ∀ m : Int32, m.toInt = ((dz_kr κ : Nat) : Int) → (((1 : Int32) <<< (m &&& 31)) - 1).toInt = ((dz_ke κ : Nat) : Int)) :
    ∀ (d k n : Nat) (v2 m e sw : Int32) (a262 a263 a264 a265 a266 : Nat → Int32), 2 * d + 30 ≤ k → v2.toInt = (n : Int) → n + d = N → m.toInt = ((dz_cnS okb n : Nat) : Int) → dz_rg a262 96 0 3 → dz_rq a263 (dz_cnS okb n) (dz_kg κ) 0 (((dz_kg κ : Nat) : Int) - 1) → dz_rg a264 16 0 16777215 → dz_rg a266 4 0 3 →
    dz_T ((F133_X4_set fu k).1 v1 v2 g m e sw a262 a263 a264 a265 a266) (fun r => r.1.toInt = ((dz_kg κ : Nat) : Int) ∧ r.2.1.toInt = ((dz_kr κ : Nat) : Int) ∧ r.2.2.1.toInt = ((dz_ke κ : Nat) : Int) ∧ r.2.2.2.1.toInt = ((dz_kw κ : Nat) : Int) ∧ dz_rg r.2.2.2.2.1 96 0 3 ∧ dz_rq r.2.2.2.2.2.1 (dz_kr κ) (dz_kg κ) 0 (((dz_kg κ : Nat) : Int) - 1) ∧ dz_rg r.2.2.2.2.2.2.1 16 0 16777215 ∧ dz_rt r.2.2.2.2.2.2.2.1 (dz_kr κ) (dz_kw κ) 0 (((dz_kr κ : Nat) : Int) - 1) ∧ dz_rg r.2.2.2.2.2.2.2.2 4 0 3) := by
  have l0 : (0 : Int32).toInt = 0 := by decide
  have l1 : (1 : Int32).toInt = 1 := by decide
  have l24 : (24 : Int32).toInt = 24 := by decide
  have k4 := dz_kr4 hκ
  have kg := dz_kall (P := fun k => 2 ≤ dz_kg k ∧ dz_kg k ≤ 4) (by decide) hκ
  intro d
  induction d with
  | zero =>
    intro k n v2 m e sw a262 a263 a264 a265 a266 hk hv hn hm h2 h3 h4 h6
    have en : n = N := by omega
    subst en
    rw [hcn] at hm h3
    obtain ⟨k0, rfl⟩ : ∃ x, k = x + 1 := ⟨k - 1, by omega⟩
    show dz_T (s133_X4_set_1 fu (F133_X4_set fu k0).2.1 (F133_X4_set fu k0).2.2 v1 v2 g m e sw a262 a263 a264 a265 a266) _
    unfold s133_X4_set_1
    rw [if_pos (Int32.le_iff_toInt_le.mpr (by omega))]
    refine dz_Tw (dz_setL fu hfu κ hκ g m _ a262 a263 a264 a266 hg hm (he m hm) h2 h4 (dz_kr κ) k0 0 sw a265 (by omega) (by omega) (by omega) (Or.inl (by omega)) (by rw [l0]; exact dz_rv0)) (fun r q => ?_)
    obtain ⟨q1, q2, q3, q4, q5, q6, q7, q8, q9⟩ := q
    refine ⟨by rw [q1]; exact hg, by rw [q2]; exact hm, by rw [q3]; exact he m hm, q4, by rw [q5]; exact h2, by rw [q6]; exact h3, by rw [q7]; exact h4, q8, by rw [q9]; exact h6⟩
  | succ d ih =>
    intro k n v2 m e sw a262 a263 a264 a265 a266 hk hv hn hm h2 h3 h4 h6
    obtain ⟨k0, rfl⟩ : ∃ x, k = x + 2 := ⟨k - 2, by omega⟩
    show dz_T (s133_X4_set_1 fu (F133_X4_set fu (k0 + 1)).2.1 (s133_X4_set_3 fu (F133_X4_set fu k0).1) v1 v2 g m e sw a262 a263 a264 a265 a266) _
    unfold s133_X4_set_1
    rw [if_neg (fun h => by have := Int32.le_iff_toInt_le.mp h; omega)]
    have ev := dz_add (a := v2) (b := 1) (by omega) (by omega)
    have vn : v2 = Int32.ofNat n := dz_eqn hv (by omega)
    have c1 := dz_cns okb n
    have c2 := dz_cnm okb (n + 1) d
    rw [show n + 1 + d = N by omega, hcn] at c2
    have go : ∀ (m' e' sw' : Int32) (b2 b3 b4 b5 b6 : Nat → Int32), m'.toInt = ((dz_cnS okb (n + 1) : Nat) : Int) → dz_rg b2 96 0 3 → dz_rq b3 (dz_cnS okb (n + 1)) (dz_kg κ) 0 (((dz_kg κ : Nat) : Int) - 1) → dz_rg b4 16 0 16777215 → dz_rg b6 4 0 3 → dz_T (s133_X4_set_3 fu (F133_X4_set fu k0).1 v1 v2 g m' e' sw' b2 b3 b4 b5 b6) _ := fun m' e' sw' b2 b3 b4 b5 b6 x1 x2 x3 x4 x6 => by
      unfold s133_X4_set_3
      exact ih k0 (n + 1) (v2 + 1) m' e' sw' b2 b3 b4 b5 b6 (by omega) (by omega) (by omega) x1 x2 x3 x4 x6
    refine dz_Ti (fun h => ?_) (fun h => ?_)
    · have h' := Int32.le_iff_toInt_le.mp h
      have c3 : dz_cnS okb (n + 1) = dz_cnS okb n := by
        rw [c1] at c2 ⊢
        by_cases q : okb (Int32.ofNat n) = true
        · rw [if_pos q] at c2; omega
        · rw [if_neg q]; omega
      refine go _ _ _ _ _ _ _ _ ?_ h2 ?_ h4 h6
      · rw [c3]; exact hm
      · rw [c3]; exact h3
    · have h' := dz_fnle h
      refine dz_Tb (hok v2 a266 h6) (fun r q => ?_)
      obtain ⟨q1, q2, q3⟩ := q
      refine dz_Ti (fun h9 => ?_) (fun h9 => ?_)
      · have z : okb v2 = false := q1.mp (by rw [h9]; exact l0)
        rw [vn] at z
        have c3 : dz_cnS okb (n + 1) = dz_cnS okb n := by rw [c1, z]; rfl
        refine go _ _ _ _ _ _ _ _ ?_ h2 ?_ h4 q2
        · rw [c3]; exact hm
        · rw [c3]; exact h3
      · have z9 : r.1.toInt ≠ 0 := by have := dz_fne h9; omega
        have z : okb v2 = true := by
          cases w : okb v2 with
          | true => rfl
          | false => exact absurd (q1.mpr w) z9
        rw [vn] at z
        have c3 : dz_cnS okb (n + 1) = dz_cnS okb n + 1 := by rw [c1, z]; rfl
        have pm := q3.resolve_left z9
        refine dz_Tb (dz_TP (t127_X4_addRow_s fu hfu κ hκ g r.2 m a262 a263 a264 (by omega) (by omega) (by omega) (by omega) q2 h2 h4 hg) (dz_adr fu g r.2 m a262 a263 a264 (dz_kg κ) (dz_cnS okb n) hg (by omega) hm (by omega) pm q2 h3)) (fun r' q' => ?_)
        obtain ⟨⟨_, _, y2, y4⟩, y1, y3⟩ := q'
        refine go _ _ _ _ _ _ _ _ ?_ y2 ?_ y4 q2
        · rw [y1, c3]; rfl
        · rw [c3]; exact y3
theorem dz_set (fu : Nat) (hfu : 1000000000000 ≤ fu) (κ0 : Nat) (hκ0 : κ0 < 14) (κ : Nat) (hκ : κ < 14) (v1 c261_groups c261_many c261_everyRank c261_swapsAPot : Int32) (a262 a263 a264 a265 a266 : Nat → Int32) (hv : v1.toInt = ((dz_kg κ : Nat) : Int))
    (o1 : c261_groups.toInt = ((dz_kg κ0 : Nat) : Int)) (o2 : c261_many.toInt = ((dz_kr κ0 : Nat) : Int)) (o3 : c261_everyRank.toInt = ((dz_ke κ0 : Nat) : Int)) (o4 : c261_swapsAPot.toInt = ((dz_kw κ0 : Nat) : Int)) (h2 : dz_rg a262 96 0 3) (h3 : dz_rq a263 (dz_kr κ0) (dz_kg κ0) 0 (((dz_kg κ0 : Nat) : Int) - 1)) (h4 : dz_rg a264 16 0 16777215) (h5 : dz_rt a265 (dz_kr κ0) (dz_kw κ0) 0 (((dz_kr κ0 : Nat) : Int) - 1)) (h6 : dz_rg a266 4 0 3) :
    dz_T (f133_X4_set fu v1 c261_groups c261_many c261_everyRank c261_swapsAPot a262 a263 a264 a265 a266) (fun r => r.1.toInt = ((dz_kg κ : Nat) : Int) ∧ r.2.1.toInt = ((dz_kr κ : Nat) : Int) ∧ r.2.2.1.toInt = ((dz_ke κ : Nat) : Int) ∧ r.2.2.2.1.toInt = ((dz_kw κ : Nat) : Int) ∧ dz_rg r.2.2.2.2.1 96 0 3 ∧ dz_rq r.2.2.2.2.2.1 (dz_kr κ) (dz_kg κ) 0 (((dz_kg κ : Nat) : Int) - 1) ∧ dz_rg r.2.2.2.2.2.2.1 16 0 16777215 ∧ dz_rt r.2.2.2.2.2.2.2.1 (dz_kr κ) (dz_kw κ) 0 (((dz_kr κ : Nat) : Int) - 1) ∧ dz_rg r.2.2.2.2.2.2.2.2 4 0 3) := by
  have l1 : (1 : Int32).toInt = 1 := by decide
  have l4 : (4 : Int32).toInt = 4 := by decide
  have kg := dz_kall (P := fun k => dz_kg k = 2 ∨ dz_kg k = 3 ∨ dz_kg k = 4) (by decide) hκ
  unfold f133_X4_set s133_X4_set_0
  refine dz_Ti (fun h => ?_) (fun h => ?_)
  · subst h
    have key : ∀ a b : Fin 14, dz_kg a.val = dz_kg b.val → dz_kr a.val = dz_kr b.val ∧ dz_ke a.val = dz_ke b.val ∧ dz_kw a.val = dz_kw b.val := by decide
    have e0 : dz_kg κ0 = dz_kg κ := by omega
    obtain ⟨e1, e2, e3⟩ := key ⟨κ0, hκ0⟩ ⟨κ, hκ⟩ e0
    simp only at e1 e2 e3
    rw [← e0, ← e1, ← e2, ← e3]
    exact dz_Ts ⟨o1, o2, o3, o4, h2, h3, h4, h5, h6⟩
  · rw [if_neg (fun h => by have := Int32.lt_iff_toInt_lt.mp h; omega), if_pos (Int32.le_iff_toInt_le.mpr (by omega))]
    have hf : dz_T (f125_J7_fill_53178 fu 0 a264) (fun r => dz_rg r 16 0 16777215) := t125_J7_fill_53178 fu hfu 0 a264 0 16777215 (by decide) (by decide) h4
    refine dz_Tb hf (fun r q => ?_)
    have fin : ∀ (N : Nat) (okb : Int32 → Bool), ((1 : Int32) <<< (((2 : Int32) * v1) &&& 31)).toInt = (N : Int) → N ≤ 256 → (∀ v0 a, dz_P (f126_X4_readRow fu v0 v1 a) (fun r => r.1.toInt = 0 ↔ okb v0 = false)) → dz_cnS okb N = dz_kr κ → (∀ m : Int32, m.toInt = ((dz_kr κ : Nat) : Int) → (((1 : Int32) <<< (m &&& 31)) - 1).toInt = ((dz_ke κ : Nat) : Int)) → dz_T ((F133_X4_set fu fu).1 v1 0 v1 0 c261_everyRank c261_swapsAPot a262 a263 r a265 a266) _ :=
      fun N okb hN hN2 hok hcn he => dz_setN fu hfu κ hκ v1 v1 N okb hv hN hN2 (fun v0 a ha => dz_Tw (dz_TP (t126_X4_readRow_m fu hfu v0 v1 a (dz_kg κ) (by omega) hv ha) (hok v0 a)) (fun r q => ⟨q.2, q.1.2.2.1, q.1.2.2.2⟩)) hcn he N fu 0 0 0 c261_everyRank c261_swapsAPot a262 a263 r a265 a266 (by omega) (by decide) (by omega) (show (0 : Int32).toInt = ((0 : Nat) : Int) by decide) h2 (fun r g hr hg => absurd hr (Nat.not_lt_zero _)) q h6
    have em : ∀ (c : Nat) (m : Int32), c ≤ 30 → m.toInt = (c : Int) → m = Int32.ofNat c := fun c m hc hm => dz_eqn hm (by omega)
    rcases kg with k2 | k3 | k4
    · have ev : v1 = 2 := Int32.toInt_inj.mp (by rw [hv, k2]; decide)
      subst ev
      have kr : dz_kr κ = 2 ∧ dz_ke κ = 3 := dz_kall (P := fun k => dz_kg k = 2 → dz_kr k = 2 ∧ dz_ke k = 3) (by decide) hκ k2
      refine fin 16 dz_s2 (by decide) (by decide) (dz_rok2 fu hfu) (by rw [kr.1]; exact dz_cn2) (fun m hm => ?_)
      rw [kr.1] at hm
      rw [em 2 m (by decide) hm, kr.2]
      decide
    · have ev : v1 = 3 := Int32.toInt_inj.mp (by rw [hv, k3]; decide)
      subst ev
      have kr : dz_kr κ = 6 ∧ dz_ke κ = 63 := dz_kall (P := fun k => dz_kg k = 3 → dz_kr k = 6 ∧ dz_ke k = 63) (by decide) hκ k3
      refine fin 64 dz_s3 (by decide) (by decide) (dz_rok3 fu hfu) (by rw [kr.1]; exact dz_cn3) (fun m hm => ?_)
      rw [kr.1] at hm
      rw [em 6 m (by decide) hm, kr.2]
      decide
    · have ev : v1 = 4 := Int32.toInt_inj.mp (by rw [hv, k4]; decide)
      subst ev
      have kr : dz_kr κ = 24 ∧ dz_ke κ = 16777215 := dz_kall (P := fun k => dz_kg k = 4 → dz_kr k = 24 ∧ dz_ke k = 16777215) (by decide) hκ k4
      refine fin 256 dz_s4 (by decide) (by decide) (dz_rok4 fu hfu) (by rw [kr.1]; exact dz_cn4) (fun m hm => ?_)
      rw [kr.1] at hm
      rw [em 24 m (by decide) hm, kr.2]
      decide
