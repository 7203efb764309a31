theorem t17_X12_layRows_st (fu : Nat) (g v1 v2 v3 v4 v5 c : Int32) (a : Nat → Int32) (k : Nat) (hg : g.toInt ≠ 0) (h0 : 0 ≤ v5.toInt) (h1 : v5.toInt ≤ 3) (c0 : 0 ≤ c.toInt) (c1 : c.toInt ≤ 24) : (F17_X12_layRows fu g (k + 1)).2.2.1 v1 v2 v3 v4 v5 c a = (F17_X12_layRows fu g k).2.2.1 v1 v2 (v3 ||| ((1 : Int32) <<< ((dz_rem v4 g) &&& 31))) (v4 / g) (v5 + (-1)) c (upd a ((4 * c) + v5).toNatClampNeg (dz_rem v4 g)) := by
  show s17_X12_layRows_3 fu g (F17_X12_layRows fu g k).2.2.1 (F17_X12_layRows fu g k).2.2.2 v1 v2 v3 v4 v5 c a = _
  unfold s17_X12_layRows_3
  have z := dz_l0'
  have q : ¬ v5 < 0 := fun h => by
    have := Int32.lt_iff_toInt_lt.mp h
    omega
  have l4 : (4 : Int32).toInt = 4 := by decide
  have e1 := dz_mull (a := 4) (b := c) 4 l4 (by omega) (by omega)
  have e2 := dz_add (a := 4 * c) (b := v5) (by omega) (by omega)
  rw [if_neg q, if_pos (dz_nz hg), if_pos (dz_inp (i := (4 * c) + v5) (n := 100) (by omega) (by omega)), if_pos (dz_nz hg), if_pos (dz_nz hg)]
theorem t17_X12_layRows_sp (fu : Nat) (g v1 v2 v3 v4 v5 c : Int32) (a : Nat → Int32) (k : Nat) (h0 : v5.toInt < 0) : (F17_X12_layRows fu g (k + 2)).2.2.1 v1 v2 v3 v4 v5 c a = if v3 = ((1 : Int32) <<< (g &&& 31)) - 1 then (F17_X12_layRows fu g k).2.1 v1 (v2 + 1) (c + 1) a else (F17_X12_layRows fu g k).2.1 v1 (v2 + 1) c a := by
  show s17_X12_layRows_3 fu g (F17_X12_layRows fu g (k + 1)).2.2.1 (F17_X12_layRows fu g (k + 1)).2.2.2 v1 v2 v3 v4 v5 c a = _
  unfold s17_X12_layRows_3
  have z := dz_l0'
  have q : v5 < 0 := Int32.lt_iff_toInt_lt.mpr (by omega)
  rw [if_pos q]
  rfl
theorem t17_X12_layRows_L2_2 (fu : Nat) : ∀ (n k : Nat) (v1 v2 c : Int32) (a : Nat → Int32), v1.toInt = 4 → 0 ≤ v2.toInt → v2.toInt + (n : Int) = 4 → 9 * n + 1 ≤ k → dz_rg a 100 0 3 → dz_lr 2 v2 c a → dz_T ((F17_X12_layRows fu 2 k).2.1 v1 v2 c a) (fun r => r.1.toInt = 2 ∧ dz_rg r.2 100 0 3 ∧ dz_rw 2 2 r.2) := by
  intro n
  induction n with
  | zero =>
    intro k v1 v2 c a h1 h2 h3 hk hr x
    obtain ⟨k0, rfl⟩ : ∃ y, k = y + 1 := ⟨k - 1, by omega⟩
    show dz_T (s17_X12_layRows_2 fu 2 (F17_X12_layRows fu 2 k0).2.2.1 v1 v2 c a) _
    unfold s17_X12_layRows_2
    have e := dz_lrE2 x (by omega)
    refine dz_Tle (fun h => dz_Ts ⟨e.1, hr, e.2⟩) (fun h => ?_)
    exfalso; omega
  | succ n ih =>
    intro k v1 v2 c a h1 h2 h3 hk hr x
    obtain ⟨kk, rfl⟩ : ∃ y, k = y + 5 := ⟨k - 5, by omega⟩
    show dz_T (s17_X12_layRows_2 fu 2 (F17_X12_layRows fu 2 (kk + 4)).2.2.1 v1 v2 c a) _
    unfold s17_X12_layRows_2
    have lg : (2 : Int32).toInt = 2 := by decide
    have l1 : (1 : Int32).toInt = 1 := by decide
    have hb := dz_lrb2 (g := 2) x lg h2 (by omega)
    have c0 : 0 ≤ c.toInt := hb.1
    have c1 : c.toInt ≤ 24 := by
      have := hb.2.1
      omega
    refine dz_Tle (fun h => ?_) (fun h => ?_)
    · exfalso; omega
    · have v9 := dz_add (a := v2) (b := 1) (by omega) (by omega)
      have k0 : ((2 : Int32) - 1).toInt = 1 := by decide
      have m0 := dz_remn (a := v2) (b := 2) 2 (by omega) lg (by decide)
      have k1 : (((2 : Int32) - 1) + (-1)).toInt = 0 := by decide
      have d1 := dz_divn (a := v2) (b := 2) 2 (by omega) lg (by decide)
      have m1 := dz_remn (a := (v2 / 2)) (b := 2) 2 (by omega) lg (by decide)
      have kz : ((((2 : Int32) - 1) + (-1)) + (-1)).toInt = -1 := by decide
      have hr2 : dz_rg (dz_up2 2 v2 c a) 100 0 3 := dz_rgu (dz_rgu hr (by omega) (by omega)) (by omega) (by omega)
      rw [t17_X12_layRows_st fu 2 _ _ _ _ ((2 : Int32) - 1) c _ (kk + 3) (by rw [lg]; decide) (by rw [k0]; decide) (by rw [k0]; decide) c0 c1]
      rw [t17_X12_layRows_st fu 2 _ _ _ _ (((2 : Int32) - 1) + (-1)) c _ (kk + 2) (by rw [lg]; decide) (by rw [k1]; decide) (by rw [k1]; decide) c0 c1]
      rw [t17_X12_layRows_sp fu 2 _ _ _ _ ((((2 : Int32) - 1) + (-1)) + (-1)) c _ kk (by rw [kz]; decide)]
      refine dz_Teq (fun hu => ?_) (fun hu => ?_)
      · have hc := hb.2.2 (by omega) hu
        have c9 := dz_add (a := c) (b := 1) (by omega) (by omega)
        exact ih kk v1 (v2 + 1) (c + 1) _ h1 (by omega) (by omega) (by omega) hr2 (dz_lrT2 x lg h2 (by omega) (by omega) (by omega) hu)
      · exact ih kk v1 (v2 + 1) c _ h1 (by omega) (by omega) (by omega) hr2 (dz_lrF2 x lg h2 (by omega) (by omega) (by omega) hu)
theorem t17_X12_layRows_g2 (fu : Nat) (hfu : 1000000000000 ≤ fu) (c2_groups c2_ranks : Int32) (a48 : Nat → Int32) (p0 : c2_groups.toInt = 2) (hr_a48 : dz_rg a48 100 0 3) : dz_T (f17_X12_layRows fu c2_groups c2_ranks a48) (fun r => r.1.toInt = 2 ∧ dz_rg r.2 100 0 3 ∧ dz_rw 2 2 r.2) := by
  have eg : c2_groups = 2 := Int32.toInt_inj.mp (by rw [p0]; decide)
  subst eg
  obtain ⟨k0, rfl⟩ : ∃ y, fu = y + 3 := ⟨fu - 3, by omega⟩
  have h : f17_X12_layRows (k0 + 3) 2 c2_ranks a48 = (F17_X12_layRows (k0 + 3) 2 k0).2.1 (((1 : Int32) * 2) * 2) 0 0 a48 := rfl
  rw [h]
  exact t17_X12_layRows_L2_2 _ 4 k0 _ 0 0 a48 (by decide) (by decide) (by decide) (by omega) hr_a48 (dz_lr0_2 (by decide) (by decide))
theorem t17_X12_layRows_L2_3 (fu : Nat) : ∀ (n k : Nat) (v1 v2 c : Int32) (a : Nat → Int32), v1.toInt = 27 → 0 ≤ v2.toInt → v2.toInt + (n : Int) = 27 → 9 * n + 1 ≤ k → dz_rg a 100 0 3 → dz_lr 3 v2 c a → dz_T ((F17_X12_layRows fu 3 k).2.1 v1 v2 c a) (fun r => r.1.toInt = 6 ∧ dz_rg r.2 100 0 3 ∧ dz_rw 3 6 r.2) := by
  intro n
  induction n with
  | zero =>
    intro k v1 v2 c a h1 h2 h3 hk hr x
    obtain ⟨k0, rfl⟩ : ∃ y, k = y + 1 := ⟨k - 1, by omega⟩
    show dz_T (s17_X12_layRows_2 fu 3 (F17_X12_layRows fu 3 k0).2.2.1 v1 v2 c a) _
    unfold s17_X12_layRows_2
    have e := dz_lrE3 x (by omega)
    refine dz_Tle (fun h => dz_Ts ⟨e.1, hr, e.2⟩) (fun h => ?_)
    exfalso; omega
  | succ n ih =>
    intro k v1 v2 c a h1 h2 h3 hk hr x
    obtain ⟨kk, rfl⟩ : ∃ y, k = y + 6 := ⟨k - 6, by omega⟩
    show dz_T (s17_X12_layRows_2 fu 3 (F17_X12_layRows fu 3 (kk + 5)).2.2.1 v1 v2 c a) _
    unfold s17_X12_layRows_2
    have lg : (3 : Int32).toInt = 3 := by decide
    have l1 : (1 : Int32).toInt = 1 := by decide
    have hb := dz_lrb3 (g := 3) x lg h2 (by omega)
    have c0 : 0 ≤ c.toInt := hb.1
    have c1 : c.toInt ≤ 24 := by
      have := hb.2.1
      omega
    refine dz_Tle (fun h => ?_) (fun h => ?_)
    · exfalso; omega
    · have v9 := dz_add (a := v2) (b := 1) (by omega) (by omega)
      have k0 : ((3 : Int32) - 1).toInt = 2 := by decide
      have m0 := dz_remn (a := v2) (b := 3) 3 (by omega) lg (by decide)
      have k1 : (((3 : Int32) - 1) + (-1)).toInt = 1 := by decide
      have d1 := dz_divn (a := v2) (b := 3) 3 (by omega) lg (by decide)
      have m1 := dz_remn (a := (v2 / 3)) (b := 3) 3 (by omega) lg (by decide)
      have k2 : ((((3 : Int32) - 1) + (-1)) + (-1)).toInt = 0 := by decide
      have d2 := dz_divn (a := (v2 / 3)) (b := 3) 3 (by omega) lg (by decide)
      have m2 := dz_remn (a := ((v2 / 3) / 3)) (b := 3) 3 (by omega) lg (by decide)
      have kz : (((((3 : Int32) - 1) + (-1)) + (-1)) + (-1)).toInt = -1 := by decide
      have hr2 : dz_rg (dz_up3 3 v2 c a) 100 0 3 := dz_rgu (dz_rgu (dz_rgu hr (by omega) (by omega)) (by omega) (by omega)) (by omega) (by omega)
      rw [t17_X12_layRows_st fu 3 _ _ _ _ ((3 : Int32) - 1) c _ (kk + 4) (by rw [lg]; decide) (by rw [k0]; decide) (by rw [k0]; decide) c0 c1]
      rw [t17_X12_layRows_st fu 3 _ _ _ _ (((3 : Int32) - 1) + (-1)) c _ (kk + 3) (by rw [lg]; decide) (by rw [k1]; decide) (by rw [k1]; decide) c0 c1]
      rw [t17_X12_layRows_st fu 3 _ _ _ _ ((((3 : Int32) - 1) + (-1)) + (-1)) c _ (kk + 2) (by rw [lg]; decide) (by rw [k2]; decide) (by rw [k2]; decide) c0 c1]
      rw [t17_X12_layRows_sp fu 3 _ _ _ _ (((((3 : Int32) - 1) + (-1)) + (-1)) + (-1)) c _ kk (by rw [kz]; decide)]
      refine dz_Teq (fun hu => ?_) (fun hu => ?_)
      · have hc := hb.2.2 (by omega) hu
        have c9 := dz_add (a := c) (b := 1) (by omega) (by omega)
        exact ih kk v1 (v2 + 1) (c + 1) _ h1 (by omega) (by omega) (by omega) hr2 (dz_lrT3 x lg h2 (by omega) (by omega) (by omega) hu)
      · exact ih kk v1 (v2 + 1) c _ h1 (by omega) (by omega) (by omega) hr2 (dz_lrF3 x lg h2 (by omega) (by omega) (by omega) hu)
theorem t17_X12_layRows_g3 (fu : Nat) (hfu : 1000000000000 ≤ fu) (c2_groups c2_ranks : Int32) (a48 : Nat → Int32) (p0 : c2_groups.toInt = 3) (hr_a48 : dz_rg a48 100 0 3) : dz_T (f17_X12_layRows fu c2_groups c2_ranks a48) (fun r => r.1.toInt = 6 ∧ dz_rg r.2 100 0 3 ∧ dz_rw 3 6 r.2) := by
  have eg : c2_groups = 3 := Int32.toInt_inj.mp (by rw [p0]; decide)
  subst eg
  obtain ⟨k0, rfl⟩ : ∃ y, fu = y + 4 := ⟨fu - 4, by omega⟩
  have h : f17_X12_layRows (k0 + 4) 3 c2_ranks a48 = (F17_X12_layRows (k0 + 4) 3 k0).2.1 ((((1 : Int32) * 3) * 3) * 3) 0 0 a48 := rfl
  rw [h]
  exact t17_X12_layRows_L2_3 _ 27 k0 _ 0 0 a48 (by decide) (by decide) (by decide) (by omega) hr_a48 (dz_lr0_3 (by decide) (by decide))
theorem t17_X12_layRows_L2_4 (fu : Nat) : ∀ (n k : Nat) (v1 v2 c : Int32) (a : Nat → Int32), v1.toInt = 256 → 0 ≤ v2.toInt → v2.toInt + (n : Int) = 256 → 9 * n + 1 ≤ k → dz_rg a 100 0 3 → dz_lr 4 v2 c a → dz_T ((F17_X12_layRows fu 4 k).2.1 v1 v2 c a) (fun r => r.1.toInt = 24 ∧ dz_rg r.2 100 0 3 ∧ dz_rw 4 24 r.2) := by
  intro n
  induction n with
  | zero =>
    intro k v1 v2 c a h1 h2 h3 hk hr x
    obtain ⟨k0, rfl⟩ : ∃ y, k = y + 1 := ⟨k - 1, by omega⟩
    show dz_T (s17_X12_layRows_2 fu 4 (F17_X12_layRows fu 4 k0).2.2.1 v1 v2 c a) _
    unfold s17_X12_layRows_2
    have e := dz_lrE4 x (by omega)
    refine dz_Tle (fun h => dz_Ts ⟨e.1, hr, e.2⟩) (fun h => ?_)
    exfalso; omega
  | succ n ih =>
    intro k v1 v2 c a h1 h2 h3 hk hr x
    obtain ⟨kk, rfl⟩ : ∃ y, k = y + 7 := ⟨k - 7, by omega⟩
    show dz_T (s17_X12_layRows_2 fu 4 (F17_X12_layRows fu 4 (kk + 6)).2.2.1 v1 v2 c a) _
    unfold s17_X12_layRows_2
    have lg : (4 : Int32).toInt = 4 := by decide
    have l1 : (1 : Int32).toInt = 1 := by decide
    have hb := dz_lrb4 (g := 4) x lg h2 (by omega)
    have c0 : 0 ≤ c.toInt := hb.1
    have c1 : c.toInt ≤ 24 := by
      have := hb.2.1
      omega
    refine dz_Tle (fun h => ?_) (fun h => ?_)
    · exfalso; omega
    · have v9 := dz_add (a := v2) (b := 1) (by omega) (by omega)
      have k0 : ((4 : Int32) - 1).toInt = 3 := by decide
      have m0 := dz_remn (a := v2) (b := 4) 4 (by omega) lg (by decide)
      have k1 : (((4 : Int32) - 1) + (-1)).toInt = 2 := by decide
      have d1 := dz_divn (a := v2) (b := 4) 4 (by omega) lg (by decide)
      have m1 := dz_remn (a := (v2 / 4)) (b := 4) 4 (by omega) lg (by decide)
      have k2 : ((((4 : Int32) - 1) + (-1)) + (-1)).toInt = 1 := by decide
      have d2 := dz_divn (a := (v2 / 4)) (b := 4) 4 (by omega) lg (by decide)
      have m2 := dz_remn (a := ((v2 / 4) / 4)) (b := 4) 4 (by omega) lg (by decide)
      have k3 : (((((4 : Int32) - 1) + (-1)) + (-1)) + (-1)).toInt = 0 := by decide
      have d3 := dz_divn (a := ((v2 / 4) / 4)) (b := 4) 4 (by omega) lg (by decide)
      have m3 := dz_remn (a := (((v2 / 4) / 4) / 4)) (b := 4) 4 (by omega) lg (by decide)
      have kz : ((((((4 : Int32) - 1) + (-1)) + (-1)) + (-1)) + (-1)).toInt = -1 := by decide
      have hr2 : dz_rg (dz_up4 4 v2 c a) 100 0 3 := dz_rgu (dz_rgu (dz_rgu (dz_rgu hr (by omega) (by omega)) (by omega) (by omega)) (by omega) (by omega)) (by omega) (by omega)
      rw [t17_X12_layRows_st fu 4 _ _ _ _ ((4 : Int32) - 1) c _ (kk + 5) (by rw [lg]; decide) (by rw [k0]; decide) (by rw [k0]; decide) c0 c1]
      rw [t17_X12_layRows_st fu 4 _ _ _ _ (((4 : Int32) - 1) + (-1)) c _ (kk + 4) (by rw [lg]; decide) (by rw [k1]; decide) (by rw [k1]; decide) c0 c1]
      rw [t17_X12_layRows_st fu 4 _ _ _ _ ((((4 : Int32) - 1) + (-1)) + (-1)) c _ (kk + 3) (by rw [lg]; decide) (by rw [k2]; decide) (by rw [k2]; decide) c0 c1]
      rw [t17_X12_layRows_st fu 4 _ _ _ _ (((((4 : Int32) - 1) + (-1)) + (-1)) + (-1)) c _ (kk + 2) (by rw [lg]; decide) (by rw [k3]; decide) (by rw [k3]; decide) c0 c1]
      rw [t17_X12_layRows_sp fu 4 _ _ _ _ ((((((4 : Int32) - 1) + (-1)) + (-1)) + (-1)) + (-1)) c _ kk (by rw [kz]; decide)]
      refine dz_Teq (fun hu => ?_) (fun hu => ?_)
      · have hc := hb.2.2 (by omega) hu
        have c9 := dz_add (a := c) (b := 1) (by omega) (by omega)
        exact ih kk v1 (v2 + 1) (c + 1) _ h1 (by omega) (by omega) (by omega) hr2 (dz_lrT4 x lg h2 (by omega) (by omega) (by omega) hu)
      · exact ih kk v1 (v2 + 1) c _ h1 (by omega) (by omega) (by omega) hr2 (dz_lrF4 x lg h2 (by omega) (by omega) (by omega) hu)
theorem t17_X12_layRows_g4 (fu : Nat) (hfu : 1000000000000 ≤ fu) (c2_groups c2_ranks : Int32) (a48 : Nat → Int32) (p0 : c2_groups.toInt = 4) (hr_a48 : dz_rg a48 100 0 3) : dz_T (f17_X12_layRows fu c2_groups c2_ranks a48) (fun r => r.1.toInt = 24 ∧ dz_rg r.2 100 0 3 ∧ dz_rw 4 24 r.2) := by
  have eg : c2_groups = 4 := Int32.toInt_inj.mp (by rw [p0]; decide)
  subst eg
  obtain ⟨k0, rfl⟩ : ∃ y, fu = y + 5 := ⟨fu - 5, by omega⟩
  have h : f17_X12_layRows (k0 + 5) 4 c2_ranks a48 = (F17_X12_layRows (k0 + 5) 4 k0).2.1 (((((1 : Int32) * 4) * 4) * 4) * 4) 0 0 a48 := rfl
  rw [h]
  exact t17_X12_layRows_L2_4 _ 256 k0 _ 0 0 a48 (by decide) (by decide) (by decide) (by omega) hr_a48 (dz_lr0_4 (by decide) (by decide))
