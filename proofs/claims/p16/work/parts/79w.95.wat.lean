/-! wordAt: which of the seven words it is -/
def rd_wq (a : Nat → Int32) (s q : Nat) (r : Int32) : Prop := (∃ j : Nat, j < 7 ∧ r.toInt = (j : Int) ∧ rd_kw a s q j) ∨ (r.toInt = -1 ∧ ∀ j, j < 7 → ¬ rd_kw a s q j)
theorem rd_watP (fu : Nat) (a w : Nat → Int32) (x y : Int32) (s q : Nat) (hw : dz_pt w dz_wd) (hx : x.toInt = (s : Int)) (hy : y.toInt = (q : Int)) (hs : s ≤ q) (hq : q ≤ 400) : dz_P (f3_X12_wordAt fu a w x y) (fun r => rd_wq a s q r) := by
  have k41 : (41 : Int32).toInt = 41 := by decide
  have k32 : (32 : Int32).toInt = 32 := by decide
  have k0 : (0 : Int32).toInt = 0 := by decide
  have k1 : (1 : Int32).toInt = 1 := by decide
  have eyx := dz_sub (a := y) (b := x) (by omega) (by omega)
  have W1 : ∀ j, j < 7 → ∀ i, i < rd_len j → rd_W (rd_off j + i) ≠ 32 := fun j hj i hi => rd_w1 ⟨j, hj⟩ ⟨i, by have := (rd_w2 ⟨j, hj⟩).2.2.1; exact Nat.lt_of_lt_of_le hi this⟩ hi
  have W2 : ∀ j, j < 7 → rd_W (rd_off j + rd_len j) = 32 ∧ rd_off (j + 1) = rd_off j + (rd_len j + 1) ∧ rd_len j ≤ 6 ∧ rd_off (j + 1) ≤ 41 ∧ 3 ≤ rd_len j := fun j hj => rd_w2 ⟨j, hj⟩
  have key : ∀ f : Nat,
      (∀ (j : Nat) (c d : Int32), j ≤ 7 → c.toInt = (j : Int) → d.toInt = ((rd_off j : Nat) : Int) → (∀ i, i < j → ¬ rd_kw a s q i) → dz_P ((F3_X12_wordAt fu a w f).1 x y c d) (fun r => rd_wq a s q r)) ∧
      (∀ (j n : Nat) (c d e : Int32), j < 7 → c.toInt = (j : Int) → d.toInt = ((rd_off j : Nat) : Int) → (∀ i, i < j → ¬ rd_kw a s q i) → e.toInt = (n : Int) → n ≤ rd_len j → dz_P ((F3_X12_wordAt fu a w f).2.1 x y c d e) (fun r => rd_wq a s q r)) ∧
      (∀ (j : Nat) (c d e g : Int32), j < 7 → c.toInt = (j : Int) → d.toInt = ((rd_off j : Nat) : Int) → (∀ i, i < j → ¬ rd_kw a s q i) → e.toInt = ((rd_len j : Nat) : Int) → ((g = 1 ∧ q = s + rd_len j) ∨ (g = 0 ∧ q ≠ s + rd_len j)) → dz_P ((F3_X12_wordAt fu a w f).2.2.1 x y c d e g) (fun r => rd_wq a s q r)) ∧
      (∀ (j t : Nat) (c d e g h : Int32), j < 7 → c.toInt = (j : Int) → d.toInt = ((rd_off j : Nat) : Int) → (∀ i, i < j → ¬ rd_kw a s q i) → e.toInt = ((rd_len j : Nat) : Int) → h.toInt = (t : Int) → t ≤ rd_len j → ((g = 1 ∧ q = s + rd_len j ∧ ∀ i, i < t → (a (s + i)).toInt = rd_W (rd_off j + i)) ∨ (g = 0 ∧ ¬ rd_kw a s q j)) → dz_P ((F3_X12_wordAt fu a w f).2.2.2.1 x y c d e g h) (fun r => rd_wq a s q r)) ∧
      (∀ (j : Nat) (c d e g : Int32), j < 7 → c.toInt = (j : Int) → d.toInt = ((rd_off j : Nat) : Int) → (∀ i, i < j → ¬ rd_kw a s q i) → e.toInt = ((rd_len j : Nat) : Int) → ((g = 1 ∧ rd_kw a s q j) ∨ (g = 0 ∧ ¬ rd_kw a s q j)) → dz_P ((F3_X12_wordAt fu a w f).2.2.2.2.1 x y c d e g) (fun r => rd_wq a s q r)) ∧
      (∀ (j t : Nat) (c d e h g : Int32), j < 7 → c.toInt = (j : Int) → d.toInt = ((rd_off j : Nat) : Int) → (∀ i, i < j → ¬ rd_kw a s q i) → e.toInt = ((rd_len j : Nat) : Int) → h.toInt = (t : Int) → t < rd_len j → ((g = 1 ∧ q = s + rd_len j ∧ ∀ i, i < t + 1 → (a (s + i)).toInt = rd_W (rd_off j + i)) ∨ (g = 0 ∧ ¬ rd_kw a s q j)) → dz_P ((F3_X12_wordAt fu a w f).2.2.2.2.2 x y c d e h g) (fun r => rd_wq a s q r)) := by
    intro f
    induction f with
    | zero => exact ⟨fun _ _ _ _ _ _ _ => dz_Pn, fun _ _ _ _ _ _ _ _ _ _ _ => dz_Pn, fun _ _ _ _ _ _ _ _ _ _ _ => dz_Pn, fun _ _ _ _ _ _ _ _ _ _ _ _ _ _ _ => dz_Pn, fun _ _ _ _ _ _ _ _ _ _ _ => dz_Pn, fun _ _ _ _ _ _ _ _ _ _ _ _ _ _ _ => dz_Pn⟩
    | succ f ih =>
      obtain ⟨i1, i2, i3, i4, i5, i6⟩ := ih
      refine ⟨?_, ?_, ?_, ?_, ?_, ?_⟩
      · intro j c d hj hc hd hn
        show dz_P (s3_X12_wordAt_1 fu a w (F3_X12_wordAt fu a w f).2.1 x y c d) _
        unfold s3_X12_wordAt_1
        refine dz_Pi (fun h => dz_Ps (Or.inr ⟨by decide, ?_⟩)) (fun h => ?_)
        · have h := rd_le h
          have e7 : j = 7 := by
            apply Classical.byContradiction
            intro h7
            have := (W2 j (by omega)).2.1
            have := (W2 j (by omega)).2.2.2.1
            omega
          subst e7
          exact hn
        · have h := dz_fnle h
          have hj7 : j < 7 := by
            apply Classical.byContradiction
            intro h7
            have e7 : j = 7 := by omega
            subst e7
            have : rd_off 7 = 41 := by decide
            omega
          exact i2 j 0 c d 0 hj7 hc hd hn k0 (Nat.zero_le _)
      · intro j n c d e hj hc hd hn he hnl
        show dz_P (s3_X12_wordAt_2 fu a w (F3_X12_wordAt fu a w f).2.1 (F3_X12_wordAt fu a w f).2.2.1 x y c d e) _
        unfold s3_X12_wordAt_2
        have w2 := W2 j hj
        have ede := dz_add (a := d) (b := e) (by omega) (by omega)
        have eW := rd_Wat (x := d + e) (o := rd_off j + n) hw (by omega) (by omega)
        refine dz_Pi (fun _ => dz_Pi (fun h => ?_) (fun h => ?_)) (fun _ => dz_Pn)
        · rw [h, k32] at eW
          have en : n = rd_len j := by
            apply Classical.byContradiction
            intro q
            exact W1 j hj n (by omega) eW.symm
          subst en
          refine dz_Pi (fun h2 => i3 j c d e 1 hj hc hd hn he (Or.inl ⟨rfl, ?_⟩)) (fun h2 => i3 j c d e 0 hj hc hd hn he (Or.inr ⟨rfl, ?_⟩))
          · rw [h2] at he
            omega
          · intro q
            exact dz_fne h2 (by omega)
        · have hlt : n < rd_len j := by
            apply Classical.byContradiction
            intro q
            have en : n = rd_len j := by omega
            subst en
            rw [w2.1] at eW
            exact dz_fne h (by rw [eW, k32])
          have e1 := dz_add (a := e) (b := 1) (by omega) (by omega)
          exact i2 j (n + 1) c d (e + 1) hj hc hd hn (by omega) hlt
      · intro j c d e g hj hc hd hn he hg
        show dz_P (s3_X12_wordAt_3 fu a w (F3_X12_wordAt fu a w f).2.2.2.1 x y c d e g) _
        unfold s3_X12_wordAt_3
        refine i4 j 0 c d e g 0 hj hc hd hn he k0 (Nat.zero_le _) ?_
        rcases hg with ⟨g1, g2⟩ | ⟨g1, g2⟩
        · exact Or.inl ⟨g1, g2, fun i hi => by omega⟩
        · exact Or.inr ⟨g1, fun q => g2 q.1⟩
      · intro j t c d e g h hj hc hd hn he hh ht hg
        show dz_P (s3_X12_wordAt_4 fu a w (F3_X12_wordAt fu a w f).2.2.2.2.1 (F3_X12_wordAt fu a w f).2.2.2.2.2 x y c d e g h) _
        unfold s3_X12_wordAt_4
        have w2 := W2 j hj
        refine dz_Pi (fun h1 => i5 j c d e g hj hc hd hn he ?_) (fun h1 => dz_Pi (fun h2 => i5 j c d e g hj hc hd hn he ?_) (fun h2 => dz_Pi (fun _ => dz_Pi (fun _ => dz_Pi (fun h3 => i6 j t c d e h 1 hj hc hd hn he hh ?_ ?_) (fun h3 => i6 j t c d e h 0 hj hc hd hn he hh ?_ ?_)) (fun _ => dz_Pn)) (fun _ => dz_Pn)))
        · have h1 := rd_le h1
          rcases hg with ⟨g1, g2, g3⟩ | ⟨g1, g2⟩
          · exact Or.inl ⟨g1, g2, fun i hi => g3 i (by omega)⟩
          · exact Or.inr ⟨g1, g2⟩
        · rcases hg with ⟨g1, g2, g3⟩ | ⟨g1, g2⟩
          · rw [g1] at h2
            exact absurd h2 (by decide)
          · exact Or.inr ⟨g1, g2⟩
        · have h1 := dz_fnle h1
          omega
        · have h1 := dz_fnle h1
          rcases hg with ⟨g1, g2, g3⟩ | ⟨g1, g2⟩
          · refine Or.inl ⟨rfl, g2, fun i hi => ?_⟩
            by_cases c9 : i < t
            · exact g3 i c9
            · have ei : i = t := by omega
              subst ei
              have ed := dz_add (a := d) (b := h) (by omega) (by omega)
              have ex := dz_add (a := x) (b := h) (by omega) (by omega)
              have eW := rd_Wat (x := d + h) (o := rd_off j + i) hw (by omega) (by omega)
              rw [h3, rd_tc (p := s + i) (by omega)] at eW
              exact eW
          · exact absurd g1 h2
        · have h1 := dz_fnle h1
          omega
        · have h1 := dz_fnle h1
          rcases hg with ⟨g1, g2, g3⟩ | ⟨g1, g2⟩
          · refine Or.inr ⟨rfl, fun k => ?_⟩
            have ed := dz_add (a := d) (b := h) (by omega) (by omega)
            have ex := dz_add (a := x) (b := h) (by omega) (by omega)
            have eW := rd_Wat (x := d + h) (o := rd_off j + t) hw (by omega) (by omega)
            refine dz_fne h3 ?_
            rw [eW, rd_tc (p := s + t) (by omega)]
            exact (k.2 t (by omega)).symm
          · exact absurd g1 h2
      · intro j c d e g hj hc hd hn he hg
        show dz_P (s3_X12_wordAt_5 fu a w (F3_X12_wordAt fu a w f).1 x y c d e g) _
        unfold s3_X12_wordAt_5
        have w2 := W2 j hj
        refine dz_Pi (fun h => ?_) (fun h => dz_Ps ?_)
        · have nk : ¬ rd_kw a s q j := hg.elim (fun q => absurd (q.1.symm.trans h) (by decide)) (fun q => q.2)
          have e1 := dz_add (a := c) (b := 1) (by omega) (by omega)
          have e2 := dz_add (a := e) (b := 1) (by omega) (by omega)
          have e3 := dz_add (a := d) (b := e + 1) (by omega) (by omega)
          refine i1 (j + 1) _ _ (by omega) (by omega) (by omega) (fun i hi => ?_)
          by_cases c9 : i < j
          · exact hn i c9
          · rw [show i = j by omega]
            exact nk
        · exact Or.inl ⟨j, hj, hc, hg.elim (fun q => q.2) (fun q => absurd q.1 h)⟩
      · intro j t c d e h g hj hc hd hn he hh ht hg
        show dz_P (s3_X12_wordAt_6 fu a w (F3_X12_wordAt fu a w f).2.2.2.1 x y c d e h g) _
        unfold s3_X12_wordAt_6
        have w2 := W2 j hj
        have e1 := dz_add (a := h) (b := 1) (by omega) (by omega)
        exact i4 j (t + 1) c d e g (h + 1) hj hc hd hn he (by omega) ht hg
  unfold f3_X12_wordAt s3_X12_wordAt_0
  exact (key fu).1 0 0 0 (by decide) k0 (by decide) (fun i hi => by omega)
theorem rd_cs {a : Nat → Int32} {s q : Nat} (hl : ∀ j, s ≤ j → j < q → rd_l (a j)) (i : Nat) : (s + i < q ∧ rd_c a s q i = (a (s + i)).toInt - 96 ∧ 1 ≤ rd_c a s q i ∧ rd_c a s q i ≤ 26) ∨ (q ≤ s + i ∧ rd_c a s q i = 0) := by
  unfold rd_c
  by_cases h : s + i < q
  · have h1 := (hl (s + i) (by omega) h).1
    have h2 := (hl (s + i) (by omega) h).2
    rw [if_pos h]
    exact Or.inl ⟨h, rfl, by omega, by omega⟩
  · rw [if_neg h]
    exact Or.inr ⟨by omega, rfl⟩
theorem rd_kv0 {a : Nat → Int32} {s q : Nat} (hl : ∀ j, s ≤ j → j < q → rd_l (a j)) (hs : s ≤ q) : rd_kw a s q 0 ↔ (q - s ≤ 6 ∧ rd_pk a s q = rd_kv 0) := by
  have c0 := rd_cs hl 0
  have c1 := rd_cs hl 1
  have c2 := rd_cs hl 2
  have c3 := rd_cs hl 3
  have c4 := rd_cs hl 4
  have c5 := rd_cs hl 5
  have eK : rd_kv 0 = 254268947 := by decide
  have en : rd_len 0 = 6 := by decide
  have w0 : rd_W (rd_off 0 + 0) = 103 := by decide
  have w1 : rd_W (rd_off 0 + 1) = 114 := by decide
  have w2 : rd_W (rd_off 0 + 2) = 111 := by decide
  have w3 : rd_W (rd_off 0 + 3) = 117 := by decide
  have w4 : rd_W (rd_off 0 + 4) = 112 := by decide
  have w5 : rd_W (rd_off 0 + 5) = 115 := by decide
  unfold rd_kw
  rw [eK, en]
  constructor
  · intro ⟨h, g⟩
    have g0 := g 0 (by decide)
    rw [w0] at g0
    have g1 := g 1 (by decide)
    rw [w1] at g1
    have g2 := g 2 (by decide)
    rw [w2] at g2
    have g3 := g 3 (by decide)
    rw [w3] at g3
    have g4 := g 4 (by decide)
    rw [w4] at g4
    have g5 := g 5 (by decide)
    rw [w5] at g5
    refine ⟨by omega, ?_⟩
    unfold rd_pk
    omega
  · intro ⟨h, g⟩
    unfold rd_pk at g
    have d5 : rd_c a s q 5 = 19 := by omega
    have d4 : rd_c a s q 4 = 16 := by omega
    have d3 : rd_c a s q 3 = 21 := by omega
    have d2 : rd_c a s q 2 = 15 := by omega
    have d1 : rd_c a s q 1 = 18 := by omega
    have d0 : rd_c a s q 0 = 7 := by omega
    refine ⟨by omega, fun i hi => ?_⟩
    rcases (show i = 0 ∨ i = 1 ∨ i = 2 ∨ i = 3 ∨ i = 4 ∨ i = 5 by omega) with rfl | rfl | rfl | rfl | rfl | rfl
    · rw [w0]
      omega
    · rw [w1]
      omega
    · rw [w2]
      omega
    · rw [w3]
      omega
    · rw [w4]
      omega
    · rw [w5]
      omega
theorem rd_kv1 {a : Nat → Int32} {s q : Nat} (hl : ∀ j, s ≤ j → j < q → rd_l (a j)) (hs : s ≤ q) : rd_kw a s q 1 ↔ (q - s ≤ 6 ∧ rd_pk a s q = rd_kv 1) := by
  have c0 := rd_cs hl 0
  have c1 := rd_cs hl 1
  have c2 := rd_cs hl 2
  have c3 := rd_cs hl 3
  have c4 := rd_cs hl 4
  have c5 := rd_cs hl 5
  have eK : rd_kv 1 = 553254912 := by decide
  have en : rd_len 1 = 3 := by decide
  have w0 : rd_W (rd_off 1 + 0) = 112 := by decide
  have w1 : rd_W (rd_off 1 + 1) = 111 := by decide
  have w2 : rd_W (rd_off 1 + 2) = 116 := by decide
  unfold rd_kw
  rw [eK, en]
  constructor
  · intro ⟨h, g⟩
    have g0 := g 0 (by decide)
    rw [w0] at g0
    have g1 := g 1 (by decide)
    rw [w1] at g1
    have g2 := g 2 (by decide)
    rw [w2] at g2
    refine ⟨by omega, ?_⟩
    unfold rd_pk
    omega
  · intro ⟨h, g⟩
    unfold rd_pk at g
    have d5 : rd_c a s q 5 = 0 := by omega
    have d4 : rd_c a s q 4 = 0 := by omega
    have d3 : rd_c a s q 3 = 0 := by omega
    have d2 : rd_c a s q 2 = 20 := by omega
    have d1 : rd_c a s q 1 = 15 := by omega
    have d0 : rd_c a s q 0 = 16 := by omega
    refine ⟨by omega, fun i hi => ?_⟩
    rcases (show i = 0 ∨ i = 1 ∨ i = 2 by omega) with rfl | rfl | rfl
    · rw [w0]
      omega
    · rw [w1]
      omega
    · rw [w2]
      omega
theorem rd_kv2 {a : Nat → Int32} {s q : Nat} (hl : ∀ j, s ≤ j → j < q → rd_l (a j)) (hs : s ≤ q) : rd_kw a s q 2 ↔ (q - s ≤ 6 ∧ rd_pk a s q = rd_kv 2) := by
  have c0 := rd_cs hl 0
  have c1 := rd_cs hl 1
  have c2 := rd_cs hl 2
  have c3 := rd_cs hl 3
  have c4 := rd_cs hl 4
  have c5 := rd_cs hl 5
  have eK : rd_kv 2 = 437857280 := by decide
  have en : rd_len 2 = 4 := by decide
  have w0 : rd_W (rd_off 2 + 0) = 109 := by decide
  have w1 : rd_W (rd_off 2 + 1) = 97 := by decide
  have w2 : rd_W (rd_off 2 + 2) = 114 := by decide
  have w3 : rd_W (rd_off 2 + 3) = 107 := by decide
  unfold rd_kw
  rw [eK, en]
  constructor
  · intro ⟨h, g⟩
    have g0 := g 0 (by decide)
    rw [w0] at g0
    have g1 := g 1 (by decide)
    rw [w1] at g1
    have g2 := g 2 (by decide)
    rw [w2] at g2
    have g3 := g 3 (by decide)
    rw [w3] at g3
    refine ⟨by omega, ?_⟩
    unfold rd_pk
    omega
  · intro ⟨h, g⟩
    unfold rd_pk at g
    have d5 : rd_c a s q 5 = 0 := by omega
    have d4 : rd_c a s q 4 = 0 := by omega
    have d3 : rd_c a s q 3 = 11 := by omega
    have d2 : rd_c a s q 2 = 18 := by omega
    have d1 : rd_c a s q 1 = 1 := by omega
    have d0 : rd_c a s q 0 = 13 := by omega
    refine ⟨by omega, fun i hi => ?_⟩
    rcases (show i = 0 ∨ i = 1 ∨ i = 2 ∨ i = 3 by omega) with rfl | rfl | rfl | rfl
    · rw [w0]
      omega
    · rw [w1]
      omega
    · rw [w2]
      omega
    · rw [w3]
      omega
theorem rd_kv3 {a : Nat → Int32} {s q : Nat} (hl : ∀ j, s ≤ j → j < q → rd_l (a j)) (hs : s ≤ q) : rd_kw a s q 3 ↔ (q - s ≤ 6 ∧ rd_pk a s q = rd_kv 3) := by
  have c0 := rd_cs hl 0
  have c1 := rd_cs hl 1
  have c2 := rd_cs hl 2
  have c3 := rd_cs hl 3
  have c4 := rd_cs hl 4
  have c5 := rd_cs hl 5
  have eK : rd_kv 3 = 54967924 := by decide
  have en : rd_len 3 = 6 := by decide
  have w0 : rd_W (rd_off 3 + 0) = 97 := by decide
  have w1 : rd_W (rd_off 3 + 1) = 116 := by decide
  have w2 : rd_W (rd_off 3 + 2) = 109 := by decide
  have w3 : rd_W (rd_off 3 + 3) = 111 := by decide
  have w4 : rd_W (rd_off 3 + 4) = 115 := by decide
  have w5 : rd_W (rd_off 3 + 5) = 116 := by decide
  unfold rd_kw
  rw [eK, en]
  constructor
  · intro ⟨h, g⟩
    have g0 := g 0 (by decide)
    rw [w0] at g0
    have g1 := g 1 (by decide)
    rw [w1] at g1
    have g2 := g 2 (by decide)
    rw [w2] at g2
    have g3 := g 3 (by decide)
    rw [w3] at g3
    have g4 := g 4 (by decide)
    rw [w4] at g4
    have g5 := g 5 (by decide)
    rw [w5] at g5
    refine ⟨by omega, ?_⟩
    unfold rd_pk
    omega
  · intro ⟨h, g⟩
    unfold rd_pk at g
    have d5 : rd_c a s q 5 = 20 := by omega
    have d4 : rd_c a s q 4 = 19 := by omega
    have d3 : rd_c a s q 3 = 15 := by omega
    have d2 : rd_c a s q 2 = 13 := by omega
    have d1 : rd_c a s q 1 = 20 := by omega
    have d0 : rd_c a s q 0 = 1 := by omega
    refine ⟨by omega, fun i hi => ?_⟩
    rcases (show i = 0 ∨ i = 1 ∨ i = 2 ∨ i = 3 ∨ i = 4 ∨ i = 5 by omega) with rfl | rfl | rfl | rfl | rfl | rfl
    · rw [w0]
      omega
    · rw [w1]
      omega
    · rw [w2]
      omega
    · rw [w3]
      omega
    · rw [w4]
      omega
    · rw [w5]
      omega
theorem rd_kv4 {a : Nat → Int32} {s q : Nat} (hl : ∀ j, s ≤ j → j < q → rd_l (a j)) (hs : s ≤ q) : rd_kw a s q 4 ↔ (q - s ≤ 6 ∧ rd_pk a s q = rd_kv 4) := by
  have c0 := rd_cs hl 0
  have c1 := rd_cs hl 1
  have c2 := rd_cs hl 2
  have c3 := rd_cs hl 3
  have c4 := rd_cs hl 4
  have c5 := rd_cs hl 5
  have eK : rd_kv 4 = 50383488 := by decide
  have en : rd_len 4 = 5 := by decide
  have w0 : rd_W (rd_off 4 + 0) = 97 := by decide
  have w1 : rd_W (rd_off 4 + 1) = 112 := by decide
  have w2 : rd_W (rd_off 4 + 2) = 97 := by decide
  have w3 : rd_W (rd_off 4 + 3) = 114 := by decide
  have w4 : rd_W (rd_off 4 + 4) = 116 := by decide
  unfold rd_kw
  rw [eK, en]
  constructor
  · intro ⟨h, g⟩
    have g0 := g 0 (by decide)
    rw [w0] at g0
    have g1 := g 1 (by decide)
    rw [w1] at g1
    have g2 := g 2 (by decide)
    rw [w2] at g2
    have g3 := g 3 (by decide)
    rw [w3] at g3
    have g4 := g 4 (by decide)
    rw [w4] at g4
    refine ⟨by omega, ?_⟩
    unfold rd_pk
    omega
  · intro ⟨h, g⟩
    unfold rd_pk at g
    have d5 : rd_c a s q 5 = 0 := by omega
    have d4 : rd_c a s q 4 = 20 := by omega
    have d3 : rd_c a s q 3 = 18 := by omega
    have d2 : rd_c a s q 2 = 1 := by omega
    have d1 : rd_c a s q 1 = 16 := by omega
    have d0 : rd_c a s q 0 = 1 := by omega
    refine ⟨by omega, fun i hi => ?_⟩
    rcases (show i = 0 ∨ i = 1 ∨ i = 2 ∨ i = 3 ∨ i = 4 by omega) with rfl | rfl | rfl | rfl | rfl
    · rw [w0]
      omega
    · rw [w1]
      omega
    · rw [w2]
      omega
    · rw [w3]
      omega
    · rw [w4]
      omega
theorem rd_kv5 {a : Nat → Int32} {s q : Nat} (hl : ∀ j, s ≤ j → j < q → rd_l (a j)) (hs : s ≤ q) : rd_kw a s q 5 ↔ (q - s ≤ 6 ∧ rd_pk a s q = rd_kv 5) := by
  have c0 := rd_cs hl 0
  have c1 := rd_cs hl 1
  have c2 := rd_cs hl 2
  have c3 := rd_cs hl 3
  have c4 := rd_cs hl 4
  have c5 := rd_cs hl 5
  have eK : rd_kv 5 = 475731520 := by decide
  have en : rd_len 5 = 5 := by decide
  have w0 : rd_W (rd_off 5 + 0) = 110 := by decide
  have w1 : rd_W (rd_off 5 + 1) = 101 := by decide
  have w2 : rd_W (rd_off 5 + 2) = 118 := by decide
  have w3 : rd_W (rd_off 5 + 3) = 101 := by decide
  have w4 : rd_W (rd_off 5 + 4) = 114 := by decide
  unfold rd_kw
  rw [eK, en]
  constructor
  · intro ⟨h, g⟩
    have g0 := g 0 (by decide)
    rw [w0] at g0
    have g1 := g 1 (by decide)
    rw [w1] at g1
    have g2 := g 2 (by decide)
    rw [w2] at g2
    have g3 := g 3 (by decide)
    rw [w3] at g3
    have g4 := g 4 (by decide)
    rw [w4] at g4
    refine ⟨by omega, ?_⟩
    unfold rd_pk
    omega
  · intro ⟨h, g⟩
    unfold rd_pk at g
    have d5 : rd_c a s q 5 = 0 := by omega
    have d4 : rd_c a s q 4 = 18 := by omega
    have d3 : rd_c a s q 3 = 5 := by omega
    have d2 : rd_c a s q 2 = 22 := by omega
    have d1 : rd_c a s q 1 = 5 := by omega
    have d0 : rd_c a s q 0 = 14 := by omega
    refine ⟨by omega, fun i hi => ?_⟩
    rcases (show i = 0 ∨ i = 1 ∨ i = 2 ∨ i = 3 ∨ i = 4 by omega) with rfl | rfl | rfl | rfl | rfl
    · rw [w0]
      omega
    · rw [w1]
      omega
    · rw [w2]
      omega
    · rw [w3]
      omega
    · rw [w4]
      omega
theorem rd_kv6 {a : Nat → Int32} {s q : Nat} (hl : ∀ j, s ≤ j → j < q → rd_l (a j)) (hs : s ≤ q) : rd_kw a s q 6 ↔ (q - s ≤ 6 ∧ rd_pk a s q = rd_kv 6) := by
  have c0 := rd_cs hl 0
  have c1 := rd_cs hl 1
  have c2 := rd_cs hl 2
  have c3 := rd_cs hl 3
  have c4 := rd_cs hl 4
  have c5 := rd_cs hl 5
  have eK : rd_kv 6 = 211555456 := by decide
  have en : rd_len 6 = 5 := by decide
  have w0 : rd_W (rd_off 6 + 0) = 102 := by decide
  have w1 : rd_W (rd_off 6 + 1) = 105 := by decide
  have w2 : rd_W (rd_off 6 + 2) = 120 := by decide
  have w3 : rd_W (rd_off 6 + 3) = 101 := by decide
  have w4 : rd_W (rd_off 6 + 4) = 100 := by decide
  unfold rd_kw
  rw [eK, en]
  constructor
  · intro ⟨h, g⟩
    have g0 := g 0 (by decide)
    rw [w0] at g0
    have g1 := g 1 (by decide)
    rw [w1] at g1
    have g2 := g 2 (by decide)
    rw [w2] at g2
    have g3 := g 3 (by decide)
    rw [w3] at g3
    have g4 := g 4 (by decide)
    rw [w4] at g4
    refine ⟨by omega, ?_⟩
    unfold rd_pk
    omega
  · intro ⟨h, g⟩
    unfold rd_pk at g
    have d5 : rd_c a s q 5 = 0 := by omega
    have d4 : rd_c a s q 4 = 4 := by omega
    have d3 : rd_c a s q 3 = 5 := by omega
    have d2 : rd_c a s q 2 = 24 := by omega
    have d1 : rd_c a s q 1 = 9 := by omega
    have d0 : rd_c a s q 0 = 6 := by omega
    refine ⟨by omega, fun i hi => ?_⟩
    rcases (show i = 0 ∨ i = 1 ∨ i = 2 ∨ i = 3 ∨ i = 4 by omega) with rfl | rfl | rfl | rfl | rfl
    · rw [w0]
      omega
    · rw [w1]
      omega
    · rw [w2]
      omega
    · rw [w3]
      omega
    · rw [w4]
      omega
/-- the words by their numbers -/
theorem rd_kvP {a : Nat → Int32} {s q : Nat} (hl : ∀ j, s ≤ j → j < q → rd_l (a j)) (hs : s ≤ q) (j : Nat) (hj : j < 7) : rd_kw a s q j ↔ (q - s ≤ 6 ∧ rd_pk a s q = rd_kv j) := by
  rcases (show j = 0 ∨ j = 1 ∨ j = 2 ∨ j = 3 ∨ j = 4 ∨ j = 5 ∨ j = 6 by omega) with rfl | rfl | rfl | rfl | rfl | rfl | rfl
  · exact rd_kv0 hl hs
  · exact rd_kv1 hl hs
  · exact rd_kv2 hl hs
  · exact rd_kv3 hl hs
  · exact rd_kv4 hl hs
  · exact rd_kv5 hl hs
  · exact rd_kv6 hl hs
