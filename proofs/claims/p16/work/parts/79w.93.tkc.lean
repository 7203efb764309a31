/-! the class's step -/
theorem rd_xlt {x k : Int32} (n : Int) (e : k.toInt = n) (h : x < k) : x.toInt < n := by
  rw [← e]
  exact Int32.lt_iff_toInt_lt.mp h
theorem rd_xnl {x k : Int32} (n : Int) (e : k.toInt = n) (h : ¬ x < k) : n ≤ x.toInt := by
  rw [← e]
  exact dz_fnlt h
theorem rd_xgt {x k : Int32} (n : Int) (e : k.toInt = n) (h : k < x) : n < x.toInt := by
  rw [← e]
  exact Int32.lt_iff_toInt_lt.mp h
theorem rd_xng {x k : Int32} (n : Int) (e : k.toInt = n) (h : ¬ k < x) : x.toInt ≤ n := by
  rw [← e]
  exact dz_fnlt h
theorem rd_ibP (fu : Nat) (x : Int32) : dz_P (f91_X5_isBlank fu x) (fun r => (r ≠ 0 ∧ rd_b x) ∨ (r = 0 ∧ ¬ rd_b x)) := by
  unfold f91_X5_isBlank s91_X5_isBlank_0
  exact dz_Pi (fun h => dz_Ps (x := (1 : Int32)) (Or.inl ⟨by decide, Or.inl h⟩)) (fun h => dz_Pi (fun h2 => dz_Ps (x := (1 : Int32)) (Or.inl ⟨by decide, Or.inr h2⟩)) (fun h2 => dz_Ps (Or.inr ⟨rfl, fun q => q.elim h h2⟩)))
theorem rd_ilP (fu : Nat) (x : Int32) : dz_P (f92_X5_isLetter fu x) (fun r => (r ≠ 0 ∧ rd_l x) ∨ (r = 0 ∧ ¬ rd_l x)) := by
  unfold f92_X5_isLetter s92_X5_isLetter_0
  have e1 : (97 : Int32).toInt = 97 := by decide
  have e2 : (122 : Int32).toInt = 122 := by decide
  exact dz_Pi (fun h => dz_Ps (Or.inr ⟨rfl, fun q => by have := rd_xlt 97 e1 h; have := q.1; omega⟩)) (fun h => dz_Pi (fun h2 => dz_Ps (Or.inr ⟨rfl, fun q => by have := rd_xgt 122 e2 h2; have := q.2; omega⟩)) (fun h2 => dz_Ps (Or.inl ⟨by decide, rd_xnl 97 e1 h, rd_xng 122 e2 h2⟩)))
theorem rd_idP (fu : Nat) (x : Int32) : dz_P (f93_X5_isDigit fu x) (fun r => (r ≠ 0 ∧ rd_d x) ∨ (r = 0 ∧ ¬ rd_d x)) := by
  unfold f93_X5_isDigit s93_X5_isDigit_0
  have e1 : (48 : Int32).toInt = 48 := by decide
  have e2 : (57 : Int32).toInt = 57 := by decide
  exact dz_Pi (fun h => dz_Ps (Or.inr ⟨rfl, fun q => by have := rd_xlt 48 e1 h; have := q.1; omega⟩)) (fun h => dz_Pi (fun h2 => dz_Ps (Or.inr ⟨rfl, fun q => by have := rd_xgt 57 e2 h2; have := q.2; omega⟩)) (fun h2 => dz_Ps (Or.inl ⟨by decide, rd_xnl 48 e1 h, rd_xng 57 e2 h2⟩)))
theorem rd_at {a : Nat → Int32} {x : Int32} {p : Nat} (h : x.toInt = (p : Int)) : a x.toNatClampNeg = a p := by
  have t := dz_tn x
  rw [show x.toNatClampNeg = p by omega]
theorem rd_tc {x : Int32} {p : Nat} (h : x.toInt = (p : Int)) : x.toNatClampNeg = p := by
  have t := dz_tn x
  omega
theorem rd_p1 {x : Int32} {p : Nat} (h : x.toInt = (p : Int)) (hp : p ≤ 1000000) : (x + 1).toInt = ((p + 1 : Nat) : Int) := by
  have o : (1 : Int32).toInt = 1 := by decide
  have e := dz_add (a := x) (b := 1) (by omega) (by omega)
  omega
theorem rd_le {x y : Int32} (h : x ≤ y) : x.toInt ≤ y.toInt := Int32.le_iff_toInt_le.mp h
theorem rd_snP (fu : Nat) (a : Nat → Int32) (len at0 kind value : Int32) (n s : Nat) (hn : len.toInt = (n : Int)) (hn4 : n ≤ 400) (hs : at0.toInt = (s : Int)) (hsn : s ≤ n) :
    dz_P (f94_X5_stepNumber fu a len at0 kind value) (fun r => ∃ q : Nat, r.1.toInt = (q : Int) ∧ rd_run rd_d a n s q ∧ r.2.1 = 2 ∧ rd_cap r.2.2.toInt (rd_nv a s (q - s))) := by
  have k10 : (10 : Int32).toInt = 10 := by decide
  have k48 : (48 : Int32).toInt = 48 := by decide
  have kM : (1000 : Int32).toInt = 1000 := by decide
  have l2 : ∀ (f : Nat) (p k v : Int32), dz_P ((F94_X5_stepNumber fu a len f).2 p k v) (fun r => r = (p, 2, v)) := by
    intro f p k v
    cases f with
    | zero => exact dz_Pn
    | succ f => exact dz_Ps rfl
  have key : ∀ (f p : Nat) (x k v : Int32), x.toInt = (p : Int) → s ≤ p → p ≤ n → (∀ j, s ≤ j → j < p → rd_d (a j)) → 0 ≤ v.toInt → v.toInt ≤ 1000 → rd_cap v.toInt (rd_nv a s (p - s)) →
      dz_P ((F94_X5_stepNumber fu a len f).1 x k v) (fun r => ∃ q : Nat, r.1.toInt = (q : Int) ∧ rd_run rd_d a n s q ∧ r.2.1 = 2 ∧ rd_cap r.2.2.toInt (rd_nv a s (q - s))) := by
    intro f
    induction f with
    | zero => intro _ _ _ _ _ _ _ _ _ _ _; exact dz_Pn
    | succ f ih =>
      intro p x k v hx h1 h2 h3 v0 v1 hc
      show dz_P (s94_X5_stepNumber_1 fu a len (F94_X5_stepNumber fu a len f).1 (F94_X5_stepNumber fu a len f).2 x k v) _
      unfold s94_X5_stepNumber_1
      refine dz_Pi (fun h => ?_) (fun h => dz_Pi (fun _ => dz_Pb (rd_idP fu _) (fun r hr => dz_Pi (fun h0 => ?_) (fun h0 => dz_Pi (fun _ => ?_) (fun _ => dz_Pn)))) (fun _ => dz_Pn))
      · intro r e
        have e := l2 f x k v r e
        subst e
        have := rd_le h
        exact ⟨p, hx, ⟨h1, h2, h3, Or.inl (by omega)⟩, rfl, hc⟩
      · intro r2 e
        have e := l2 f x k v r2 e
        subst e
        rw [rd_tc hx] at hr
        exact ⟨p, hx, ⟨h1, h2, h3, Or.inr (hr.elim (fun q => absurd h0 q.1) (fun q => q.2))⟩, rfl, hc⟩
      · rw [rd_tc hx] at hr
        have hd := hr.elim (fun q => q.2) (fun q => absurd q.1 h0)
        have hlt := dz_fnle h
        have hp : p < n := by omega
        have e1 := dz_mulr (a := v) (b := 10) 10 k10 (by omega) (by omega)
        have e2 := dz_add (a := v * 10) (b := a p) (by have := hd.1; omega) (by have := hd.2; omega)
        have e3 := dz_sub (a := v * 10 + a p) (b := 48) (by have := hd.1; omega) (by have := hd.2; omega)
        rw [rd_tc hx]
        have hd1 := hd.1
        have hd2 := hd.2
        have hps : s + (p - s) = p := by omega
        have hj : ∀ j, s ≤ j → j < p + 1 → rd_d (a j) := fun j j1 j2 => by
          by_cases c : j < p
          · exact h3 j j1 c
          · rw [show j = p by omega]
            exact hd
        by_cases c : 1000 < v * 10 + a p - 48
        · rw [if_pos c]
          have c2 := rd_xgt (x := v * 10 + a p - 48) 1000 kM c
          refine ih (p + 1) _ _ _ (rd_p1 hx (by omega)) (by omega) (by omega) hj (by omega) (by omega) ?_
          rw [show p + 1 - s = (p - s) + 1 by omega]
          exact rd_capC (d := (a p).toInt) hc (by rw [hps]) hd1 hd2 v0 (Or.inr ⟨kM, by omega⟩)
        · rw [if_neg c]
          have c2 := rd_xng (x := v * 10 + a p - 48) 1000 kM c
          refine ih (p + 1) _ _ _ (rd_p1 hx (by omega)) (by omega) (by omega) hj (by omega) (by omega) ?_
          rw [show p + 1 - s = (p - s) + 1 by omega]
          exact rd_capC (d := (a p).toInt) hc (by rw [hps]) hd1 hd2 v0 (Or.inl ⟨by omega, by omega⟩)
  unfold f94_X5_stepNumber s94_X5_stepNumber_0
  exact key fu s _ _ _ hs (Nat.le_refl _) hsn (fun j j1 j2 => by omega) (by decide) (by decide) (by rw [Nat.sub_self]; exact rd_cap0)
/-- a letter more of a word of less than six -/
theorem rd_wst {value x v1 : Int32} {a : Nat → Int32} {s : Nat} (k : Nat) (hk : k < 6) (hv1 : v1.toInt = (k : Int)) (hx : x.toInt = (a (s + k)).toInt - 96) (hl : ∀ i, i ≤ k → rd_l (a (s + i))) (hval : value.toInt = rd_pk a s (s + k)) :
    (value ||| (x <<< (((25 : Int32) - ((5 : Int32) * v1)) &&& 31))).toInt = rd_pk a s (s + k + 1) := by
  have k5 : (5 : Int32).toInt = 5 := by decide
  have k25 : (25 : Int32).toInt = 25 := by decide
  have e1 := dz_mull (a := 5) (b := v1) 5 k5 (by omega) (by omega)
  have e2 := dz_sub (a := 25) (b := 5 * v1) (by omega) (by omega)
  have c : ∀ i, i < 6 → (i < k → 1 ≤ rd_c a s (s + k) i ∧ rd_c a s (s + k) i ≤ 26) ∧ (k ≤ i → rd_c a s (s + k) i = 0) ∧ (i ≠ k → rd_c a s (s + k + 1) i = rd_c a s (s + k) i) ∧ (i = k → rd_c a s (s + k + 1) i = x.toInt) := by
    intro i hi
    unfold rd_c
    refine ⟨fun h => ?_, fun h => ?_, fun h => ?_, fun h => ?_⟩
    · rw [if_pos (by omega)]
      have := hl i (by omega)
      have h1 := this.1
      have h2 := this.2
      omega
    · rw [if_neg (by omega)]
    · by_cases d : i < k
      · rw [if_pos (by omega), if_pos (by omega)]
      · rw [if_neg (by omega), if_neg (by omega)]
    · rw [if_pos (by omega), h, hx]
  have hk1 := (hl k (Nat.le_refl _)).1
  have hk2 := (hl k (Nat.le_refl _)).2
  have c0 := c 0 (by decide)
  have c1 := c 1 (by decide)
  have c2 := c 2 (by decide)
  have c3 := c 3 (by decide)
  have c4 := c 4 (by decide)
  have c5 := c 5 (by decide)
  unfold rd_pk at hval ⊢
  rcases (show k = 0 ∨ k = 1 ∨ k = 2 ∨ k = 3 ∨ k = 4 ∨ k = 5 by omega) with rfl | rfl | rfl | rfl | rfl | rfl
  · have e3 := dz_shlc (a := x) (b := 25 - 5 * v1) 25 (by omega) (by omega) (by decide) (by omega)
    rw [rd_or 30 (by decide) (by omega) (by omega) (by omega) (by omega), e3]
    omega
  · have e3 := dz_shlc (a := x) (b := 25 - 5 * v1) 20 (by omega) (by omega) (by decide) (by omega)
    rw [rd_or 25 (by decide) (by omega) (by omega) (by omega) (by omega), e3]
    omega
  · have e3 := dz_shlc (a := x) (b := 25 - 5 * v1) 15 (by omega) (by omega) (by decide) (by omega)
    rw [rd_or 20 (by decide) (by omega) (by omega) (by omega) (by omega), e3]
    omega
  · have e3 := dz_shlc (a := x) (b := 25 - 5 * v1) 10 (by omega) (by omega) (by decide) (by omega)
    rw [rd_or 15 (by decide) (by omega) (by omega) (by omega) (by omega), e3]
    omega
  · have e3 := dz_shlc (a := x) (b := 25 - 5 * v1) 5 (by omega) (by omega) (by decide) (by omega)
    rw [rd_or 10 (by decide) (by omega) (by omega) (by omega) (by omega), e3]
    omega
  · have e3 := dz_shlc (a := x) (b := 25 - 5 * v1) 0 (by omega) (by omega) (by decide) (by omega)
    rw [rd_or 5 (by decide) (by omega) (by omega) (by omega) (by omega), e3]
    omega
theorem rd_pkm {a : Nat → Int32} {s q : Nat} (h : 6 ≤ q - s) : rd_pk a s q = rd_pk a s (s + 6) := by
  have c : ∀ i, i < 6 → rd_c a s q i = rd_c a s (s + 6) i := fun i hi => by
    unfold rd_c
    rw [if_pos (by omega), if_pos (by omega)]
  unfold rd_pk
  rw [c 0 (by decide), c 1 (by decide), c 2 (by decide), c 3 (by decide), c 4 (by decide), c 5 (by decide)]
theorem rd_pk0 (a : Nat → Int32) (s : Nat) : rd_pk a s s = 0 := by
  have c : ∀ i, rd_c a s s i = 0 := fun i => by
    unfold rd_c
    rw [if_neg (by omega)]
  unfold rd_pk
  rw [c, c, c, c, c, c]
  decide
theorem rd_swP (fu : Nat) (a : Nat → Int32) (len at0 kind value : Int32) (n s : Nat) (hn : len.toInt = (n : Int)) (hn4 : n ≤ 400) (hs : at0.toInt = (s : Int)) (hsn : s ≤ n) :
    dz_P (f95_X5_stepWord fu a len at0 kind value) (fun r => ∃ q : Nat, r.1.toInt = (q : Int) ∧ rd_run rd_l a n s q ∧ ((q - s ≤ 6 ∧ r.2.1 = 1 ∧ r.2.2.toInt = rd_pk a s q) ∨ (6 < q - s ∧ r.2.1 = 4))) := by
  have k6 : (6 : Int32).toInt = 6 := by decide
  have k97 : (97 : Int32).toInt = 97 := by decide
  have o : (1 : Int32).toInt = 1 := by decide
  have l4 : ∀ (f : Nat) (w p k v : Int32), dz_P ((F95_X5_stepWord fu a len f).2.2.2 w p k v) (fun r => r = (p, w, v)) := by
    intro f w p k v
    cases f with
    | zero => exact dz_Pn
    | succ f => exact dz_Ps rfl
  have l2 : ∀ (f : Nat) (c p k v : Int32), dz_P ((F95_X5_stepWord fu a len f).2.1 c p k v) (fun r => (r = (p, 4, v) ∧ 6 < c.toInt) ∨ (r = (p, 1, v) ∧ c.toInt ≤ 6)) := by
    intro f c p k v
    cases f with
    | zero => exact dz_Pn
    | succ f =>
      show dz_P (s95_X5_stepWord_2 fu a len (F95_X5_stepWord fu a len f).2.2.2 c p k v) _
      unfold s95_X5_stepWord_2
      exact dz_Pi (fun h => fun r e => Or.inl ⟨l4 f _ _ _ _ r e, rd_xgt 6 k6 h⟩) (fun h => fun r e => Or.inr ⟨l4 f _ _ _ _ r e, rd_xng 6 k6 h⟩)
  have key : ∀ f : Nat, (∀ (p : Nat) (c x k v : Int32), x.toInt = (p : Int) → s ≤ p → p ≤ n → c.toInt = ((p - s : Nat) : Int) → (∀ j, s ≤ j → j < p → rd_l (a j)) → v.toInt = rd_pk a s (if p - s ≤ 6 then p else s + 6) →
      dz_P ((F95_X5_stepWord fu a len f).1 c x k v) (fun r => ∃ q : Nat, r.1.toInt = (q : Int) ∧ rd_run rd_l a n s q ∧ ((q - s ≤ 6 ∧ r.2.1 = 1 ∧ r.2.2.toInt = rd_pk a s q) ∨ (6 < q - s ∧ r.2.1 = 4)))) ∧ (∀ (p : Nat) (c x k w : Int32), x.toInt = (p : Int) → s ≤ p → p < n → c.toInt = ((p - s : Nat) : Int) → (∀ j, s ≤ j → j < p + 1 → rd_l (a j)) → w.toInt = rd_pk a s (if p + 1 - s ≤ 6 then p + 1 else s + 6) →
      dz_P ((F95_X5_stepWord fu a len f).2.2.1 c x k w) (fun r => ∃ q : Nat, r.1.toInt = (q : Int) ∧ rd_run rd_l a n s q ∧ ((q - s ≤ 6 ∧ r.2.1 = 1 ∧ r.2.2.toInt = rd_pk a s q) ∨ (6 < q - s ∧ r.2.1 = 4)))) := by
    intro f
    induction f with
    | zero => exact ⟨fun _ _ _ _ _ _ _ _ _ _ _ => dz_Pn, fun _ _ _ _ _ _ _ _ _ _ _ => dz_Pn⟩
    | succ f ih =>
      obtain ⟨i1, i3⟩ := ih
      refine ⟨?_, ?_⟩
      rotate_left
      · intro p c x k w hx h1 h2 hc h3 hw
        show dz_P (s95_X5_stepWord_3 fu a len (F95_X5_stepWord fu a len f).1 c x k w) _
        unfold s95_X5_stepWord_3
        have e := dz_add (a := c) (b := 1) (by omega) (by omega)
        exact i1 (p + 1) _ _ _ _ (rd_p1 hx (by omega)) (by omega) (by omega) (by omega) h3 hw
      intro p c x k v hx h1 h2 hc h3 hv
      have fin : (p = n ∨ ¬ rd_l (a p)) → dz_P ((F95_X5_stepWord fu a len f).2.1 c x k v) (fun r => ∃ q : Nat, r.1.toInt = (q : Int) ∧ rd_run rd_l a n s q ∧ ((q - s ≤ 6 ∧ r.2.1 = 1 ∧ r.2.2.toInt = rd_pk a s q) ∨ (6 < q - s ∧ r.2.1 = 4))) := by
        intro hq r e
        rcases l2 f c x k v r e with ⟨e1, e2⟩ | ⟨e1, e2⟩
        · subst e1
          exact ⟨p, hx, ⟨h1, h2, h3, hq⟩, Or.inr ⟨by omega, rfl⟩⟩
        · subst e1
          rw [if_pos (by omega)] at hv
          exact ⟨p, hx, ⟨h1, h2, h3, hq⟩, Or.inl ⟨by omega, rfl, hv⟩⟩
      show dz_P (s95_X5_stepWord_1 fu a len (F95_X5_stepWord fu a len f).2.1 (F95_X5_stepWord fu a len f).2.2.1 c x k v) _
      unfold s95_X5_stepWord_1
      refine dz_Pi (fun h => fin (Or.inl (by have := rd_le h; omega))) (fun h => dz_Pi (fun _ => dz_Pb (rd_ilP fu _) (fun r hr => ?_)) (fun _ => dz_Pn))
      rw [rd_tc hx] at hr
      refine dz_Pi (fun h0 => fin (Or.inr (hr.elim (fun q => absurd h0 q.1) (fun q => q.2)))) (fun h0 => ?_)
      have hd := hr.elim (fun q => q.2) (fun q => absurd q.1 h0)
      have hlt := dz_fnle h
      have hj : ∀ j, s ≤ j → j < p + 1 → rd_l (a j) := fun j j1 j2 => by
        by_cases c : j < p
        · exact h3 j j1 c
        · rw [show j = p by omega]
          exact hd
      refine dz_Pi (fun h6 => i3 p c x k v hx h1 (by omega) hc hj ?_) (fun h6 => dz_Pi (fun _ => i3 p c x k _ hx h1 (by omega) hc hj ?_) (fun _ => dz_Pn))
      · have := rd_le h6
        rw [if_neg (by omega)]
        by_cases c6 : p - s ≤ 6
        · rw [if_pos c6] at hv
          rw [hv, show p = s + 6 by omega]
        · rw [if_neg c6] at hv
          exact hv
      · have h6 := dz_fnle h6
        rw [if_pos (by omega)] at hv ⊢
        rw [rd_tc hx]
        have hps : s + (p - s) = p := by omega
        have e1 := dz_sub (a := a p) (b := 97) (by have := hd.1; omega) (by have := hd.2; omega)
        have e2 := dz_add (a := a p - 97) (b := 1) (by have := hd.1; omega) (by have := hd.2; omega)
        have q := rd_wst (value := v) (x := a p - 97 + 1) (v1 := c) (a := a) (s := s) (p - s) (by omega) hc (by rw [hps]; omega) (fun i hi => hj (s + i) (by omega) (by omega)) (by rw [hps]; exact hv)
        rw [hps] at q
        exact q
  unfold f95_X5_stepWord s95_X5_stepWord_0
  exact (key fu).1 s _ _ _ _ hs (Nat.le_refl _) hsn (by rw [Nat.sub_self]; decide) (fun j j1 j2 => by omega) (by rw [if_pos (by omega), rd_pk0]; decide)
theorem rd_stP (fu : Nat) (a : Nat → Int32) (len at0 kind start value : Int32) (n p0 : Nat) (hn : len.toInt = (n : Int)) (hn4 : n ≤ 400) (hs : at0.toInt = (p0 : Int)) (hsn : p0 ≤ n) :
    dz_P (f96_X5_step fu a len at0 kind start value) (fun r => ∃ (s q k : Nat) (v : Int), rd_tk a n p0 s q k v ∧ r.1.toInt = (q : Int) ∧ r.2.2.1.toInt = (s : Int) ∧ r.2.1.toInt = (k : Int) ∧ (k = 1 → r.2.2.2.toInt = v) ∧ (k = 2 → ∃ m : Nat, v = (m : Int) ∧ rd_cap r.2.2.2.toInt m)) := by
  have l3 : ∀ (f : Nat) (w p k z v : Int32), dz_P ((F96_X5_step fu a len f).2.2 w p k z v) (fun r => r = (p + 1, w, z, v)) := by
    intro f w p k z v
    cases f with
    | zero => exact dz_Pn
    | succ f => exact dz_Ps rfl
  have l2 : ∀ (f p : Nat) (x k z v : Int32), x.toInt = (p : Int) → p0 ≤ p → p ≤ n → (∀ j, p0 ≤ j → j < p → rd_b (a j)) → (p = n ∨ ¬ rd_b (a p)) → dz_P ((F96_X5_step fu a len f).2.1 x k z v) (fun r => ∃ (s q k : Nat) (v : Int), rd_tk a n p0 s q k v ∧ r.1.toInt = (q : Int) ∧ r.2.2.1.toInt = (s : Int) ∧ r.2.1.toInt = (k : Int) ∧ (k = 1 → r.2.2.2.toInt = v) ∧ (k = 2 → ∃ m : Nat, v = (m : Int) ∧ rd_cap r.2.2.2.toInt m)) := by
    intro f p x k z v hx h1 h2 h3 h4
    cases f with
    | zero => exact dz_Pn
    | succ f =>
      have hr : rd_run rd_b a n p0 p := ⟨h1, h2, h3, h4⟩
      show dz_P (s96_X5_step_2 fu a len (F96_X5_step fu a len f).2.2 x k z v) _
      unfold s96_X5_step_2
      refine dz_Pi (fun h => dz_Pi (fun _ => dz_Pb (rd_ilP fu _) (fun r ht => ?_)) (fun _ => dz_Pn)) (fun h => ?_)
      · rw [rd_tc hx] at ht
        have hlt := Int32.lt_iff_toInt_lt.mp h
        refine dz_Pi (fun h0 => dz_Pi (fun _ => dz_Pb (rd_idP fu _) (fun r2 ht2 => ?_)) (fun _ => dz_Pn)) (fun h0 => dz_Pb (rd_swP fu a len x k v n p hn hn4 hx h2) (fun r3 hw => dz_Ps ?_))
        · rw [rd_tc hx] at ht2
          have nl := ht.elim (fun q => absurd h0 q.1) (fun q => q.2)
          refine dz_Pi (fun h9 => dz_Pi (fun _ => ?_) (fun _ => dz_Pn)) (fun h9 => dz_Pb (rd_snP fu a len x k v n p hn hn4 hx h2) (fun r3 hw => dz_Ps ?_))
          · have nd := ht2.elim (fun q => absurd h9 q.1) (fun q => q.2)
            rw [rd_tc hx]
            refine dz_Pi (fun h59 => ?_) (fun h59 => ?_)
            · intro r e
              have e := l3 f _ _ _ _ _ r e
              subst e
              exact ⟨p, p + 1, 3, 0, ⟨hr, Or.inr (Or.inr (Or.inr ⟨by omega, nl, nd, rfl, Or.inl ⟨h59, rfl⟩⟩))⟩, rd_p1 hx (by omega), hx, (by show (3 : Int32).toInt = 3; decide), fun q => by omega, fun q => by omega⟩
            · intro r e
              have e := l3 f _ _ _ _ _ r e
              subst e
              exact ⟨p, p + 1, 4, 0, ⟨hr, Or.inr (Or.inr (Or.inr ⟨by omega, nl, nd, rfl, Or.inr ⟨h59, rfl⟩⟩))⟩, rd_p1 hx (by omega), hx, (by show (4 : Int32).toInt = 4; decide), fun q => by omega, fun q => by omega⟩
          · obtain ⟨q, w1, w2, w3, w4⟩ := hw
            have hd := ht2.elim (fun q => q.2) (fun q => absurd q.1 h9)
            exact ⟨p, q, 2, _, ⟨hr, Or.inr (Or.inr (Or.inl ⟨by omega, hd, w2, rfl, rfl⟩))⟩, w1, hx, by rw [w3]; decide, fun q => by omega, fun _ => ⟨_, rfl, w4⟩⟩
        · obtain ⟨q, w1, w2, w3⟩ := hw
          have hl := ht.elim (fun q => q.2) (fun q => absurd q.1 h0)
          rcases w3 with ⟨w3, w4, w5⟩ | ⟨w3, w4⟩
          · exact ⟨p, q, 1, _, ⟨hr, Or.inr (Or.inl ⟨by omega, hl, w2, Or.inl ⟨w3, rfl, rfl⟩⟩)⟩, w1, hx, by rw [w4]; decide, fun _ => w5, fun q => by omega⟩
          · exact ⟨p, q, 4, 0, ⟨hr, Or.inr (Or.inl ⟨by omega, hl, w2, Or.inr ⟨w3, rfl⟩⟩)⟩, w1, hx, by rw [w4]; decide, fun q => by omega, fun q => by omega⟩
      · have hge := dz_fnlt h
        exact dz_Ps ⟨p, p, 0, 0, ⟨hr, Or.inl ⟨by omega, rfl, rfl⟩⟩, hx, hx, (by show (0 : Int32).toInt = 0; decide), fun q => by omega, fun q => by omega⟩
  have key : ∀ (f p : Nat) (x k z v : Int32), x.toInt = (p : Int) → p0 ≤ p → p ≤ n → (∀ j, p0 ≤ j → j < p → rd_b (a j)) → dz_P ((F96_X5_step fu a len f).1 x k z v) (fun r => ∃ (s q k : Nat) (v : Int), rd_tk a n p0 s q k v ∧ r.1.toInt = (q : Int) ∧ r.2.2.1.toInt = (s : Int) ∧ r.2.1.toInt = (k : Int) ∧ (k = 1 → r.2.2.2.toInt = v) ∧ (k = 2 → ∃ m : Nat, v = (m : Int) ∧ rd_cap r.2.2.2.toInt m)) := by
    intro f
    induction f with
    | zero => intro _ _ _ _ _ _ _ _ _; exact dz_Pn
    | succ f ih =>
      intro p x k z v hx h1 h2 h3
      show dz_P (s96_X5_step_1 fu a len (F96_X5_step fu a len f).1 (F96_X5_step fu a len f).2.1 x k z v) _
      unfold s96_X5_step_1
      refine dz_Pi (fun h => l2 f p x k z v hx h1 h2 h3 (Or.inl (by have := rd_le h; omega))) (fun h => dz_Pi (fun _ => dz_Pb (rd_ibP fu _) (fun r ht => ?_)) (fun _ => dz_Pn))
      rw [rd_tc hx] at ht
      have hlt := dz_fnle h
      refine dz_Pi (fun h0 => l2 f p x k z v hx h1 h2 h3 (Or.inr (ht.elim (fun q => absurd h0 q.1) (fun q => q.2)))) (fun h0 => ?_)
      have hb := ht.elim (fun q => q.2) (fun q => absurd q.1 h0)
      refine ih (p + 1) _ _ _ _ (rd_p1 hx (by omega)) (by omega) (by omega) (fun j j1 j2 => ?_)
      by_cases c : j < p
      · exact h3 j j1 c
      · rw [show j = p by omega]
        exact hb
  unfold f96_X5_step s96_X5_step_0
  exact key fu p0 _ _ _ _ hs (Nat.le_refl _) hsn (fun j j1 j2 => by omega)
