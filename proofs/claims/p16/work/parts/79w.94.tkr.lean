/-! the reference's take -/
theorem rd_ismP (fu : Nat) (stop x : Int32) (a : Nat → Int32) (n p : Nat) (hn : stop.toInt = (n : Int)) (hx : x.toInt = (p : Int)) : dz_P (f4_X12_isSmall fu stop a x) (fun r => (r ≠ 0 ∧ p < n ∧ rd_l (a p)) ∨ (r = 0 ∧ (n ≤ p ∨ ¬ rd_l (a p)))) := by
  unfold f4_X12_isSmall s4_X12_isSmall_0
  simp only [rd_tc hx]
  have e1 : (97 : Int32).toInt = 97 := by decide
  have e2 : (122 : Int32).toInt = 122 := by decide
  refine dz_Pi (fun h => dz_Ps (Or.inr ⟨rfl, Or.inl (by have := rd_le h; omega)⟩)) (fun h => dz_Pi (fun _ => dz_Pi (fun h2 => dz_Ps (Or.inr ⟨rfl, Or.inr (fun q => by have := rd_xlt 97 e1 h2; have := q.1; omega)⟩)) (fun h2 => dz_Pi (fun _ => dz_Pi (fun h3 => dz_Ps (Or.inr ⟨rfl, Or.inr (fun q => by have := rd_xgt 122 e2 h3; have := q.2; omega)⟩)) (fun h3 => dz_Ps (Or.inl ⟨by decide, by have := dz_fnle h; omega, rd_xnl 97 e1 h2, rd_xng 122 e2 h3⟩))) (fun _ => dz_Pn))) (fun _ => dz_Pn))
theorem rd_isdP (fu : Nat) (stop x : Int32) (a : Nat → Int32) (n p : Nat) (hn : stop.toInt = (n : Int)) (hx : x.toInt = (p : Int)) : dz_P (f5_X12_isDigit fu stop a x) (fun r => (r ≠ 0 ∧ p < n ∧ rd_d (a p)) ∨ (r = 0 ∧ (n ≤ p ∨ ¬ rd_d (a p)))) := by
  unfold f5_X12_isDigit s5_X12_isDigit_0
  simp only [rd_tc hx]
  have e1 : (48 : Int32).toInt = 48 := by decide
  have e2 : (57 : Int32).toInt = 57 := by decide
  refine dz_Pi (fun h => dz_Ps (Or.inr ⟨rfl, Or.inl (by have := rd_le h; omega)⟩)) (fun h => dz_Pi (fun _ => dz_Pi (fun h2 => dz_Ps (Or.inr ⟨rfl, Or.inr (fun q => by have := rd_xlt 48 e1 h2; have := q.1; omega)⟩)) (fun h2 => dz_Pi (fun _ => dz_Pi (fun h3 => dz_Ps (Or.inr ⟨rfl, Or.inr (fun q => by have := rd_xgt 57 e2 h3; have := q.2; omega)⟩)) (fun h3 => dz_Ps (Or.inl ⟨by decide, by have := dz_fnle h; omega, rd_xnl 48 e1 h2, rd_xng 57 e2 h3⟩))) (fun _ => dz_Pn))) (fun _ => dz_Pn))
/-- a word packed: the first i letters -/
def rd_h (a : Nat → Int32) (s q : Nat) : Nat → Int
  | 0 => 0
  | i + 1 => 32 * rd_h a s q i + rd_c a s q i
theorem rd_h6 (a : Nat → Int32) (s q : Nat) : rd_h a s q 6 = rd_pk a s q := by
  unfold rd_pk
  simp only [rd_h]
  omega
theorem rd_cb {a : Nat → Int32} {s q i : Nat} (h : ∀ j, s ≤ j → j < q → rd_l (a j)) : 0 ≤ rd_c a s q i ∧ rd_c a s q i ≤ 26 := by
  unfold rd_c
  by_cases c : s + i < q
  · rw [if_pos c]
    have h1 := (h (s + i) (by omega) c).1
    have h2 := (h (s + i) (by omega) c).2
    omega
  · rw [if_neg c]
    omega
theorem rd_hb {a : Nat → Int32} {s q : Nat} (h : ∀ j, s ≤ j → j < q → rd_l (a j)) (i : Nat) (hi : i ≤ 6) : 0 ≤ rd_h a s q i ∧ rd_h a s q i < ((32 ^ i : Nat) : Int) := by
  have c := fun i => rd_cb (i := i) h
  have c0 := c 0
  have c1 := c 1
  have c2 := c 2
  have c3 := c 3
  have c4 := c 4
  have c5 := c 5
  rcases (show i = 0 ∨ i = 1 ∨ i = 2 ∨ i = 3 ∨ i = 4 ∨ i = 5 ∨ i = 6 by omega) with rfl | rfl | rfl | rfl | rfl | rfl | rfl <;> simp only [rd_h] <;> constructor <;> omega
theorem rd_pakP (fu : Nat) (a : Nat → Int32) (x y : Int32) (s q : Nat) (hx : x.toInt = (s : Int)) (hy : y.toInt = (q : Int)) (hs : s ≤ q) (hq : q ≤ 400) (hl : ∀ j, s ≤ j → j < q → rd_l (a j)) : dz_P (f6_X12_packed fu a x y) (fun r => r.toInt = rd_pk a s q) := by
  have k5 : (5 : Int32).toInt = 5 := by decide
  have k6 : (6 : Int32).toInt = 6 := by decide
  have k96 : (96 : Int32).toInt = 96 := by decide
  have e6 := dz_add (a := x) (b := 6) (by omega) (by omega)
  have key : ∀ f : Nat, (∀ (i : Nat) (v p : Int32), i ≤ 6 → p.toInt = ((s + i : Nat) : Int) → v.toInt = rd_h a s q i → dz_P ((F6_X12_packed fu a f).1 x y v p) (fun r => r.toInt = rd_pk a s q)) ∧
      (∀ (i : Nat) (p w0 w1 : Int32), i < 6 → p.toInt = ((s + i : Nat) : Int) → w0.toInt = rd_c a s q i → w1.toInt = 32 * rd_h a s q i → dz_P ((F6_X12_packed fu a f).2 x y p w0 w1) (fun r => r.toInt = rd_pk a s q)) := by
    intro f
    induction f with
    | zero => exact ⟨fun _ _ _ _ _ _ => dz_Pn, fun _ _ _ _ _ _ _ _ => dz_Pn⟩
    | succ f ih =>
      obtain ⟨i1, i2⟩ := ih
      refine ⟨?_, ?_⟩
      · intro i v p hi hp hv
        show dz_P (s6_X12_packed_1 fu a (F6_X12_packed fu a f).2 x y v p) _
        unfold s6_X12_packed_1
        have hb := rd_hb hl i hi
        refine dz_Pi (fun h => dz_Ps ?_) (fun h => ?_)
        · have := rd_le h
          have e : i = 6 := by omega
          subst e
          rw [hv, rd_h6]
        · have h := dz_fnle h
          have hi5 : i ≤ 5 := by omega
          have hb5 : ((32 ^ i : Nat) : Int) ≤ 33554432 := by
            have := Nat.pow_le_pow_right (n := 32) (by decide) hi5
            have e : (32 : Nat) ^ 5 = 33554432 := by decide
            omega
          have es := dz_shlc (a := v) (b := 5) 5 (by omega) k5 (by decide) (by omega)
          refine dz_Pi (fun h2 => i2 i _ _ _ (by omega) hp ?_ (by rw [es, hv]; omega)) (fun h2 => dz_Pi (fun _ => i2 i _ _ _ (by omega) hp ?_ (by rw [es, hv]; omega)) (fun _ => dz_Pn))
          · have := rd_le h2
            unfold rd_c
            rw [if_neg (by omega)]
            decide
          · have h2 := dz_fnle h2
            rw [rd_tc hp]
            have hli := hl (s + i) (by omega) (by omega)
            have l1 := hli.1
            have l2 := hli.2
            have ed := dz_sub (a := a (s + i)) (b := 96) (by omega) (by omega)
            unfold rd_c
            rw [if_pos (by omega)]
            omega
      · intro i p w0 w1 hi hp h0 h1
        show dz_P (s6_X12_packed_2 fu a (F6_X12_packed fu a f).1 x y p w0 w1) _
        unfold s6_X12_packed_2
        have hb := rd_hb hl i (by omega)
        have hc := rd_cb (i := i) hl
        have eo := rd_or (x := w1) (y := w0) 5 (by decide) (by omega) (by omega) (by omega) (by omega)
        refine i1 (i + 1) _ _ (by omega) (by have := rd_p1 hp (by omega); rw [show s + (i + 1) = s + i + 1 by omega]; exact this) ?_
        rw [eo, h0, h1]
        simp only [rd_h]
  unfold f6_X12_packed s6_X12_packed_0
  exact (key fu).1 0 _ _ (by decide) hx (by simp only [rd_h]; decide)
/-! the seven words -/
def rd_off (j : Nat) : Nat := [0, 7, 11, 16, 23, 29, 35, 41].getD j 0
def rd_len (j : Nat) : Nat := [6, 3, 4, 6, 5, 5, 5].getD j 0
def rd_W (o : Nat) : Int := dz_wd.getD o 0
def rd_kv (j : Nat) : Int := [254268947, 553254912, 437857280, 54967924, 50383488, 475731520, 211555456].getD j 0
def rd_kw (a : Nat → Int32) (s q j : Nat) : Prop := q = s + rd_len j ∧ ∀ i, i < rd_len j → (a (s + i)).toInt = rd_W (rd_off j + i)
theorem rd_w1 : ∀ j : Fin 7, ∀ i : Fin 6, i.val < rd_len j.val → rd_W (rd_off j.val + i.val) ≠ 32 := by decide +kernel
theorem rd_w2 : ∀ j : Fin 7, rd_W (rd_off j.val + rd_len j.val) = 32 ∧ rd_off (j.val + 1) = rd_off j.val + (rd_len j.val + 1) ∧ rd_len j.val ≤ 6 ∧ rd_off (j.val + 1) ≤ 41 ∧ 3 ≤ rd_len j.val := by decide +kernel
theorem rd_w3 : ∀ o : Fin 41, dz_wd[o.val]? = some (rd_W o.val) := by decide +kernel
theorem rd_Wat {w : Nat → Int32} (h : dz_pt w dz_wd) {x : Int32} {o : Nat} (hx : x.toInt = (o : Int)) (ho : o < 41) : (w x.toNatClampNeg).toInt = rd_W o := by
  rw [rd_tc hx]
  exact h o _ (rd_w3 ⟨o, ho⟩)
