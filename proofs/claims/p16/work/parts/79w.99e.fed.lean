/-! feed: both tapes the same row -/
theorem rd_bx {x y : Int32} (h : ∀ r, r < 32 → (dz_bit x r ↔ dz_bit y r)) : x = y := by
  have e : x.toBitVec = y.toBitVec := by
    apply BitVec.eq_of_getLsbD_eq
    intro i hi
    have g := h i hi
    unfold dz_bit at g
    cases a : x.toBitVec.getLsbD i with
    | false =>
      cases b : y.toBitVec.getLsbD i with
      | false => rfl
      | true => rw [a, b] at g; exact absurd (g.mpr rfl) (by decide)
    | true =>
      cases b : y.toBitVec.getLsbD i with
      | false => rw [a, b] at g; exact absurd (g.mp rfl) (by decide)
      | true => rfl
  apply Int32.toInt_inj.mp
  show x.toBitVec.toInt = y.toBitVec.toInt
  rw [e]
theorem rd_255 : ∀ r : Fin 32, (255 : Int32).toBitVec.getLsbD r.val = decide (r.val < 8) := by decide
theorem rd_shu {v s : Int32} {c : Nat} (hs : s.toInt = (c : Int)) (hc : c ≤ 24) : ((v >>> (s &&& 31)) &&& 255) = ((dz_ush v s) &&& 255) := by
  have e := dz_eqn (b := s) (c := c) hs (by omega)
  have f := rd_fin0 ⟨c, by omega⟩
  have hm := dz_sm ⟨c, by omega⟩
  simp only at f hm
  refine rd_bx (fun r hr => ?_)
  rw [dz_bit_and, dz_bit_and]
  have h255 : dz_bit 255 r ↔ r < 8 := by
    have h := rd_255 ⟨r, hr⟩
    unfold dz_bit
    rw [h]
    simp
  by_cases c8 : r < 8
  · have h3 : (v >>> (s &&& 31)).toBitVec = v.toBitVec.sshiftRight' ((s &&& 31).toBitVec.smod 32) := rfl
    have l : dz_bit (v >>> (s &&& 31)) r ↔ dz_bit v (c + r) := by
      unfold dz_bit
      rw [h3, e, hm]
      show (v.toBitVec.sshiftRight (BitVec.ofNat 32 c).toNat).getLsbD r = true ↔ _
      rw [BitVec.getLsbD_sshiftRight, BitVec.toNat_ofNat, Nat.mod_eq_of_lt (by omega : c < 2 ^ 32), if_pos (by omega : c + r < 32)]
      simp
      omega
    have l2 : dz_bit (dz_ush v s) r ↔ dz_bit v (c + r) := by
      unfold dz_bit
      show (dz_ush v s).toBitVec.toNat.testBit r = true ↔ v.toBitVec.toNat.testBit (c + r) = true
      rw [dz_ushn, Nat.testBit_shiftRight, e, f]
    rw [l, l2]
  · constructor
    · intro g
      exact absurd (h255.mp g.2) c8
    · intro g
      exact absurd (h255.mp g.2) c8
/-- the byte j of four -/
def rd_b4 (v : Int32) (j : Nat) : Int32 := (dz_ush v (Int32.ofNat (24 - 8 * j))) &&& 255
theorem rd_ofn {s : Int32} {c : Nat} (hs : s.toInt = (c : Int)) (hc : c ≤ 400) : s = Int32.ofNat c := dz_eqn (b := s) (c := c) hs (by omega)
theorem rd_t4P (fu : Nat) (v t : Int32) (a : Nat → Int32) (q : Nat) (ht : t.toInt = (q : Int)) (hq : q + 4 ≤ 400) : dz_P (f88_X11_tapeFour fu v t a) (fun r => r.1.toInt = ((q + 4 : Nat) : Int) ∧ ∀ k, r.2 k = if q ≤ k ∧ k < q + 4 then rd_b4 v (k - q) else a k) := by
  have k0 : (0 : Int32).toInt = 0 := by decide
  have k24 : (24 : Int32).toInt = 24 := by decide
  have k400 : (400 : Int32).toInt = 400 := by decide
  have k8 : (-8 : Int32).toInt = -8 := by decide
  have key : ∀ (f j : Nat) (s x : Int32) (b : Nat → Int32), s.toInt = 24 - 8 * (j : Int) → j ≤ 4 → x.toInt = ((q + j : Nat) : Int) → (∀ k, b k = if q ≤ k ∧ k < q + j then rd_b4 v (k - q) else a k) → dz_P (F88_X11_tapeFour fu f v s x b) (fun r => r.1.toInt = ((q + 4 : Nat) : Int) ∧ ∀ k, r.2 k = if q ≤ k ∧ k < q + 4 then rd_b4 v (k - q) else a k) := by
    intro f
    induction f with
    | zero => intro _ _ _ _ _ _ _ _; exact dz_Pn
    | succ f ih =>
      intro j s x b hs hj hx hb
      show dz_P (s88_X11_tapeFour_1 fu (F88_X11_tapeFour fu f) v s x b) _
      unfold s88_X11_tapeFour_1
      refine dz_Pi (fun h => ?_) (fun h => dz_Pi (fun h2 => ?_) (fun h2 => dz_Pi (fun _ => ?_) (fun _ => dz_Pn)))
      · have h := Int32.lt_iff_toInt_lt.mp h
        have e : j = 4 := by omega
        subst e
        exact dz_Ps ⟨hx, hb⟩
      · have h := dz_fnlt h
        have h2 := rd_le h2
        exfalso
        omega
      · have h := dz_fnlt h
        have e8 := dz_add (a := s) (b := -8) (by omega) (by omega)
        have es : s = Int32.ofNat (24 - 8 * j) := rd_ofn (by omega) (by omega)
        have e9 : (s + (-8)).toInt = 24 - 8 * ((j + 1 : Nat) : Int) := by
          rw [e8, k8, hs]
          omega
        have hx1 : (x + 1).toInt = ((q + (j + 1) : Nat) : Int) := rd_p1 (p := q + j) hx (by omega)
        have hj1 : j + 1 ≤ 4 := by omega
        refine ih (j + 1) _ _ _ e9 hj1 hx1 (fun k => ?_)
        rw [rd_up hx]
        by_cases c : k = q + j
        · rw [if_pos c, if_pos ⟨by omega, by omega⟩, c, show q + j - q = j by omega, es]
          rfl
        · rw [if_neg c, hb k]
          by_cases c2 : q ≤ k ∧ k < q + j
          · rw [if_pos c2, if_pos ⟨c2.1, by omega⟩]
          · rw [if_neg c2, if_neg (fun g => c2 ⟨g.1, by omega⟩)]
  unfold f88_X11_tapeFour s88_X11_tapeFour_0
  exact key fu 0 24 t a (by omega) (by omega) (by omega) (fun k => by rw [if_neg (by omega)])
/-- which of the five -/
def rd_w5 (v1 v2 v3 v4 v5 : Int32) (j : Nat) : Int32 := if j < 4 then v1 else if j < 8 then v2 else if j < 12 then v3 else if j < 16 then v4 else v5
def rd_20 (v1 v2 v3 v4 v5 : Int32) (j : Nat) : Int32 := rd_b4 (rd_w5 v1 v2 v3 v4 v5 j) (j % 4)
theorem rd_20b {v1 v2 v3 v4 v5 : Int32} (i j : Nat) (hi : i < 4) : rd_20 v1 v2 v3 v4 v5 (4 * j + i) = rd_b4 (rd_w5 v1 v2 v3 v4 v5 (4 * j)) i := by
  have e : rd_w5 v1 v2 v3 v4 v5 (4 * j + i) = rd_w5 v1 v2 v3 v4 v5 (4 * j) := by
    unfold rd_w5
    by_cases c1 : 4 * j < 4
    · rw [if_pos (show 4 * j + i < 4 by omega), if_pos c1]
    · rw [if_neg (show ¬ 4 * j + i < 4 by omega), if_neg c1]
      by_cases c2 : 4 * j < 8
      · rw [if_pos (show 4 * j + i < 8 by omega), if_pos c2]
      · rw [if_neg (show ¬ 4 * j + i < 8 by omega), if_neg c2]
        by_cases c3 : 4 * j < 12
        · rw [if_pos (show 4 * j + i < 12 by omega), if_pos c3]
        · rw [if_neg (show ¬ 4 * j + i < 12 by omega), if_neg c3]
          by_cases c4 : 4 * j < 16
          · rw [if_pos (show 4 * j + i < 16 by omega), if_pos c4]
          · rw [if_neg (show ¬ 4 * j + i < 16 by omega), if_neg c4]
  unfold rd_20
  rw [e, show (4 * j + i) % 4 = i by omega]
theorem rd_fdC (fu : Nat) (v1 v2 v3 v4 v5 t : Int32) (a : Nat → Int32) (q : Nat) (ht : t.toInt = (q : Int)) (hq : q ≤ 400) : dz_P (f89_X11_feed fu v1 v2 v3 v4 v5 t a) (fun r => r.2.2 = if q + 20 ≤ 400 then (fun k => if q ≤ k ∧ k < q + 20 then rd_20 v1 v2 v3 v4 v5 (k - q) else a k) else a) := by
  have k20 : (20 : Int32).toInt = 20 := by decide
  have k400 : (400 : Int32).toInt = 400 := by decide
  have e := dz_add (a := t) (b := 20) (by omega) (by omega)
  unfold f89_X11_feed s89_X11_feed_0
  refine dz_Pi (fun h => ?_) (fun h => dz_Ps ?_)
  · have h := rd_le h
    rw [if_pos (by omega)]
    refine dz_Pb (rd_t4P fu v1 t a q ht (by omega)) (fun r1 h1 => dz_Pb (rd_t4P fu v2 r1.1 r1.2 (q + 4) h1.1 (by omega)) (fun r2 h2 => dz_Pb (rd_t4P fu v3 r2.1 r2.2 (q + 4 + 4) h2.1 (by omega)) (fun r3 h3 => dz_Pb (rd_t4P fu v4 r3.1 r3.2 (q + 4 + 4 + 4) h3.1 (by omega)) (fun r4 h4 => dz_Pb (rd_t4P fu v5 r4.1 r4.2 (q + 4 + 4 + 4 + 4) h4.1 (by omega)) (fun r5 h5 => dz_Ps ?_)))))
    funext k
    show r5.2 k = _
    rw [h5.2 k, h4.2 k, h3.2 k, h2.2 k, h1.2 k]
    by_cases c : q ≤ k ∧ k < q + 20
    · rw [if_pos c]
      obtain ⟨i, hi, j, hj, hk⟩ : ∃ i, i < 4 ∧ ∃ j, j < 5 ∧ k = q + (4 * j + i) := ⟨(k - q) % 4, by omega, (k - q) / 4, by omega, by omega⟩
      rw [show k - q = 4 * j + i by omega, rd_20b i j hi]
      rcases (show j = 0 ∨ j = 1 ∨ j = 2 ∨ j = 3 ∨ j = 4 by omega) with e | e | e | e | e
      · subst e
        rw [if_neg (by omega), if_neg (by omega), if_neg (by omega), if_neg (by omega), if_pos ⟨by omega, by omega⟩, show 4 * 0 + i = i by omega]
        rfl
      · subst e
        rw [if_neg (by omega), if_neg (by omega), if_neg (by omega), if_pos ⟨by omega, by omega⟩, show k - (q + 4) = i by omega]
        rfl
      · subst e
        rw [if_neg (by omega), if_neg (by omega), if_pos ⟨by omega, by omega⟩, show k - (q + 4 + 4) = i by omega]
        rfl
      · subst e
        rw [if_neg (by omega), if_pos ⟨by omega, by omega⟩, show k - (q + 4 + 4 + 4) = i by omega]
        rfl
      · subst e
        rw [if_pos ⟨by omega, by omega⟩, show k - (q + 4 + 4 + 4 + 4) = i by omega]
        rfl
    · rw [if_neg c, if_neg (by omega), if_neg (by omega), if_neg (by omega), if_neg (by omega), if_neg (by omega)]
  · have h := dz_fnle h
    rw [if_neg (by omega)]
theorem rd_fdR (fu : Nat) (v1 v2 v3 v4 v5 t th : Int32) (a : Nat → Int32) (q : Nat) (ht : t.toInt = (q : Int)) (hq : q ≤ 400) : dz_P (f0_X12_feed fu v1 v2 v3 v4 v5 t th a) (fun r => r.2.2.2 = if q + 20 ≤ 400 then (fun k => if q ≤ k ∧ k < q + 20 then rd_20 v1 v2 v3 v4 v5 (k - q) else a k) else a) := by
  have k20 : (20 : Int32).toInt = 20 := by decide
  have k400 : (400 : Int32).toInt = 400 := by decide
  have k0 : (0 : Int32).toInt = 0 := by decide
  have k4 : (4 : Int32).toInt = 4 := by decide
  have k8 : (8 : Int32).toInt = 8 := by decide
  have k12 : (12 : Int32).toInt = 12 := by decide
  have k16 : (16 : Int32).toInt = 16 := by decide
  have k24 : (24 : Int32).toInt = 24 := by decide
  have e := dz_add (a := t) (b := 20) (by omega) (by omega)
  unfold f0_X12_feed s0_X12_feed_0
  refine dz_Pi (fun h => ?_) (fun h => dz_Ps ?_)
  · have h := rd_le h
    rw [if_pos (by omega)]
    have key : ∀ f : Nat, (∀ (j : Nat) (x th : Int32) (b : Nat → Int32), x.toInt = (j : Int) → j ≤ 20 → (∀ k, b k = if q ≤ k ∧ k < q + j then rd_20 v1 v2 v3 v4 v5 (k - q) else a k) → dz_P ((F0_X12_feed fu f).1 v1 v2 v3 v4 v5 x t th b) (fun r => ∀ k, r.2.2.2 k = if q ≤ k ∧ k < q + 20 then rd_20 v1 v2 v3 v4 v5 (k - q) else a k)) ∧
        (∀ (j : Nat) (x w0 th : Int32) (b : Nat → Int32), x.toInt = (j : Int) → j < 20 → w0 = rd_w5 v1 v2 v3 v4 v5 j → (∀ k, b k = if q ≤ k ∧ k < q + j then rd_20 v1 v2 v3 v4 v5 (k - q) else a k) → dz_P ((F0_X12_feed fu f).2 v1 v2 v3 v4 v5 x w0 t th b) (fun r => ∀ k, r.2.2.2 k = if q ≤ k ∧ k < q + 20 then rd_20 v1 v2 v3 v4 v5 (k - q) else a k)) := by
      intro f
      induction f with
      | zero => exact ⟨fun _ _ _ _ _ _ _ => dz_Pn, fun _ _ _ _ _ _ _ _ _ => dz_Pn⟩
      | succ f ih =>
        obtain ⟨i1, i2⟩ := ih
        refine ⟨?_, ?_⟩
        · intro j x th b hx hj hb
          show dz_P (s0_X12_feed_1 fu (F0_X12_feed fu f).2 v1 v2 v3 v4 v5 x t th b) _
          unfold s0_X12_feed_1
          refine dz_Pi (fun h => dz_Ps (fun k => ?_)) (fun h => dz_Pi (fun h2 => dz_Pi (fun h3 => dz_Pi (fun h4 => dz_Pi (fun h5 => ?_) (fun h5 => ?_)) (fun h4 => ?_)) (fun h3 => ?_)) (fun h2 => ?_))
          · have h := rd_le h
            have e : j = 20 := by omega
            subst e
            exact hb k
          · have h := dz_fnle h
            have h5 := rd_le h5
            exact i2 j x _ th b hx (by omega) (by unfold rd_w5; rw [if_neg (by omega), if_neg (by omega), if_neg (by omega), if_neg (by omega)]) hb
          · have h4 := rd_le h4
            have h5 := dz_fnle h5
            exact i2 j x _ th b hx (by omega) (by unfold rd_w5; rw [if_neg (by omega), if_neg (by omega), if_neg (by omega), if_pos (by omega)]) hb
          · have h3 := rd_le h3
            have h4 := dz_fnle h4
            exact i2 j x _ th b hx (by omega) (by unfold rd_w5; rw [if_neg (by omega), if_neg (by omega), if_pos (by omega)]) hb
          · have h2 := rd_le h2
            have h3 := dz_fnle h3
            exact i2 j x _ th b hx (by omega) (by unfold rd_w5; rw [if_neg (by omega), if_pos (by omega)]) hb
          · have h2 := dz_fnle h2
            exact i2 j x _ th b hx (by omega) (by unfold rd_w5; rw [if_pos (by omega)]) hb
        · intro j x w0 th b hx hj hw hb
          show dz_P (s0_X12_feed_2 fu (F0_X12_feed fu f).1 v1 v2 v3 v4 v5 x w0 t th b) _
          unfold s0_X12_feed_2
          have ex := dz_add (a := t) (b := x) (by omega) (by omega)
          have hx2 : (t + x).toInt = ((q + j : Nat) : Int) := by omega
          have er := dz_remn (a := x) (b := 4) 4 (by omega) k4 (by omega)
          have em := dz_mull (a := 8) (b := dz_rem x 4) 8 k8 (by omega) (by omega)
          have es := dz_sub (a := 24) (b := 8 * dz_rem x 4) (by omega) (by omega)
          have hs : (24 - (8 * dz_rem x 4)).toInt = ((24 - 8 * (j % 4) : Nat) : Int) := by omega
          refine dz_Pi (fun _ => i1 (j + 1) _ th _ (rd_p1 hx (by omega)) (by omega) (fun k => ?_)) (fun _ => dz_Pn)
          rw [rd_up hx2, rd_shu hs (by omega), rd_ofn hs (by omega), hw]
          by_cases c : k = q + j
          · rw [if_pos c, if_pos ⟨by omega, by omega⟩, c, show q + j - q = j by omega]
            rfl
          · rw [if_neg c, hb k]
            by_cases c2 : q ≤ k ∧ k < q + j
            · rw [if_pos c2, if_pos ⟨c2.1, by omega⟩]
            · rw [if_neg c2, if_neg (fun g => c2 ⟨g.1, by omega⟩)]
    intro r hr
    funext k
    exact (key fu).1 0 0 0 a k0 (by omega) (fun k => by rw [if_neg (by omega)]) r hr k
  · have h := dz_fnle h
    rw [if_neg (by omega)]
/-- both tapes stay the same row -/
theorem rd_fed (fu : Nat) (v1 v2 v3 v4 v5 t th : Int32) (a : Nat → Int32) (h0 : 0 ≤ t.toInt) (h4 : t.toInt ≤ 400) : rd_2 (f89_X11_feed fu v1 v2 v3 v4 v5 t a) (f0_X12_feed fu v1 v2 v3 v4 v5 t th a) (fun r s => s.2.2.2 = r.2.2) := by
  obtain ⟨q, hq⟩ : ∃ q : Nat, t.toInt = (q : Int) := ⟨t.toInt.toNat, by omega⟩
  exact rd_2p (rd_fdC fu v1 v2 v3 v4 v5 t a q hq (by omega)) (fun r hr => (fun s hs => by
    show s.2.2.2 = r.2.2
    rw [hr]
    exact rd_fdR fu v1 v2 v3 v4 v5 t th a q hq (by omega) s hs))
