/-! order and arrangement, both sides alike -/
theorem rd_3b : ∀ r : Fin 32, (3 : Int32).toBitVec.getLsbD r.val = decide (r.val < 2) := by decide
theorem rd_sh3 {v s : Int32} {c : Nat} (hs : s.toInt = (c : Int)) (hc : c ≤ 24) : ((v >>> (s &&& 31)) &&& 3) = ((dz_ush v s) &&& 3) := by
  have e := dz_eqn (b := s) (c := c) hs (by omega)
  have f := rd_fin0 ⟨c, by omega⟩
  have hm := dz_sm ⟨c, by omega⟩
  simp only at f hm
  refine rd_bx (fun r hr => ?_)
  rw [dz_bit_and, dz_bit_and]
  have h3b : dz_bit 3 r ↔ r < 2 := by
    have h := rd_3b ⟨r, hr⟩
    unfold dz_bit
    rw [h]
    simp
  by_cases c8 : r < 2
  · have h3 : (v >>> (s &&& 31)).toBitVec = v.toBitVec.sshiftRight' ((s &&& 31).toBitVec.smod 32) := rfl
    have l : dz_bit (v >>> (s &&& 31)) r ↔ dz_bit v (c + r) := by
      unfold dz_bit
      rw [h3, e, hm]
      show (v.toBitVec.sshiftRight (BitVec.ofNat 32 c).toNat).getLsbD r = true ↔ _
      rw [BitVec.getLsbD_sshiftRight, BitVec.toNat_ofNat, Nat.mod_eq_of_lt (by omega : c < 2 ^ 32), if_pos (by omega : c + r < 32)]
      simp
      omega
    have l2 : dz_bit (dz_ush v s) r ↔ dz_bit v (c + r) := by
      unfold dz_bit
      show (dz_ush v s).toBitVec.toNat.testBit r = true ↔ v.toBitVec.toNat.testBit (c + r) = true
      rw [dz_ushn, Nat.testBit_shiftRight, e, f]
    rw [l, l2]
  · constructor
    · intro g
      exact absurd (h3b.mp g.2) c8
    · intro g
      exact absurd (h3b.mp g.2) c8
theorem rd_2x {x : Int32} {q : Nat} (hx : x.toInt = (q : Int)) (hq : q ≤ 3) : ((2 : Int32) * x).toInt = ((2 * q : Nat) : Int) := by
  have l2 : (2 : Int32).toInt = 2 := by decide
  have m := dz_mull (a := 2) (b := x) 2 l2 (by omega) (by omega)
  omega
theorem rd_dds {v x : Int32} {q : Nat} (hx : x.toInt = (q : Int)) (hq : q ≤ 3) : (v >>> (((2 : Int32) * x) &&& 31)) &&& 3 = dz_dd v q := by
  have e := dz_eqn (b := x) (c := q) hx (by omega)
  unfold dz_dd
  rw [← e]
theorem rd_dsh {v x : Int32} {q : Nat} (hx : x.toInt = (q : Int)) (hq : q ≤ 3) : (dz_ush v ((2 : Int32) * x)) &&& 3 = dz_dd v q := by
  rw [← rd_sh3 (v := v) (s := (2 : Int32) * x) (c := 2 * q) (rd_2x hx hq) (by omega)]
  exact rd_dds hx hq
theorem rd_rt (fu : Nat) (v n : Int32) (a : Nat → Int32) (N : Nat) (hn : n.toInt = (N : Int)) (hN : N ≤ 4) : rd_2 (f166_X11_readTurns fu v n a) (f34_X12_isOnce fu v n) (fun r s => s = r.1 ∧ ((r.1 = 0 ∧ r.2 = a) ∨ (r.1 = 1 ∧ (∀ k, k < N → r.2 k = dz_dd v k) ∧ (∀ k, N ≤ k → r.2 k = a k)))) := by
  have k0 : (0 : Int32).toInt = ((0 : Nat) : Int) := by decide
  have k4 : (4 : Int32).toInt = 4 := by decide
  have fin : ∀ (f q : Nat) (x : Int32) (b : Nat → Int32), x.toInt = (q : Int) → q ≤ N → (∀ k, k < q → b k = dz_dd v k) → (∀ k, q ≤ k → b k = a k) → dz_P ((F166_X11_readTurns fu f).2 v n x b) (fun r => r.1 = 1 ∧ (∀ k, k < N → r.2 k = dz_dd v k) ∧ (∀ k, N ≤ k → r.2 k = a k)) := by
    intro f
    induction f with
    | zero => intro _ _ _ _ _ _ _; exact dz_Pn
    | succ f ih =>
      intro q x b hx hq h1 h2
      show dz_P (s166_X11_readTurns_2 fu (F166_X11_readTurns fu f).2 v n x b) _
      unfold s166_X11_readTurns_2
      refine dz_Pi (fun h => dz_Ps ⟨rfl, fun k hk => ?_, fun k hk => ?_⟩) (fun h => dz_Pi (fun h3 => ?_) (fun _ => dz_Pi (fun _ => ?_) (fun _ => dz_Pn)))
      · have h := rd_le h
        exact h1 k (by omega)
      · have h := rd_le h
        exact h2 k (by omega)
      · have h := dz_fnle h
        have h3 := rd_le h3
        exfalso
        omega
      · have h := dz_fnle h
        refine ih (q + 1) (x + 1) _ (rd_p1 hx (by omega)) (by omega) (fun k hk => ?_) (fun k hk => ?_)
        · rw [rd_up hx]
          by_cases c : k = q
          · rw [if_pos c, c]
            exact rd_dsh hx (by omega)
          · rw [if_neg c]
            exact h1 k (by omega)
        · rw [rd_up hx, if_neg (by omega)]
          exact h2 k (by omega)
  have key : ∀ (f g q : Nat) (w x : Int32), x.toInt = (q : Int) → q ≤ N → rd_2 ((F166_X11_readTurns fu f).1 v n w x a) (F34_X12_isOnce fu g v n w x) (fun r s => s = r.1 ∧ ((r.1 = 0 ∧ r.2 = a) ∨ (r.1 = 1 ∧ (∀ k, k < N → r.2 k = dz_dd v k) ∧ (∀ k, N ≤ k → r.2 k = a k)))) := by
    intro f
    induction f with
    | zero => intro _ _ _ _ _ _; exact rd_2n
    | succ f ih =>
      intro g q w x hx hq
      cases g with
      | zero => exact rd_2m
      | succ g =>
        show rd_2 (s166_X11_readTurns_1 fu (F166_X11_readTurns fu f).1 (F166_X11_readTurns fu f).2 v n w x a) (s34_X12_isOnce_1 fu (F34_X12_isOnce fu g) v n w x) _
        unfold s166_X11_readTurns_1 s34_X12_isOnce_1
        by_cases h : n ≤ x
        · rw [if_pos h, if_pos h]
          by_cases h2 : w = (((1 : Int32) <<< (n &&& 31)) - 1)
          · rw [if_pos h2, if_pos h2]
            exact rd_2p (fin f 0 0 a k0 (Nat.zero_le _) (fun k hk => absurd hk (Nat.not_lt_zero k)) (fun _ _ => rfl)) (fun r hr => dz_Ps ⟨hr.1.symm, Or.inr hr⟩)
          · rw [if_neg h2, if_neg h2]
            exact rd_2s ⟨rfl, Or.inl ⟨rfl, rfl⟩⟩
        · rw [if_neg h, if_neg h]
          have h := dz_fnle h
          rw [rd_dsh hx (by omega), rd_dds hx (by omega)]
          exact ih g (q + 1) _ _ (rd_p1 hx (by omega)) (by omega)
  unfold f166_X11_readTurns s166_X11_readTurns_0 f34_X12_isOnce s34_X12_isOnce_0
  exact key fu fu 0 0 0 k0 (Nat.zero_le _)
theorem rd_empP (fu : Nat) (o : Int32) (a277 : Nat → Int32) : dz_P (f145_X8_empty fu o a277) (fun r => r.1 = 0 ∧ ∀ k, k < 12 → r.2 k = -1) := by
  have k0 : (0 : Int32).toInt = ((0 : Nat) : Int) := by decide
  have k12 : (12 : Int32).toInt = 12 := by decide
  have key : ∀ (f q : Nat) (x : Int32) (b : Nat → Int32), x.toInt = (q : Int) → q ≤ 12 → (∀ k, k < q → b k = -1) → dz_P (F144_J7_fill_53178 fu f (-1) x 12 b) (fun r => ∀ k, k < 12 → r k = -1) := by
    intro f
    induction f with
    | zero => intro _ _ _ _ _ _; exact dz_Pn
    | succ f ih =>
      intro q x b hx hq h1
      show dz_P (s144_J7_fill_53178_1 fu (F144_J7_fill_53178 fu f) (-1) x 12 b) _
      unfold s144_J7_fill_53178_1
      refine dz_Pi (fun h => dz_Ps (fun k hk => ?_)) (fun h => dz_Pi (fun _ => ?_) (fun _ => dz_Pn))
      · have h := rd_le h
        exact h1 k (by omega)
      · have h := dz_fnle h
        refine ih (q + 1) (x + 1) _ (rd_p1 hx (by omega)) (by omega) (fun k hk => ?_)
        rw [rd_up hx]
        by_cases c : k = q
        · rw [if_pos c]
        · rw [if_neg c]
          exact h1 k (by omega)
  unfold f145_X8_empty s145_X8_empty_0 f144_J7_fill_53178 s144_J7_fill_53178_0
  exact dz_Pb (key fu 0 0 a277 k0 (Nat.zero_le _) (fun k hk => absurd hk (Nat.not_lt_zero k))) (fun r hr => dz_Ps ⟨rfl, hr⟩)
theorem dz_Pw {R : Type} {o : Option R} {P Q : R → Prop} (h : dz_P o P) (k : ∀ x, P x → Q x) : dz_P o Q := fun r e => k r (h r e)
theorem rd_order (fu : Nat) (v1 n na outC thr outM laid c280_fresh c310_fresh c313_fresh c319_fresh c322_fresh c325_fresh : Int32) (a275 a277 a52 : Nat → Int32) (N : Nat) (hn : n.toInt = (N : Int)) (hN : N ≤ 4) : rd_2 (f167_X11_order fu n v1 na outC a275 a277 c280_fresh c310_fresh c313_fresh c319_fresh c322_fresh c325_fresh) (f35_X12_order fu n v1 thr outM laid a52) (fun r s => s.1 = r.1 ∧ ((r.1 = 0 ∧ r.2.2.1 = outC ∧ r.2.2.2.1 = a275 ∧ r.2.2.2.2.1 = a277 ∧ s.2.2.1 = outM ∧ s.2.2.2.2 = a52) ∨ (r.1 = 1 ∧ r.2.2.1 = 0 ∧ s.2.2.1 = 0 ∧ (∀ k, k < N → r.2.2.2.1 k = s.2.2.2.2 k) ∧ (∀ k, N ≤ k → r.2.2.2.1 k = a275 k ∧ s.2.2.2.2 k = a52 k) ∧ ∀ k, k < 12 → r.2.2.2.2.1 k = -1))) := by
  have k0 : (0 : Int32).toInt = ((0 : Nat) : Int) := by decide
  have fin : ∀ (f q : Nat) (x : Int32) (b : Nat → Int32), x.toInt = (q : Int) → q ≤ N → (∀ k, k < q → b k = dz_dd v1 k) → (∀ k, q ≤ k → b k = a52 k) → dz_P (F35_X12_order fu n f v1 x 0 outM laid b) (fun s => s.1 = 1 ∧ s.2.2.1 = 0 ∧ (∀ k, k < N → s.2.2.2.2 k = dz_dd v1 k) ∧ (∀ k, N ≤ k → s.2.2.2.2 k = a52 k)) := by
    intro f
    induction f with
    | zero => intro _ _ _ _ _ _ _; exact dz_Pn
    | succ f ih =>
      intro q x b hx hq h1 h2
      show dz_P (s35_X12_order_1 fu n (F35_X12_order fu n f) v1 x 0 outM laid b) _
      unfold s35_X12_order_1
      refine dz_Pi (fun h => dz_Ps ⟨rfl, rfl, fun k hk => ?_, fun k hk => ?_⟩) (fun h => dz_Pi (fun _ => ?_) (fun _ => dz_Pn))
      · have h := rd_le h
        exact h1 k (by omega)
      · have h := rd_le h
        exact h2 k (by omega)
      · have h := dz_fnle h
        refine ih (q + 1) (x + 1) _ (rd_p1 hx (by omega)) (by omega) (fun k hk => ?_) (fun k hk => ?_)
        · rw [rd_up hx]
          by_cases c : k = q
          · rw [if_pos c, c]
            exact rd_dds hx (by omega)
          · rw [if_neg c]
            exact h1 k (by omega)
        · rw [rd_up hx, if_neg (by omega)]
          exact h2 k (by omega)
  unfold f167_X11_order s167_X11_order_0 f35_X12_order s35_X12_order_0
  refine rd_2b (rd_rt fu v1 n a275 N hn hN) (fun x y hxy => ?_)
  obtain ⟨e, h | ⟨h1, h2, h3⟩⟩ := hxy
  · rw [if_pos h.1, if_pos (e.trans h.1)]
    exact rd_2s ⟨rfl, Or.inl ⟨rfl, rfl, h.2, rfl, rfl, rfl⟩⟩
  · rw [if_neg (by rw [h1]; decide), if_neg (by rw [e, h1]; decide)]
    refine rd_2c (rd_empP fu outC a277) (fun r4 h4 => rd_2c (P := fun _ => True) (fun _ _ => trivial) (fun r6 _ => ?_))
    refine rd_2p (P := fun r => r.1 = 1 ∧ r.2.2.1 = r4.1 ∧ r.2.2.2.1 = x.2 ∧ r.2.2.2.2.1 = r4.2) (dz_Ps ⟨rfl, rfl, rfl, rfl⟩) (fun r hr => ?_)
    obtain ⟨q1, q2, q3, q4⟩ := hr
    refine dz_Pw (fin fu 0 0 a52 k0 (Nat.zero_le _) (fun k hk => absurd hk (Nat.not_lt_zero k)) (fun _ _ => rfl)) (fun s hs => ?_)
    obtain ⟨s1, s2, s3, s4⟩ := hs
    exact ⟨by rw [s1, q1], Or.inr ⟨q1, by rw [q2, h4.1], s2, fun k hk => by rw [q3, h2 k hk, s3 k hk], fun k hk => ⟨by rw [q3]; exact h3 k hk, s4 k hk⟩, fun k hk => by rw [q4]; exact h4.2 k hk⟩⟩
theorem rd_arrange (fu : Nat) (v1 n na outC thr outM laid c310_fresh c313_fresh c319_fresh c322_fresh c325_fresh : Int32) (a276 a277 a53 : Nat → Int32) (N : Nat) (hn : n.toInt = (N : Int)) (hN : N ≤ 4) : rd_2 (f168_X11_arrange fu n v1 na outC a276 a277 c310_fresh c313_fresh c319_fresh c322_fresh c325_fresh) (f36_X12_arrange fu n v1 thr outM laid a53) (fun r s => s.1 = r.1 ∧ ((r.1 = 0 ∧ r.2.2.1 = outC ∧ r.2.2.2.1 = a276 ∧ r.2.2.2.2.1 = a277 ∧ s.2.2.1 = outM ∧ s.2.2.2.2 = a53) ∨ (r.1 = 1 ∧ r.2.2.1 = 0 ∧ s.2.2.1 = 0 ∧ (∀ k, k < N → r.2.2.2.1 k = s.2.2.2.2 k) ∧ (∀ k, N ≤ k → r.2.2.2.1 k = a276 k ∧ s.2.2.2.2 k = a53 k) ∧ ∀ k, k < 12 → r.2.2.2.2.1 k = -1))) := by
  have k0 : (0 : Int32).toInt = ((0 : Nat) : Int) := by decide
  have fin : ∀ (f q : Nat) (x : Int32) (b : Nat → Int32), x.toInt = (q : Int) → q ≤ N → (∀ k, k < q → b k = dz_dd v1 k) → (∀ k, q ≤ k → b k = a53 k) → dz_P (F36_X12_arrange fu n f v1 x 0 outM laid b) (fun s => s.1 = 1 ∧ s.2.2.1 = 0 ∧ (∀ k, k < N → s.2.2.2.2 k = dz_dd v1 k) ∧ (∀ k, N ≤ k → s.2.2.2.2 k = a53 k)) := by
    intro f
    induction f with
    | zero => intro _ _ _ _ _ _ _; exact dz_Pn
    | succ f ih =>
      intro q x b hx hq h1 h2
      show dz_P (s36_X12_arrange_1 fu n (F36_X12_arrange fu n f) v1 x 0 outM laid b) _
      unfold s36_X12_arrange_1
      refine dz_Pi (fun h => dz_Ps ⟨rfl, rfl, fun k hk => ?_, fun k hk => ?_⟩) (fun h => dz_Pi (fun _ => ?_) (fun _ => dz_Pn))
      · have h := rd_le h
        exact h1 k (by omega)
      · have h := rd_le h
        exact h2 k (by omega)
      · have h := dz_fnle h
        refine ih (q + 1) (x + 1) _ (rd_p1 hx (by omega)) (by omega) (fun k hk => ?_) (fun k hk => ?_)
        · rw [rd_up hx]
          by_cases c : k = q
          · rw [if_pos c, c]
            exact rd_dds hx (by omega)
          · rw [if_neg c]
            exact h1 k (by omega)
        · rw [rd_up hx, if_neg (by omega)]
          exact h2 k (by omega)
  unfold f168_X11_arrange s168_X11_arrange_0 f36_X12_arrange s36_X12_arrange_0
  refine rd_2b (rd_rt fu v1 n a276 N hn hN) (fun x y hxy => ?_)
  obtain ⟨e, h | ⟨h1, h2, h3⟩⟩ := hxy
  · rw [if_pos h.1, if_pos (e.trans h.1)]
    exact rd_2s ⟨rfl, Or.inl ⟨rfl, rfl, h.2, rfl, rfl, rfl⟩⟩
  · rw [if_neg (by rw [h1]; decide), if_neg (by rw [e, h1]; decide)]
    refine rd_2c (rd_empP fu outC a277) (fun r4 h4 => rd_2c (P := fun _ => True) (fun _ _ => trivial) (fun r6 _ => ?_))
    refine rd_2p (P := fun r => r.1 = 1 ∧ r.2.2.1 = r4.1 ∧ r.2.2.2.1 = x.2 ∧ r.2.2.2.2.1 = r4.2) (dz_Ps ⟨rfl, rfl, rfl, rfl⟩) (fun r hr => ?_)
    obtain ⟨q1, q2, q3, q4⟩ := hr
    refine dz_Pw (fin fu 0 0 a53 k0 (Nat.zero_le _) (fun k hk => absurd hk (Nat.not_lt_zero k)) (fun _ _ => rfl)) (fun s hs => ?_)
    obtain ⟨s1, s2, s3, s4⟩ := hs
    exact ⟨by rw [s1, q1], Or.inr ⟨q1, by rw [q2, h4.1], s2, fun k hk => by rw [q3, h2 k hk, s3 k hk], fun k hk => ⟨by rw [q3]; exact h3 k hk, s4 k hk⟩, fun k hk => by rw [q4]; exact h4.2 k hk⟩⟩
theorem rd_ordE {fu : Nat} {c248_groups c248_pots c248_teams c248_marks c248_bars c254_fault c254_place c2_fault c2_faultPlace c2_groups c2_pots c2_marks c2_bars : Int32} {a249 a250 a251 a252 a253 a40 a41 a42 a43 : Nat → Int32} {v1 na outC thr outM laid c280_fresh c310_fresh c313_fresh c319_fresh c322_fresh c325_fresh : Int32} {a275 a277 a52 : Nat → Int32} (hp0 : 0 ≤ c248_pots.toInt) (hp4 : c248_pots.toInt ≤ 4) (hX : rd_X c248_groups c248_pots c248_teams c248_marks c248_bars c254_fault c254_place c2_fault c2_faultPlace c2_groups c2_pots c2_marks c2_bars a249 a250 a251 a252 a253 a40 a41 a42 a43) {r1 : Int32 × Int32 × Int32 × (Nat → Int32) × (Nat → Int32) × Int32 × Int32 × Int32 × Int32 × Int32 × Int32} {r2 : Int32 × Int32 × Int32 × Int32 × (Nat → Int32)} (hf1 : f167_X11_order fu c248_pots v1 na outC a275 a277 c280_fresh c310_fresh c313_fresh c319_fresh c322_fresh c325_fresh = some r1) (hf2 : f35_X12_order fu c2_pots v1 thr outM laid a52 = some r2) : r1.1 = r2.1 := by
  rw [hX.2.2.2.1] at hf2
  exact ((rd_order fu v1 c248_pots na outC thr outM laid c280_fresh c310_fresh c313_fresh c319_fresh c322_fresh c325_fresh a275 a277 a52 c248_pots.toInt.toNat (by omega) (by omega)) r1 r2 hf1 hf2).1.symm
theorem rd_arrE {fu : Nat} {c248_groups c248_pots c248_teams c248_marks c248_bars c254_fault c254_place c2_fault c2_faultPlace c2_groups c2_pots c2_marks c2_bars : Int32} {a249 a250 a251 a252 a253 a40 a41 a42 a43 : Nat → Int32} {v1 na outC thr outM laid c310_fresh c313_fresh c319_fresh c322_fresh c325_fresh : Int32} {a276 a277 a53 : Nat → Int32} (hX : rd_X c248_groups c248_pots c248_teams c248_marks c248_bars c254_fault c254_place c2_fault c2_faultPlace c2_groups c2_pots c2_marks c2_bars a249 a250 a251 a252 a253 a40 a41 a42 a43) {r1 : Int32 × Int32 × Int32 × (Nat → Int32) × (Nat → Int32) × Int32 × Int32 × Int32 × Int32 × Int32} {r2 : Int32 × Int32 × Int32 × Int32 × (Nat → Int32)} (hf1 : f168_X11_arrange fu c248_groups v1 na outC a276 a277 c310_fresh c313_fresh c319_fresh c322_fresh c325_fresh = some r1) (hf2 : f36_X12_arrange fu c2_groups v1 thr outM laid a53 = some r2) : r1.1 = r2.1 := by
  have g := hX.2.2.2.2.2.2.2
  rw [hX.2.2.1] at hf2
  exact ((rd_arrange fu v1 c248_groups na outC thr outM laid c310_fresh c313_fresh c319_fresh c322_fresh c325_fresh a276 a277 a53 c248_groups.toInt.toNat (by have := g.1; omega) (by have := g.2.1; omega)) r1 r2 hf1 hf2).1.symm
