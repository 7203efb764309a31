/-! the reference's take, whole; both side by side -/
def rd_ref (k : Nat) (v : Int) (kind which : Int32) : Prop :=
  (k = 0 ∧ kind = 0) ∨ (k = 1 ∧ ((∃ j : Nat, j < 7 ∧ v = rd_kv j ∧ kind = 1 ∧ which.toInt = (j : Int)) ∨ ((∀ j, j < 7 → v ≠ rd_kv j) ∧ kind = 2 ∧ which.toInt = v))) ∨ (k = 2 ∧ kind = 3 ∧ ∃ m : Nat, v = (m : Int) ∧ rd_cap which.toInt m) ∨ (k = 3 ∧ kind = 4) ∨ (k = 4 ∧ kind = 5)
def rd_tq (a : Nat → Int32) (n p0 : Nat) (r : Int32 × Int32 × Int32 × Int32) : Prop := ∃ (s q k : Nat) (v : Int), rd_tk a n p0 s q k v ∧ r.1.toInt = (q : Int) ∧ r.2.2.2.toInt = (s : Int) ∧ rd_ref k v r.2.1 r.2.2.1
theorem rd_taP (fu : Nat) (stop : Int32) (a w : Nat → Int32) (next kind which place : Int32) (n p0 : Nat) (hw : dz_pt w dz_wd) (hn : stop.toInt = (n : Int)) (hn4 : n ≤ 400) (hs : next.toInt = (p0 : Int)) (hsn : p0 ≤ n) :
    dz_P (f7_X12_take fu stop a w next kind which place) (rd_tq a n p0) := by
  have k99 : (99 : Int32).toInt = 99 := by decide
  have k10 : (10 : Int32).toInt = 10 := by decide
  have k48 : (48 : Int32).toInt = 48 := by decide
  have k6 : (6 : Int32).toInt = 6 := by decide
  have k0 : (0 : Int32).toInt = 0 := by decide
  have l4 : ∀ (f : Nat) (g x k v z : Int32), dz_P ((F7_X12_take fu stop a w f).2.2.2.1 g x k v z) (fun r => r = (x + 1, g, v, z)) := by
    intro f g x k v z
    cases f with
    | zero => exact dz_Pn
    | succ f => exact dz_Ps rfl
  have l8 : ∀ (f s q : Nat) (g x k v z : Int32), z.toInt = (s : Int) → x.toInt = (q : Int) → rd_run rd_b a n p0 s → s < n → rd_l (a s) → rd_run rd_l a n s q → ((g = 1 ∧ ∃ j : Nat, j < 7 ∧ v.toInt = (j : Int) ∧ rd_kw a s q j) ∨ (g = 2 ∧ q - s ≤ 6 ∧ ∀ j, j < 7 → ¬ rd_kw a s q j) ∨ (g = 5 ∧ 6 < q - s)) → dz_P ((F7_X12_take fu stop a w f).2.2.2.2.2.2.2 g x k v z) (rd_tq a n p0) := by
    intro f s q g x k v z hz hx hr hsn hl hq hg
    have hs2 := hq.1
    have hl2 := hq.2.2.1
    cases f with
    | zero => exact dz_Pn
    | succ f =>
      show dz_P (s7_X12_take_8 fu stop a w g x k v z) _
      unfold s7_X12_take_8
      refine dz_Pi (fun h => ?_) (fun h => dz_Ps ?_)
      · rcases hg with ⟨g1, -⟩ | ⟨g1, g2, g3⟩ | ⟨g1, -⟩
        · exact absurd (g1.symm.trans h) (by decide)
        · refine dz_Pb (rd_pakP fu a z x s q hz hx hs2 (by have := hq.2.1; omega) hl2) (fun r hp => dz_Ps ?_)
          refine ⟨s, q, 1, rd_pk a s q, ⟨hr, Or.inr (Or.inl ⟨hsn, hl, hq, Or.inl ⟨g2, rfl, rfl⟩⟩)⟩, hx, hz, Or.inr (Or.inl ⟨rfl, Or.inr ⟨fun j hj e => g3 j hj ((rd_kvP hl2 hs2 j hj).mpr ⟨g2, e⟩), g1, hp⟩⟩)⟩
        · exact absurd (g1.symm.trans h) (by decide)
      · rcases hg with ⟨g1, j, g2, g3, g4⟩ | ⟨g1, -, -⟩ | ⟨g1, g2⟩
        · have kv := (rd_kvP hl2 hs2 j g2).mp g4
          exact ⟨s, q, 1, rd_pk a s q, ⟨hr, Or.inr (Or.inl ⟨hsn, hl, hq, Or.inl ⟨kv.1, rfl, rfl⟩⟩)⟩, hx, hz, Or.inr (Or.inl ⟨rfl, Or.inl ⟨j, g2, kv.2, g1, g3⟩⟩)⟩
        · exact absurd g1 h
        · exact ⟨s, q, 4, 0, ⟨hr, Or.inr (Or.inl ⟨hsn, hl, hq, Or.inr ⟨g2, rfl⟩⟩)⟩, hx, hz, Or.inr (Or.inr (Or.inr (Or.inr ⟨rfl, g1⟩)))⟩
  have l6 : ∀ (f s p : Nat) (x k v z : Int32), z.toInt = (s : Int) → x.toInt = (p : Int) → rd_run rd_b a n p0 s → s < n → rd_l (a s) → s ≤ p → p ≤ n → (∀ j, s ≤ j → j < p → rd_l (a j)) → dz_P ((F7_X12_take fu stop a w f).2.2.2.2.2.1 x k v z) (rd_tq a n p0) := by
    intro f
    induction f with
    | zero => intro _ _ _ _ _ _ _ _ _ _ _ _ _ _; exact dz_Pn
    | succ f ih =>
      intro s p x k v z hz hx hr hsn hl h1 h2 h3
      show dz_P (s7_X12_take_6 fu stop a w (F7_X12_take fu stop a w f).2.2.2.2.2.1 (F7_X12_take fu stop a w f).2.2.2.2.2.2.2 x k v z) _
      unfold s7_X12_take_6
      refine dz_Pb (rd_ismP fu stop x a n p hn hx) (fun r ht => dz_Pi (fun h0 => ?_) (fun h0 => ?_))
      · have hq : rd_run rd_l a n s p := ⟨h1, h2, h3, (ht.elim (fun q => absurd h0 q.1) (fun q => q.2)).elim (fun q => Or.inl (by omega)) Or.inr⟩
        refine dz_Pb (rd_watP fu a w z x s p hw hz hx h1 (by omega)) (fun r2 hq2 => dz_Pi (fun hneg => ?_) (fun hpos => ?_))
        · have hneg := rd_xlt 0 k0 hneg
          have nk : ∀ j, j < 7 → ¬ rd_kw a s p j := hq2.elim (fun q => by obtain ⟨j, q1, q2, q3⟩ := q; omega) (fun q => q.2)
          have es := dz_sub (a := x) (b := z) (by omega) (by omega)
          refine dz_Pi (fun h6 => l8 f s p _ _ _ _ _ hz hx hr hsn hl hq (Or.inr (Or.inl ⟨rfl, by have := rd_le h6; omega, nk⟩))) (fun h6 => l8 f s p _ _ _ _ _ hz hx hr hsn hl hq (Or.inr (Or.inr ⟨rfl, by have := dz_fnle h6; omega⟩)))
        · have hpos := rd_xnl 0 k0 hpos
          exact l8 f s p _ _ _ _ _ hz hx hr hsn hl hq (Or.inl ⟨rfl, hq2.elim (fun q => q) (fun q => by have := q.1; omega)⟩)
      · obtain ⟨-, t1, t2⟩ := ht.elim (fun q => q) (fun q => absurd q.1 h0)
        refine ih s (p + 1) _ _ _ _ hz (rd_p1 hx (by omega)) hr hsn hl (by omega) (by omega) (fun j j1 j2 => ?_)
        by_cases c : j < p
        · exact h3 j j1 c
        · rw [show j = p by omega]
          exact t2
  have l5 : ∀ f : Nat, (∀ (s p : Nat) (x v z : Int32), z.toInt = (s : Int) → x.toInt = (p : Int) → rd_run rd_b a n p0 s → s < n → rd_d (a s) → s ≤ p → p ≤ n → (∀ j, s ≤ j → j < p → rd_d (a j)) → 0 ≤ v.toInt → v.toInt ≤ 1000 → rd_cap v.toInt (rd_nv a s (p - s)) → dz_P ((F7_X12_take fu stop a w f).2.2.2.2.1 x 3 v z) (rd_tq a n p0)) ∧
      (∀ (s p : Nat) (x v y z : Int32), z.toInt = (s : Int) → x.toInt = (p : Int) → rd_run rd_b a n p0 s → s < n → rd_d (a s) → s ≤ p → p < n → (∀ j, s ≤ j → j < p + 1 → rd_d (a j)) → 0 ≤ v.toInt → v.toInt ≤ 1000 → rd_cap v.toInt (rd_nv a s (p + 1 - s)) → dz_P ((F7_X12_take fu stop a w f).2.2.2.2.2.2.1 v x 3 y z) (rd_tq a n p0)) := by
    intro f
    induction f with
    | zero => exact ⟨fun _ _ _ _ _ _ _ _ _ _ _ _ _ _ _ _ => dz_Pn, fun _ _ _ _ _ _ _ _ _ _ _ _ _ _ _ _ _ => dz_Pn⟩
    | succ f ih =>
      obtain ⟨i5, i7⟩ := ih
      refine ⟨?_, ?_⟩
      · intro s p x v z hz hx hr hsn hl h1 h2 h3 v0 v1 hc
        show dz_P (s7_X12_take_5 fu stop a w (F7_X12_take fu stop a w f).2.2.2.2.2.2.1 x 3 v z) _
        unfold s7_X12_take_5
        refine dz_Pb (rd_isdP fu stop x a n p hn hx) (fun r ht => dz_Pi (fun h0 => dz_Ps ?_) (fun h0 => ?_))
        · have hq : rd_run rd_d a n s p := ⟨h1, h2, h3, (ht.elim (fun q => absurd h0 q.1) (fun q => q.2)).elim (fun q => Or.inl (by omega)) Or.inr⟩
          exact ⟨s, p, 2, _, ⟨hr, Or.inr (Or.inr (Or.inl ⟨hsn, hl, hq, rfl, rfl⟩))⟩, hx, hz, Or.inr (Or.inr (Or.inl ⟨rfl, rfl, _, rfl, hc⟩))⟩
        · obtain ⟨-, t1, t2⟩ := ht.elim (fun q => q) (fun q => absurd q.1 h0)
          have hps : s + (p - s) = p := by omega
          have t2a := t2.1
          have t2b := t2.2
          have hj : ∀ j, s ≤ j → j < p + 1 → rd_d (a j) := fun j j1 j2 => by
            by_cases c : j < p
            · exact h3 j j1 c
            · rw [show j = p by omega]
              exact t2
          refine dz_Pi (fun h9 => dz_Pi (fun _ => ?_) (fun _ => dz_Pn)) (fun h9 => ?_)
          · have h9 := rd_le h9
            simp only [rd_tc hx]
            have e1 := dz_mull (a := 10) (b := v) 10 k10 (by omega) (by omega)
            have e2 := dz_add (a := 10 * v) (b := a p) (by omega) (by omega)
            have e3 := dz_sub (a := 10 * v + a p) (b := 48) (by omega) (by omega)
            refine i7 s p _ _ _ _ hz hx hr hsn hl h1 t1 hj (by omega) (by omega) ?_
            rw [show p + 1 - s = (p - s) + 1 by omega]
            exact rd_capR (d := (a p).toInt) hc (by rw [hps]) t2a t2b v0 (Or.inl ⟨by omega, by omega⟩)
          · have h9 := dz_fnle h9
            refine i7 s p _ _ _ _ hz hx hr hsn hl h1 t1 hj v0 v1 ?_
            rw [show p + 1 - s = (p - s) + 1 by omega]
            exact rd_capR (d := (a p).toInt) hc (by rw [hps]) t2a t2b v0 (Or.inr ⟨rfl, by omega⟩)
      · intro s p x v y z hz hx hr hsn hl h1 h2 h3 v0 v1 hc
        show dz_P (s7_X12_take_7 fu stop a w (F7_X12_take fu stop a w f).2.2.2.2.1 v x 3 y z) _
        unfold s7_X12_take_7
        exact i5 s (p + 1) _ _ _ hz (rd_p1 hx (by omega)) hr hsn hl (by omega) (by omega) h3 v0 v1 hc
  have l2 : ∀ (f p : Nat) (x k v z : Int32), x.toInt = (p : Int) → rd_run rd_b a n p0 p → dz_P ((F7_X12_take fu stop a w f).2.1 x k v z) (rd_tq a n p0) := by
    intro f p x k v z hx hr
    have hpn := hr.2.1
    cases f with
    | zero => exact dz_Pn
    | succ f =>
      show dz_P (s7_X12_take_2 fu stop a w (F7_X12_take fu stop a w f).2.2.2.1 (F7_X12_take fu stop a w f).2.2.2.2.1 (F7_X12_take fu stop a w f).2.2.2.2.2.1 x k v z) _
      unfold s7_X12_take_2
      refine dz_Pi (fun h => dz_Ps ?_) (fun h => ?_)
      · rw [h] at hx
        exact ⟨p, p, 0, 0, ⟨hr, Or.inl ⟨by omega, rfl, rfl⟩⟩, by rw [h]; exact hx, by rw [h]; exact hx, Or.inl ⟨rfl, rfl⟩⟩
      · have hlt : p < n := by
          have := dz_fne h
          omega
        refine dz_Pb (rd_ismP fu stop x a n p hn hx) (fun r ht => dz_Pi (fun h0 => ?_) (fun h0 => ?_))
        · have nl : ¬ rd_l (a p) := (ht.elim (fun q => absurd h0 q.1) (fun q => q.2)).elim (fun q => by omega) (fun q => q)
          refine dz_Pb (rd_isdP fu stop x a n p hn hx) (fun r2 ht2 => dz_Pi (fun h9 => ?_) (fun h9 => ?_))
          · have nd : ¬ rd_d (a p) := (ht2.elim (fun q => absurd h9 q.1) (fun q => q.2)).elim (fun q => by omega) (fun q => q)
            simp only [rd_tc hx]
            refine dz_Pi (fun _ => dz_Pi (fun h59 => ?_) (fun h59 => ?_)) (fun _ => dz_Pn)
            · intro r e
              have e := l4 f _ _ _ _ _ r e
              subst e
              exact ⟨p, p + 1, 3, 0, ⟨hr, Or.inr (Or.inr (Or.inr ⟨hlt, nl, nd, rfl, Or.inl ⟨h59, rfl⟩⟩))⟩, rd_p1 hx (by omega), hx, Or.inr (Or.inr (Or.inr (Or.inl ⟨rfl, rfl⟩)))⟩
            · intro r e
              have e := l4 f _ _ _ _ _ r e
              subst e
              exact ⟨p, p + 1, 4, 0, ⟨hr, Or.inr (Or.inr (Or.inr ⟨hlt, nl, nd, rfl, Or.inr ⟨h59, rfl⟩⟩))⟩, rd_p1 hx (by omega), hx, Or.inr (Or.inr (Or.inr (Or.inr ⟨rfl, rfl⟩)))⟩
          · obtain ⟨-, -, hd⟩ := ht2.elim (fun q => q) (fun q => absurd q.1 h9)
            exact (l5 f).1 p p _ _ _ hx hx hr hlt hd (Nat.le_refl _) hpn (fun j j1 j2 => by omega) (by decide) (by decide) (by rw [Nat.sub_self]; exact rd_cap0)
        · obtain ⟨-, -, hl⟩ := ht.elim (fun q => q) (fun q => absurd q.1 h0)
          exact l6 f p p _ _ _ _ hx hx hr hlt hl (Nat.le_refl _) hpn (fun j j1 j2 => by omega)
  have key : ∀ f : Nat, (∀ (p : Nat) (x k v z : Int32), x.toInt = (p : Int) → p0 ≤ p → p ≤ n → (∀ j, p0 ≤ j → j < p → rd_b (a j)) → dz_P ((F7_X12_take fu stop a w f).1 x k v z) (rd_tq a n p0)) ∧
      (∀ (p : Nat) (x k v z : Int32), x.toInt = (p : Int) → p0 ≤ p → p < n → (∀ j, p0 ≤ j → j < p + 1 → rd_b (a j)) → dz_P ((F7_X12_take fu stop a w f).2.2.1 x k v z) (rd_tq a n p0)) := by
    intro f
    induction f with
    | zero => exact ⟨fun _ _ _ _ _ _ _ _ _ => dz_Pn, fun _ _ _ _ _ _ _ _ _ => dz_Pn⟩
    | succ f ih =>
      obtain ⟨i1, i3⟩ := ih
      refine ⟨?_, ?_⟩
      · intro p x k v z hx h1 h2 h3
        have hj : rd_b (a p) → ∀ j, p0 ≤ j → j < p + 1 → rd_b (a j) := fun hb j j1 j2 => by
          by_cases c : j < p
          · exact h3 j j1 c
          · rw [show j = p by omega]
            exact hb
        show dz_P (s7_X12_take_1 fu stop a w (F7_X12_take fu stop a w f).2.1 (F7_X12_take fu stop a w f).2.2.1 x k v z) _
        unfold s7_X12_take_1
        simp only [rd_tc hx]
        refine dz_Pi (fun h => l2 f p _ _ _ _ hx ⟨h1, h2, h3, Or.inl (by have := rd_le h; omega)⟩) (fun h => ?_)
        have h := dz_fnle h
        refine dz_Pi (fun _ => dz_Pi (fun hb => i3 p _ _ _ _ hx h1 (by omega) (hj (Or.inl hb))) (fun hb => dz_Pi (fun _ => dz_Pi (fun hb2 => i3 p _ _ _ _ hx h1 (by omega) (hj (Or.inr hb2))) (fun hb2 => l2 f p _ _ _ _ hx ⟨h1, h2, h3, Or.inr (fun q => q.elim hb hb2)⟩)) (fun _ => dz_Pn))) (fun _ => dz_Pn)
      · intro p x k v z hx h1 h2 h3
        show dz_P (s7_X12_take_3 fu stop a w (F7_X12_take fu stop a w f).1 x k v z) _
        unfold s7_X12_take_3
        exact i1 (p + 1) _ _ _ _ (rd_p1 hx (by omega)) (by omega) (by omega) h3
  unfold f7_X12_take s7_X12_take_0
  exact (key fu).1 p0 _ _ _ _ hs (Nat.le_refl _) hsn (fun j j1 j2 => by omega)
/-- a token of the class and one of the reference -/
def rd_R (kC vC kR wR : Int32) : Prop :=
  (kC = 0 ∧ kR = 0) ∨ (kC = 1 ∧ ((∃ j : Nat, j < 7 ∧ vC.toInt = rd_kv j ∧ kR = 1 ∧ wR.toInt = (j : Int)) ∨ ((∀ j, j < 7 → vC.toInt ≠ rd_kv j) ∧ kR = 2 ∧ wR = vC))) ∨ (kC = 2 ∧ kR = 3 ∧ ∃ m : Nat, rd_cap vC.toInt m ∧ rd_cap wR.toInt m) ∨ (kC = 3 ∧ kR = 4) ∨ (kC = 4 ∧ kR = 5)
theorem rd_k {x : Int32} {k : Nat} (h : x.toInt = (k : Int)) (hk : k < 2147483648) : x = Int32.ofNat k := dz_eqn h hk
/-- one token on, in both -/
theorem rd_ST (fu : Nat) (a w : Nat → Int32) (len at0 kC sC vC kR wR pR : Int32) (n p0 : Nat) (hw : dz_pt w dz_wd) (hn : len.toInt = (n : Int)) (hn4 : n ≤ 400) (hs : at0.toInt = (p0 : Int)) (hsn : p0 ≤ n) {rC : Int32 × Int32 × Int32 × Int32} {rR : Int32 × Int32 × Int32 × Int32}
    (hC : f96_X5_step fu a len at0 kC sC vC = some rC) (hR : f7_X12_take fu len a w at0 kR wR pR = some rR) : rR.1 = rC.1 ∧ rR.2.2.2 = rC.2.2.1 ∧ rd_R rC.2.1 rC.2.2.2 rR.2.1 rR.2.2.1 ∧ ∃ q : Nat, rC.1.toInt = (q : Int) ∧ p0 ≤ q ∧ q ≤ n ∧ (rC.2.1 ≠ 0 → p0 < q) := by
  obtain ⟨s, q, k, v, t, c1, c2, c3, c4, c5⟩ := rd_stP fu a len at0 kC sC vC n p0 hn hn4 hs hsn rC hC
  obtain ⟨s', q', k', v', t', d1, d2, d3⟩ := rd_taP fu len a w at0 kR wR pR n p0 hw hn hn4 hs hsn rR hR
  obtain ⟨e1, e2, e3, e4⟩ := rd_tk1 t t'
  subst e1 e2 e3
  have hsq : p0 ≤ s ∧ s ≤ n := ⟨t.1.1, t.1.2.1⟩
  have hq : s ≤ q ∧ q ≤ n ∧ (k ≠ 0 → s < q) := by
    rcases t.2 with ⟨a1, a2, a3⟩ | ⟨a1, a2, a3, a4⟩ | ⟨a1, a2, a3, a4, a5⟩ | ⟨a1, a2, a3, a4, a5⟩
    · exact ⟨by omega, by omega, fun h => absurd a3 h⟩
    · refine ⟨a3.1, a3.2.1, fun _ => ?_⟩
      apply Classical.byContradiction
      intro h
      rcases a3.2.2.2 with b | b
      · omega
      · have := a3.1
        exact b (by rw [show q = s by omega]; exact a2)
    · refine ⟨a3.1, a3.2.1, fun _ => ?_⟩
      apply Classical.byContradiction
      intro h
      rcases a3.2.2.2 with b | b
      · omega
      · have := a3.1
        exact b (by rw [show q = s by omega]; exact a2)
    · exact ⟨by omega, by omega, fun _ => by omega⟩
  refine ⟨Int32.toInt_inj.mp (by rw [d1, c1]), Int32.toInt_inj.mp (by rw [d2, c2]), ?_, q, c1, by omega, hq.2.1, fun h => ?_⟩
  · rcases d3 with ⟨f1, f2⟩ | ⟨f1, f2⟩ | ⟨f1, f2, m, f3, f4⟩ | ⟨f1, f2⟩ | ⟨f1, f2⟩
    · subst f1
      exact Or.inl ⟨rd_k c3 (by decide), f2⟩
    · subst f1
      have ev := e4 (Or.inl rfl)
      subst ev
      refine Or.inr (Or.inl ⟨rd_k c3 (by decide), ?_⟩)
      rcases f2 with ⟨j, j1, j2, j3, j4⟩ | ⟨j1, j2, j3⟩
      · exact Or.inl ⟨j, j1, by rw [c4 rfl]; exact j2, j3, j4⟩
      · exact Or.inr ⟨fun j hj => by rw [c4 rfl]; exact j1 j hj, j2, Int32.toInt_inj.mp (by rw [j3, c4 rfl])⟩
    · subst f1
      have ev := e4 (Or.inr rfl)
      subst ev
      obtain ⟨m2, g1, g2⟩ := c5 rfl
      have em : m2 = m := by omega
      subst em
      exact Or.inr (Or.inr (Or.inl ⟨rd_k c3 (by decide), f2, m2, g2, f4⟩))
    · subst f1
      exact Or.inr (Or.inr (Or.inr (Or.inl ⟨rd_k c3 (by decide), f2⟩)))
    · subst f1
      exact Or.inr (Or.inr (Or.inr (Or.inr ⟨rd_k c3 (by decide), f2⟩)))
  · have hk : k ≠ 0 := fun e => h (by rw [e] at c3; exact rd_k c3 (by decide))
    have := hq.2.2 hk
    omega
