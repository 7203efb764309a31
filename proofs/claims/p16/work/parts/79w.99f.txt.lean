/-! the texts of both readers -/
theorem rd_cpy {f g : Nat → Int32} {x : Int32} {n : Nat} (h : x.toInt = (n : Int)) (k : Nat) (hk : k < n) : va_cpy f g (0 : Int32).toNatClampNeg (0 : Int32).toNatClampNeg x.toNatClampNeg k = f k := by
  have t := dz_tn x
  have z := dz_tn (0 : Int32)
  have k0 : (0 : Int32).toInt = 0 := by decide
  have z : (0 : Int32).toNatClampNeg = 0 := by omega
  have e : x.toNatClampNeg = n := by omega
  show (if (0 : Int32).toNatClampNeg ≤ k ∧ k < (0 : Int32).toNatClampNeg + x.toNatClampNeg then f ((0 : Int32).toNatClampNeg + (k - (0 : Int32).toNatClampNeg)) else g k) = f k
  rw [z, e, if_pos ⟨Nat.zero_le _, by omega⟩, Nat.zero_add, Nat.sub_zero]
/-- the plan that the class keeps -/
theorem rd_tkP (fu : Nat) (groups pots teams marks bars gn : Int32) (a256 a257 a258 a259 a260 : Nat → Int32) (c248_groups c248_pots c248_teams c248_marks c248_bars c248_groupsNamed : Int32) (a249 a250 a251 a252 a253 : Nat → Int32) : dz_P (f124_X3_take fu groups pots teams marks bars gn a256 a257 a258 a259 a260 c248_groups c248_pots c248_teams c248_marks c248_bars c248_groupsNamed a249 a250 a251 a252 a253) (fun r => r.1 = groups ∧ r.2.1 = pots ∧ r.2.2.1 = teams ∧ r.2.2.2.1 = marks ∧ r.2.2.2.2.1 = bars ∧ (∀ k, k < 12 → r.2.2.2.2.2.2.1 k = a256 k) ∧ (∀ k, k < 12 → r.2.2.2.2.2.2.2.1 k = a257 k) ∧ (∀ k, k < 6 → r.2.2.2.2.2.2.2.2.1 k = a258 k) ∧ (∀ k, k < 10 → r.2.2.2.2.2.2.2.2.2.1 k = a259 k) ∧ (∀ k, k < 10 → r.2.2.2.2.2.2.2.2.2.2 k = a260 k)) := by
  have k12 : (12 : Int32).toInt = ((12 : Nat) : Int) := by decide
  have k10 : (10 : Int32).toInt = ((10 : Nat) : Int) := by decide
  have k6 : (6 : Int32).toInt = ((6 : Nat) : Int) := by decide
  unfold f124_X3_take s124_X3_take_0
  exact dz_Pi (fun _ => dz_Pi (fun _ => dz_Pi (fun _ => dz_Pi (fun _ => dz_Pi (fun _ => dz_Pi (fun _ => dz_Pi (fun _ => dz_Pi (fun _ => dz_Pi (fun _ => dz_Pi (fun _ => dz_Pi (fun _ => dz_Pi (fun _ => dz_Pi (fun _ => dz_Pi (fun _ => dz_Pi (fun _ => dz_Pi (fun _ => dz_Pi (fun _ => dz_Pi (fun _ => dz_Pi (fun _ => dz_Pi (fun _ => dz_Pi (fun _ => dz_Pi (fun _ => dz_Pi (fun _ => dz_Pi (fun _ => dz_Pi (fun _ => dz_Ps ⟨rfl, rfl, rfl, rfl, rfl, fun k hk => rd_cpy k12 k hk, fun k hk => rd_cpy k12 k hk, fun k hk => rd_cpy k6 k hk, fun k hk => rd_cpy k10 k hk, fun k hk => rd_cpy k10 k hk⟩) (fun _ => dz_Pn)) (fun _ => dz_Pn)) (fun _ => dz_Pn)) (fun _ => dz_Pn)) (fun _ => dz_Pn)) (fun _ => dz_Pn)) (fun _ => dz_Pn)) (fun _ => dz_Pn)) (fun _ => dz_Pn)) (fun _ => dz_Pn)) (fun _ => dz_Pn)) (fun _ => dz_Pn)) (fun _ => dz_Pn)) (fun _ => dz_Pn)) (fun _ => dz_Pn)) (fun _ => dz_Pn)) (fun _ => dz_Pn)) (fun _ => dz_Pn)) (fun _ => dz_Pn)) (fun _ => dz_Pn)) (fun _ => dz_Pn)) (fun _ => dz_Pn)) (fun _ => dz_Pn)) (fun _ => dz_Pn)) (fun _ => dz_Pn)
theorem rd_kpP (fu : Nat) (gR potsR tR mR bR : Int32) (a44 a45 a46 a47 : Nat → Int32) (c2_groups : Int32) (c2_pots : Int32) (c2_marks : Int32) (c2_bars : Int32) (c2_ranks : Int32) (c2_draws : Int32) (c2_lawful : Int32) (c2_out : Int32) (c2_laid : Int32) (a40 : Nat → Int32) (a41 : Nat → Int32) (a42 : Nat → Int32) (a43 : Nat → Int32) (a48 : Nat → Int32) (a49 : Nat → Int32) (a50 : Nat → Int32) (a52 : Nat → Int32) (a53 : Nat → Int32) (T M B : Nat) (hT : tR.toInt = (T : Int)) (hT12 : T ≤ 12) (hM : mR.toInt = (M : Int)) (hM6 : M ≤ 6) (hB : bR.toInt = (B : Int)) (hB10 : B ≤ 10) : dz_P (f21_X12_keep fu gR potsR tR mR bR a44 a45 a46 a47 c2_groups c2_pots c2_marks c2_bars c2_ranks c2_draws c2_lawful c2_out c2_laid a40 a41 a42 a43 a48 a49 a50 a52 a53) (fun r => r.1 = gR ∧ r.2.1 = potsR ∧ r.2.2.1 = mR ∧ r.2.2.2.1 = bR ∧ (∀ k, k < T → r.2.2.2.2.2.2.2.2.2.1 k = a44 k) ∧ (∀ k, k < M → r.2.2.2.2.2.2.2.2.2.2.1 k = a45 k) ∧ (∀ k, k < M → r.2.2.2.2.2.2.2.2.2.2.2.1 k = a46 k) ∧ (∀ k, k < 3 * B → r.2.2.2.2.2.2.2.2.2.2.2.2.1 k = a47 k)) := by
  have k3 : (3 : Int32).toInt = 3 := by decide
  have k0 : (0 : Int32).toInt = 0 := by decide
  have e3 := dz_mull (a := 3) (b := bR) 3 k3 (by omega) (by omega)
  have l4 : ∀ (f : Nat) (v1 : Int32) (c2_ranks : Int32) (c2_draws : Int32) (c2_lawful : Int32) (c2_out : Int32) (c2_laid : Int32) (a40 : Nat → Int32) (a41 : Nat → Int32) (a42 : Nat → Int32) (a43 : Nat → Int32) (a48 : Nat → Int32) (a49 : Nat → Int32) (a50 : Nat → Int32) (a52 : Nat → Int32) (a53 : Nat → Int32), (∀ k, k < T → a40 k = a44 k) → (∀ k, k < M → a41 k = a45 k) → (∀ k, k < M → a42 k = a46 k) → (∀ k, k < 3 * B → a43 k = a47 k) → dz_P ((F21_X12_keep fu gR potsR tR mR bR a44 a45 a46 a47 f).2.2.2 v1 gR potsR mR bR c2_ranks c2_draws c2_lawful c2_out c2_laid a40 a41 a42 a43 a48 a49 a50 a52 a53) (fun r => r.1 = gR ∧ r.2.1 = potsR ∧ r.2.2.1 = mR ∧ r.2.2.2.1 = bR ∧ (∀ k, k < T → r.2.2.2.2.2.2.2.2.2.1 k = a44 k) ∧ (∀ k, k < M → r.2.2.2.2.2.2.2.2.2.2.1 k = a45 k) ∧ (∀ k, k < M → r.2.2.2.2.2.2.2.2.2.2.2.1 k = a46 k) ∧ (∀ k, k < 3 * B → r.2.2.2.2.2.2.2.2.2.2.2.2.1 k = a47 k)) := by
    intro f
    induction f with
    | zero => intro v1 c2_ranks c2_draws c2_lawful c2_out c2_laid a40 a41 a42 a43 a48 a49 a50 a52 a53 _ _ _ _; exact dz_Pn
    | succ f ih =>
      intro v1 c2_ranks c2_draws c2_lawful c2_out c2_laid a40 a41 a42 a43 a48 a49 a50 a52 a53 h1 h2 h3 h4
      show dz_P (s21_X12_keep_4 fu gR potsR tR mR bR a44 a45 a46 a47 (F21_X12_keep fu gR potsR tR mR bR a44 a45 a46 a47 f).2.2.2 v1 gR potsR mR bR c2_ranks c2_draws c2_lawful c2_out c2_laid a40 a41 a42 a43 a48 a49 a50 a52 a53) _
      unfold s21_X12_keep_4
      exact dz_Pi (fun _ => dz_Ps ⟨rfl, rfl, rfl, rfl, h1, h2, h3, h4⟩) (fun _ => dz_Pi (fun _ => dz_Pi (fun _ => ih _ _ _ _ _ _ _ _ _ _ _ _ _ _ _ h1 h2 h3 h4) (fun _ => dz_Pn)) (fun _ => dz_Pn))
  have l3 : ∀ (f p : Nat) (v1 : Int32) (c2_ranks : Int32) (c2_draws : Int32) (c2_lawful : Int32) (c2_out : Int32) (c2_laid : Int32) (a40 : Nat → Int32) (a41 : Nat → Int32) (a42 : Nat → Int32) (a43 : Nat → Int32) (a48 : Nat → Int32) (a49 : Nat → Int32) (a50 : Nat → Int32) (a52 : Nat → Int32) (a53 : Nat → Int32), v1.toInt = (p : Int) → p ≤ 3 * B → (∀ k, k < T → a40 k = a44 k) → (∀ k, k < M → a41 k = a45 k) → (∀ k, k < M → a42 k = a46 k) → (∀ k, k < p → a43 k = a47 k) → dz_P ((F21_X12_keep fu gR potsR tR mR bR a44 a45 a46 a47 f).2.2.1 v1 gR potsR mR bR c2_ranks c2_draws c2_lawful c2_out c2_laid a40 a41 a42 a43 a48 a49 a50 a52 a53) (fun r => r.1 = gR ∧ r.2.1 = potsR ∧ r.2.2.1 = mR ∧ r.2.2.2.1 = bR ∧ (∀ k, k < T → r.2.2.2.2.2.2.2.2.2.1 k = a44 k) ∧ (∀ k, k < M → r.2.2.2.2.2.2.2.2.2.2.1 k = a45 k) ∧ (∀ k, k < M → r.2.2.2.2.2.2.2.2.2.2.2.1 k = a46 k) ∧ (∀ k, k < 3 * B → r.2.2.2.2.2.2.2.2.2.2.2.2.1 k = a47 k)) := by
    intro f
    induction f with
    | zero => intro p v1 c2_ranks c2_draws c2_lawful c2_out c2_laid a40 a41 a42 a43 a48 a49 a50 a52 a53 _ _ _ _ _ _; exact dz_Pn
    | succ f ih =>
      intro p v1 c2_ranks c2_draws c2_lawful c2_out c2_laid a40 a41 a42 a43 a48 a49 a50 a52 a53 hv hp h1 h2 h3 h4
      show dz_P (s21_X12_keep_3 fu gR potsR tR mR bR a44 a45 a46 a47 (F21_X12_keep fu gR potsR tR mR bR a44 a45 a46 a47 f).2.2.1 (F21_X12_keep fu gR potsR tR mR bR a44 a45 a46 a47 f).2.2.2 v1 gR potsR mR bR c2_ranks c2_draws c2_lawful c2_out c2_laid a40 a41 a42 a43 a48 a49 a50 a52 a53) _
      unfold s21_X12_keep_3
      refine dz_Pi (fun h => dz_Pa (fun r2 => dz_Pa (fun r4 => l4 f _ _ _ _ _ _ _ _ _ _ _ _ _ _ _ h1 h2 h3 (fun k hk => h4 k (by have := rd_le h; omega))))) (fun h => dz_Pi (fun _ => dz_Pi (fun _ => ih (p + 1) _ _ _ _ _ _ _ _ _ _ _ _ _ _ _ (rd_p1 hv (by omega)) (by have := dz_fnle h; omega) h1 h2 h3 (fun k hk => ?_)) (fun _ => dz_Pn)) (fun _ => dz_Pn))
      rw [rd_up hv, rd_tc hv]
      by_cases c : k = p
      · rw [if_pos c, c]
      · rw [if_neg c]
        exact h4 k (by omega)
  have l2 : ∀ (f p : Nat) (v1 : Int32) (c2_ranks : Int32) (c2_draws : Int32) (c2_lawful : Int32) (c2_out : Int32) (c2_laid : Int32) (a40 : Nat → Int32) (a41 : Nat → Int32) (a42 : Nat → Int32) (a43 : Nat → Int32) (a48 : Nat → Int32) (a49 : Nat → Int32) (a50 : Nat → Int32) (a52 : Nat → Int32) (a53 : Nat → Int32), v1.toInt = (p : Int) → p ≤ M → (∀ k, k < T → a40 k = a44 k) → (∀ k, k < p → a41 k = a45 k) → (∀ k, k < p → a42 k = a46 k) → dz_P ((F21_X12_keep fu gR potsR tR mR bR a44 a45 a46 a47 f).2.1 v1 gR potsR mR bR c2_ranks c2_draws c2_lawful c2_out c2_laid a40 a41 a42 a43 a48 a49 a50 a52 a53) (fun r => r.1 = gR ∧ r.2.1 = potsR ∧ r.2.2.1 = mR ∧ r.2.2.2.1 = bR ∧ (∀ k, k < T → r.2.2.2.2.2.2.2.2.2.1 k = a44 k) ∧ (∀ k, k < M → r.2.2.2.2.2.2.2.2.2.2.1 k = a45 k) ∧ (∀ k, k < M → r.2.2.2.2.2.2.2.2.2.2.2.1 k = a46 k) ∧ (∀ k, k < 3 * B → r.2.2.2.2.2.2.2.2.2.2.2.2.1 k = a47 k)) := by
    intro f
    induction f with
    | zero => intro p v1 c2_ranks c2_draws c2_lawful c2_out c2_laid a40 a41 a42 a43 a48 a49 a50 a52 a53 _ _ _ _ _; exact dz_Pn
    | succ f ih =>
      intro p v1 c2_ranks c2_draws c2_lawful c2_out c2_laid a40 a41 a42 a43 a48 a49 a50 a52 a53 hv hp h1 h2 h3
      show dz_P (s21_X12_keep_2 fu gR potsR tR mR bR a44 a45 a46 a47 (F21_X12_keep fu gR potsR tR mR bR a44 a45 a46 a47 f).2.1 (F21_X12_keep fu gR potsR tR mR bR a44 a45 a46 a47 f).2.2.1 v1 gR potsR mR bR c2_ranks c2_draws c2_lawful c2_out c2_laid a40 a41 a42 a43 a48 a49 a50 a52 a53) _
      unfold s21_X12_keep_2
      refine dz_Pi (fun h => l3 f 0 _ _ _ _ _ _ _ _ _ _ _ _ _ _ _ k0 (Nat.zero_le _) h1 (fun k hk => h2 k (by have := rd_le h; omega)) (fun k hk => h3 k (by have := rd_le h; omega)) (fun k hk => absurd hk (Nat.not_lt_zero k))) (fun h => dz_Pi (fun _ => dz_Pi (fun _ => dz_Pi (fun _ => dz_Pi (fun _ => ih (p + 1) _ _ _ _ _ _ _ _ _ _ _ _ _ _ _ (rd_p1 hv (by omega)) (by have := dz_fnle h; omega) h1 (fun k hk => ?_) (fun k hk => ?_)) (fun _ => dz_Pn)) (fun _ => dz_Pn)) (fun _ => dz_Pn)) (fun _ => dz_Pn))
      · rw [rd_up hv, rd_tc hv]
        by_cases c : k = p
        · rw [if_pos c, c]
        · rw [if_neg c]
          exact h2 k (by omega)
      · rw [rd_up hv, rd_tc hv]
        by_cases c : k = p
        · rw [if_pos c, c]
        · rw [if_neg c]
          exact h3 k (by omega)
  have l1 : ∀ (f p : Nat) (v1 : Int32) (c2_ranks : Int32) (c2_draws : Int32) (c2_lawful : Int32) (c2_out : Int32) (c2_laid : Int32) (a40 : Nat → Int32) (a41 : Nat → Int32) (a42 : Nat → Int32) (a43 : Nat → Int32) (a48 : Nat → Int32) (a49 : Nat → Int32) (a50 : Nat → Int32) (a52 : Nat → Int32) (a53 : Nat → Int32), v1.toInt = (p : Int) → p ≤ T → (∀ k, k < p → a40 k = a44 k) → dz_P ((F21_X12_keep fu gR potsR tR mR bR a44 a45 a46 a47 f).1 v1 gR potsR mR bR c2_ranks c2_draws c2_lawful c2_out c2_laid a40 a41 a42 a43 a48 a49 a50 a52 a53) (fun r => r.1 = gR ∧ r.2.1 = potsR ∧ r.2.2.1 = mR ∧ r.2.2.2.1 = bR ∧ (∀ k, k < T → r.2.2.2.2.2.2.2.2.2.1 k = a44 k) ∧ (∀ k, k < M → r.2.2.2.2.2.2.2.2.2.2.1 k = a45 k) ∧ (∀ k, k < M → r.2.2.2.2.2.2.2.2.2.2.2.1 k = a46 k) ∧ (∀ k, k < 3 * B → r.2.2.2.2.2.2.2.2.2.2.2.2.1 k = a47 k)) := by
    intro f
    induction f with
    | zero => intro p v1 c2_ranks c2_draws c2_lawful c2_out c2_laid a40 a41 a42 a43 a48 a49 a50 a52 a53 _ _ _; exact dz_Pn
    | succ f ih =>
      intro p v1 c2_ranks c2_draws c2_lawful c2_out c2_laid a40 a41 a42 a43 a48 a49 a50 a52 a53 hv hp h1
      show dz_P (s21_X12_keep_1 fu gR potsR tR mR bR a44 a45 a46 a47 (F21_X12_keep fu gR potsR tR mR bR a44 a45 a46 a47 f).1 (F21_X12_keep fu gR potsR tR mR bR a44 a45 a46 a47 f).2.1 v1 gR potsR mR bR c2_ranks c2_draws c2_lawful c2_out c2_laid a40 a41 a42 a43 a48 a49 a50 a52 a53) _
      unfold s21_X12_keep_1
      refine dz_Pi (fun h => l2 f 0 _ _ _ _ _ _ _ _ _ _ _ _ _ _ _ k0 (Nat.zero_le _) (fun k hk => h1 k (by have := rd_le h; omega)) (fun k hk => absurd hk (Nat.not_lt_zero k)) (fun k hk => absurd hk (Nat.not_lt_zero k))) (fun h => dz_Pi (fun _ => dz_Pi (fun _ => ih (p + 1) _ _ _ _ _ _ _ _ _ _ _ _ _ _ _ (rd_p1 hv (by omega)) (by have := dz_fnle h; omega) (fun k hk => ?_)) (fun _ => dz_Pn)) (fun _ => dz_Pn))
      rw [rd_up hv, rd_tc hv]
      by_cases c : k = p
      · rw [if_pos c, c]
      · rw [if_neg c]
        exact h1 k (by omega)
  unfold f21_X12_keep s21_X12_keep_0
  exact l1 fu 0 0 _ _ _ _ _ _ _ _ _ _ _ _ _ _ k0 (Nat.zero_le _) (fun k hk => absurd hk (Nat.not_lt_zero k))
theorem rd_PLk {groups pots teams marks bars gR potsR tR mR bR gR1 potsR1 mR1 bR1 : Int32} {a256 a257 a258 a259 a260 a44 a45 a46 a47 b44 b45 b46 b47 : Nat → Int32} (h : rd_PL groups pots teams marks bars a256 a257 a258 a259 a260 gR potsR tR mR bR a44 a45 a46 a47) (e1 : gR1 = gR) (e2 : potsR1 = potsR) (e3 : mR1 = mR) (e4 : bR1 = bR) (hK : ∀ T M B : Nat, tR.toInt = (T : Int) → T ≤ 12 → mR.toInt = (M : Int) → M ≤ 6 → bR.toInt = (B : Int) → B ≤ 10 → (∀ k, k < T → b44 k = a44 k) ∧ (∀ k, k < M → b45 k = a45 k) ∧ (∀ k, k < M → b46 k = a46 k) ∧ (∀ k, k < 3 * B → b47 k = a47 k)) : rd_PL groups pots teams marks bars a256 a257 a258 a259 a260 gR1 potsR1 tR mR1 bR1 b44 b45 b46 b47 := by
  obtain ⟨g1, g2, g3, g4, g5, hG2, hG4, T, M, B, hT, hT12, hM, hM6, hB, hB10, hA, hN, hC, hD⟩ := h
  subst e1 e2 e3 e4
  obtain ⟨q1, q2, q3, q4⟩ := hK T M B (by rw [g3]; exact hT) hT12 (by rw [g4]; exact hM) hM6 (by rw [g5]; exact hB) hB10
  refine ⟨g1, g2, g3, g4, g5, hG2, hG4, T, M, B, hT, hT12, hM, hM6, hB, hB10, fun k hk => (hA k hk).trans (q1 k hk).symm, fun k hk => (hN k hk).trans (q2 k hk).symm, ⟨fun t ht m => ?_, fun m hm t hb => ?_⟩, fun b hb => ?_⟩
  · rw [hC.1 t ht m]
    constructor
    · intro q
      exact ⟨q.1, by rw [q3 m q.1]; exact q.2⟩
    · intro q
      exact ⟨q.1, by rw [← q3 m q.1]; exact q.2⟩
  · rw [q3 m hm] at hb
    exact hC.2 m hm t hb
  · rw [q4 _ (by omega), q4 _ (by omega), q4 _ (by omega)]
    exact rd_bjm (Nat.le_refl _) (Nat.le_refl _) q3 (hD b hb)
theorem rd_PLc {groups pots teams marks bars gR potsR tR mR bR groups1 pots1 teams1 marks1 bars1 : Int32} {a256 a257 a258 a259 a260 a44 a45 a46 a47 b256 b257 b258 b259 b260 : Nat → Int32} (h : rd_PL groups pots teams marks bars a256 a257 a258 a259 a260 gR potsR tR mR bR a44 a45 a46 a47) (e1 : groups1 = groups) (e2 : pots1 = pots) (e3 : teams1 = teams) (e4 : marks1 = marks) (e5 : bars1 = bars) (h1 : ∀ k, k < 12 → b256 k = a256 k) (h2 : ∀ k, k < 12 → b257 k = a257 k) (h3 : ∀ k, k < 6 → b258 k = a258 k) (h4 : ∀ k, k < 10 → b259 k = a259 k) (h5 : ∀ k, k < 10 → b260 k = a260 k) : rd_PL groups1 pots1 teams1 marks1 bars1 b256 b257 b258 b259 b260 gR potsR tR mR bR a44 a45 a46 a47 := by
  obtain ⟨g1, g2, g3, g4, g5, hG2, hG4, T, M, B, hT, hT12, hM, hM6, hB, hB10, hA, hN, hC, hD⟩ := h
  subst e1 e2 e3 e4 e5
  refine ⟨g1, g2, g3, g4, g5, hG2, hG4, T, M, B, hT, hT12, hM, hM6, hB, hB10, fun k hk => (h1 k (by omega)).trans (hA k hk), fun k hk => (h3 k (by omega)).trans (hN k hk), ⟨fun t ht m => ?_, hC.2⟩, fun b hb => ?_⟩
  · rw [h2 t (by omega)]
    exact hC.1 t ht m
  · rw [h4 b (by omega), h5 b (by omega)]
    exact hD b hb
def rd_xQ (tapeSize c2_groups c2_pots c2_marks c2_bars : Int32) (a40 a41 a42 a43 : Nat → Int32) (r : Int32 × Int32 × Int32 × Int32 × Int32 × Int32 × Int32 × Int32 × Int32 × Int32 × Int32 × Int32 × Int32 × Int32 × (Nat → Int32) × (Nat → Int32) × (Nat → Int32) × (Nat → Int32) × (Nat → Int32)) (s : Int32 × Int32 × Int32 × Int32 × Int32 × Int32 × Int32 × Int32 × Int32 × Int32 × Int32 × Int32 × Int32 × Int32 × Int32 × Int32 × Int32 × Int32 × Int32 × Int32 × Int32 × Int32 × Int32 × Int32 × (Nat → Int32) × (Nat → Int32) × (Nat → Int32) × (Nat → Int32) × (Nat → Int32) × (Nat → Int32) × (Nat → Int32) × (Nat → Int32) × (Nat → Int32) × (Nat → Int32) × (Nat → Int32) × (Nat → Int32) × (Nat → Int32)) : Prop :=
  s.2.1 = tapeSize ∧ ((r.2.1 ≠ 0 ∧ s.1 = -1 ∧ s.2.2.2.1 = r.2.1 ∧ s.2.2.2.2.1 = r.2.2.1 ∧ s.2.2.2.2.2.2.2.2.2.2.1 = c2_groups ∧ s.2.2.2.2.2.2.2.2.2.2.2.1 = c2_pots ∧ s.2.2.2.2.2.2.2.2.2.2.2.2.1 = c2_marks ∧ s.2.2.2.2.2.2.2.2.2.2.2.2.2.1 = c2_bars ∧ s.2.2.2.2.2.2.2.2.2.2.2.2.2.2.2.2.2.2.2.2.2.2.2.2.1 = a40 ∧ s.2.2.2.2.2.2.2.2.2.2.2.2.2.2.2.2.2.2.2.2.2.2.2.2.2.1 = a41 ∧ s.2.2.2.2.2.2.2.2.2.2.2.2.2.2.2.2.2.2.2.2.2.2.2.2.2.2.1 = a42 ∧ s.2.2.2.2.2.2.2.2.2.2.2.2.2.2.2.2.2.2.2.2.2.2.2.2.2.2.2.1 = a43) ∨ (r.2.1 = 0 ∧ r.2.2.1 = -1 ∧ s.1 = r.1 ∧ s.2.2.2.1 = 0 ∧ s.2.2.2.2.1 = -1 ∧ rd_PL r.2.2.2.2.2.2.2.2.1 r.2.2.2.2.2.2.2.2.2.1 r.2.2.2.2.2.2.2.2.2.2.1 r.2.2.2.2.2.2.2.2.2.2.2.1 r.2.2.2.2.2.2.2.2.2.2.2.2.1 r.2.2.2.2.2.2.2.2.2.2.2.2.2.2.1 r.2.2.2.2.2.2.2.2.2.2.2.2.2.2.2.1 r.2.2.2.2.2.2.2.2.2.2.2.2.2.2.2.2.1 r.2.2.2.2.2.2.2.2.2.2.2.2.2.2.2.2.2.1 r.2.2.2.2.2.2.2.2.2.2.2.2.2.2.2.2.2.2 s.2.2.2.2.2.2.2.2.2.2.1 s.2.2.2.2.2.2.2.2.2.2.2.1 r.2.2.2.2.2.2.2.2.2.2.1 s.2.2.2.2.2.2.2.2.2.2.2.2.1 s.2.2.2.2.2.2.2.2.2.2.2.2.2.1 s.2.2.2.2.2.2.2.2.2.2.2.2.2.2.2.2.2.2.2.2.2.2.2.2.1 s.2.2.2.2.2.2.2.2.2.2.2.2.2.2.2.2.2.2.2.2.2.2.2.2.2.1 s.2.2.2.2.2.2.2.2.2.2.2.2.2.2.2.2.2.2.2.2.2.2.2.2.2.2.1 s.2.2.2.2.2.2.2.2.2.2.2.2.2.2.2.2.2.2.2.2.2.2.2.2.2.2.2.1))
def rd_xI (n c : Nat) (x at1 kC sC vC next kR wR pR groups pots teams marks bars gR potsR tR mR bR : Int32) (a256 a257 a258 a259 a260 a44 a45 a46 a47 : Nat → Int32) : Prop := x.toInt = (c : Int) ∧ c ≤ n ∧ rd_S n at1 kC sC vC next kR wR pR ∧ (c : Int) ≤ at1.toInt ∧ (kC ≠ 0 → (c : Int) + 1 ≤ at1.toInt) ∧ (c = 0 → bars.toInt = 0) ∧ rd_PL groups pots teams marks bars a256 a257 a258 a259 a260 gR potsR tR mR bR a44 a45 a46 a47
theorem rd_lns (fu : Nat) (a w : Nat → Int32) (len tapeSize thrown c2_groups c2_pots c2_marks c2_bars c2_ranks c2_draws c2_lawful c2_out c2_laid : Int32) (a40 a41 a42 a43 a48 a49 a50 a52 a53 : Nat → Int32) (n : Nat) (hw : dz_pt w dz_wd) (hn : len.toInt = (n : Int)) (hn4 : n ≤ 400) (f : Nat) :
    (∀ (g c : Nat) (x at1 kC sC vC next kR wR pR groups pots teams marks bars gn gR potsR tR mR bR : Int32) (a256 a257 a258 a259 a260 a44 a45 a46 a47 : Nat → Int32), rd_xI n c x at1 kC sC vC next kR wR pR groups pots teams marks bars gR potsR tR mR bR a256 a257 a258 a259 a260 a44 a45 a46 a47 → rd_2 ((F123_X5_readLines fu a f).1 x x 0 (-1) len at1 kC sC vC groups pots teams marks bars gn a256 a257 a258 a259 a260) ((F22_X12_text fu a w g).1 x tapeSize thrown 0 (-1) len next kR wR pR c2_groups c2_pots c2_marks c2_bars gR potsR tR mR bR c2_ranks c2_draws c2_lawful c2_out c2_laid a40 a41 a42 a43 a44 a45 a46 a47 a48 a49 a50 a52 a53) (rd_xQ tapeSize c2_groups c2_pots c2_marks c2_bars a40 a41 a42 a43)) ∧
    (∀ (w0 : Int32) (g c : Nat) (x at1 kC sC vC next kR wR pR groups pots teams marks bars gn gR potsR tR mR bR : Int32) (a256 a257 a258 a259 a260 a44 a45 a46 a47 : Nat → Int32), rd_xI n c x at1 kC sC vC next kR wR pR groups pots teams marks bars gR potsR tR mR bR a256 a257 a258 a259 a260 a44 a45 a46 a47 → kC ≠ 0 → (w0 ≠ 0 → c = 0) → rd_2 ((F123_X5_readLines fu a f).2.1 x x w0 0 (-1) len at1 kC sC vC groups pots teams marks bars gn a256 a257 a258 a259 a260) ((F22_X12_text fu a w g).2 x w0 tapeSize thrown 0 (-1) len next kR wR pR c2_groups c2_pots c2_marks c2_bars gR potsR tR mR bR c2_ranks c2_draws c2_lawful c2_out c2_laid a40 a41 a42 a43 a44 a45 a46 a47 a48 a49 a50 a52 a53) (rd_xQ tapeSize c2_groups c2_pots c2_marks c2_bars a40 a41 a42 a43)) ∧
    (∀ (y : Int32) (g c : Nat) (x at1 kC sC vC next kR wR pR groups pots teams marks bars gn gR potsR tR mR bR : Int32) (a256 a257 a258 a259 a260 a44 a45 a46 a47 : Nat → Int32), y + 1 = x → rd_xI n c x at1 kC sC vC next kR wR pR groups pots teams marks bars gR potsR tR mR bR a256 a257 a258 a259 a260 a44 a45 a46 a47 → rd_2 ((F123_X5_readLines fu a f).2.2 x y 0 (-1) len at1 kC sC vC groups pots teams marks bars gn a256 a257 a258 a259 a260) ((F22_X12_text fu a w g).1 x tapeSize thrown 0 (-1) len next kR wR pR c2_groups c2_pots c2_marks c2_bars gR potsR tR mR bR c2_ranks c2_draws c2_lawful c2_out c2_laid a40 a41 a42 a43 a44 a45 a46 a47 a48 a49 a50 a52 a53) (rd_xQ tapeSize c2_groups c2_pots c2_marks c2_bars a40 a41 a42 a43)) := by
  have k0 : (0 : Int32).toInt = 0 := by decide
  have lf : ∀ (f : Nat) (x y fC pC at1 kC sC vC groups pots teams marks bars gn : Int32) (a256 a257 a258 a259 a260 : Nat → Int32), fC ≠ 0 → dz_P ((F123_X5_readLines fu a f).1 x y fC pC len at1 kC sC vC groups pots teams marks bars gn a256 a257 a258 a259 a260) (fun r => r.2.1 = fC ∧ r.2.2.1 = pC) := by
    intro f x y fC pC at1 kC sC vC groups pots teams marks bars gn a256 a257 a258 a259 a260 hf
    cases f with
    | zero => exact dz_Pn
    | succ f =>
      show dz_P (s123_X5_readLines_1 fu a (F123_X5_readLines fu a f).2.1 x y fC pC len at1 kC sC vC groups pots teams marks bars gn a256 a257 a258 a259 a260) _
      unfold s123_X5_readLines_1
      exact dz_Pi (fun _ => dz_Ps ⟨rfl, rfl⟩) (fun _ => dz_Pi (fun _ => dz_Ps ⟨rfl, rfl⟩) (fun _ => dz_Pi (fun h => absurd h hf) (fun _ => dz_Ps ⟨rfl, rfl⟩)))
  have lf3 : ∀ (f : Nat) (x y fC pC at1 kC sC vC groups pots teams marks bars gn : Int32) (a256 a257 a258 a259 a260 : Nat → Int32), fC ≠ 0 → dz_P ((F123_X5_readLines fu a f).2.2 x y fC pC len at1 kC sC vC groups pots teams marks bars gn a256 a257 a258 a259 a260) (fun r => r.2.1 = fC ∧ r.2.2.1 = pC) := by
    intro f x y fC pC at1 kC sC vC groups pots teams marks bars gn a256 a257 a258 a259 a260 hf
    cases f with
    | zero => exact dz_Pn
    | succ f =>
      show dz_P (s123_X5_readLines_3 fu a (F123_X5_readLines fu a f).1 x y fC pC len at1 kC sC vC groups pots teams marks bars gn a256 a257 a258 a259 a260) _
      unfold s123_X5_readLines_3
      exact lf f _ _ _ _ _ _ _ _ _ _ _ _ _ _ _ _ _ _ _ hf
  induction f with
  | zero => exact ⟨fun _ _ _ _ _ _ _ _ _ _ _ _ _ _ _ _ _ _ _ _ _ _ _ _ _ _ _ _ _ _ _ _ => rd_2n, fun _ _ _ _ _ _ _ _ _ _ _ _ _ _ _ _ _ _ _ _ _ _ _ _ _ _ _ _ _ _ _ _ _ _ _ => rd_2n, fun _ _ _ _ _ _ _ _ _ _ _ _ _ _ _ _ _ _ _ _ _ _ _ _ _ _ _ _ _ _ _ _ _ _ => rd_2n⟩
  | succ f ih =>
    obtain ⟨j1, j2, j3⟩ := ih
    refine ⟨?_, ?_, ?_⟩
    · intro g c x at1 kC sC vC next kR wR pR groups pots teams marks bars gn gR potsR tR mR bR a256 a257 a258 a259 a260 a44 a45 a46 a47 hI
      obtain ⟨i1, i2, i3, i4, i5, i6, i7⟩ := id hI
      obtain ⟨q, q1, q2⟩ := i3.2.2.2
      cases g with
      | zero => exact rd_2m
      | succ g =>
        show rd_2 (s123_X5_readLines_1 fu a (F123_X5_readLines fu a f).2.1 x x 0 (-1) len at1 kC sC vC groups pots teams marks bars gn a256 a257 a258 a259 a260) (s22_X12_text_1 fu a w (F22_X12_text fu a w g).2 x tapeSize thrown 0 (-1) len next kR wR pR c2_groups c2_pots c2_marks c2_bars gR potsR tR mR bR c2_ranks c2_draws c2_lawful c2_out c2_laid a40 a41 a42 a43 a44 a45 a46 a47 a48 a49 a50 a52 a53) _
        unfold s123_X5_readLines_1 s22_X12_text_1
        refine rd_2i (fun h => ?_) (fun _ => rd_2i (fun hk => ?_) (fun hk => ?_))
        · have h := Int32.lt_iff_toInt_lt.mp h
          exfalso
          omega
        · rw [if_pos ((rd_R3 i3.2.2.1).2.1.mp hk)]
          obtain ⟨g1, g2, g3, g4, g5, hG2, hG4, T, M, B, hT, hT12, hM, hM6, hB, hB10, -⟩ := id i7
          refine rd_2d (rd_kpP fu gR potsR tR mR bR a44 a45 a46 a47 c2_groups c2_pots c2_marks c2_bars c2_ranks c2_draws c2_lawful c2_out c2_laid a40 a41 a42 a43 a48 a49 a50 a52 a53 T M B (by rw [g3]; exact hT) hT12 (by rw [g4]; exact hM) hM6 (by rw [g5]; exact hB) hB10) (fun r hr => ?_)
          obtain ⟨r1, r2, r3, r4, r5, r6, r7, r8⟩ := hr
          have hPL := rd_PLk i7 r1 r2 r3 r4 (b44 := r.2.2.2.2.2.2.2.2.2.1) (b45 := r.2.2.2.2.2.2.2.2.2.2.1) (b46 := r.2.2.2.2.2.2.2.2.2.2.2.1) (b47 := r.2.2.2.2.2.2.2.2.2.2.2.2.1) (fun T1 M1 B1 t1 _ m1 _ b1 _ => by
            rw [g3] at t1
            rw [g4] at m1
            rw [g5] at b1
            rw [show T1 = T by omega, show M1 = M by omega, show B1 = B by omega]
            exact ⟨r5, r6, r7, r8⟩)
          rw [g3] at hPL
          exact rd_2s ⟨rfl, Or.inr ⟨rfl, rfl, rfl, rfl, rfl, hPL⟩⟩
        · rw [if_neg (fun h => hk ((rd_R3 i3.2.2.1).2.1.mpr h))]
          refine rd_2i (fun _ => ?_) (fun h => absurd rfl h)
          refine rd_2i (fun h0 => rd_2j (fun _ => ?_) (fun h => absurd h0 h)) (fun h0 => rd_2j (fun h => absurd h h0) (fun _ => ?_))
          · exact j2 1 g c x at1 kC sC vC next kR wR pR groups pots teams marks bars gn gR potsR tR mR bR a256 a257 a258 a259 a260 a44 a45 a46 a47 hI hk (fun _ => by rw [h0] at i1; omega)
          · exact j2 0 g c x at1 kC sC vC next kR wR pR groups pots teams marks bars gn gR potsR tR mR bR a256 a257 a258 a259 a260 a44 a45 a46 a47 hI hk (fun h => absurd rfl h)
    · intro w0 g c x at1 kC sC vC next kR wR pR groups pots teams marks bars gn gR potsR tR mR bR a256 a257 a258 a259 a260 a44 a45 a46 a47 hI hk hw0
      obtain ⟨i1, i2, i3, i4, i5, i6, i7⟩ := id hI
      obtain ⟨q, q1, q2⟩ := i3.2.2.2
      have i5 := i5 hk
      cases g with
      | zero => exact rd_2m
      | succ g =>
        show rd_2 (s123_X5_readLines_2 fu a (F123_X5_readLines fu a f).2.2 x x w0 0 (-1) len at1 kC sC vC groups pots teams marks bars gn a256 a257 a258 a259 a260) (s22_X12_text_2 fu a w (F22_X12_text fu a w g).1 x w0 tapeSize thrown 0 (-1) len next kR wR pR c2_groups c2_pots c2_marks c2_bars gR potsR tR mR bR c2_ranks c2_draws c2_lawful c2_out c2_laid a40 a41 a42 a43 a44 a45 a46 a47 a48 a49 a50 a52 a53) _
        unfold s123_X5_readLines_2 s22_X12_text_2
        refine rd_2b (rd_line fu a w len w0 at1 kC sC vC next kR wR pR groups pots teams marks bars gn gR potsR tR mR bR a256 a257 a258 a259 a260 a44 a45 a46 a47 n hw hn hn4 i3 (by omega) (fun h => i6 (hw0 h)) i7) (fun r s h => ?_)
        rcases h with ⟨e1, e2, e3, e4, e5⟩ | ⟨o1, o2, o3, o4, o5, o6, o7, o8, o9⟩
        · rw [if_pos e1, if_pos e2]
          refine rd_2p (lf3 f _ _ _ _ _ _ _ _ _ _ _ _ _ _ _ _ _ _ _ e5) (fun u hu => dz_Ps ⟨rfl, Or.inl ⟨by rw [hu.1]; exact e5, rfl, e3.trans hu.1.symm, e4.trans hu.2.symm, rfl, rfl, rfl, rfl, rfl, rfl, rfl, rfl⟩⟩)
        · rw [if_neg o1, if_neg o2, o3, o4, o5, o6]
          obtain ⟨p, p1, p2⟩ := o7.2.2.2
          refine j3 x g (c + 1) (x + 1) r.2.2.2.1 r.2.2.2.2.1 r.2.2.2.2.2.1 r.2.2.2.2.2.2.1 s.2.2.2.1 s.2.2.2.2.1 s.2.2.2.2.2.1 s.2.2.2.2.2.2.1 r.2.2.2.2.2.2.2.1 r.2.2.2.2.2.2.2.2.1 r.2.2.2.2.2.2.2.2.2.1 r.2.2.2.2.2.2.2.2.2.2.1 r.2.2.2.2.2.2.2.2.2.2.2.1 r.2.2.2.2.2.2.2.2.2.2.2.2.1 s.2.2.2.2.2.2.2.1 s.2.2.2.2.2.2.2.2.1 s.2.2.2.2.2.2.2.2.2.1 s.2.2.2.2.2.2.2.2.2.2.1 s.2.2.2.2.2.2.2.2.2.2.2.1 r.2.2.2.2.2.2.2.2.2.2.2.2.2.1 r.2.2.2.2.2.2.2.2.2.2.2.2.2.2.1 r.2.2.2.2.2.2.2.2.2.2.2.2.2.2.2.1 r.2.2.2.2.2.2.2.2.2.2.2.2.2.2.2.2.1 r.2.2.2.2.2.2.2.2.2.2.2.2.2.2.2.2.2 s.2.2.2.2.2.2.2.2.2.2.2.2.1 s.2.2.2.2.2.2.2.2.2.2.2.2.2.1 s.2.2.2.2.2.2.2.2.2.2.2.2.2.2.1 s.2.2.2.2.2.2.2.2.2.2.2.2.2.2.2 rfl ⟨rd_p1 i1 (by omega), by omega, o7, by omega, fun h => by omega, fun h => by omega, o9⟩
    · intro y g c x at1 kC sC vC next kR wR pR groups pots teams marks bars gn gR potsR tR mR bR a256 a257 a258 a259 a260 a44 a45 a46 a47 hy hI
      show rd_2 (s123_X5_readLines_3 fu a (F123_X5_readLines fu a f).1 x y 0 (-1) len at1 kC sC vC groups pots teams marks bars gn a256 a257 a258 a259 a260) _ _
      unfold s123_X5_readLines_3
      rw [hy]
      exact j1 g c x at1 kC sC vC next kR wR pR groups pots teams marks bars gn gR potsR tR mR bR a256 a257 a258 a259 a260 a44 a45 a46 a47 hI
theorem rd_Pr {R : Type} {o : Option R} {Q : R → Prop} {r : R} (h : dz_P o Q) (e : o = some r) : Q r := h r e
/-- the two objects alike: kept plan, fault -/
def rd_X (c248_groups c248_pots c248_teams c248_marks c248_bars c254_fault c254_place c2_fault c2_faultPlace c2_groups c2_pots c2_marks c2_bars : Int32) (a249 a250 a251 a252 a253 a40 a41 a42 a43 : Nat → Int32) : Prop := c2_fault = c254_fault ∧ c2_faultPlace = c254_place ∧ rd_PL c248_groups c248_pots c248_teams c248_marks c248_bars a249 a250 a251 a252 a253 c2_groups c2_pots c248_teams c2_marks c2_bars a40 a41 a42 a43
theorem rd_txt (fu U : Nat) (a w : Nat → Int32) (v1 c73_taped : Int32) (c73_nearestOrder : Int32) (c73_nearestArrangement : Int32) (c248_groups : Int32) (c248_pots : Int32) (c248_teams : Int32) (c248_marks : Int32) (c248_bars : Int32) (c248_groupsNamed : Int32) (a249 : Nat → Int32) (a250 : Nat → Int32) (a251 : Nat → Int32) (a252 : Nat → Int32) (a253 : Nat → Int32) (c254_fault : Int32) (c254_place : Int32) (c254_length : Int32) (c254_at : Int32) (c254_kind : Int32) (c254_start : Int32) (c254_value : Int32) (c255_groups : Int32) (c255_pots : Int32) (c255_teams : Int32) (c255_marks : Int32) (c255_bars : Int32) (c255_groupsNamed : Int32) (a256 : Nat → Int32) (a257 : Nat → Int32) (a258 : Nat → Int32) (a259 : Nat → Int32) (a260 : Nat → Int32) (c261_groups : Int32) (c261_many : Int32) (c261_everyRank : Int32) (c261_swapsAPot : Int32) (a262 : Nat → Int32) (a263 : Nat → Int32) (a264 : Nat → Int32) (a265 : Nat → Int32) (a266 : Nat → Int32) (c267_total : Int32) (c267_lawfulOnes : Int32) (a268 : Nat → Int32) (a269 : Nat → Int32) (n269 : Nat) (a270 : Nat → Int32) (n270 : Nat) (a271 : Nat → Int32) (a273 : Nat → Int32) (c274_out : Int32) (a275 : Nat → Int32) (a276 : Nat → Int32) (a277 : Nat → Int32) (c280_fresh : Int32) (c284_fresh : Int32) (c305_fresh : Int32) (c307_done : Int32) (c307_partsFresh : Int32) (c310_fresh : Int32) (c313_fresh : Int32) (c316_fresh : Int32) (c319_fresh : Int32) (c322_fresh : Int32) (c325_fresh : Int32) (c2_tapeSize : Int32) (c2_thrown : Int32) (c2_fault : Int32) (c2_faultPlace : Int32) (c2_stop : Int32) (c2_next : Int32) (c2_kind : Int32) (c2_which : Int32) (c2_place : Int32) (c2_groups : Int32) (c2_pots : Int32) (c2_marks : Int32) (c2_bars : Int32) (c2_groupsRead : Int32) (c2_potsRead : Int32) (c2_teamsRead : Int32) (c2_marksRead : Int32) (c2_barsRead : Int32) (c2_ranks : Int32) (c2_draws : Int32) (c2_lawful : Int32) (c2_out : Int32) (c2_laid : Int32) (a40 : Nat → Int32) (a41 : Nat → Int32) (a42 : Nat → Int32) (a43 : Nat → Int32) (a44 : Nat → Int32) (a45 : Nat → Int32) (a46 : Nat → Int32) (a47 : Nat → Int32) (a48 : Nat → Int32) (a49 : Nat → Int32) (a50 : Nat → Int32) (a52 : Nat → Int32) (a53 : Nat → Int32) (hw : dz_pt w dz_wd) (h4 : c73_taped.toInt ≤ 400) (ht : c73_taped = c2_tapeSize) (hX : rd_X c248_groups c248_pots c248_teams c248_marks c248_bars c254_fault c254_place c2_fault c2_faultPlace c2_groups c2_pots c2_marks c2_bars a249 a250 a251 a252 a253 a40 a41 a42 a43) :
    rd_2 (f151_X11_text fu U a v1 c73_taped c73_nearestOrder c73_nearestArrangement c248_groups c248_pots c248_teams c248_marks c248_bars c248_groupsNamed a249 a250 a251 a252 a253 c254_fault c254_place c254_length c254_at c254_kind c254_start c254_value c255_groups c255_pots c255_teams c255_marks c255_bars c255_groupsNamed a256 a257 a258 a259 a260 c261_groups c261_many c261_everyRank c261_swapsAPot a262 a263 a264 a265 a266 c267_total c267_lawfulOnes a268 a269 n269 a270 n270 a271 a273 c274_out a275 a276 a277 c280_fresh c284_fresh c305_fresh c307_done c307_partsFresh c310_fresh c313_fresh c316_fresh c319_fresh c322_fresh c325_fresh) (f22_X12_text fu a w v1 c2_tapeSize c2_thrown c2_fault c2_faultPlace c2_stop c2_next c2_kind c2_which c2_place c2_groups c2_pots c2_marks c2_bars c2_groupsRead c2_potsRead c2_teamsRead c2_marksRead c2_barsRead c2_ranks c2_draws c2_lawful c2_out c2_laid a40 a41 a42 a43 a44 a45 a46 a47 a48 a49 a50 a52 a53) (fun r s => s.1 = r.1 ∧ rd_X r.2.2.2.2.1 r.2.2.2.2.2.1 r.2.2.2.2.2.2.1 r.2.2.2.2.2.2.2.1 r.2.2.2.2.2.2.2.2.1 r.2.2.2.2.2.2.2.2.2.2.2.2.2.2.2.1 r.2.2.2.2.2.2.2.2.2.2.2.2.2.2.2.2.1 s.2.2.2.1 s.2.2.2.2.1 s.2.2.2.2.2.2.2.2.2.2.1 s.2.2.2.2.2.2.2.2.2.2.2.1 s.2.2.2.2.2.2.2.2.2.2.2.2.1 s.2.2.2.2.2.2.2.2.2.2.2.2.2.1 r.2.2.2.2.2.2.2.2.2.2.1 r.2.2.2.2.2.2.2.2.2.2.2.1 r.2.2.2.2.2.2.2.2.2.2.2.2.1 r.2.2.2.2.2.2.2.2.2.2.2.2.2.1 r.2.2.2.2.2.2.2.2.2.2.2.2.2.2.1 s.2.2.2.2.2.2.2.2.2.2.2.2.2.2.2.2.2.2.2.2.2.2.2.2.1 s.2.2.2.2.2.2.2.2.2.2.2.2.2.2.2.2.2.2.2.2.2.2.2.2.2.1 s.2.2.2.2.2.2.2.2.2.2.2.2.2.2.2.2.2.2.2.2.2.2.2.2.2.2.1 s.2.2.2.2.2.2.2.2.2.2.2.2.2.2.2.2.2.2.2.2.2.2.2.2.2.2.2.1) := by
  obtain ⟨x2, x3, x4⟩ := id hX
  have k0 : (0 : Int32).toInt = 0 := by decide
  have k400 : (400 : Int32).toInt = 400 := by decide
  have k2 : (2 : Int32).toInt = 2 := by decide
  unfold f151_X11_text s151_X11_text_0 f22_X12_text s22_X12_text_0
  refine rd_2i (fun h => rd_2j (fun _ => rd_2s ⟨rfl, hX⟩) (fun h2 => absurd h h2)) (fun h => rd_2j (fun h2 => absurd h2 h) (fun _ => ?_))
  have h0 := dz_fnlt h
  rw [← ht]
  refine rd_2i (fun h => rd_2j (fun _ => ?_) (fun h2 => absurd h h2)) (fun h => rd_2j (fun h2 => absurd h2 h) (fun _ => rd_2s ⟨rfl, x2, x3, x4⟩))
  have h := rd_le h
  obtain ⟨n, hn⟩ : ∃ n : Nat, v1.toInt = (n : Int) := ⟨v1.toInt.toNat, by omega⟩
  have hl : (if 400 < v1 then 400 else v1) = v1 := if_neg (fun q => by have := Int32.lt_iff_toInt_lt.mp q; omega)
  have hr0 : rd_2 (f123_X5_readLines fu a v1 c254_fault c254_place c254_length c254_at c254_kind c254_start c254_value c255_groups c255_pots c255_teams c255_marks c255_bars c255_groupsNamed a256 a257 a258 a259 a260) ((f8_X12_plain fu c2_groupsRead c2_potsRead c2_teamsRead c2_marksRead c2_barsRead).bind (fun r_3 => (f7_X12_take fu v1 a w (0) c2_kind c2_which c2_place).bind (fun r_5 => (F22_X12_text fu a w fu).1 0 (0) (0) (0) (-1) v1 r_5.1 r_5.2.1 r_5.2.2.1 r_5.2.2.2 c2_groups c2_pots c2_marks c2_bars r_3.1 r_3.2.1 r_3.2.2.1 r_3.2.2.2.1 r_3.2.2.2.2 c2_ranks c2_draws c2_lawful c2_out c2_laid a40 a41 a42 a43 a44 a45 a46 a47 a48 a49 a50 a52 a53))) (rd_xQ 0 c2_groups c2_pots c2_marks c2_bars a40 a41 a42 a43) := by
    unfold f123_X5_readLines s123_X5_readLines_0 f90_X3_forget s90_X3_forget_0 f8_X12_plain s8_X12_plain_0
    refine rd_2e (rd_2f ?_)
    rw [hl]
    refine rd_2b (rd_2st fu a w v1 0 c254_kind c254_start c254_value 0 c2_kind c2_which c2_place n hw hn (by omega) ⟨0, k0, Nat.zero_le _⟩ rfl) (fun u s hus => ?_)
    obtain ⟨u1, u2, u3⟩ := hus
    refine (rd_lns fu a w v1 0 0 c2_groups c2_pots c2_marks c2_bars c2_ranks c2_draws c2_lawful c2_out c2_laid a40 a41 a42 a43 a48 a49 a50 a52 a53 n hw hn (by omega) fu).1 fu 0 0 u.1 u.2.1 u.2.2.1 u.2.2.2 s.1 s.2.1 s.2.2.1 s.2.2.2 2 0 0 0 0 0 2 0 0 0 0 a256 a257 a258 a259 a260 a44 a45 a46 a47 ⟨k0, Nat.zero_le _, u1, by omega, fun q => by have := u3 q; omega, fun _ => k0, rfl, rfl, rfl, rfl, rfl, by omega, by omega, 0, 0, 0, k0, by omega, k0, by omega, k0, by omega, fun k hk => absurd hk (Nat.not_lt_zero k), fun k hk => absurd hk (Nat.not_lt_zero k), ⟨fun k hk => absurd hk (Nat.not_lt_zero k), fun k hk => absurd hk (Nat.not_lt_zero k)⟩, fun k hk => absurd hk (Nat.not_lt_zero k)⟩
  intro r s e1 e2
  cases hc : f123_X5_readLines fu a v1 c254_fault c254_place c254_length c254_at c254_kind c254_start c254_value c255_groups c255_pots c255_teams c255_marks c255_bars c255_groupsNamed a256 a257 a258 a259 a260 with
  | none =>
    rw [hc] at e1
    cases e1
  | some r3 =>
    rw [hc] at e1
    have hq := hr0 r3 s hc e2
    obtain ⟨q0, hq⟩ := hq
    refine rd_Pr (Q := fun r => s.1 = r.1 ∧ rd_X r.2.2.2.2.1 r.2.2.2.2.2.1 r.2.2.2.2.2.2.1 r.2.2.2.2.2.2.2.1 r.2.2.2.2.2.2.2.2.1 r.2.2.2.2.2.2.2.2.2.2.2.2.2.2.2.1 r.2.2.2.2.2.2.2.2.2.2.2.2.2.2.2.2.1 s.2.2.2.1 s.2.2.2.2.1 s.2.2.2.2.2.2.2.2.2.2.1 s.2.2.2.2.2.2.2.2.2.2.2.1 s.2.2.2.2.2.2.2.2.2.2.2.2.1 s.2.2.2.2.2.2.2.2.2.2.2.2.2.1 r.2.2.2.2.2.2.2.2.2.2.1 r.2.2.2.2.2.2.2.2.2.2.2.1 r.2.2.2.2.2.2.2.2.2.2.2.2.1 r.2.2.2.2.2.2.2.2.2.2.2.2.2.1 r.2.2.2.2.2.2.2.2.2.2.2.2.2.2.1 s.2.2.2.2.2.2.2.2.2.2.2.2.2.2.2.2.2.2.2.2.2.2.2.2.1 s.2.2.2.2.2.2.2.2.2.2.2.2.2.2.2.2.2.2.2.2.2.2.2.2.2.1 s.2.2.2.2.2.2.2.2.2.2.2.2.2.2.2.2.2.2.2.2.2.2.2.2.2.2.1 s.2.2.2.2.2.2.2.2.2.2.2.2.2.2.2.2.2.2.2.2.2.2.2.2.2.2.2.1) ?_ e1
    rcases hq with ⟨y1, y2, y3, y4, y5, y6, y7, y8, y9, y10, y11, y12⟩ | ⟨y1, y2, y3, y4, y5, y6⟩
    · refine dz_Psb (dz_Pi (fun h => absurd h y1) (fun _ => dz_Ps ⟨y2, y3, y4, ?_⟩))
      show rd_PL c248_groups c248_pots c248_teams c248_marks c248_bars a249 a250 a251 a252 a253 s.2.2.2.2.2.2.2.2.2.2.1 s.2.2.2.2.2.2.2.2.2.2.2.1 c248_teams s.2.2.2.2.2.2.2.2.2.2.2.2.1 s.2.2.2.2.2.2.2.2.2.2.2.2.2.1 s.2.2.2.2.2.2.2.2.2.2.2.2.2.2.2.2.2.2.2.2.2.2.2.2.1 s.2.2.2.2.2.2.2.2.2.2.2.2.2.2.2.2.2.2.2.2.2.2.2.2.2.1 s.2.2.2.2.2.2.2.2.2.2.2.2.2.2.2.2.2.2.2.2.2.2.2.2.2.2.1 s.2.2.2.2.2.2.2.2.2.2.2.2.2.2.2.2.2.2.2.2.2.2.2.2.2.2.2.1
      rw [y5, y6, y7, y8, y9, y10, y11, y12]
      exact x4
    · refine dz_Psb (dz_Pi (fun _ => ?_) (fun h => absurd y1 h))
      refine dz_Pb (rd_tkP fu _ _ _ _ _ _ _ _ _ _ _ c248_groups c248_pots c248_teams c248_marks c248_bars c248_groupsNamed a249 a250 a251 a252 a253) (fun r6 hr6 => dz_Pi (fun _ => dz_Pa (fun r9 => dz_Ps ?_)) (fun _ => dz_Pn))
      obtain ⟨z1, z2, z3, z4, z5, z6, z7, z8, z9, z10⟩ := hr6
      refine ⟨y3, y4.trans y1.symm, y5.trans y2.symm, ?_⟩
      have hp := rd_PLc y6 z1 z2 z3 z4 z5 z6 z7 z8 z9 z10
      rw [← z3] at hp
      exact hp
theorem rd_flt (fu : Nat) (c254_fault c254_place c2_fault c2_faultPlace v1 thrown : Int32) (h1 : c2_fault = c254_fault) (h2 : c2_faultPlace = c254_place) : rd_2 (f152_X11_fault fu c254_fault c254_place v1) (f23_X12_fault fu c2_fault c2_faultPlace v1 thrown) (fun r s => s.1 = r) := by
  unfold f152_X11_fault s152_X11_fault_0 f23_X12_fault s23_X12_fault_0
  exact rd_2i (fun h => rd_2j (fun _ => rd_2s h1) (fun g => absurd h g)) (fun h => rd_2j (fun g => absurd g h) (fun _ => rd_2i (fun h => rd_2j (fun _ => rd_2s h2) (fun g => absurd h g)) (fun h => rd_2j (fun g => absurd g h) (fun _ => rd_2s rfl))))
theorem rd_nmd (fu : Nat) (c248_teams c248_marks c2_groups c2_pots c2_marks v1 v2 thrown : Int32) (a249 a251 a40 a41 : Nat → Int32) (T M : Nat) (hT : c248_teams.toInt = (T : Int)) (hT12 : T ≤ 12) (hM : c248_marks.toInt = (M : Int)) (hM6 : M ≤ 6) (hm : c2_marks = c248_marks) (ht : c2_groups * c2_pots = c248_teams) (hA : ∀ k, k < T → a249 k = a40 k) (hN : ∀ k, k < M → a251 k = a41 k) : rd_2 (f153_X11_named fu c248_teams c248_marks a249 a251 v1 v2) (f24_X12_named fu c2_groups c2_pots c2_marks a40 a41 v1 v2 thrown) (fun r s => s.1 = r) := by
  have k0 : (0 : Int32).toInt = 0 := by decide
  have k1 : (1 : Int32).toInt = 1 := by decide
  have key : ∀ (b : Nat → Int32) (n : Nat) (lim : Int32), lim.toInt = (n : Int) → n ≤ 12 → ((v1 = 0 ∧ b = a40) ∨ (¬ v1 = 0 ∧ b = a41)) → ∀ (f p : Nat) (x z : Int32), x.toInt = (p : Int) → p ≤ n → (∀ k, k < p → b k ≠ v2) → dz_P ((F24_X12_named fu c2_groups c2_pots c2_marks a40 a41 f).2.1 v1 v2 lim x z) (fun r => rd_fnd b n v2 r.1) := by
    intro b n lim hl hn hb f
    induction f using Nat.strongRecOn with
    | _ f ih =>
      intro p x z hx hp hno
      cases f with
      | zero => exact dz_Pn
      | succ f =>
        show dz_P (s24_X12_named_2 fu c2_groups c2_pots c2_marks a40 a41 (F24_X12_named fu c2_groups c2_pots c2_marks a40 a41 f).2.2 v1 v2 lim x z) _
        unfold s24_X12_named_2
        refine dz_Pi (fun h => dz_Ps (Or.inl ⟨rfl, fun k hk => hno k (by have := rd_le h; omega)⟩)) (fun h => ?_)
        have h := dz_fnle h
        have l3 : dz_P ((F24_X12_named fu c2_groups c2_pots c2_marks a40 a41 f).2.2 v1 v2 lim x (b p) z) (fun r => rd_fnd b n v2 r.1) := by
          cases f with
          | zero => exact dz_Pn
          | succ f =>
            show dz_P (s24_X12_named_3 fu c2_groups c2_pots c2_marks a40 a41 (F24_X12_named fu c2_groups c2_pots c2_marks a40 a41 f).2.1 v1 v2 lim x (b p) z) _
            unfold s24_X12_named_3
            refine dz_Pi (fun e => dz_Ps (Or.inr ⟨p, hx, by omega, e, hno⟩)) (fun e => ih f (by omega) (p + 1) _ z (rd_p1 hx (by omega)) (by omega) (fun k hk => ?_))
            by_cases c : k = p
            · rw [c]
              exact e
            · exact hno k (by omega)
        simp only [rd_tc hx]
        rcases hb with ⟨b1, b2⟩ | ⟨b1, b2⟩
        · subst b2
          exact dz_Pi (fun _ => dz_Pi (fun _ => l3) (fun _ => dz_Pn)) (fun g => absurd b1 g)
        · subst b2
          exact dz_Pi (fun g => absurd g b1) (fun _ => dz_Pi (fun _ => l3) (fun _ => dz_Pn))
  have l1 : ∀ (b : Nat → Int32) (n : Nat) (lim : Int32), lim.toInt = (n : Int) → n ≤ 12 → ((v1 = 0 ∧ b = a40) ∨ (¬ v1 = 0 ∧ b = a41)) → ∀ (f : Nat) (z : Int32), dz_P ((F24_X12_named fu c2_groups c2_pots c2_marks a40 a41 f).1 v1 v2 lim z) (fun r => rd_fnd b n v2 r.1) := by
    intro b n lim hl hn hb f z
    cases f with
    | zero => exact dz_Pn
    | succ f =>
      show dz_P (s24_X12_named_1 fu c2_groups c2_pots c2_marks a40 a41 (F24_X12_named fu c2_groups c2_pots c2_marks a40 a41 f).2.1 v1 v2 lim z) _
      unfold s24_X12_named_1
      exact key b n lim hl hn hb f 0 0 z k0 (Nat.zero_le _) (fun k hk => absurd hk (Nat.not_lt_zero k))
  have lin : dz_P (f1_X12_isIn fu v1 0 1) (fun r => (r = 0 ∧ ¬ v1 = 0 ∧ ¬ v1 = 1) ∨ (¬ r = 0 ∧ (v1 = 0 ∨ v1 = 1))) := by
    unfold f1_X12_isIn s1_X12_isIn_0
    refine dz_Pi (fun h => dz_Ps (Or.inl ⟨rfl, fun q => ?_, fun q => ?_⟩)) (fun h => dz_Pi (fun h2 => dz_Ps (Or.inl ⟨rfl, fun q => ?_, fun q => ?_⟩)) (fun h2 => dz_Ps (Or.inr ⟨by decide, ?_⟩)))
    · rw [q] at h
      exact absurd h (by decide)
    · rw [q] at h
      exact absurd h (by decide)
    · rw [q] at h2
      exact absurd h2 (by decide)
    · rw [q] at h2
      exact absurd h2 (by decide)
    · have h := dz_fnlt h
      have h2 := dz_fnlt h2
      rcases (show v1.toInt = 0 ∨ v1.toInt = 1 by omega) with e | e
      · exact Or.inl (Int32.toInt_inj.mp (by omega))
      · exact Or.inr (Int32.toInt_inj.mp (by omega))
  unfold f153_X11_named s153_X11_named_0 f24_X12_named s24_X12_named_0
  refine rd_2d lin (fun b hb => ?_)
  rcases hb with ⟨b1, b2, b3⟩ | ⟨b1, b2⟩
  · rw [if_pos b1, if_neg b2, if_neg b3]
    exact rd_2s rfl
  · rw [if_neg b1]
    by_cases c : v1 = 0
    · rw [if_pos c, if_pos c]
      refine rd_2c (rd_tnP fu c248_teams a249 v2 T hT hT12) (fun y hy => ?_)
      unfold f9_X12_teams s9_X12_teams_0
      refine rd_2f ?_
      rw [ht]
      exact rd_2p (dz_Ps hy) (fun x hx g hg => (rd_fnd1 hx (l1 a40 T c248_teams hT hT12 (Or.inl ⟨c, rfl⟩) fu _ g hg) hA).symm)
    · have c1 : v1 = 1 := b2.elim (fun q => absurd q c) id
      rw [if_neg c, if_pos c1, if_neg c, hm]
      refine rd_2c (rd_mkP fu c248_marks a251 v2 M hM hM6) (fun y hy => ?_)
      exact rd_2p (dz_Ps hy) (fun x hx g hg => (rd_fnd1 hx (l1 a41 M c248_marks hM (by omega) (Or.inr ⟨c, rfl⟩) fu _ g hg) hN).symm)
