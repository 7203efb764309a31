/-! one line of both readers -/
theorem rd_2e {R S R1 : Type} {x : R1} {f : R1 → Option R} {o2 : Option S} {Q : R → S → Prop} (h : rd_2 (f x) o2 Q) : rd_2 ((some x).bind f) o2 Q := h
theorem rd_2f {R S S1 : Type} {x : S1} {f : S1 → Option S} {o : Option R} {Q : R → S → Prop} (h : rd_2 o (f x) Q) : rd_2 o ((some x).bind f) Q := h
theorem rd_2nb {R S R1 : Type} {f : R1 → Option R} {o2 : Option S} {Q : R → S → Prop} : rd_2 ((none : Option R1).bind f) o2 Q := fun r s e => by cases e
theorem rd_2bi {R S R1 : Type} {c : Prop} [d9 : Decidable c] {a b : Option R1} {f : R1 → Option R} {o2 : Option S} {Q : R → S → Prop} (h1 : c → rd_2 (a.bind f) o2 Q) (h2 : ¬ c → rd_2 (b.bind f) o2 Q) : rd_2 ((if c then a else b).bind f) o2 Q := by
  by_cases hc : c
  · rw [if_pos hc]; exact h1 hc
  · rw [if_neg hc]; exact h2 hc
theorem rd_2as {R S R1 R2 : Type} {o : Option R1} {f : R1 → Option R2} {g : R2 → Option R} {o2 : Option S} {Q : R → S → Prop} (h : rd_2 (o.bind (fun x => (f x).bind g)) o2 Q) : rd_2 ((o.bind f).bind g) o2 Q := by
  cases o with
  | none => exact rd_2nb
  | some x => exact h
theorem rd_Pbi {R R1 : Type} {c : Prop} [d9 : Decidable c] {a b : Option R1} {f : R1 → Option R} {Q : R → Prop} (h1 : c → dz_P (a.bind f) Q) (h2 : ¬ c → dz_P (b.bind f) Q) : dz_P ((if c then a else b).bind f) Q := by
  by_cases hc : c
  · rw [if_pos hc]; exact h1 hc
  · rw [if_neg hc]; exact h2 hc
theorem rd_Pas {R R1 R2 : Type} {o : Option R1} {f : R1 → Option R2} {g : R2 → Option R} {Q : R → Prop} (h : dz_P (o.bind (fun x => (f x).bind g)) Q) : dz_P ((o.bind f).bind g) Q := by
  cases o with
  | none => intro r e; cases e
  | some x => exact h
theorem rd_Pnb {R R1 : Type} {f : R1 → Option R} {Q : R → Prop} : dz_P ((none : Option R1).bind f) Q := fun r e => by cases e
/-- one bar in both plans, by the marks' rows -/
def rd_bj (T M : Nat) (G : Int32) (a46 : Nat → Int32) (t v w X Y : Int32) : Prop :=
  (t = 0 ∧ 1 ≤ v.toInt ∧ v.toInt ≤ 3 ∧ 0 ≤ w.toInt ∧ w.toInt < (M : Int) ∧ (∀ k, dz_bit X k ↔ dz_bit (a46 w.toInt.toNat) k) ∧ Y = v * 4369) ∨
  (t = 1 ∧ 0 ≤ v.toInt ∧ v.toInt < (T : Int) ∧ 0 ≤ w.toInt ∧ w.toInt < (T : Int) ∧ ¬ w = v ∧ X = ((1 : Int32) <<< (v &&& 31)) ||| ((1 : Int32) <<< (w &&& 31)) ∧ Y = 1 * 4369) ∨
  (t = 2 ∧ 0 ≤ v.toInt ∧ v.toInt < (T : Int) ∧ 0 ≤ w.toInt ∧ w.toInt < G.toInt ∧ X = (1 : Int32) <<< (v &&& 31) ∧ Y = (30583 : Int32) &&& (((15 : Int32) <<< (((4 : Int32) * w) &&& 31)) ^^^ (-1))) ∨
  (t = 3 ∧ 0 ≤ v.toInt ∧ v.toInt < (T : Int) ∧ 0 ≤ w.toInt ∧ w.toInt < G.toInt ∧ X = (1 : Int32) <<< (v &&& 31) ∧ Y = (7 : Int32) <<< (((4 : Int32) * w) &&& 31))
theorem rd_bkj {T M : Nat} {G : Int32} {a257 a46 : Nat → Int32} {t v w X Y : Int32} (h : rd_mb T M a257 a46) (g : rd_bk T M G a257 t v w X Y) : rd_bj T M G a46 t v w X Y := by
  rcases g with ⟨g1, g2, g3, g4, g5, g6, g7⟩ | g | g | g
  · refine Or.inl ⟨g1, g2, g3, g4, g5, fun k => ?_, g7⟩
    have hw : w.toInt.toNat < M := by omega
    rw [g6 k]
    constructor
    · intro q
      exact ((h.1 k q.1 _).mp q.2).2
    · intro q
      have hk := h.2 _ hw k q
      exact ⟨hk, (h.1 k hk _).mpr ⟨hw, q⟩⟩
  · exact Or.inr (Or.inl g)
  · exact Or.inr (Or.inr (Or.inl g))
  · exact Or.inr (Or.inr (Or.inr g))
theorem rd_bjm {T M T1 M1 : Nat} {G : Int32} {a46 b46 : Nat → Int32} {t v w X Y : Int32} (hT : T ≤ T1) (hM : M ≤ M1) (hA : ∀ k, k < M → b46 k = a46 k) (g : rd_bj T M G a46 t v w X Y) : rd_bj T1 M1 G b46 t v w X Y := by
  rcases g with ⟨g1, g2, g3, g4, g5, g6, g7⟩ | ⟨g1, g2, g3, g4, g5, g6⟩ | ⟨g1, g2, g3, g4⟩ | ⟨g1, g2, g3, g4⟩
  · refine Or.inl ⟨g1, g2, g3, g4, by omega, fun k => ?_, g7⟩
    rw [hA _ (by omega)]
    exact g6 k
  · exact Or.inr (Or.inl ⟨g1, g2, by omega, g4, by omega, g6⟩)
  · exact Or.inr (Or.inr (Or.inl ⟨g1, g2, by omega, g4⟩))
  · exact Or.inr (Or.inr (Or.inr ⟨g1, g2, by omega, g4⟩))
/-- the two plans as they are read -/
def rd_PL (groups pots teams marks bars : Int32) (a256 a257 a258 a259 a260 : Nat → Int32) (gR pR tR mR bR : Int32) (a44 a45 a46 a47 : Nat → Int32) : Prop :=
  gR = groups ∧ pR = pots ∧ tR = teams ∧ mR = marks ∧ bR = bars ∧ 2 ≤ groups.toInt ∧ groups.toInt ≤ 4 ∧ ∃ T M B : Nat, teams.toInt = (T : Int) ∧ T ≤ 12 ∧ marks.toInt = (M : Int) ∧ M ≤ 6 ∧ bars.toInt = (B : Int) ∧ B ≤ 10 ∧ (∀ k, k < T → a256 k = a44 k) ∧ (∀ k, k < M → a258 k = a45 k) ∧ rd_mb T M a257 a46 ∧ (∀ b, b < B → rd_bj T M groups a46 (a47 (3 * b)) (a47 (3 * b + 1)) (a47 (3 * b + 2)) (a259 b) (a260 b))
def rd_lQ (n : Nat) (at0 : Int32) (r : Int32 × Int32 × Int32 × Int32 × Int32 × Int32 × Int32 × Int32 × Int32 × Int32 × Int32 × Int32 × Int32 × (Nat → Int32) × (Nat → Int32) × (Nat → Int32) × (Nat → Int32) × (Nat → Int32)) (s : Int32 × Int32 × Int32 × Int32 × Int32 × Int32 × Int32 × Int32 × Int32 × Int32 × Int32 × Int32 × (Nat → Int32) × (Nat → Int32) × (Nat → Int32) × (Nat → Int32)) : Prop :=
  rd_er r.1 r.2.1 r.2.2.1 s.1 s.2.1 s.2.2.1 ∨ (r.1 ≠ 0 ∧ s.1 ≠ 0 ∧ r.2.1 = 0 ∧ r.2.2.1 = -1 ∧ s.2.1 = 0 ∧ s.2.2.1 = -1 ∧ rd_S n r.2.2.2.1 r.2.2.2.2.1 r.2.2.2.2.2.1 r.2.2.2.2.2.2.1 s.2.2.2.1 s.2.2.2.2.1 s.2.2.2.2.2.1 s.2.2.2.2.2.2.1 ∧ at0.toInt < r.2.2.2.1.toInt ∧ rd_PL r.2.2.2.2.2.2.2.1 r.2.2.2.2.2.2.2.2.1 r.2.2.2.2.2.2.2.2.2.1 r.2.2.2.2.2.2.2.2.2.2.1 r.2.2.2.2.2.2.2.2.2.2.2.1 r.2.2.2.2.2.2.2.2.2.2.2.2.2.1 r.2.2.2.2.2.2.2.2.2.2.2.2.2.2.1 r.2.2.2.2.2.2.2.2.2.2.2.2.2.2.2.1 r.2.2.2.2.2.2.2.2.2.2.2.2.2.2.2.2.1 r.2.2.2.2.2.2.2.2.2.2.2.2.2.2.2.2.2 s.2.2.2.2.2.2.2.1 s.2.2.2.2.2.2.2.2.1 s.2.2.2.2.2.2.2.2.2.1 s.2.2.2.2.2.2.2.2.2.2.1 s.2.2.2.2.2.2.2.2.2.2.2.1 s.2.2.2.2.2.2.2.2.2.2.2.2.1 s.2.2.2.2.2.2.2.2.2.2.2.2.2.1 s.2.2.2.2.2.2.2.2.2.2.2.2.2.2.1 s.2.2.2.2.2.2.2.2.2.2.2.2.2.2.2)
/-- a new bar -/
theorem rd_PLb {G pots teams marks bars bars1 bars2 : Int32} {a256 a257 a258 a259 a260 r259 r260 a44 a45 a46 a47 s47 : Nat → Int32} {T M B : Nat} {t v w X Y : Int32} (hG2 : 2 ≤ G.toInt) (hG4 : G.toInt ≤ 4) (hT : teams.toInt = (T : Int)) (hT12 : T ≤ 12) (hM : marks.toInt = (M : Int)) (hM6 : M ≤ 6) (hB : bars.toInt = (B : Int)) (hB10 : B < 10) (hA : ∀ k, k < T → a256 k = a44 k) (hN : ∀ k, k < M → a258 k = a45 k) (hC : rd_mb T M a257 a46) (hD : ∀ b, b < B → rd_bj T M G a46 (a47 (3 * b)) (a47 (3 * b + 1)) (a47 (3 * b + 2)) (a259 b) (a260 b))
    (h : rd_bk T M G a257 t v w X Y) (e1 : r259 = upd a259 bars.toNatClampNeg X) (e2 : r260 = upd a260 bars.toNatClampNeg Y) (e3 : s47 = upd (upd (upd a47 (3 * bars).toNatClampNeg t) ((3 * bars) + 1).toNatClampNeg v) ((3 * bars) + 2).toNatClampNeg w) (e4 : bars1 = bars + 1) (e5 : bars2 = bars + 1) : rd_PL G pots teams marks bars1 a256 a257 a258 r259 r260 G pots teams marks bars2 a44 a45 a46 s47 := by
  have k3 : (3 : Int32).toInt = 3 := by decide
  have k1 : (1 : Int32).toInt = 1 := by decide
  have k2 : (2 : Int32).toInt = 2 := by decide
  have f1 := dz_mull (a := 3) (b := bars) 3 k3 (by omega) (by omega)
  have f2 := dz_add (a := 3 * bars) (b := 1) (by omega) (by omega)
  have f3 := dz_add (a := 3 * bars) (b := 2) (by omega) (by omega)
  have g1 : (3 * bars).toInt = ((3 * B : Nat) : Int) := by omega
  have g2 : ((3 * bars) + 1).toInt = ((3 * B + 1 : Nat) : Int) := by omega
  have g3 : ((3 * bars) + 2).toInt = ((3 * B + 2 : Nat) : Int) := by omega
  subst e1
  subst e2
  subst e3
  subst e4
  subst e5
  refine ⟨rfl, rfl, rfl, rfl, rfl, hG2, hG4, T, M, B + 1, hT, hT12, hM, hM6, rd_p1 hB (by omega), by omega, hA, hN, hC, fun b hb => ?_⟩
  rw [rd_up hB, rd_up hB, rd_up g3, rd_up g3, rd_up g3, rd_up g2, rd_up g2, rd_up g2, rd_up g1, rd_up g1, rd_up g1]
  by_cases c : b = B
  · subst c
    rw [if_neg (by omega), if_neg (by omega), if_pos rfl, if_neg (by omega), if_pos rfl, if_pos rfl, if_pos rfl, if_pos rfl]
    exact rd_bkj hC h
  · rw [if_neg (by omega), if_neg (by omega), if_neg (by omega), if_neg (by omega), if_neg (by omega), if_neg (by omega), if_neg (by omega), if_neg (by omega), if_neg (by omega), if_neg c, if_neg c]
    exact hD b (by omega)
/-- the line's end -/
theorem rd_stp2 (fu : Nat) {a w : Nat → Int32} {len fC pC at1 kC sC vC fR plR next kR wR pR groups pots teams marks bars gn gR potsR tR mR bR : Int32} {a256 a257 a258 a259 a260 a44 a45 a46 a47 : Nat → Int32} {n : Nat} {at0 : Int32} (hw : dz_pt w dz_wd) (hn : len.toInt = (n : Int)) (hn4 : n ≤ 400) (hf : fC = 0 ∧ pC = -1 ∧ fR = 0 ∧ plR = -1) (hS : rd_S n at1 kC sC vC next kR wR pR) (hat : kC ≠ 0 → at0.toInt < at1.toInt) (hP : rd_PL groups pots teams marks bars a256 a257 a258 a259 a260 gR potsR tR mR bR a44 a45 a46 a47) :
    rd_2 ((f121_X5_readStop fu a len fC pC at1 kC sC vC).bind (fun r_4 => if r_4.1 = 0 then (some (0, r_4.2.1, r_4.2.2.1, r_4.2.2.2.1, r_4.2.2.2.2.1, r_4.2.2.2.2.2.1, r_4.2.2.2.2.2.2, groups, pots, teams, marks, bars, gn, a256, a257, a258, a259, a260)) else (some (1, r_4.2.1, r_4.2.2.1, r_4.2.2.2.1, r_4.2.2.2.2.1, r_4.2.2.2.2.2.1, r_4.2.2.2.2.2.2, groups, pots, teams, marks, bars, gn, a256, a257, a258, a259, a260)))) (d16_X12_lineRead_3 fu len a w fR plR next kR wR pR gR potsR tR mR bR a44 a45 a46 a47) (rd_lQ n at0) := by
  obtain ⟨e1, e2, e3, e4⟩ := hf
  subst e1 e2 e3 e4
  have hk := (rd_R3 hS.2.2.1).1
  unfold f121_X5_readStop s121_X5_readStop_0 d16_X12_lineRead_3 s16_X12_lineRead_3
  refine rd_2bi (fun h3 => ?_) (fun h3 => ?_)
  · rw [if_pos (hk.mp h3)]
    have hat := hat (by rw [h3]; decide)
    refine rd_2as (rd_2b (rd_2st fu a w len at1 kC sC vC next kR wR pR n hw hn hn4 hS.2.2.2 hS.1) (fun u s hus => ?_))
    obtain ⟨u1, u2, u3⟩ := hus
    exact rd_2e (rd_2i (fun h => absurd h (by show ¬ (1 : Int32) = 0; decide)) (fun _ => rd_2s (Or.inr ⟨by show (1 : Int32) ≠ 0; decide, by show (1 : Int32) ≠ 0; decide, rfl, rfl, rfl, rfl, u1, by show at0.toInt < u.1.toInt; omega, hP⟩)))
  · rw [if_neg (fun h => h3 (hk.mpr h))]
    refine rd_2as (rd_2c (rd_fP fu sC 1 0 (-1)) (fun r e => ?_))
    subst e
    refine rd_2bi (fun _ => rd_2e (rd_2i (fun _ => rd_2d (rd_wP fu pR 1 0 (-1)) (fun s e2 => ?_)) (fun h => absurd rfl h))) (fun _ => rd_2nb)
    subst e2
    exact rd_2j (fun _ => rd_2s (Or.inl ⟨rfl, rfl, rfl, hS.2.1, by show (1 : Int32) ≠ 0; decide⟩)) (fun _ => rd_2m)
theorem rd_roP (fu : Nat) (sC bars fl pl : Int32) (B : Nat) (hB : bars.toInt = (B : Int)) : dz_P (f98_X5_isRoomForBar fu sC bars fl pl) (fun r => (B < 10 ∧ r = (1, fl, pl)) ∨ (10 ≤ B ∧ r = (0, 2, sC))) := by
  have k10 : (10 : Int32).toInt = 10 := by decide
  unfold f98_X5_isRoomForBar s98_X5_isRoomForBar_0
  refine dz_Pi (fun h => ?_) (fun h => ?_)
  · have h := Int32.lt_iff_toInt_lt.mp h
    unfold d98_X5_isRoomForBar_1 s98_X5_isRoomForBar_1
    exact dz_Ps (Or.inl ⟨by omega, rfl⟩)
  · have h := dz_fnlt h
    refine dz_Pb (rd_fP fu sC 2 fl pl) (fun r e => ?_)
    subst e
    exact dz_Pi (fun _ => dz_Ps (Or.inr ⟨by omega, rfl⟩)) (fun h => absurd rfl h)
theorem rd_bfl (fu : Nat) (a w : Nat → Int32) (len G teams marks t fl pl next kR wR pR bars : Int32) (a44 a45 a47 : Nat → Int32) (B : Nat) (hB : bars.toInt = (B : Int)) (h10 : 10 ≤ B) (hB10 : B ≤ 10) : dz_P (f15_X12_barLine fu len G teams marks a w a44 a45 t fl pl next kR wR pR bars a47) (fun s => s.1 = 0 ∧ s.2.1 = 2 ∧ s.2.2.1 = pR) := by
  have k10 : (10 : Int32).toInt = 10 := by decide
  have hb : bars = 10 := Int32.toInt_inj.mp (by omega)
  unfold f15_X12_barLine s15_X12_barLine_0
  rw [if_pos hb]
  refine dz_Pb (rd_wP fu pR 2 fl pl) (fun r e => ?_)
  subst e
  exact dz_Pi (fun _ => dz_Ps ⟨rfl, rfl, rfl⟩) (fun _ => dz_Pn)
theorem rd_line (fu : Nat) (a w : Nat → Int32) (len v1 at0 kC sC vC next kR wR pR groups pots teams marks bars gn gR potsR tR mR bR : Int32) (a256 a257 a258 a259 a260 a44 a45 a46 a47 : Nat → Int32) (n : Nat) (hw : dz_pt w dz_wd) (hn : len.toInt = (n : Int)) (hn4 : n ≤ 400) (hS : rd_S n at0 kC sC vC next kR wR pR) (h1 : 1 ≤ at0.toInt) (hfi : v1 ≠ 0 → bars.toInt = 0) (hP : rd_PL groups pots teams marks bars a256 a257 a258 a259 a260 gR potsR tR mR bR a44 a45 a46 a47) :
    rd_2 (f122_X5_readLine fu a len v1 0 (-1) at0 kC sC vC groups pots teams marks bars gn a256 a257 a258 a259 a260) (f16_X12_lineRead fu len a w v1 0 (-1) next kR wR pR gR potsR tR mR bR a44 a45 a46 a47) (rd_lQ n at0) := by
  have k2 : (2 : Int32).toInt = 2 := by decide
  have k4 : (4 : Int32).toInt = 4 := by decide
  have hc : (∃ j : Nat, j < 7 ∧ kC = 1 ∧ vC.toInt = rd_kv j ∧ kR = 1 ∧ wR.toInt = (j : Int)) ∨ (¬ kR = 1 ∧ (kC = 1 → ∀ j, j < 7 → vC.toInt ≠ rd_kv j)) := by
    rcases hS.2.2.1 with ⟨a1, a2⟩ | ⟨a1, ⟨j, b1, b2, b3, b4⟩ | ⟨b1, b2, b3⟩⟩ | ⟨a1, a2, -⟩ | ⟨a1, a2⟩ | ⟨a1, a2⟩
    · exact Or.inr ⟨by rw [a2]; decide, fun q => absurd (a1.symm.trans q) (by decide)⟩
    · exact Or.inl ⟨j, b1, a1, b2, b3, b4⟩
    · exact Or.inr ⟨by rw [b2]; decide, fun _ => b1⟩
    · exact Or.inr ⟨by rw [a2]; decide, fun q => absurd (a1.symm.trans q) (by decide)⟩
    · exact Or.inr ⟨by rw [a2]; decide, fun q => absurd (a1.symm.trans q) (by decide)⟩
    · exact Or.inr ⟨by rw [a2]; decide, fun q => absurd (a1.symm.trans q) (by decide)⟩
  obtain ⟨g1, g2, g3, g4, g5, hG2, hG4, T, M, B, hT, hT12, hM, hM6, hB, hB10, hA, hN, hC, hD⟩ := hP
  subst g1
  subst g2
  subst g3
  subst g4
  subst g5
  rcases hc with ⟨j, j7, c1, cv, c2, cw⟩ | ⟨c1, c2⟩
  · subst c1
    subst c2
    by_cases hv : v1 = 0
    · rcases (show j = 0 ∨ j = 1 ∨ j = 2 ∨ j = 3 ∨ j = 4 ∨ j = 5 ∨ j = 6 by omega) with e | e | e | e | e | e | e
      · subst e
        have ev : vC = 254268947 := Int32.toInt_inj.mp (by rw [cv]; decide)
        have ew : wR = 0 := Int32.toInt_inj.mp (by rw [cw]; decide)
        subst ev
        subst ew
        unfold f122_X5_readLine s122_X5_readLine_0 f120_X5_readUpToStop s120_X5_readUpToStop_0 f16_X12_lineRead s16_X12_lineRead_0
        refine rd_2bi (fun _ => rd_2bi (fun _ => ?_) (fun h => absurd hv h)) (fun h => absurd rfl h)
        refine rd_2j (fun _ => rd_2j (fun _ => ?_) (fun h => absurd hv h)) (fun h => absurd rfl h)
        unfold d120_X5_readUpToStop_2 s120_X5_readUpToStop_2 d16_X12_lineRead_2 s16_X12_lineRead_2
        refine rd_2bi (fun _ => ?_) (fun h => absurd hv h)
        refine rd_2bi (fun h => absurd h (by decide)) (fun _ => ?_)
        refine rd_2bi (fun h => absurd h (by decide)) (fun _ => ?_)
        refine rd_2bi (fun h => absurd h (by decide)) (fun _ => ?_)
        refine rd_2bi (fun _ => ?_) (fun h => absurd rfl h)
        refine rd_2j (fun _ => ?_) (fun h => absurd rfl h)
        refine rd_2j (fun _ => ?_) (fun h => absurd hv h)
        refine rd_2as (rd_2c (rd_fP fu sC 3 0 (-1)) (fun r e => rd_2d (rd_wP fu pR 3 0 (-1)) (fun s e2 => ?_)))
        subst e
        subst e2
        exact rd_2bi (fun _ => rd_2e (rd_2i (fun _ => rd_2j (fun _ => rd_2s (Or.inl ⟨rfl, rfl, rfl, hS.2.1, by show (3 : Int32) ≠ 0; decide⟩)) (fun _ => rd_2m)) (fun h => absurd rfl h))) (fun _ => rd_2nb)
      · subst e
        have ev : vC = 553254912 := Int32.toInt_inj.mp (by rw [cv]; decide)
        have ew : wR = 1 := Int32.toInt_inj.mp (by rw [cw]; decide)
        subst ev
        subst ew
        unfold f122_X5_readLine s122_X5_readLine_0 f120_X5_readUpToStop s120_X5_readUpToStop_0 f16_X12_lineRead s16_X12_lineRead_0
        refine rd_2bi (fun _ => rd_2bi (fun _ => ?_) (fun h => absurd hv h)) (fun h => absurd rfl h)
        refine rd_2j (fun _ => rd_2j (fun _ => ?_) (fun h => absurd hv h)) (fun h => absurd rfl h)
        unfold d120_X5_readUpToStop_2 s120_X5_readUpToStop_2 d16_X12_lineRead_2 s16_X12_lineRead_2
        refine rd_2bi (fun _ => ?_) (fun h => absurd hv h)
        refine rd_2bi (fun h => absurd h (by decide)) (fun _ => ?_)
        refine rd_2bi (fun h => absurd h (by decide)) (fun _ => ?_)
        refine rd_2bi (fun h => absurd h (by decide)) (fun _ => ?_)
        refine rd_2bi (fun h => absurd h (by decide)) (fun _ => ?_)
        refine rd_2bi (fun h => absurd h (by decide)) (fun _ => ?_)
        refine rd_2bi (fun h => absurd h (by decide)) (fun _ => ?_)
        refine rd_2bi (fun _ => ?_) (fun h => absurd rfl h)
        refine rd_2j (fun h => absurd h (by decide)) (fun _ => ?_)
        refine rd_2j (fun _ => ?_) (fun h => absurd rfl h)
        refine rd_2as (rd_2b (rd_pot fu a w len _ at0 1 sC _ next 1 _ pR _ _ a256 a257 a44 n T hw hn hn4 hS h1 hG2 hG4 hT hT12 hA) (fun r s h => rd_2bi (fun _ => rd_2e ?_) (fun _ => rd_2nb)))
        rcases h with ⟨e1, e2, e3, e4, e5⟩ | ⟨⟨o1, o2, o3, o4, o5, o6, o7, o8, o9⟩, p1, p2, p3, T1, t1, t2, t3, t4, t5⟩
        · exact rd_2i (fun _ => rd_2j (fun _ => rd_2s (Or.inl ⟨rfl, rfl, e3, e4, e5⟩)) (fun q => absurd e2 q)) (fun q => absurd e1 q)
        · have hC1 : rd_mb T1 M r.2.2.2.2.2.2.2.2.2.2 a46 := by
            refine ⟨fun t ht m => ?_, fun m hm t hb => Nat.lt_of_lt_of_le (hC.2 m hm t hb) t2⟩
            rw [t5 t ht]
            by_cases c : t < T
            · rw [if_pos c]
              exact hC.1 t c m
            · rw [if_neg c]
              exact ⟨fun q => absurd q (rd_bz.mp rfl m), fun q => absurd (hC.2 m q.1 t q.2) c⟩
          refine rd_2i (fun q => absurd q o1) (fun _ => rd_2j (fun q => absurd q o2) (fun _ => ?_))
          exact rd_stp2 fu hw hn hn4 ⟨o3, o4, o5, o6⟩ o7 o9 ⟨rfl, p2.trans p1.symm, p3, rfl, rfl, hG2, hG4, T1, M, B, t1, t3, hM, hM6, hB, hB10, t4, hN, hC1, fun b hb => rd_bjm t2 (Nat.le_refl _) (fun _ _ => rfl) (hD b hb)⟩
      · subst e
        have ev : vC = 437857280 := Int32.toInt_inj.mp (by rw [cv]; decide)
        have ew : wR = 2 := Int32.toInt_inj.mp (by rw [cw]; decide)
        subst ev
        subst ew
        unfold f122_X5_readLine s122_X5_readLine_0 f120_X5_readUpToStop s120_X5_readUpToStop_0 f16_X12_lineRead s16_X12_lineRead_0
        refine rd_2bi (fun _ => rd_2bi (fun _ => ?_) (fun h => absurd hv h)) (fun h => absurd rfl h)
        refine rd_2j (fun _ => rd_2j (fun _ => ?_) (fun h => absurd hv h)) (fun h => absurd rfl h)
        unfold d120_X5_readUpToStop_2 s120_X5_readUpToStop_2 d16_X12_lineRead_2 s16_X12_lineRead_2
        refine rd_2bi (fun _ => ?_) (fun h => absurd hv h)
        refine rd_2bi (fun h => absurd h (by decide)) (fun _ => ?_)
        refine rd_2bi (fun h => absurd h (by decide)) (fun _ => ?_)
        refine rd_2bi (fun h => absurd h (by decide)) (fun _ => ?_)
        refine rd_2bi (fun h => absurd h (by decide)) (fun _ => ?_)
        refine rd_2bi (fun _ => ?_) (fun h => absurd rfl h)
        refine rd_2j (fun h => absurd h (by decide)) (fun _ => ?_)
        refine rd_2j (fun h => absurd h (by decide)) (fun _ => ?_)
        refine rd_2j (fun _ => ?_) (fun h => absurd rfl h)
        refine rd_2as (rd_2b (rd_mrk fu a w len at0 1 sC _ next 1 _ pR _ _ a256 a257 a258 a44 a45 a46 n T M hw hn hn4 hS h1 hT hT12 hM hM6 hA hN hC) (fun r s h => rd_2bi (fun _ => rd_2e ?_) (fun _ => rd_2nb)))
        rcases h with ⟨e1, e2, e3, e4, e5⟩ | ⟨e1, e2, e3, e4, e5⟩ | ⟨⟨o1, o2, o3, o4, o5, o6, o7, o8, o9⟩, p3, M1, t1, t3, t2, t6, t4, t5⟩
        · exact rd_2i (fun _ => rd_2j (fun _ => rd_2s (Or.inl ⟨rfl, rfl, e3, e4, e5⟩)) (fun q => absurd e2 q)) (fun q => absurd e1 q)
        · refine rd_2i (fun _ => rd_2j (fun q => absurd q e4) (fun _ => ?_)) (fun q => absurd e1 q)
          unfold d16_X12_lineRead_3 s16_X12_lineRead_3
          rw [if_neg e5]
          refine rd_2d (rd_wP fu s.2.2.2.2.2.2.1 1 _ _) (fun v e => ?_)
          subst e
          exact rd_2j (fun _ => rd_2s (Or.inl ⟨rfl, rfl, e2.symm, e3.symm, by show r.2.1 ≠ 0; rw [e2]; decide⟩)) (fun _ => rd_2m)
        · refine rd_2i (fun q => absurd q o1) (fun _ => rd_2j (fun q => absurd q o2) (fun _ => ?_))
          exact rd_stp2 fu hw hn hn4 ⟨o3, o4, o5, o6⟩ o7 o9 ⟨rfl, rfl, rfl, p3, rfl, hG2, hG4, T, M1, B, hT, hT12, t1, t3, hB, hB10, hA, t4, t5, fun b hb => rd_bjm (Nat.le_refl _) t2 t6 (hD b hb)⟩
      · subst e
        have ev : vC = 54967924 := Int32.toInt_inj.mp (by rw [cv]; decide)
        have ew : wR = 3 := Int32.toInt_inj.mp (by rw [cw]; decide)
        subst ev
        subst ew
        unfold f122_X5_readLine s122_X5_readLine_0 f120_X5_readUpToStop s120_X5_readUpToStop_0 f16_X12_lineRead s16_X12_lineRead_0
        refine rd_2bi (fun _ => rd_2bi (fun _ => ?_) (fun h => absurd hv h)) (fun h => absurd rfl h)
        refine rd_2j (fun _ => rd_2j (fun _ => ?_) (fun h => absurd hv h)) (fun h => absurd rfl h)
        unfold d120_X5_readUpToStop_2 s120_X5_readUpToStop_2 d16_X12_lineRead_2 s16_X12_lineRead_2
        refine rd_2bi (fun _ => ?_) (fun h => absurd hv h)
        refine rd_2bi (fun h => absurd h (by decide)) (fun _ => ?_)
        refine rd_2bi (fun _ => ?_) (fun h => absurd rfl h)
        refine rd_2j (fun h => absurd h (by decide)) (fun _ => ?_)
        refine rd_2j (fun h => absurd h (by decide)) (fun _ => ?_)
        refine rd_2j (fun h => absurd h (by decide)) (fun _ => ?_)
        refine rd_2as (rd_2c (rd_roP fu sC _ 0 (-1) B hB) (fun r hr => ?_))
        rcases hr with ⟨b1, e⟩ | ⟨b1, e⟩
        · subst e
          refine rd_2bi (fun q => absurd q (by show ¬ (1 : Int32) = 0; decide)) (fun _ => rd_2as ?_)
          rw [show (3 : Int32) - 3 = 0 by decide]
          refine rd_2b (rd_amo fu a w len _ at0 1 sC _ next 1 _ pR _ _ _ a257 a258 a259 a260 a44 a45 a47 n T M B hw hn hn4 hS hT hT12 hM hM6 hB b1 hN) (fun r s h => ?_)
          rcases h with ⟨e1, e2, e3, e4, e5⟩ | ⟨⟨o1, o2, o3, o4, o5, o6, o7, o8, o9⟩, p1, p2, t, v, x, X, Y, hk, q1, q2, q3⟩
          · exact rd_2bi (fun _ => rd_2e (rd_2i (fun _ => rd_2j (fun _ => rd_2s (Or.inl ⟨rfl, rfl, e3, e4, e5⟩)) (fun q => absurd e2 q)) (fun q => absurd rfl q))) (fun q => absurd e1 q)
          · refine rd_2bi (fun q => absurd q o1) (fun _ => rd_2e (rd_2i (fun q => absurd q (by show ¬ (1 : Int32) = 0; decide)) (fun _ => rd_2j (fun q => absurd q o2) (fun _ => ?_))))
            exact rd_stp2 fu hw hn hn4 ⟨o3, o4, o5, o6⟩ o7 o9 (rd_PLb hG2 hG4 hT hT12 hM hM6 hB b1 hA hN hC hD hk q1 q2 q3 p1 p2)
        · subst e
          refine rd_2bi (fun _ => rd_2e (rd_2i (fun _ => ?_) (fun q => absurd rfl q))) (fun q => absurd rfl q)
          refine rd_2d (rd_bfl fu a w len _ _ _ _ 0 (-1) next 1 _ pR _ a44 a45 a47 B hB b1 hB10) (fun s hs => ?_)
          exact rd_2j (fun _ => rd_2s (Or.inl ⟨rfl, rfl, hs.2.1, hs.2.2.trans hS.2.1, by show (2 : Int32) ≠ 0; decide⟩)) (fun q => absurd hs.1 q)
      · subst e
        have ev : vC = 50383488 := Int32.toInt_inj.mp (by rw [cv]; decide)
        have ew : wR = 4 := Int32.toInt_inj.mp (by rw [cw]; decide)
        subst ev
        subst ew
        unfold f122_X5_readLine s122_X5_readLine_0 f120_X5_readUpToStop s120_X5_readUpToStop_0 f16_X12_lineRead s16_X12_lineRead_0
        refine rd_2bi (fun _ => rd_2bi (fun _ => ?_) (fun h => absurd hv h)) (fun h => absurd rfl h)
        refine rd_2j (fun _ => rd_2j (fun _ => ?_) (fun h => absurd hv h)) (fun h => absurd rfl h)
        unfold d120_X5_readUpToStop_2 s120_X5_readUpToStop_2 d16_X12_lineRead_2 s16_X12_lineRead_2
        refine rd_2bi (fun _ => ?_) (fun h => absurd hv h)
        refine rd_2bi (fun _ => ?_) (fun h => absurd rfl h)
        refine rd_2j (fun h => absurd h (by decide)) (fun _ => ?_)
        refine rd_2j (fun h => absurd h (by decide)) (fun _ => ?_)
        refine rd_2j (fun h => absurd h (by decide)) (fun _ => ?_)
        refine rd_2as (rd_2c (rd_roP fu sC _ 0 (-1) B hB) (fun r hr => ?_))
        rcases hr with ⟨b1, e⟩ | ⟨b1, e⟩
        · subst e
          refine rd_2bi (fun q => absurd q (by show ¬ (1 : Int32) = 0; decide)) (fun _ => rd_2as ?_)
          rw [show (4 : Int32) - 3 = 1 by decide]
          refine rd_2b (rd_apt fu a w len _ at0 1 sC _ next 1 _ pR _ _ _ a256 a257 a259 a260 a44 a45 a47 n T M B hw hn hn4 hS hT hT12 hB b1 hA) (fun r s h => ?_)
          rcases h with ⟨e1, e2, e3, e4, e5⟩ | ⟨⟨o1, o2, o3, o4, o5, o6, o7, o8, o9⟩, p1, p2, t, v, x, X, Y, hk, q1, q2, q3⟩
          · exact rd_2bi (fun _ => rd_2e (rd_2i (fun _ => rd_2j (fun _ => rd_2s (Or.inl ⟨rfl, rfl, e3, e4, e5⟩)) (fun q => absurd e2 q)) (fun q => absurd rfl q))) (fun q => absurd e1 q)
          · refine rd_2bi (fun q => absurd q o1) (fun _ => rd_2e (rd_2i (fun q => absurd q (by show ¬ (1 : Int32) = 0; decide)) (fun _ => rd_2j (fun q => absurd q o2) (fun _ => ?_))))
            exact rd_stp2 fu hw hn hn4 ⟨o3, o4, o5, o6⟩ o7 o9 (rd_PLb hG2 hG4 hT hT12 hM hM6 hB b1 hA hN hC hD hk q1 q2 q3 p1 p2)
        · subst e
          refine rd_2bi (fun _ => rd_2e (rd_2i (fun _ => ?_) (fun q => absurd rfl q))) (fun q => absurd rfl q)
          refine rd_2d (rd_bfl fu a w len _ _ _ _ 0 (-1) next 1 _ pR _ a44 a45 a47 B hB b1 hB10) (fun s hs => ?_)
          exact rd_2j (fun _ => rd_2s (Or.inl ⟨rfl, rfl, hs.2.1, hs.2.2.trans hS.2.1, by show (2 : Int32) ≠ 0; decide⟩)) (fun q => absurd hs.1 q)
      · subst e
        have ev : vC = 475731520 := Int32.toInt_inj.mp (by rw [cv]; decide)
        have ew : wR = 5 := Int32.toInt_inj.mp (by rw [cw]; decide)
        subst ev
        subst ew
        unfold f122_X5_readLine s122_X5_readLine_0 f120_X5_readUpToStop s120_X5_readUpToStop_0 f16_X12_lineRead s16_X12_lineRead_0
        refine rd_2bi (fun _ => rd_2bi (fun _ => ?_) (fun h => absurd hv h)) (fun h => absurd rfl h)
        refine rd_2j (fun _ => rd_2j (fun _ => ?_) (fun h => absurd hv h)) (fun h => absurd rfl h)
        unfold d120_X5_readUpToStop_2 s120_X5_readUpToStop_2 d16_X12_lineRead_2 s16_X12_lineRead_2
        refine rd_2bi (fun _ => ?_) (fun h => absurd hv h)
        refine rd_2bi (fun h => absurd h (by decide)) (fun _ => ?_)
        refine rd_2bi (fun h => absurd h (by decide)) (fun _ => ?_)
        refine rd_2bi (fun h => absurd h (by decide)) (fun _ => ?_)
        refine rd_2bi (fun h => absurd h (by decide)) (fun _ => ?_)
        refine rd_2bi (fun h => absurd h (by decide)) (fun _ => ?_)
        refine rd_2bi (fun _ => ?_) (fun h => absurd rfl h)
        refine rd_2j (fun h => absurd h (by decide)) (fun _ => ?_)
        refine rd_2j (fun h => absurd h (by decide)) (fun _ => ?_)
        refine rd_2j (fun h => absurd h (by decide)) (fun _ => ?_)
        refine rd_2as (rd_2c (rd_roP fu sC _ 0 (-1) B hB) (fun r hr => ?_))
        rcases hr with ⟨b1, e⟩ | ⟨b1, e⟩
        · subst e
          refine rd_2bi (fun q => absurd q (by show ¬ (1 : Int32) = 0; decide)) (fun _ => rd_2as ?_)
          rw [show (5 : Int32) - 3 = 2 by decide]
          refine rd_2b (rd_hld fu a w len _ 0 2 at0 1 sC _ next 1 _ pR _ _ _ gn a256 a257 a259 a260 a44 a45 a47 n T M B hw hn hn4 hS (by omega) hG4 hT hT12 hB b1 (Or.inl ⟨rfl, rfl⟩) hA) (fun r s h => ?_)
          rcases h with ⟨e1, e2, e3, e4, e5⟩ | ⟨⟨o1, o2, o3, o4, o5, o6, o7, o8, o9⟩, p1, p2, t, v, x, X, Y, hk, q1, q2, q3⟩
          · exact rd_2bi (fun _ => rd_2e (rd_2i (fun _ => rd_2j (fun _ => rd_2s (Or.inl ⟨rfl, rfl, e3, e4, e5⟩)) (fun q => absurd e2 q)) (fun q => absurd rfl q))) (fun q => absurd e1 q)
          · refine rd_2bi (fun q => absurd q o1) (fun _ => rd_2e (rd_2i (fun q => absurd q (by show ¬ (1 : Int32) = 0; decide)) (fun _ => rd_2j (fun q => absurd q o2) (fun _ => ?_))))
            exact rd_stp2 fu hw hn hn4 ⟨o3, o4, o5, o6⟩ o7 o9 (rd_PLb hG2 hG4 hT hT12 hM hM6 hB b1 hA hN hC hD hk q1 q2 q3 p1 p2)
        · subst e
          refine rd_2bi (fun _ => rd_2e (rd_2i (fun _ => ?_) (fun q => absurd rfl q))) (fun q => absurd rfl q)
          refine rd_2d (rd_bfl fu a w len _ _ _ _ 0 (-1) next 1 _ pR _ a44 a45 a47 B hB b1 hB10) (fun s hs => ?_)
          exact rd_2j (fun _ => rd_2s (Or.inl ⟨rfl, rfl, hs.2.1, hs.2.2.trans hS.2.1, by show (2 : Int32) ≠ 0; decide⟩)) (fun q => absurd hs.1 q)
      · subst e
        have ev : vC = 211555456 := Int32.toInt_inj.mp (by rw [cv]; decide)
        have ew : wR = 6 := Int32.toInt_inj.mp (by rw [cw]; decide)
        subst ev
        subst ew
        unfold f122_X5_readLine s122_X5_readLine_0 f120_X5_readUpToStop s120_X5_readUpToStop_0 f16_X12_lineRead s16_X12_lineRead_0
        refine rd_2bi (fun _ => rd_2bi (fun _ => ?_) (fun h => absurd hv h)) (fun h => absurd rfl h)
        refine rd_2j (fun _ => rd_2j (fun _ => ?_) (fun h => absurd hv h)) (fun h => absurd rfl h)
        unfold d120_X5_readUpToStop_2 s120_X5_readUpToStop_2 d16_X12_lineRead_2 s16_X12_lineRead_2
        refine rd_2bi (fun _ => ?_) (fun h => absurd hv h)
        refine rd_2bi (fun h => absurd h (by decide)) (fun _ => ?_)
        refine rd_2bi (fun h => absurd h (by decide)) (fun _ => ?_)
        refine rd_2bi (fun _ => ?_) (fun h => absurd rfl h)
        refine rd_2j (fun h => absurd h (by decide)) (fun _ => ?_)
        refine rd_2j (fun h => absurd h (by decide)) (fun _ => ?_)
        refine rd_2j (fun h => absurd h (by decide)) (fun _ => ?_)
        refine rd_2as (rd_2c (rd_roP fu sC _ 0 (-1) B hB) (fun r hr => ?_))
        rcases hr with ⟨b1, e⟩ | ⟨b1, e⟩
        · subst e
          refine rd_2bi (fun q => absurd q (by show ¬ (1 : Int32) = 0; decide)) (fun _ => rd_2as ?_)
          rw [show (6 : Int32) - 3 = 3 by decide]
          refine rd_2b (rd_hld fu a w len _ 1 3 at0 1 sC _ next 1 _ pR _ _ _ gn a256 a257 a259 a260 a44 a45 a47 n T M B hw hn hn4 hS (by omega) hG4 hT hT12 hB b1 (Or.inr ⟨rfl, rfl⟩) hA) (fun r s h => ?_)
          rcases h with ⟨e1, e2, e3, e4, e5⟩ | ⟨⟨o1, o2, o3, o4, o5, o6, o7, o8, o9⟩, p1, p2, t, v, x, X, Y, hk, q1, q2, q3⟩
          · exact rd_2bi (fun _ => rd_2e (rd_2i (fun _ => rd_2j (fun _ => rd_2s (Or.inl ⟨rfl, rfl, e3, e4, e5⟩)) (fun q => absurd e2 q)) (fun q => absurd rfl q))) (fun q => absurd e1 q)
          · refine rd_2bi (fun q => absurd q o1) (fun _ => rd_2e (rd_2i (fun q => absurd q (by show ¬ (1 : Int32) = 0; decide)) (fun _ => rd_2j (fun q => absurd q o2) (fun _ => ?_))))
            exact rd_stp2 fu hw hn hn4 ⟨o3, o4, o5, o6⟩ o7 o9 (rd_PLb hG2 hG4 hT hT12 hM hM6 hB b1 hA hN hC hD hk q1 q2 q3 p1 p2)
        · subst e
          refine rd_2bi (fun _ => rd_2e (rd_2i (fun _ => ?_) (fun q => absurd rfl q))) (fun q => absurd rfl q)
          refine rd_2d (rd_bfl fu a w len _ _ _ _ 0 (-1) next 1 _ pR _ a44 a45 a47 B hB b1 hB10) (fun s hs => ?_)
          exact rd_2j (fun _ => rd_2s (Or.inl ⟨rfl, rfl, hs.2.1, hs.2.2.trans hS.2.1, by show (2 : Int32) ≠ 0; decide⟩)) (fun q => absurd hs.1 q)
    · have hB0 : B = 0 := by have := hfi hv; omega
      by_cases ej : j = 0
      · subst ej
        have ev : vC = 254268947 := Int32.toInt_inj.mp (by rw [cv]; decide)
        have ew : wR = 0 := Int32.toInt_inj.mp (by rw [cw]; decide)
        subst ev
        subst ew
        unfold f122_X5_readLine s122_X5_readLine_0 f120_X5_readUpToStop s120_X5_readUpToStop_0 f16_X12_lineRead s16_X12_lineRead_0
        refine rd_2bi (fun _ => rd_2bi (fun h => absurd h hv) (fun _ => rd_2bi (fun _ => ?_) (fun h => absurd rfl h))) (fun h => absurd rfl h)
        refine rd_2j (fun _ => rd_2j (fun h => absurd h hv) (fun _ => rd_2j (fun _ => ?_) (fun h => absurd rfl h))) (fun h => absurd rfl h)
        unfold d120_X5_readUpToStop_2 s120_X5_readUpToStop_2 d16_X12_lineRead_2 s16_X12_lineRead_2 f119_X5_readGroups s119_X5_readGroups_0
        refine rd_2bi (fun h => absurd h hv) (fun _ => ?_)
        refine rd_2j (fun _ => rd_2j (fun h => absurd h hv) (fun _ => ?_)) (fun h => absurd rfl h)
        refine rd_2as (rd_2as (rd_2b (rd_2st fu a w len at0 1 sC _ next 1 _ pR n hw hn hn4 hS.2.2.2 hS.1) (fun u s hus => ?_)))
        obtain ⟨u1, u2, u3⟩ := hus
        rw [u1.2.1]
        refine rd_2as (rd_2b (rd_2nu fu 2 4 0 (-1) 0 (-1) u1.2.2.1 (by omega)) (fun r v hrv => ?_))
        rcases hrv with ⟨r1, r2, r3, r4, r5⟩ | ⟨r1, r2, r3, r4, r5, r6, r7, r8, r9⟩
        · exact rd_2bi (fun _ => rd_2e (rd_2bi (fun _ => rd_2e (rd_2i (fun _ => rd_2j (fun _ => rd_2s (Or.inl ⟨rfl, rfl, r3, r4, r5⟩)) (fun q => absurd r2 q)) (fun q => absurd rfl q))) (fun _ => rd_2nb))) (fun q => absurd r1 q)
        · refine rd_2bi (fun q => absurd q r1) (fun _ => rd_2j (fun q => absurd q r2) (fun _ => rd_2as ?_))
          refine rd_2b (rd_2st fu a w len u.1 u.2.1 u.2.2.1 u.2.2.2 s.1 s.2.1 s.2.2.1 u.2.2.1 n hw hn hn4 u1.2.2.2 u1.1) (fun u4 s4 h4 => ?_)
          obtain ⟨z1, z2, z3⟩ := h4
          refine rd_2e (rd_2bi (fun _ => rd_2e (rd_2i (fun q => absurd q (by show ¬ (1 : Int32) = 0; decide)) (fun _ => ?_))) (fun _ => rd_2nb))
          refine rd_stp2 fu hw hn hn4 ⟨r6, r7, r8, r9⟩ z1 (fun h => ?_) ⟨r3, rfl, rfl, rfl, rfl, ?_, ?_, T, M, B, hT, hT12, hM, hM6, hB, hB10, hA, hN, hC, fun b hb => by omega⟩
          · show at0.toInt < u4.1.toInt
            have := z3 h
            omega
          · show 2 ≤ u.2.2.2.toInt
            omega
          · show u.2.2.2.toInt ≤ 4
            omega
      · have nv : ¬ vC = 254268947 := fun h => by
          rw [h] at cv
          rcases (show j = 1 ∨ j = 2 ∨ j = 3 ∨ j = 4 ∨ j = 5 ∨ j = 6 by omega) with e | e | e | e | e | e <;> (rw [e] at cv; exact absurd cv (by decide))
        have nw : ¬ wR = 0 := fun h => by
          rw [h] at cw
          have k0 : (0 : Int32).toInt = 0 := by decide
          omega
        unfold f122_X5_readLine s122_X5_readLine_0 f120_X5_readUpToStop s120_X5_readUpToStop_0 f16_X12_lineRead s16_X12_lineRead_0
        refine rd_2bi (fun _ => rd_2bi (fun h => absurd h hv) (fun _ => rd_2bi (fun h => absurd h nv) (fun _ => ?_))) (fun h => absurd rfl h)
        refine rd_2j (fun _ => rd_2j (fun h => absurd h hv) (fun _ => rd_2j (fun h => absurd h nw) (fun _ => ?_))) (fun h => absurd rfl h)
        unfold d120_X5_readUpToStop_1 s120_X5_readUpToStop_1 d16_X12_lineRead_1 s16_X12_lineRead_1
        refine rd_2as (rd_2c (rd_fP fu sC 1 0 (-1)) (fun r e => rd_2d (rd_wP fu pR 1 0 (-1)) (fun s e2 => ?_)))
        subst e
        subst e2
        exact rd_2bi (fun _ => rd_2e (rd_2i (fun _ => rd_2j (fun _ => rd_2s (Or.inl ⟨rfl, rfl, rfl, hS.2.1, by show (1 : Int32) ≠ 0; decide⟩)) (fun _ => rd_2m)) (fun h => absurd rfl h))) (fun _ => rd_2nb)
  · have lb : dz_P (f122_X5_readLine fu a len v1 0 (-1) at0 kC sC vC gR potsR tR mR bR gn a256 a257 a258 a259 a260) (fun r => r.1 = 0 ∧ r.2.1 = 1 ∧ r.2.2.1 = sC) := by
        unfold f122_X5_readLine s122_X5_readLine_0 f120_X5_readUpToStop s120_X5_readUpToStop_0
        unfold d120_X5_readUpToStop_1 s120_X5_readUpToStop_1 d120_X5_readUpToStop_2 s120_X5_readUpToStop_2
        refine rd_Pbi (fun hk => ?_) (fun _ => (rd_Pas (dz_Pb (rd_fP fu sC 1 0 (-1)) (fun r e => by subst e; exact rd_Pbi (fun _ => dz_Psb (dz_Pi (fun _ => dz_Ps ⟨rfl, rfl, rfl⟩) (fun h => absurd rfl h))) (fun _ => rd_Pnb)))))
        have hv := c2 hk
        have n4 : ¬ vC = 50383488 := fun h => absurd (show vC.toInt = rd_kv 4 by rw [h]; decide) (hv 4 (by decide))
        have n3 : ¬ vC = 54967924 := fun h => absurd (show vC.toInt = rd_kv 3 by rw [h]; decide) (hv 3 (by decide))
        have n6 : ¬ vC = 211555456 := fun h => absurd (show vC.toInt = rd_kv 6 by rw [h]; decide) (hv 6 (by decide))
        have n0 : ¬ vC = 254268947 := fun h => absurd (show vC.toInt = rd_kv 0 by rw [h]; decide) (hv 0 (by decide))
        have n2 : ¬ vC = 437857280 := fun h => absurd (show vC.toInt = rd_kv 2 by rw [h]; decide) (hv 2 (by decide))
        have n5 : ¬ vC = 475731520 := fun h => absurd (show vC.toInt = rd_kv 5 by rw [h]; decide) (hv 5 (by decide))
        have n1 : ¬ vC = 553254912 := fun h => absurd (show vC.toInt = rd_kv 1 by rw [h]; decide) (hv 1 (by decide))
        exact rd_Pbi (fun h0 => rd_Pbi (fun _ => (rd_Pbi (fun h => absurd h n4) (fun _ => (rd_Pbi (fun h => absurd h n3) (fun _ => (rd_Pbi (fun h => absurd h n6) (fun _ => (rd_Pbi (fun h => absurd h n0) (fun _ => (rd_Pbi (fun h => absurd h n2) (fun _ => (rd_Pbi (fun h => absurd h n5) (fun _ => (rd_Pbi (fun h => absurd h n1) (fun _ => (rd_Pas (dz_Pb (rd_fP fu sC 1 0 (-1)) (fun r e => by subst e; exact rd_Pbi (fun _ => dz_Psb (dz_Pi (fun _ => dz_Ps ⟨rfl, rfl, rfl⟩) (fun h => absurd rfl h))) (fun _ => rd_Pnb))))))))))))))))))) (fun h => absurd h0 h)) (fun _ => rd_Pbi (fun h => absurd h n0) (fun _ => (rd_Pas (dz_Pb (rd_fP fu sC 1 0 (-1)) (fun r e => by subst e; exact rd_Pbi (fun _ => dz_Psb (dz_Pi (fun _ => dz_Ps ⟨rfl, rfl, rfl⟩) (fun h => absurd rfl h))) (fun _ => rd_Pnb))))))
    refine rd_2p lb (fun r hr => ?_)
    unfold f16_X12_lineRead s16_X12_lineRead_0 d16_X12_lineRead_1 s16_X12_lineRead_1
    rw [if_neg c1]
    refine dz_Pb (rd_wP fu pR 1 0 (-1)) (fun v ev => ?_)
    subst ev
    exact dz_Pi (fun _ => dz_Ps (Or.inl ⟨hr.1, rfl, hr.2.1.symm, hS.2.1.trans hr.2.2.symm, by rw [hr.2.1]; decide⟩)) (fun _ => dz_Pn)
