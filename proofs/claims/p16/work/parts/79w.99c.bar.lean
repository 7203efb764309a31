/-! the bar lines of both readers -/
theorem rd_fin0 : ∀ c : Fin 31, ((Int32.ofNat c.val).toBitVec.toNat &&& 31) % 32 = c.val := by decide
theorem rd_ushb {a m : Int32} {p : Nat} (h : m.toInt = (p : Int)) (hp : p ≤ 30) : dz_bit (dz_ush a m) 0 ↔ dz_bit a p := by
  have e := dz_eqn (b := m) (c := p) h (by omega)
  have f := rd_fin0 ⟨p, by omega⟩
  simp only at f
  unfold dz_bit
  show (dz_ush a m).toBitVec.toNat.testBit 0 = true ↔ a.toBitVec.toNat.testBit p = true
  rw [dz_ushn, Nat.testBit_shiftRight, e, f, Nat.add_zero]
theorem rd_ushc {a m s : Int32} {p q : Nat} (h : m.toInt = (p : Int)) (hp : p ≤ 30) (hs : s.toInt = (q : Int)) (hq : q ≤ 30) (k : Nat) : dz_bit (((dz_ush a m) &&& 1) <<< (s &&& 31)) k ↔ (k = q ∧ dz_bit a p) := by
  have k0 : (0 : Int32).toInt = 0 := by decide
  have o : (1 : Int32).toInt = 1 := by decide
  have b := rd_ushb (a := a) h hp
  have h2 := dz_andr (a := dz_ush a m) (b := 1) (by decide)
  by_cases c : dz_bit a p
  · have n0 := dz_bit_ne (dz_bit_and.mpr ⟨b.mpr c, dz_bit_one.mpr rfl⟩)
    have e : (dz_ush a m) &&& 1 = 1 := Int32.toInt_inj.mp (by omega)
    rw [e, dz_bit_shl (by omega) (by omega)]
    constructor
    · intro g
      exact ⟨by omega, c⟩
    · intro g
      have := g.1
      omega
  · have e : (dz_ush a m) &&& 1 = 0 := rd_bz.mpr (fun r hr => by
      obtain ⟨r1, r2⟩ := dz_bit_and.mp hr
      have r2 := dz_bit_one.mp r2
      subst r2
      exact c (b.mp r1))
    rw [e]
    have z := dz_shlc (a := 0) (b := s) q (by omega) hs hq (by rw [k0]; omega)
    have z : (0 : Int32) <<< (s &&& 31) = 0 := Int32.toInt_inj.mp (by rw [z, k0]; omega)
    rw [z]
    constructor
    · intro g
      exact absurd g (rd_bz.mp rfl k)
    · intro g
      exact absurd g.2 c
theorem rd_tmP (fu : Nat) (teams : Int32) (a : Nat → Int32) (m : Int32) (T p : Nat) (hT : teams.toInt = (T : Int)) (hT12 : T ≤ 12) (hm : m.toInt = (p : Int)) (hp : p ≤ 30) : dz_P (f110_X3_teamsMarked fu teams a m) (fun r => ∀ k, dz_bit r k ↔ (k < T ∧ dz_bit (a k) p)) := by
  have k0 : (0 : Int32).toInt = 0 := by decide
  have key : ∀ (f q : Nat) (v x : Int32), x.toInt = (q : Int) → q ≤ T → (∀ k, dz_bit v k ↔ (k < q ∧ dz_bit (a k) p)) → dz_P (F110_X3_teamsMarked fu teams a f m v x) (fun r => ∀ k, dz_bit r k ↔ (k < T ∧ dz_bit (a k) p)) := by
    intro f
    induction f with
    | zero => intro _ _ _ _ _ _; exact dz_Pn
    | succ f ih =>
      intro q v x hx hq hv
      show dz_P (s110_X3_teamsMarked_1 fu teams a (F110_X3_teamsMarked fu teams a f) m v x) _
      unfold s110_X3_teamsMarked_1
      simp only [rd_tc hx]
      refine dz_Pi (fun h => dz_Ps (fun k => ?_)) (fun h => dz_Pi (fun _ => ?_) (fun _ => dz_Pn))
      · have h := rd_le h
        rw [hv k, show q = T by omega]
      · have h := dz_fnle h
        refine ih (q + 1) _ _ (rd_p1 hx (by omega)) (by omega) (fun k => ?_)
        rw [dz_bit_or, hv k, rd_ushc hm hp hx (by omega) k]
        constructor
        · intro g
          rcases g with g | g
          · exact ⟨by have := g.1; omega, g.2⟩
          · rw [g.1]
            exact ⟨by omega, g.2⟩
        · intro g
          by_cases c : k = q
          · rw [c] at g
            exact Or.inr ⟨c, g.2⟩
          · exact Or.inl ⟨by have := g.1; omega, g.2⟩
  unfold f110_X3_teamsMarked s110_X3_teamsMarked_0
  exact key fu 0 0 0 k0 (Nat.zero_le _) (fun k => ⟨fun g => absurd g (rd_bz.mp rfl k), fun g => absurd g.1 (Nat.not_lt_zero k)⟩)
theorem rd_adB (fu : Nat) (v1 v2 bars : Int32) (a b : Nat → Int32) (n : Nat) (hn : bars.toInt = (n : Int)) (h10 : n < 10) : dz_P (f104_X3_addBar fu v1 v2 bars a b) (fun r => r = (bars + 1, upd a bars.toNatClampNeg v1, upd b bars.toNatClampNeg v2)) := by
  have k10 : (10 : Int32).toInt = 10 := by decide
  unfold f104_X3_addBar s104_X3_addBar_0
  exact dz_Pi (fun h => by have := rd_le h; omega) (fun _ => dz_Pi (fun _ => dz_Pi (fun _ => dz_Ps rfl) (fun _ => dz_Pn)) (fun _ => dz_Pn))
theorem rd_adA (fu : Nat) (v1 v2 bars : Int32) (a b : Nat → Int32) (n : Nat) (hn : bars.toInt = (n : Int)) (h10 : n < 10) : dz_P (f105_X3_addAtMost fu v1 v2 bars a b) (fun r => r = (bars + 1, upd a bars.toNatClampNeg v2, upd b bars.toNatClampNeg (v1 * 4369))) := by
  unfold f105_X3_addAtMost s105_X3_addAtMost_0
  refine dz_Pb (rd_adB fu v2 (v1 * 4369) bars a b n hn h10) (fun r e => ?_)
  subst e
  exact dz_Ps rfl
theorem rd_adN (fu : Nat) (v1 v2 bars gn : Int32) (a b : Nat → Int32) (n : Nat) (hn : bars.toInt = (n : Int)) (h10 : n < 10) : dz_P (f112_X3_addNever fu v1 v2 bars gn a b) (fun r => r.1 = bars + 1 ∧ r.2.2.1 = upd a bars.toNatClampNeg ((1 : Int32) <<< (v1 &&& 31)) ∧ r.2.2.2 = upd b bars.toNatClampNeg ((30583 : Int32) &&& (((15 : Int32) <<< (((4 : Int32) * v2) &&& 31)) ^^^ (-1)))) := by
  unfold f112_X3_addNever s112_X3_addNever_0
  refine dz_Pb (rd_adB fu _ _ bars a b n hn h10) (fun r e => ?_)
  subst e
  exact dz_Ps ⟨rfl, rfl, rfl⟩
theorem rd_adF (fu : Nat) (v1 v2 bars gn : Int32) (a b : Nat → Int32) (n : Nat) (hn : bars.toInt = (n : Int)) (h10 : n < 10) : dz_P (f113_X3_addFixed fu v1 v2 bars gn a b) (fun r => r.1 = bars + 1 ∧ r.2.2.1 = upd a bars.toNatClampNeg ((1 : Int32) <<< (v1 &&& 31)) ∧ r.2.2.2 = upd b bars.toNatClampNeg ((7 : Int32) <<< (((4 : Int32) * v2) &&& 31))) := by
  unfold f113_X3_addFixed s113_X3_addFixed_0
  refine dz_Pb (rd_adB fu _ _ bars a b n hn h10) (fun r e => ?_)
  subst e
  exact dz_Ps ⟨rfl, rfl, rfl⟩
/-- one bar in both plans -/
def rd_bk (T M : Nat) (G : Int32) (a257 : Nat → Int32) (t v w X Y : Int32) : Prop :=
  (t = 0 ∧ 1 ≤ v.toInt ∧ v.toInt ≤ 3 ∧ 0 ≤ w.toInt ∧ w.toInt < (M : Int) ∧ (∀ k, dz_bit X k ↔ (k < T ∧ dz_bit (a257 k) w.toInt.toNat)) ∧ Y = v * 4369) ∨
  (t = 1 ∧ 0 ≤ v.toInt ∧ v.toInt < (T : Int) ∧ 0 ≤ w.toInt ∧ w.toInt < (T : Int) ∧ ¬ w = v ∧ X = ((1 : Int32) <<< (v &&& 31)) ||| ((1 : Int32) <<< (w &&& 31)) ∧ Y = 1 * 4369) ∨
  (t = 2 ∧ 0 ≤ v.toInt ∧ v.toInt < (T : Int) ∧ 0 ≤ w.toInt ∧ w.toInt < G.toInt ∧ X = (1 : Int32) <<< (v &&& 31) ∧ Y = (30583 : Int32) &&& (((15 : Int32) <<< (((4 : Int32) * w) &&& 31)) ^^^ (-1))) ∨
  (t = 3 ∧ 0 ≤ v.toInt ∧ v.toInt < (T : Int) ∧ 0 ≤ w.toInt ∧ w.toInt < G.toInt ∧ X = (1 : Int32) <<< (v &&& 31) ∧ Y = (7 : Int32) <<< (((4 : Int32) * w) &&& 31))
def rd_bC (n : Nat) (at0 : Int32) (T M : Nat) (G bars : Int32) (a257 a259 a260 a47 : Nat → Int32) (b1 f1 p1 at1 k1 s1 v1 bars1 : Int32) (r259 r260 : Nat → Int32) (b2 f2 p2 at2 k2 w2 l2 bars2 : Int32) (s47 : Nat → Int32) : Prop :=
  rd_er b1 f1 p1 b2 f2 p2 ∨ (rd_ok n at0 b1 f1 p1 at1 k1 s1 v1 b2 f2 p2 at2 k2 w2 l2 ∧ bars1 = bars + 1 ∧ bars2 = bars + 1 ∧ ∃ t v w X Y : Int32, rd_bk T M G a257 t v w X Y ∧ r259 = upd a259 bars.toNatClampNeg X ∧ r260 = upd a260 bars.toNatClampNeg Y ∧ s47 = upd (upd (upd a47 (3 * bars).toNatClampNeg t) ((3 * bars) + 1).toNatClampNeg v) ((3 * bars) + 2).toNatClampNeg w)
theorem rd_team {R S : Type} (fu : Nat) {kC sC vC teams kR wR fl pl : Int32} {a256 a44 : Nat → Int32} {T : Nat} {F : Int32 × Int32 × Int32 → Option R} {A : Int32 → Option S} {B C : Option S} {Q : R → S → Prop} (hT : teams.toInt = (T : Int)) (hT12 : T ≤ 12) (hA : ∀ k, k < T → a256 k = a44 k) (hR : rd_R kC vC kR wR) (h1 : rd_2 (F (-1, 1, sC)) C Q) (h4 : rd_2 (F (-1, 4, sC)) B Q) (hok : ∀ x : Int32, x ≠ -1 → 0 ≤ x.toInt → x.toInt < (T : Int) → rd_2 (F (x, fl, pl)) (A x) Q) :
    rd_2 ((f103_X5_readTeam fu kC sC vC teams a256 fl pl).bind F) (if kR = 2 then ((f11_X12_teamOf fu teams a44 wR).bind (fun z => if 0 ≤ z then A z else B)) else C) Q := by
  have k0 : (0 : Int32).toInt = 0 := by decide
  refine rd_2c (rd_rtP fu kC sC vC teams a256 fl pl T hT hT12) (fun r hr => ?_)
  rcases hr with ⟨r1, r2⟩ | ⟨r1, r2, r3⟩
  · have hk2 : ¬ kR = 2 := (rd_Rn hR).elim (fun q => absurd q.1 r2) (fun q => q.2)
    rw [if_neg hk2, r1]
    exact h1
  · have hk : kR = 2 ∧ wR = vC := (rd_Rn hR).elim (fun q => q.2) (fun q => absurd r1 q.1)
    rw [if_pos hk.1]
    refine rd_2d (rd_tmO fu a44 teams wR T hT hT12) (fun z hz => ?_)
    rw [hk.2] at hz
    have e := rd_fnd1 r2 hz hA
    obtain ⟨x, y, z1⟩ := r
    simp only at e r2 r3
    subst e
    rcases r3 with ⟨y1, y2, y3⟩ | ⟨y1, y2, y3⟩
    · have y0 : x.toInt = -1 := by rw [y1]; decide
      rw [if_neg (fun h : 0 ≤ x => by have := rd_le h; omega), y1, y2, y3]
      exact h4
    · have y4 : 0 ≤ x.toInt ∧ x.toInt < (T : Int) := (rd_fno r2).elim (fun q => absurd q.1 y1) (fun q => ⟨q.1, q.2.1⟩)
      rw [if_pos (Int32.le_iff_toInt_le.mpr (by omega) : (0 : Int32) ≤ x), y2, y3]
      exact hok x y1 y4.1 y4.2
theorem rd_in3 {bars : Int32} {B : Nat} (hB : bars.toInt = (B : Int)) (hB10 : B < 10) : dz_in (3 * bars) 30 ∧ dz_in ((3 * bars) + 1) 30 ∧ dz_in ((3 * bars) + 2) 30 := by
  have k3 : (3 : Int32).toInt = 3 := by decide
  have k1 : (1 : Int32).toInt = 1 := by decide
  have k2 : (2 : Int32).toInt = 2 := by decide
  have e1 := dz_mull (a := 3) (b := bars) 3 k3 (by omega) (by omega)
  have e2 := dz_add (a := 3 * bars) (b := 1) (by omega) (by omega)
  have e3 := dz_add (a := 3 * bars) (b := 2) (by omega) (by omega)
  exact ⟨dz_inp (by omega) (by omega), dz_inp (by omega) (by omega), dz_inp (by omega) (by omega)⟩
/-- teams apart -/
theorem rd_apt (fu : Nat) (a w : Nat → Int32) (len G at0 kC sC vC next kR wR pR teams marks bars : Int32) (a256 a257 a259 a260 a44 a45 a47 : Nat → Int32) (n T M B : Nat) (hw : dz_pt w dz_wd) (hn : len.toInt = (n : Int)) (hn4 : n ≤ 400) (hS : rd_S n at0 kC sC vC next kR wR pR) (hT : teams.toInt = (T : Int)) (hT12 : T ≤ 12) (hB : bars.toInt = (B : Int)) (hB10 : B < 10) (hA : ∀ k, k < T → a256 k = a44 k) :
    rd_2 (f106_X5_readApart fu a len teams a256 0 (-1) at0 kC sC vC bars a259 a260) (f15_X12_barLine fu len G teams marks a w a44 a45 1 0 (-1) next kR wR pR bars a47) (fun r s => rd_bC n at0 T M G bars a257 a259 a260 a47 r.1 r.2.1 r.2.2.1 r.2.2.2.1 r.2.2.2.2.1 r.2.2.2.2.2.1 r.2.2.2.2.2.2.1 r.2.2.2.2.2.2.2.1 r.2.2.2.2.2.2.2.2.1 r.2.2.2.2.2.2.2.2.2 s.1 s.2.1 s.2.2.1 s.2.2.2.1 s.2.2.2.2.1 s.2.2.2.2.2.1 s.2.2.2.2.2.2.1 s.2.2.2.2.2.2.2.1 s.2.2.2.2.2.2.2.2) := by
  have k10 : (10 : Int32).toInt = 10 := by decide
  have hb : ¬ bars = 10 := fun q => by rw [q] at hB; omega
  obtain ⟨n1, n2, n3⟩ := rd_in3 hB hB10
  unfold f106_X5_readApart s106_X5_readApart_0 f15_X12_barLine s15_X12_barLine_0
  rw [if_neg hb]
  refine rd_2b (rd_2st fu a w len at0 kC sC vC next kR wR pR n hw hn hn4 hS.2.2.2 hS.1) (fun u s hus => ?_)
  obtain ⟨u1, u2, u3⟩ := hus
  refine rd_2j (fun h => absurd h (by decide)) (fun _ => ?_)
  refine rd_team fu hT hT12 hA u1.2.2.1 ?_ ?_ (fun x x1 x2 x3 => ?_)
  · refine rd_2i (fun _ => rd_2d (rd_wP fu s.2.2.2 1 0 (-1)) (fun v e => ?_)) (fun h => absurd rfl h)
    subst e
    exact rd_2j (fun _ => rd_2s (Or.inl ⟨rfl, rfl, rfl, u1.2.1, by show (1 : Int32) ≠ 0; decide⟩)) (fun _ => rd_2m)
  · refine rd_2i (fun _ => rd_2d (rd_wP fu s.2.2.2 4 0 (-1)) (fun v e => ?_)) (fun h => absurd rfl h)
    subst e
    exact rd_2j (fun _ => rd_2s (Or.inl ⟨rfl, rfl, rfl, u1.2.1, by show (4 : Int32) ≠ 0; decide⟩)) (fun _ => rd_2m)
  · refine rd_2i (fun h => absurd h x1) (fun _ => ?_)
    refine rd_2b (rd_2st fu a w len u.1 u.2.1 u.2.2.1 u.2.2.2 s.1 s.2.1 s.2.2.1 s.2.2.2 n hw hn hn4 u1.2.2.2 u1.1) (fun u' s' hus' => ?_)
    obtain ⟨w1, w2, w3⟩ := hus'
    refine rd_2j (fun _ => ?_) (fun h => absurd rfl h)
    refine rd_team fu hT hT12 hA w1.2.2.1 ?_ ?_ (fun y y1 y2 y3 => ?_)
    · refine rd_2i (fun _ => rd_2d (rd_wP fu s'.2.2.2 1 0 (-1)) (fun v e => ?_)) (fun h => absurd rfl h)
      subst e
      exact rd_2j (fun _ => rd_2s (Or.inl ⟨rfl, rfl, rfl, w1.2.1, by show (1 : Int32) ≠ 0; decide⟩)) (fun _ => rd_2m)
    · refine rd_2i (fun _ => rd_2d (rd_wP fu s'.2.2.2 4 0 (-1)) (fun v e => ?_)) (fun h => absurd rfl h)
      subst e
      exact rd_2j (fun _ => rd_2s (Or.inl ⟨rfl, rfl, rfl, w1.2.1, by show (4 : Int32) ≠ 0; decide⟩)) (fun _ => rd_2m)
    · refine rd_2i (fun h => absurd h y1) (fun _ => ?_)
      refine rd_2i (fun e => rd_2j (fun _ => ?_) (fun h => absurd e h)) (fun e => rd_2j (fun h => absurd h e) (fun _ => ?_))
      · refine rd_2c (rd_fP fu u'.2.2.1 3 _ _) (fun r e => rd_2d (rd_wP fu s'.2.2.2 3 0 (-1)) (fun v e2 => ?_))
        subst e
        subst e2
        exact rd_2i (fun _ => rd_2j (fun _ => rd_2s (Or.inl ⟨rfl, rfl, rfl, w1.2.1, by show (3 : Int32) ≠ 0; decide⟩)) (fun _ => rd_2m)) (fun _ => rd_2n)
      · refine rd_2c (rd_adA fu 1 _ bars a259 a260 B hB hB10) (fun r8 e8 => ?_)
        subst e8
        unfold d15_X12_barLine_1 s15_X12_barLine_1
        refine rd_2b (rd_2st fu a w len u'.1 u'.2.1 u'.2.2.1 u'.2.2.2 s'.1 s'.2.1 s'.2.2.1 s'.2.2.2 n hw hn hn4 w1.2.2.2 w1.1) (fun u4 s4 h4 => ?_)
        obtain ⟨z1, z2, z3⟩ := h4
        rw [if_pos n1, if_pos n2, if_pos n3]
        exact rd_2s (Or.inr ⟨⟨by show (1 : Int32) ≠ 0; decide, by show (1 : Int32) ≠ 0; decide, rfl, rfl, rfl, rfl, z1, by show at0.toInt ≤ u4.1.toInt; omega, fun h => by show at0.toInt < u4.1.toInt; have := z3 h; omega⟩, rfl, rfl, 1, x, y, _, _, Or.inr (Or.inl ⟨rfl, x2, x3, y2, y3, e, rfl, rfl⟩), rfl, rfl, rfl⟩)
/-- at most so many -/
theorem rd_amo (fu : Nat) (a w : Nat → Int32) (len G at0 kC sC vC next kR wR pR teams marks bars : Int32) (a257 a258 a259 a260 a44 a45 a47 : Nat → Int32) (n T M B : Nat) (hw : dz_pt w dz_wd) (hn : len.toInt = (n : Int)) (hn4 : n ≤ 400) (hS : rd_S n at0 kC sC vC next kR wR pR) (hT : teams.toInt = (T : Int)) (hT12 : T ≤ 12) (hM : marks.toInt = (M : Int)) (hM6 : M ≤ 6) (hB : bars.toInt = (B : Int)) (hB10 : B < 10) (hA : ∀ k, k < M → a258 k = a45 k) :
    rd_2 (f111_X5_readAtMost fu a len teams marks a257 a258 0 (-1) at0 kC sC vC bars a259 a260) (f15_X12_barLine fu len G teams marks a w a44 a45 0 0 (-1) next kR wR pR bars a47) (fun r s => rd_bC n at0 T M G bars a257 a259 a260 a47 r.1 r.2.1 r.2.2.1 r.2.2.2.1 r.2.2.2.2.1 r.2.2.2.2.2.1 r.2.2.2.2.2.2.1 r.2.2.2.2.2.2.2.1 r.2.2.2.2.2.2.2.2.1 r.2.2.2.2.2.2.2.2.2 s.1 s.2.1 s.2.2.1 s.2.2.2.1 s.2.2.2.2.1 s.2.2.2.2.2.1 s.2.2.2.2.2.2.1 s.2.2.2.2.2.2.2.1 s.2.2.2.2.2.2.2.2) := by
  have k10 : (10 : Int32).toInt = 10 := by decide
  have k1 : (1 : Int32).toInt = 1 := by decide
  have k3 : (3 : Int32).toInt = 3 := by decide
  have k0 : (0 : Int32).toInt = 0 := by decide
  have hb : ¬ bars = 10 := fun q => by rw [q] at hB; omega
  obtain ⟨n1, n2, n3⟩ := rd_in3 hB hB10
  unfold f111_X5_readAtMost s111_X5_readAtMost_0 f15_X12_barLine s15_X12_barLine_0
  rw [if_neg hb]
  refine rd_2b (rd_2st fu a w len at0 kC sC vC next kR wR pR n hw hn hn4 hS.2.2.2 hS.1) (fun u s hus => ?_)
  obtain ⟨u1, u2, u3⟩ := hus
  refine rd_2j (fun _ => ?_) (fun h => absurd rfl h)
  rw [u1.2.1]
  refine rd_2b (rd_2nu fu 1 3 0 (-1) 0 (-1) u1.2.2.1 (by omega)) (fun r v hrv => ?_)
  rcases hrv with ⟨r1, r2, r3, r4, r5⟩ | ⟨r1, r2, r3, r4, r5, r6, r7, r8, r9⟩
  · rw [if_pos r1, if_pos r2]
    exact rd_2s (Or.inl ⟨rfl, rfl, r3, r4, r5⟩)
  · rw [if_neg r1, if_neg r2]
    refine rd_2b (rd_2st fu a w len u.1 u.2.1 u.2.2.1 u.2.2.2 s.1 s.2.1 s.2.2.1 u.2.2.1 n hw hn hn4 u1.2.2.2 u1.1) (fun u' s' hus' => ?_)
    obtain ⟨w1, w2, w3⟩ := hus'
    refine rd_2c (rd_nameP fu u'.2.1 u'.2.2.1 u'.2.2.2 r.2.1 r.2.2) (fun p hp => ?_)
    rcases hp with ⟨p1, p2, p3, p4⟩ | ⟨p1, p2, p3, p4⟩
    · have hk : s'.2.1 = 2 ∧ s'.2.2.1 = u'.2.2.2 := (rd_Rn w1.2.2.1).elim (fun q => q.2) (fun q => absurd p2 q.1)
      rw [if_neg p1, if_pos hk.1]
      refine rd_2c (rd_mkP fu marks a258 u'.2.2.2 M hM hM6) (fun y hy => rd_2d (rd_mkO fu a45 marks s'.2.2.1 M hM hM6) (fun z hz => ?_))
      rw [hk.2] at hz
      have e := rd_fnd1 hy hz hA
      subst e
      rcases rd_fno hy with ⟨y1, y2, -⟩ | ⟨y1, y2, y3⟩
      · rw [if_pos y1, if_neg (fun h : 0 ≤ y => by have := rd_le h; omega)]
        refine rd_2c (rd_fP fu u'.2.2.1 4 _ _) (fun r e => rd_2d (rd_wP fu s'.2.2.2 4 _ _) (fun v e2 => ?_))
        subst e
        subst e2
        exact rd_2i (fun _ => rd_2j (fun _ => rd_2s (Or.inl ⟨rfl, rfl, rfl, w1.2.1, by show (4 : Int32) ≠ 0; decide⟩)) (fun _ => rd_2m)) (fun _ => rd_2n)
      · obtain ⟨m, hm⟩ : ∃ m : Nat, y.toInt = (m : Int) := ⟨y.toInt.toNat, by omega⟩
        have hmn : y.toInt.toNat = m := by omega
        rw [if_neg y3, if_pos (Int32.le_iff_toInt_le.mpr (by omega) : (0 : Int32) ≤ y)]
        refine rd_2c (rd_tmP fu teams a257 y T m hT hT12 hm (by omega)) (fun X hX => rd_2c (rd_adA fu u.2.2.2 X bars a259 a260 B hB hB10) (fun e8 h8 => ?_))
        subst h8
        unfold d15_X12_barLine_1 s15_X12_barLine_1
        refine rd_2b (rd_2st fu a w len u'.1 u'.2.1 u'.2.2.1 u'.2.2.2 s'.1 s'.2.1 s'.2.2.1 s'.2.2.2 n hw hn hn4 w1.2.2.2 w1.1) (fun u4 s4 h4 => ?_)
        obtain ⟨z1, z2, z3⟩ := h4
        rw [if_pos n1, if_pos n2, if_pos n3]
        refine rd_2s (Or.inr ⟨⟨by show (1 : Int32) ≠ 0; decide, by show (1 : Int32) ≠ 0; decide, p3.trans r6, p4.trans r7, r8, r9, z1, by show at0.toInt ≤ u4.1.toInt; omega, fun h => by show at0.toInt < u4.1.toInt; have := z3 h; omega⟩, rfl, rfl, 0, s.2.2.1, y, _, _, Or.inl ⟨rfl, by rw [r3]; omega, by rw [r3]; omega, y1, y2, by rw [hmn]; exact hX, ?_⟩, rfl, rfl, rfl⟩)
        rw [r3]
    · have hk2 : ¬ s'.2.1 = 2 := (rd_Rn w1.2.2.1).elim (fun q => absurd q.1 p2) (fun q => q.2)
      rw [if_pos p1, if_neg hk2]
      refine rd_2d (rd_wP fu s'.2.2.2 1 _ _) (fun v e2 => ?_)
      subst e2
      exact rd_2j (fun _ => rd_2s (Or.inl ⟨rfl, rfl, p3.symm, w1.2.1.trans p4.symm, by show p.2.1 ≠ 0; rw [p3]; decide⟩)) (fun _ => rd_2m)
/-- a team and a group -/
theorem rd_hld (fu : Nat) (a w : Nat → Int32) (len G tC tR at0 kC sC vC next kR wR pR teams marks bars gn : Int32) (a256 a257 a259 a260 a44 a45 a47 : Nat → Int32) (n T M B : Nat) (hw : dz_pt w dz_wd) (hn : len.toInt = (n : Int)) (hn4 : n ≤ 400) (hS : rd_S n at0 kC sC vC next kR wR pR) (hG2 : 0 ≤ G.toInt) (hG4 : G.toInt ≤ 4) (hT : teams.toInt = (T : Int)) (hT12 : T ≤ 12) (hB : bars.toInt = (B : Int)) (hB10 : B < 10) (ht : (tC = 0 ∧ tR = 2) ∨ (tC = 1 ∧ tR = 3)) (hA : ∀ k, k < T → a256 k = a44 k) :
    rd_2 (f114_X5_readHeld fu a len G teams a256 tC 0 (-1) at0 kC sC vC bars gn a259 a260) (f15_X12_barLine fu len G teams marks a w a44 a45 tR 0 (-1) next kR wR pR bars a47) (fun r s => rd_bC n at0 T M G bars a257 a259 a260 a47 r.1 r.2.1 r.2.2.1 r.2.2.2.1 r.2.2.2.2.1 r.2.2.2.2.2.1 r.2.2.2.2.2.2.1 r.2.2.2.2.2.2.2.1 r.2.2.2.2.2.2.2.2.2.1 r.2.2.2.2.2.2.2.2.2.2 s.1 s.2.1 s.2.2.1 s.2.2.2.1 s.2.2.2.2.1 s.2.2.2.2.2.1 s.2.2.2.2.2.2.1 s.2.2.2.2.2.2.2.1 s.2.2.2.2.2.2.2.2) := by
  have k10 : (10 : Int32).toInt = 10 := by decide
  have k1 : (1 : Int32).toInt = 1 := by decide
  have k0 : (0 : Int32).toInt = 0 := by decide
  have eG := dz_sub (a := G) (b := 1) (by omega) (by omega)
  have hb : ¬ bars = 10 := fun q => by rw [q] at hB; omega
  have ht0 : ¬ tR = 0 := by rcases ht with ⟨-, h⟩ | ⟨-, h⟩ <;> rw [h] <;> decide
  have ht1 : ¬ tR = 1 := by rcases ht with ⟨-, h⟩ | ⟨-, h⟩ <;> rw [h] <;> decide
  obtain ⟨n1, n2, n3⟩ := rd_in3 hB hB10
  unfold f114_X5_readHeld s114_X5_readHeld_0 f15_X12_barLine s15_X12_barLine_0
  rw [if_neg hb]
  refine rd_2b (rd_2st fu a w len at0 kC sC vC next kR wR pR n hw hn hn4 hS.2.2.2 hS.1) (fun u s hus => ?_)
  obtain ⟨u1, u2, u3⟩ := hus
  rw [if_neg ht0]
  refine rd_team fu hT hT12 hA u1.2.2.1 ?_ ?_ (fun x x1 x2 x3 => ?_)
  · refine rd_2i (fun _ => rd_2d (rd_wP fu s.2.2.2 1 0 (-1)) (fun v e => ?_)) (fun h => absurd rfl h)
    subst e
    exact rd_2j (fun _ => rd_2s (Or.inl ⟨rfl, rfl, rfl, u1.2.1, by show (1 : Int32) ≠ 0; decide⟩)) (fun _ => rd_2m)
  · refine rd_2i (fun _ => rd_2d (rd_wP fu s.2.2.2 4 0 (-1)) (fun v e => ?_)) (fun h => absurd rfl h)
    subst e
    exact rd_2j (fun _ => rd_2s (Or.inl ⟨rfl, rfl, rfl, u1.2.1, by show (4 : Int32) ≠ 0; decide⟩)) (fun _ => rd_2m)
  · refine rd_2i (fun h => absurd h x1) (fun _ => ?_)
    refine rd_2b (rd_2st fu a w len u.1 u.2.1 u.2.2.1 u.2.2.2 s.1 s.2.1 s.2.2.1 s.2.2.2 n hw hn hn4 u1.2.2.2 u1.1) (fun u' s' hus' => ?_)
    obtain ⟨w1, w2, w3⟩ := hus'
    rw [if_neg ht1, w1.2.1]
    refine rd_2b (rd_2nu fu 0 (G - 1) 0 (-1) 0 (-1) w1.2.2.1 (by omega)) (fun r v hrv => ?_)
    rcases hrv with ⟨r1, r2, r3, r4, r5⟩ | ⟨r1, r2, r3, r4, r5, r6, r7, r8, r9⟩
    · rw [if_pos r1, if_pos r2]
      exact rd_2s (Or.inl ⟨rfl, rfl, r3, r4, r5⟩)
    · rw [if_neg r1, if_neg r2]
      rcases ht with ⟨t1, t2⟩ | ⟨t1, t2⟩
      · rw [if_pos t1]
        refine rd_2c (rd_adN fu x u'.2.2.2 bars gn a259 a260 B hB hB10) (fun m8 h8 => ?_)
        obtain ⟨q1, q2, q3⟩ := h8
        unfold d114_X5_readHeld_1 s114_X5_readHeld_1 d15_X12_barLine_1 s15_X12_barLine_1
        refine rd_2b (rd_2st fu a w len u'.1 u'.2.1 u'.2.2.1 u'.2.2.2 s'.1 s'.2.1 s'.2.2.1 u'.2.2.1 n hw hn hn4 w1.2.2.2 w1.1) (fun u4 s4 h4 => ?_)
        obtain ⟨z1, z2, z3⟩ := h4
        rw [if_pos n1, if_pos n2, if_pos n3]
        refine rd_2s (Or.inr ⟨⟨by show (1 : Int32) ≠ 0; decide, by show (1 : Int32) ≠ 0; decide, r6, r7, r8, r9, z1, by show at0.toInt ≤ u4.1.toInt; omega, fun h => by show at0.toInt < u4.1.toInt; have := z3 h; omega⟩, q1, rfl, tR, x, s'.2.2.1, _, _, Or.inr (Or.inr (Or.inl ⟨t2, x2, x3, by rw [r3]; omega, by rw [r3]; omega, rfl, rfl⟩)), q2, ?_, rfl⟩)
        rw [r3]
        exact q3
      · rw [if_neg (by rw [t1]; decide)]
        refine rd_2c (rd_adF fu x u'.2.2.2 bars gn a259 a260 B hB hB10) (fun m8 h8 => ?_)
        obtain ⟨q1, q2, q3⟩ := h8
        unfold d114_X5_readHeld_1 s114_X5_readHeld_1 d15_X12_barLine_1 s15_X12_barLine_1
        refine rd_2b (rd_2st fu a w len u'.1 u'.2.1 u'.2.2.1 u'.2.2.2 s'.1 s'.2.1 s'.2.2.1 u'.2.2.1 n hw hn hn4 w1.2.2.2 w1.1) (fun u4 s4 h4 => ?_)
        obtain ⟨z1, z2, z3⟩ := h4
        rw [if_pos n1, if_pos n2, if_pos n3]
        refine rd_2s (Or.inr ⟨⟨by show (1 : Int32) ≠ 0; decide, by show (1 : Int32) ≠ 0; decide, r6, r7, r8, r9, z1, by show at0.toInt ≤ u4.1.toInt; omega, fun h => by show at0.toInt < u4.1.toInt; have := z3 h; omega⟩, q1, rfl, tR, x, s'.2.2.1, _, _, Or.inr (Or.inr (Or.inr ⟨t2, x2, x3, by rw [r3]; omega, by rw [r3]; omega, rfl, rfl⟩)), q2, ?_, rfl⟩)
        rw [r3]
        exact q3
