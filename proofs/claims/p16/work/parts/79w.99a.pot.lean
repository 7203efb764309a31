/-! the pot line of both readers -/
theorem rd_2p {R S : Type} {o : Option R} {o2 : Option S} {P : R → Prop} {Q : R → S → Prop} (h : dz_P o P) (k : ∀ x, P x → dz_P o2 (fun y => Q x y)) : rd_2 o o2 Q := fun r s e f => k r (h r e) s f
theorem rd_up {a : Nat → Int32} {x v : Int32} {p : Nat} (h : x.toInt = (p : Int)) (k : Nat) : upd a x.toNatClampNeg v k = if k = p then v else a k := by
  have t := dz_tn x
  show (if k = x.toNatClampNeg then v else a k) = _
  rw [show x.toNatClampNeg = p by omega]
def rd_er (b1 f1 p1 b2 f2 p2 : Int32) : Prop := b1 = 0 ∧ b2 = 0 ∧ f2 = f1 ∧ p2 = p1 ∧ f1 ≠ 0
def rd_ok (n : Nat) (at0 b1 f1 p1 at1 k1 s1 v1 b2 f2 p2 at2 k2 w2 l2 : Int32) : Prop := b1 ≠ 0 ∧ b2 ≠ 0 ∧ f1 = 0 ∧ p1 = -1 ∧ f2 = 0 ∧ p2 = -1 ∧ rd_S n at1 k1 s1 v1 at2 k2 w2 l2 ∧ at0.toInt ≤ at1.toInt ∧ (k1 ≠ 0 → at0.toInt < at1.toInt)
def rd_pQ (n : Nat) (at0 pots : Int32) (T : Nat) (a257 : Nat → Int32) (r : Int32 × Int32 × Int32 × Int32 × Int32 × Int32 × Int32 × Int32 × Int32 × (Nat → Int32) × (Nat → Int32)) (s : Int32 × Int32 × Int32 × Int32 × Int32 × Int32 × Int32 × Int32 × Int32 × (Nat → Int32)) : Prop :=
  rd_er r.1 r.2.1 r.2.2.1 s.1 s.2.1 s.2.2.1 ∨ (rd_ok n at0 r.1 r.2.1 r.2.2.1 r.2.2.2.1 r.2.2.2.2.1 r.2.2.2.2.2.1 r.2.2.2.2.2.2.1 s.1 s.2.1 s.2.2.1 s.2.2.2.1 s.2.2.2.2.1 s.2.2.2.2.2.1 s.2.2.2.2.2.2.1 ∧ r.2.2.2.2.2.2.2.1 = pots + 1 ∧ s.2.2.2.2.2.2.2.1 = pots + 1 ∧ s.2.2.2.2.2.2.2.2.1 = r.2.2.2.2.2.2.2.2.1 ∧ ∃ T1 : Nat, r.2.2.2.2.2.2.2.2.1.toInt = (T1 : Int) ∧ T ≤ T1 ∧ T1 ≤ 12 ∧ (∀ k, k < T1 → r.2.2.2.2.2.2.2.2.2.1 k = s.2.2.2.2.2.2.2.2.2 k) ∧ (∀ k, k < T1 → r.2.2.2.2.2.2.2.2.2.2 k = if k < T then a257 k else 0))
def rd_pI (n : Nat) (G at0 : Int32) (T : Nat) (a257 : Nat → Int32) (c T1 : Nat) (x at1 kC sC vC next kR wR pR teams : Int32) (b256 b257 b44 : Nat → Int32) : Prop :=
  x.toInt = (c : Int) ∧ (c : Int) ≤ G.toInt ∧ T + c = T1 ∧ teams.toInt = (T1 : Int) ∧ rd_S n at1 kC sC vC next kR wR pR ∧ at0.toInt + c ≤ at1.toInt ∧ (kC ≠ 0 → at0.toInt + c + 1 ≤ at1.toInt) ∧ (c = 0 → kR = 2) ∧ (∀ k, k < T1 → b256 k = b44 k) ∧ (∀ k, k < T1 → b257 k = if k < T then a257 k else 0)
theorem rd_tnP (fu : Nat) (teams : Int32) (a : Nat → Int32) (v : Int32) (n : Nat) (hn : teams.toInt = (n : Int)) (h12 : n ≤ 12) : dz_P (f102_X3_teamNamed fu teams a v) (fun r => rd_fnd a n v r) := by
  unfold f102_X3_teamNamed s102_X3_teamNamed_0
  exact dz_Pb (rd_findT fu a teams v n hn h12) (fun x hx => dz_Ps hx)
theorem rd_adT (fu : Nat) (v teams : Int32) (a b : Nat → Int32) (n : Nat) (hn : teams.toInt = (n : Int)) (h12 : n < 12) : dz_P (f117_X3_addTeam fu v teams a b) (fun r => r = (teams + 1, upd a teams.toNatClampNeg v, upd b teams.toNatClampNeg 0)) := by
  have k12 : (12 : Int32).toInt = 12 := by decide
  unfold f117_X3_addTeam s117_X3_addTeam_0
  exact dz_Pi (fun h => by have := rd_le h; omega) (fun _ => dz_Pi (fun _ => dz_Pi (fun _ => dz_Ps rfl) (fun _ => dz_Pn)) (fun _ => dz_Pn))
theorem rd_pot (fu : Nat) (a w : Nat → Int32) (len G at0 kC sC vC next kR wR pR pots teams : Int32) (a256 a257 a44 : Nat → Int32) (n T : Nat) (hw : dz_pt w dz_wd) (hn : len.toInt = (n : Int)) (hn4 : n ≤ 400) (hS : rd_S n at0 kC sC vC next kR wR pR) (h3 : 1 ≤ at0.toInt) (hG0 : 2 ≤ G.toInt) (hG4 : G.toInt ≤ 4) (hT : teams.toInt = (T : Int)) (hT12 : T ≤ 12) (hA : ∀ k, k < T → a256 k = a44 k) :
    rd_2 (f118_X5_readPot fu a len G 0 (-1) at0 kC sC vC pots teams a256 a257) (f13_X12_potRead fu len G a w 0 (-1) next kR wR pR pots teams a44) (rd_pQ n at0 pots T a257) := by
  have k0 : (0 : Int32).toInt = 0 := by decide
  have k12 : (12 : Int32).toInt = 12 := by decide
  have l1 : ∀ f g : Nat, rd_2 ((F118_X5_readPot fu a len G f).1 0 (-1) at0 kC sC vC pots teams a256 a257) ((F13_X12_potRead fu len G a w g).1 0 (-1) next kR wR pR pots teams a44) (rd_pQ n at0 pots T a257) := by
    intro f g
    cases f with
    | zero => exact rd_2n
    | succ f =>
      cases g with
      | zero => exact rd_2m
      | succ g =>
        show rd_2 (s118_X5_readPot_1 fu a len G 0 (-1) at0 kC sC vC pots teams a256 a257) (s13_X12_potRead_1 fu len G a w 0 (-1) next kR wR pR pots teams a44) _
        unfold s118_X5_readPot_1 s13_X12_potRead_1
        refine rd_2c (rd_fP fu sC 2 0 (-1)) (fun r e => rd_2d (rd_wP fu pR 2 0 (-1)) (fun s e2 => ?_))
        subst e
        subst e2
        exact rd_2i (fun _ => rd_2j (fun _ => rd_2s (Or.inl ⟨rfl, rfl, rfl, hS.2.1, by show (2 : Int32) ≠ 0; decide⟩)) (fun _ => rd_2m)) (fun _ => rd_2n)
  have l3 : ∀ (f g c T1 : Nat) (x at1 kC sC vC next kR wR pR teams : Int32) (b256 b257 b44 : Nat → Int32), (T : Int) + G.toInt ≤ 12 → rd_pI n G at0 T a257 c T1 x at1 kC sC vC next kR wR pR teams b256 b257 b44 → kC = 3 → c ≠ 0 → rd_2 ((F118_X5_readPot fu a len G f).2.2.1 x 0 (-1) at1 kC sC vC pots teams b256 b257) ((F13_X12_potRead fu len G a w g).2.1 x 0 (-1) next kR wR pR pots teams b44) (rd_pQ n at0 pots T a257) := by
    intro f g c T1 x at1 kC sC vC next kR wR pR teams b256 b257 b44 hs hI hk hc
    obtain ⟨i1, i2, i3, i4, i5, i6, i7, i8, i9, i10⟩ := hI
    have hk4 : kR = 4 := (rd_R3 i5.2.2.1).1.mp hk
    have hk2 : ¬ kR = 2 := by rw [hk4]; decide
    cases f with
    | zero => exact rd_2n
    | succ f =>
      cases g with
      | zero => exact rd_2m
      | succ g =>
        show rd_2 (s118_X5_readPot_3 fu a len G x 0 (-1) at1 kC sC vC pots teams b256 b257) (s13_X12_potRead_2 fu len G a w (F13_X12_potRead fu len G a w g).2.1 (F13_X12_potRead fu len G a w g).2.2 x 0 (-1) next kR wR pR pots teams b44) _
        unfold s118_X5_readPot_3 s13_X12_potRead_2
        rw [if_neg hk2, if_pos hk4]
        refine rd_2i (fun h => ?_) (fun h => ?_)
        · have h := rd_le h
          have hx : x = G := Int32.toInt_inj.mp (by omega)
          rw [if_pos hx]
          have i7 := i7 (by rw [hk]; decide)
          cases g with
          | zero => exact rd_2m
          | succ g =>
            show rd_2 _ (some (1, 0, -1, next, kR, wR, pR, pots + 1, teams, b44)) _
            exact rd_2s (Or.inr ⟨⟨by show (1 : Int32) ≠ 0; decide, by show (1 : Int32) ≠ 0; decide, rfl, rfl, rfl, rfl, i5, by show at0.toInt ≤ at1.toInt; omega, fun _ => by show at0.toInt < at1.toInt; omega⟩, rfl, rfl, rfl, T1, i4, by omega, by omega, i9, i10⟩)
        · have h := dz_fnle h
          have hx : ¬ x = G := fun q => by rw [q] at h; omega
          rw [if_neg hx]
          refine rd_2c (rd_fP fu sC 5 0 (-1)) (fun r e => rd_2d (rd_wP fu pR 5 0 (-1)) (fun s e2 => ?_))
          subst e
          subst e2
          exact rd_2i (fun _ => rd_2j (fun _ => rd_2s (Or.inl ⟨rfl, rfl, rfl, i5.2.1, by show (5 : Int32) ≠ 0; decide⟩)) (fun h => absurd rfl h)) (fun _ => rd_2n)
  have key : (T : Int) + G.toInt ≤ 12 → ∀ f : Nat, (∀ (g c T1 : Nat) (x at1 kC sC vC next kR wR pR teams : Int32) (b256 b257 b44 : Nat → Int32), rd_pI n G at0 T a257 c T1 x at1 kC sC vC next kR wR pR teams b256 b257 b44 → rd_2 ((F118_X5_readPot fu a len G f).2.1 x x 0 (-1) at1 kC sC vC pots teams b256 b257) ((F13_X12_potRead fu len G a w g).2.1 x 0 (-1) next kR wR pR pots teams b44) (rd_pQ n at0 pots T a257)) ∧
      (∀ (g c T1 : Nat) (x at1 kC sC vC next kR wR pR teams : Int32) (b256 b257 b44 : Nat → Int32), rd_pI n G at0 T a257 c T1 x at1 kC sC vC next kR wR pR teams b256 b257 b44 → (c ≠ 0 → kC ≠ 3) → rd_2 ((F118_X5_readPot fu a len G f).2.2.2 x x 0 (-1) at1 kC sC vC pots teams b256 b257) ((F13_X12_potRead fu len G a w g).2.1 x 0 (-1) next kR wR pR pots teams b44) (rd_pQ n at0 pots T a257)) := by
    intro hs f
    induction f with
    | zero => exact ⟨fun _ _ _ _ _ _ _ _ _ _ _ _ _ _ _ _ _ => rd_2n, fun _ _ _ _ _ _ _ _ _ _ _ _ _ _ _ _ _ _ => rd_2n⟩
    | succ f ih =>
      obtain ⟨j2, j4⟩ := ih
      refine ⟨?_, ?_⟩
      · intro g c T1 x at1 kC sC vC next kR wR pR teams b256 b257 b44 hI
        obtain ⟨i1, i2, i3, i4, i5, i6, i7, i8, i9, i10⟩ := id hI
        obtain ⟨q, q1, q2⟩ := i5.2.2.2
        show rd_2 (s118_X5_readPot_2 fu a len G (F118_X5_readPot fu a len G f).2.2.1 (F118_X5_readPot fu a len G f).2.2.2 x x 0 (-1) at1 kC sC vC pots teams b256 b257) _ _
        unfold s118_X5_readPot_2
        refine rd_2i (fun h => ?_) (fun h => rd_2i (fun h0 => j4 g c T1 x at1 kC sC vC next kR wR pR teams b256 b257 b44 hI (fun hc => ?_)) (fun h0 => rd_2i (fun h3 => l3 f g c T1 x at1 kC sC vC next kR wR pR teams b256 b257 b44 hs hI h3 ?_) (fun h3 => j4 g c T1 x at1 kC sC vC next kR wR pR teams b256 b257 b44 hI (fun _ => h3))))
        · have h := rd_le h
          exfalso
          omega
        · rw [h0] at i1
          exfalso
          omega
        · have := dz_fne h0
          omega
      · intro g c T1 x at1 kC sC vC next kR wR pR teams b256 b257 b44 hI hk3
        obtain ⟨i1, i2, i3, i4, i5, i6, i7, i8, i9, i10⟩ := id hI
        obtain ⟨q, q1, q2⟩ := i5.2.2.2
        cases g with
        | zero => exact rd_2m
        | succ g =>
          show rd_2 (s118_X5_readPot_4 fu a len G (F118_X5_readPot fu a len G f).2.1 x x 0 (-1) at1 kC sC vC pots teams b256 b257) (s13_X12_potRead_2 fu len G a w (F13_X12_potRead fu len G a w g).2.1 (F13_X12_potRead fu len G a w g).2.2 x 0 (-1) next kR wR pR pots teams b44) _
          unfold s118_X5_readPot_4 s13_X12_potRead_2
          refine rd_2c (rd_nameP fu kC sC vC 0 (-1)) (fun r hr => ?_)
          rcases hr with ⟨r1, r2, r3, r4⟩ | ⟨r1, r2, r3, r4⟩
          · have hk : kR = 2 ∧ wR = vC := (rd_Rn i5.2.2.1).elim (fun q => q.2) (fun q => absurd r2 q.1)
            have hkC : kC ≠ 0 := by rw [r2.1]; decide
            have i7 := i7 hkC
            rw [if_neg r1, if_pos hk.1]
            by_cases hx : x = G
            · rw [if_pos hx, if_pos hx]
              refine rd_2c (rd_fP fu sC 2 r.2.1 r.2.2) (fun r e => rd_2d (rd_wP fu pR 2 0 (-1)) (fun s e2 => ?_))
              subst e
              subst e2
              exact rd_2i (fun _ => rd_2j (fun _ => rd_2s (Or.inl ⟨rfl, rfl, rfl, i5.2.1, by show (2 : Int32) ≠ 0; decide⟩)) (fun _ => rd_2m)) (fun _ => rd_2n)
            · rw [if_neg hx, if_neg hx]
              have hx := dz_fne hx
              have hT1 : T1 < 12 := by omega
              refine rd_2c (rd_tnP fu teams b256 vC T1 i4 (by omega)) (fun y hy => rd_2d (rd_tmO fu b44 teams wR T1 i4 (by omega)) (fun z hz => ?_))
              rw [hk.2] at hz
              have e := rd_fnd1 hy hz i9
              subst e
              rcases rd_fno hy with ⟨y1, y2, -⟩ | ⟨y1, y2, y3⟩
              · have hin : dz_in teams 12 := dz_inp (by omega) (by omega)
                rw [if_pos y1, if_pos (Int32.lt_iff_toInt_lt.mpr (by omega) : y < 0), if_pos hin]
                refine rd_2c (rd_adT fu vC teams b256 b257 T1 i4 hT1) (fun r8 e8 => ?_)
                subst e8
                refine rd_2b (rd_2st fu a w len at1 kC sC vC next kR wR pR n hw hn hn4 ⟨q, q1, q2⟩ i5.1) (fun u s hus => ?_)
                obtain ⟨u1, u2, u3⟩ := hus
                rw [r3, r4, hk.2]
                refine j2 g (c + 1) (T1 + 1) (x + 1) u.1 u.2.1 u.2.2.1 u.2.2.2 s.1 s.2.1 s.2.2.1 s.2.2.2 (teams + 1) _ _ _ ⟨rd_p1 i1 (by omega), by omega, by omega, rd_p1 i4 (by omega), u1, by omega, fun h => by have := u3 h; omega, fun h => by omega, fun k hk => ?_, fun k hk => ?_⟩
                · show upd b256 teams.toNatClampNeg vC k = upd b44 teams.toNatClampNeg vC k
                  rw [rd_up i4, rd_up i4]
                  by_cases c1 : k = T1
                  · rw [if_pos c1, if_pos c1]
                  · rw [if_neg c1, if_neg c1]
                    exact i9 k (by omega)
                · show upd b257 teams.toNatClampNeg 0 k = _
                  rw [rd_up i4]
                  by_cases c1 : k = T1
                  · rw [if_pos c1, if_neg (by omega)]
                  · rw [if_neg c1]
                    exact i10 k (by omega)
              · rw [if_neg y3, if_neg (fun h : y < 0 => by have := Int32.lt_iff_toInt_lt.mp h; omega)]
                refine rd_2c (rd_fP fu sC 3 r.2.1 r.2.2) (fun r e => rd_2d (rd_wP fu pR 3 0 (-1)) (fun s e2 => ?_))
                subst e
                subst e2
                exact rd_2i (fun _ => rd_2j (fun _ => rd_2s (Or.inl ⟨rfl, rfl, rfl, i5.2.1, by show (3 : Int32) ≠ 0; decide⟩)) (fun _ => rd_2m)) (fun _ => rd_2n)
          · have hk2 : ¬ kR = 2 := (rd_Rn i5.2.2.1).elim (fun q => absurd q.1 r2) (fun q => q.2)
            have hc : c ≠ 0 := fun h => hk2 (i8 h)
            have hk4 : ¬ kR = 4 := fun h => hk3 hc ((rd_R3 i5.2.2.1).1.mpr h)
            rw [if_pos r1, if_neg hk2, if_neg hk4]
            refine rd_2d (rd_wP fu pR 1 0 (-1)) (fun s e2 => ?_)
            subst e2
            exact rd_2j (fun _ => rd_2s (Or.inl ⟨rfl, rfl, r3.symm, i5.2.1.trans r4.symm, by show r.2.1 ≠ 0; rw [r3]; decide⟩)) (fun _ => rd_2m)
  have l0 : ∀ (f : Nat) (at1 kC sC vC : Int32), ¬ rd_nm kC vC → dz_P ((F118_X5_readPot fu a len G f).2.1 0 0 0 (-1) at1 kC sC vC pots teams a256 a257) (fun r => r.1 = 0 ∧ r.2.1 = 1 ∧ r.2.2.1 = sC) := by
    intro f at1 kC1 sC1 vC1 hnm
    obtain ⟨q, q1, q2⟩ := hS.2.2.2
    cases f with
    | zero => exact dz_Pn
    | succ f =>
      show dz_P (s118_X5_readPot_2 fu a len G (F118_X5_readPot fu a len G f).2.2.1 (F118_X5_readPot fu a len G f).2.2.2 0 0 0 (-1) at1 kC1 sC1 vC1 pots teams a256 a257) _
      unfold s118_X5_readPot_2
      refine dz_Pi (fun h => by have := rd_le h; omega) (fun _ => dz_Pi (fun _ => ?_) (fun h => absurd rfl h))
      cases f with
      | zero => exact dz_Pn
      | succ f =>
        show dz_P (s118_X5_readPot_4 fu a len G (F118_X5_readPot fu a len G f).2.1 0 0 0 (-1) at1 kC1 sC1 vC1 pots teams a256 a257) _
        unfold s118_X5_readPot_4
        refine dz_Pb (rd_nameP fu kC1 sC1 vC1 0 (-1)) (fun r hr => ?_)
        rcases hr with ⟨r1, r2, r3, r4⟩ | ⟨r1, r2, r3, r4⟩
        · exact absurd r2 hnm
        · rw [if_pos r1]
          exact dz_Ps ⟨rfl, r3, r4⟩
  unfold f118_X5_readPot s118_X5_readPot_0 f13_X12_potRead s13_X12_potRead_0
  by_cases hp : pots = 4
  · rw [if_pos hp, if_pos hp]
    exact l1 fu fu
  · rw [if_neg hp, if_neg hp]
    by_cases hs : teams + G ≤ 12
    · rw [if_pos hs, if_pos hs]
      have hs1 := rd_le hs
      have e := dz_add (a := teams) (b := G) (by omega) (by omega)
      have hs2 : (T : Int) + G.toInt ≤ 12 := by omega
      refine rd_2b (rd_2st fu a w len at0 kC sC vC next kR wR pR n hw hn hn4 hS.2.2.2 hS.1) (fun u s hus => ?_)
      obtain ⟨u1, u2, u3⟩ := hus
      by_cases hk : s.2.1 = 2
      · rw [if_pos hk]
        exact (key hs2 fu).1 fu 0 T 0 u.1 u.2.1 u.2.2.1 u.2.2.2 s.1 s.2.1 s.2.2.1 s.2.2.2 teams a256 a257 a44 ⟨k0, by omega, rfl, hT, u1, by omega, fun h => by have := u3 h; omega, fun _ => hk, hA, fun k hk => by rw [if_pos hk]⟩
      · rw [if_neg hk]
        have hnm : ¬ rd_nm u.2.1 u.2.2.2 := (rd_Rn u1.2.2.1).elim (fun q => absurd q.2.1 hk) (fun q => q.1)
        refine rd_2p (l0 fu u.1 u.2.1 u.2.2.1 u.2.2.2 hnm) (fun r hr => dz_Pb (rd_wP fu s.2.2.2 1 0 (-1)) (fun v ev => ?_))
        subst ev
        exact dz_Pi (fun _ => dz_Ps (Or.inl ⟨hr.1, rfl, hr.2.1.symm, u1.2.1.trans hr.2.2.symm, by rw [hr.2.1]; decide⟩)) (fun _ => dz_Pn)
    · rw [if_neg hs, if_neg hs]
      exact l1 fu fu
