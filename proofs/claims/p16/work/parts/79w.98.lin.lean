/-! lines: numbers, teams -/
theorem rd_fP (fu : Nat) (sC v fl pl : Int32) : dz_P (f97_X5_fail fu sC v fl pl) (fun r => r = (0, v, sC)) := dz_Ps rfl
theorem rd_wP (fu : Nat) (pR v fl pl : Int32) : dz_P (f2_X12_wrong fu pR v fl pl) (fun r => r = (0, v, pR)) := dz_Ps rfl
/-- what a number's check leaves -/
def rd_nu (inK lo hi : Prop) (fl pl s : Int32) (r : Int32 × Int32 × Int32) : Prop := (r.1 ≠ 0 ∧ inK ∧ lo ∧ hi ∧ r.2.1 = fl ∧ r.2.2 = pl) ∨ (r = (0, 2, s) ∧ inK ∧ ¬ (lo ∧ hi)) ∨ (r = (0, 1, s) ∧ ¬ inK)
theorem rd_nuC (fu : Nat) (kC sC vC lo hi fl pl : Int32) : dz_P (f107_X5_isNumber fu kC sC vC lo hi fl pl) (rd_nu (kC = 2) (lo.toInt ≤ vC.toInt) (vC.toInt ≤ hi.toInt) fl pl sC) := by
  have l2 : dz_P (d107_X5_isNumber_2 fu kC sC vC fl pl) (fun r => r = (1, fl, pl)) := dz_Ps rfl
  have l1 : dz_P (d107_X5_isNumber_1 fu kC sC vC fl pl) (fun r => r = (0, 2, sC)) := by
    unfold d107_X5_isNumber_1 s107_X5_isNumber_1
    exact dz_Pb (rd_fP fu sC 2 fl pl) (fun r e => by subst e; exact dz_Pi (fun _ => dz_Ps rfl) (fun h => absurd rfl h))
  unfold f107_X5_isNumber s107_X5_isNumber_0
  refine dz_Pi (fun h => dz_Pi (fun h1 => ?_) (fun h1 => dz_Pi (fun h2 => ?_) (fun h2 => ?_))) (fun h => dz_Pb (rd_fP fu sC 1 fl pl) (fun r e => ?_))
  · intro r e
    have := Int32.lt_iff_toInt_lt.mp h1
    exact Or.inr (Or.inl ⟨l1 r e, h, fun q => by have := q.1; omega⟩)
  · intro r e
    have e := l2 r e
    subst e
    exact Or.inl ⟨by show (1 : Int32) ≠ 0; decide, h, dz_fnlt h1, rd_le h2, rfl, rfl⟩
  · intro r e
    have := dz_fnle h2
    exact Or.inr (Or.inl ⟨l1 r e, h, fun q => by have := q.2; omega⟩)
  · subst e
    exact dz_Pi (fun _ => dz_Ps (Or.inr (Or.inr ⟨rfl, h⟩))) (fun _ => dz_Pn)
theorem rd_nuR (fu : Nat) (kR wR pR lo hi fl pl : Int32) : dz_P (f10_X12_isNumber fu kR wR pR lo hi fl pl) (rd_nu (kR = 3) (lo.toInt ≤ wR.toInt) (wR.toInt ≤ hi.toInt) fl pl pR) := by
  have l2 : dz_P (d10_X12_isNumber_2 fu kR wR pR fl pl) (fun r => r = (1, fl, pl)) := dz_Ps rfl
  have l1 : dz_P (d10_X12_isNumber_1 fu kR wR pR fl pl) (fun r => r = (0, 2, pR)) := by
    unfold d10_X12_isNumber_1 s10_X12_isNumber_1
    exact dz_Pb (rd_wP fu pR 2 fl pl) (fun r e => by subst e; exact dz_Pi (fun _ => dz_Ps rfl) (fun h => absurd rfl h))
  unfold f10_X12_isNumber s10_X12_isNumber_0
  refine dz_Pi (fun h => dz_Pi (fun h1 => ?_) (fun h1 => dz_Pi (fun h2 => ?_) (fun h2 => ?_))) (fun h => dz_Pb (rd_wP fu pR 1 fl pl) (fun r e => ?_))
  · intro r e
    have := Int32.lt_iff_toInt_lt.mp h1
    exact Or.inr (Or.inl ⟨l1 r e, h, fun q => by have := q.1; omega⟩)
  · intro r e
    have e := l2 r e
    subst e
    exact Or.inl ⟨by show (1 : Int32) ≠ 0; decide, h, dz_fnlt h1, rd_le h2, rfl, rfl⟩
  · intro r e
    have := dz_fnle h2
    exact Or.inr (Or.inl ⟨l1 r e, h, fun q => by have := q.2; omega⟩)
  · subst e
    exact dz_Pi (fun _ => dz_Ps (Or.inr (Or.inr ⟨rfl, h⟩))) (fun _ => dz_Pn)
/-- both check a number alike -/
theorem rd_2nu (fu : Nat) {kC sC vC kR wR : Int32} (lo hi fl pl flR plR : Int32) (h : rd_R kC vC kR wR) (hh : hi.toInt ≤ 99) : rd_2 (f107_X5_isNumber fu kC sC vC lo hi fl pl) (f10_X12_isNumber fu kR wR sC lo hi flR plR) (fun r s => (r.1 = 0 ∧ s.1 = 0 ∧ s.2.1 = r.2.1 ∧ s.2.2 = r.2.2 ∧ r.2.1 ≠ 0) ∨ (r.1 ≠ 0 ∧ s.1 ≠ 0 ∧ wR = vC ∧ lo.toInt ≤ vC.toInt ∧ vC.toInt ≤ hi.toInt ∧ r.2.1 = fl ∧ r.2.2 = pl ∧ s.2.1 = flR ∧ s.2.2 = plR)) := by
  intro r s e1 e2
  have hr := rd_nuC fu kC sC vC lo hi fl pl r e1
  have hs := rd_nuR fu kR wR sC lo hi flR plR s e2
  have hk := (rd_R3 h).2.2
  have cap : kC = 2 → (lo.toInt ≤ vC.toInt ∧ vC.toInt ≤ hi.toInt ↔ lo.toInt ≤ wR.toInt ∧ wR.toInt ≤ hi.toInt) ∧ (vC.toInt ≤ hi.toInt → vC.toInt = wR.toInt) := by
    intro h2
    rcases h with ⟨a, -⟩ | ⟨a, -⟩ | ⟨-, -, m, c1, c2⟩ | ⟨a, -⟩ | ⟨a, -⟩
    · exact absurd (a.symm.trans h2) (by decide)
    · exact absurd (a.symm.trans h2) (by decide)
    · exact rd_capr c1 c2 _ _ hh
    · exact absurd (a.symm.trans h2) (by decide)
    · exact absurd (a.symm.trans h2) (by decide)
  rcases hr with ⟨r1, r2, r3, r4, r5, r6⟩ | ⟨r1, r2, r3⟩ | ⟨r1, r2⟩ <;> rcases hs with ⟨s1, s2, s3, s4, s5, s6⟩ | ⟨s1, s2, s3⟩ | ⟨s1, s2⟩
  · exact Or.inr ⟨r1, s1, Int32.toInt_inj.mp ((cap r2).2 r4).symm, r3, r4, r5, r6, s5, s6⟩
  · exact absurd ((cap r2).1.mp ⟨r3, r4⟩) s3
  · exact absurd (hk.mp r2) s2
  · exact absurd ((cap r2).1.mpr ⟨s3, s4⟩) r3
  · subst r1 s1
    exact Or.inl ⟨rfl, rfl, rfl, rfl, by first | (show (2 : Int32) ≠ 0; decide) | (show (1 : Int32) ≠ 0; decide)⟩
  · exact absurd (hk.mp r2) s2
  · exact absurd (hk.mpr s2) r2
  · exact absurd (hk.mpr s2) r2
  · subst r1 s1
    exact Or.inl ⟨rfl, rfl, rfl, rfl, by first | (show (2 : Int32) ≠ 0; decide) | (show (1 : Int32) ≠ 0; decide)⟩
/-- the class's readTeam -/
theorem rd_rtP (fu : Nat) (kC sC vC teams : Int32) (a : Nat → Int32) (fl pl : Int32) (n : Nat) (hn : teams.toInt = (n : Int)) (h12 : n ≤ 12) : dz_P (f103_X5_readTeam fu kC sC vC teams a fl pl) (fun r => (r = (-1, 1, sC) ∧ ¬ rd_nm kC vC) ∨ (rd_nm kC vC ∧ rd_fnd a n vC r.1 ∧ ((r.1 = -1 ∧ r.2.1 = 4 ∧ r.2.2 = sC) ∨ (r.1 ≠ -1 ∧ r.2.1 = fl ∧ r.2.2 = pl)))) := by
  unfold f103_X5_readTeam s103_X5_readTeam_0
  refine dz_Pb (rd_nameP fu kC sC vC fl pl) (fun r hr => dz_Pi (fun h => dz_Ps ?_) (fun h => ?_))
  · obtain ⟨-, h2, h3, h4⟩ := hr.elim (fun q => absurd h q.1) (fun q => q)
    refine Or.inl ⟨?_, h2⟩
    rw [h3, h4]
  · obtain ⟨-, h2, h3, h4⟩ := hr.elim (fun q => q) (fun q => absurd q.1 h)
    unfold f102_X3_teamNamed s102_X3_teamNamed_0
    refine dz_Pb (P := fun x => rd_fnd a n vC x) (dz_Pb (rd_findT fu a teams vC n hn h12) (fun x hx => dz_Ps hx)) (fun x hx => dz_Pi (fun e => dz_Pb (rd_fP fu sC 4 r.2.1 r.2.2) (fun y ey => ?_)) (fun e => dz_Ps ?_))
    · subst ey
      exact dz_Ps (Or.inr ⟨h2, hx, Or.inl ⟨e, rfl, rfl⟩⟩)
    · exact Or.inr ⟨h2, hx, Or.inr ⟨e, h3, h4⟩⟩
