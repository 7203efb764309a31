/-! the mark line of both readers -/
def rd_mb (T M : Nat) (a257 a46 : Nat → Int32) : Prop := (∀ t, t < T → ∀ m, dz_bit (a257 t) m ↔ (m < M ∧ dz_bit (a46 m) t)) ∧ (∀ m, m < M → ∀ t, dz_bit (a46 m) t → t < T)
def rd_mQ (n : Nat) (at0 : Int32) (T M : Nat) (a46 : Nat → Int32) (r : Int32 × Int32 × Int32 × Int32 × Int32 × Int32 × Int32 × Int32 × (Nat → Int32) × (Nat → Int32)) (s : Int32 × Int32 × Int32 × Int32 × Int32 × Int32 × Int32 × Int32 × (Nat → Int32) × (Nat → Int32)) : Prop :=
  rd_er r.1 r.2.1 r.2.2.1 s.1 s.2.1 s.2.2.1 ∨ (r.1 = 0 ∧ r.2.1 = 1 ∧ r.2.2.1 = s.2.2.2.2.2.2.1 ∧ s.1 ≠ 0 ∧ s.2.2.2.2.1 ≠ 4) ∨ (rd_ok n at0 r.1 r.2.1 r.2.2.1 r.2.2.2.1 r.2.2.2.2.1 r.2.2.2.2.2.1 r.2.2.2.2.2.2.1 s.1 s.2.1 s.2.2.1 s.2.2.2.1 s.2.2.2.2.1 s.2.2.2.2.2.1 s.2.2.2.2.2.2.1 ∧ s.2.2.2.2.2.2.2.1 = r.2.2.2.2.2.2.2.1 ∧ ∃ M1 : Nat, r.2.2.2.2.2.2.2.1.toInt = (M1 : Int) ∧ M1 ≤ 6 ∧ M ≤ M1 ∧ (∀ k, k < M → s.2.2.2.2.2.2.2.2.2 k = a46 k) ∧ (∀ k, k < M1 → r.2.2.2.2.2.2.2.2.2 k = s.2.2.2.2.2.2.2.2.1 k) ∧ rd_mb T M1 r.2.2.2.2.2.2.2.2.1 s.2.2.2.2.2.2.2.2.2)
def rd_mI (n : Nat) (at0 : Int32) (T M : Nat) (a46 : Nat → Int32) (c : Nat) (x at1 kC sC vC next kR wR pR V : Int32) (b257 : Nat → Int32) : Prop :=
  x.toInt = (c : Int) ∧ c ≤ 400 ∧ rd_S n at1 kC sC vC next kR wR pR ∧ at0.toInt + c ≤ at1.toInt ∧ (kC ≠ 0 → at0.toInt + c + 1 ≤ at1.toInt) ∧ (c = 0 → kR = 2) ∧ (∀ t, t < T → ∀ m, dz_bit (b257 t) m ↔ ((m < M ∧ dz_bit (a46 m) t) ∨ (m = M ∧ dz_bit V t))) ∧ (∀ t, dz_bit V t → t < T)
theorem rd_upp {a : Nat → Int32} {p : Nat} {v : Int32} (k : Nat) : upd a p v k = if k = p then v else a k := rfl
theorem rd_mkP (fu : Nat) (marks : Int32) (a : Nat → Int32) (v : Int32) (n : Nat) (hn : marks.toInt = (n : Int)) (h6 : n ≤ 6) : dz_P (f109_X3_markNamed fu marks a v) (fun r => rd_fnd a n v r) := by
  unfold f109_X3_markNamed s109_X3_markNamed_0
  exact dz_Pb (rd_findM fu a marks v n hn h6) (fun x hx => dz_Ps hx)
theorem rd_adM (fu : Nat) (v marks : Int32) (a : Nat → Int32) (n : Nat) (hn : marks.toInt = (n : Int)) (h6 : n < 6) : dz_P (f115_X3_addMark fu v marks a) (fun r => r = (marks + 1, upd a marks.toNatClampNeg v)) := by
  have k6 : (6 : Int32).toInt = 6 := by decide
  unfold f115_X3_addMark s115_X3_addMark_0
  exact dz_Pi (fun h => by have := rd_le h; omega) (fun _ => dz_Pi (fun _ => dz_Ps rfl) (fun _ => dz_Pn))
theorem rd_bz {x : Int32} : x = 0 ↔ ∀ r, ¬ dz_bit x r := by
  have k0 : (0 : Int32).toInt = 0 := by decide
  constructor
  · intro h r hb
    exact dz_bit_ne hb (by rw [h]; exact k0)
  · intro h
    apply Classical.byContradiction
    intro hn
    have hn : x.toInt ≠ 0 := fun q => hn (Int32.toInt_inj.mp (by omega))
    obtain ⟨r, -, hb⟩ := dz_bit_ex hn
    exact h r hb
theorem rd_b1 {m k : Int32} (k0 : 0 ≤ k.toInt) (k1 : k.toInt ≤ 30) : ((m >>> (k &&& 31)) &&& 1) = 1 ↔ dz_bit m k.toInt.toNat := by
  have o : (1 : Int32).toInt = 1 := by decide
  have h := dz_bit_shr (m := m) k0 k1
  have h2 := dz_andr (a := m >>> (k &&& 31)) (b := 1) (by decide)
  constructor
  · intro e
    apply Classical.byContradiction
    intro hn
    have := h.mpr hn
    rw [e] at this
    omega
  · intro hb
    apply Int32.toInt_inj.mp
    have : ((m >>> (k &&& 31)) &&& 1).toInt ≠ 0 := fun q => h.mp q hb
    omega
theorem rd_mrk (fu : Nat) (a w : Nat → Int32) (len at0 kC sC vC next kR wR pR teams marks : Int32) (a256 a257 a258 a44 a45 a46 : Nat → Int32) (n T M : Nat) (hw : dz_pt w dz_wd) (hn : len.toInt = (n : Int)) (hn4 : n ≤ 400) (hS : rd_S n at0 kC sC vC next kR wR pR) (h3 : 1 ≤ at0.toInt) (hT : teams.toInt = (T : Int)) (hT12 : T ≤ 12) (hM : marks.toInt = (M : Int)) (hM6 : M ≤ 6) (hA : ∀ k, k < T → a256 k = a44 k) (hB : ∀ k, k < M → a258 k = a45 k) (hC : rd_mb T M a257 a46) :
    rd_2 (f116_X5_readMark fu a len teams a256 0 (-1) at0 kC sC vC marks a257 a258) (f14_X12_markLine fu len teams a w a44 0 (-1) next kR wR pR marks a45 a46) (rd_mQ n at0 T M a46) := by
  have k0 : (0 : Int32).toInt = 0 := by decide
  have k6 : (6 : Int32).toInt = 6 := by decide
  have lS : ∀ (g c : Nat) (nm x at1 kC sC vC next kR wR pR V : Int32) (b257 : Nat → Int32), M < 6 → rd_mI n at0 T M a46 c x at1 kC sC vC next kR wR pR V b257 → kC = 3 → c ≠ 0 → rd_2 (some ((1 : Int32), (0 : Int32), (-1 : Int32), at1, kC, sC, vC, marks + 1, b257, upd a258 marks.toNatClampNeg nm)) ((F14_X12_markLine fu len teams a w a44 g) nm V 0 (-1) next kR wR pR marks a45 a46) (rd_mQ n at0 T M a46) := by
    intro g c nm x at1 kC sC vC next kR wR pR V b257 hM6 hI hk hc
    obtain ⟨i1, i0, i5, i6, i7, i8, i9, i10⟩ := hI
    have hk4 : kR = 4 := (rd_R3 i5.2.2.1).1.mp hk
    have hk2 : ¬ kR = 2 := by rw [hk4]; decide
    have i7 := i7 (by rw [hk]; decide)
    have hin : dz_in marks 6 := dz_inp (by omega) (by omega)
    cases g with
    | zero => exact rd_2m
    | succ g =>
      show rd_2 _ (s14_X12_markLine_1 fu len teams a w a44 (F14_X12_markLine fu len teams a w a44 g) nm V 0 (-1) next kR wR pR marks a45 a46) _
      unfold s14_X12_markLine_1
      rw [if_neg hk2, if_pos hin, if_pos hin]
      refine rd_2s (Or.inr (Or.inr ⟨⟨by show (1 : Int32) ≠ 0; decide, by show (1 : Int32) ≠ 0; decide, rfl, rfl, rfl, rfl, i5, by show at0.toInt ≤ at1.toInt; omega, fun _ => by show at0.toInt < at1.toInt; omega⟩, rfl, M + 1, rd_p1 hM (by omega), by omega, by omega, fun k hk => ?_, fun k hk => ?_, fun t ht m => ?_, fun m hm t hb => ?_⟩))
      · show upd a46 marks.toNatClampNeg V k = a46 k
        rw [rd_up hM, if_neg (by omega)]
      · show upd a258 marks.toNatClampNeg nm k = upd a45 marks.toNatClampNeg nm k
        rw [rd_up hM, rd_up hM]
        by_cases c1 : k = M
        · rw [if_pos c1, if_pos c1]
        · rw [if_neg c1, if_neg c1]
          exact hB k (by omega)
      · show dz_bit (b257 t) m ↔ (m < M + 1 ∧ dz_bit (upd a46 marks.toNatClampNeg V m) t)
        rw [i9 t ht m, rd_up hM]
        by_cases c1 : m = M
        · rw [if_pos c1]
          constructor
          · intro q
            exact ⟨by omega, q.elim (fun q => by have := q.1; omega) (fun q => q.2)⟩
          · intro q
            exact Or.inr ⟨c1, q.2⟩
        · rw [if_neg c1]
          constructor
          · intro q
            exact q.elim (fun q => ⟨by have := q.1; omega, q.2⟩) (fun q => absurd q.1 c1)
          · intro q
            exact Or.inl ⟨by have := q.1; omega, q.2⟩
      · have hb : dz_bit (upd a46 marks.toNatClampNeg V m) t := hb
        rw [rd_up hM] at hb
        by_cases c1 : m = M
        · rw [if_pos c1] at hb
          exact i10 t hb
        · rw [if_neg c1] at hb
          exact hC.2 m (by omega) t hb
  have key : M < 6 → ∀ (nm : Int32) (f : Nat), (∀ (g c : Nat) (x at1 kC sC vC next kR wR pR V : Int32) (b257 : Nat → Int32), rd_mI n at0 T M a46 c x at1 kC sC vC next kR wR pR V b257 → rd_2 ((F116_X5_readMark fu a len teams a256 f).1 ((1 : Int32) <<< (marks &&& 31)) x x 0 (-1) at1 kC sC vC (marks + 1) b257 (upd a258 marks.toNatClampNeg nm)) ((F14_X12_markLine fu len teams a w a44 g) nm V 0 (-1) next kR wR pR marks a45 a46) (rd_mQ n at0 T M a46)) ∧
      (∀ (g c : Nat) (x at1 kC sC vC next kR wR pR V : Int32) (b257 : Nat → Int32), rd_mI n at0 T M a46 c x at1 kC sC vC next kR wR pR V b257 → (c ≠ 0 → kC ≠ 3) → rd_2 ((F116_X5_readMark fu a len teams a256 f).2 ((1 : Int32) <<< (marks &&& 31)) x x 0 (-1) at1 kC sC vC (marks + 1) b257 (upd a258 marks.toNatClampNeg nm)) ((F14_X12_markLine fu len teams a w a44 g) nm V 0 (-1) next kR wR pR marks a45 a46) (rd_mQ n at0 T M a46)) := by
    intro hM6 nm f
    induction f with
    | zero => exact ⟨fun _ _ _ _ _ _ _ _ _ _ _ _ _ _ => rd_2n, fun _ _ _ _ _ _ _ _ _ _ _ _ _ _ _ => rd_2n⟩
    | succ f ih =>
      obtain ⟨j1, j2⟩ := ih
      refine ⟨?_, ?_⟩
      · intro g c x at1 kC sC vC next kR wR pR V b257 hI
        obtain ⟨i1, i0, i5, i6, i7, i8, i9, i10⟩ := id hI
        obtain ⟨q, q1, q2⟩ := i5.2.2.2
        show rd_2 (s116_X5_readMark_1 fu a len teams a256 (F116_X5_readMark fu a len teams a256 f).2 ((1 : Int32) <<< (marks &&& 31)) x x 0 (-1) at1 kC sC vC (marks + 1) b257 (upd a258 marks.toNatClampNeg nm)) _ _
        unfold s116_X5_readMark_1
        refine rd_2i (fun h => ?_) (fun h => rd_2i (fun h0 => j2 g c x at1 kC sC vC next kR wR pR V b257 hI (fun hc => ?_)) (fun h0 => rd_2i (fun h3 => lS g c nm x at1 kC sC vC next kR wR pR V b257 hM6 hI h3 ?_) (fun h3 => j2 g c x at1 kC sC vC next kR wR pR V b257 hI (fun _ => h3))))
        · have h := rd_le h
          exfalso
          omega
        · rw [h0] at i1
          exfalso
          omega
        · have := dz_fne h0
          omega
      · intro g c x at1 kC sC vC next kR wR pR V b257 hI hk3
        obtain ⟨i1, i0, i5, i6, i7, i8, i9, i10⟩ := id hI
        obtain ⟨q, q1, q2⟩ := i5.2.2.2
        cases g with
        | zero => exact rd_2m
        | succ g =>
          show rd_2 (s116_X5_readMark_2 fu a len teams a256 (F116_X5_readMark fu a len teams a256 f).1 ((1 : Int32) <<< (marks &&& 31)) x x 0 (-1) at1 kC sC vC (marks + 1) b257 (upd a258 marks.toNatClampNeg nm)) (s14_X12_markLine_1 fu len teams a w a44 (F14_X12_markLine fu len teams a w a44 g) nm V 0 (-1) next kR wR pR marks a45 a46) _
          unfold s116_X5_readMark_2 s14_X12_markLine_1
          refine rd_2c (rd_rtP fu kC sC vC teams a256 0 (-1) T hT hT12) (fun r hr => ?_)
          rcases hr with ⟨r1, r2⟩ | ⟨r1, r2, r3⟩
          · have hk2 : ¬ kR = 2 := (rd_Rn i5.2.2.1).elim (fun q => absurd q.1 r2) (fun q => q.2)
            have hc : c ≠ 0 := fun h => hk2 (i8 h)
            have hk4 : ¬ kR = 4 := fun h => hk3 hc ((rd_R3 i5.2.2.1).1.mpr h)
            subst r1
            have hin : dz_in marks 6 := dz_inp (by omega) (by omega)
            rw [if_pos rfl, if_neg hk2, if_pos hin, if_pos hin]
            exact rd_2s (Or.inr (Or.inl ⟨rfl, rfl, i5.2.1.symm, by show (1 : Int32) ≠ 0; decide, hk4⟩))
          · have hk : kR = 2 ∧ wR = vC := (rd_Rn i5.2.2.1).elim (fun q => q.2) (fun q => absurd r1 q.1)
            have hkC : kC ≠ 0 := by rw [r1.1]; decide
            have i7 := i7 hkC
            rw [if_pos hk.1]
            refine rd_2d (rd_tmO fu a44 teams wR T hT hT12) (fun z hz => ?_)
            rw [hk.2] at hz
            have e := rd_fnd1 r2 hz hA
            subst e
            rcases r3 with ⟨y1, y2, y3⟩ | ⟨y1, y2, y3⟩
            · have y0 : r.1.toInt = -1 := by rw [y1]; decide
              rw [if_pos y1, if_neg (fun h : 0 ≤ r.1 => by have := rd_le h; omega)]
              refine rd_2d (rd_wP fu pR 4 0 (-1)) (fun s e2 => ?_)
              subst e2
              exact rd_2j (fun _ => rd_2s (Or.inl ⟨rfl, rfl, y2.symm, i5.2.1.trans y3.symm, by show r.2.1 ≠ 0; rw [y2]; decide⟩)) (fun _ => rd_2m)
            · have y4 : 0 ≤ r.1.toInt ∧ r.1.toInt < (T : Int) := (rd_fno r2).elim (fun q => absurd q.1 y1) (fun q => ⟨q.1, q.2.1⟩)
              obtain ⟨y4, y5⟩ := y4
              obtain ⟨p, hp⟩ : ∃ p : Nat, r.1.toInt = (p : Int) := ⟨r.1.toInt.toNat, by omega⟩
              have hpT : p < T := by omega
              have hin : dz_in r.1 12 := dz_inp (by omega) (by omega)
              have hpn : r.1.toInt.toNat = p := by omega
              have hMn : marks.toInt.toNat = M := by omega
              have hbM : ∀ m, dz_bit ((1 : Int32) <<< (marks &&& 31)) m ↔ m = M := fun m => by
                have h := dz_bit_shl (k := marks) (r := m) (by omega) (by omega)
                rw [hMn] at h
                exact h
              have hbp : ∀ t, dz_bit ((1 : Int32) <<< (r.1 &&& 31)) t ↔ t = p := fun t => by
                have h := dz_bit_shl (k := r.1) (r := t) (by omega) (by omega)
                rw [hpn] at h
                exact h
              have hVp : dz_bit (b257 p) M ↔ dz_bit V p := by
                rw [i9 p hpT M]
                constructor
                · intro q
                  exact q.elim (fun q => absurd q.1 (Nat.lt_irrefl _)) (fun q => q.2)
                · intro q
                  exact Or.inr ⟨rfl, q⟩
              rw [if_neg y1, if_pos hin, if_pos (Int32.le_iff_toInt_le.mpr (by omega) : (0 : Int32) ≤ r.1)]
              simp only [rd_tc hp]
              have hb1 := rd_b1 (m := V) (k := r.1) (by omega) (by omega)
              rw [hpn] at hb1
              by_cases hv : dz_bit V p
              · have hne : ¬ ((b257 p) &&& ((1 : Int32) <<< (marks &&& 31))) = 0 := fun h => rd_bz.mp h M (dz_bit_and.mpr ⟨hVp.mpr hv, (hbM M).mpr rfl⟩)
                rw [if_neg hne, if_pos (hb1.mpr hv)]
                refine rd_2c (rd_fP fu sC 3 r.2.1 r.2.2) (fun u e => rd_2d (rd_wP fu pR 3 0 (-1)) (fun s e2 => ?_))
                subst e
                subst e2
                exact rd_2i (fun _ => rd_2j (fun _ => rd_2s (Or.inl ⟨rfl, rfl, rfl, i5.2.1, by show (3 : Int32) ≠ 0; decide⟩)) (fun _ => rd_2m)) (fun _ => rd_2n)
              · have heq : ((b257 p) &&& ((1 : Int32) <<< (marks &&& 31))) = 0 := rd_bz.mpr (fun m hm => by
                  obtain ⟨m1, m2⟩ := dz_bit_and.mp hm
                  have m2 := (hbM m).mp m2
                  subst m2
                  exact hv (hVp.mp m1))
                rw [if_pos heq, if_pos hin, if_pos hin, if_neg (fun h => hv (hb1.mp h))]
                refine rd_2b (rd_2st fu a w len at1 kC sC vC next kR wR pR n hw hn hn4 ⟨q, q1, q2⟩ i5.1) (fun u s hus => ?_)
                obtain ⟨u1, u2, u3⟩ := hus
                rw [y2, y3]
                refine j1 g (c + 1) (x + 1) u.1 u.2.1 u.2.2.1 u.2.2.2 s.1 s.2.1 s.2.2.1 s.2.2.2 _ _ ⟨rd_p1 i1 (by omega), by omega, u1, by omega, fun h => by have := u3 h; omega, fun h => by omega, fun t ht m => ?_, fun t hb => ?_⟩
                · rw [rd_upp]
                  by_cases c1 : t = p
                  · rw [if_pos c1, dz_bit_or, hbM m, i9 p hpT m, dz_bit_or, hbp t, c1]
                    constructor
                    · intro q
                      rcases q with (q | ⟨q1, q2⟩) | q
                      · exact Or.inl q
                      · exact Or.inr ⟨q1, Or.inl q2⟩
                      · exact Or.inr ⟨q, Or.inr rfl⟩
                    · intro q
                      rcases q with q | ⟨q1, -⟩
                      · exact Or.inl (Or.inl q)
                      · exact Or.inr q1
                  · rw [if_neg c1, i9 t ht m, dz_bit_or, hbp t]
                    constructor
                    · intro q
                      exact q.elim Or.inl (fun q => Or.inr ⟨q.1, Or.inl q.2⟩)
                    · intro q
                      exact q.elim Or.inl (fun q => Or.inr ⟨q.1, q.2.elim id (fun h => absurd h c1)⟩)
                · rcases dz_bit_or.mp hb with hb | hb
                  · exact i10 t hb
                  · rw [(hbp t).mp hb]
                    exact hpT
  have l0 : ∀ (nm : Int32) (f : Nat) (at1 kC sC vC : Int32) (b257 b258 : Nat → Int32), ¬ rd_nm kC vC → dz_P ((F116_X5_readMark fu a len teams a256 f).1 nm 0 0 0 (-1) at1 kC sC vC (marks + 1) b257 b258) (fun r => r.1 = 0 ∧ r.2.1 = 1 ∧ r.2.2.1 = sC) := by
    intro nm f at1 kC1 sC1 vC1 b257 b258 hnm
    obtain ⟨q, q1, q2⟩ := hS.2.2.2
    cases f with
    | zero => exact dz_Pn
    | succ f =>
      show dz_P (s116_X5_readMark_1 fu a len teams a256 (F116_X5_readMark fu a len teams a256 f).2 nm 0 0 0 (-1) at1 kC1 sC1 vC1 (marks + 1) b257 b258) _
      unfold s116_X5_readMark_1
      refine dz_Pi (fun h => by have := rd_le h; omega) (fun _ => dz_Pi (fun _ => ?_) (fun h => absurd rfl h))
      cases f with
      | zero => exact dz_Pn
      | succ f =>
        show dz_P (s116_X5_readMark_2 fu a len teams a256 (F116_X5_readMark fu a len teams a256 f).1 nm 0 0 0 (-1) at1 kC1 sC1 vC1 (marks + 1) b257 b258) _
        unfold s116_X5_readMark_2
        refine dz_Pb (rd_rtP fu kC1 sC1 vC1 teams a256 0 (-1) T hT hT12) (fun r hr => ?_)
        rcases hr with ⟨r1, r2⟩ | ⟨r1, r2, r3⟩
        · subst r1
          rw [if_pos rfl]
          exact dz_Ps ⟨rfl, rfl, rfl⟩
        · exact absurd r1 hnm
  unfold f116_X5_readMark s116_X5_readMark_0 f14_X12_markLine s14_X12_markLine_0
  by_cases hp : marks = 6
  · rw [if_pos hp, if_pos hp]
    refine rd_2c (rd_fP fu sC 2 0 (-1)) (fun r e => rd_2d (rd_wP fu pR 2 0 (-1)) (fun s e2 => ?_))
    subst e
    subst e2
    exact rd_2i (fun _ => rd_2j (fun _ => rd_2s (Or.inl ⟨rfl, rfl, rfl, hS.2.1, by show (2 : Int32) ≠ 0; decide⟩)) (fun _ => rd_2m)) (fun _ => rd_2n)
  · rw [if_neg hp, if_neg hp]
    have hp := dz_fne hp
    have hM5 : M < 6 := by omega
    refine rd_2b (rd_2st fu a w len at0 kC sC vC next kR wR pR n hw hn hn4 hS.2.2.2 hS.1) (fun u s hus => ?_)
    obtain ⟨u1, u2, u3⟩ := hus
    refine rd_2c (rd_nameP fu u.2.1 u.2.2.1 u.2.2.2 0 (-1)) (fun r hr => ?_)
    rcases hr with ⟨r1, r2, r3, r4⟩ | ⟨r1, r2, r3, r4⟩
    · have hk : s.2.1 = 2 ∧ s.2.2.1 = u.2.2.2 := (rd_Rn u1.2.2.1).elim (fun q => q.2) (fun q => absurd r2 q.1)
      rw [if_neg r1, if_pos hk.1]
      refine rd_2c (rd_mkP fu marks a258 u.2.2.2 M hM hM6) (fun y hy => rd_2d (rd_mkO fu a45 marks s.2.2.1 M hM hM6) (fun z hz => ?_))
      rw [hk.2] at hz
      have e := rd_fnd1 hy hz hB
      subst e
      rcases rd_fno hy with ⟨y1, y2, -⟩ | ⟨y1, y2, y3⟩
      · rw [if_pos y1, if_pos (Int32.lt_iff_toInt_lt.mpr (by omega) : y < 0)]
        refine rd_2c (rd_adM fu u.2.2.2 marks a258 M hM hM5) (fun r8 e8 => ?_)
        subst e8
        refine rd_2b (rd_2st fu a w len u.1 u.2.1 u.2.2.1 u.2.2.2 s.1 s.2.1 s.2.2.1 s.2.2.2 n hw hn hn4 u1.2.2.2 u1.1) (fun u' s' hus' => ?_)
        obtain ⟨v1, v2, v3⟩ := hus'
        rw [r3, r4, hk.2]
        by_cases hk2 : s'.2.1 = 2
        · rw [if_pos hk2]
          refine (key hM5 u.2.2.2 fu).1 fu 0 0 u'.1 u'.2.1 u'.2.2.1 u'.2.2.2 s'.1 s'.2.1 s'.2.2.1 s'.2.2.2 0 a257 ⟨k0, by omega, v1, by omega, fun h => by have := v3 h; omega, fun _ => hk2, fun t ht m => ?_, fun t hb => ?_⟩
          · rw [hC.1 t ht m]
            constructor
            · intro q
              exact Or.inl q
            · intro q
              exact q.elim id (fun q => absurd q.2 (rd_bz.mp rfl t))
          · exact absurd hb (rd_bz.mp rfl t)
        · rw [if_neg hk2]
          have hnm : ¬ rd_nm u'.2.1 u'.2.2.2 := (rd_Rn v1.2.2.1).elim (fun q => absurd q.2.1 hk2) (fun q => q.1)
          refine rd_2p (l0 _ fu u'.1 u'.2.1 u'.2.2.1 u'.2.2.2 _ _ hnm) (fun r hr => dz_Pb (rd_wP fu s'.2.2.2 1 0 (-1)) (fun v ev => ?_))
          subst ev
          exact dz_Pi (fun _ => dz_Ps (Or.inl ⟨hr.1, rfl, hr.2.1.symm, v1.2.1.trans hr.2.2.symm, by rw [hr.2.1]; decide⟩)) (fun _ => dz_Pn)
      · rw [if_neg y3, if_neg (fun h : y < 0 => by have := Int32.lt_iff_toInt_lt.mp h; omega)]
        refine rd_2c (rd_fP fu u.2.2.1 3 r.2.1 r.2.2) (fun r e => rd_2d (rd_wP fu s.2.2.2 3 0 (-1)) (fun s e2 => ?_))
        subst e
        subst e2
        exact rd_2i (fun _ => rd_2j (fun _ => rd_2s (Or.inl ⟨rfl, rfl, rfl, u1.2.1, by show (3 : Int32) ≠ 0; decide⟩)) (fun _ => rd_2m)) (fun _ => rd_2n)
    · have hk2 : ¬ s.2.1 = 2 := (rd_Rn u1.2.2.1).elim (fun q => absurd q.1 r2) (fun q => q.2)
      rw [if_pos r1, if_neg hk2]
      refine rd_2d (rd_wP fu s.2.2.2 1 0 (-1)) (fun v e2 => ?_)
      subst e2
      exact rd_2j (fun _ => rd_2s (Or.inl ⟨rfl, rfl, r3.symm, u1.2.1.trans r4.symm, by show r.2.1 ≠ 0; rw [r3]; decide⟩)) (fun _ => rd_2m)
