/-! two runs side by side -/
def rd_2 {R S : Type} (o : Option R) (o2 : Option S) (Q : R → S → Prop) : Prop := ∀ r s, o = some r → o2 = some s → Q r s
theorem rd_2w {R S : Type} {o : Option R} {o2 : Option S} {P Q : R → S → Prop} (h : rd_2 o o2 P) (k : ∀ r s, P r s → Q r s) : rd_2 o o2 Q := fun r s e f => k r s (h r s e f)
theorem rd_2n {R S : Type} {o2 : Option S} {Q : R → S → Prop} : rd_2 none o2 Q := fun r s e => by cases e
theorem rd_2m {R S : Type} {o : Option R} {Q : R → S → Prop} : rd_2 o none Q := fun r s _ e => by cases e
theorem rd_2s {R S : Type} {x : R} {y : S} {Q : R → S → Prop} (h : Q x y) : rd_2 (some x) (some y) Q := fun r s e f => by
  cases e
  cases f
  exact h
theorem rd_2i {R S : Type} {c : Prop} [d9 : Decidable c] {a b : Option R} {o2 : Option S} {Q : R → S → Prop} (h1 : c → rd_2 a o2 Q) (h2 : ¬ c → rd_2 b o2 Q) : rd_2 (if c then a else b) o2 Q := by
  by_cases hc : c
  · rw [if_pos hc]; exact h1 hc
  · rw [if_neg hc]; exact h2 hc
theorem rd_2j {R S : Type} {c : Prop} [d9 : Decidable c] {o : Option R} {a b : Option S} {Q : R → S → Prop} (h1 : c → rd_2 o a Q) (h2 : ¬ c → rd_2 o b Q) : rd_2 o (if c then a else b) Q := by
  by_cases hc : c
  · rw [if_pos hc]; exact h1 hc
  · rw [if_neg hc]; exact h2 hc
theorem rd_2b {R S R1 S1 : Type} {o : Option R1} {o2 : Option S1} {f : R1 → Option R} {g : S1 → Option S} {P : R1 → S1 → Prop} {Q : R → S → Prop} (h : rd_2 o o2 P) (k : ∀ x y, P x y → rd_2 (f x) (g y) Q) : rd_2 (o.bind f) (o2.bind g) Q := by
  intro r s e1 e2
  cases o with
  | none => cases e1
  | some x =>
    cases o2 with
    | none => cases e2
    | some y => exact k x y (h x y rfl rfl) r s e1 e2
theorem rd_2c {R S R1 : Type} {o : Option R1} {o2 : Option S} {f : R1 → Option R} {P : R1 → Prop} {Q : R → S → Prop} (h : dz_P o P) (k : ∀ x, P x → rd_2 (f x) o2 Q) : rd_2 (o.bind f) o2 Q := by
  intro r s e1 e2
  cases o with
  | none => cases e1
  | some x => exact k x (h x rfl) r s e1 e2
theorem rd_2d {R S S1 : Type} {o : Option R} {o2 : Option S1} {g : S1 → Option S} {P : S1 → Prop} {Q : R → S → Prop} (h : dz_P o2 P) (k : ∀ y, P y → rd_2 o (g y) Q) : rd_2 o (o2.bind g) Q := by
  intro r s e1 e2
  cases o2 with
  | none => cases e2
  | some y => exact k y (h y rfl) r s e1 e2
/-- the two readers at the same token -/
def rd_S (n : Nat) (at0 kC sC vC next kR wR pR : Int32) : Prop := next = at0 ∧ pR = sC ∧ rd_R kC vC kR wR ∧ ∃ q : Nat, at0.toInt = (q : Int) ∧ q ≤ n
theorem rd_2st (fu : Nat) (a w : Nat → Int32) (len at0 kC sC vC next kR wR pR : Int32) (n : Nat) (hw : dz_pt w dz_wd) (hn : len.toInt = (n : Int)) (hn4 : n ≤ 400) (h : ∃ q : Nat, at0.toInt = (q : Int) ∧ q ≤ n) (e : next = at0) :
    rd_2 (f96_X5_step fu a len at0 kC sC vC) (f7_X12_take fu len a w next kR wR pR) (fun r s => rd_S n r.1 r.2.1 r.2.2.1 r.2.2.2 s.1 s.2.1 s.2.2.1 s.2.2.2 ∧ at0.toInt ≤ r.1.toInt ∧ (r.2.1 ≠ 0 → at0.toInt < r.1.toInt)) := by
  obtain ⟨q, h1, h2⟩ := h
  subst e
  intro r s e1 e2
  obtain ⟨a1, a2, a3, q2, a4, a5, a6, a7⟩ := rd_ST fu a w len next kC sC vC kR wR pR n q hw hn hn4 h1 h2 e1 e2
  exact ⟨⟨a1, a2, a3, q2, a4, a6⟩, by omega, fun h => by have := a7 h; omega⟩
/-- the first place of a number in a row -/
def rd_fnd (a : Nat → Int32) (t : Nat) (v r : Int32) : Prop := (r = -1 ∧ ∀ k, k < t → a k ≠ v) ∨ (∃ p : Nat, r.toInt = (p : Int) ∧ p < t ∧ a p = v ∧ ∀ k, k < p → a k ≠ v)
theorem rd_fnd1 {a b : Nat → Int32} {t : Nat} {v r s : Int32} (h : rd_fnd a t v r) (g : rd_fnd b t v s) (e : ∀ k, k < t → a k = b k) : r = s := by
  rcases h with ⟨h1, h2⟩ | ⟨p, h1, h2, h3, h4⟩ <;> rcases g with ⟨g1, g2⟩ | ⟨q, g1, g2, g3, g4⟩
  · rw [h1, g1]
  · exact absurd g3 (by rw [← e q g2]; exact h2 q g2)
  · exact absurd h3 (by rw [e p h2]; exact g2 p h2)
  · rcases Nat.lt_trichotomy p q with c | c | c
    · exact absurd (by rw [← e p h2]; exact h3) (g4 p c)
    · exact Int32.toInt_inj.mp (by omega)
    · exact absurd (by rw [e q g2]; exact g3) (h4 q c)
theorem rd_fno {a : Nat → Int32} {t : Nat} {v r : Int32} (h : rd_fnd a t v r) : (r = -1 ∧ r.toInt = -1 ∧ ∀ k, k < t → a k ≠ v) ∨ (0 ≤ r.toInt ∧ r.toInt < (t : Int) ∧ r ≠ -1) := by
  have km : (-1 : Int32).toInt = -1 := by decide
  rcases h with ⟨h1, h2⟩ | ⟨p, h1, h2, h3, h4⟩
  · exact Or.inl ⟨h1, by rw [h1]; exact km, h2⟩
  · exact Or.inr ⟨by omega, by omega, fun e => by rw [e] at h1; omega⟩
theorem rd_findT (fu : Nat) (a : Nat → Int32) (t v : Int32) (n : Nat) (hn : t.toInt = (n : Int)) (h12 : n ≤ 12) : dz_P (f101_X3_find fu a t v) (fun r => rd_fnd a n v r) := by
  have k12 : (12 : Int32).toInt = 12 := by decide
  have k0 : (0 : Int32).toInt = 0 := by decide
  have key : ∀ (f p : Nat) (x : Int32), x.toInt = (p : Int) → p ≤ n → (∀ k, k < p → a k ≠ v) → dz_P (F101_X3_find fu a f t v x) (fun r => rd_fnd a n v r) := by
    intro f
    induction f with
    | zero => intro _ _ _ _ _; exact dz_Pn
    | succ f ih =>
      intro p x hx hp hno
      show dz_P (s101_X3_find_1 fu a (F101_X3_find fu a f) t v x) _
      unfold s101_X3_find_1
      simp only [rd_tc hx]
      refine dz_Pi (fun h1 => dz_Ps (Or.inl ⟨rfl, fun k hk => hno k (by have := rd_le h1; omega)⟩)) (fun h1 => dz_Pi (fun h2 => dz_Ps (Or.inl ⟨rfl, fun k hk => hno k (by have := rd_le h2; omega)⟩)) (fun h2 => dz_Pi (fun _ => dz_Pi (fun h3 => dz_Ps (Or.inr ⟨p, hx, by have := dz_fnle h1; omega, h3, hno⟩)) (fun h3 => ?_)) (fun _ => dz_Pn)))
      have h1 := dz_fnle h1
      refine ih (p + 1) _ (rd_p1 hx (by omega)) (by omega) (fun k hk => ?_)
      by_cases c : k < p
      · exact hno k c
      · rw [show k = p by omega]
        exact h3
  unfold f101_X3_find s101_X3_find_0
  exact key fu 0 0 k0 (Nat.zero_le _) (fun k hk => by omega)
theorem rd_findM (fu : Nat) (a : Nat → Int32) (t v : Int32) (n : Nat) (hn : t.toInt = (n : Int)) (h12 : n ≤ 6) : dz_P (f108_X3_find fu a t v) (fun r => rd_fnd a n v r) := by
  have k12 : (6 : Int32).toInt = 6 := by decide
  have k0 : (0 : Int32).toInt = 0 := by decide
  have key : ∀ (f p : Nat) (x : Int32), x.toInt = (p : Int) → p ≤ n → (∀ k, k < p → a k ≠ v) → dz_P (F108_X3_find fu a f t v x) (fun r => rd_fnd a n v r) := by
    intro f
    induction f with
    | zero => intro _ _ _ _ _; exact dz_Pn
    | succ f ih =>
      intro p x hx hp hno
      show dz_P (s108_X3_find_1 fu a (F108_X3_find fu a f) t v x) _
      unfold s108_X3_find_1
      simp only [rd_tc hx]
      refine dz_Pi (fun h1 => dz_Ps (Or.inl ⟨rfl, fun k hk => hno k (by have := rd_le h1; omega)⟩)) (fun h1 => dz_Pi (fun h2 => dz_Ps (Or.inl ⟨rfl, fun k hk => hno k (by have := rd_le h2; omega)⟩)) (fun h2 => dz_Pi (fun _ => dz_Pi (fun h3 => dz_Ps (Or.inr ⟨p, hx, by have := dz_fnle h1; omega, h3, hno⟩)) (fun h3 => ?_)) (fun _ => dz_Pn)))
      have h1 := dz_fnle h1
      refine ih (p + 1) _ (rd_p1 hx (by omega)) (by omega) (fun k hk => ?_)
      by_cases c : k < p
      · exact hno k c
      · rw [show k = p by omega]
        exact h3
  unfold f108_X3_find s108_X3_find_0
  exact key fu 0 0 k0 (Nat.zero_le _) (fun k hk => by omega)
theorem rd_tmO (fu : Nat) (a : Nat → Int32) (t v : Int32) (n : Nat) (hn : t.toInt = (n : Int)) (h12 : n ≤ 12) : dz_P (f11_X12_teamOf fu t a v) (fun r => rd_fnd a n v r) := by
  have k0 : (0 : Int32).toInt = 0 := by decide
  have key : ∀ (f p : Nat) (x : Int32), x.toInt = (p : Int) → p ≤ n → (∀ k, k < p → a k ≠ v) → dz_P (F11_X12_teamOf fu t a f v x) (fun r => rd_fnd a n v r) := by
    intro f
    induction f with
    | zero => intro _ _ _ _ _; exact dz_Pn
    | succ f ih =>
      intro p x hx hp hno
      show dz_P (s11_X12_teamOf_1 fu t a (F11_X12_teamOf fu t a f) v x) _
      unfold s11_X12_teamOf_1
      simp only [rd_tc hx]
      refine dz_Pi (fun h1 => dz_Ps (Or.inl ⟨rfl, fun k hk => hno k (by have := rd_le h1; omega)⟩)) (fun h1 => dz_Pi (fun _ => dz_Pi (fun h3 => dz_Ps (Or.inr ⟨p, hx, by have := dz_fnle h1; omega, h3, hno⟩)) (fun h3 => ?_)) (fun _ => dz_Pn))
      have h1 := dz_fnle h1
      refine ih (p + 1) _ (rd_p1 hx (by omega)) (by omega) (fun k hk => ?_)
      by_cases c : k < p
      · exact hno k c
      · rw [show k = p by omega]
        exact h3
  unfold f11_X12_teamOf s11_X12_teamOf_0
  exact key fu 0 0 k0 (Nat.zero_le _) (fun k hk => by omega)
theorem rd_mkO (fu : Nat) (a : Nat → Int32) (t v : Int32) (n : Nat) (hn : t.toInt = (n : Int)) (h12 : n ≤ 6) : dz_P (f12_X12_markOf fu t a v) (fun r => rd_fnd a n v r) := by
  have k0 : (0 : Int32).toInt = 0 := by decide
  have key : ∀ (f p : Nat) (x : Int32), x.toInt = (p : Int) → p ≤ n → (∀ k, k < p → a k ≠ v) → dz_P (F12_X12_markOf fu t a f v x) (fun r => rd_fnd a n v r) := by
    intro f
    induction f with
    | zero => intro _ _ _ _ _; exact dz_Pn
    | succ f ih =>
      intro p x hx hp hno
      show dz_P (s12_X12_markOf_1 fu t a (F12_X12_markOf fu t a f) v x) _
      unfold s12_X12_markOf_1
      simp only [rd_tc hx]
      refine dz_Pi (fun h1 => dz_Ps (Or.inl ⟨rfl, fun k hk => hno k (by have := rd_le h1; omega)⟩)) (fun h1 => dz_Pi (fun _ => dz_Pi (fun h3 => dz_Ps (Or.inr ⟨p, hx, by have := dz_fnle h1; omega, h3, hno⟩)) (fun h3 => ?_)) (fun _ => dz_Pn))
      have h1 := dz_fnle h1
      refine ih (p + 1) _ (rd_p1 hx (by omega)) (by omega) (fun k hk => ?_)
      by_cases c : k < p
      · exact hno k c
      · rw [show k = p by omega]
        exact h3
  unfold f12_X12_markOf s12_X12_markOf_0
  exact key fu 0 0 k0 (Nat.zero_le _) (fun k hk => by omega)
/-- a name: a word that none of the seven is -/
def rd_nm (kC vC : Int32) : Prop := kC = 1 ∧ ∀ j, j < 7 → vC.toInt ≠ rd_kv j
theorem rd_Rn {kC vC kR wR : Int32} (h : rd_R kC vC kR wR) : (rd_nm kC vC ∧ kR = 2 ∧ wR = vC) ∨ (¬ rd_nm kC vC ∧ kR ≠ 2) := by
  rcases h with ⟨a, b⟩ | ⟨a, ⟨j, b, c, d, e⟩ | ⟨b, c, d⟩⟩ | ⟨a, b, c⟩ | ⟨a, b⟩ | ⟨a, b⟩
  · exact Or.inr ⟨fun q => absurd (a.symm.trans q.1) (by decide), by rw [b]; decide⟩
  · exact Or.inr ⟨fun q => q.2 j b c, by rw [d]; decide⟩
  · exact Or.inl ⟨⟨a, b⟩, c, d⟩
  · exact Or.inr ⟨fun q => absurd (a.symm.trans q.1) (by decide), by rw [b]; decide⟩
  · exact Or.inr ⟨fun q => absurd (a.symm.trans q.1) (by decide), by rw [b]; decide⟩
  · exact Or.inr ⟨fun q => absurd (a.symm.trans q.1) (by decide), by rw [b]; decide⟩
theorem rd_R3 {kC vC kR wR : Int32} (h : rd_R kC vC kR wR) : (kC = 3 ↔ kR = 4) ∧ (kC = 0 ↔ kR = 0) ∧ (kC = 2 ↔ kR = 3) := by
  rcases h with ⟨a, b⟩ | ⟨a, ⟨j, -, -, d, -⟩ | ⟨-, d, -⟩⟩ | ⟨a, b, -⟩ | ⟨a, b⟩ | ⟨a, b⟩
  · rw [a, b]; decide
  · rw [a, d]; decide
  · rw [a, d]; decide
  · rw [a, b]; decide
  · rw [a, b]; decide
  · rw [a, b]; decide
theorem rd_langP (fu : Nat) (v : Int32) : dz_P (f99_X5_isOfLanguage fu v) (fun r => (r ≠ 0 ∧ ∃ j : Nat, j < 7 ∧ v.toInt = rd_kv j) ∨ (r = 0 ∧ ∀ j, j < 7 → v.toInt ≠ rd_kv j)) := by
  have e0 : (254268947 : Int32).toInt = rd_kv 0 := by decide
  have e1 : (553254912 : Int32).toInt = rd_kv 1 := by decide
  have e2 : (437857280 : Int32).toInt = rd_kv 2 := by decide
  have e3 : (54967924 : Int32).toInt = rd_kv 3 := by decide
  have e4 : (50383488 : Int32).toInt = rd_kv 4 := by decide
  have e5 : (475731520 : Int32).toInt = rd_kv 5 := by decide
  have e6 : (211555456 : Int32).toInt = rd_kv 6 := by decide
  unfold f99_X5_isOfLanguage s99_X5_isOfLanguage_0
  refine dz_Pi (fun h => dz_Ps (Or.inl ⟨by decide, 4, by decide, by rw [h, e4]⟩)) (fun h4 => dz_Pi (fun h => dz_Ps (Or.inl ⟨by decide, 3, by decide, by rw [h, e3]⟩)) (fun h3 => dz_Pi (fun h => dz_Ps (Or.inl ⟨by decide, 6, by decide, by rw [h, e6]⟩)) (fun h6 => dz_Pi (fun h => dz_Ps (Or.inl ⟨by decide, 0, by decide, by rw [h, e0]⟩)) (fun h0 => dz_Pi (fun h => dz_Ps (Or.inl ⟨by decide, 2, by decide, by rw [h, e2]⟩)) (fun h2 => dz_Pi (fun h => dz_Ps (Or.inl ⟨by decide, 5, by decide, by rw [h, e5]⟩)) (fun h5 => dz_Pi (fun h => dz_Ps (Or.inl ⟨by decide, 1, by decide, by rw [h, e1]⟩)) (fun h1 => dz_Ps (Or.inr ⟨rfl, fun j hj => ?_⟩))))))))
  rcases (show j = 0 ∨ j = 1 ∨ j = 2 ∨ j = 3 ∨ j = 4 ∨ j = 5 ∨ j = 6 by omega) with rfl | rfl | rfl | rfl | rfl | rfl | rfl
  · rw [← e0]; exact dz_fne h0
  · rw [← e1]; exact dz_fne h1
  · rw [← e2]; exact dz_fne h2
  · rw [← e3]; exact dz_fne h3
  · rw [← e4]; exact dz_fne h4
  · rw [← e5]; exact dz_fne h5
  · rw [← e6]; exact dz_fne h6
theorem rd_nameP (fu : Nat) (kC sC vC fl pl : Int32) : dz_P (f100_X5_isName fu kC sC vC fl pl) (fun r => (r.1 ≠ 0 ∧ rd_nm kC vC ∧ r.2.1 = fl ∧ r.2.2 = pl) ∨ (r.1 = 0 ∧ ¬ rd_nm kC vC ∧ r.2.1 = 1 ∧ r.2.2 = sC)) := by
  have l2 : dz_P (d100_X5_isName_2 fu kC sC vC fl pl) (fun r => r = (1, fl, pl)) := dz_Ps rfl
  have l1 : dz_P (d100_X5_isName_1 fu kC sC vC fl pl) (fun r => r = (0, 1, sC)) := by
    unfold d100_X5_isName_1 s100_X5_isName_1 f97_X5_fail s97_X5_fail_0
    exact dz_Psb (dz_Pi (fun _ => dz_Ps rfl) (fun h => absurd rfl h))
  unfold f100_X5_isName s100_X5_isName_0
  refine dz_Pi (fun h => dz_Pb (rd_langP fu vC) (fun r hr => dz_Pi (fun h0 => ?_) (fun h0 => ?_))) (fun h => ?_)
  · intro z e
    have e := l2 z e
    subst e
    exact Or.inl ⟨by show (1 : Int32) ≠ 0; decide, ⟨h, hr.elim (fun q => absurd h0 q.1) (fun q => q.2)⟩, rfl, rfl⟩
  · intro z e
    have e := l1 z e
    subst e
    obtain ⟨j, j1, j2⟩ := hr.elim (fun q => q.2) (fun q => absurd q.1 h0)
    exact Or.inr ⟨rfl, fun q => q.2 j j1 j2, rfl, rfl⟩
  · intro z e
    have e := l1 z e
    subst e
    exact Or.inr ⟨rfl, fun q => h q.1, rfl, rfl⟩
