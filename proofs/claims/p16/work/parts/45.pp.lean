/-! the reference's weights: what is placed of a pot -/
def dz_pp (G R : Nat) (a54 a55 : Nat → Int32) (t : Int) (m : Nat) : Prop := (∃ r, r < R ∧ ∀ k, k < m → (a54 k).toInt / (G : Int) = t → (a55 k).toInt = dz_pr G r ((a54 k).toInt % (G : Int)).toNat) ∧ (∀ j k, j < k → k < m → (a54 j).toInt ≠ (a54 k).toInt)
theorem dz_ppJ {κ P : Nat} {lawful out : Int32} {a49 a50 a54 a55 : Nat → Int32} {t : Int} {m : Nat} (hκ : κ < 14) (h : dz_J κ lawful out a49 a50 a54 a55) (hl : lawful.toInt ≠ 0 ∨ m = 0) (hgq : dz_gq (dz_kg κ) (dz_kr κ) P a50 (12 * dz_kt κ)) (hP : P = dz_kp κ) (hm : m ≤ out.toInt.toNat) : dz_pp (dz_kg κ) (dz_kr κ) a54 a55 t m := by
  have hr := dz_kr4 hκ
  refine ⟨?_, fun j k h1 h2 => h.2.2.2.1 j k h1 (by omega)⟩
  rcases hl with hl | hl
  · obtain ⟨c, hc, hz, ha⟩ := h.2.1 hl
    refine ⟨c / dz_kr κ ^ (dz_kp κ - 1 - t.toNat) % dz_kr κ, Nat.mod_lt _ (by omega), fun k hk e => ?_⟩
    have b := h.2.2.1 k (by omega)
    have r := dz_gqat hκ hgq hP hc b.1 b.2
    rw [e] at r
    rw [← r]
    exact (ha k (by omega)).symm
  · exact ⟨0, by omega, fun k hk => by omega⟩
def dz_pv (G r : Nat) (a54 : Nat → Int32) (t : Int) (p k : Nat) : Prop := p < (G + 1) ^ G ∧ dz_ft G p r ∧ ∀ i, i < G → dz_dg G p i ≠ G → ∃ j, j < k ∧ (a54 j).toInt = t * (G : Int) + (i : Int)
theorem dz_pv0 {G r : Nat} {a54 : Nat → Int32} {t : Int} {p : Nat} (hG : G = 2 ∨ G = 3 ∨ G = 4) (hp : p = (G + 1) ^ G - 1) : dz_pv G r a54 t p 0 := by
  subst hp
  refine ⟨?_, fun i hi hd => ?_, fun i hi hd => absurd (dz_dgT hG hi) hd⟩
  · have : 0 < (G + 1) ^ G := Nat.pow_pos (by omega)
    omega
  · rw [dz_dgT hG hi] at hd; omega
theorem dz_pvd {G r : Nat} {a54 : Nat → Int32} {t : Int} {p k m : Nat} {R : Nat} {a55 : Nat → Int32} (hp : dz_pp G R a54 a55 t m) (h : dz_pv G r a54 t p k) (hk : k < m) (hG : 0 < G) (b0 : 0 ≤ (a54 k).toInt) (e : (a54 k).toInt / (G : Int) = t) : dz_dg G p ((a54 k).toInt % (G : Int)).toNat = G := by
  apply Classical.byContradiction
  intro q
  have d := dz_ediv (a := (a54 k).toInt) (b := (G : Int)) b0 (by omega)
  obtain ⟨j, hj, ej⟩ := h.2.2 _ (by omega) q
  apply hp.2 j k hj hk
  rw [ej, ← e]
  omega
theorem dz_pvs {G r R : Nat} {a54 a55 : Nat → Int32} {t : Int} {p p' k m : Nat} (hG : G = 2 ∨ G = 3 ∨ G = 4) (hR : R = dz_R G) (hr : r < R) (hp : dz_pp G R a54 a55 t m) (hf : (a55 k).toInt = dz_pr G r ((a54 k).toInt % (G : Int)).toNat) (h : dz_pv G r a54 t p k) (hk : k < m) (b0 : 0 ≤ (a54 k).toInt) (e : (a54 k).toInt / (G : Int) = t) (w : p' + (G - (a55 k).toInt.toNat) * (G + 1) ^ ((a54 k).toInt % (G : Int)).toNat = p) : dz_pv G r a54 t p' (k + 1) := by
  have d := dz_ediv (a := (a54 k).toInt) (b := (G : Int)) b0 (by omega)
  have hi : ((a54 k).toInt % (G : Int)).toNat < G := by omega
  have b := dz_prb hG (hR ▸ hr) hi
  have s := dz_sds hG hi (show (a55 k).toInt.toNat < G by omega) h.1 (dz_pvd hp h hk (by omega) b0 e) w
  refine ⟨s.1, dz_sdf s h.2.1 (by rw [← hf]; omega) hi, fun i h1 h2 => ?_⟩
  by_cases z : i = ((a54 k).toInt % (G : Int)).toNat
  · refine ⟨k, by omega, ?_⟩
    rw [z, ← e]
    omega
  · rw [s.2.2.2 i h1 z] at h2
    obtain ⟨j, hj, ej⟩ := h.2.2 i h1 h2
    exact ⟨j, by omega, ej⟩
theorem dz_pvm {G r : Nat} {a54 : Nat → Int32} {t : Int} {p k k' : Nat} (h : dz_pv G r a54 t p k) (e : k ≤ k') : dz_pv G r a54 t p k' := by
  refine ⟨h.1, h.2.1, fun i h1 h2 => ?_⟩
  obtain ⟨j, hj, ej⟩ := h.2.2 i h1 h2
  exact ⟨j, by omega, ej⟩
theorem dz_dgge {G p i : Nat} (h : dz_dg G p i = G) : G * (G + 1) ^ i ≤ p := by
  unfold dz_dg at h
  have h1 := Nat.mod_le (p / (G + 1) ^ i) (G + 1)
  have h2 : G ≤ p / (G + 1) ^ i := by omega
  exact (Nat.le_div_iff_mul_le (Nat.pow_pos (by omega))).mp h2
theorem t56_X12_placedPart_L (fu : Nat) (g parts : Int32) (a54 a55 a63 : Nat → Int32) (v1 v2 : Int32) (G R r : Nat) (hG : G = 2 ∨ G = 3 ∨ G = 4) (hR : R = dz_R G) (hr : r < R) (hg : g.toInt = (G : Int)) (h63 : dz_pwt G G a63) (hb : dz_rg a54 12 0 11) (m12 : v2.toInt ≤ 12) (m0 : 0 ≤ v2.toInt) (hp : dz_pp G R a54 a55 v1.toInt v2.toInt.toNat) (hf : ∀ k, k < v2.toInt.toNat → (a54 k).toInt / (G : Int) = v1.toInt → (a55 k).toInt = dz_pr G r ((a54 k).toInt % (G : Int)).toNat) : ∀ (n k : Nat) (v3 v4 : Int32), 0 ≤ v4.toInt → v4.toInt + (n : Int) = v2.toInt → 2 * n + 1 ≤ k → 0 ≤ v3.toInt → dz_pv G r a54 v1.toInt v3.toInt.toNat v4.toInt.toNat → dz_T ((F56_X12_placedPart fu g parts a54 a55 a63 k).1 v1 v2 v3 v4) (fun q => 0 ≤ q.toInt ∧ dz_pv G r a54 v1.toInt q.toInt.toNat v2.toInt.toNat) := by
  intro n
  induction n with
  | zero =>
    intro k v3 v4 h4 hn hk h3 hv
    obtain ⟨kk, rfl⟩ : ∃ y, k = y + 1 := ⟨k - 1, by omega⟩
    show dz_T (s56_X12_placedPart_1 fu g parts a54 a55 a63 (F56_X12_placedPart fu g parts a54 a55 a63 kk).2 v1 v2 v3 v4) _
    unfold s56_X12_placedPart_1
    refine dz_Tle (fun h => dz_Ts ⟨h3, dz_pvm hv (by omega)⟩) (fun h => ?_)
    exfalso; omega
  | succ n ih =>
    intro k v3 v4 h4 hn hk h3 hv
    obtain ⟨kk, rfl⟩ : ∃ y, k = y + 2 := ⟨k - 2, by omega⟩
    show dz_T (s56_X12_placedPart_1 fu g parts a54 a55 a63 (F56_X12_placedPart fu g parts a54 a55 a63 (kk + 1)).2 v1 v2 v3 v4) _
    unfold s56_X12_placedPart_1
    have t4 := dz_tn v4
    have l1 : (1 : Int32).toInt = 1 := by decide
    have e4 := dz_add (a := v4) (b := 1) (by omega) (by omega)
    have b := hb v4.toNatClampNeg (by omega)
    have d := dz_divv (a := a54 v4.toNatClampNeg) (b := g) b.1 (by omega)
    have gz : g.toInt ≠ 0 := by omega
    refine dz_Tle (fun h => ?_) (fun h => ?_)
    · exfalso; omega
    refine dz_Tin (by omega) (by omega) (dz_Tz gz ?_)
    refine dz_Teq (fun h => ?_) (fun h => ?_)
    · have e : (a54 v4.toNatClampNeg).toInt / (G : Int) = v1.toInt := by rw [← hg, ← d.1]; exact h
      have hf1 := hf v4.toNatClampNeg (by omega) e
      have rm := dz_remv (a := a54 v4.toNatClampNeg) (b := g) b.1 (by omega)
      have ei : (dz_rem (a54 v4.toNatClampNeg) g).toInt = (a54 v4.toNatClampNeg).toInt % (G : Int) := by rw [rm.1, hg]
      have hi : ((a54 v4.toNatClampNeg).toInt % (G : Int)).toNat < G := by omega
      have bp := dz_prb hG (hR ▸ hr) hi
      have hd := dz_pvd hp (k := v4.toNatClampNeg) (by rw [t4]; exact hv) (by omega) (by omega) b.1 e
      have hge := dz_dgge hd
      have p63 : (a63 (dz_rem (a54 v4.toNatClampNeg) g).toNatClampNeg).toInt = (((G + 1) ^ ((a54 v4.toNatClampNeg).toInt % (G : Int)).toNat : Nat) : Int) := by
        rw [dz_tn, ei]; exact h63 _ hi
      have pl : v3.toInt.toNat < 1000 := by
        have := hv.1
        have q : (G + 1) ^ G ≤ 625 := by rcases hG with rfl | rfl | rfl <;> decide
        omega
      generalize hW : (G + 1) ^ ((a54 v4.toNatClampNeg).toInt % (G : Int)).toNat = W at hge p63
      have es := dz_sub (a := g) (b := a55 v4.toNatClampNeg) (by omega) (by omega)
      have wb : W ≤ 1000 := by
        have : 1 * W ≤ G * W := Nat.mul_le_mul_right W (by omega)
        omega
      have pr1 : 0 ≤ (g - (a55 v4.toNatClampNeg)).toInt * (a63 (dz_rem (a54 v4.toNatClampNeg) g).toNatClampNeg).toInt := Int.mul_nonneg (by omega) (by omega)
      have pr2 : (g - (a55 v4.toNatClampNeg)).toInt * (a63 (dz_rem (a54 v4.toNatClampNeg) g).toNatClampNeg).toInt ≤ ((G * W : Nat) : Int) := by
        rw [Int.natCast_mul, p63]
        exact Int.mul_le_mul_of_nonneg_right (by omega) (by omega)
      have em := dz_mul (a := g - (a55 v4.toNatClampNeg)) (b := a63 (dz_rem (a54 v4.toNatClampNeg) g).toNatClampNeg) (by omega) (by omega)
      have ep := dz_sub (a := v3) (b := (g - (a55 v4.toNatClampNeg)) * (a63 (dz_rem (a54 v4.toNatClampNeg) g).toNatClampNeg)) (by omega) (by omega)
      refine dz_Tin (by omega) (by omega) (dz_Tin (by omega) (by omega) (dz_Tz gz (dz_Tin (by omega) (by omega) ?_)))
      show dz_T ((F56_X12_placedPart fu g parts a54 a55 a63 kk).1 v1 v2 (v3 - ((g - (a55 v4.toNatClampNeg)) * (a63 (dz_rem (a54 v4.toNatClampNeg) g).toNatClampNeg))) (v4 + 1)) _
      refine ih kk _ (v4 + 1) (by omega) (by omega) (by omega) (by omega) ?_
      have cast : (((G - (a55 v4.toNatClampNeg).toInt.toNat) * W : Nat) : Int) = (g - (a55 v4.toNatClampNeg)).toInt * (a63 (dz_rem (a54 v4.toNatClampNeg) g).toNatClampNeg).toInt := by
        rw [Int.natCast_mul, p63]
        congr 1
        omega
      have st := dz_pvs (k := v4.toNatClampNeg) (p' := (v3 - ((g - (a55 v4.toNatClampNeg)) * (a63 (dz_rem (a54 v4.toNatClampNeg) g).toNatClampNeg))).toInt.toNat) hG hR hr hp hf1 (by rw [t4]; exact hv) (by omega) b.1 e (by rw [hW]; omega)
      rw [show (v4 + 1).toInt.toNat = v4.toNatClampNeg + 1 by omega]
      exact st
    · show dz_T ((F56_X12_placedPart fu g parts a54 a55 a63 kk).1 v1 v2 v3 (v4 + 1)) _
      exact ih kk v3 (v4 + 1) (by omega) (by omega) (by omega) h3 (dz_pvm hv (by omega))
