theorem dz_poj {G R : Nat} {a57 a62 : Nat → Int32} {m w p i k j p' : Int32} (kk : Nat) (N Q : Int) (hi : i.toInt = (kk : Int)) (hN : (((G + 1) ^ kk : Nat) : Int) = N) (hQ : (((G + 1) ^ G : Nat) : Int) = Q) (hG : G = 2 ∨ G = 3 ∨ G = 4) (h : dz_ag G a62 p.toInt.toNat w m G) (hv : dz_hv G R a62) (hd : dz_dg G p.toInt.toNat i.toInt.toNat = G) (i1 : i.toInt < (G : Int)) (l0 : 0 ≤ (a57 k.toNatClampNeg).toInt) (l1 : (a57 k.toNatClampNeg).toInt < (G : Int)) (hj : j.toInt = 4 * i.toInt + (a57 k.toNatClampNeg).toInt) (q : (m &&& (a62 j.toNatClampNeg)).toInt ≠ 0) (p0 : 0 ≤ p.toInt) (p1 : p.toInt < Q) (e : p'.toInt = p.toInt - ((G : Int) - (a57 k.toNatClampNeg).toInt) * N) (e0 : 0 ≤ p'.toInt) : dz_po G R w p.toInt.toNat p'.toInt.toNat i.toInt.toNat := by
  refine dz_poi (a57 := a57) (k := k) (j := j) hG h hv hd (by omega) i1 l0 l1 hj q p0 (by omega) ?_
  have hk : i.toInt.toNat = kk := by omega
  rw [hk]
  have h1 : (((G - (a57 k.toNatClampNeg).toInt.toNat) * (G + 1) ^ kk : Nat) : Int) = ((G : Int) - (a57 k.toNatClampNeg).toInt) * N := by
    rw [Int.natCast_mul, hN]
    congr 1
    omega
  generalize (G - (a57 k.toNatClampNeg).toInt.toNat) * (G + 1) ^ kk = z at h1 ⊢
  generalize ((G : Int) - (a57 k.toNatClampNeg).toInt) * N = y at h1 e
  omega
theorem dz_lvg {R : Nat} {a : Nat → Int32} {n : Nat} {i : Int32} (h : dz_lv R a n) (i0 : 0 ≤ i.toInt) (hi : i.toInt ≤ (n : Int)) : (a i.toNatClampNeg).toInt = ((dz_geo R i.toInt.toNat : Nat) : Int) := by
  rw [dz_tn]
  exact h _ (by omega)
theorem dz_MKz {R P : Nat} {a58 a59 : Nat → Int32} {i v : Int32} {kp xp n : Nat} (h1 : dz_zr a59 v.toInt.toNat) (h0 : dz_lv R a58 n) (hi : i.toInt = (P : Int) + 1) (hn : (P : Int) + 1 ≤ (n : Int)) (hle : (a58 i.toNatClampNeg).toInt ≤ v.toInt) : dz_MK R P a59 kp xp := by
  have e := dz_lvg h0 (i := i) (by omega) (by omega)
  apply dz_MK0 h1
  have : dz_geo R (P + 1) = dz_geo R P + R ^ P := rfl
  rw [show i.toInt.toNat = P + 1 by omega] at e
  omega
theorem dz_pwtp2 {n : Nat} {a : Nat → Int32} (h : dz_pwt 2 n a) (hn : 2 ≤ n) : dz_pt a [1, 3] := dz_ptmk2 (h 0 (by omega)) (h 1 (by omega))
theorem dz_pwtp3 {n : Nat} {a : Nat → Int32} (h : dz_pwt 3 n a) (hn : 3 ≤ n) : dz_pt a [1, 4, 16] := dz_ptmk3 (h 0 (by omega)) (h 1 (by omega)) (h 2 (by omega))
theorem dz_pwtp4 {n : Nat} {a : Nat → Int32} (h : dz_pwt 4 n a) (hn : 4 ≤ n) : dz_pt a [1, 5, 25, 125] := dz_ptmk4 (h 0 (by omega)) (h 1 (by omega)) (h 2 (by omega)) (h 3 (by omega))
theorem dz_cpm {a b : Nat → Int32} {n m : Nat} (h : dz_cp a b n) (e : m ≤ n) : dz_cp a b m := fun j hj => h j (by omega)
theorem dz_pmcp {a b : Nat → Int32} {p m : Nat} (h : dz_cp a b 4) (hp : dz_pm b p) (h4 : p ≤ 4) (e : m = p) : dz_pm a m := by
  subst e
  obtain ⟨xs, hx, ht⟩ := hp
  refine ⟨xs, hx, fun k x w => ?_⟩
  have hb := dz_pmb h4 xs hx
  rcases Nat.lt_or_ge k 4 with q | q
  · rw [h k q]; exact ht k x w
  · rw [List.getElem?_eq_none (by omega)] at w; cases w
theorem dz_pqpm {a : Nat → Int32} {p m : Nat} (hp : dz_pm a p) (h4 : p ≤ 4) (e : m = p) : dz_pq a m := fun k hk => by
  have := dz_pmr (lo := 0) (hi := (p : Int) - 1) hp h4 (Nat.le_refl p) (by omega) (by omega) k (by omega)
  omega
theorem dz_nolf {l : Int32} {a : Nat → Int32} {n : Nat} {A B : Prop} (h : A ∨ B ∨ dz_na a n) (hl : dz_lf l a n) (q : l.toInt ≠ 0) : B ∨ A := by
  rcases h with h | h | h
  · exact Or.inr h
  · exact Or.inl h
  · obtain ⟨c, hc, hz⟩ := hl q
    exact absurd hz (h c hc)
/-- the next set is not empty -/
theorem dz_MKn {R P : Nat} {a58 a59 : Nat → Int32} {k x r i j : Int32} {n : Nat} (h : dz_MK R P a59 0 0) (hl : dz_lv R a58 n) (hn : (P : Int) ≤ (n : Int)) (k0 : 0 ≤ k.toInt) (kP : k.toInt + 1 < (P : Int)) (x0 : 0 ≤ x.toInt) (hx : x.toInt.toNat < R ^ k.toInt.toNat) (r0 : 0 ≤ r.toInt) (r1 : r.toInt < (R : Int)) (hi : i.toInt = (a58 k.toNatClampNeg).toInt + x.toInt) (hb : dz_bit (a59 i.toNatClampNeg) r.toInt.toNat) (hj : ∃ k' : Int32, k'.toInt = k.toInt + 1 ∧ j.toInt = (a58 k'.toNatClampNeg).toInt + (x.toInt * (R : Int) + r.toInt)) : dz_mz R (a59 j.toNatClampNeg) := by
  obtain ⟨k', e1, e2⟩ := hj
  have g1 := dz_lvg hl (i := k) k0 (by omega)
  have g2 := dz_lvg hl (i := k') (by omega) (by omega)
  have t1 := dz_tn i
  have t2 := dz_tn j
  have ei : i.toNatClampNeg = dz_geo R k.toInt.toNat + x.toInt.toNat := by omega
  rw [ei] at hb
  rw [e2, g2, show k'.toInt.toNat = k.toInt.toNat + 1 by omega] at t2
  have em : (((x.toInt.toNat * R + r.toInt.toNat : Nat)) : Int) = x.toInt * (R : Int) + r.toInt := by
    rw [Int.natCast_add, Int.natCast_mul, Int.toNat_of_nonneg x0, Int.toNat_of_nonneg r0]
  rw [← em] at t2
  rcases h k.toInt.toNat x.toInt.toNat r.toInt.toNat (by omega) hx (by omega) hb with q | q
  · rw [show j.toNatClampNeg = dz_geo R (k.toInt.toNat + 1) + (x.toInt.toNat * R + r.toInt.toNat) by omega]
    exact q
  · omega
/-- put -/
theorem dz_dgT {G i : Nat} (hG : G = 2 ∨ G = 3 ∨ G = 4) (hi : i < G) : dz_dg G ((G + 1) ^ G - 1) i = G := by
  rcases hG with rfl | rfl | rfl
  · exact (by decide : ∀ i : Fin 2, dz_dg 2 ((2 + 1) ^ 2 - 1) i.val = 2) ⟨i, hi⟩
  · exact (by decide : ∀ i : Fin 3, dz_dg 3 ((3 + 1) ^ 3 - 1) i.val = 3) ⟨i, hi⟩
  · exact (by decide : ∀ i : Fin 4, dz_dg 4 ((4 + 1) ^ 4 - 1) i.val = 4) ⟨i, hi⟩
theorem dz_me0 {G R p : Nat} {m : Int32} (hG : G = 2 ∨ G = 3 ∨ G = 4) (h : dz_mz R m) (hp : p = (G + 1) ^ G - 1) : dz_me G R m p := by
  obtain ⟨r, h1, h2⟩ := h
  subst hp
  exact ⟨r, h1, h2, fun i hi hd => by rw [dz_dgT hG hi] at hd; omega⟩
def dz_dn (G b p n : Nat) : Prop := (∀ i, n ≤ i → i < G → dz_dg G p (dz_pr G b i).toNat = G) ∧ (∀ i, i < n → i < G → dz_dg G p (dz_pr G b i).toNat < G)
theorem dz_dn0 {G R b p n : Nat} (hG : G = 2 ∨ G = 3 ∨ G = 4) (hR : R = dz_R G) (hb : b < R) (hp : p = (G + 1) ^ G - 1) (hn : n = 0) : dz_dn G b p n := by
  subst hp hn
  refine ⟨fun i _ hi => ?_, fun i hi => by omega⟩
  have q := dz_prb hG (hR ▸ hb) hi
  exact dz_dgT hG (by omega)
theorem dz_dng {G b p n : Nat} {w : Int32} (h : dz_dn G b p n) (hn : n < G) (hw : w.toInt = dz_pr G b n) : dz_dg G p w.toInt.toNat = G := by
  rw [hw]; exact h.1 n (Nat.le_refl n) hn
theorem dz_dns {G R b p p' n n' : Nat} {w : Int32} (hG : G = 2 ∨ G = 3 ∨ G = 4) (hR : R = dz_R G) (hb : b < R) (h : dz_dn G b p n) (hn : n < G) (hw : w.toInt = dz_pr G b n) (hs : ∃ g, dz_sd G p p' w.toInt.toNat g) (e : n' = n + 1) : dz_dn G b p' n' := by
  obtain ⟨g, hs⟩ := hs
  subst e
  rw [hw] at hs
  have q := fun i (hi : i < G) => dz_prb hG (hR ▸ hb) hi
  have u := fun i (hi : i < G) (z : i ≠ n) (e : (dz_pr G b i).toNat = (dz_pr G b n).toNat) => z (dz_pri hG (hR ▸ hb) hi hn (by have := q i hi; have := q n hn; omega))
  refine ⟨fun i h1 h2 => ?_, fun i h1 h2 => ?_⟩
  · rw [hs.2.2.2 _ (by have := q i h2; omega) (u i h2 (by omega))]
    exact h.1 i (by omega) h2
  · by_cases z : i = n
    · rw [z, hs.2.2.1]; exact hs.2.1
    · rw [hs.2.2.2 _ (by have := q i h2; omega) (u i h2 z)]
      exact h.2 i (by omega) h2
theorem dz_prv {G r j : Nat} (hG : G = 2 ∨ G = 3 ∨ G = 4) (hr : r < dz_R G) (hj : j < G) : ∃ i, i < G ∧ (dz_pr G r i).toNat = j := by
  rcases hG with rfl | rfl | rfl
  · obtain ⟨i, e⟩ := (by decide : ∀ r : Fin 2, ∀ j : Fin 2, ∃ i : Fin 2, (dz_pr 2 r.val i.val).toNat = j.val) ⟨r, hr⟩ ⟨j, hj⟩
    exact ⟨i.val, i.isLt, e⟩
  · obtain ⟨i, e⟩ := (by decide +kernel : ∀ r : Fin 6, ∀ j : Fin 3, ∃ i : Fin 3, (dz_pr 3 r.val i.val).toNat = j.val) ⟨r, hr⟩ ⟨j, hj⟩
    exact ⟨i.val, i.isLt, e⟩
  · obtain ⟨i, e⟩ := (by decide +kernel : ∀ r : Fin 24, ∀ j : Fin 4, ∃ i : Fin 4, (dz_pr 4 r.val i.val).toNat = j.val) ⟨r, hr⟩ ⟨j, hj⟩
    exact ⟨i.val, i.isLt, e⟩
theorem dz_putR {G R b p n r : Nat} {m : Int32} (hG : G = 2 ∨ G = 3 ∨ G = 4) (hR : R = dz_R G) (h : dz_me G R m p) (hd : dz_dn G b p n) (hn : G ≤ n) (hb : b < R) (hr : r < R) (hf : dz_ft G p r) : dz_bit m r := by
  obtain ⟨q, h1, h2, h3⟩ := h
  have e : r = q := by
    apply dz_pru hG (hR ▸ hr) (hR ▸ h1)
    intro i hi
    obtain ⟨j, hj, ej⟩ := dz_prv hG (hR ▸ hb) hi
    have w := hd.2 j (by omega) hj
    rw [ej] at w
    rw [hf i hi w, h3 i hi w]
  rw [e]; exact h2
