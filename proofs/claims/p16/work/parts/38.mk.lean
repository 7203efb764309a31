/-! the reference's masks: digits of a pot's part -/
theorem dz_dgb {G p i : Nat} : dz_dg G p i ≤ G := by
  have := Nat.mod_lt (p / (G + 1) ^ i) (show 0 < G + 1 by omega)
  unfold dz_dg
  omega
theorem dz_dgv {G : Nat} {p i d : Int32} (hG : G = 2 ∨ G = 3 ∨ G = 4) (p0 : 0 ≤ p.toInt) (i0 : 0 ≤ i.toInt) (i1 : i.toInt < (G : Int)) (h : d.toInt = p.toInt / (((G + 1) ^ i.toInt.toNat : Nat) : Int) % ((G : Int) + 1)) : d.toInt = ((dz_dg G p.toInt.toNat i.toInt.toNat : Nat) : Int) := by
  rw [h]
  unfold dz_dg
  have w := Int.toNat_of_nonneg p0
  generalize p.toInt.toNat = m at w ⊢
  rw [← w]
  rfl
def dz_ag (G : Nat) (a : Nat → Int32) (p : Nat) (m w : Int32) (n : Nat) : Prop := ∀ r, dz_bit w r ↔ (dz_bit m r ∧ ∀ i, i < n → dz_dg G p i < G → dz_bit (a (4 * i + dz_dg G p i)) r)
theorem dz_ag0 {G : Nat} {a : Nat → Int32} {p : Nat} {m : Int32} {n : Nat} (h : n = 0) : dz_ag G a p m m n := fun r => ⟨fun q => ⟨q, fun i hi => by omega⟩, fun q => q.1⟩
theorem dz_agm {G : Nat} {a : Nat → Int32} {p : Nat} {m w : Int32} {n n' : Nat} (h : dz_ag G a p m w n) (e : n' = n) : dz_ag G a p m w n' := e ▸ h
theorem dz_ags {G : Nat} {a : Nat → Int32} {p : Nat} {m w i i' d j : Int32} (h : dz_ag G a p m w i.toInt.toNat) (i0 : 0 ≤ i.toInt) (i3 : i.toInt ≤ 3) (e : i'.toInt = i.toInt + 1) (hd : d.toInt = ((dz_dg G p i.toInt.toNat : Nat) : Int)) (hl : d.toInt < (G : Int)) (hj : j.toInt = 4 * i.toInt + d.toInt) : dz_ag G a p m (w &&& (a j.toNatClampNeg)) i'.toInt.toNat := fun r => by
  have t := dz_tn j
  have ej : j.toNatClampNeg = 4 * i.toInt.toNat + dz_dg G p i.toInt.toNat := by omega
  rw [dz_bit_and, h r, ej]
  constructor
  · rintro ⟨⟨q1, q2⟩, q3⟩
    refine ⟨q1, fun k hk hg => ?_⟩
    by_cases z : k = i.toInt.toNat
    · rw [z]; exact q3
    · exact q2 k (by omega) hg
  · rintro ⟨q1, q2⟩
    exact ⟨⟨q1, fun k hk hg => q2 k (by omega) hg⟩, q2 _ (by omega) (by omega)⟩
theorem dz_agn {G : Nat} {a : Nat → Int32} {p : Nat} {m w i i' d : Int32} (h : dz_ag G a p m w i.toInt.toNat) (i0 : 0 ≤ i.toInt) (e : i'.toInt = i.toInt + 1) (hd : d.toInt = ((dz_dg G p i.toInt.toNat : Nat) : Int)) (hl : (G : Int) ≤ d.toInt) : dz_ag G a p m w i'.toInt.toNat := fun r => by
  rw [h r]
  constructor
  · rintro ⟨q1, q2⟩
    refine ⟨q1, fun k hk hg => ?_⟩
    by_cases z : k = i.toInt.toNat
    · rw [z] at hg; omega
    · exact q2 k (by omega) hg
  · rintro ⟨q1, q2⟩
    exact ⟨q1, fun k hk hg => q2 k (by omega) hg⟩
/-- what agrees: the ranks whose rows fit -/
theorem dz_agf {G R p r : Nat} {a : Nat → Int32} {m w : Int32} (h : dz_ag G a p m w G) (hv : dz_hv G R a) (hr : r < R) : dz_bit w r ↔ (dz_bit m r ∧ dz_ft G p r) := by
  rw [h r]
  constructor
  · rintro ⟨q1, q2⟩
    exact ⟨q1, fun i hi hg => ((hv i _ r hi hg).mp (q2 i hi hg)).2⟩
  · rintro ⟨q1, q2⟩
    exact ⟨q1, fun i hi hg => (hv i _ r hi hg).mpr ⟨hr, q2 i hi hg⟩⟩
def dz_fe (G R p : Nat) : Prop := ∃ r, r < R ∧ dz_ft G p r
def dz_me (G R : Nat) (m : Int32) (p : Nat) : Prop := ∃ r, r < R ∧ dz_bit m r ∧ dz_ft G p r
theorem dz_mf {G R : Nat} {m : Int32} {p : Nat} (h : dz_me G R m p) : dz_fe G R p := by
  obtain ⟨r, a, b, c⟩ := h
  exact ⟨r, a, c⟩
/-- rankOf's row of bits -/
def dz_be (m k : Int32) (n : Nat) : Prop := ∃ r : Nat, k.toInt ≤ (r : Int) ∧ r < n ∧ dz_bit m r
theorem dz_bel {m k : Int32} {n : Nat} (h : dz_be m k n) : k.toInt < (n : Int) := by
  obtain ⟨r, a, b, _⟩ := h
  omega
theorem dz_bes {m k k' : Int32} {n : Nat} (h : dz_be m k n) (k0 : 0 ≤ k.toInt) (k1 : k.toInt ≤ 30) (e : k'.toInt = k.toInt + 1) (q : ((m >>> (k &&& 31)) &&& 1).toInt = 0) : dz_be m k' n := by
  obtain ⟨r, a, b, c⟩ := h
  rcases Int.lt_or_eq_of_le a with z | z
  · exact ⟨r, by omega, b, c⟩
  · exfalso
    rw [dz_bit_shr k0 k1] at q
    exact q (by rw [show k.toInt.toNat = r by omega]; exact c)
def dz_bs (G R p : Nat) (m : Int32) : Prop := ∀ r, r < R → dz_bit m r → dz_ft G p r
theorem dz_full : ∀ G : Fin 5, ∀ r : Fin 32, r.val < dz_R G.val → (((1 : Int32) <<< (Int32.ofNat (dz_R G.val) &&& 31)) - 1).toBitVec.getLsbD r.val = true := by decide +kernel
theorem dz_fulb {G r : Nat} {g : Int32} (hG : G = 2 ∨ G = 3 ∨ G = 4) (hg : g.toInt = ((dz_R G : Nat) : Int)) (hr : r < dz_R G) : dz_bit (((1 : Int32) <<< (g &&& 31)) - 1) r := by
  have hR : dz_R G ≤ 24 := by rcases hG with rfl | rfl | rfl <;> decide
  have e := dz_eqn (b := g) (c := dz_R G) hg (by omega)
  rw [e]
  exact dz_full ⟨G, by omega⟩ ⟨r, by omega⟩ hr
theorem dz_be0 {G R p : Nat} {g m k : Int32} {a : Nat → Int32} (hG : G = 2 ∨ G = 3 ∨ G = 4) (hR : R = dz_R G) (hg : g.toInt = (R : Int)) (h : dz_ag G a p (((1 : Int32) <<< (g &&& 31)) - 1) m G) (hv : dz_hv G R a) (he : dz_fe G R p) (k0 : k.toInt = 0) : dz_be m k R := by
  obtain ⟨r, hr, hf⟩ := he
  exact ⟨r, by omega, hr, (dz_agf h hv hr).mpr ⟨dz_fulb hG (by rw [hg, hR]) (hR ▸ hr), hf⟩⟩
theorem dz_bs0 {G R p : Nat} {m w : Int32} {a : Nat → Int32} (h : dz_ag G a p w m G) (hv : dz_hv G R a) : dz_bs G R p m := fun r hr hb => ((dz_agf h hv hr).mp hb).2
theorem dz_bsr {G R p : Nat} {m k : Int32} (h : dz_bs G R p m) (k0 : 0 ≤ k.toInt) (k1 : k.toInt ≤ 30) (kR : k.toInt < (R : Int)) (q : ((m >>> (k &&& 31)) &&& 1).toInt ≠ 0) : dz_ft G p k.toInt.toNat := by
  apply h _ (by omega)
  apply Classical.byContradiction
  intro z
  exact q ((dz_bit_shr k0 k1).mpr z)
/-- one digit of a part is set -/
def dz_sd (G p p' i g : Nat) : Prop := p' < (G + 1) ^ G ∧ g < G ∧ dz_dg G p' i = g ∧ ∀ j, j < G → j ≠ i → dz_dg G p' j = dz_dg G p j
theorem dz_sds {G p i g p' : Nat} (hG : G = 2 ∨ G = 3 ∨ G = 4) (hi : i < G) (hg : g < G) (hp : p < (G + 1) ^ G) (hd : dz_dg G p i = G) (e : p' + (G - g) * (G + 1) ^ i = p) : dz_sd G p p' i g := by
  refine ⟨by omega, hg, ?_, fun j hj hn => ?_⟩
  · unfold dz_dg at hd ⊢
    rcases hG with rfl | rfl | rfl
    · rcases (show i = 0 ∨ i = 1 by omega) with rfl | rfl <;> simp at * <;> omega
    · rcases (show i = 0 ∨ i = 1 ∨ i = 2 by omega) with rfl | rfl | rfl <;> simp at * <;> omega
    · rcases (show i = 0 ∨ i = 1 ∨ i = 2 ∨ i = 3 by omega) with rfl | rfl | rfl | rfl <;> simp at * <;> omega
  · unfold dz_dg at hd ⊢
    rcases hG with rfl | rfl | rfl
    · rcases (show i = 0 ∨ i = 1 by omega) with rfl | rfl <;> rcases (show j = 0 ∨ j = 1 by omega) with rfl | rfl <;> simp at * <;> omega
    · rcases (show i = 0 ∨ i = 1 ∨ i = 2 by omega) with rfl | rfl | rfl <;> rcases (show j = 0 ∨ j = 1 ∨ j = 2 by omega) with rfl | rfl | rfl <;> simp at * <;> omega
    · rcases (show i = 0 ∨ i = 1 ∨ i = 2 ∨ i = 3 by omega) with rfl | rfl | rfl | rfl <;> rcases (show j = 0 ∨ j = 1 ∨ j = 2 ∨ j = 3 by omega) with rfl | rfl | rfl | rfl <;> simp at * <;> omega
theorem dz_sdf {G p p' i g r : Nat} (h : dz_sd G p p' i g) (hf : dz_ft G p r) (hr : dz_pr G r i = (g : Int)) (hi : i < G) : dz_ft G p' r := fun j hj hd => by
  by_cases z : j = i
  · rw [z, h.2.2.1]; exact hr
  · rw [h.2.2.2 j hj z] at hd ⊢; exact hf j hj hd
/-- putOne: a group where some rank that is left can come -/
def dz_pe (a57 a62 : Nat → Int32) (m i k : Int32) (n : Nat) : Prop := ∃ j : Nat, k.toInt ≤ (j : Int) ∧ j < n ∧ ∃ r, dz_bit m r ∧ dz_bit (a62 (4 * i.toInt.toNat + (a57 j).toInt.toNat)) r
theorem dz_pel {a57 a62 : Nat → Int32} {m i k : Int32} {n : Nat} (h : dz_pe a57 a62 m i k n) : k.toInt < (n : Int) := by
  obtain ⟨j, a, b, _⟩ := h
  omega
theorem dz_pes {a57 a62 : Nat → Int32} {m i k k' j : Int32} {n : Nat} (h : dz_pe a57 a62 m i k n) (k0 : 0 ≤ k.toInt) (e : k'.toInt = k.toInt + 1) (i0 : 0 ≤ i.toInt) (l0 : 0 ≤ (a57 k.toNatClampNeg).toInt) (hj : j.toInt = 4 * i.toInt + (a57 k.toNatClampNeg).toInt) (q : (m &&& (a62 j.toNatClampNeg)).toInt = 0) : dz_pe a57 a62 m i k' n := by
  obtain ⟨x, a, b, r, c, d⟩ := h
  rcases Int.lt_or_eq_of_le a with z | z
  · exact ⟨x, by omega, b, r, c, d⟩
  · exfalso
    have t := dz_tn k
    have t2 := dz_tn j
    have ex : x = k.toNatClampNeg := by omega
    have ej : j.toNatClampNeg = 4 * i.toInt.toNat + (a57 k.toNatClampNeg).toInt.toNat := by omega
    rw [ej] at q
    rw [ex] at d
    exact dz_bit_ne (dz_bit_and.mpr ⟨c, d⟩) q
theorem dz_pe0 {G R p : Nat} {a57 a62 : Nat → Int32} {m w i k : Int32} (hG : G = 2 ∨ G = 3 ∨ G = 4) (hR : R = dz_R G) (hp : dz_pm a57 G) (h : dz_ag G a62 p w m G) (hv : dz_hv G R a62) (he : dz_me G R w p) (i0 : 0 ≤ i.toInt) (i1 : i.toInt < (G : Int)) (k0 : k.toInt = 0) : dz_pe a57 a62 m i k G := by
  obtain ⟨r, hr, hb, hf⟩ := he
  have b := dz_prb hG (hR ▸ hr) (show i.toInt.toNat < G by omega)
  obtain ⟨j, j1, j2, j3⟩ := dz_ex0 (k := k) (g := dz_pr G r i.toInt.toNat) hp (by omega) k0 b.1 (by omega)
  refine ⟨j, j1, j2, r, (dz_agf h hv hr).mpr ⟨hb, hf⟩, ?_⟩
  rw [j3]
  exact (hv _ _ r (by omega) (by omega)).mpr ⟨hr, by omega⟩
/-- the answer of putOne -/
def dz_po (G R : Nat) (m : Int32) (p p' i : Nat) : Prop := dz_me G R m p' ∧ ∃ g, dz_sd G p p' i g
theorem dz_poi {G R : Nat} {a57 a62 : Nat → Int32} {m w p i k j p' : Int32} (hG : G = 2 ∨ G = 3 ∨ G = 4) (h : dz_ag G a62 p.toInt.toNat w m G) (hv : dz_hv G R a62) (hd : dz_dg G p.toInt.toNat i.toInt.toNat = G) (i0 : 0 ≤ i.toInt) (i1 : i.toInt < (G : Int)) (l0 : 0 ≤ (a57 k.toNatClampNeg).toInt) (l1 : (a57 k.toNatClampNeg).toInt < (G : Int)) (hj : j.toInt = 4 * i.toInt + (a57 k.toNatClampNeg).toInt) (q : (m &&& (a62 j.toNatClampNeg)).toInt ≠ 0) (p0 : 0 ≤ p.toInt) (p1 : p.toInt < (((G + 1) ^ G : Nat) : Int)) (e : p'.toInt.toNat + (G - (a57 k.toNatClampNeg).toInt.toNat) * (G + 1) ^ i.toInt.toNat = p.toInt.toNat) : dz_po G R w p.toInt.toNat p'.toInt.toNat i.toInt.toNat := by
  obtain ⟨r, _, hb⟩ := dz_bit_ex q
  obtain ⟨b1, b2⟩ := dz_bit_and.mp hb
  have t2 := dz_tn j
  have ej : j.toNatClampNeg = 4 * i.toInt.toNat + (a57 k.toNatClampNeg).toInt.toNat := by omega
  rw [ej] at b2
  obtain ⟨hr, hp⟩ := (hv _ _ r (show i.toInt.toNat < G by omega) (show (a57 k.toNatClampNeg).toInt.toNat < G by omega)).mp b2
  obtain ⟨c1, c2⟩ := (dz_agf h hv hr).mp b1
  have s := dz_sds hG (show i.toInt.toNat < G by omega) (show (a57 k.toNatClampNeg).toInt.toNat < G by omega) (by omega) hd e
  exact ⟨⟨r, hr, c1, dz_sdf s c2 hp (by omega)⟩, _, s⟩
