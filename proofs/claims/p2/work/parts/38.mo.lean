theorem dz_poj {G R : Nat} {a57 a62 : Nat → Int32} {m w p i k j p' : Int32} (kk : Nat) (N Q : Int) (hi : i.toInt = (kk : Int)) (hN : (((G + 1) ^ kk : Nat) : Int) = N) (hQ : (((G + 1) ^ G : Nat) : Int) = Q) (hG : G = 2 ∨ G = 3 ∨ G = 4) (h : dz_ag G a62 p.toInt.toNat w m G) (hv : dz_hv G R a62) (hd : dz_dg G p.toInt.toNat i.toInt.toNat = G) (i1 : i.toInt < (G : Int)) (l0 : 0 ≤ (a57 k.toNatClampNeg).toInt) (l1 : (a57 k.toNatClampNeg).toInt < (G : Int)) (hj : j.toInt = 4 * i.toInt + (a57 k.toNatClampNeg).toInt) (q : (m &&& (a62 j.toNatClampNeg)).toInt ≠ 0) (p0 : 0 ≤ p.toInt) (p1 : p.toInt < Q) (e : p'.toInt = p.toInt - ((G : Int) - (a57 k.toNatClampNeg).toInt) * N) (e0 : 0 ≤ p'.toInt) : dz_po G R w p.toInt.toNat p'.toInt.toNat i.toInt.toNat := by
  refine dz_poi (a57 := a57) (k := k) (j := j) hG h hv hd (by omega) i1 l0 l1 hj q p0 (by omega) ?_
  have hk : i.toInt.toNat = kk := by omega
  rw [hk]
  have h1 : (((G - (a57 k.toNatClampNeg).toInt.toNat) * (G + 1) ^ kk : Nat) : Int) = ((G : Int) - (a57 k.toNatClampNeg).toInt) * N := by
    rw [Int.natCast_mul, hN]
    congr 1
    omega
  generalize (G - (a57 k.toNatClampNeg).toInt.toNat) * (G + 1) ^ kk = z at h1 ⊢
  generalize ((G : Int) - (a57 k.toNatClampNeg).toInt) * N = y at h1 e
  omega
