theorem dz_pmk1 {a : Nat → Int32} {d0 i0 : Int32} (s0 v : Int32) (b0 : 0 ≤ d0.toInt ∧ d0.toInt ≤ 3) (e0 : i0.toInt = 0) (q0 : s0.toInt = d0.toInt) (hv : v.toInt = 1) (h : ((0 : Int32) ||| ((1 : Int32) <<< (s0 &&& 31))).toInt = (((1 : Int32) <<< (v &&& 31)) - 1).toInt) : dz_pm (upd a i0.toNatClampNeg d0) 1 := by
  have t0 : s0 = d0 := Int32.toInt_inj.mp q0
  subst t0
  have ve : v = 1 := Int32.toInt_inj.mp (by rw [hv]; decide)
  subst ve
  have hd : ∀ n0 : Fin 4, ((0 : Int32) ||| ((1 : Int32) <<< (Int32.ofNat n0.val &&& 31))).toInt = (((1 : Int32) <<< ((1 : Int32) &&& 31)) - 1).toInt → [(n0.val : Int)] ∈ dz_perms 1 := by decide +kernel
  have c0 := dz_eqn (b := s0) (c := s0.toInt.toNat) (by omega) (by omega)
  rw [c0] at h
  have hx : [(s0.toInt.toNat : Int)] ∈ dz_perms 1 := hd ⟨s0.toInt.toNat, by omega⟩ h
  exact ⟨_, hx, dz_ptmk1 ((dz_upk (j := i0) 0 (by omega)).trans (by omega))⟩
theorem dz_pmk2 {a : Nat → Int32} {d0 d1 i0 i1 : Int32} (s0 s1 v : Int32) (b0 : 0 ≤ d0.toInt ∧ d0.toInt ≤ 3) (e0 : i0.toInt = 0) (q0 : s0.toInt = d0.toInt) (b1 : 0 ≤ d1.toInt ∧ d1.toInt ≤ 3) (e1 : i1.toInt = 1) (q1 : s1.toInt = d1.toInt) (hv : v.toInt = 2) (h : (((0 : Int32) ||| ((1 : Int32) <<< (s0 &&& 31))) ||| ((1 : Int32) <<< (s1 &&& 31))).toInt = (((1 : Int32) <<< (v &&& 31)) - 1).toInt) : dz_pm (upd (upd a i0.toNatClampNeg d0) i1.toNatClampNeg d1) 2 := by
  have t0 : s0 = d0 := Int32.toInt_inj.mp q0
  subst t0
  have t1 : s1 = d1 := Int32.toInt_inj.mp q1
  subst t1
  have ve : v = 2 := Int32.toInt_inj.mp (by rw [hv]; decide)
  subst ve
  have hd : ∀ n0 n1 : Fin 4, (((0 : Int32) ||| ((1 : Int32) <<< (Int32.ofNat n0.val &&& 31))) ||| ((1 : Int32) <<< (Int32.ofNat n1.val &&& 31))).toInt = (((1 : Int32) <<< ((2 : Int32) &&& 31)) - 1).toInt → [(n0.val : Int), (n1.val : Int)] ∈ dz_perms 2 := by decide +kernel
  have c0 := dz_eqn (b := s0) (c := s0.toInt.toNat) (by omega) (by omega)
  have c1 := dz_eqn (b := s1) (c := s1.toInt.toNat) (by omega) (by omega)
  rw [c0, c1] at h
  have hx : [(s0.toInt.toNat : Int), (s1.toInt.toNat : Int)] ∈ dz_perms 2 := hd ⟨s0.toInt.toNat, by omega⟩ ⟨s1.toInt.toNat, by omega⟩ h
  exact ⟨_, hx, dz_ptmk2 ((dz_upo (j := i1) 0 ⟨by omega, by omega⟩).trans ((dz_upk (j := i0) 0 (by omega)).trans (by omega))) ((dz_upk (j := i1) 1 (by omega)).trans (by omega))⟩
theorem dz_pmk3 {a : Nat → Int32} {d0 d1 d2 i0 i1 i2 : Int32} (s0 s1 s2 v : Int32) (b0 : 0 ≤ d0.toInt ∧ d0.toInt ≤ 3) (e0 : i0.toInt = 0) (q0 : s0.toInt = d0.toInt) (b1 : 0 ≤ d1.toInt ∧ d1.toInt ≤ 3) (e1 : i1.toInt = 1) (q1 : s1.toInt = d1.toInt) (b2 : 0 ≤ d2.toInt ∧ d2.toInt ≤ 3) (e2 : i2.toInt = 2) (q2 : s2.toInt = d2.toInt) (hv : v.toInt = 3) (h : ((((0 : Int32) ||| ((1 : Int32) <<< (s0 &&& 31))) ||| ((1 : Int32) <<< (s1 &&& 31))) ||| ((1 : Int32) <<< (s2 &&& 31))).toInt = (((1 : Int32) <<< (v &&& 31)) - 1).toInt) : dz_pm (upd (upd (upd a i0.toNatClampNeg d0) i1.toNatClampNeg d1) i2.toNatClampNeg d2) 3 := by
  have t0 : s0 = d0 := Int32.toInt_inj.mp q0
  subst t0
  have t1 : s1 = d1 := Int32.toInt_inj.mp q1
  subst t1
  have t2 : s2 = d2 := Int32.toInt_inj.mp q2
  subst t2
  have ve : v = 3 := Int32.toInt_inj.mp (by rw [hv]; decide)
  subst ve
  have hd : ∀ n0 n1 n2 : Fin 4, ((((0 : Int32) ||| ((1 : Int32) <<< (Int32.ofNat n0.val &&& 31))) ||| ((1 : Int32) <<< (Int32.ofNat n1.val &&& 31))) ||| ((1 : Int32) <<< (Int32.ofNat n2.val &&& 31))).toInt = (((1 : Int32) <<< ((3 : Int32) &&& 31)) - 1).toInt → [(n0.val : Int), (n1.val : Int), (n2.val : Int)] ∈ dz_perms 3 := by decide +kernel
  have c0 := dz_eqn (b := s0) (c := s0.toInt.toNat) (by omega) (by omega)
  have c1 := dz_eqn (b := s1) (c := s1.toInt.toNat) (by omega) (by omega)
  have c2 := dz_eqn (b := s2) (c := s2.toInt.toNat) (by omega) (by omega)
  rw [c0, c1, c2] at h
  have hx : [(s0.toInt.toNat : Int), (s1.toInt.toNat : Int), (s2.toInt.toNat : Int)] ∈ dz_perms 3 := hd ⟨s0.toInt.toNat, by omega⟩ ⟨s1.toInt.toNat, by omega⟩ ⟨s2.toInt.toNat, by omega⟩ h
  exact ⟨_, hx, dz_ptmk3 ((dz_upo (j := i2) 0 ⟨by omega, by omega⟩).trans ((dz_upo (j := i1) 0 ⟨by omega, by omega⟩).trans ((dz_upk (j := i0) 0 (by omega)).trans (by omega)))) ((dz_upo (j := i2) 1 ⟨by omega, by omega⟩).trans ((dz_upk (j := i1) 1 (by omega)).trans (by omega))) ((dz_upk (j := i2) 2 (by omega)).trans (by omega))⟩
theorem dz_pmk4 {a : Nat → Int32} {d0 d1 d2 d3 i0 i1 i2 i3 : Int32} (s0 s1 s2 s3 v : Int32) (b0 : 0 ≤ d0.toInt ∧ d0.toInt ≤ 3) (e0 : i0.toInt = 0) (q0 : s0.toInt = d0.toInt) (b1 : 0 ≤ d1.toInt ∧ d1.toInt ≤ 3) (e1 : i1.toInt = 1) (q1 : s1.toInt = d1.toInt) (b2 : 0 ≤ d2.toInt ∧ d2.toInt ≤ 3) (e2 : i2.toInt = 2) (q2 : s2.toInt = d2.toInt) (b3 : 0 ≤ d3.toInt ∧ d3.toInt ≤ 3) (e3 : i3.toInt = 3) (q3 : s3.toInt = d3.toInt) (hv : v.toInt = 4) (h : (((((0 : Int32) ||| ((1 : Int32) <<< (s0 &&& 31))) ||| ((1 : Int32) <<< (s1 &&& 31))) ||| ((1 : Int32) <<< (s2 &&& 31))) ||| ((1 : Int32) <<< (s3 &&& 31))).toInt = (((1 : Int32) <<< (v &&& 31)) - 1).toInt) : dz_pm (upd (upd (upd (upd a i0.toNatClampNeg d0) i1.toNatClampNeg d1) i2.toNatClampNeg d2) i3.toNatClampNeg d3) 4 := by
  have t0 : s0 = d0 := Int32.toInt_inj.mp q0
  subst t0
  have t1 : s1 = d1 := Int32.toInt_inj.mp q1
  subst t1
  have t2 : s2 = d2 := Int32.toInt_inj.mp q2
  subst t2
  have t3 : s3 = d3 := Int32.toInt_inj.mp q3
  subst t3
  have ve : v = 4 := Int32.toInt_inj.mp (by rw [hv]; decide)
  subst ve
  have hd : ∀ n0 n1 n2 n3 : Fin 4, (((((0 : Int32) ||| ((1 : Int32) <<< (Int32.ofNat n0.val &&& 31))) ||| ((1 : Int32) <<< (Int32.ofNat n1.val &&& 31))) ||| ((1 : Int32) <<< (Int32.ofNat n2.val &&& 31))) ||| ((1 : Int32) <<< (Int32.ofNat n3.val &&& 31))).toInt = (((1 : Int32) <<< ((4 : Int32) &&& 31)) - 1).toInt → [(n0.val : Int), (n1.val : Int), (n2.val : Int), (n3.val : Int)] ∈ dz_perms 4 := by decide +kernel
  have c0 := dz_eqn (b := s0) (c := s0.toInt.toNat) (by omega) (by omega)
  have c1 := dz_eqn (b := s1) (c := s1.toInt.toNat) (by omega) (by omega)
  have c2 := dz_eqn (b := s2) (c := s2.toInt.toNat) (by omega) (by omega)
  have c3 := dz_eqn (b := s3) (c := s3.toInt.toNat) (by omega) (by omega)
  rw [c0, c1, c2, c3] at h
  have hx : [(s0.toInt.toNat : Int), (s1.toInt.toNat : Int), (s2.toInt.toNat : Int), (s3.toInt.toNat : Int)] ∈ dz_perms 4 := hd ⟨s0.toInt.toNat, by omega⟩ ⟨s1.toInt.toNat, by omega⟩ ⟨s2.toInt.toNat, by omega⟩ ⟨s3.toInt.toNat, by omega⟩ h
  exact ⟨_, hx, dz_ptmk4 ((dz_upo (j := i3) 0 ⟨by omega, by omega⟩).trans ((dz_upo (j := i2) 0 ⟨by omega, by omega⟩).trans ((dz_upo (j := i1) 0 ⟨by omega, by omega⟩).trans ((dz_upk (j := i0) 0 (by omega)).trans (by omega))))) ((dz_upo (j := i3) 1 ⟨by omega, by omega⟩).trans ((dz_upo (j := i2) 1 ⟨by omega, by omega⟩).trans ((dz_upk (j := i1) 1 (by omega)).trans (by omega)))) ((dz_upo (j := i3) 2 ⟨by omega, by omega⟩).trans ((dz_upk (j := i2) 2 (by omega)).trans (by omega))) ((dz_upk (j := i3) 3 (by omega)).trans (by omega))⟩
