set_option maxHeartbeats 4000000 in
set_option maxRecDepth 10000 in
theorem t166_X11_readTurns_E_gx_m0 (fu : Nat) (hfu : 1000000000000 ≤ fu) (v0 : Int32) (v1 : Int32) (a275 : Nat → Int32) (p0 : 0 ≤ v1.toInt) (p1 : v1.toInt ≤ 4) (p2 : v1.toInt ≤ 0) (p3 : 0 ≤ v1.toInt) (hr_a275 : dz_pm a275 0) (kv : Nat) (hkv : 1000000000000 ≤ kv) : dz_T (s166_X11_readTurns_0 fu (F166_X11_readTurns fu kv).1  v0 v1 a275) (fun r => r.1.toInt ≤ 1 ∧ 1 ≤ r.1.toInt ∧ dz_pm r.2 0) := by
  unfold s166_X11_readTurns_0
  obtain ⟨k1, rfl⟩ : ∃ x, kv = x + 1 := ⟨kv - 1, by omega⟩
  show dz_T (s166_X11_readTurns_1 fu (F166_X11_readTurns fu k1).1 (F166_X11_readTurns fu k1).2 v0 v1 (0 : Int32) (0 : Int32) a275) _
  unfold s166_X11_readTurns_1
  have e1 := dz_l0
  refine dz_Tle (fun h2 => ?_) (fun h2 => ?_)
  · skip
    have e3 := dz_l1
    have e4 := dz_l31
    have e5 := dz_andr (a := v1) (b := (31 : Int32)) (by omega)
    have e6 := dz_andl (a := v1) (b := (31 : Int32)) (by omega)
    have e7 := dz_shl1 (b := v1) 0 0 (by omega) (by omega) (by omega)
    have e8 := dz_sub (a := ((1 : Int32) <<< (v1 &&& (31 : Int32)))) (b := (1 : Int32)) (by omega) (by omega)
    refine dz_Teq (fun h9 => ?_) (fun h9 => ?_)
    · skip
      obtain ⟨k2, rfl⟩ : ∃ x, k1 = x + 1 := ⟨k1 - 1, by omega⟩
      show dz_T (s166_X11_readTurns_2 fu (F166_X11_readTurns fu k2).2 v0 v1 (0 : Int32) a275) _
      unfold s166_X11_readTurns_2
      refine dz_Tle (fun h10 => ?_) (fun h10 => ?_)
      · skip
        refine dz_Ts ?_
        dsimp only
        exact ⟨(by omega), (by omega), (hr_a275)⟩
      · skip
        exfalso; omega
    · skip
      exfalso; omega
  · skip
    exfalso; omega
theorem t166_X11_readTurns_gx_m0 (fu : Nat) (hfu : 1000000000000 ≤ fu) (v0 : Int32) (v1 : Int32) (a275 : Nat → Int32) (p0 : 0 ≤ v1.toInt) (p1 : v1.toInt ≤ 4) (p2 : v1.toInt ≤ 0) (p3 : 0 ≤ v1.toInt) (hr_a275 : dz_pm a275 0) : dz_T (f166_X11_readTurns fu v0 v1 a275) (fun r => r.1.toInt ≤ 1 ∧ 1 ≤ r.1.toInt ∧ dz_pm r.2 0) :=
  t166_X11_readTurns_E_gx_m0 fu hfu v0 v1 a275 p0 p1 p2 p3 hr_a275 fu hfu
set_option maxHeartbeats 4000000 in
set_option maxRecDepth 10000 in
theorem t166_X11_readTurns_E_gx_m1 (fu : Nat) (hfu : 1000000000000 ≤ fu) (v0 : Int32) (v1 : Int32) (a275 : Nat → Int32) (p0 : 0 ≤ v1.toInt) (p1 : v1.toInt ≤ 4) (p2 : v1.toInt ≤ 1) (p3 : 1 ≤ v1.toInt) (hr_a275 : dz_pm a275 1) (kv : Nat) (hkv : 1000000000000 ≤ kv) : dz_T (s166_X11_readTurns_0 fu (F166_X11_readTurns fu kv).1  v0 v1 a275) (fun r => r.1.toInt ≤ 1 ∧ 0 ≤ r.1.toInt ∧ dz_pm r.2 1) := by
  unfold s166_X11_readTurns_0
  obtain ⟨k1, rfl⟩ : ∃ x, kv = x + 1 := ⟨kv - 1, by omega⟩
  show dz_T (s166_X11_readTurns_1 fu (F166_X11_readTurns fu k1).1 (F166_X11_readTurns fu k1).2 v0 v1 (0 : Int32) (0 : Int32) a275) _
  unfold s166_X11_readTurns_1
  have e1 := dz_l0
  refine dz_Tle (fun h2 => ?_) (fun h2 => ?_)
  · skip
    exfalso; omega
  · skip
    obtain ⟨k2, rfl⟩ : ∃ x, k1 = x + 1 := ⟨k1 - 1, by omega⟩
    show dz_T (s166_X11_readTurns_1 fu (F166_X11_readTurns fu k2).1 (F166_X11_readTurns fu k2).2 v0 v1 ((0 : Int32) ||| ((1 : Int32) <<< (((dz_ush v0 ((2 : Int32) * (0 : Int32))) &&& (3 : Int32)) &&& (31 : Int32)))) ((0 : Int32) + (1 : Int32)) a275) _
    unfold s166_X11_readTurns_1
    have e3 := dz_l1
    have e4 := dz_add (a := (0 : Int32)) (b := (1 : Int32)) (by omega) (by omega)
    refine dz_Tle (fun h5 => ?_) (fun h5 => ?_)
    · skip
      have e6 := dz_l2
      have e7 := dz_mull (a := (2 : Int32)) (b := (0 : Int32)) 2 (by omega) (by omega) (by omega)
      have e8 := dz_l3
      have e9 := dz_andr (a := (dz_ush v0 ((2 : Int32) * (0 : Int32)))) (b := (3 : Int32)) (by omega)
      have e10 := dz_l31
      have e11 := dz_andr (a := ((dz_ush v0 ((2 : Int32) * (0 : Int32))) &&& (3 : Int32))) (b := (31 : Int32)) (by omega)
      have e12 := dz_andl (a := ((dz_ush v0 ((2 : Int32) * (0 : Int32))) &&& (3 : Int32))) (b := (31 : Int32)) (by omega)
      have e13 := dz_shl1 (b := ((dz_ush v0 ((2 : Int32) * (0 : Int32))) &&& (3 : Int32))) 0 3 (by omega) (by omega) (by omega)
      have e14 := dz_orb (a := (0 : Int32)) (b := ((1 : Int32) <<< (((dz_ush v0 ((2 : Int32) * (0 : Int32))) &&& (3 : Int32)) &&& (31 : Int32)))) 4 (by omega) (by omega) (by omega) (by omega) (by omega)
      have e15 := dz_andr (a := v1) (b := (31 : Int32)) (by omega)
      have e16 := dz_andl (a := v1) (b := (31 : Int32)) (by omega)
      have e17 := dz_shl1 (b := v1) 1 1 (by omega) (by omega) (by omega)
      have e18 := dz_sub (a := ((1 : Int32) <<< (v1 &&& (31 : Int32)))) (b := (1 : Int32)) (by omega) (by omega)
      refine dz_Teq (fun h19 => ?_) (fun h19 => ?_)
      · skip
        obtain ⟨k3, rfl⟩ : ∃ x, k2 = x + 1 := ⟨k2 - 1, by omega⟩
        show dz_T (s166_X11_readTurns_2 fu (F166_X11_readTurns fu k3).2 v0 v1 (0 : Int32) a275) _
        unfold s166_X11_readTurns_2
        refine dz_Tle (fun h20 => ?_) (fun h20 => ?_)
        · skip
          exfalso; omega
        · skip
          have e21 := dz_l4
          refine dz_Tle (fun h22 => ?_) (fun h22 => ?_)
          · skip
            exfalso; omega
          · skip
            refine dz_Tin (by omega) (by omega) ?_
            obtain ⟨k4, rfl⟩ : ∃ x, k3 = x + 1 := ⟨k3 - 1, by omega⟩
            show dz_T (s166_X11_readTurns_2 fu (F166_X11_readTurns fu k4).2 v0 v1 ((0 : Int32) + (1 : Int32)) (upd a275 (0 : Int32).toNatClampNeg ((dz_ush v0 ((2 : Int32) * (0 : Int32))) &&& (3 : Int32)))) _
            unfold s166_X11_readTurns_2
            refine dz_Tle (fun h23 => ?_) (fun h23 => ?_)
            · skip
              refine dz_Ts ?_
              dsimp only
              exact ⟨(by omega), (by omega), (dz_pmk1 ((dz_ush v0 ((2 : Int32) * (0 : Int32))) &&& (3 : Int32)) v1 ⟨by omega, by omega⟩ (by omega) (by omega) (by omega) (by assumption))⟩
            · skip
              exfalso; omega
      · skip
        refine dz_Ts ?_
        dsimp only
        exact ⟨(by omega), (by omega), (hr_a275)⟩
    · skip
      exfalso; omega
theorem t166_X11_readTurns_gx_m1 (fu : Nat) (hfu : 1000000000000 ≤ fu) (v0 : Int32) (v1 : Int32) (a275 : Nat → Int32) (p0 : 0 ≤ v1.toInt) (p1 : v1.toInt ≤ 4) (p2 : v1.toInt ≤ 1) (p3 : 1 ≤ v1.toInt) (hr_a275 : dz_pm a275 1) : dz_T (f166_X11_readTurns fu v0 v1 a275) (fun r => r.1.toInt ≤ 1 ∧ 0 ≤ r.1.toInt ∧ dz_pm r.2 1) :=
  t166_X11_readTurns_E_gx_m1 fu hfu v0 v1 a275 p0 p1 p2 p3 hr_a275 fu hfu
set_option maxHeartbeats 4000000 in
set_option maxRecDepth 10000 in
theorem t166_X11_readTurns_E_gx_m2 (fu : Nat) (hfu : 1000000000000 ≤ fu) (v0 : Int32) (v1 : Int32) (a275 : Nat → Int32) (p0 : 0 ≤ v1.toInt) (p1 : v1.toInt ≤ 4) (p2 : v1.toInt ≤ 2) (p3 : 2 ≤ v1.toInt) (hr_a275 : dz_pm a275 2) (kv : Nat) (hkv : 1000000000000 ≤ kv) : dz_T (s166_X11_readTurns_0 fu (F166_X11_readTurns fu kv).1  v0 v1 a275) (fun r => r.1.toInt ≤ 1 ∧ 0 ≤ r.1.toInt ∧ dz_pm r.2 2) := by
  unfold s166_X11_readTurns_0
  obtain ⟨k1, rfl⟩ : ∃ x, kv = x + 1 := ⟨kv - 1, by omega⟩
  show dz_T (s166_X11_readTurns_1 fu (F166_X11_readTurns fu k1).1 (F166_X11_readTurns fu k1).2 v0 v1 (0 : Int32) (0 : Int32) a275) _
  unfold s166_X11_readTurns_1
  have e1 := dz_l0
  refine dz_Tle (fun h2 => ?_) (fun h2 => ?_)
  · skip
    exfalso; omega
  · skip
    obtain ⟨k2, rfl⟩ : ∃ x, k1 = x + 1 := ⟨k1 - 1, by omega⟩
    show dz_T (s166_X11_readTurns_1 fu (F166_X11_readTurns fu k2).1 (F166_X11_readTurns fu k2).2 v0 v1 ((0 : Int32) ||| ((1 : Int32) <<< (((dz_ush v0 ((2 : Int32) * (0 : Int32))) &&& (3 : Int32)) &&& (31 : Int32)))) ((0 : Int32) + (1 : Int32)) a275) _
    unfold s166_X11_readTurns_1
    have e3 := dz_l1
    have e4 := dz_add (a := (0 : Int32)) (b := (1 : Int32)) (by omega) (by omega)
    refine dz_Tle (fun h5 => ?_) (fun h5 => ?_)
    · skip
      exfalso; omega
    · skip
      obtain ⟨k3, rfl⟩ : ∃ x, k2 = x + 1 := ⟨k2 - 1, by omega⟩
      show dz_T (s166_X11_readTurns_1 fu (F166_X11_readTurns fu k3).1 (F166_X11_readTurns fu k3).2 v0 v1 (((0 : Int32) ||| ((1 : Int32) <<< (((dz_ush v0 ((2 : Int32) * (0 : Int32))) &&& (3 : Int32)) &&& (31 : Int32)))) ||| ((1 : Int32) <<< (((dz_ush v0 ((2 : Int32) * ((0 : Int32) + (1 : Int32)))) &&& (3 : Int32)) &&& (31 : Int32)))) (((0 : Int32) + (1 : Int32)) + (1 : Int32)) a275) _
      unfold s166_X11_readTurns_1
      have e6 := dz_add (a := ((0 : Int32) + (1 : Int32))) (b := (1 : Int32)) (by omega) (by omega)
      refine dz_Tle (fun h7 => ?_) (fun h7 => ?_)
      · skip
        have e8 := dz_l2
        have e9 := dz_mull (a := (2 : Int32)) (b := (0 : Int32)) 2 (by omega) (by omega) (by omega)
        have e10 := dz_l3
        have e11 := dz_andr (a := (dz_ush v0 ((2 : Int32) * (0 : Int32)))) (b := (3 : Int32)) (by omega)
        have e12 := dz_l31
        have e13 := dz_andr (a := ((dz_ush v0 ((2 : Int32) * (0 : Int32))) &&& (3 : Int32))) (b := (31 : Int32)) (by omega)
        have e14 := dz_andl (a := ((dz_ush v0 ((2 : Int32) * (0 : Int32))) &&& (3 : Int32))) (b := (31 : Int32)) (by omega)
        have e15 := dz_shl1 (b := ((dz_ush v0 ((2 : Int32) * (0 : Int32))) &&& (3 : Int32))) 0 3 (by omega) (by omega) (by omega)
        have e16 := dz_orb (a := (0 : Int32)) (b := ((1 : Int32) <<< (((dz_ush v0 ((2 : Int32) * (0 : Int32))) &&& (3 : Int32)) &&& (31 : Int32)))) 4 (by omega) (by omega) (by omega) (by omega) (by omega)
        have e17 := dz_mull (a := (2 : Int32)) (b := ((0 : Int32) + (1 : Int32))) 2 (by omega) (by omega) (by omega)
        have e18 := dz_ushc (a := v0) (b := ((2 : Int32) * ((0 : Int32) + (1 : Int32)))) 2 (by omega) (by omega) (by omega)
        have e19 := dz_andr (a := (dz_ush v0 ((2 : Int32) * ((0 : Int32) + (1 : Int32))))) (b := (3 : Int32)) (by omega)
        have e20 := dz_andl (a := (dz_ush v0 ((2 : Int32) * ((0 : Int32) + (1 : Int32))))) (b := (3 : Int32)) (by omega)
        have e21 := dz_andr (a := ((dz_ush v0 ((2 : Int32) * ((0 : Int32) + (1 : Int32)))) &&& (3 : Int32))) (b := (31 : Int32)) (by omega)
        have e22 := dz_andl (a := ((dz_ush v0 ((2 : Int32) * ((0 : Int32) + (1 : Int32)))) &&& (3 : Int32))) (b := (31 : Int32)) (by omega)
        have e23 := dz_shl1 (b := ((dz_ush v0 ((2 : Int32) * ((0 : Int32) + (1 : Int32)))) &&& (3 : Int32))) 0 3 (by omega) (by omega) (by omega)
        have e24 := dz_orb (a := ((0 : Int32) ||| ((1 : Int32) <<< (((dz_ush v0 ((2 : Int32) * (0 : Int32))) &&& (3 : Int32)) &&& (31 : Int32))))) (b := ((1 : Int32) <<< (((dz_ush v0 ((2 : Int32) * ((0 : Int32) + (1 : Int32)))) &&& (3 : Int32)) &&& (31 : Int32)))) 4 (by omega) (by omega) (by omega) (by omega) (by omega)
        have e25 := dz_andr (a := v1) (b := (31 : Int32)) (by omega)
        have e26 := dz_andl (a := v1) (b := (31 : Int32)) (by omega)
        have e27 := dz_shl1 (b := v1) 2 2 (by omega) (by omega) (by omega)
        have e28 := dz_sub (a := ((1 : Int32) <<< (v1 &&& (31 : Int32)))) (b := (1 : Int32)) (by omega) (by omega)
        refine dz_Teq (fun h29 => ?_) (fun h29 => ?_)
        · skip
          obtain ⟨k4, rfl⟩ : ∃ x, k3 = x + 1 := ⟨k3 - 1, by omega⟩
          show dz_T (s166_X11_readTurns_2 fu (F166_X11_readTurns fu k4).2 v0 v1 (0 : Int32) a275) _
          unfold s166_X11_readTurns_2
          refine dz_Tle (fun h30 => ?_) (fun h30 => ?_)
          · skip
            exfalso; omega
          · skip
            have e31 := dz_l4
            refine dz_Tle (fun h32 => ?_) (fun h32 => ?_)
            · skip
              exfalso; omega
            · skip
              refine dz_Tin (by omega) (by omega) ?_
              obtain ⟨k5, rfl⟩ : ∃ x, k4 = x + 1 := ⟨k4 - 1, by omega⟩
              show dz_T (s166_X11_readTurns_2 fu (F166_X11_readTurns fu k5).2 v0 v1 ((0 : Int32) + (1 : Int32)) (upd a275 (0 : Int32).toNatClampNeg ((dz_ush v0 ((2 : Int32) * (0 : Int32))) &&& (3 : Int32)))) _
              unfold s166_X11_readTurns_2
              refine dz_Tle (fun h33 => ?_) (fun h33 => ?_)
              · skip
                exfalso; omega
              · skip
                refine dz_Tle (fun h34 => ?_) (fun h34 => ?_)
                · skip
                  exfalso; omega
                · skip
                  refine dz_Tin (by omega) (by omega) ?_
                  obtain ⟨k6, rfl⟩ : ∃ x, k5 = x + 1 := ⟨k5 - 1, by omega⟩
                  show dz_T (s166_X11_readTurns_2 fu (F166_X11_readTurns fu k6).2 v0 v1 (((0 : Int32) + (1 : Int32)) + (1 : Int32)) (upd (upd a275 (0 : Int32).toNatClampNeg ((dz_ush v0 ((2 : Int32) * (0 : Int32))) &&& (3 : Int32))) ((0 : Int32) + (1 : Int32)).toNatClampNeg ((dz_ush v0 ((2 : Int32) * ((0 : Int32) + (1 : Int32)))) &&& (3 : Int32)))) _
                  unfold s166_X11_readTurns_2
                  refine dz_Tle (fun h35 => ?_) (fun h35 => ?_)
                  · skip
                    refine dz_Ts ?_
                    dsimp only
                    exact ⟨(by omega), (by omega), (dz_pmk2 ((dz_ush v0 ((2 : Int32) * (0 : Int32))) &&& (3 : Int32)) ((dz_ush v0 ((2 : Int32) * ((0 : Int32) + (1 : Int32)))) &&& (3 : Int32)) v1 ⟨by omega, by omega⟩ (by omega) (by omega) ⟨by omega, by omega⟩ (by omega) (by omega) (by omega) (by assumption))⟩
                  · skip
                    exfalso; omega
        · skip
          refine dz_Ts ?_
          dsimp only
          exact ⟨(by omega), (by omega), (hr_a275)⟩
      · skip
        exfalso; omega
theorem t166_X11_readTurns_gx_m2 (fu : Nat) (hfu : 1000000000000 ≤ fu) (v0 : Int32) (v1 : Int32) (a275 : Nat → Int32) (p0 : 0 ≤ v1.toInt) (p1 : v1.toInt ≤ 4) (p2 : v1.toInt ≤ 2) (p3 : 2 ≤ v1.toInt) (hr_a275 : dz_pm a275 2) : dz_T (f166_X11_readTurns fu v0 v1 a275) (fun r => r.1.toInt ≤ 1 ∧ 0 ≤ r.1.toInt ∧ dz_pm r.2 2) :=
  t166_X11_readTurns_E_gx_m2 fu hfu v0 v1 a275 p0 p1 p2 p3 hr_a275 fu hfu
set_option maxHeartbeats 4000000 in
set_option maxRecDepth 10000 in
theorem t166_X11_readTurns_E_gx_m3 (fu : Nat) (hfu : 1000000000000 ≤ fu) (v0 : Int32) (v1 : Int32) (a275 : Nat → Int32) (p0 : 0 ≤ v1.toInt) (p1 : v1.toInt ≤ 4) (p2 : v1.toInt ≤ 3) (p3 : 3 ≤ v1.toInt) (hr_a275 : dz_pm a275 3) (kv : Nat) (hkv : 1000000000000 ≤ kv) : dz_T (s166_X11_readTurns_0 fu (F166_X11_readTurns fu kv).1  v0 v1 a275) (fun r => r.1.toInt ≤ 1 ∧ 0 ≤ r.1.toInt ∧ dz_pm r.2 3) := by
  unfold s166_X11_readTurns_0
  obtain ⟨k1, rfl⟩ : ∃ x, kv = x + 1 := ⟨kv - 1, by omega⟩
  show dz_T (s166_X11_readTurns_1 fu (F166_X11_readTurns fu k1).1 (F166_X11_readTurns fu k1).2 v0 v1 (0 : Int32) (0 : Int32) a275) _
  unfold s166_X11_readTurns_1
  have e1 := dz_l0
  refine dz_Tle (fun h2 => ?_) (fun h2 => ?_)
  · skip
    exfalso; omega
  · skip
    obtain ⟨k2, rfl⟩ : ∃ x, k1 = x + 1 := ⟨k1 - 1, by omega⟩
    show dz_T (s166_X11_readTurns_1 fu (F166_X11_readTurns fu k2).1 (F166_X11_readTurns fu k2).2 v0 v1 ((0 : Int32) ||| ((1 : Int32) <<< (((dz_ush v0 ((2 : Int32) * (0 : Int32))) &&& (3 : Int32)) &&& (31 : Int32)))) ((0 : Int32) + (1 : Int32)) a275) _
    unfold s166_X11_readTurns_1
    have e3 := dz_l1
    have e4 := dz_add (a := (0 : Int32)) (b := (1 : Int32)) (by omega) (by omega)
    refine dz_Tle (fun h5 => ?_) (fun h5 => ?_)
    · skip
      exfalso; omega
    · skip
      obtain ⟨k3, rfl⟩ : ∃ x, k2 = x + 1 := ⟨k2 - 1, by omega⟩
      show dz_T (s166_X11_readTurns_1 fu (F166_X11_readTurns fu k3).1 (F166_X11_readTurns fu k3).2 v0 v1 (((0 : Int32) ||| ((1 : Int32) <<< (((dz_ush v0 ((2 : Int32) * (0 : Int32))) &&& (3 : Int32)) &&& (31 : Int32)))) ||| ((1 : Int32) <<< (((dz_ush v0 ((2 : Int32) * ((0 : Int32) + (1 : Int32)))) &&& (3 : Int32)) &&& (31 : Int32)))) (((0 : Int32) + (1 : Int32)) + (1 : Int32)) a275) _
      unfold s166_X11_readTurns_1
      have e6 := dz_add (a := ((0 : Int32) + (1 : Int32))) (b := (1 : Int32)) (by omega) (by omega)
      refine dz_Tle (fun h7 => ?_) (fun h7 => ?_)
      · skip
        exfalso; omega
      · skip
        obtain ⟨k4, rfl⟩ : ∃ x, k3 = x + 1 := ⟨k3 - 1, by omega⟩
        show dz_T (s166_X11_readTurns_1 fu (F166_X11_readTurns fu k4).1 (F166_X11_readTurns fu k4).2 v0 v1 ((((0 : Int32) ||| ((1 : Int32) <<< (((dz_ush v0 ((2 : Int32) * (0 : Int32))) &&& (3 : Int32)) &&& (31 : Int32)))) ||| ((1 : Int32) <<< (((dz_ush v0 ((2 : Int32) * ((0 : Int32) + (1 : Int32)))) &&& (3 : Int32)) &&& (31 : Int32)))) ||| ((1 : Int32) <<< (((dz_ush v0 ((2 : Int32) * (((0 : Int32) + (1 : Int32)) + (1 : Int32)))) &&& (3 : Int32)) &&& (31 : Int32)))) ((((0 : Int32) + (1 : Int32)) + (1 : Int32)) + (1 : Int32)) a275) _
        unfold s166_X11_readTurns_1
        have e8 := dz_add (a := (((0 : Int32) + (1 : Int32)) + (1 : Int32))) (b := (1 : Int32)) (by omega) (by omega)
        refine dz_Tle (fun h9 => ?_) (fun h9 => ?_)
        · skip
          have e10 := dz_l2
          have e11 := dz_mull (a := (2 : Int32)) (b := (0 : Int32)) 2 (by omega) (by omega) (by omega)
          have e12 := dz_l3
          have e13 := dz_andr (a := (dz_ush v0 ((2 : Int32) * (0 : Int32)))) (b := (3 : Int32)) (by omega)
          have e14 := dz_l31
          have e15 := dz_andr (a := ((dz_ush v0 ((2 : Int32) * (0 : Int32))) &&& (3 : Int32))) (b := (31 : Int32)) (by omega)
          have e16 := dz_andl (a := ((dz_ush v0 ((2 : Int32) * (0 : Int32))) &&& (3 : Int32))) (b := (31 : Int32)) (by omega)
          have e17 := dz_shl1 (b := ((dz_ush v0 ((2 : Int32) * (0 : Int32))) &&& (3 : Int32))) 0 3 (by omega) (by omega) (by omega)
          have e18 := dz_orb (a := (0 : Int32)) (b := ((1 : Int32) <<< (((dz_ush v0 ((2 : Int32) * (0 : Int32))) &&& (3 : Int32)) &&& (31 : Int32)))) 4 (by omega) (by omega) (by omega) (by omega) (by omega)
          have e19 := dz_mull (a := (2 : Int32)) (b := ((0 : Int32) + (1 : Int32))) 2 (by omega) (by omega) (by omega)
          have e20 := dz_ushc (a := v0) (b := ((2 : Int32) * ((0 : Int32) + (1 : Int32)))) 2 (by omega) (by omega) (by omega)
          have e21 := dz_andr (a := (dz_ush v0 ((2 : Int32) * ((0 : Int32) + (1 : Int32))))) (b := (3 : Int32)) (by omega)
          have e22 := dz_andl (a := (dz_ush v0 ((2 : Int32) * ((0 : Int32) + (1 : Int32))))) (b := (3 : Int32)) (by omega)
          have e23 := dz_andr (a := ((dz_ush v0 ((2 : Int32) * ((0 : Int32) + (1 : Int32)))) &&& (3 : Int32))) (b := (31 : Int32)) (by omega)
          have e24 := dz_andl (a := ((dz_ush v0 ((2 : Int32) * ((0 : Int32) + (1 : Int32)))) &&& (3 : Int32))) (b := (31 : Int32)) (by omega)
          have e25 := dz_shl1 (b := ((dz_ush v0 ((2 : Int32) * ((0 : Int32) + (1 : Int32)))) &&& (3 : Int32))) 0 3 (by omega) (by omega) (by omega)
          have e26 := dz_orb (a := ((0 : Int32) ||| ((1 : Int32) <<< (((dz_ush v0 ((2 : Int32) * (0 : Int32))) &&& (3 : Int32)) &&& (31 : Int32))))) (b := ((1 : Int32) <<< (((dz_ush v0 ((2 : Int32) * ((0 : Int32) + (1 : Int32)))) &&& (3 : Int32)) &&& (31 : Int32)))) 4 (by omega) (by omega) (by omega) (by omega) (by omega)
          have e27 := dz_mull (a := (2 : Int32)) (b := (((0 : Int32) + (1 : Int32)) + (1 : Int32))) 2 (by omega) (by omega) (by omega)
          have e28 := dz_ushc (a := v0) (b := ((2 : Int32) * (((0 : Int32) + (1 : Int32)) + (1 : Int32)))) 4 (by omega) (by omega) (by omega)
          have e29 := dz_andr (a := (dz_ush v0 ((2 : Int32) * (((0 : Int32) + (1 : Int32)) + (1 : Int32))))) (b := (3 : Int32)) (by omega)
          have e30 := dz_andl (a := (dz_ush v0 ((2 : Int32) * (((0 : Int32) + (1 : Int32)) + (1 : Int32))))) (b := (3 : Int32)) (by omega)
          have e31 := dz_andr (a := ((dz_ush v0 ((2 : Int32) * (((0 : Int32) + (1 : Int32)) + (1 : Int32)))) &&& (3 : Int32))) (b := (31 : Int32)) (by omega)
          have e32 := dz_andl (a := ((dz_ush v0 ((2 : Int32) * (((0 : Int32) + (1 : Int32)) + (1 : Int32)))) &&& (3 : Int32))) (b := (31 : Int32)) (by omega)
          have e33 := dz_shl1 (b := ((dz_ush v0 ((2 : Int32) * (((0 : Int32) + (1 : Int32)) + (1 : Int32)))) &&& (3 : Int32))) 0 3 (by omega) (by omega) (by omega)
          have e34 := dz_orb (a := (((0 : Int32) ||| ((1 : Int32) <<< (((dz_ush v0 ((2 : Int32) * (0 : Int32))) &&& (3 : Int32)) &&& (31 : Int32)))) ||| ((1 : Int32) <<< (((dz_ush v0 ((2 : Int32) * ((0 : Int32) + (1 : Int32)))) &&& (3 : Int32)) &&& (31 : Int32))))) (b := ((1 : Int32) <<< (((dz_ush v0 ((2 : Int32) * (((0 : Int32) + (1 : Int32)) + (1 : Int32)))) &&& (3 : Int32)) &&& (31 : Int32)))) 4 (by omega) (by omega) (by omega) (by omega) (by omega)
          have e35 := dz_andr (a := v1) (b := (31 : Int32)) (by omega)
          have e36 := dz_andl (a := v1) (b := (31 : Int32)) (by omega)
          have e37 := dz_shl1 (b := v1) 3 3 (by omega) (by omega) (by omega)
          have e38 := dz_sub (a := ((1 : Int32) <<< (v1 &&& (31 : Int32)))) (b := (1 : Int32)) (by omega) (by omega)
          refine dz_Teq (fun h39 => ?_) (fun h39 => ?_)
          · skip
            obtain ⟨k5, rfl⟩ : ∃ x, k4 = x + 1 := ⟨k4 - 1, by omega⟩
            show dz_T (s166_X11_readTurns_2 fu (F166_X11_readTurns fu k5).2 v0 v1 (0 : Int32) a275) _
            unfold s166_X11_readTurns_2
            refine dz_Tle (fun h40 => ?_) (fun h40 => ?_)
            · skip
              exfalso; omega
            · skip
              have e41 := dz_l4
              refine dz_Tle (fun h42 => ?_) (fun h42 => ?_)
              · skip
                exfalso; omega
              · skip
                refine dz_Tin (by omega) (by omega) ?_
                obtain ⟨k6, rfl⟩ : ∃ x, k5 = x + 1 := ⟨k5 - 1, by omega⟩
                show dz_T (s166_X11_readTurns_2 fu (F166_X11_readTurns fu k6).2 v0 v1 ((0 : Int32) + (1 : Int32)) (upd a275 (0 : Int32).toNatClampNeg ((dz_ush v0 ((2 : Int32) * (0 : Int32))) &&& (3 : Int32)))) _
                unfold s166_X11_readTurns_2
                refine dz_Tle (fun h43 => ?_) (fun h43 => ?_)
                · skip
                  exfalso; omega
                · skip
                  refine dz_Tle (fun h44 => ?_) (fun h44 => ?_)
                  · skip
                    exfalso; omega
                  · skip
                    refine dz_Tin (by omega) (by omega) ?_
                    obtain ⟨k7, rfl⟩ : ∃ x, k6 = x + 1 := ⟨k6 - 1, by omega⟩
                    show dz_T (s166_X11_readTurns_2 fu (F166_X11_readTurns fu k7).2 v0 v1 (((0 : Int32) + (1 : Int32)) + (1 : Int32)) (upd (upd a275 (0 : Int32).toNatClampNeg ((dz_ush v0 ((2 : Int32) * (0 : Int32))) &&& (3 : Int32))) ((0 : Int32) + (1 : Int32)).toNatClampNeg ((dz_ush v0 ((2 : Int32) * ((0 : Int32) + (1 : Int32)))) &&& (3 : Int32)))) _
                    unfold s166_X11_readTurns_2
                    refine dz_Tle (fun h45 => ?_) (fun h45 => ?_)
                    · skip
                      exfalso; omega
                    · skip
                      refine dz_Tle (fun h46 => ?_) (fun h46 => ?_)
                      · skip
                        exfalso; omega
                      · skip
                        refine dz_Tin (by omega) (by omega) ?_
                        obtain ⟨k8, rfl⟩ : ∃ x, k7 = x + 1 := ⟨k7 - 1, by omega⟩
                        show dz_T (s166_X11_readTurns_2 fu (F166_X11_readTurns fu k8).2 v0 v1 ((((0 : Int32) + (1 : Int32)) + (1 : Int32)) + (1 : Int32)) (upd (upd (upd a275 (0 : Int32).toNatClampNeg ((dz_ush v0 ((2 : Int32) * (0 : Int32))) &&& (3 : Int32))) ((0 : Int32) + (1 : Int32)).toNatClampNeg ((dz_ush v0 ((2 : Int32) * ((0 : Int32) + (1 : Int32)))) &&& (3 : Int32))) (((0 : Int32) + (1 : Int32)) + (1 : Int32)).toNatClampNeg ((dz_ush v0 ((2 : Int32) * (((0 : Int32) + (1 : Int32)) + (1 : Int32)))) &&& (3 : Int32)))) _
                        unfold s166_X11_readTurns_2
                        refine dz_Tle (fun h47 => ?_) (fun h47 => ?_)
                        · skip
                          refine dz_Ts ?_
                          dsimp only
                          exact ⟨(by omega), (by omega), (dz_pmk3 ((dz_ush v0 ((2 : Int32) * (0 : Int32))) &&& (3 : Int32)) ((dz_ush v0 ((2 : Int32) * ((0 : Int32) + (1 : Int32)))) &&& (3 : Int32)) ((dz_ush v0 ((2 : Int32) * (((0 : Int32) + (1 : Int32)) + (1 : Int32)))) &&& (3 : Int32)) v1 ⟨by omega, by omega⟩ (by omega) (by omega) ⟨by omega, by omega⟩ (by omega) (by omega) ⟨by omega, by omega⟩ (by omega) (by omega) (by omega) (by assumption))⟩
                        · skip
                          exfalso; omega
          · skip
            refine dz_Ts ?_
            dsimp only
            exact ⟨(by omega), (by omega), (hr_a275)⟩
        · skip
          exfalso; omega
theorem t166_X11_readTurns_gx_m3 (fu : Nat) (hfu : 1000000000000 ≤ fu) (v0 : Int32) (v1 : Int32) (a275 : Nat → Int32) (p0 : 0 ≤ v1.toInt) (p1 : v1.toInt ≤ 4) (p2 : v1.toInt ≤ 3) (p3 : 3 ≤ v1.toInt) (hr_a275 : dz_pm a275 3) : dz_T (f166_X11_readTurns fu v0 v1 a275) (fun r => r.1.toInt ≤ 1 ∧ 0 ≤ r.1.toInt ∧ dz_pm r.2 3) :=
  t166_X11_readTurns_E_gx_m3 fu hfu v0 v1 a275 p0 p1 p2 p3 hr_a275 fu hfu
set_option maxHeartbeats 4000000 in
set_option maxRecDepth 10000 in
theorem t166_X11_readTurns_E_gx_m4 (fu : Nat) (hfu : 1000000000000 ≤ fu) (v0 : Int32) (v1 : Int32) (a275 : Nat → Int32) (p0 : 0 ≤ v1.toInt) (p1 : v1.toInt ≤ 4) (p2 : v1.toInt ≤ 4) (p3 : 4 ≤ v1.toInt) (hr_a275 : dz_pm a275 4) (kv : Nat) (hkv : 1000000000000 ≤ kv) : dz_T (s166_X11_readTurns_0 fu (F166_X11_readTurns fu kv).1  v0 v1 a275) (fun r => r.1.toInt ≤ 1 ∧ 0 ≤ r.1.toInt ∧ dz_pm r.2 4) := by
  unfold s166_X11_readTurns_0
  obtain ⟨k1, rfl⟩ : ∃ x, kv = x + 1 := ⟨kv - 1, by omega⟩
  show dz_T (s166_X11_readTurns_1 fu (F166_X11_readTurns fu k1).1 (F166_X11_readTurns fu k1).2 v0 v1 (0 : Int32) (0 : Int32) a275) _
  unfold s166_X11_readTurns_1
  have e1 := dz_l0
  refine dz_Tle (fun h2 => ?_) (fun h2 => ?_)
  · skip
    exfalso; omega
  · skip
    obtain ⟨k2, rfl⟩ : ∃ x, k1 = x + 1 := ⟨k1 - 1, by omega⟩
    show dz_T (s166_X11_readTurns_1 fu (F166_X11_readTurns fu k2).1 (F166_X11_readTurns fu k2).2 v0 v1 ((0 : Int32) ||| ((1 : Int32) <<< (((dz_ush v0 ((2 : Int32) * (0 : Int32))) &&& (3 : Int32)) &&& (31 : Int32)))) ((0 : Int32) + (1 : Int32)) a275) _
    unfold s166_X11_readTurns_1
    have e3 := dz_l1
    have e4 := dz_add (a := (0 : Int32)) (b := (1 : Int32)) (by omega) (by omega)
    refine dz_Tle (fun h5 => ?_) (fun h5 => ?_)
    · skip
      exfalso; omega
    · skip
      obtain ⟨k3, rfl⟩ : ∃ x, k2 = x + 1 := ⟨k2 - 1, by omega⟩
      show dz_T (s166_X11_readTurns_1 fu (F166_X11_readTurns fu k3).1 (F166_X11_readTurns fu k3).2 v0 v1 (((0 : Int32) ||| ((1 : Int32) <<< (((dz_ush v0 ((2 : Int32) * (0 : Int32))) &&& (3 : Int32)) &&& (31 : Int32)))) ||| ((1 : Int32) <<< (((dz_ush v0 ((2 : Int32) * ((0 : Int32) + (1 : Int32)))) &&& (3 : Int32)) &&& (31 : Int32)))) (((0 : Int32) + (1 : Int32)) + (1 : Int32)) a275) _
      unfold s166_X11_readTurns_1
      have e6 := dz_add (a := ((0 : Int32) + (1 : Int32))) (b := (1 : Int32)) (by omega) (by omega)
      refine dz_Tle (fun h7 => ?_) (fun h7 => ?_)
      · skip
        exfalso; omega
      · skip
        obtain ⟨k4, rfl⟩ : ∃ x, k3 = x + 1 := ⟨k3 - 1, by omega⟩
        show dz_T (s166_X11_readTurns_1 fu (F166_X11_readTurns fu k4).1 (F166_X11_readTurns fu k4).2 v0 v1 ((((0 : Int32) ||| ((1 : Int32) <<< (((dz_ush v0 ((2 : Int32) * (0 : Int32))) &&& (3 : Int32)) &&& (31 : Int32)))) ||| ((1 : Int32) <<< (((dz_ush v0 ((2 : Int32) * ((0 : Int32) + (1 : Int32)))) &&& (3 : Int32)) &&& (31 : Int32)))) ||| ((1 : Int32) <<< (((dz_ush v0 ((2 : Int32) * (((0 : Int32) + (1 : Int32)) + (1 : Int32)))) &&& (3 : Int32)) &&& (31 : Int32)))) ((((0 : Int32) + (1 : Int32)) + (1 : Int32)) + (1 : Int32)) a275) _
        unfold s166_X11_readTurns_1
        have e8 := dz_add (a := (((0 : Int32) + (1 : Int32)) + (1 : Int32))) (b := (1 : Int32)) (by omega) (by omega)
        refine dz_Tle (fun h9 => ?_) (fun h9 => ?_)
        · skip
          exfalso; omega
        · skip
          obtain ⟨k5, rfl⟩ : ∃ x, k4 = x + 1 := ⟨k4 - 1, by omega⟩
          show dz_T (s166_X11_readTurns_1 fu (F166_X11_readTurns fu k5).1 (F166_X11_readTurns fu k5).2 v0 v1 (((((0 : Int32) ||| ((1 : Int32) <<< (((dz_ush v0 ((2 : Int32) * (0 : Int32))) &&& (3 : Int32)) &&& (31 : Int32)))) ||| ((1 : Int32) <<< (((dz_ush v0 ((2 : Int32) * ((0 : Int32) + (1 : Int32)))) &&& (3 : Int32)) &&& (31 : Int32)))) ||| ((1 : Int32) <<< (((dz_ush v0 ((2 : Int32) * (((0 : Int32) + (1 : Int32)) + (1 : Int32)))) &&& (3 : Int32)) &&& (31 : Int32)))) ||| ((1 : Int32) <<< (((dz_ush v0 ((2 : Int32) * ((((0 : Int32) + (1 : Int32)) + (1 : Int32)) + (1 : Int32)))) &&& (3 : Int32)) &&& (31 : Int32)))) (((((0 : Int32) + (1 : Int32)) + (1 : Int32)) + (1 : Int32)) + (1 : Int32)) a275) _
          unfold s166_X11_readTurns_1
          have e10 := dz_add (a := ((((0 : Int32) + (1 : Int32)) + (1 : Int32)) + (1 : Int32))) (b := (1 : Int32)) (by omega) (by omega)
          refine dz_Tle (fun h11 => ?_) (fun h11 => ?_)
          · skip
            have e12 := dz_l2
            have e13 := dz_mull (a := (2 : Int32)) (b := (0 : Int32)) 2 (by omega) (by omega) (by omega)
            have e14 := dz_l3
            have e15 := dz_andr (a := (dz_ush v0 ((2 : Int32) * (0 : Int32)))) (b := (3 : Int32)) (by omega)
            have e16 := dz_l31
            have e17 := dz_andr (a := ((dz_ush v0 ((2 : Int32) * (0 : Int32))) &&& (3 : Int32))) (b := (31 : Int32)) (by omega)
            have e18 := dz_andl (a := ((dz_ush v0 ((2 : Int32) * (0 : Int32))) &&& (3 : Int32))) (b := (31 : Int32)) (by omega)
            have e19 := dz_shl1 (b := ((dz_ush v0 ((2 : Int32) * (0 : Int32))) &&& (3 : Int32))) 0 3 (by omega) (by omega) (by omega)
            have e20 := dz_orb (a := (0 : Int32)) (b := ((1 : Int32) <<< (((dz_ush v0 ((2 : Int32) * (0 : Int32))) &&& (3 : Int32)) &&& (31 : Int32)))) 4 (by omega) (by omega) (by omega) (by omega) (by omega)
            have e21 := dz_mull (a := (2 : Int32)) (b := ((0 : Int32) + (1 : Int32))) 2 (by omega) (by omega) (by omega)
            have e22 := dz_ushc (a := v0) (b := ((2 : Int32) * ((0 : Int32) + (1 : Int32)))) 2 (by omega) (by omega) (by omega)
            have e23 := dz_andr (a := (dz_ush v0 ((2 : Int32) * ((0 : Int32) + (1 : Int32))))) (b := (3 : Int32)) (by omega)
            have e24 := dz_andl (a := (dz_ush v0 ((2 : Int32) * ((0 : Int32) + (1 : Int32))))) (b := (3 : Int32)) (by omega)
            have e25 := dz_andr (a := ((dz_ush v0 ((2 : Int32) * ((0 : Int32) + (1 : Int32)))) &&& (3 : Int32))) (b := (31 : Int32)) (by omega)
            have e26 := dz_andl (a := ((dz_ush v0 ((2 : Int32) * ((0 : Int32) + (1 : Int32)))) &&& (3 : Int32))) (b := (31 : Int32)) (by omega)
            have e27 := dz_shl1 (b := ((dz_ush v0 ((2 : Int32) * ((0 : Int32) + (1 : Int32)))) &&& (3 : Int32))) 0 3 (by omega) (by omega) (by omega)
            have e28 := dz_orb (a := ((0 : Int32) ||| ((1 : Int32) <<< (((dz_ush v0 ((2 : Int32) * (0 : Int32))) &&& (3 : Int32)) &&& (31 : Int32))))) (b := ((1 : Int32) <<< (((dz_ush v0 ((2 : Int32) * ((0 : Int32) + (1 : Int32)))) &&& (3 : Int32)) &&& (31 : Int32)))) 4 (by omega) (by omega) (by omega) (by omega) (by omega)
            have e29 := dz_mull (a := (2 : Int32)) (b := (((0 : Int32) + (1 : Int32)) + (1 : Int32))) 2 (by omega) (by omega) (by omega)
            have e30 := dz_ushc (a := v0) (b := ((2 : Int32) * (((0 : Int32) + (1 : Int32)) + (1 : Int32)))) 4 (by omega) (by omega) (by omega)
            have e31 := dz_andr (a := (dz_ush v0 ((2 : Int32) * (((0 : Int32) + (1 : Int32)) + (1 : Int32))))) (b := (3 : Int32)) (by omega)
            have e32 := dz_andl (a := (dz_ush v0 ((2 : Int32) * (((0 : Int32) + (1 : Int32)) + (1 : Int32))))) (b := (3 : Int32)) (by omega)
            have e33 := dz_andr (a := ((dz_ush v0 ((2 : Int32) * (((0 : Int32) + (1 : Int32)) + (1 : Int32)))) &&& (3 : Int32))) (b := (31 : Int32)) (by omega)
            have e34 := dz_andl (a := ((dz_ush v0 ((2 : Int32) * (((0 : Int32) + (1 : Int32)) + (1 : Int32)))) &&& (3 : Int32))) (b := (31 : Int32)) (by omega)
            have e35 := dz_shl1 (b := ((dz_ush v0 ((2 : Int32) * (((0 : Int32) + (1 : Int32)) + (1 : Int32)))) &&& (3 : Int32))) 0 3 (by omega) (by omega) (by omega)
            have e36 := dz_orb (a := (((0 : Int32) ||| ((1 : Int32) <<< (((dz_ush v0 ((2 : Int32) * (0 : Int32))) &&& (3 : Int32)) &&& (31 : Int32)))) ||| ((1 : Int32) <<< (((dz_ush v0 ((2 : Int32) * ((0 : Int32) + (1 : Int32)))) &&& (3 : Int32)) &&& (31 : Int32))))) (b := ((1 : Int32) <<< (((dz_ush v0 ((2 : Int32) * (((0 : Int32) + (1 : Int32)) + (1 : Int32)))) &&& (3 : Int32)) &&& (31 : Int32)))) 4 (by omega) (by omega) (by omega) (by omega) (by omega)
            have e37 := dz_mull (a := (2 : Int32)) (b := ((((0 : Int32) + (1 : Int32)) + (1 : Int32)) + (1 : Int32))) 2 (by omega) (by omega) (by omega)
            have e38 := dz_ushc (a := v0) (b := ((2 : Int32) * ((((0 : Int32) + (1 : Int32)) + (1 : Int32)) + (1 : Int32)))) 6 (by omega) (by omega) (by omega)
            have e39 := dz_andr (a := (dz_ush v0 ((2 : Int32) * ((((0 : Int32) + (1 : Int32)) + (1 : Int32)) + (1 : Int32))))) (b := (3 : Int32)) (by omega)
            have e40 := dz_andl (a := (dz_ush v0 ((2 : Int32) * ((((0 : Int32) + (1 : Int32)) + (1 : Int32)) + (1 : Int32))))) (b := (3 : Int32)) (by omega)
            have e41 := dz_andr (a := ((dz_ush v0 ((2 : Int32) * ((((0 : Int32) + (1 : Int32)) + (1 : Int32)) + (1 : Int32)))) &&& (3 : Int32))) (b := (31 : Int32)) (by omega)
            have e42 := dz_andl (a := ((dz_ush v0 ((2 : Int32) * ((((0 : Int32) + (1 : Int32)) + (1 : Int32)) + (1 : Int32)))) &&& (3 : Int32))) (b := (31 : Int32)) (by omega)
            have e43 := dz_shl1 (b := ((dz_ush v0 ((2 : Int32) * ((((0 : Int32) + (1 : Int32)) + (1 : Int32)) + (1 : Int32)))) &&& (3 : Int32))) 0 3 (by omega) (by omega) (by omega)
            have e44 := dz_orb (a := ((((0 : Int32) ||| ((1 : Int32) <<< (((dz_ush v0 ((2 : Int32) * (0 : Int32))) &&& (3 : Int32)) &&& (31 : Int32)))) ||| ((1 : Int32) <<< (((dz_ush v0 ((2 : Int32) * ((0 : Int32) + (1 : Int32)))) &&& (3 : Int32)) &&& (31 : Int32)))) ||| ((1 : Int32) <<< (((dz_ush v0 ((2 : Int32) * (((0 : Int32) + (1 : Int32)) + (1 : Int32)))) &&& (3 : Int32)) &&& (31 : Int32))))) (b := ((1 : Int32) <<< (((dz_ush v0 ((2 : Int32) * ((((0 : Int32) + (1 : Int32)) + (1 : Int32)) + (1 : Int32)))) &&& (3 : Int32)) &&& (31 : Int32)))) 4 (by omega) (by omega) (by omega) (by omega) (by omega)
            have e45 := dz_andr (a := v1) (b := (31 : Int32)) (by omega)
            have e46 := dz_andl (a := v1) (b := (31 : Int32)) (by omega)
            have e47 := dz_shl1 (b := v1) 4 4 (by omega) (by omega) (by omega)
            have e48 := dz_sub (a := ((1 : Int32) <<< (v1 &&& (31 : Int32)))) (b := (1 : Int32)) (by omega) (by omega)
            refine dz_Teq (fun h49 => ?_) (fun h49 => ?_)
            · skip
              obtain ⟨k6, rfl⟩ : ∃ x, k5 = x + 1 := ⟨k5 - 1, by omega⟩
              show dz_T (s166_X11_readTurns_2 fu (F166_X11_readTurns fu k6).2 v0 v1 (0 : Int32) a275) _
              unfold s166_X11_readTurns_2
              refine dz_Tle (fun h50 => ?_) (fun h50 => ?_)
              · skip
                exfalso; omega
              · skip
                have e51 := dz_l4
                refine dz_Tle (fun h52 => ?_) (fun h52 => ?_)
                · skip
                  exfalso; omega
                · skip
                  refine dz_Tin (by omega) (by omega) ?_
                  obtain ⟨k7, rfl⟩ : ∃ x, k6 = x + 1 := ⟨k6 - 1, by omega⟩
                  show dz_T (s166_X11_readTurns_2 fu (F166_X11_readTurns fu k7).2 v0 v1 ((0 : Int32) + (1 : Int32)) (upd a275 (0 : Int32).toNatClampNeg ((dz_ush v0 ((2 : Int32) * (0 : Int32))) &&& (3 : Int32)))) _
                  unfold s166_X11_readTurns_2
                  refine dz_Tle (fun h53 => ?_) (fun h53 => ?_)
                  · skip
                    exfalso; omega
                  · skip
                    refine dz_Tle (fun h54 => ?_) (fun h54 => ?_)
                    · skip
                      exfalso; omega
                    · skip
                      refine dz_Tin (by omega) (by omega) ?_
                      obtain ⟨k8, rfl⟩ : ∃ x, k7 = x + 1 := ⟨k7 - 1, by omega⟩
                      show dz_T (s166_X11_readTurns_2 fu (F166_X11_readTurns fu k8).2 v0 v1 (((0 : Int32) + (1 : Int32)) + (1 : Int32)) (upd (upd a275 (0 : Int32).toNatClampNeg ((dz_ush v0 ((2 : Int32) * (0 : Int32))) &&& (3 : Int32))) ((0 : Int32) + (1 : Int32)).toNatClampNeg ((dz_ush v0 ((2 : Int32) * ((0 : Int32) + (1 : Int32)))) &&& (3 : Int32)))) _
                      unfold s166_X11_readTurns_2
                      refine dz_Tle (fun h55 => ?_) (fun h55 => ?_)
                      · skip
                        exfalso; omega
                      · skip
                        refine dz_Tle (fun h56 => ?_) (fun h56 => ?_)
                        · skip
                          exfalso; omega
                        · skip
                          refine dz_Tin (by omega) (by omega) ?_
                          obtain ⟨k9, rfl⟩ : ∃ x, k8 = x + 1 := ⟨k8 - 1, by omega⟩
                          show dz_T (s166_X11_readTurns_2 fu (F166_X11_readTurns fu k9).2 v0 v1 ((((0 : Int32) + (1 : Int32)) + (1 : Int32)) + (1 : Int32)) (upd (upd (upd a275 (0 : Int32).toNatClampNeg ((dz_ush v0 ((2 : Int32) * (0 : Int32))) &&& (3 : Int32))) ((0 : Int32) + (1 : Int32)).toNatClampNeg ((dz_ush v0 ((2 : Int32) * ((0 : Int32) + (1 : Int32)))) &&& (3 : Int32))) (((0 : Int32) + (1 : Int32)) + (1 : Int32)).toNatClampNeg ((dz_ush v0 ((2 : Int32) * (((0 : Int32) + (1 : Int32)) + (1 : Int32)))) &&& (3 : Int32)))) _
                          unfold s166_X11_readTurns_2
                          refine dz_Tle (fun h57 => ?_) (fun h57 => ?_)
                          · skip
                            exfalso; omega
                          · skip
                            refine dz_Tle (fun h58 => ?_) (fun h58 => ?_)
                            · skip
                              exfalso; omega
                            · skip
                              refine dz_Tin (by omega) (by omega) ?_
                              obtain ⟨k10, rfl⟩ : ∃ x, k9 = x + 1 := ⟨k9 - 1, by omega⟩
                              show dz_T (s166_X11_readTurns_2 fu (F166_X11_readTurns fu k10).2 v0 v1 (((((0 : Int32) + (1 : Int32)) + (1 : Int32)) + (1 : Int32)) + (1 : Int32)) (upd (upd (upd (upd a275 (0 : Int32).toNatClampNeg ((dz_ush v0 ((2 : Int32) * (0 : Int32))) &&& (3 : Int32))) ((0 : Int32) + (1 : Int32)).toNatClampNeg ((dz_ush v0 ((2 : Int32) * ((0 : Int32) + (1 : Int32)))) &&& (3 : Int32))) (((0 : Int32) + (1 : Int32)) + (1 : Int32)).toNatClampNeg ((dz_ush v0 ((2 : Int32) * (((0 : Int32) + (1 : Int32)) + (1 : Int32)))) &&& (3 : Int32))) ((((0 : Int32) + (1 : Int32)) + (1 : Int32)) + (1 : Int32)).toNatClampNeg ((dz_ush v0 ((2 : Int32) * ((((0 : Int32) + (1 : Int32)) + (1 : Int32)) + (1 : Int32)))) &&& (3 : Int32)))) _
                              unfold s166_X11_readTurns_2
                              refine dz_Tle (fun h59 => ?_) (fun h59 => ?_)
                              · skip
                                refine dz_Ts ?_
                                dsimp only
                                exact ⟨(by omega), (by omega), (dz_pmk4 ((dz_ush v0 ((2 : Int32) * (0 : Int32))) &&& (3 : Int32)) ((dz_ush v0 ((2 : Int32) * ((0 : Int32) + (1 : Int32)))) &&& (3 : Int32)) ((dz_ush v0 ((2 : Int32) * (((0 : Int32) + (1 : Int32)) + (1 : Int32)))) &&& (3 : Int32)) ((dz_ush v0 ((2 : Int32) * ((((0 : Int32) + (1 : Int32)) + (1 : Int32)) + (1 : Int32)))) &&& (3 : Int32)) v1 ⟨by omega, by omega⟩ (by omega) (by omega) ⟨by omega, by omega⟩ (by omega) (by omega) ⟨by omega, by omega⟩ (by omega) (by omega) ⟨by omega, by omega⟩ (by omega) (by omega) (by omega) (by assumption))⟩
                              · skip
                                exfalso; omega
            · skip
              refine dz_Ts ?_
              dsimp only
              exact ⟨(by omega), (by omega), (hr_a275)⟩
          · skip
            exfalso; omega
theorem t166_X11_readTurns_gx_m4 (fu : Nat) (hfu : 1000000000000 ≤ fu) (v0 : Int32) (v1 : Int32) (a275 : Nat → Int32) (p0 : 0 ≤ v1.toInt) (p1 : v1.toInt ≤ 4) (p2 : v1.toInt ≤ 4) (p3 : 4 ≤ v1.toInt) (hr_a275 : dz_pm a275 4) : dz_T (f166_X11_readTurns fu v0 v1 a275) (fun r => r.1.toInt ≤ 1 ∧ 0 ≤ r.1.toInt ∧ dz_pm r.2 4) :=
  t166_X11_readTurns_E_gx_m4 fu hfu v0 v1 a275 p0 p1 p2 p3 hr_a275 fu hfu
theorem t166_X11_readTurns_m (fu : Nat) (hfu : 1000000000000 ≤ fu) (v0 : Int32) (v1 : Int32) (a275 : Nat → Int32) (p : Nat) (hp : p ≤ 4) (hv : v1.toInt = (p : Int)) (hr : dz_pm a275 p) : dz_T (f166_X11_readTurns fu v0 v1 a275) (fun r => r.1.toInt ≤ 1 ∧ 0 ≤ r.1.toInt ∧ dz_pm r.2 p) := by
  rcases (show p = 0 ∨ p = 1 ∨ p = 2 ∨ p = 3 ∨ p = 4 by omega) with rfl | rfl | rfl | rfl | rfl
  · refine dz_Tw (t166_X11_readTurns_gx_m0 fu hfu v0 v1 a275 (by omega) (by omega) (by omega) (by omega) hr) (fun r h => ?_)
    exact ⟨by omega, by omega, h.2.2⟩
  · refine dz_Tw (t166_X11_readTurns_gx_m1 fu hfu v0 v1 a275 (by omega) (by omega) (by omega) (by omega) hr) (fun r h => ?_)
    exact ⟨by omega, by omega, h.2.2⟩
  · refine dz_Tw (t166_X11_readTurns_gx_m2 fu hfu v0 v1 a275 (by omega) (by omega) (by omega) (by omega) hr) (fun r h => ?_)
    exact ⟨by omega, by omega, h.2.2⟩
  · refine dz_Tw (t166_X11_readTurns_gx_m3 fu hfu v0 v1 a275 (by omega) (by omega) (by omega) (by omega) hr) (fun r h => ?_)
    exact ⟨by omega, by omega, h.2.2⟩
  · refine dz_Tw (t166_X11_readTurns_gx_m4 fu hfu v0 v1 a275 (by omega) (by omega) (by omega) (by omega) hr) (fun r h => ?_)
    exact ⟨by omega, by omega, h.2.2⟩
