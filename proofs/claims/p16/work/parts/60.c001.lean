set_option maxHeartbeats 1000000 in
set_option maxRecDepth 10000 in
theorem t124_X3_take_s (fu : Nat) (hfu : 1000000000000 ≤ fu) (κ : Nat) (hκ : κ < 14) (c255_groups : Int32) (c255_pots : Int32) (c255_teams : Int32) (c255_marks : Int32) (c255_bars : Int32) (c255_groupsNamed : Int32) (a256 : Nat → Int32) (a257 : Nat → Int32) (a258 : Nat → Int32) (a259 : Nat → Int32) (a260 : Nat → Int32) (c248_groups : Int32) (c248_pots : Int32) (c248_teams : Int32) (c248_marks : Int32) (c248_bars : Int32) (c248_groupsNamed : Int32) (a249 : Nat → Int32) (a250 : Nat → Int32) (a251 : Nat → Int32) (a252 : Nat → Int32) (a253 : Nat → Int32) (p0 : c255_groups.toInt ≤ 4) (p1 : 2 ≤ c255_groups.toInt) (p2 : c255_pots.toInt ≤ 4) (p3 : 0 ≤ c255_pots.toInt) (p4 : c255_teams.toInt ≤ 12) (p5 : 0 ≤ c255_teams.toInt) (p6 : c255_marks.toInt ≤ 6) (p7 : 0 ≤ c255_marks.toInt) (p8 : c255_bars.toInt ≤ 10) (p9 : 0 ≤ c255_bars.toInt) (p10 : c248_groups.toInt ≤ 4) (p11 : 2 ≤ c248_groups.toInt) (p12 : c248_pots.toInt ≤ 4) (p13 : 0 ≤ c248_pots.toInt) (p14 : c248_teams.toInt ≤ 12) (p15 : 0 ≤ c248_teams.toInt) (p16 : c248_marks.toInt ≤ 6) (p17 : 0 ≤ c248_marks.toInt) (p18 : c248_bars.toInt ≤ 10) (p19 : 0 ≤ c248_bars.toInt) : dz_T (f124_X3_take fu c255_groups c255_pots c255_teams c255_marks c255_bars c255_groupsNamed a256 a257 a258 a259 a260 c248_groups c248_pots c248_teams c248_marks c248_bars c248_groupsNamed a249 a250 a251 a252 a253) (fun r => r.1.toInt ≤ 4 ∧ 2 ≤ r.1.toInt ∧ r.2.1.toInt ≤ 4 ∧ 0 ≤ r.2.1.toInt ∧ r.2.2.1.toInt ≤ 12 ∧ 0 ≤ r.2.2.1.toInt ∧ r.2.2.2.1.toInt ≤ 6 ∧ 0 ≤ r.2.2.2.1.toInt ∧ r.2.2.2.2.1.toInt ≤ 10 ∧ 0 ≤ r.2.2.2.2.1.toInt ∧ (r.1.toInt = c255_groups.toInt) ∧ (r.2.1.toInt = c255_pots.toInt) ∧ (r.2.2.1.toInt = c255_teams.toInt) ∧ (r.2.2.2.1.toInt = c255_marks.toInt) ∧ (r.2.2.2.2.1.toInt = c255_bars.toInt)) := by
  unfold f124_X3_take s124_X3_take_0
  have e1 := dz_l0
  refine dz_Tng (by omega) ?_
  refine dz_Tng (by omega) ?_
  have e2 := dz_l12
  refine dz_Tng (by omega) ?_
  have e3 := dz_tn (0 : Int32)
  have e4 := dz_tn (12 : Int32)
  refine dz_Tg (by omega) ?_
  refine dz_Tg (by omega) ?_
  refine dz_Tng (by omega) ?_
  refine dz_Tng (by omega) ?_
  refine dz_Tng (by omega) ?_
  refine dz_Tg (by omega) ?_
  refine dz_Tg (by omega) ?_
  refine dz_Tng (by omega) ?_
  refine dz_Tng (by omega) ?_
  have e5 := dz_l6
  refine dz_Tng (by omega) ?_
  have e6 := dz_tn (6 : Int32)
  refine dz_Tg (by omega) ?_
  refine dz_Tg (by omega) ?_
  refine dz_Tng (by omega) ?_
  refine dz_Tng (by omega) ?_
  have e7 := dz_l10
  refine dz_Tng (by omega) ?_
  have e8 := dz_tn (10 : Int32)
  refine dz_Tg (by omega) ?_
  refine dz_Tg (by omega) ?_
  refine dz_Tng (by omega) ?_
  refine dz_Tng (by omega) ?_
  refine dz_Tng (by omega) ?_
  refine dz_Tg (by omega) ?_
  refine dz_Tg (by omega) ?_
  refine dz_Ts ?_
  dsimp only
  exact ⟨p0, p1, p2, p3, p4, p5, p6, p7, p8, p9, (by omega), (by omega), (by omega), (by omega), (by omega)⟩
abbrev p127_X4_addRow_s (fu : Nat) (κ : Nat) (c261_groups : Int32) (a266 : Nat → Int32) (k : Nat) : Prop :=
  (∀ (v1 : Int32) (c261_many : Int32) (a262 : Nat → Int32) (a263 : Nat → Int32) (a264 : Nat → Int32), v1.toInt ≤ 4 → 0 ≤ v1.toInt → c261_many.toInt ≤ 23 → 0 ≤ c261_many.toInt → v1.toInt ≤ c261_groups.toInt → dz_rg a262 96 0 3 → dz_rg a264 16 0 16777215 → 0 + 0 + (4 - v1.toInt) * 10 + 5 ≤ ((k : Nat) : Int) → dz_T ((F127_X4_addRow fu c261_groups a266 k) v1 c261_many a262 a263 a264) (fun r => r.1.toInt ≤ 24 ∧ 1 ≤ r.1.toInt ∧ dz_rg r.2.1 96 0 3 ∧ dz_rg r.2.2.2 16 0 16777215))
set_option maxHeartbeats 1000000 in
set_option maxRecDepth 10000 in
theorem t127_X4_addRow_h1_s (fu : Nat) (hfu : 1000000000000 ≤ fu) (κ : Nat) (hκ : κ < 14) (c261_groups : Int32) (a266 : Nat → Int32) (p0 : c261_groups.toInt ≤ 4) (p1 : 0 ≤ c261_groups.toInt) (hr_a266 : dz_rg a266 4 0 3) (o0 : c261_groups.toInt = ((dz_kg κ : Nat) : Int)) (k : Nat) (ih : ∀ j9, j9 < k → p127_X4_addRow_s fu κ c261_groups a266 j9) : ∀ (v1 : Int32) (c261_many : Int32) (a262 : Nat → Int32) (a263 : Nat → Int32) (a264 : Nat → Int32), v1.toInt ≤ 4 → 0 ≤ v1.toInt → c261_many.toInt ≤ 23 → 0 ≤ c261_many.toInt → v1.toInt ≤ c261_groups.toInt → dz_rg a262 96 0 3 → dz_rg a264 16 0 16777215 → 0 + 0 + (4 - v1.toInt) * 10 + 5 ≤ ((k : Nat) : Int) → dz_T ((F127_X4_addRow fu c261_groups a266 k) v1 c261_many a262 a263 a264) (fun r => r.1.toInt ≤ 24 ∧ 1 ≤ r.1.toInt ∧ dz_rg r.2.1 96 0 3 ∧ dz_rg r.2.2.2 16 0 16777215) := by
  intro v1 c261_many a262 a263 a264 i0 i1 i2 i3 i4 hr_a262 hr_a264 hm
  obtain ⟨k0, rfl⟩ : ∃ x, k = x + 1 := ⟨k - 1, by omega⟩
  show dz_T (s127_X4_addRow_1 fu c261_groups a266 (F127_X4_addRow fu c261_groups a266 k0)  v1 c261_many a262 a263 a264) _
  unfold s127_X4_addRow_1
  refine dz_Tle (fun h1 => ?_) (fun h1 => ?_)
  · skip
    have e2 := dz_l1
    have e3 := dz_add (a := c261_many) (b := (1 : Int32)) (by omega) (by omega)
    refine dz_Ts ?_
    dsimp only
    exact ⟨(by omega), (by omega), (hr_a262), (hr_a264)⟩
  · skip
    refine dz_Tin (by omega) (by omega) ?_
    have e4 := dz_l4
    have e5 := dz_mulr (a := c261_many) (b := (4 : Int32)) 4 (by omega) (by omega) (by omega)
    have e6 := dz_add (a := (c261_many * (4 : Int32))) (b := v1) (by omega) (by omega)
    refine dz_Tin (by omega) (by omega) ?_
    have e7 := dz_rgat (hr_a266) (i := v1) (by omega) (by omega)
    have e8 := dz_add (a := (c261_many * (4 : Int32))) (b := (a266 v1.toNatClampNeg)) (by omega) (by omega)
    refine dz_Tin (by omega) (by omega) ?_
    have e9 := dz_mulr (a := v1) (b := (4 : Int32)) 4 (by omega) (by omega) (by omega)
    have e10 := dz_add (a := (v1 * (4 : Int32))) (b := (a266 v1.toNatClampNeg)) (by omega) (by omega)
    refine dz_Tin (by omega) (by omega) ?_
    refine dz_Tin (by omega) (by omega) ?_
    have e11 := dz_l1
    have e12 := dz_add (a := v1) (b := (1 : Int32)) (by omega) (by omega)
    have e13 := dz_rgat (hr_a264) (i := ((v1 * (4 : Int32)) + (a266 v1.toNatClampNeg))) (by omega) (by omega)
    have e14 := dz_l31
    have e15 := dz_andr (a := c261_many) (b := (31 : Int32)) (by omega)
    have e16 := dz_andl (a := c261_many) (b := (31 : Int32)) (by omega)
    have e17 := dz_shl1 (b := c261_many) 0 23 (by omega) (by omega) (by omega)
    have e18 := dz_orb (a := (a264 ((v1 * (4 : Int32)) + (a266 v1.toNatClampNeg)).toNatClampNeg)) (b := ((1 : Int32) <<< (c261_many &&& (31 : Int32)))) 24 (by omega) (by omega) (by omega) (by omega) (by omega)
    exact (ih k0 (by omega)) (v1 + (1 : Int32)) c261_many (upd a262 ((c261_many * (4 : Int32)) + v1).toNatClampNeg (a266 v1.toNatClampNeg)) (upd a263 ((c261_many * (4 : Int32)) + (a266 v1.toNatClampNeg)).toNatClampNeg v1) (upd a264 ((v1 * (4 : Int32)) + (a266 v1.toNatClampNeg)).toNatClampNeg ((a264 ((v1 * (4 : Int32)) + (a266 v1.toNatClampNeg)).toNatClampNeg) ||| ((1 : Int32) <<< (c261_many &&& (31 : Int32))))) (by omega) (by omega) i2 i3 (by omega) (dz_rgu (hr_a262) (by omega) (by omega)) (dz_rgu (hr_a264) (by omega) (by omega)) (by omega)
theorem t127_X4_addRow_I_s (fu : Nat) (hfu : 1000000000000 ≤ fu) (κ : Nat) (hκ : κ < 14) (c261_groups : Int32) (a266 : Nat → Int32) (p0 : c261_groups.toInt ≤ 4) (p1 : 0 ≤ c261_groups.toInt) (hr_a266 : dz_rg a266 4 0 3) (o0 : c261_groups.toInt = ((dz_kg κ : Nat) : Int)) (k : Nat) : p127_X4_addRow_s fu κ c261_groups a266 k := by
  induction k using Nat.strongRecOn with
  | _ k ih => exact t127_X4_addRow_h1_s fu hfu κ hκ c261_groups a266 p0 p1 hr_a266 o0 k ih
set_option maxHeartbeats 1000000 in
set_option maxRecDepth 10000 in
theorem t127_X4_addRow_E_s (fu : Nat) (hfu : 1000000000000 ≤ fu) (κ : Nat) (hκ : κ < 14) (c261_groups : Int32) (a266 : Nat → Int32) (c261_many : Int32) (a262 : Nat → Int32) (a263 : Nat → Int32) (a264 : Nat → Int32) (p0 : c261_groups.toInt ≤ 4) (p1 : 0 ≤ c261_groups.toInt) (p2 : 0 ≤ c261_many.toInt) (p3 : c261_many.toInt ≤ 23) (hr_a266 : dz_rg a266 4 0 3) (hr_a262 : dz_rg a262 96 0 3) (hr_a264 : dz_rg a264 16 0 16777215) (o0 : c261_groups.toInt = ((dz_kg κ : Nat) : Int)) (kv : Nat) (hkv : 1000000000000 ≤ kv) : dz_T (s127_X4_addRow_0 fu c261_groups a266 (F127_X4_addRow fu c261_groups a266 kv)  c261_many a262 a263 a264) (fun r => r.1.toInt ≤ 24 ∧ 1 ≤ r.1.toInt ∧ dz_rg r.2.1 96 0 3 ∧ dz_rg r.2.2.2 16 0 16777215) := by
  unfold s127_X4_addRow_0
  have e1 := dz_l0
  exact (t127_X4_addRow_I_s fu hfu κ hκ c261_groups a266 p0 p1 hr_a266 o0 kv) (0 : Int32) c261_many a262 a263 a264 (by omega) (by omega) p3 p2 (by omega) (hr_a262) (hr_a264) (by omega)
theorem t127_X4_addRow_s (fu : Nat) (hfu : 1000000000000 ≤ fu) (κ : Nat) (hκ : κ < 14) (c261_groups : Int32) (a266 : Nat → Int32) (c261_many : Int32) (a262 : Nat → Int32) (a263 : Nat → Int32) (a264 : Nat → Int32) (p0 : c261_groups.toInt ≤ 4) (p1 : 0 ≤ c261_groups.toInt) (p2 : 0 ≤ c261_many.toInt) (p3 : c261_many.toInt ≤ 23) (hr_a266 : dz_rg a266 4 0 3) (hr_a262 : dz_rg a262 96 0 3) (hr_a264 : dz_rg a264 16 0 16777215) (o0 : c261_groups.toInt = ((dz_kg κ : Nat) : Int)) : dz_T (f127_X4_addRow fu c261_groups a266 c261_many a262 a263 a264) (fun r => r.1.toInt ≤ 24 ∧ 1 ≤ r.1.toInt ∧ dz_rg r.2.1 96 0 3 ∧ dz_rg r.2.2.2 16 0 16777215) :=
  t127_X4_addRow_E_s fu hfu κ hκ c261_groups a266 c261_many a262 a263 a264 p0 p1 p2 p3 hr_a266 hr_a262 hr_a264 o0 fu hfu
set_option maxHeartbeats 1000000 in
set_option maxRecDepth 10000 in
theorem t130_X4_groupAt (fu : Nat) (hfu : 1000000000000 ≤ fu) (a262 : Nat → Int32) (v1 : Int32) (v2 : Int32) (p0 : 0 ≤ v1.toInt) (p1 : v1.toInt ≤ 23) (p2 : 0 ≤ v2.toInt) (p3 : v2.toInt ≤ 3) (hr_a262 : dz_rg a262 96 0 3) : dz_T (f130_X4_groupAt fu a262 v1 v2) (fun r => r.toInt ≤ 3 ∧ 0 ≤ r.toInt) := by
  unfold f130_X4_groupAt s130_X4_groupAt_0
  have e1 := dz_l4
  have e2 := dz_mulr (a := v1) (b := (4 : Int32)) 4 (by omega) (by omega) (by omega)
  have e3 := dz_add (a := (v1 * (4 : Int32))) (b := v2) (by omega) (by omega)
  refine dz_Tin (by omega) (by omega) ?_
  have e4 := dz_rgat (hr_a262) (i := ((v1 * (4 : Int32)) + v2)) (by omega) (by omega)
  exact dz_Ts ⟨(by omega), (by omega)⟩
abbrev p131_X4_rankWithSwapped_s (fu : Nat) (κ : Nat) (c261_groups : Int32) (c261_everyRank : Int32) (a262 : Nat → Int32) (a264 : Nat → Int32) (k : Nat) : Prop :=
  (∀ (v1 : Int32) (v2 : Int32) (v3 : Int32) (v4 : Int32) (v5 : Int32), v1.toInt ≤ 23 → 0 ≤ v1.toInt → v2.toInt ≤ 3 → 0 ≤ v2.toInt → v3.toInt ≤ 3 → 0 ≤ v3.toInt → v4.toInt ≤ 16777215 → 0 ≤ v4.toInt → v5.toInt ≤ 4 → 0 ≤ v5.toInt → v4.toInt ≤ c261_everyRank.toInt → v5.toInt ≤ c261_groups.toInt → 0 + 0 + (4 - v5.toInt) * 12 + 6 ≤ ((k : Nat) : Int) → dz_T ((F131_X4_rankWithSwapped fu c261_groups c261_everyRank a262 a264 k).1 v1 v2 v3 v4 v5) (fun r => r.toInt ≤ 23 ∧ 0 ≤ r.toInt))
set_option maxHeartbeats 1000000 in
set_option maxRecDepth 10000 in
theorem t131_X4_rankWithSwapped_h1_s (fu : Nat) (hfu : 1000000000000 ≤ fu) (κ : Nat) (hκ : κ < 14) (c261_groups : Int32) (c261_everyRank : Int32) (a262 : Nat → Int32) (a264 : Nat → Int32) (p0 : c261_groups.toInt ≤ 4) (p1 : 0 ≤ c261_groups.toInt) (p2 : c261_everyRank.toInt ≤ 16777215) (p3 : 0 ≤ c261_everyRank.toInt) (hr_a262 : dz_rg a262 96 0 3) (hr_a264 : dz_rg a264 16 0 16777215) (o1 : c261_groups.toInt = ((dz_kg κ : Nat) : Int)) (o2 : c261_everyRank.toInt = ((dz_ke κ : Nat) : Int)) (k : Nat) (ih : ∀ j9, j9 < k → p131_X4_rankWithSwapped_s fu κ c261_groups c261_everyRank a262 a264 j9) : ∀ (v1 : Int32) (v2 : Int32) (v3 : Int32) (v4 : Int32) (v5 : Int32), v1.toInt ≤ 23 → 0 ≤ v1.toInt → v2.toInt ≤ 3 → 0 ≤ v2.toInt → v3.toInt ≤ 3 → 0 ≤ v3.toInt → v4.toInt ≤ 16777215 → 0 ≤ v4.toInt → v5.toInt ≤ 4 → 0 ≤ v5.toInt → v4.toInt ≤ c261_everyRank.toInt → v5.toInt ≤ c261_groups.toInt → 0 + 0 + (4 - v5.toInt) * 12 + 6 ≤ ((k : Nat) : Int) → dz_T ((F131_X4_rankWithSwapped fu c261_groups c261_everyRank a262 a264 k).1 v1 v2 v3 v4 v5) (fun r => r.toInt ≤ 23 ∧ 0 ≤ r.toInt) := by
  intro v1 v2 v3 v4 v5 i0 i1 i2 i3 i4 i5 i6 i7 i8 i9 i10 i11 hm
  obtain ⟨k0, rfl⟩ : ∃ x, k = x + 1 := ⟨k - 1, by omega⟩
  show dz_T (s131_X4_rankWithSwapped_1 fu c261_groups c261_everyRank a262 a264 (F131_X4_rankWithSwapped fu c261_groups c261_everyRank a262 a264 k0).2  v1 v2 v3 v4 v5) _
  unfold s131_X4_rankWithSwapped_1
  refine dz_Tle (fun h1 => ?_) (fun h1 => ?_)
  · skip
    refine dz_Tb (t129_X4_only fu hfu _ 24 (by omega) (by omega) (by decide)) (fun r1 q => ?_)
    obtain ⟨q1_0, q1_1⟩ := q
    exact dz_Ts ⟨q1_0, q1_1⟩
  · skip
    refine dz_Tb (t130_X4_groupAt fu hfu _ _ _ i1 i0 i9 (by first | assumption | omega) (hr_a262)) (fun r2 q => ?_)
    obtain ⟨q2_0, q2_1⟩ := q
    refine dz_Teq (fun h2 => ?_) (fun h2 => ?_)
    · skip
      obtain ⟨k1, rfl⟩ : ∃ x, k0 = x + 1 := ⟨k0 - 1, by omega⟩
      show dz_T (s131_X4_rankWithSwapped_2 fu c261_groups c261_everyRank a262 a264 (F131_X4_rankWithSwapped fu c261_groups c261_everyRank a262 a264 k1).1 v1 v2 v3 v4 v5 v3) _
      unfold s131_X4_rankWithSwapped_2
      have e3 := dz_l4
      have e4 := dz_mulr (a := v5) (b := (4 : Int32)) 4 (by omega) (by omega) (by omega)
      have e5 := dz_add (a := (v5 * (4 : Int32))) (b := v3) (by omega) (by omega)
      refine dz_Tin (by omega) (by omega) ?_
      have e6 := dz_rgat (hr_a264) (i := ((v5 * (4 : Int32)) + v3)) (by omega) (by omega)
      have e7 := dz_andr (a := v4) (b := (a264 ((v5 * (4 : Int32)) + v3).toNatClampNeg)) (by omega)
      have e8 := dz_andl (a := v4) (b := (a264 ((v5 * (4 : Int32)) + v3).toNatClampNeg)) (by omega)
      have e9 := dz_l1
      have e10 := dz_add (a := v5) (b := (1 : Int32)) (by omega) (by omega)
      exact (ih k1 (by omega)) v1 v2 v3 (v4 &&& (a264 ((v5 * (4 : Int32)) + v3).toNatClampNeg)) (v5 + (1 : Int32)) i0 i1 i2 i3 i4 i5 (by omega) (by omega) (by omega) (by omega) (by omega) (by omega) (by omega)
    · skip
      refine dz_Teq (fun h11 => ?_) (fun h11 => ?_)
      · skip
        obtain ⟨k2, rfl⟩ : ∃ x, k0 = x + 1 := ⟨k0 - 1, by omega⟩
        show dz_T (s131_X4_rankWithSwapped_2 fu c261_groups c261_everyRank a262 a264 (F131_X4_rankWithSwapped fu c261_groups c261_everyRank a262 a264 k2).1 v1 v2 v3 v4 v5 v2) _
        unfold s131_X4_rankWithSwapped_2
        have e12 := dz_l4
        have e13 := dz_mulr (a := v5) (b := (4 : Int32)) 4 (by omega) (by omega) (by omega)
        have e14 := dz_add (a := (v5 * (4 : Int32))) (b := v2) (by omega) (by omega)
        refine dz_Tin (by omega) (by omega) ?_
        have e15 := dz_rgat (hr_a264) (i := ((v5 * (4 : Int32)) + v2)) (by omega) (by omega)
        have e16 := dz_andr (a := v4) (b := (a264 ((v5 * (4 : Int32)) + v2).toNatClampNeg)) (by omega)
        have e17 := dz_andl (a := v4) (b := (a264 ((v5 * (4 : Int32)) + v2).toNatClampNeg)) (by omega)
        have e18 := dz_l1
        have e19 := dz_add (a := v5) (b := (1 : Int32)) (by omega) (by omega)
        exact (ih k2 (by omega)) v1 v2 v3 (v4 &&& (a264 ((v5 * (4 : Int32)) + v2).toNatClampNeg)) (v5 + (1 : Int32)) i0 i1 i2 i3 i4 i5 (by omega) (by omega) (by omega) (by omega) (by omega) (by omega) (by omega)
      · skip
        obtain ⟨k3, rfl⟩ : ∃ x, k0 = x + 1 := ⟨k0 - 1, by omega⟩
        show dz_T (s131_X4_rankWithSwapped_2 fu c261_groups c261_everyRank a262 a264 (F131_X4_rankWithSwapped fu c261_groups c261_everyRank a262 a264 k3).1 v1 v2 v3 v4 v5 r2) _
        unfold s131_X4_rankWithSwapped_2
        have e20 := dz_l4
        have e21 := dz_mulr (a := v5) (b := (4 : Int32)) 4 (by omega) (by omega) (by omega)
        have e22 := dz_add (a := (v5 * (4 : Int32))) (b := r2) (by omega) (by omega)
        refine dz_Tin (by omega) (by omega) ?_
        have e23 := dz_rgat (hr_a264) (i := ((v5 * (4 : Int32)) + r2)) (by omega) (by omega)
        have e24 := dz_andr (a := v4) (b := (a264 ((v5 * (4 : Int32)) + r2).toNatClampNeg)) (by omega)
        have e25 := dz_andl (a := v4) (b := (a264 ((v5 * (4 : Int32)) + r2).toNatClampNeg)) (by omega)
        have e26 := dz_l1
        have e27 := dz_add (a := v5) (b := (1 : Int32)) (by omega) (by omega)
        exact (ih k3 (by omega)) v1 v2 v3 (v4 &&& (a264 ((v5 * (4 : Int32)) + r2).toNatClampNeg)) (v5 + (1 : Int32)) i0 i1 i2 i3 i4 i5 (by omega) (by omega) (by omega) (by omega) (by omega) (by omega) (by omega)
theorem t131_X4_rankWithSwapped_I_s (fu : Nat) (hfu : 1000000000000 ≤ fu) (κ : Nat) (hκ : κ < 14) (c261_groups : Int32) (c261_everyRank : Int32) (a262 : Nat → Int32) (a264 : Nat → Int32) (p0 : c261_groups.toInt ≤ 4) (p1 : 0 ≤ c261_groups.toInt) (p2 : c261_everyRank.toInt ≤ 16777215) (p3 : 0 ≤ c261_everyRank.toInt) (hr_a262 : dz_rg a262 96 0 3) (hr_a264 : dz_rg a264 16 0 16777215) (o1 : c261_groups.toInt = ((dz_kg κ : Nat) : Int)) (o2 : c261_everyRank.toInt = ((dz_ke κ : Nat) : Int)) (k : Nat) : p131_X4_rankWithSwapped_s fu κ c261_groups c261_everyRank a262 a264 k := by
  induction k using Nat.strongRecOn with
  | _ k ih => exact t131_X4_rankWithSwapped_h1_s fu hfu κ hκ c261_groups c261_everyRank a262 a264 p0 p1 p2 p3 hr_a262 hr_a264 o1 o2 k ih
set_option maxHeartbeats 1000000 in
set_option maxRecDepth 10000 in
theorem t131_X4_rankWithSwapped_E_s (fu : Nat) (hfu : 1000000000000 ≤ fu) (κ : Nat) (hκ : κ < 14) (c261_groups : Int32) (c261_everyRank : Int32) (a262 : Nat → Int32) (a264 : Nat → Int32) (v1 : Int32) (v2 : Int32) (v3 : Int32) (p0 : c261_groups.toInt ≤ 4) (p1 : 0 ≤ c261_groups.toInt) (p2 : c261_everyRank.toInt ≤ 16777215) (p3 : 0 ≤ c261_everyRank.toInt) (p4 : 0 ≤ v1.toInt) (p5 : v1.toInt ≤ 23) (p6 : 0 ≤ v2.toInt) (p7 : v2.toInt ≤ 3) (p8 : 0 ≤ v3.toInt) (p9 : v3.toInt ≤ 3) (hr_a262 : dz_rg a262 96 0 3) (hr_a264 : dz_rg a264 16 0 16777215) (o0 : v1.toInt ≤ ((dz_kr κ : Nat) : Int) - 1) (o1 : c261_groups.toInt = ((dz_kg κ : Nat) : Int)) (o2 : c261_everyRank.toInt = ((dz_ke κ : Nat) : Int)) (kv : Nat) (hkv : 1000000000000 ≤ kv) : dz_T (s131_X4_rankWithSwapped_0 fu c261_groups c261_everyRank a262 a264 (F131_X4_rankWithSwapped fu c261_groups c261_everyRank a262 a264 kv).1  v1 v2 v3) (fun r => r.toInt ≤ 23 ∧ 0 ≤ r.toInt) := by
  unfold s131_X4_rankWithSwapped_0
  have e1 := dz_l0
  exact (t131_X4_rankWithSwapped_I_s fu hfu κ hκ c261_groups c261_everyRank a262 a264 p0 p1 p2 p3 hr_a262 hr_a264 o1 o2 kv) v1 v2 v3 c261_everyRank (0 : Int32) p5 p4 p7 p6 p9 p8 p2 p3 (by omega) (by omega) (by first | assumption | omega) (by omega) (by omega)
theorem t131_X4_rankWithSwapped_s (fu : Nat) (hfu : 1000000000000 ≤ fu) (κ : Nat) (hκ : κ < 14) (c261_groups : Int32) (c261_everyRank : Int32) (a262 : Nat → Int32) (a264 : Nat → Int32) (v1 : Int32) (v2 : Int32) (v3 : Int32) (p0 : c261_groups.toInt ≤ 4) (p1 : 0 ≤ c261_groups.toInt) (p2 : c261_everyRank.toInt ≤ 16777215) (p3 : 0 ≤ c261_everyRank.toInt) (p4 : 0 ≤ v1.toInt) (p5 : v1.toInt ≤ 23) (p6 : 0 ≤ v2.toInt) (p7 : v2.toInt ≤ 3) (p8 : 0 ≤ v3.toInt) (p9 : v3.toInt ≤ 3) (hr_a262 : dz_rg a262 96 0 3) (hr_a264 : dz_rg a264 16 0 16777215) (o0 : v1.toInt ≤ ((dz_kr κ : Nat) : Int) - 1) (o1 : c261_groups.toInt = ((dz_kg κ : Nat) : Int)) (o2 : c261_everyRank.toInt = ((dz_ke κ : Nat) : Int)) : dz_T (f131_X4_rankWithSwapped fu c261_groups c261_everyRank a262 a264 v1 v2 v3) (fun r => r.toInt ≤ 23 ∧ 0 ≤ r.toInt) :=
  t131_X4_rankWithSwapped_E_s fu hfu κ hκ c261_groups c261_everyRank a262 a264 v1 v2 v3 p0 p1 p2 p3 p4 p5 p6 p7 p8 p9 hr_a262 hr_a264 o0 o1 o2 fu hfu
abbrev p131_X4_rankWithSwapped_g2 (fu : Nat) (c261_groups : Int32) (c261_everyRank : Int32) (a262 : Nat → Int32) (a264 : Nat → Int32) (k : Nat) : Prop :=
  (∀ (v1 : Int32) (v2 : Int32) (v3 : Int32) (v4 : Int32) (v5 : Int32), v1.toInt ≤ 1 → 0 ≤ v1.toInt → v2.toInt ≤ 3 → 0 ≤ v2.toInt → v3.toInt ≤ 3 → 0 ≤ v3.toInt → v4.toInt ≤ 3 → 0 ≤ v4.toInt → v5.toInt ≤ 2 → 0 ≤ v5.toInt → 0 + 0 + (2 - v5.toInt) * 12 + 6 ≤ ((k : Nat) : Int) → dz_T ((F131_X4_rankWithSwapped fu c261_groups c261_everyRank a262 a264 k).1 v1 v2 v3 v4 v5) (fun r => r.toInt ≤ 1 ∧ 0 ≤ r.toInt))
set_option maxHeartbeats 1000000 in
set_option maxRecDepth 10000 in
theorem t131_X4_rankWithSwapped_h1_g2 (fu : Nat) (hfu : 1000000000000 ≤ fu) (c261_groups : Int32) (c261_everyRank : Int32) (a262 : Nat → Int32) (a264 : Nat → Int32) (p0 : c261_groups.toInt ≤ 2) (p1 : 2 ≤ c261_groups.toInt) (p2 : c261_everyRank.toInt ≤ 3) (p3 : 3 ≤ c261_everyRank.toInt) (hr_a262 : dz_rg a262 96 0 3) (hr_a264 : dz_rg a264 16 0 16777215) (k : Nat) (ih : ∀ j9, j9 < k → p131_X4_rankWithSwapped_g2 fu c261_groups c261_everyRank a262 a264 j9) : ∀ (v1 : Int32) (v2 : Int32) (v3 : Int32) (v4 : Int32) (v5 : Int32), v1.toInt ≤ 1 → 0 ≤ v1.toInt → v2.toInt ≤ 3 → 0 ≤ v2.toInt → v3.toInt ≤ 3 → 0 ≤ v3.toInt → v4.toInt ≤ 3 → 0 ≤ v4.toInt → v5.toInt ≤ 2 → 0 ≤ v5.toInt → 0 + 0 + (2 - v5.toInt) * 12 + 6 ≤ ((k : Nat) : Int) → dz_T ((F131_X4_rankWithSwapped fu c261_groups c261_everyRank a262 a264 k).1 v1 v2 v3 v4 v5) (fun r => r.toInt ≤ 1 ∧ 0 ≤ r.toInt) := by
  intro v1 v2 v3 v4 v5 i0 i1 i2 i3 i4 i5 i6 i7 i8 i9 hm
  obtain ⟨k0, rfl⟩ : ∃ x, k = x + 1 := ⟨k - 1, by omega⟩
  show dz_T (s131_X4_rankWithSwapped_1 fu c261_groups c261_everyRank a262 a264 (F131_X4_rankWithSwapped fu c261_groups c261_everyRank a262 a264 k0).2  v1 v2 v3 v4 v5) _
  unfold s131_X4_rankWithSwapped_1
  refine dz_Tle (fun h1 => ?_) (fun h1 => ?_)
  · skip
    refine dz_Tb (t129_X4_only fu hfu _ 2 (by omega) (by omega) (by decide)) (fun r1 q => ?_)
    obtain ⟨q1_0, q1_1⟩ := q
    exact dz_Ts ⟨q1_0, q1_1⟩
  · skip
    refine dz_Tb (t130_X4_groupAt fu hfu _ _ _ i1 (by first | assumption | omega) i9 (by first | assumption | omega) (hr_a262)) (fun r2 q => ?_)
    obtain ⟨q2_0, q2_1⟩ := q
    refine dz_Teq (fun h2 => ?_) (fun h2 => ?_)
    · skip
      obtain ⟨k1, rfl⟩ : ∃ x, k0 = x + 1 := ⟨k0 - 1, by omega⟩
      show dz_T (s131_X4_rankWithSwapped_2 fu c261_groups c261_everyRank a262 a264 (F131_X4_rankWithSwapped fu c261_groups c261_everyRank a262 a264 k1).1 v1 v2 v3 v4 v5 v3) _
      unfold s131_X4_rankWithSwapped_2
      have e3 := dz_l4
      have e4 := dz_mulr (a := v5) (b := (4 : Int32)) 4 (by omega) (by omega) (by omega)
      have e5 := dz_add (a := (v5 * (4 : Int32))) (b := v3) (by omega) (by omega)
      refine dz_Tin (by omega) (by omega) ?_
      have e6 := dz_rgat (hr_a264) (i := ((v5 * (4 : Int32)) + v3)) (by omega) (by omega)
      have e7 := dz_andr (a := v4) (b := (a264 ((v5 * (4 : Int32)) + v3).toNatClampNeg)) (by omega)
      have e8 := dz_andl (a := v4) (b := (a264 ((v5 * (4 : Int32)) + v3).toNatClampNeg)) (by omega)
      have e9 := dz_l1
      have e10 := dz_add (a := v5) (b := (1 : Int32)) (by omega) (by omega)
      exact (ih k1 (by omega)) v1 v2 v3 (v4 &&& (a264 ((v5 * (4 : Int32)) + v3).toNatClampNeg)) (v5 + (1 : Int32)) i0 i1 i2 i3 i4 i5 (by omega) (by omega) (by omega) (by omega) (by omega)
    · skip
      refine dz_Teq (fun h11 => ?_) (fun h11 => ?_)
      · skip
        obtain ⟨k2, rfl⟩ : ∃ x, k0 = x + 1 := ⟨k0 - 1, by omega⟩
        show dz_T (s131_X4_rankWithSwapped_2 fu c261_groups c261_everyRank a262 a264 (F131_X4_rankWithSwapped fu c261_groups c261_everyRank a262 a264 k2).1 v1 v2 v3 v4 v5 v2) _
        unfold s131_X4_rankWithSwapped_2
        have e12 := dz_l4
        have e13 := dz_mulr (a := v5) (b := (4 : Int32)) 4 (by omega) (by omega) (by omega)
        have e14 := dz_add (a := (v5 * (4 : Int32))) (b := v2) (by omega) (by omega)
        refine dz_Tin (by omega) (by omega) ?_
        have e15 := dz_rgat (hr_a264) (i := ((v5 * (4 : Int32)) + v2)) (by omega) (by omega)
        have e16 := dz_andr (a := v4) (b := (a264 ((v5 * (4 : Int32)) + v2).toNatClampNeg)) (by omega)
        have e17 := dz_andl (a := v4) (b := (a264 ((v5 * (4 : Int32)) + v2).toNatClampNeg)) (by omega)
        have e18 := dz_l1
        have e19 := dz_add (a := v5) (b := (1 : Int32)) (by omega) (by omega)
        exact (ih k2 (by omega)) v1 v2 v3 (v4 &&& (a264 ((v5 * (4 : Int32)) + v2).toNatClampNeg)) (v5 + (1 : Int32)) i0 i1 i2 i3 i4 i5 (by omega) (by omega) (by omega) (by omega) (by omega)
      · skip
        obtain ⟨k3, rfl⟩ : ∃ x, k0 = x + 1 := ⟨k0 - 1, by omega⟩
        show dz_T (s131_X4_rankWithSwapped_2 fu c261_groups c261_everyRank a262 a264 (F131_X4_rankWithSwapped fu c261_groups c261_everyRank a262 a264 k3).1 v1 v2 v3 v4 v5 r2) _
        unfold s131_X4_rankWithSwapped_2
        have e20 := dz_l4
        have e21 := dz_mulr (a := v5) (b := (4 : Int32)) 4 (by omega) (by omega) (by omega)
        have e22 := dz_add (a := (v5 * (4 : Int32))) (b := r2) (by omega) (by omega)
        refine dz_Tin (by omega) (by omega) ?_
        have e23 := dz_rgat (hr_a264) (i := ((v5 * (4 : Int32)) + r2)) (by omega) (by omega)
        have e24 := dz_andr (a := v4) (b := (a264 ((v5 * (4 : Int32)) + r2).toNatClampNeg)) (by omega)
        have e25 := dz_andl (a := v4) (b := (a264 ((v5 * (4 : Int32)) + r2).toNatClampNeg)) (by omega)
        have e26 := dz_l1
        have e27 := dz_add (a := v5) (b := (1 : Int32)) (by omega) (by omega)
        exact (ih k3 (by omega)) v1 v2 v3 (v4 &&& (a264 ((v5 * (4 : Int32)) + r2).toNatClampNeg)) (v5 + (1 : Int32)) i0 i1 i2 i3 i4 i5 (by omega) (by omega) (by omega) (by omega) (by omega)
theorem t131_X4_rankWithSwapped_I_g2 (fu : Nat) (hfu : 1000000000000 ≤ fu) (c261_groups : Int32) (c261_everyRank : Int32) (a262 : Nat → Int32) (a264 : Nat → Int32) (p0 : c261_groups.toInt ≤ 2) (p1 : 2 ≤ c261_groups.toInt) (p2 : c261_everyRank.toInt ≤ 3) (p3 : 3 ≤ c261_everyRank.toInt) (hr_a262 : dz_rg a262 96 0 3) (hr_a264 : dz_rg a264 16 0 16777215) (k : Nat) : p131_X4_rankWithSwapped_g2 fu c261_groups c261_everyRank a262 a264 k := by
  induction k using Nat.strongRecOn with
  | _ k ih => exact t131_X4_rankWithSwapped_h1_g2 fu hfu c261_groups c261_everyRank a262 a264 p0 p1 p2 p3 hr_a262 hr_a264 k ih
set_option maxHeartbeats 1000000 in
set_option maxRecDepth 10000 in
theorem t131_X4_rankWithSwapped_E_g2 (fu : Nat) (hfu : 1000000000000 ≤ fu) (c261_groups : Int32) (c261_everyRank : Int32) (a262 : Nat → Int32) (a264 : Nat → Int32) (v1 : Int32) (v2 : Int32) (v3 : Int32) (p0 : c261_groups.toInt ≤ 2) (p1 : 2 ≤ c261_groups.toInt) (p2 : c261_everyRank.toInt ≤ 3) (p3 : 3 ≤ c261_everyRank.toInt) (p4 : 0 ≤ v1.toInt) (p5 : v1.toInt ≤ 1) (p6 : 0 ≤ v2.toInt) (p7 : v2.toInt ≤ 3) (p8 : 0 ≤ v3.toInt) (p9 : v3.toInt ≤ 3) (hr_a262 : dz_rg a262 96 0 3) (hr_a264 : dz_rg a264 16 0 16777215) (kv : Nat) (hkv : 1000000000000 ≤ kv) : dz_T (s131_X4_rankWithSwapped_0 fu c261_groups c261_everyRank a262 a264 (F131_X4_rankWithSwapped fu c261_groups c261_everyRank a262 a264 kv).1  v1 v2 v3) (fun r => r.toInt ≤ 1 ∧ 0 ≤ r.toInt) := by
  unfold s131_X4_rankWithSwapped_0
  have e1 := dz_l0
  exact (t131_X4_rankWithSwapped_I_g2 fu hfu c261_groups c261_everyRank a262 a264 p0 p1 p2 p3 hr_a262 hr_a264 kv) v1 v2 v3 c261_everyRank (0 : Int32) p5 p4 p7 p6 p9 p8 p2 (by first | assumption | omega) (by omega) (by omega) (by omega)
theorem t131_X4_rankWithSwapped_g2 (fu : Nat) (hfu : 1000000000000 ≤ fu) (c261_groups : Int32) (c261_everyRank : Int32) (a262 : Nat → Int32) (a264 : Nat → Int32) (v1 : Int32) (v2 : Int32) (v3 : Int32) (p0 : c261_groups.toInt ≤ 2) (p1 : 2 ≤ c261_groups.toInt) (p2 : c261_everyRank.toInt ≤ 3) (p3 : 3 ≤ c261_everyRank.toInt) (p4 : 0 ≤ v1.toInt) (p5 : v1.toInt ≤ 1) (p6 : 0 ≤ v2.toInt) (p7 : v2.toInt ≤ 3) (p8 : 0 ≤ v3.toInt) (p9 : v3.toInt ≤ 3) (hr_a262 : dz_rg a262 96 0 3) (hr_a264 : dz_rg a264 16 0 16777215) : dz_T (f131_X4_rankWithSwapped fu c261_groups c261_everyRank a262 a264 v1 v2 v3) (fun r => r.toInt ≤ 1 ∧ 0 ≤ r.toInt) :=
  t131_X4_rankWithSwapped_E_g2 fu hfu c261_groups c261_everyRank a262 a264 v1 v2 v3 p0 p1 p2 p3 p4 p5 p6 p7 p8 p9 hr_a262 hr_a264 fu hfu
abbrev p132_X4_setSwaps_g2 (fu : Nat) (c261_groups : Int32) (c261_everyRank : Int32) (a262 : Nat → Int32) (a264 : Nat → Int32) (gh_v1 : Int32) (k : Nat) : Prop :=
  (∀ (v1 : Int32) (v2 : Int32) (v3 : Int32) (c261_swapsAPot : Int32) (a265 : Nat → Int32), gh_v1.toInt ≤ 1 → 0 ≤ gh_v1.toInt → v1.toInt ≤ 1 → 0 ≤ v1.toInt → v2.toInt ≤ 1 → 0 ≤ v2.toInt → v3.toInt ≤ 2 → 0 ≤ v3.toInt → gh_v1.toInt ≤ v1.toInt → v1.toInt ≤ gh_v1.toInt → v2.toInt ≤ v3.toInt → ((v3.toInt = 0 ∧ v2.toInt = 0) ∨ (v3.toInt = 1 ∧ v2.toInt = 1) ∨ (v3.toInt = 2 ∧ v2.toInt = 1)) → dz_rv a265 1 2 v1.toInt v2.toInt → 0 + 0 + (2 - v3.toInt) * 48 + 6 ≤ ((k : Nat) : Int) → dz_T ((F132_X4_setSwaps fu c261_groups c261_everyRank a262 a264 k).1 v1 v2 v3 c261_swapsAPot a265) (fun r => gh_v1.toInt ≤ 1 ∧ 0 ≤ gh_v1.toInt ∧ r.1.toInt ≤ 1 ∧ 0 ≤ r.1.toInt ∧ (r.1.toInt = 1) ∧ (dz_rv r.2 1 2 (gh_v1.toInt + 1) 0))) ∧ (∀ (v1 : Int32) (v2 : Int32) (v3 : Int32) (v4 : Int32) (c261_swapsAPot : Int32) (a265 : Nat → Int32), gh_v1.toInt ≤ 1 → 0 ≤ gh_v1.toInt → v1.toInt ≤ 1 → 0 ≤ v1.toInt → v2.toInt ≤ 1 → 0 ≤ v2.toInt → v3.toInt ≤ 1 → 0 ≤ v3.toInt → v4.toInt ≤ 2 → 1 ≤ v4.toInt → v2.toInt + 1 ≤ v4.toInt → v3.toInt + 1 ≤ v4.toInt → gh_v1.toInt ≤ v1.toInt → v1.toInt ≤ gh_v1.toInt → ((v3.toInt = 0 ∧ v2.toInt + 1 = 0 + v4.toInt) ∨ (v3.toInt = 1 ∧ v2.toInt + 2 = 1 + v4.toInt)) → dz_rv a265 1 2 v1.toInt v2.toInt → 0 + 0 + ((2 - v3.toInt) - 1) * 48 + 0 + (1 - v2.toInt) * 12 + 12 ≤ ((k : Nat) : Int) → dz_T ((F132_X4_setSwaps fu c261_groups c261_everyRank a262 a264 k).2 v1 v2 v3 v4 c261_swapsAPot a265) (fun r => gh_v1.toInt ≤ 1 ∧ 0 ≤ gh_v1.toInt ∧ r.1.toInt ≤ 1 ∧ 0 ≤ r.1.toInt ∧ (r.1.toInt = 1) ∧ (dz_rv r.2 1 2 (gh_v1.toInt + 1) 0)))
set_option maxHeartbeats 1000000 in
set_option maxRecDepth 10000 in
theorem t132_X4_setSwaps_h1_g2 (fu : Nat) (hfu : 1000000000000 ≤ fu) (c261_groups : Int32) (c261_everyRank : Int32) (a262 : Nat → Int32) (a264 : Nat → Int32) (gh_v1 : Int32) (p0 : c261_groups.toInt ≤ 2) (p1 : 2 ≤ c261_groups.toInt) (p2 : c261_everyRank.toInt ≤ 3) (p3 : 3 ≤ c261_everyRank.toInt) (hr_a262 : dz_rg a262 96 0 3) (hr_a264 : dz_rg a264 16 0 16777215) (k : Nat) (ih : ∀ j9, j9 < k → p132_X4_setSwaps_g2 fu c261_groups c261_everyRank a262 a264 gh_v1 j9) : ∀ (v1 : Int32) (v2 : Int32) (v3 : Int32) (c261_swapsAPot : Int32) (a265 : Nat → Int32), gh_v1.toInt ≤ 1 → 0 ≤ gh_v1.toInt → v1.toInt ≤ 1 → 0 ≤ v1.toInt → v2.toInt ≤ 1 → 0 ≤ v2.toInt → v3.toInt ≤ 2 → 0 ≤ v3.toInt → gh_v1.toInt ≤ v1.toInt → v1.toInt ≤ gh_v1.toInt → v2.toInt ≤ v3.toInt → ((v3.toInt = 0 ∧ v2.toInt = 0) ∨ (v3.toInt = 1 ∧ v2.toInt = 1) ∨ (v3.toInt = 2 ∧ v2.toInt = 1)) → dz_rv a265 1 2 v1.toInt v2.toInt → 0 + 0 + (2 - v3.toInt) * 48 + 6 ≤ ((k : Nat) : Int) → dz_T ((F132_X4_setSwaps fu c261_groups c261_everyRank a262 a264 k).1 v1 v2 v3 c261_swapsAPot a265) (fun r => gh_v1.toInt ≤ 1 ∧ 0 ≤ gh_v1.toInt ∧ r.1.toInt ≤ 1 ∧ 0 ≤ r.1.toInt ∧ (r.1.toInt = 1) ∧ (dz_rv r.2 1 2 (gh_v1.toInt + 1) 0)) := by
  intro v1 v2 v3 c261_swapsAPot a265 i0 i1 i2 i3 i4 i5 i6 i7 i8 i9 i10 x0 x1 hm
  obtain ⟨k0, rfl⟩ : ∃ x, k = x + 1 := ⟨k - 1, by omega⟩
  show dz_T (s132_X4_setSwaps_1 fu c261_groups c261_everyRank a262 a264 (F132_X4_setSwaps fu c261_groups c261_everyRank a262 a264 k0).2  v1 v2 v3 c261_swapsAPot a265) _
  unfold s132_X4_setSwaps_1
  refine dz_Tle (fun h1 => ?_) (fun h1 => ?_)
  · skip
    refine dz_Ts ?_
    dsimp only
    exact ⟨i0, i1, i4, i5, (by omega), (dz_rve (dz_rvm (by assumption) (by omega)) (by omega))⟩
  · skip
    have e2 := dz_l1
    have e3 := dz_add (a := v3) (b := (1 : Int32)) (by omega) (by omega)
    exact (ih k0 (by omega)).2 v1 v2 v3 (v3 + (1 : Int32)) c261_swapsAPot a265 i0 i1 i2 i3 i4 i5 (by first | assumption | omega) i7 (by omega) (by omega) (by omega) (by omega) i8 i9 (by omega) (by first | assumption | exact dz_rvu (by assumption) (by omega) (by omega) (by omega) (by omega) (by omega) (by omega)) (by omega)
set_option maxHeartbeats 1000000 in
set_option maxRecDepth 10000 in
theorem t132_X4_setSwaps_h2_g2 (fu : Nat) (hfu : 1000000000000 ≤ fu) (c261_groups : Int32) (c261_everyRank : Int32) (a262 : Nat → Int32) (a264 : Nat → Int32) (gh_v1 : Int32) (p0 : c261_groups.toInt ≤ 2) (p1 : 2 ≤ c261_groups.toInt) (p2 : c261_everyRank.toInt ≤ 3) (p3 : 3 ≤ c261_everyRank.toInt) (hr_a262 : dz_rg a262 96 0 3) (hr_a264 : dz_rg a264 16 0 16777215) (k : Nat) (ih : ∀ j9, j9 < k → p132_X4_setSwaps_g2 fu c261_groups c261_everyRank a262 a264 gh_v1 j9) : ∀ (v1 : Int32) (v2 : Int32) (v3 : Int32) (v4 : Int32) (c261_swapsAPot : Int32) (a265 : Nat → Int32), gh_v1.toInt ≤ 1 → 0 ≤ gh_v1.toInt → v1.toInt ≤ 1 → 0 ≤ v1.toInt → v2.toInt ≤ 1 → 0 ≤ v2.toInt → v3.toInt ≤ 1 → 0 ≤ v3.toInt → v4.toInt ≤ 2 → 1 ≤ v4.toInt → v2.toInt + 1 ≤ v4.toInt → v3.toInt + 1 ≤ v4.toInt → gh_v1.toInt ≤ v1.toInt → v1.toInt ≤ gh_v1.toInt → ((v3.toInt = 0 ∧ v2.toInt + 1 = 0 + v4.toInt) ∨ (v3.toInt = 1 ∧ v2.toInt + 2 = 1 + v4.toInt)) → dz_rv a265 1 2 v1.toInt v2.toInt → 0 + 0 + ((2 - v3.toInt) - 1) * 48 + 0 + (1 - v2.toInt) * 12 + 12 ≤ ((k : Nat) : Int) → dz_T ((F132_X4_setSwaps fu c261_groups c261_everyRank a262 a264 k).2 v1 v2 v3 v4 c261_swapsAPot a265) (fun r => gh_v1.toInt ≤ 1 ∧ 0 ≤ gh_v1.toInt ∧ r.1.toInt ≤ 1 ∧ 0 ≤ r.1.toInt ∧ (r.1.toInt = 1) ∧ (dz_rv r.2 1 2 (gh_v1.toInt + 1) 0)) := by
  intro v1 v2 v3 v4 c261_swapsAPot a265 i0 i1 i2 i3 i4 i5 i6 i7 i8 i9 i10 i11 i12 i13 x0 x1 hm
  obtain ⟨k0, rfl⟩ : ∃ x, k = x + 1 := ⟨k - 1, by omega⟩
  show dz_T (s132_X4_setSwaps_2 fu c261_groups c261_everyRank a262 a264 (F132_X4_setSwaps fu c261_groups c261_everyRank a262 a264 k0).1 (F132_X4_setSwaps fu c261_groups c261_everyRank a262 a264 k0).2  v1 v2 v3 v4 c261_swapsAPot a265) _
  unfold s132_X4_setSwaps_2
  refine dz_Tle (fun h1 => ?_) (fun h1 => ?_)
  · skip
    have e2 := dz_l1
    have e3 := dz_add (a := v3) (b := (1 : Int32)) (by omega) (by omega)
    exact (ih k0 (by omega)).1 v1 v2 (v3 + (1 : Int32)) c261_swapsAPot a265 i0 i1 i2 i3 i4 i5 (by omega) (by omega) i12 i13 (by omega) (by omega) (by first | assumption | exact dz_rvm (by assumption) (by omega)) (by omega)
  · skip
    refine dz_Tb (t131_X4_rankWithSwapped_g2 fu hfu _ _ _ _ _ _ _ p0 p1 p2 p3 i3 i2 i7 (by first | assumption | omega) (by first | assumption | omega) (by first | assumption | omega) (hr_a262) (hr_a264)) (fun r1 q => ?_)
    obtain ⟨q1_0, q1_1⟩ := q
    have e4 := dz_l6
    have e5 := dz_mulr (a := v1) (b := (6 : Int32)) 6 (by omega) (by omega) (by omega)
    have e6 := dz_add (a := (v1 * (6 : Int32))) (b := v2) (by omega) (by omega)
    refine dz_Tin (by omega) (by omega) ?_
    have e7 := dz_l1
    have e8 := dz_add (a := v2) (b := (1 : Int32)) (by omega) (by omega)
    have e9 := dz_add (a := v4) (b := (1 : Int32)) (by omega) (by omega)
    exact (ih k0 (by omega)).2 v1 (v2 + (1 : Int32)) v3 (v4 + (1 : Int32)) c261_swapsAPot (upd a265 ((v1 * (6 : Int32)) + v2).toNatClampNeg r1) i0 i1 i2 i3 (by omega) (by omega) i6 i7 (by omega) (by omega) (by omega) (by omega) i12 i13 (by omega) (by first | assumption | exact dz_rvu (by assumption) (by omega) (by omega) (by omega) (by omega) (by omega) (by omega)) (by omega)
theorem t132_X4_setSwaps_I_g2 (fu : Nat) (hfu : 1000000000000 ≤ fu) (c261_groups : Int32) (c261_everyRank : Int32) (a262 : Nat → Int32) (a264 : Nat → Int32) (gh_v1 : Int32) (p0 : c261_groups.toInt ≤ 2) (p1 : 2 ≤ c261_groups.toInt) (p2 : c261_everyRank.toInt ≤ 3) (p3 : 3 ≤ c261_everyRank.toInt) (hr_a262 : dz_rg a262 96 0 3) (hr_a264 : dz_rg a264 16 0 16777215) (k : Nat) : p132_X4_setSwaps_g2 fu c261_groups c261_everyRank a262 a264 gh_v1 k := by
  induction k using Nat.strongRecOn with
  | _ k ih => exact ⟨t132_X4_setSwaps_h1_g2 fu hfu c261_groups c261_everyRank a262 a264 gh_v1 p0 p1 p2 p3 hr_a262 hr_a264 k ih, t132_X4_setSwaps_h2_g2 fu hfu c261_groups c261_everyRank a262 a264 gh_v1 p0 p1 p2 p3 hr_a262 hr_a264 k ih⟩
set_option maxHeartbeats 1000000 in
set_option maxRecDepth 10000 in
theorem t132_X4_setSwaps_E_g2 (fu : Nat) (hfu : 1000000000000 ≤ fu) (c261_groups : Int32) (c261_everyRank : Int32) (a262 : Nat → Int32) (a264 : Nat → Int32) (v1 : Int32) (c261_swapsAPot : Int32) (a265 : Nat → Int32) (p0 : c261_groups.toInt ≤ 2) (p1 : 2 ≤ c261_groups.toInt) (p2 : c261_everyRank.toInt ≤ 3) (p3 : 3 ≤ c261_everyRank.toInt) (p4 : 0 ≤ v1.toInt) (p5 : v1.toInt ≤ 1) (hr_a262 : dz_rg a262 96 0 3) (hr_a264 : dz_rg a264 16 0 16777215) (o0 : dz_rv a265 1 2 v1.toInt 0) (kv : Nat) (hkv : 1000000000000 ≤ kv) : dz_T (s132_X4_setSwaps_0 fu c261_groups c261_everyRank a262 a264 (F132_X4_setSwaps fu c261_groups c261_everyRank a262 a264 kv).1  v1 c261_swapsAPot a265) (fun r => v1.toInt ≤ 1 ∧ 0 ≤ v1.toInt ∧ r.1.toInt ≤ 1 ∧ 0 ≤ r.1.toInt ∧ (r.1.toInt = 1) ∧ (dz_rv r.2 1 2 (v1.toInt + 1) 0)) := by
  unfold s132_X4_setSwaps_0
  have e1 := dz_l0
  exact (t132_X4_setSwaps_I_g2 fu hfu c261_groups c261_everyRank a262 a264 v1 p0 p1 p2 p3 hr_a262 hr_a264 kv).1 v1 (0 : Int32) (0 : Int32) c261_swapsAPot a265 (by first | assumption | omega) (by first | assumption | omega) p5 p4 (by omega) (by omega) (by omega) (by omega) (by first | assumption | omega) (by first | assumption | omega) (by omega) (by omega) (by first | assumption | exact dz_rvm (by assumption) (by omega)) (by omega)
theorem t132_X4_setSwaps_g2 (fu : Nat) (hfu : 1000000000000 ≤ fu) (c261_groups : Int32) (c261_everyRank : Int32) (a262 : Nat → Int32) (a264 : Nat → Int32) (v1 : Int32) (c261_swapsAPot : Int32) (a265 : Nat → Int32) (p0 : c261_groups.toInt ≤ 2) (p1 : 2 ≤ c261_groups.toInt) (p2 : c261_everyRank.toInt ≤ 3) (p3 : 3 ≤ c261_everyRank.toInt) (p4 : 0 ≤ v1.toInt) (p5 : v1.toInt ≤ 1) (hr_a262 : dz_rg a262 96 0 3) (hr_a264 : dz_rg a264 16 0 16777215) (o0 : dz_rv a265 1 2 v1.toInt 0) : dz_T (f132_X4_setSwaps fu c261_groups c261_everyRank a262 a264 v1 c261_swapsAPot a265) (fun r => v1.toInt ≤ 1 ∧ 0 ≤ v1.toInt ∧ r.1.toInt ≤ 1 ∧ 0 ≤ r.1.toInt ∧ (r.1.toInt = 1) ∧ (dz_rv r.2 1 2 (v1.toInt + 1) 0)) :=
  t132_X4_setSwaps_E_g2 fu hfu c261_groups c261_everyRank a262 a264 v1 c261_swapsAPot a265 p0 p1 p2 p3 p4 p5 hr_a262 hr_a264 o0 fu hfu
abbrev p131_X4_rankWithSwapped_g3 (fu : Nat) (c261_groups : Int32) (c261_everyRank : Int32) (a262 : Nat → Int32) (a264 : Nat → Int32) (k : Nat) : Prop :=
  (∀ (v1 : Int32) (v2 : Int32) (v3 : Int32) (v4 : Int32) (v5 : Int32), v1.toInt ≤ 5 → 0 ≤ v1.toInt → v2.toInt ≤ 3 → 0 ≤ v2.toInt → v3.toInt ≤ 3 → 0 ≤ v3.toInt → v4.toInt ≤ 63 → 0 ≤ v4.toInt → v5.toInt ≤ 3 → 0 ≤ v5.toInt → 0 + 0 + (3 - v5.toInt) * 12 + 6 ≤ ((k : Nat) : Int) → dz_T ((F131_X4_rankWithSwapped fu c261_groups c261_everyRank a262 a264 k).1 v1 v2 v3 v4 v5) (fun r => r.toInt ≤ 5 ∧ 0 ≤ r.toInt))
set_option maxHeartbeats 1000000 in
set_option maxRecDepth 10000 in
theorem t131_X4_rankWithSwapped_h1_g3 (fu : Nat) (hfu : 1000000000000 ≤ fu) (c261_groups : Int32) (c261_everyRank : Int32) (a262 : Nat → Int32) (a264 : Nat → Int32) (p0 : c261_groups.toInt ≤ 3) (p1 : 3 ≤ c261_groups.toInt) (p2 : c261_everyRank.toInt ≤ 63) (p3 : 63 ≤ c261_everyRank.toInt) (hr_a262 : dz_rg a262 96 0 3) (hr_a264 : dz_rg a264 16 0 16777215) (k : Nat) (ih : ∀ j9, j9 < k → p131_X4_rankWithSwapped_g3 fu c261_groups c261_everyRank a262 a264 j9) : ∀ (v1 : Int32) (v2 : Int32) (v3 : Int32) (v4 : Int32) (v5 : Int32), v1.toInt ≤ 5 → 0 ≤ v1.toInt → v2.toInt ≤ 3 → 0 ≤ v2.toInt → v3.toInt ≤ 3 → 0 ≤ v3.toInt → v4.toInt ≤ 63 → 0 ≤ v4.toInt → v5.toInt ≤ 3 → 0 ≤ v5.toInt → 0 + 0 + (3 - v5.toInt) * 12 + 6 ≤ ((k : Nat) : Int) → dz_T ((F131_X4_rankWithSwapped fu c261_groups c261_everyRank a262 a264 k).1 v1 v2 v3 v4 v5) (fun r => r.toInt ≤ 5 ∧ 0 ≤ r.toInt) := by
  intro v1 v2 v3 v4 v5 i0 i1 i2 i3 i4 i5 i6 i7 i8 i9 hm
  obtain ⟨k0, rfl⟩ : ∃ x, k = x + 1 := ⟨k - 1, by omega⟩
  show dz_T (s131_X4_rankWithSwapped_1 fu c261_groups c261_everyRank a262 a264 (F131_X4_rankWithSwapped fu c261_groups c261_everyRank a262 a264 k0).2  v1 v2 v3 v4 v5) _
  unfold s131_X4_rankWithSwapped_1
  refine dz_Tle (fun h1 => ?_) (fun h1 => ?_)
  · skip
    refine dz_Tb (t129_X4_only fu hfu _ 6 (by omega) (by omega) (by decide)) (fun r1 q => ?_)
    obtain ⟨q1_0, q1_1⟩ := q
    exact dz_Ts ⟨q1_0, q1_1⟩
  · skip
    refine dz_Tb (t130_X4_groupAt fu hfu _ _ _ i1 (by first | assumption | omega) i9 i8 (hr_a262)) (fun r2 q => ?_)
    obtain ⟨q2_0, q2_1⟩ := q
    refine dz_Teq (fun h2 => ?_) (fun h2 => ?_)
    · skip
      obtain ⟨k1, rfl⟩ : ∃ x, k0 = x + 1 := ⟨k0 - 1, by omega⟩
      show dz_T (s131_X4_rankWithSwapped_2 fu c261_groups c261_everyRank a262 a264 (F131_X4_rankWithSwapped fu c261_groups c261_everyRank a262 a264 k1).1 v1 v2 v3 v4 v5 v3) _
      unfold s131_X4_rankWithSwapped_2
      have e3 := dz_l4
      have e4 := dz_mulr (a := v5) (b := (4 : Int32)) 4 (by omega) (by omega) (by omega)
      have e5 := dz_add (a := (v5 * (4 : Int32))) (b := v3) (by omega) (by omega)
      refine dz_Tin (by omega) (by omega) ?_
      have e6 := dz_rgat (hr_a264) (i := ((v5 * (4 : Int32)) + v3)) (by omega) (by omega)
      have e7 := dz_andr (a := v4) (b := (a264 ((v5 * (4 : Int32)) + v3).toNatClampNeg)) (by omega)
      have e8 := dz_andl (a := v4) (b := (a264 ((v5 * (4 : Int32)) + v3).toNatClampNeg)) (by omega)
      have e9 := dz_l1
      have e10 := dz_add (a := v5) (b := (1 : Int32)) (by omega) (by omega)
      exact (ih k1 (by omega)) v1 v2 v3 (v4 &&& (a264 ((v5 * (4 : Int32)) + v3).toNatClampNeg)) (v5 + (1 : Int32)) i0 i1 i2 i3 i4 i5 (by omega) (by omega) (by omega) (by omega) (by omega)
    · skip
      refine dz_Teq (fun h11 => ?_) (fun h11 => ?_)
      · skip
        obtain ⟨k2, rfl⟩ : ∃ x, k0 = x + 1 := ⟨k0 - 1, by omega⟩
        show dz_T (s131_X4_rankWithSwapped_2 fu c261_groups c261_everyRank a262 a264 (F131_X4_rankWithSwapped fu c261_groups c261_everyRank a262 a264 k2).1 v1 v2 v3 v4 v5 v2) _
        unfold s131_X4_rankWithSwapped_2
        have e12 := dz_l4
        have e13 := dz_mulr (a := v5) (b := (4 : Int32)) 4 (by omega) (by omega) (by omega)
        have e14 := dz_add (a := (v5 * (4 : Int32))) (b := v2) (by omega) (by omega)
        refine dz_Tin (by omega) (by omega) ?_
        have e15 := dz_rgat (hr_a264) (i := ((v5 * (4 : Int32)) + v2)) (by omega) (by omega)
        have e16 := dz_andr (a := v4) (b := (a264 ((v5 * (4 : Int32)) + v2).toNatClampNeg)) (by omega)
        have e17 := dz_andl (a := v4) (b := (a264 ((v5 * (4 : Int32)) + v2).toNatClampNeg)) (by omega)
        have e18 := dz_l1
        have e19 := dz_add (a := v5) (b := (1 : Int32)) (by omega) (by omega)
        exact (ih k2 (by omega)) v1 v2 v3 (v4 &&& (a264 ((v5 * (4 : Int32)) + v2).toNatClampNeg)) (v5 + (1 : Int32)) i0 i1 i2 i3 i4 i5 (by omega) (by omega) (by omega) (by omega) (by omega)
      · skip
        obtain ⟨k3, rfl⟩ : ∃ x, k0 = x + 1 := ⟨k0 - 1, by omega⟩
        show dz_T (s131_X4_rankWithSwapped_2 fu c261_groups c261_everyRank a262 a264 (F131_X4_rankWithSwapped fu c261_groups c261_everyRank a262 a264 k3).1 v1 v2 v3 v4 v5 r2) _
        unfold s131_X4_rankWithSwapped_2
        have e20 := dz_l4
        have e21 := dz_mulr (a := v5) (b := (4 : Int32)) 4 (by omega) (by omega) (by omega)
        have e22 := dz_add (a := (v5 * (4 : Int32))) (b := r2) (by omega) (by omega)
        refine dz_Tin (by omega) (by omega) ?_
        have e23 := dz_rgat (hr_a264) (i := ((v5 * (4 : Int32)) + r2)) (by omega) (by omega)
        have e24 := dz_andr (a := v4) (b := (a264 ((v5 * (4 : Int32)) + r2).toNatClampNeg)) (by omega)
        have e25 := dz_andl (a := v4) (b := (a264 ((v5 * (4 : Int32)) + r2).toNatClampNeg)) (by omega)
        have e26 := dz_l1
        have e27 := dz_add (a := v5) (b := (1 : Int32)) (by omega) (by omega)
        exact (ih k3 (by omega)) v1 v2 v3 (v4 &&& (a264 ((v5 * (4 : Int32)) + r2).toNatClampNeg)) (v5 + (1 : Int32)) i0 i1 i2 i3 i4 i5 (by omega) (by omega) (by omega) (by omega) (by omega)
theorem t131_X4_rankWithSwapped_I_g3 (fu : Nat) (hfu : 1000000000000 ≤ fu) (c261_groups : Int32) (c261_everyRank : Int32) (a262 : Nat → Int32) (a264 : Nat → Int32) (p0 : c261_groups.toInt ≤ 3) (p1 : 3 ≤ c261_groups.toInt) (p2 : c261_everyRank.toInt ≤ 63) (p3 : 63 ≤ c261_everyRank.toInt) (hr_a262 : dz_rg a262 96 0 3) (hr_a264 : dz_rg a264 16 0 16777215) (k : Nat) : p131_X4_rankWithSwapped_g3 fu c261_groups c261_everyRank a262 a264 k := by
  induction k using Nat.strongRecOn with
  | _ k ih => exact t131_X4_rankWithSwapped_h1_g3 fu hfu c261_groups c261_everyRank a262 a264 p0 p1 p2 p3 hr_a262 hr_a264 k ih
set_option maxHeartbeats 1000000 in
set_option maxRecDepth 10000 in
theorem t131_X4_rankWithSwapped_E_g3 (fu : Nat) (hfu : 1000000000000 ≤ fu) (c261_groups : Int32) (c261_everyRank : Int32) (a262 : Nat → Int32) (a264 : Nat → Int32) (v1 : Int32) (v2 : Int32) (v3 : Int32) (p0 : c261_groups.toInt ≤ 3) (p1 : 3 ≤ c261_groups.toInt) (p2 : c261_everyRank.toInt ≤ 63) (p3 : 63 ≤ c261_everyRank.toInt) (p4 : 0 ≤ v1.toInt) (p5 : v1.toInt ≤ 5) (p6 : 0 ≤ v2.toInt) (p7 : v2.toInt ≤ 3) (p8 : 0 ≤ v3.toInt) (p9 : v3.toInt ≤ 3) (hr_a262 : dz_rg a262 96 0 3) (hr_a264 : dz_rg a264 16 0 16777215) (kv : Nat) (hkv : 1000000000000 ≤ kv) : dz_T (s131_X4_rankWithSwapped_0 fu c261_groups c261_everyRank a262 a264 (F131_X4_rankWithSwapped fu c261_groups c261_everyRank a262 a264 kv).1  v1 v2 v3) (fun r => r.toInt ≤ 5 ∧ 0 ≤ r.toInt) := by
  unfold s131_X4_rankWithSwapped_0
  have e1 := dz_l0
  exact (t131_X4_rankWithSwapped_I_g3 fu hfu c261_groups c261_everyRank a262 a264 p0 p1 p2 p3 hr_a262 hr_a264 kv) v1 v2 v3 c261_everyRank (0 : Int32) p5 p4 p7 p6 p9 p8 p2 (by first | assumption | omega) (by omega) (by omega) (by omega)
theorem t131_X4_rankWithSwapped_g3 (fu : Nat) (hfu : 1000000000000 ≤ fu) (c261_groups : Int32) (c261_everyRank : Int32) (a262 : Nat → Int32) (a264 : Nat → Int32) (v1 : Int32) (v2 : Int32) (v3 : Int32) (p0 : c261_groups.toInt ≤ 3) (p1 : 3 ≤ c261_groups.toInt) (p2 : c261_everyRank.toInt ≤ 63) (p3 : 63 ≤ c261_everyRank.toInt) (p4 : 0 ≤ v1.toInt) (p5 : v1.toInt ≤ 5) (p6 : 0 ≤ v2.toInt) (p7 : v2.toInt ≤ 3) (p8 : 0 ≤ v3.toInt) (p9 : v3.toInt ≤ 3) (hr_a262 : dz_rg a262 96 0 3) (hr_a264 : dz_rg a264 16 0 16777215) : dz_T (f131_X4_rankWithSwapped fu c261_groups c261_everyRank a262 a264 v1 v2 v3) (fun r => r.toInt ≤ 5 ∧ 0 ≤ r.toInt) :=
  t131_X4_rankWithSwapped_E_g3 fu hfu c261_groups c261_everyRank a262 a264 v1 v2 v3 p0 p1 p2 p3 p4 p5 p6 p7 p8 p9 hr_a262 hr_a264 fu hfu
abbrev p132_X4_setSwaps_g3 (fu : Nat) (c261_groups : Int32) (c261_everyRank : Int32) (a262 : Nat → Int32) (a264 : Nat → Int32) (gh_v1 : Int32) (k : Nat) : Prop :=
  (∀ (v1 : Int32) (v2 : Int32) (v3 : Int32) (c261_swapsAPot : Int32) (a265 : Nat → Int32), gh_v1.toInt ≤ 5 → 0 ≤ gh_v1.toInt → v1.toInt ≤ 5 → 0 ≤ v1.toInt → v2.toInt ≤ 3 → 0 ≤ v2.toInt → v3.toInt ≤ 3 → 0 ≤ v3.toInt → gh_v1.toInt ≤ v1.toInt → v1.toInt ≤ gh_v1.toInt → v2.toInt ≤ v3.toInt + 2 → ((v3.toInt = 0 ∧ v2.toInt = 0) ∨ (v3.toInt = 1 ∧ v2.toInt = 2) ∨ (v3.toInt = 2 ∧ v2.toInt = 3) ∨ (v3.toInt = 3 ∧ v2.toInt = 3)) → dz_rv a265 3 6 v1.toInt v2.toInt → 0 + 0 + (3 - v3.toInt) * 72 + 6 ≤ ((k : Nat) : Int) → dz_T ((F132_X4_setSwaps fu c261_groups c261_everyRank a262 a264 k).1 v1 v2 v3 c261_swapsAPot a265) (fun r => gh_v1.toInt ≤ 5 ∧ 0 ≤ gh_v1.toInt ∧ r.1.toInt ≤ 3 ∧ 0 ≤ r.1.toInt ∧ (r.1.toInt = 3) ∧ (dz_rv r.2 3 6 (gh_v1.toInt + 1) 0))) ∧ (∀ (v1 : Int32) (v2 : Int32) (v3 : Int32) (v4 : Int32) (c261_swapsAPot : Int32) (a265 : Nat → Int32), gh_v1.toInt ≤ 5 → 0 ≤ gh_v1.toInt → v1.toInt ≤ 5 → 0 ≤ v1.toInt → v2.toInt ≤ 3 → 0 ≤ v2.toInt → v3.toInt ≤ 2 → 0 ≤ v3.toInt → v4.toInt ≤ 3 → 1 ≤ v4.toInt → v3.toInt + 1 ≤ v4.toInt → gh_v1.toInt ≤ v1.toInt → v1.toInt ≤ gh_v1.toInt → v2.toInt ≤ v4.toInt + 1 → ((v3.toInt = 0 ∧ v2.toInt + 1 = 0 + v4.toInt) ∨ (v3.toInt = 1 ∧ v2.toInt + 2 = 2 + v4.toInt) ∨ (v3.toInt = 2 ∧ v2.toInt + 3 = 3 + v4.toInt)) → dz_rv a265 3 6 v1.toInt v2.toInt → 0 + 0 + ((3 - v3.toInt) - 1) * 72 + 0 + (3 - v2.toInt) * 12 + 12 ≤ ((k : Nat) : Int) → dz_T ((F132_X4_setSwaps fu c261_groups c261_everyRank a262 a264 k).2 v1 v2 v3 v4 c261_swapsAPot a265) (fun r => gh_v1.toInt ≤ 5 ∧ 0 ≤ gh_v1.toInt ∧ r.1.toInt ≤ 3 ∧ 0 ≤ r.1.toInt ∧ (r.1.toInt = 3) ∧ (dz_rv r.2 3 6 (gh_v1.toInt + 1) 0)))
set_option maxHeartbeats 1000000 in
set_option maxRecDepth 10000 in
theorem t132_X4_setSwaps_h1_g3 (fu : Nat) (hfu : 1000000000000 ≤ fu) (c261_groups : Int32) (c261_everyRank : Int32) (a262 : Nat → Int32) (a264 : Nat → Int32) (gh_v1 : Int32) (p0 : c261_groups.toInt ≤ 3) (p1 : 3 ≤ c261_groups.toInt) (p2 : c261_everyRank.toInt ≤ 63) (p3 : 63 ≤ c261_everyRank.toInt) (hr_a262 : dz_rg a262 96 0 3) (hr_a264 : dz_rg a264 16 0 16777215) (k : Nat) (ih : ∀ j9, j9 < k → p132_X4_setSwaps_g3 fu c261_groups c261_everyRank a262 a264 gh_v1 j9) : ∀ (v1 : Int32) (v2 : Int32) (v3 : Int32) (c261_swapsAPot : Int32) (a265 : Nat → Int32), gh_v1.toInt ≤ 5 → 0 ≤ gh_v1.toInt → v1.toInt ≤ 5 → 0 ≤ v1.toInt → v2.toInt ≤ 3 → 0 ≤ v2.toInt → v3.toInt ≤ 3 → 0 ≤ v3.toInt → gh_v1.toInt ≤ v1.toInt → v1.toInt ≤ gh_v1.toInt → v2.toInt ≤ v3.toInt + 2 → ((v3.toInt = 0 ∧ v2.toInt = 0) ∨ (v3.toInt = 1 ∧ v2.toInt = 2) ∨ (v3.toInt = 2 ∧ v2.toInt = 3) ∨ (v3.toInt = 3 ∧ v2.toInt = 3)) → dz_rv a265 3 6 v1.toInt v2.toInt → 0 + 0 + (3 - v3.toInt) * 72 + 6 ≤ ((k : Nat) : Int) → dz_T ((F132_X4_setSwaps fu c261_groups c261_everyRank a262 a264 k).1 v1 v2 v3 c261_swapsAPot a265) (fun r => gh_v1.toInt ≤ 5 ∧ 0 ≤ gh_v1.toInt ∧ r.1.toInt ≤ 3 ∧ 0 ≤ r.1.toInt ∧ (r.1.toInt = 3) ∧ (dz_rv r.2 3 6 (gh_v1.toInt + 1) 0)) := by
  intro v1 v2 v3 c261_swapsAPot a265 i0 i1 i2 i3 i4 i5 i6 i7 i8 i9 i10 x0 x1 hm
  obtain ⟨k0, rfl⟩ : ∃ x, k = x + 1 := ⟨k - 1, by omega⟩
  show dz_T (s132_X4_setSwaps_1 fu c261_groups c261_everyRank a262 a264 (F132_X4_setSwaps fu c261_groups c261_everyRank a262 a264 k0).2  v1 v2 v3 c261_swapsAPot a265) _
  unfold s132_X4_setSwaps_1
  refine dz_Tle (fun h1 => ?_) (fun h1 => ?_)
  · skip
    refine dz_Ts ?_
    dsimp only
    exact ⟨i0, i1, i4, i5, (by omega), (dz_rve (dz_rvm (by assumption) (by omega)) (by omega))⟩
  · skip
    have e2 := dz_l1
    have e3 := dz_add (a := v3) (b := (1 : Int32)) (by omega) (by omega)
    exact (ih k0 (by omega)).2 v1 v2 v3 (v3 + (1 : Int32)) c261_swapsAPot a265 i0 i1 i2 i3 i4 i5 (by first | assumption | omega) i7 (by omega) (by omega) (by omega) i8 i9 (by omega) (by omega) (by first | assumption | exact dz_rvu (by assumption) (by omega) (by omega) (by omega) (by omega) (by omega) (by omega)) (by omega)
set_option maxHeartbeats 1000000 in
set_option maxRecDepth 10000 in
theorem t132_X4_setSwaps_h2_g3 (fu : Nat) (hfu : 1000000000000 ≤ fu) (c261_groups : Int32) (c261_everyRank : Int32) (a262 : Nat → Int32) (a264 : Nat → Int32) (gh_v1 : Int32) (p0 : c261_groups.toInt ≤ 3) (p1 : 3 ≤ c261_groups.toInt) (p2 : c261_everyRank.toInt ≤ 63) (p3 : 63 ≤ c261_everyRank.toInt) (hr_a262 : dz_rg a262 96 0 3) (hr_a264 : dz_rg a264 16 0 16777215) (k : Nat) (ih : ∀ j9, j9 < k → p132_X4_setSwaps_g3 fu c261_groups c261_everyRank a262 a264 gh_v1 j9) : ∀ (v1 : Int32) (v2 : Int32) (v3 : Int32) (v4 : Int32) (c261_swapsAPot : Int32) (a265 : Nat → Int32), gh_v1.toInt ≤ 5 → 0 ≤ gh_v1.toInt → v1.toInt ≤ 5 → 0 ≤ v1.toInt → v2.toInt ≤ 3 → 0 ≤ v2.toInt → v3.toInt ≤ 2 → 0 ≤ v3.toInt → v4.toInt ≤ 3 → 1 ≤ v4.toInt → v3.toInt + 1 ≤ v4.toInt → gh_v1.toInt ≤ v1.toInt → v1.toInt ≤ gh_v1.toInt → v2.toInt ≤ v4.toInt + 1 → ((v3.toInt = 0 ∧ v2.toInt + 1 = 0 + v4.toInt) ∨ (v3.toInt = 1 ∧ v2.toInt + 2 = 2 + v4.toInt) ∨ (v3.toInt = 2 ∧ v2.toInt + 3 = 3 + v4.toInt)) → dz_rv a265 3 6 v1.toInt v2.toInt → 0 + 0 + ((3 - v3.toInt) - 1) * 72 + 0 + (3 - v2.toInt) * 12 + 12 ≤ ((k : Nat) : Int) → dz_T ((F132_X4_setSwaps fu c261_groups c261_everyRank a262 a264 k).2 v1 v2 v3 v4 c261_swapsAPot a265) (fun r => gh_v1.toInt ≤ 5 ∧ 0 ≤ gh_v1.toInt ∧ r.1.toInt ≤ 3 ∧ 0 ≤ r.1.toInt ∧ (r.1.toInt = 3) ∧ (dz_rv r.2 3 6 (gh_v1.toInt + 1) 0)) := by
  intro v1 v2 v3 v4 c261_swapsAPot a265 i0 i1 i2 i3 i4 i5 i6 i7 i8 i9 i10 i11 i12 i13 x0 x1 hm
  obtain ⟨k0, rfl⟩ : ∃ x, k = x + 1 := ⟨k - 1, by omega⟩
  show dz_T (s132_X4_setSwaps_2 fu c261_groups c261_everyRank a262 a264 (F132_X4_setSwaps fu c261_groups c261_everyRank a262 a264 k0).1 (F132_X4_setSwaps fu c261_groups c261_everyRank a262 a264 k0).2  v1 v2 v3 v4 c261_swapsAPot a265) _
  unfold s132_X4_setSwaps_2
  refine dz_Tle (fun h1 => ?_) (fun h1 => ?_)
  · skip
    have e2 := dz_l1
    have e3 := dz_add (a := v3) (b := (1 : Int32)) (by omega) (by omega)
    exact (ih k0 (by omega)).1 v1 v2 (v3 + (1 : Int32)) c261_swapsAPot a265 i0 i1 i2 i3 i4 i5 (by omega) (by omega) i11 i12 (by omega) (by omega) (by first | assumption | exact dz_rvm (by assumption) (by omega)) (by omega)
  · skip
    refine dz_Tb (t131_X4_rankWithSwapped_g3 fu hfu _ _ _ _ _ _ _ p0 p1 p2 p3 i3 i2 i7 (by first | assumption | omega) (by first | assumption | omega) i8 (hr_a262) (hr_a264)) (fun r1 q => ?_)
    obtain ⟨q1_0, q1_1⟩ := q
    have e4 := dz_l6
    have e5 := dz_mulr (a := v1) (b := (6 : Int32)) 6 (by omega) (by omega) (by omega)
    have e6 := dz_add (a := (v1 * (6 : Int32))) (b := v2) (by omega) (by omega)
    refine dz_Tin (by omega) (by omega) ?_
    have e7 := dz_l1
    have e8 := dz_add (a := v2) (b := (1 : Int32)) (by omega) (by omega)
    have e9 := dz_add (a := v4) (b := (1 : Int32)) (by omega) (by omega)
    exact (ih k0 (by omega)).2 v1 (v2 + (1 : Int32)) v3 (v4 + (1 : Int32)) c261_swapsAPot (upd a265 ((v1 * (6 : Int32)) + v2).toNatClampNeg r1) i0 i1 i2 i3 (by omega) (by omega) i6 i7 (by omega) (by omega) (by omega) i11 i12 (by omega) (by omega) (by first | assumption | exact dz_rvu (by assumption) (by omega) (by omega) (by omega) (by omega) (by omega) (by omega)) (by omega)
theorem t132_X4_setSwaps_I_g3 (fu : Nat) (hfu : 1000000000000 ≤ fu) (c261_groups : Int32) (c261_everyRank : Int32) (a262 : Nat → Int32) (a264 : Nat → Int32) (gh_v1 : Int32) (p0 : c261_groups.toInt ≤ 3) (p1 : 3 ≤ c261_groups.toInt) (p2 : c261_everyRank.toInt ≤ 63) (p3 : 63 ≤ c261_everyRank.toInt) (hr_a262 : dz_rg a262 96 0 3) (hr_a264 : dz_rg a264 16 0 16777215) (k : Nat) : p132_X4_setSwaps_g3 fu c261_groups c261_everyRank a262 a264 gh_v1 k := by
  induction k using Nat.strongRecOn with
  | _ k ih => exact ⟨t132_X4_setSwaps_h1_g3 fu hfu c261_groups c261_everyRank a262 a264 gh_v1 p0 p1 p2 p3 hr_a262 hr_a264 k ih, t132_X4_setSwaps_h2_g3 fu hfu c261_groups c261_everyRank a262 a264 gh_v1 p0 p1 p2 p3 hr_a262 hr_a264 k ih⟩
set_option maxHeartbeats 1000000 in
set_option maxRecDepth 10000 in
theorem t132_X4_setSwaps_E_g3 (fu : Nat) (hfu : 1000000000000 ≤ fu) (c261_groups : Int32) (c261_everyRank : Int32) (a262 : Nat → Int32) (a264 : Nat → Int32) (v1 : Int32) (c261_swapsAPot : Int32) (a265 : Nat → Int32) (p0 : c261_groups.toInt ≤ 3) (p1 : 3 ≤ c261_groups.toInt) (p2 : c261_everyRank.toInt ≤ 63) (p3 : 63 ≤ c261_everyRank.toInt) (p4 : 0 ≤ v1.toInt) (p5 : v1.toInt ≤ 5) (hr_a262 : dz_rg a262 96 0 3) (hr_a264 : dz_rg a264 16 0 16777215) (o0 : dz_rv a265 3 6 v1.toInt 0) (kv : Nat) (hkv : 1000000000000 ≤ kv) : dz_T (s132_X4_setSwaps_0 fu c261_groups c261_everyRank a262 a264 (F132_X4_setSwaps fu c261_groups c261_everyRank a262 a264 kv).1  v1 c261_swapsAPot a265) (fun r => v1.toInt ≤ 5 ∧ 0 ≤ v1.toInt ∧ r.1.toInt ≤ 3 ∧ 0 ≤ r.1.toInt ∧ (r.1.toInt = 3) ∧ (dz_rv r.2 3 6 (v1.toInt + 1) 0)) := by
  unfold s132_X4_setSwaps_0
  have e1 := dz_l0
  exact (t132_X4_setSwaps_I_g3 fu hfu c261_groups c261_everyRank a262 a264 v1 p0 p1 p2 p3 hr_a262 hr_a264 kv).1 v1 (0 : Int32) (0 : Int32) c261_swapsAPot a265 (by first | assumption | omega) (by first | assumption | omega) p5 p4 (by omega) (by omega) (by omega) (by omega) (by first | assumption | omega) (by first | assumption | omega) (by omega) (by omega) (by first | assumption | exact dz_rvm (by assumption) (by omega)) (by omega)
theorem t132_X4_setSwaps_g3 (fu : Nat) (hfu : 1000000000000 ≤ fu) (c261_groups : Int32) (c261_everyRank : Int32) (a262 : Nat → Int32) (a264 : Nat → Int32) (v1 : Int32) (c261_swapsAPot : Int32) (a265 : Nat → Int32) (p0 : c261_groups.toInt ≤ 3) (p1 : 3 ≤ c261_groups.toInt) (p2 : c261_everyRank.toInt ≤ 63) (p3 : 63 ≤ c261_everyRank.toInt) (p4 : 0 ≤ v1.toInt) (p5 : v1.toInt ≤ 5) (hr_a262 : dz_rg a262 96 0 3) (hr_a264 : dz_rg a264 16 0 16777215) (o0 : dz_rv a265 3 6 v1.toInt 0) : dz_T (f132_X4_setSwaps fu c261_groups c261_everyRank a262 a264 v1 c261_swapsAPot a265) (fun r => v1.toInt ≤ 5 ∧ 0 ≤ v1.toInt ∧ r.1.toInt ≤ 3 ∧ 0 ≤ r.1.toInt ∧ (r.1.toInt = 3) ∧ (dz_rv r.2 3 6 (v1.toInt + 1) 0)) :=
  t132_X4_setSwaps_E_g3 fu hfu c261_groups c261_everyRank a262 a264 v1 c261_swapsAPot a265 p0 p1 p2 p3 p4 p5 hr_a262 hr_a264 o0 fu hfu
abbrev p131_X4_rankWithSwapped_g4 (fu : Nat) (c261_groups : Int32) (c261_everyRank : Int32) (a262 : Nat → Int32) (a264 : Nat → Int32) (k : Nat) : Prop :=
  (∀ (v1 : Int32) (v2 : Int32) (v3 : Int32) (v4 : Int32) (v5 : Int32), v1.toInt ≤ 23 → 0 ≤ v1.toInt → v2.toInt ≤ 3 → 0 ≤ v2.toInt → v3.toInt ≤ 3 → 0 ≤ v3.toInt → v4.toInt ≤ 16777215 → 0 ≤ v4.toInt → v5.toInt ≤ 4 → 0 ≤ v5.toInt → 0 + 0 + (4 - v5.toInt) * 12 + 6 ≤ ((k : Nat) : Int) → dz_T ((F131_X4_rankWithSwapped fu c261_groups c261_everyRank a262 a264 k).1 v1 v2 v3 v4 v5) (fun r => r.toInt ≤ 23 ∧ 0 ≤ r.toInt))
set_option maxHeartbeats 1000000 in
set_option maxRecDepth 10000 in
theorem t131_X4_rankWithSwapped_h1_g4 (fu : Nat) (hfu : 1000000000000 ≤ fu) (c261_groups : Int32) (c261_everyRank : Int32) (a262 : Nat → Int32) (a264 : Nat → Int32) (p0 : c261_groups.toInt ≤ 4) (p1 : 4 ≤ c261_groups.toInt) (p2 : c261_everyRank.toInt ≤ 16777215) (p3 : 16777215 ≤ c261_everyRank.toInt) (hr_a262 : dz_rg a262 96 0 3) (hr_a264 : dz_rg a264 16 0 16777215) (k : Nat) (ih : ∀ j9, j9 < k → p131_X4_rankWithSwapped_g4 fu c261_groups c261_everyRank a262 a264 j9) : ∀ (v1 : Int32) (v2 : Int32) (v3 : Int32) (v4 : Int32) (v5 : Int32), v1.toInt ≤ 23 → 0 ≤ v1.toInt → v2.toInt ≤ 3 → 0 ≤ v2.toInt → v3.toInt ≤ 3 → 0 ≤ v3.toInt → v4.toInt ≤ 16777215 → 0 ≤ v4.toInt → v5.toInt ≤ 4 → 0 ≤ v5.toInt → 0 + 0 + (4 - v5.toInt) * 12 + 6 ≤ ((k : Nat) : Int) → dz_T ((F131_X4_rankWithSwapped fu c261_groups c261_everyRank a262 a264 k).1 v1 v2 v3 v4 v5) (fun r => r.toInt ≤ 23 ∧ 0 ≤ r.toInt) := by
  intro v1 v2 v3 v4 v5 i0 i1 i2 i3 i4 i5 i6 i7 i8 i9 hm
  obtain ⟨k0, rfl⟩ : ∃ x, k = x + 1 := ⟨k - 1, by omega⟩
  show dz_T (s131_X4_rankWithSwapped_1 fu c261_groups c261_everyRank a262 a264 (F131_X4_rankWithSwapped fu c261_groups c261_everyRank a262 a264 k0).2  v1 v2 v3 v4 v5) _
  unfold s131_X4_rankWithSwapped_1
  refine dz_Tle (fun h1 => ?_) (fun h1 => ?_)
  · skip
    refine dz_Tb (t129_X4_only fu hfu _ 24 (by omega) (by omega) (by decide)) (fun r1 q => ?_)
    obtain ⟨q1_0, q1_1⟩ := q
    exact dz_Ts ⟨q1_0, q1_1⟩
  · skip
    refine dz_Tb (t130_X4_groupAt fu hfu _ _ _ i1 i0 i9 (by first | assumption | omega) (hr_a262)) (fun r2 q => ?_)
    obtain ⟨q2_0, q2_1⟩ := q
    refine dz_Teq (fun h2 => ?_) (fun h2 => ?_)
    · skip
      obtain ⟨k1, rfl⟩ : ∃ x, k0 = x + 1 := ⟨k0 - 1, by omega⟩
      show dz_T (s131_X4_rankWithSwapped_2 fu c261_groups c261_everyRank a262 a264 (F131_X4_rankWithSwapped fu c261_groups c261_everyRank a262 a264 k1).1 v1 v2 v3 v4 v5 v3) _
      unfold s131_X4_rankWithSwapped_2
      have e3 := dz_l4
      have e4 := dz_mulr (a := v5) (b := (4 : Int32)) 4 (by omega) (by omega) (by omega)
      have e5 := dz_add (a := (v5 * (4 : Int32))) (b := v3) (by omega) (by omega)
      refine dz_Tin (by omega) (by omega) ?_
      have e6 := dz_rgat (hr_a264) (i := ((v5 * (4 : Int32)) + v3)) (by omega) (by omega)
      have e7 := dz_andr (a := v4) (b := (a264 ((v5 * (4 : Int32)) + v3).toNatClampNeg)) (by omega)
      have e8 := dz_andl (a := v4) (b := (a264 ((v5 * (4 : Int32)) + v3).toNatClampNeg)) (by omega)
      have e9 := dz_l1
      have e10 := dz_add (a := v5) (b := (1 : Int32)) (by omega) (by omega)
      exact (ih k1 (by omega)) v1 v2 v3 (v4 &&& (a264 ((v5 * (4 : Int32)) + v3).toNatClampNeg)) (v5 + (1 : Int32)) i0 i1 i2 i3 i4 i5 (by omega) (by omega) (by omega) (by omega) (by omega)
    · skip
      refine dz_Teq (fun h11 => ?_) (fun h11 => ?_)
      · skip
        obtain ⟨k2, rfl⟩ : ∃ x, k0 = x + 1 := ⟨k0 - 1, by omega⟩
        show dz_T (s131_X4_rankWithSwapped_2 fu c261_groups c261_everyRank a262 a264 (F131_X4_rankWithSwapped fu c261_groups c261_everyRank a262 a264 k2).1 v1 v2 v3 v4 v5 v2) _
        unfold s131_X4_rankWithSwapped_2
        have e12 := dz_l4
        have e13 := dz_mulr (a := v5) (b := (4 : Int32)) 4 (by omega) (by omega) (by omega)
        have e14 := dz_add (a := (v5 * (4 : Int32))) (b := v2) (by omega) (by omega)
        refine dz_Tin (by omega) (by omega) ?_
        have e15 := dz_rgat (hr_a264) (i := ((v5 * (4 : Int32)) + v2)) (by omega) (by omega)
        have e16 := dz_andr (a := v4) (b := (a264 ((v5 * (4 : Int32)) + v2).toNatClampNeg)) (by omega)
        have e17 := dz_andl (a := v4) (b := (a264 ((v5 * (4 : Int32)) + v2).toNatClampNeg)) (by omega)
        have e18 := dz_l1
        have e19 := dz_add (a := v5) (b := (1 : Int32)) (by omega) (by omega)
        exact (ih k2 (by omega)) v1 v2 v3 (v4 &&& (a264 ((v5 * (4 : Int32)) + v2).toNatClampNeg)) (v5 + (1 : Int32)) i0 i1 i2 i3 i4 i5 (by omega) (by omega) (by omega) (by omega) (by omega)
      · skip
        obtain ⟨k3, rfl⟩ : ∃ x, k0 = x + 1 := ⟨k0 - 1, by omega⟩
        show dz_T (s131_X4_rankWithSwapped_2 fu c261_groups c261_everyRank a262 a264 (F131_X4_rankWithSwapped fu c261_groups c261_everyRank a262 a264 k3).1 v1 v2 v3 v4 v5 r2) _
        unfold s131_X4_rankWithSwapped_2
        have e20 := dz_l4
        have e21 := dz_mulr (a := v5) (b := (4 : Int32)) 4 (by omega) (by omega) (by omega)
        have e22 := dz_add (a := (v5 * (4 : Int32))) (b := r2) (by omega) (by omega)
        refine dz_Tin (by omega) (by omega) ?_
        have e23 := dz_rgat (hr_a264) (i := ((v5 * (4 : Int32)) + r2)) (by omega) (by omega)
        have e24 := dz_andr (a := v4) (b := (a264 ((v5 * (4 : Int32)) + r2).toNatClampNeg)) (by omega)
        have e25 := dz_andl (a := v4) (b := (a264 ((v5 * (4 : Int32)) + r2).toNatClampNeg)) (by omega)
        have e26 := dz_l1
        have e27 := dz_add (a := v5) (b := (1 : Int32)) (by omega) (by omega)
        exact (ih k3 (by omega)) v1 v2 v3 (v4 &&& (a264 ((v5 * (4 : Int32)) + r2).toNatClampNeg)) (v5 + (1 : Int32)) i0 i1 i2 i3 i4 i5 (by omega) (by omega) (by omega) (by omega) (by omega)
theorem t131_X4_rankWithSwapped_I_g4 (fu : Nat) (hfu : 1000000000000 ≤ fu) (c261_groups : Int32) (c261_everyRank : Int32) (a262 : Nat → Int32) (a264 : Nat → Int32) (p0 : c261_groups.toInt ≤ 4) (p1 : 4 ≤ c261_groups.toInt) (p2 : c261_everyRank.toInt ≤ 16777215) (p3 : 16777215 ≤ c261_everyRank.toInt) (hr_a262 : dz_rg a262 96 0 3) (hr_a264 : dz_rg a264 16 0 16777215) (k : Nat) : p131_X4_rankWithSwapped_g4 fu c261_groups c261_everyRank a262 a264 k := by
  induction k using Nat.strongRecOn with
  | _ k ih => exact t131_X4_rankWithSwapped_h1_g4 fu hfu c261_groups c261_everyRank a262 a264 p0 p1 p2 p3 hr_a262 hr_a264 k ih
set_option maxHeartbeats 1000000 in
set_option maxRecDepth 10000 in
theorem t131_X4_rankWithSwapped_E_g4 (fu : Nat) (hfu : 1000000000000 ≤ fu) (c261_groups : Int32) (c261_everyRank : Int32) (a262 : Nat → Int32) (a264 : Nat → Int32) (v1 : Int32) (v2 : Int32) (v3 : Int32) (p0 : c261_groups.toInt ≤ 4) (p1 : 4 ≤ c261_groups.toInt) (p2 : c261_everyRank.toInt ≤ 16777215) (p3 : 16777215 ≤ c261_everyRank.toInt) (p4 : 0 ≤ v1.toInt) (p5 : v1.toInt ≤ 23) (p6 : 0 ≤ v2.toInt) (p7 : v2.toInt ≤ 3) (p8 : 0 ≤ v3.toInt) (p9 : v3.toInt ≤ 3) (hr_a262 : dz_rg a262 96 0 3) (hr_a264 : dz_rg a264 16 0 16777215) (kv : Nat) (hkv : 1000000000000 ≤ kv) : dz_T (s131_X4_rankWithSwapped_0 fu c261_groups c261_everyRank a262 a264 (F131_X4_rankWithSwapped fu c261_groups c261_everyRank a262 a264 kv).1  v1 v2 v3) (fun r => r.toInt ≤ 23 ∧ 0 ≤ r.toInt) := by
  unfold s131_X4_rankWithSwapped_0
  have e1 := dz_l0
  exact (t131_X4_rankWithSwapped_I_g4 fu hfu c261_groups c261_everyRank a262 a264 p0 p1 p2 p3 hr_a262 hr_a264 kv) v1 v2 v3 c261_everyRank (0 : Int32) p5 p4 p7 p6 p9 p8 p2 (by first | assumption | omega) (by omega) (by omega) (by omega)
theorem t131_X4_rankWithSwapped_g4 (fu : Nat) (hfu : 1000000000000 ≤ fu) (c261_groups : Int32) (c261_everyRank : Int32) (a262 : Nat → Int32) (a264 : Nat → Int32) (v1 : Int32) (v2 : Int32) (v3 : Int32) (p0 : c261_groups.toInt ≤ 4) (p1 : 4 ≤ c261_groups.toInt) (p2 : c261_everyRank.toInt ≤ 16777215) (p3 : 16777215 ≤ c261_everyRank.toInt) (p4 : 0 ≤ v1.toInt) (p5 : v1.toInt ≤ 23) (p6 : 0 ≤ v2.toInt) (p7 : v2.toInt ≤ 3) (p8 : 0 ≤ v3.toInt) (p9 : v3.toInt ≤ 3) (hr_a262 : dz_rg a262 96 0 3) (hr_a264 : dz_rg a264 16 0 16777215) : dz_T (f131_X4_rankWithSwapped fu c261_groups c261_everyRank a262 a264 v1 v2 v3) (fun r => r.toInt ≤ 23 ∧ 0 ≤ r.toInt) :=
  t131_X4_rankWithSwapped_E_g4 fu hfu c261_groups c261_everyRank a262 a264 v1 v2 v3 p0 p1 p2 p3 p4 p5 p6 p7 p8 p9 hr_a262 hr_a264 fu hfu
abbrev p132_X4_setSwaps_g4 (fu : Nat) (c261_groups : Int32) (c261_everyRank : Int32) (a262 : Nat → Int32) (a264 : Nat → Int32) (gh_v1 : Int32) (k : Nat) : Prop :=
  (∀ (v1 : Int32) (v2 : Int32) (v3 : Int32) (c261_swapsAPot : Int32) (a265 : Nat → Int32), gh_v1.toInt ≤ 23 → 0 ≤ gh_v1.toInt → v1.toInt ≤ 23 → 0 ≤ v1.toInt → v2.toInt ≤ 6 → 0 ≤ v2.toInt → v3.toInt ≤ 4 → 0 ≤ v3.toInt → gh_v1.toInt ≤ v1.toInt → v1.toInt ≤ gh_v1.toInt → v2.toInt ≤ v3.toInt + 5 → ((v3.toInt = 0 ∧ v2.toInt = 0) ∨ (v3.toInt = 1 ∧ v2.toInt = 3) ∨ (v3.toInt = 2 ∧ v2.toInt = 5) ∨ (v3.toInt = 3 ∧ v2.toInt = 6) ∨ (v3.toInt = 4 ∧ v2.toInt = 6)) → dz_rv a265 6 24 v1.toInt v2.toInt → 0 + 0 + (4 - v3.toInt) * 108 + 6 ≤ ((k : Nat) : Int) → dz_T ((F132_X4_setSwaps fu c261_groups c261_everyRank a262 a264 k).1 v1 v2 v3 c261_swapsAPot a265) (fun r => gh_v1.toInt ≤ 23 ∧ 0 ≤ gh_v1.toInt ∧ r.1.toInt ≤ 6 ∧ 0 ≤ r.1.toInt ∧ (r.1.toInt = 6) ∧ (dz_rv r.2 6 24 (gh_v1.toInt + 1) 0))) ∧ (∀ (v1 : Int32) (v2 : Int32) (v3 : Int32) (v4 : Int32) (c261_swapsAPot : Int32) (a265 : Nat → Int32), gh_v1.toInt ≤ 23 → 0 ≤ gh_v1.toInt → v1.toInt ≤ 23 → 0 ≤ v1.toInt → v2.toInt ≤ 6 → 0 ≤ v2.toInt → v3.toInt ≤ 3 → 0 ≤ v3.toInt → v4.toInt ≤ 4 → 1 ≤ v4.toInt → v3.toInt + 1 ≤ v4.toInt → gh_v1.toInt ≤ v1.toInt → v1.toInt ≤ gh_v1.toInt → v2.toInt ≤ v4.toInt + 4 → ((v3.toInt = 0 ∧ v2.toInt + 1 = 0 + v4.toInt) ∨ (v3.toInt = 1 ∧ v2.toInt + 2 = 3 + v4.toInt) ∨ (v3.toInt = 2 ∧ v2.toInt + 3 = 5 + v4.toInt) ∨ (v3.toInt = 3 ∧ v2.toInt + 4 = 6 + v4.toInt)) → dz_rv a265 6 24 v1.toInt v2.toInt → 0 + 0 + ((4 - v3.toInt) - 1) * 108 + 0 + (6 - v2.toInt) * 12 + 12 ≤ ((k : Nat) : Int) → dz_T ((F132_X4_setSwaps fu c261_groups c261_everyRank a262 a264 k).2 v1 v2 v3 v4 c261_swapsAPot a265) (fun r => gh_v1.toInt ≤ 23 ∧ 0 ≤ gh_v1.toInt ∧ r.1.toInt ≤ 6 ∧ 0 ≤ r.1.toInt ∧ (r.1.toInt = 6) ∧ (dz_rv r.2 6 24 (gh_v1.toInt + 1) 0)))
set_option maxHeartbeats 1000000 in
set_option maxRecDepth 10000 in
theorem t132_X4_setSwaps_h1_g4 (fu : Nat) (hfu : 1000000000000 ≤ fu) (c261_groups : Int32) (c261_everyRank : Int32) (a262 : Nat → Int32) (a264 : Nat → Int32) (gh_v1 : Int32) (p0 : c261_groups.toInt ≤ 4) (p1 : 4 ≤ c261_groups.toInt) (p2 : c261_everyRank.toInt ≤ 16777215) (p3 : 16777215 ≤ c261_everyRank.toInt) (hr_a262 : dz_rg a262 96 0 3) (hr_a264 : dz_rg a264 16 0 16777215) (k : Nat) (ih : ∀ j9, j9 < k → p132_X4_setSwaps_g4 fu c261_groups c261_everyRank a262 a264 gh_v1 j9) : ∀ (v1 : Int32) (v2 : Int32) (v3 : Int32) (c261_swapsAPot : Int32) (a265 : Nat → Int32), gh_v1.toInt ≤ 23 → 0 ≤ gh_v1.toInt → v1.toInt ≤ 23 → 0 ≤ v1.toInt → v2.toInt ≤ 6 → 0 ≤ v2.toInt → v3.toInt ≤ 4 → 0 ≤ v3.toInt → gh_v1.toInt ≤ v1.toInt → v1.toInt ≤ gh_v1.toInt → v2.toInt ≤ v3.toInt + 5 → ((v3.toInt = 0 ∧ v2.toInt = 0) ∨ (v3.toInt = 1 ∧ v2.toInt = 3) ∨ (v3.toInt = 2 ∧ v2.toInt = 5) ∨ (v3.toInt = 3 ∧ v2.toInt = 6) ∨ (v3.toInt = 4 ∧ v2.toInt = 6)) → dz_rv a265 6 24 v1.toInt v2.toInt → 0 + 0 + (4 - v3.toInt) * 108 + 6 ≤ ((k : Nat) : Int) → dz_T ((F132_X4_setSwaps fu c261_groups c261_everyRank a262 a264 k).1 v1 v2 v3 c261_swapsAPot a265) (fun r => gh_v1.toInt ≤ 23 ∧ 0 ≤ gh_v1.toInt ∧ r.1.toInt ≤ 6 ∧ 0 ≤ r.1.toInt ∧ (r.1.toInt = 6) ∧ (dz_rv r.2 6 24 (gh_v1.toInt + 1) 0)) := by
  intro v1 v2 v3 c261_swapsAPot a265 i0 i1 i2 i3 i4 i5 i6 i7 i8 i9 i10 x0 x1 hm
  obtain ⟨k0, rfl⟩ : ∃ x, k = x + 1 := ⟨k - 1, by omega⟩
  show dz_T (s132_X4_setSwaps_1 fu c261_groups c261_everyRank a262 a264 (F132_X4_setSwaps fu c261_groups c261_everyRank a262 a264 k0).2  v1 v2 v3 c261_swapsAPot a265) _
  unfold s132_X4_setSwaps_1
  refine dz_Tle (fun h1 => ?_) (fun h1 => ?_)
  · skip
    refine dz_Ts ?_
    dsimp only
    exact ⟨i0, i1, i4, i5, (by omega), (dz_rve (dz_rvm (by assumption) (by omega)) (by omega))⟩
  · skip
    have e2 := dz_l1
    have e3 := dz_add (a := v3) (b := (1 : Int32)) (by omega) (by omega)
    exact (ih k0 (by omega)).2 v1 v2 v3 (v3 + (1 : Int32)) c261_swapsAPot a265 i0 i1 i2 i3 i4 i5 (by first | assumption | omega) i7 (by omega) (by omega) (by omega) i8 i9 (by omega) (by omega) (by first | assumption | exact dz_rvu (by assumption) (by omega) (by omega) (by omega) (by omega) (by omega) (by omega)) (by omega)
set_option maxHeartbeats 1000000 in
set_option maxRecDepth 10000 in
theorem t132_X4_setSwaps_h2_g4 (fu : Nat) (hfu : 1000000000000 ≤ fu) (c261_groups : Int32) (c261_everyRank : Int32) (a262 : Nat → Int32) (a264 : Nat → Int32) (gh_v1 : Int32) (p0 : c261_groups.toInt ≤ 4) (p1 : 4 ≤ c261_groups.toInt) (p2 : c261_everyRank.toInt ≤ 16777215) (p3 : 16777215 ≤ c261_everyRank.toInt) (hr_a262 : dz_rg a262 96 0 3) (hr_a264 : dz_rg a264 16 0 16777215) (k : Nat) (ih : ∀ j9, j9 < k → p132_X4_setSwaps_g4 fu c261_groups c261_everyRank a262 a264 gh_v1 j9) : ∀ (v1 : Int32) (v2 : Int32) (v3 : Int32) (v4 : Int32) (c261_swapsAPot : Int32) (a265 : Nat → Int32), gh_v1.toInt ≤ 23 → 0 ≤ gh_v1.toInt → v1.toInt ≤ 23 → 0 ≤ v1.toInt → v2.toInt ≤ 6 → 0 ≤ v2.toInt → v3.toInt ≤ 3 → 0 ≤ v3.toInt → v4.toInt ≤ 4 → 1 ≤ v4.toInt → v3.toInt + 1 ≤ v4.toInt → gh_v1.toInt ≤ v1.toInt → v1.toInt ≤ gh_v1.toInt → v2.toInt ≤ v4.toInt + 4 → ((v3.toInt = 0 ∧ v2.toInt + 1 = 0 + v4.toInt) ∨ (v3.toInt = 1 ∧ v2.toInt + 2 = 3 + v4.toInt) ∨ (v3.toInt = 2 ∧ v2.toInt + 3 = 5 + v4.toInt) ∨ (v3.toInt = 3 ∧ v2.toInt + 4 = 6 + v4.toInt)) → dz_rv a265 6 24 v1.toInt v2.toInt → 0 + 0 + ((4 - v3.toInt) - 1) * 108 + 0 + (6 - v2.toInt) * 12 + 12 ≤ ((k : Nat) : Int) → dz_T ((F132_X4_setSwaps fu c261_groups c261_everyRank a262 a264 k).2 v1 v2 v3 v4 c261_swapsAPot a265) (fun r => gh_v1.toInt ≤ 23 ∧ 0 ≤ gh_v1.toInt ∧ r.1.toInt ≤ 6 ∧ 0 ≤ r.1.toInt ∧ (r.1.toInt = 6) ∧ (dz_rv r.2 6 24 (gh_v1.toInt + 1) 0)) := by
  intro v1 v2 v3 v4 c261_swapsAPot a265 i0 i1 i2 i3 i4 i5 i6 i7 i8 i9 i10 i11 i12 i13 x0 x1 hm
  obtain ⟨k0, rfl⟩ : ∃ x, k = x + 1 := ⟨k - 1, by omega⟩
  show dz_T (s132_X4_setSwaps_2 fu c261_groups c261_everyRank a262 a264 (F132_X4_setSwaps fu c261_groups c261_everyRank a262 a264 k0).1 (F132_X4_setSwaps fu c261_groups c261_everyRank a262 a264 k0).2  v1 v2 v3 v4 c261_swapsAPot a265) _
  unfold s132_X4_setSwaps_2
  refine dz_Tle (fun h1 => ?_) (fun h1 => ?_)
  · skip
    have e2 := dz_l1
    have e3 := dz_add (a := v3) (b := (1 : Int32)) (by omega) (by omega)
    exact (ih k0 (by omega)).1 v1 v2 (v3 + (1 : Int32)) c261_swapsAPot a265 i0 i1 i2 i3 i4 i5 (by omega) (by omega) i11 i12 (by omega) (by omega) (by first | assumption | exact dz_rvm (by assumption) (by omega)) (by omega)
  · skip
    refine dz_Tb (t131_X4_rankWithSwapped_g4 fu hfu _ _ _ _ _ _ _ p0 p1 p2 p3 i3 i2 i7 i6 (by first | assumption | omega) (by first | assumption | omega) (hr_a262) (hr_a264)) (fun r1 q => ?_)
    obtain ⟨q1_0, q1_1⟩ := q
    have e4 := dz_l6
    have e5 := dz_mulr (a := v1) (b := (6 : Int32)) 6 (by omega) (by omega) (by omega)
    have e6 := dz_add (a := (v1 * (6 : Int32))) (b := v2) (by omega) (by omega)
    refine dz_Tin (by omega) (by omega) ?_
    have e7 := dz_l1
    have e8 := dz_add (a := v2) (b := (1 : Int32)) (by omega) (by omega)
    have e9 := dz_add (a := v4) (b := (1 : Int32)) (by omega) (by omega)
    exact (ih k0 (by omega)).2 v1 (v2 + (1 : Int32)) v3 (v4 + (1 : Int32)) c261_swapsAPot (upd a265 ((v1 * (6 : Int32)) + v2).toNatClampNeg r1) i0 i1 i2 i3 (by omega) (by omega) i6 i7 (by omega) (by omega) (by omega) i11 i12 (by omega) (by omega) (by first | assumption | exact dz_rvu (by assumption) (by omega) (by omega) (by omega) (by omega) (by omega) (by omega)) (by omega)
theorem t132_X4_setSwaps_I_g4 (fu : Nat) (hfu : 1000000000000 ≤ fu) (c261_groups : Int32) (c261_everyRank : Int32) (a262 : Nat → Int32) (a264 : Nat → Int32) (gh_v1 : Int32) (p0 : c261_groups.toInt ≤ 4) (p1 : 4 ≤ c261_groups.toInt) (p2 : c261_everyRank.toInt ≤ 16777215) (p3 : 16777215 ≤ c261_everyRank.toInt) (hr_a262 : dz_rg a262 96 0 3) (hr_a264 : dz_rg a264 16 0 16777215) (k : Nat) : p132_X4_setSwaps_g4 fu c261_groups c261_everyRank a262 a264 gh_v1 k := by
  induction k using Nat.strongRecOn with
  | _ k ih => exact ⟨t132_X4_setSwaps_h1_g4 fu hfu c261_groups c261_everyRank a262 a264 gh_v1 p0 p1 p2 p3 hr_a262 hr_a264 k ih, t132_X4_setSwaps_h2_g4 fu hfu c261_groups c261_everyRank a262 a264 gh_v1 p0 p1 p2 p3 hr_a262 hr_a264 k ih⟩
set_option maxHeartbeats 1000000 in
set_option maxRecDepth 10000 in
theorem t132_X4_setSwaps_E_g4 (fu : Nat) (hfu : 1000000000000 ≤ fu) (c261_groups : Int32) (c261_everyRank : Int32) (a262 : Nat → Int32) (a264 : Nat → Int32) (v1 : Int32) (c261_swapsAPot : Int32) (a265 : Nat → Int32) (p0 : c261_groups.toInt ≤ 4) (p1 : 4 ≤ c261_groups.toInt) (p2 : c261_everyRank.toInt ≤ 16777215) (p3 : 16777215 ≤ c261_everyRank.toInt) (p4 : 0 ≤ v1.toInt) (p5 : v1.toInt ≤ 23) (hr_a262 : dz_rg a262 96 0 3) (hr_a264 : dz_rg a264 16 0 16777215) (o0 : dz_rv a265 6 24 v1.toInt 0) (kv : Nat) (hkv : 1000000000000 ≤ kv) : dz_T (s132_X4_setSwaps_0 fu c261_groups c261_everyRank a262 a264 (F132_X4_setSwaps fu c261_groups c261_everyRank a262 a264 kv).1  v1 c261_swapsAPot a265) (fun r => v1.toInt ≤ 23 ∧ 0 ≤ v1.toInt ∧ r.1.toInt ≤ 6 ∧ 0 ≤ r.1.toInt ∧ (r.1.toInt = 6) ∧ (dz_rv r.2 6 24 (v1.toInt + 1) 0)) := by
  unfold s132_X4_setSwaps_0
  have e1 := dz_l0
  exact (t132_X4_setSwaps_I_g4 fu hfu c261_groups c261_everyRank a262 a264 v1 p0 p1 p2 p3 hr_a262 hr_a264 kv).1 v1 (0 : Int32) (0 : Int32) c261_swapsAPot a265 (by first | assumption | omega) (by first | assumption | omega) p5 p4 (by omega) (by omega) (by omega) (by omega) (by first | assumption | omega) (by first | assumption | omega) (by omega) (by omega) (by first | assumption | exact dz_rvm (by assumption) (by omega)) (by omega)
theorem t132_X4_setSwaps_g4 (fu : Nat) (hfu : 1000000000000 ≤ fu) (c261_groups : Int32) (c261_everyRank : Int32) (a262 : Nat → Int32) (a264 : Nat → Int32) (v1 : Int32) (c261_swapsAPot : Int32) (a265 : Nat → Int32) (p0 : c261_groups.toInt ≤ 4) (p1 : 4 ≤ c261_groups.toInt) (p2 : c261_everyRank.toInt ≤ 16777215) (p3 : 16777215 ≤ c261_everyRank.toInt) (p4 : 0 ≤ v1.toInt) (p5 : v1.toInt ≤ 23) (hr_a262 : dz_rg a262 96 0 3) (hr_a264 : dz_rg a264 16 0 16777215) (o0 : dz_rv a265 6 24 v1.toInt 0) : dz_T (f132_X4_setSwaps fu c261_groups c261_everyRank a262 a264 v1 c261_swapsAPot a265) (fun r => v1.toInt ≤ 23 ∧ 0 ≤ v1.toInt ∧ r.1.toInt ≤ 6 ∧ 0 ≤ r.1.toInt ∧ (r.1.toInt = 6) ∧ (dz_rv r.2 6 24 (v1.toInt + 1) 0)) :=
  t132_X4_setSwaps_E_g4 fu hfu c261_groups c261_everyRank a262 a264 v1 c261_swapsAPot a265 p0 p1 p2 p3 p4 p5 hr_a262 hr_a264 o0 fu hfu
set_option maxHeartbeats 1000000 in
theorem t132_X4_setSwaps_s (fu : Nat) (hfu : 1000000000000 ≤ fu) (κ : Nat) (hκ : κ < 14) (c261_groups : Int32) (c261_everyRank : Int32) (a262 : Nat → Int32) (a264 : Nat → Int32) (v1 : Int32) (c261_swapsAPot : Int32) (a265 : Nat → Int32) (p0 : c261_groups.toInt ≤ 4) (p1 : 0 ≤ c261_groups.toInt) (p2 : c261_everyRank.toInt ≤ 16777215) (p3 : 0 ≤ c261_everyRank.toInt) (p4 : 0 ≤ v1.toInt) (p5 : v1.toInt ≤ 23) (hr_a262 : dz_rg a262 96 0 3) (hr_a264 : dz_rg a264 16 0 16777215) (o0 : dz_rv a265 (dz_kw κ) (dz_kr κ) v1.toInt 0) (o1 : v1.toInt ≤ ((dz_kr κ : Nat) : Int) - 1) (o2 : c261_groups.toInt = ((dz_kg κ : Nat) : Int)) (o3 : c261_everyRank.toInt = ((dz_ke κ : Nat) : Int)) : dz_T (f132_X4_setSwaps fu c261_groups c261_everyRank a262 a264 v1 c261_swapsAPot a265) (fun r => r.1.toInt ≤ 6 ∧ 0 ≤ r.1.toInt ∧ r.1.toInt + 2 ≤ c261_everyRank.toInt ∧ r.1.toInt ≤ c261_groups.toInt + 2 ∧ (r.1.toInt = ((dz_kw κ : Nat) : Int)) ∧ (dz_rv r.2 (dz_kw κ) (dz_kr κ) (v1.toInt + 1) 0)) := by
  rcases (show κ = 0 ∨ κ = 1 ∨ κ = 2 ∨ κ = 3 ∨ κ = 4 ∨ κ = 5 ∨ κ = 6 ∨ κ = 7 ∨ κ = 8 ∨ κ = 9 ∨ κ = 10 ∨ κ = 11 ∨ κ = 12 ∨ κ = 13 by omega) with rfl | rfl | rfl | rfl | rfl | rfl | rfl | rfl | rfl | rfl | rfl | rfl | rfl | rfl
  · skip
    have o0 : dz_rv a265 1 2 v1.toInt 0 := o0
    have o1 : v1.toInt ≤ (2 : Int) - 1 := o1
    have o2 : c261_groups.toInt = (2 : Int) := o2
    have o3 : c261_everyRank.toInt = (3 : Int) := o3
    have hdz_kw : ((dz_kw 0 : Nat) : Int) = (1 : Int) := rfl
    refine dz_Tw (t132_X4_setSwaps_g2 fu hfu c261_groups c261_everyRank a262 a264 v1 c261_swapsAPot a265 (by first | assumption | omega) (by first | assumption | omega) (by first | assumption | omega) (by first | assumption | omega) (by first | assumption | omega) (by first | assumption | omega) (by first | exact hr_a262 | exact dz_rgm hr_a262 (by omega) (by omega) | exact dz_pmr hr_a262 (by decide) (by omega) (by omega) (by omega) | exact dz_ptr hr_a262 (by decide) (by decide) (by omega) | exact dz_ptr hr_a262 (by decide) (by decide) (by show _ ≤ 0; omega) | exact dz_rgs hr_a262 (by omega)) (by first | exact hr_a264 | exact dz_rgm hr_a264 (by omega) (by omega) | exact dz_pmr hr_a264 (by decide) (by omega) (by omega) (by omega) | exact dz_ptr hr_a264 (by decide) (by decide) (by omega) | exact dz_ptr hr_a264 (by decide) (by decide) (by show _ ≤ 0; omega) | exact dz_rgs hr_a264 (by omega)) (by first | assumption | omega)) (fun r h => ?_)
    obtain ⟨g0, g1, g2, g3, g4, g5⟩ := h
    exact ⟨(by first | assumption | omega), (by first | assumption | omega), (by first | assumption | omega), (by first | assumption | omega), (by first | assumption | omega), (by first | assumption | omega)⟩
  · skip
    have o0 : dz_rv a265 1 2 v1.toInt 0 := o0
    have o1 : v1.toInt ≤ (2 : Int) - 1 := o1
    have o2 : c261_groups.toInt = (2 : Int) := o2
    have o3 : c261_everyRank.toInt = (3 : Int) := o3
    have hdz_kw : ((dz_kw 1 : Nat) : Int) = (1 : Int) := rfl
    refine dz_Tw (t132_X4_setSwaps_g2 fu hfu c261_groups c261_everyRank a262 a264 v1 c261_swapsAPot a265 (by first | assumption | omega) (by first | assumption | omega) (by first | assumption | omega) (by first | assumption | omega) (by first | assumption | omega) (by first | assumption | omega) (by first | exact hr_a262 | exact dz_rgm hr_a262 (by omega) (by omega) | exact dz_pmr hr_a262 (by decide) (by omega) (by omega) (by omega) | exact dz_ptr hr_a262 (by decide) (by decide) (by omega) | exact dz_ptr hr_a262 (by decide) (by decide) (by show _ ≤ 1; omega) | exact dz_rgs hr_a262 (by omega)) (by first | exact hr_a264 | exact dz_rgm hr_a264 (by omega) (by omega) | exact dz_pmr hr_a264 (by decide) (by omega) (by omega) (by omega) | exact dz_ptr hr_a264 (by decide) (by decide) (by omega) | exact dz_ptr hr_a264 (by decide) (by decide) (by show _ ≤ 1; omega) | exact dz_rgs hr_a264 (by omega)) (by first | assumption | omega)) (fun r h => ?_)
    obtain ⟨g0, g1, g2, g3, g4, g5⟩ := h
    exact ⟨(by first | assumption | omega), (by first | assumption | omega), (by first | assumption | omega), (by first | assumption | omega), (by first | assumption | omega), (by first | assumption | omega)⟩
  · skip
    have o0 : dz_rv a265 1 2 v1.toInt 0 := o0
    have o1 : v1.toInt ≤ (2 : Int) - 1 := o1
    have o2 : c261_groups.toInt = (2 : Int) := o2
    have o3 : c261_everyRank.toInt = (3 : Int) := o3
    have hdz_kw : ((dz_kw 2 : Nat) : Int) = (1 : Int) := rfl
    refine dz_Tw (t132_X4_setSwaps_g2 fu hfu c261_groups c261_everyRank a262 a264 v1 c261_swapsAPot a265 (by first | assumption | omega) (by first | assumption | omega) (by first | assumption | omega) (by first | assumption | omega) (by first | assumption | omega) (by first | assumption | omega) (by first | exact hr_a262 | exact dz_rgm hr_a262 (by omega) (by omega) | exact dz_pmr hr_a262 (by decide) (by omega) (by omega) (by omega) | exact dz_ptr hr_a262 (by decide) (by decide) (by omega) | exact dz_ptr hr_a262 (by decide) (by decide) (by show _ ≤ 2; omega) | exact dz_rgs hr_a262 (by omega)) (by first | exact hr_a264 | exact dz_rgm hr_a264 (by omega) (by omega) | exact dz_pmr hr_a264 (by decide) (by omega) (by omega) (by omega) | exact dz_ptr hr_a264 (by decide) (by decide) (by omega) | exact dz_ptr hr_a264 (by decide) (by decide) (by show _ ≤ 2; omega) | exact dz_rgs hr_a264 (by omega)) (by first | assumption | omega)) (fun r h => ?_)
    obtain ⟨g0, g1, g2, g3, g4, g5⟩ := h
    exact ⟨(by first | assumption | omega), (by first | assumption | omega), (by first | assumption | omega), (by first | assumption | omega), (by first | assumption | omega), (by first | assumption | omega)⟩
  · skip
    have o0 : dz_rv a265 1 2 v1.toInt 0 := o0
    have o1 : v1.toInt ≤ (2 : Int) - 1 := o1
    have o2 : c261_groups.toInt = (2 : Int) := o2
    have o3 : c261_everyRank.toInt = (3 : Int) := o3
    have hdz_kw : ((dz_kw 3 : Nat) : Int) = (1 : Int) := rfl
    refine dz_Tw (t132_X4_setSwaps_g2 fu hfu c261_groups c261_everyRank a262 a264 v1 c261_swapsAPot a265 (by first | assumption | omega) (by first | assumption | omega) (by first | assumption | omega) (by first | assumption | omega) (by first | assumption | omega) (by first | assumption | omega) (by first | exact hr_a262 | exact dz_rgm hr_a262 (by omega) (by omega) | exact dz_pmr hr_a262 (by decide) (by omega) (by omega) (by omega) | exact dz_ptr hr_a262 (by decide) (by decide) (by omega) | exact dz_ptr hr_a262 (by decide) (by decide) (by show _ ≤ 3; omega) | exact dz_rgs hr_a262 (by omega)) (by first | exact hr_a264 | exact dz_rgm hr_a264 (by omega) (by omega) | exact dz_pmr hr_a264 (by decide) (by omega) (by omega) (by omega) | exact dz_ptr hr_a264 (by decide) (by decide) (by omega) | exact dz_ptr hr_a264 (by decide) (by decide) (by show _ ≤ 3; omega) | exact dz_rgs hr_a264 (by omega)) (by first | assumption | omega)) (fun r h => ?_)
    obtain ⟨g0, g1, g2, g3, g4, g5⟩ := h
    exact ⟨(by first | assumption | omega), (by first | assumption | omega), (by first | assumption | omega), (by first | assumption | omega), (by first | assumption | omega), (by first | assumption | omega)⟩
  · skip
    have o0 : dz_rv a265 1 2 v1.toInt 0 := o0
    have o1 : v1.toInt ≤ (2 : Int) - 1 := o1
    have o2 : c261_groups.toInt = (2 : Int) := o2
    have o3 : c261_everyRank.toInt = (3 : Int) := o3
    have hdz_kw : ((dz_kw 4 : Nat) : Int) = (1 : Int) := rfl
    refine dz_Tw (t132_X4_setSwaps_g2 fu hfu c261_groups c261_everyRank a262 a264 v1 c261_swapsAPot a265 (by first | assumption | omega) (by first | assumption | omega) (by first | assumption | omega) (by first | assumption | omega) (by first | assumption | omega) (by first | assumption | omega) (by first | exact hr_a262 | exact dz_rgm hr_a262 (by omega) (by omega) | exact dz_pmr hr_a262 (by decide) (by omega) (by omega) (by omega) | exact dz_ptr hr_a262 (by decide) (by decide) (by omega) | exact dz_ptr hr_a262 (by decide) (by decide) (by show _ ≤ 4; omega) | exact dz_rgs hr_a262 (by omega)) (by first | exact hr_a264 | exact dz_rgm hr_a264 (by omega) (by omega) | exact dz_pmr hr_a264 (by decide) (by omega) (by omega) (by omega) | exact dz_ptr hr_a264 (by decide) (by decide) (by omega) | exact dz_ptr hr_a264 (by decide) (by decide) (by show _ ≤ 4; omega) | exact dz_rgs hr_a264 (by omega)) (by first | assumption | omega)) (fun r h => ?_)
    obtain ⟨g0, g1, g2, g3, g4, g5⟩ := h
    exact ⟨(by first | assumption | omega), (by first | assumption | omega), (by first | assumption | omega), (by first | assumption | omega), (by first | assumption | omega), (by first | assumption | omega)⟩
  · skip
    have o0 : dz_rv a265 3 6 v1.toInt 0 := o0
    have o1 : v1.toInt ≤ (6 : Int) - 1 := o1
    have o2 : c261_groups.toInt = (3 : Int) := o2
    have o3 : c261_everyRank.toInt = (63 : Int) := o3
    have hdz_kw : ((dz_kw 5 : Nat) : Int) = (3 : Int) := rfl
    refine dz_Tw (t132_X4_setSwaps_g3 fu hfu c261_groups c261_everyRank a262 a264 v1 c261_swapsAPot a265 (by first | assumption | omega) (by first | assumption | omega) (by first | assumption | omega) (by first | assumption | omega) (by first | assumption | omega) (by first | assumption | omega) (by first | exact hr_a262 | exact dz_rgm hr_a262 (by omega) (by omega) | exact dz_pmr hr_a262 (by decide) (by omega) (by omega) (by omega) | exact dz_ptr hr_a262 (by decide) (by decide) (by omega) | exact dz_ptr hr_a262 (by decide) (by decide) (by show _ ≤ 0; omega) | exact dz_rgs hr_a262 (by omega)) (by first | exact hr_a264 | exact dz_rgm hr_a264 (by omega) (by omega) | exact dz_pmr hr_a264 (by decide) (by omega) (by omega) (by omega) | exact dz_ptr hr_a264 (by decide) (by decide) (by omega) | exact dz_ptr hr_a264 (by decide) (by decide) (by show _ ≤ 0; omega) | exact dz_rgs hr_a264 (by omega)) (by first | assumption | omega)) (fun r h => ?_)
    obtain ⟨g0, g1, g2, g3, g4, g5⟩ := h
    exact ⟨(by first | assumption | omega), (by first | assumption | omega), (by first | assumption | omega), (by first | assumption | omega), (by first | assumption | omega), (by first | assumption | omega)⟩
  · skip
    have o0 : dz_rv a265 3 6 v1.toInt 0 := o0
    have o1 : v1.toInt ≤ (6 : Int) - 1 := o1
    have o2 : c261_groups.toInt = (3 : Int) := o2
    have o3 : c261_everyRank.toInt = (63 : Int) := o3
    have hdz_kw : ((dz_kw 6 : Nat) : Int) = (3 : Int) := rfl
    refine dz_Tw (t132_X4_setSwaps_g3 fu hfu c261_groups c261_everyRank a262 a264 v1 c261_swapsAPot a265 (by first | assumption | omega) (by first | assumption | omega) (by first | assumption | omega) (by first | assumption | omega) (by first | assumption | omega) (by first | assumption | omega) (by first | exact hr_a262 | exact dz_rgm hr_a262 (by omega) (by omega) | exact dz_pmr hr_a262 (by decide) (by omega) (by omega) (by omega) | exact dz_ptr hr_a262 (by decide) (by decide) (by omega) | exact dz_ptr hr_a262 (by decide) (by decide) (by show _ ≤ 1; omega) | exact dz_rgs hr_a262 (by omega)) (by first | exact hr_a264 | exact dz_rgm hr_a264 (by omega) (by omega) | exact dz_pmr hr_a264 (by decide) (by omega) (by omega) (by omega) | exact dz_ptr hr_a264 (by decide) (by decide) (by omega) | exact dz_ptr hr_a264 (by decide) (by decide) (by show _ ≤ 1; omega) | exact dz_rgs hr_a264 (by omega)) (by first | assumption | omega)) (fun r h => ?_)
    obtain ⟨g0, g1, g2, g3, g4, g5⟩ := h
    exact ⟨(by first | assumption | omega), (by first | assumption | omega), (by first | assumption | omega), (by first | assumption | omega), (by first | assumption | omega), (by first | assumption | omega)⟩
  · skip
    have o0 : dz_rv a265 3 6 v1.toInt 0 := o0
    have o1 : v1.toInt ≤ (6 : Int) - 1 := o1
    have o2 : c261_groups.toInt = (3 : Int) := o2
    have o3 : c261_everyRank.toInt = (63 : Int) := o3
    have hdz_kw : ((dz_kw 7 : Nat) : Int) = (3 : Int) := rfl
    refine dz_Tw (t132_X4_setSwaps_g3 fu hfu c261_groups c261_everyRank a262 a264 v1 c261_swapsAPot a265 (by first | assumption | omega) (by first | assumption | omega) (by first | assumption | omega) (by first | assumption | omega) (by first | assumption | omega) (by first | assumption | omega) (by first | exact hr_a262 | exact dz_rgm hr_a262 (by omega) (by omega) | exact dz_pmr hr_a262 (by decide) (by omega) (by omega) (by omega) | exact dz_ptr hr_a262 (by decide) (by decide) (by omega) | exact dz_ptr hr_a262 (by decide) (by decide) (by show _ ≤ 2; omega) | exact dz_rgs hr_a262 (by omega)) (by first | exact hr_a264 | exact dz_rgm hr_a264 (by omega) (by omega) | exact dz_pmr hr_a264 (by decide) (by omega) (by omega) (by omega) | exact dz_ptr hr_a264 (by decide) (by decide) (by omega) | exact dz_ptr hr_a264 (by decide) (by decide) (by show _ ≤ 2; omega) | exact dz_rgs hr_a264 (by omega)) (by first | assumption | omega)) (fun r h => ?_)
    obtain ⟨g0, g1, g2, g3, g4, g5⟩ := h
    exact ⟨(by first | assumption | omega), (by first | assumption | omega), (by first | assumption | omega), (by first | assumption | omega), (by first | assumption | omega), (by first | assumption | omega)⟩
  · skip
    have o0 : dz_rv a265 3 6 v1.toInt 0 := o0
    have o1 : v1.toInt ≤ (6 : Int) - 1 := o1
    have o2 : c261_groups.toInt = (3 : Int) := o2
    have o3 : c261_everyRank.toInt = (63 : Int) := o3
    have hdz_kw : ((dz_kw 8 : Nat) : Int) = (3 : Int) := rfl
    refine dz_Tw (t132_X4_setSwaps_g3 fu hfu c261_groups c261_everyRank a262 a264 v1 c261_swapsAPot a265 (by first | assumption | omega) (by first | assumption | omega) (by first | assumption | omega) (by first | assumption | omega) (by first | assumption | omega) (by first | assumption | omega) (by first | exact hr_a262 | exact dz_rgm hr_a262 (by omega) (by omega) | exact dz_pmr hr_a262 (by decide) (by omega) (by omega) (by omega) | exact dz_ptr hr_a262 (by decide) (by decide) (by omega) | exact dz_ptr hr_a262 (by decide) (by decide) (by show _ ≤ 3; omega) | exact dz_rgs hr_a262 (by omega)) (by first | exact hr_a264 | exact dz_rgm hr_a264 (by omega) (by omega) | exact dz_pmr hr_a264 (by decide) (by omega) (by omega) (by omega) | exact dz_ptr hr_a264 (by decide) (by decide) (by omega) | exact dz_ptr hr_a264 (by decide) (by decide) (by show _ ≤ 3; omega) | exact dz_rgs hr_a264 (by omega)) (by first | assumption | omega)) (fun r h => ?_)
    obtain ⟨g0, g1, g2, g3, g4, g5⟩ := h
    exact ⟨(by first | assumption | omega), (by first | assumption | omega), (by first | assumption | omega), (by first | assumption | omega), (by first | assumption | omega), (by first | assumption | omega)⟩
  · skip
    have o0 : dz_rv a265 3 6 v1.toInt 0 := o0
    have o1 : v1.toInt ≤ (6 : Int) - 1 := o1
    have o2 : c261_groups.toInt = (3 : Int) := o2
    have o3 : c261_everyRank.toInt = (63 : Int) := o3
    have hdz_kw : ((dz_kw 9 : Nat) : Int) = (3 : Int) := rfl
    refine dz_Tw (t132_X4_setSwaps_g3 fu hfu c261_groups c261_everyRank a262 a264 v1 c261_swapsAPot a265 (by first | assumption | omega) (by first | assumption | omega) (by first | assumption | omega) (by first | assumption | omega) (by first | assumption | omega) (by first | assumption | omega) (by first | exact hr_a262 | exact dz_rgm hr_a262 (by omega) (by omega) | exact dz_pmr hr_a262 (by decide) (by omega) (by omega) (by omega) | exact dz_ptr hr_a262 (by decide) (by decide) (by omega) | exact dz_ptr hr_a262 (by decide) (by decide) (by show _ ≤ 4; omega) | exact dz_rgs hr_a262 (by omega)) (by first | exact hr_a264 | exact dz_rgm hr_a264 (by omega) (by omega) | exact dz_pmr hr_a264 (by decide) (by omega) (by omega) (by omega) | exact dz_ptr hr_a264 (by decide) (by decide) (by omega) | exact dz_ptr hr_a264 (by decide) (by decide) (by show _ ≤ 4; omega) | exact dz_rgs hr_a264 (by omega)) (by first | assumption | omega)) (fun r h => ?_)
    obtain ⟨g0, g1, g2, g3, g4, g5⟩ := h
    exact ⟨(by first | assumption | omega), (by first | assumption | omega), (by first | assumption | omega), (by first | assumption | omega), (by first | assumption | omega), (by first | assumption | omega)⟩
  · skip
    have o0 : dz_rv a265 6 24 v1.toInt 0 := o0
    have o1 : v1.toInt ≤ (24 : Int) - 1 := o1
    have o2 : c261_groups.toInt = (4 : Int) := o2
    have o3 : c261_everyRank.toInt = (16777215 : Int) := o3
    have hdz_kw : ((dz_kw 10 : Nat) : Int) = (6 : Int) := rfl
    refine dz_Tw (t132_X4_setSwaps_g4 fu hfu c261_groups c261_everyRank a262 a264 v1 c261_swapsAPot a265 (by first | assumption | omega) (by first | assumption | omega) (by first | assumption | omega) (by first | assumption | omega) (by first | assumption | omega) (by first | assumption | omega) (by first | exact hr_a262 | exact dz_rgm hr_a262 (by omega) (by omega) | exact dz_pmr hr_a262 (by decide) (by omega) (by omega) (by omega) | exact dz_ptr hr_a262 (by decide) (by decide) (by omega) | exact dz_ptr hr_a262 (by decide) (by decide) (by show _ ≤ 0; omega) | exact dz_rgs hr_a262 (by omega)) (by first | exact hr_a264 | exact dz_rgm hr_a264 (by omega) (by omega) | exact dz_pmr hr_a264 (by decide) (by omega) (by omega) (by omega) | exact dz_ptr hr_a264 (by decide) (by decide) (by omega) | exact dz_ptr hr_a264 (by decide) (by decide) (by show _ ≤ 0; omega) | exact dz_rgs hr_a264 (by omega)) (by first | assumption | omega)) (fun r h => ?_)
    obtain ⟨g0, g1, g2, g3, g4, g5⟩ := h
    exact ⟨(by first | assumption | omega), (by first | assumption | omega), (by first | assumption | omega), (by first | assumption | omega), (by first | assumption | omega), (by first | assumption | omega)⟩
  · skip
    have o0 : dz_rv a265 6 24 v1.toInt 0 := o0
    have o1 : v1.toInt ≤ (24 : Int) - 1 := o1
    have o2 : c261_groups.toInt = (4 : Int) := o2
    have o3 : c261_everyRank.toInt = (16777215 : Int) := o3
    have hdz_kw : ((dz_kw 11 : Nat) : Int) = (6 : Int) := rfl
    refine dz_Tw (t132_X4_setSwaps_g4 fu hfu c261_groups c261_everyRank a262 a264 v1 c261_swapsAPot a265 (by first | assumption | omega) (by first | assumption | omega) (by first | assumption | omega) (by first | assumption | omega) (by first | assumption | omega) (by first | assumption | omega) (by first | exact hr_a262 | exact dz_rgm hr_a262 (by omega) (by omega) | exact dz_pmr hr_a262 (by decide) (by omega) (by omega) (by omega) | exact dz_ptr hr_a262 (by decide) (by decide) (by omega) | exact dz_ptr hr_a262 (by decide) (by decide) (by show _ ≤ 1; omega) | exact dz_rgs hr_a262 (by omega)) (by first | exact hr_a264 | exact dz_rgm hr_a264 (by omega) (by omega) | exact dz_pmr hr_a264 (by decide) (by omega) (by omega) (by omega) | exact dz_ptr hr_a264 (by decide) (by decide) (by omega) | exact dz_ptr hr_a264 (by decide) (by decide) (by show _ ≤ 1; omega) | exact dz_rgs hr_a264 (by omega)) (by first | assumption | omega)) (fun r h => ?_)
    obtain ⟨g0, g1, g2, g3, g4, g5⟩ := h
    exact ⟨(by first | assumption | omega), (by first | assumption | omega), (by first | assumption | omega), (by first | assumption | omega), (by first | assumption | omega), (by first | assumption | omega)⟩
  · skip
    have o0 : dz_rv a265 6 24 v1.toInt 0 := o0
    have o1 : v1.toInt ≤ (24 : Int) - 1 := o1
    have o2 : c261_groups.toInt = (4 : Int) := o2
    have o3 : c261_everyRank.toInt = (16777215 : Int) := o3
    have hdz_kw : ((dz_kw 12 : Nat) : Int) = (6 : Int) := rfl
    refine dz_Tw (t132_X4_setSwaps_g4 fu hfu c261_groups c261_everyRank a262 a264 v1 c261_swapsAPot a265 (by first | assumption | omega) (by first | assumption | omega) (by first | assumption | omega) (by first | assumption | omega) (by first | assumption | omega) (by first | assumption | omega) (by first | exact hr_a262 | exact dz_rgm hr_a262 (by omega) (by omega) | exact dz_pmr hr_a262 (by decide) (by omega) (by omega) (by omega) | exact dz_ptr hr_a262 (by decide) (by decide) (by omega) | exact dz_ptr hr_a262 (by decide) (by decide) (by show _ ≤ 2; omega) | exact dz_rgs hr_a262 (by omega)) (by first | exact hr_a264 | exact dz_rgm hr_a264 (by omega) (by omega) | exact dz_pmr hr_a264 (by decide) (by omega) (by omega) (by omega) | exact dz_ptr hr_a264 (by decide) (by decide) (by omega) | exact dz_ptr hr_a264 (by decide) (by decide) (by show _ ≤ 2; omega) | exact dz_rgs hr_a264 (by omega)) (by first | assumption | omega)) (fun r h => ?_)
    obtain ⟨g0, g1, g2, g3, g4, g5⟩ := h
    exact ⟨(by first | assumption | omega), (by first | assumption | omega), (by first | assumption | omega), (by first | assumption | omega), (by first | assumption | omega), (by first | assumption | omega)⟩
  · skip
    have o0 : dz_rv a265 6 24 v1.toInt 0 := o0
    have o1 : v1.toInt ≤ (24 : Int) - 1 := o1
    have o2 : c261_groups.toInt = (4 : Int) := o2
    have o3 : c261_everyRank.toInt = (16777215 : Int) := o3
    have hdz_kw : ((dz_kw 13 : Nat) : Int) = (6 : Int) := rfl
    refine dz_Tw (t132_X4_setSwaps_g4 fu hfu c261_groups c261_everyRank a262 a264 v1 c261_swapsAPot a265 (by first | assumption | omega) (by first | assumption | omega) (by first | assumption | omega) (by first | assumption | omega) (by first | assumption | omega) (by first | assumption | omega) (by first | exact hr_a262 | exact dz_rgm hr_a262 (by omega) (by omega) | exact dz_pmr hr_a262 (by decide) (by omega) (by omega) (by omega) | exact dz_ptr hr_a262 (by decide) (by decide) (by omega) | exact dz_ptr hr_a262 (by decide) (by decide) (by show _ ≤ 3; omega) | exact dz_rgs hr_a262 (by omega)) (by first | exact hr_a264 | exact dz_rgm hr_a264 (by omega) (by omega) | exact dz_pmr hr_a264 (by decide) (by omega) (by omega) (by omega) | exact dz_ptr hr_a264 (by decide) (by decide) (by omega) | exact dz_ptr hr_a264 (by decide) (by decide) (by show _ ≤ 3; omega) | exact dz_rgs hr_a264 (by omega)) (by first | assumption | omega)) (fun r h => ?_)
    obtain ⟨g0, g1, g2, g3, g4, g5⟩ := h
    exact ⟨(by first | assumption | omega), (by first | assumption | omega), (by first | assumption | omega), (by first | assumption | omega), (by first | assumption | omega), (by first | assumption | omega)⟩
set_option maxHeartbeats 1000000 in
set_option maxRecDepth 10000 in
theorem t134_J7_rangeCheck_23922 (fu : Nat) (hfu : 1000000000000 ≤ fu) (v0 : Int32) (v1 : Int32) (v2 : Int32) (p0 : 0 ≤ v1.toInt) (p1 : v1.toInt ≤ v2.toInt) (p2 : v2.toInt ≤ v0.toInt) : dz_T (f134_J7_rangeCheck_23922 fu v0 v1 v2) (fun r => True) := by
  unfold f134_J7_rangeCheck_23922 s134_J7_rangeCheck_23922_0
  refine dz_Tg (Int32.le_iff_toInt_le.mpr (by omega)) ?_
  have e1 := dz_l0
  refine dz_Tg (Int32.le_iff_toInt_le.mpr (by omega)) ?_
  refine dz_Tg (Int32.le_iff_toInt_le.mpr (by omega)) ?_
  exact dz_Ts trivial
abbrev p136_X2_listLawful_g20 (fu : Nat) (c267_total : Int32) (a269 : Nat → Int32) (n269 : Nat) (n270 : Nat) (k : Nat) : Prop :=
  (∀ (v1 : Int32) (c267_lawfulOnes : Int32) (a270 : Nat → Int32), v1.toInt ≤ 1 → 0 ≤ v1.toInt → c267_lawfulOnes.toInt ≤ 1 → 0 ≤ c267_lawfulOnes.toInt → c267_lawfulOnes.toInt ≤ v1.toInt → dz_rg a270 c267_lawfulOnes.toInt.toNat 0 0 → 0 + 0 + (1 - v1.toInt) * 12 + 6 ≤ ((k : Nat) : Int) → dz_T ((F136_X2_listLawful fu c267_total a269 n269 n270 k).1 v1 c267_lawfulOnes a270) (fun r => r.1.toInt ≤ 1 ∧ 0 ≤ r.1.toInt ∧ dz_rg r.2 r.1.toInt.toNat 0 0))
set_option maxHeartbeats 1000000 in
set_option maxRecDepth 10000 in
theorem t136_X2_listLawful_h1_g20 (fu : Nat) (hfu : 1000000000000 ≤ fu) (c267_total : Int32) (a269 : Nat → Int32) (n269 : Nat) (n270 : Nat) (p0 : c267_total.toInt ≤ 1) (p1 : 1 ≤ c267_total.toInt) (p2 : ((n269 : Nat) : Int) ≤ 13824) (p3 : 1 ≤ ((n269 : Nat) : Int)) (p4 : ((n270 : Nat) : Int) ≤ 13824) (p5 : 1 ≤ ((n270 : Nat) : Int)) (p6 : c267_total.toInt ≤ ((n269 : Nat) : Int)) (p7 : c267_total.toInt ≤ ((n270 : Nat) : Int)) (p8 : ((n269 : Nat) : Int) ≤ ((n270 : Nat) : Int)) (p9 : ((n270 : Nat) : Int) ≤ ((n269 : Nat) : Int)) (hr_a269 : dz_rg a269 n269 0 1023) (k : Nat) (ih : ∀ j9, j9 < k → p136_X2_listLawful_g20 fu c267_total a269 n269 n270 j9) : ∀ (v1 : Int32) (c267_lawfulOnes : Int32) (a270 : Nat → Int32), v1.toInt ≤ 1 → 0 ≤ v1.toInt → c267_lawfulOnes.toInt ≤ 1 → 0 ≤ c267_lawfulOnes.toInt → c267_lawfulOnes.toInt ≤ v1.toInt → dz_rg a270 c267_lawfulOnes.toInt.toNat 0 0 → 0 + 0 + (1 - v1.toInt) * 12 + 6 ≤ ((k : Nat) : Int) → dz_T ((F136_X2_listLawful fu c267_total a269 n269 n270 k).1 v1 c267_lawfulOnes a270) (fun r => r.1.toInt ≤ 1 ∧ 0 ≤ r.1.toInt ∧ dz_rg r.2 r.1.toInt.toNat 0 0) := by
  intro v1 c267_lawfulOnes a270 i0 i1 i2 i3 i4 hr_a270 hm
  obtain ⟨k0, rfl⟩ : ∃ x, k = x + 1 := ⟨k - 1, by omega⟩
  show dz_T (s136_X2_listLawful_1 fu c267_total a269 n269 n270 (F136_X2_listLawful fu c267_total a269 n269 n270 k0).2  v1 c267_lawfulOnes a270) _
  unfold s136_X2_listLawful_1
  refine dz_Tle (fun h1 => ?_) (fun h1 => ?_)
  · skip
    refine dz_Ts ?_
    dsimp only
    exact ⟨i2, i3, (dz_rgs (hr_a270) (by omega))⟩
  · skip
    refine dz_Tin (by omega) (by omega) ?_
    have e2 := dz_rgat (hr_a269) (i := v1) (by omega) (by omega)
    have e3 := dz_l0
    refine dz_Teq (fun h4 => ?_) (fun h4 => ?_)
    · skip
      refine dz_Tin (by omega) (by omega) ?_
      obtain ⟨k1, rfl⟩ : ∃ x, k0 = x + 1 := ⟨k0 - 1, by omega⟩
      show dz_T (s136_X2_listLawful_2 fu c267_total a269 n269 n270 (F136_X2_listLawful fu c267_total a269 n269 n270 k1).1 v1 (c267_lawfulOnes + (1 : Int32)) (upd a270 c267_lawfulOnes.toNatClampNeg v1)) _
      unfold s136_X2_listLawful_2
      have e5 := dz_l1
      have e6 := dz_add (a := v1) (b := (1 : Int32)) (by omega) (by omega)
      have e7 := dz_add (a := c267_lawfulOnes) (b := (1 : Int32)) (by omega) (by omega)
      exact (ih k1 (by omega)) (v1 + (1 : Int32)) (c267_lawfulOnes + (1 : Int32)) (upd a270 c267_lawfulOnes.toNatClampNeg v1) (by omega) (by omega) (by omega) (by omega) (by omega) (dz_rgx (hr_a270) (k2 := (c267_lawfulOnes + (1 : Int32))) (by omega) (by omega) (by omega) (by omega)) (by omega)
    · skip
      obtain ⟨k2, rfl⟩ : ∃ x, k0 = x + 1 := ⟨k0 - 1, by omega⟩
      show dz_T (s136_X2_listLawful_2 fu c267_total a269 n269 n270 (F136_X2_listLawful fu c267_total a269 n269 n270 k2).1 v1 c267_lawfulOnes a270) _
      unfold s136_X2_listLawful_2
      have e8 := dz_l1
      have e9 := dz_add (a := v1) (b := (1 : Int32)) (by omega) (by omega)
      exact (ih k2 (by omega)) (v1 + (1 : Int32)) c267_lawfulOnes a270 (by omega) (by omega) i2 i3 (by omega) (dz_rgs (hr_a270) (by omega)) (by omega)
theorem t136_X2_listLawful_I_g20 (fu : Nat) (hfu : 1000000000000 ≤ fu) (c267_total : Int32) (a269 : Nat → Int32) (n269 : Nat) (n270 : Nat) (p0 : c267_total.toInt ≤ 1) (p1 : 1 ≤ c267_total.toInt) (p2 : ((n269 : Nat) : Int) ≤ 13824) (p3 : 1 ≤ ((n269 : Nat) : Int)) (p4 : ((n270 : Nat) : Int) ≤ 13824) (p5 : 1 ≤ ((n270 : Nat) : Int)) (p6 : c267_total.toInt ≤ ((n269 : Nat) : Int)) (p7 : c267_total.toInt ≤ ((n270 : Nat) : Int)) (p8 : ((n269 : Nat) : Int) ≤ ((n270 : Nat) : Int)) (p9 : ((n270 : Nat) : Int) ≤ ((n269 : Nat) : Int)) (hr_a269 : dz_rg a269 n269 0 1023) (k : Nat) : p136_X2_listLawful_g20 fu c267_total a269 n269 n270 k := by
  induction k using Nat.strongRecOn with
  | _ k ih => exact t136_X2_listLawful_h1_g20 fu hfu c267_total a269 n269 n270 p0 p1 p2 p3 p4 p5 p6 p7 p8 p9 hr_a269 k ih
set_option maxHeartbeats 1000000 in
set_option maxRecDepth 10000 in
theorem t136_X2_listLawful_E_g20 (fu : Nat) (hfu : 1000000000000 ≤ fu) (c267_total : Int32) (a269 : Nat → Int32) (n269 : Nat) (n270 : Nat) (c267_lawfulOnes : Int32) (a270 : Nat → Int32) (p0 : c267_total.toInt ≤ 1) (p1 : 1 ≤ c267_total.toInt) (p2 : ((n269 : Nat) : Int) ≤ 13824) (p3 : 1 ≤ ((n269 : Nat) : Int)) (p4 : ((n270 : Nat) : Int) ≤ 13824) (p5 : 1 ≤ ((n270 : Nat) : Int)) (p6 : c267_total.toInt ≤ ((n269 : Nat) : Int)) (p7 : c267_total.toInt ≤ ((n270 : Nat) : Int)) (p8 : ((n269 : Nat) : Int) ≤ ((n270 : Nat) : Int)) (p9 : ((n270 : Nat) : Int) ≤ ((n269 : Nat) : Int)) (hr_a269 : dz_rg a269 n269 0 1023) (kv : Nat) (hkv : 1000000000000 ≤ kv) : dz_T (s136_X2_listLawful_0 fu c267_total a269 n269 n270 (F136_X2_listLawful fu c267_total a269 n269 n270 kv).1  c267_lawfulOnes a270) (fun r => r.1.toInt ≤ 1 ∧ 0 ≤ r.1.toInt ∧ dz_rg r.2 r.1.toInt.toNat 0 0) := by
  unfold s136_X2_listLawful_0
  have e1 := dz_l0
  exact (t136_X2_listLawful_I_g20 fu hfu c267_total a269 n269 n270 p0 p1 p2 p3 p4 p5 p6 p7 p8 p9 hr_a269 kv) (0 : Int32) (0 : Int32) a270 (by omega) (by omega) (by omega) (by omega) (by omega) (dz_rgz (by omega)) (by omega)
theorem t136_X2_listLawful_g20 (fu : Nat) (hfu : 1000000000000 ≤ fu) (c267_total : Int32) (a269 : Nat → Int32) (n269 : Nat) (n270 : Nat) (c267_lawfulOnes : Int32) (a270 : Nat → Int32) (p0 : c267_total.toInt ≤ 1) (p1 : 1 ≤ c267_total.toInt) (p2 : ((n269 : Nat) : Int) ≤ 13824) (p3 : 1 ≤ ((n269 : Nat) : Int)) (p4 : ((n270 : Nat) : Int) ≤ 13824) (p5 : 1 ≤ ((n270 : Nat) : Int)) (p6 : c267_total.toInt ≤ ((n269 : Nat) : Int)) (p7 : c267_total.toInt ≤ ((n270 : Nat) : Int)) (p8 : ((n269 : Nat) : Int) ≤ ((n270 : Nat) : Int)) (p9 : ((n270 : Nat) : Int) ≤ ((n269 : Nat) : Int)) (hr_a269 : dz_rg a269 n269 0 1023) : dz_T (f136_X2_listLawful fu c267_total a269 n269 n270 c267_lawfulOnes a270) (fun r => r.1.toInt ≤ 1 ∧ 0 ≤ r.1.toInt ∧ dz_rg r.2 r.1.toInt.toNat 0 0) :=
  t136_X2_listLawful_E_g20 fu hfu c267_total a269 n269 n270 c267_lawfulOnes a270 p0 p1 p2 p3 p4 p5 p6 p7 p8 p9 hr_a269 fu hfu
abbrev p136_X2_listLawful_g21 (fu : Nat) (c267_total : Int32) (a269 : Nat → Int32) (n269 : Nat) (n270 : Nat) (k : Nat) : Prop :=
  (∀ (v1 : Int32) (c267_lawfulOnes : Int32) (a270 : Nat → Int32), v1.toInt ≤ 2 → 0 ≤ v1.toInt → c267_lawfulOnes.toInt ≤ 2 → 0 ≤ c267_lawfulOnes.toInt → c267_lawfulOnes.toInt ≤ v1.toInt → dz_rg a270 c267_lawfulOnes.toInt.toNat 0 1 → 0 + 0 + (2 - v1.toInt) * 12 + 6 ≤ ((k : Nat) : Int) → dz_T ((F136_X2_listLawful fu c267_total a269 n269 n270 k).1 v1 c267_lawfulOnes a270) (fun r => r.1.toInt ≤ 2 ∧ 0 ≤ r.1.toInt ∧ dz_rg r.2 r.1.toInt.toNat 0 1))
set_option maxHeartbeats 1000000 in
set_option maxRecDepth 10000 in
theorem t136_X2_listLawful_h1_g21 (fu : Nat) (hfu : 1000000000000 ≤ fu) (c267_total : Int32) (a269 : Nat → Int32) (n269 : Nat) (n270 : Nat) (p0 : c267_total.toInt ≤ 2) (p1 : 2 ≤ c267_total.toInt) (p2 : ((n269 : Nat) : Int) ≤ 13824) (p3 : 1 ≤ ((n269 : Nat) : Int)) (p4 : ((n270 : Nat) : Int) ≤ 13824) (p5 : 1 ≤ ((n270 : Nat) : Int)) (p6 : c267_total.toInt ≤ ((n269 : Nat) : Int)) (p7 : c267_total.toInt ≤ ((n270 : Nat) : Int)) (p8 : ((n269 : Nat) : Int) ≤ ((n270 : Nat) : Int)) (p9 : ((n270 : Nat) : Int) ≤ ((n269 : Nat) : Int)) (hr_a269 : dz_rg a269 n269 0 1023) (k : Nat) (ih : ∀ j9, j9 < k → p136_X2_listLawful_g21 fu c267_total a269 n269 n270 j9) : ∀ (v1 : Int32) (c267_lawfulOnes : Int32) (a270 : Nat → Int32), v1.toInt ≤ 2 → 0 ≤ v1.toInt → c267_lawfulOnes.toInt ≤ 2 → 0 ≤ c267_lawfulOnes.toInt → c267_lawfulOnes.toInt ≤ v1.toInt → dz_rg a270 c267_lawfulOnes.toInt.toNat 0 1 → 0 + 0 + (2 - v1.toInt) * 12 + 6 ≤ ((k : Nat) : Int) → dz_T ((F136_X2_listLawful fu c267_total a269 n269 n270 k).1 v1 c267_lawfulOnes a270) (fun r => r.1.toInt ≤ 2 ∧ 0 ≤ r.1.toInt ∧ dz_rg r.2 r.1.toInt.toNat 0 1) := by
  intro v1 c267_lawfulOnes a270 i0 i1 i2 i3 i4 hr_a270 hm
  obtain ⟨k0, rfl⟩ : ∃ x, k = x + 1 := ⟨k - 1, by omega⟩
  show dz_T (s136_X2_listLawful_1 fu c267_total a269 n269 n270 (F136_X2_listLawful fu c267_total a269 n269 n270 k0).2  v1 c267_lawfulOnes a270) _
  unfold s136_X2_listLawful_1
  refine dz_Tle (fun h1 => ?_) (fun h1 => ?_)
  · skip
    refine dz_Ts ?_
    dsimp only
    exact ⟨i2, i3, (dz_rgs (hr_a270) (by omega))⟩
  · skip
    refine dz_Tin (by omega) (by omega) ?_
    have e2 := dz_rgat (hr_a269) (i := v1) (by omega) (by omega)
    have e3 := dz_l0
    refine dz_Teq (fun h4 => ?_) (fun h4 => ?_)
    · skip
      refine dz_Tin (by omega) (by omega) ?_
      obtain ⟨k1, rfl⟩ : ∃ x, k0 = x + 1 := ⟨k0 - 1, by omega⟩
      show dz_T (s136_X2_listLawful_2 fu c267_total a269 n269 n270 (F136_X2_listLawful fu c267_total a269 n269 n270 k1).1 v1 (c267_lawfulOnes + (1 : Int32)) (upd a270 c267_lawfulOnes.toNatClampNeg v1)) _
      unfold s136_X2_listLawful_2
      have e5 := dz_l1
      have e6 := dz_add (a := v1) (b := (1 : Int32)) (by omega) (by omega)
      have e7 := dz_add (a := c267_lawfulOnes) (b := (1 : Int32)) (by omega) (by omega)
      exact (ih k1 (by omega)) (v1 + (1 : Int32)) (c267_lawfulOnes + (1 : Int32)) (upd a270 c267_lawfulOnes.toNatClampNeg v1) (by omega) (by omega) (by omega) (by omega) (by omega) (dz_rgx (hr_a270) (k2 := (c267_lawfulOnes + (1 : Int32))) (by omega) (by omega) (by omega) (by omega)) (by omega)
    · skip
      obtain ⟨k2, rfl⟩ : ∃ x, k0 = x + 1 := ⟨k0 - 1, by omega⟩
      show dz_T (s136_X2_listLawful_2 fu c267_total a269 n269 n270 (F136_X2_listLawful fu c267_total a269 n269 n270 k2).1 v1 c267_lawfulOnes a270) _
      unfold s136_X2_listLawful_2
      have e8 := dz_l1
      have e9 := dz_add (a := v1) (b := (1 : Int32)) (by omega) (by omega)
      exact (ih k2 (by omega)) (v1 + (1 : Int32)) c267_lawfulOnes a270 (by omega) (by omega) i2 i3 (by omega) (dz_rgs (hr_a270) (by omega)) (by omega)
theorem t136_X2_listLawful_I_g21 (fu : Nat) (hfu : 1000000000000 ≤ fu) (c267_total : Int32) (a269 : Nat → Int32) (n269 : Nat) (n270 : Nat) (p0 : c267_total.toInt ≤ 2) (p1 : 2 ≤ c267_total.toInt) (p2 : ((n269 : Nat) : Int) ≤ 13824) (p3 : 1 ≤ ((n269 : Nat) : Int)) (p4 : ((n270 : Nat) : Int) ≤ 13824) (p5 : 1 ≤ ((n270 : Nat) : Int)) (p6 : c267_total.toInt ≤ ((n269 : Nat) : Int)) (p7 : c267_total.toInt ≤ ((n270 : Nat) : Int)) (p8 : ((n269 : Nat) : Int) ≤ ((n270 : Nat) : Int)) (p9 : ((n270 : Nat) : Int) ≤ ((n269 : Nat) : Int)) (hr_a269 : dz_rg a269 n269 0 1023) (k : Nat) : p136_X2_listLawful_g21 fu c267_total a269 n269 n270 k := by
  induction k using Nat.strongRecOn with
  | _ k ih => exact t136_X2_listLawful_h1_g21 fu hfu c267_total a269 n269 n270 p0 p1 p2 p3 p4 p5 p6 p7 p8 p9 hr_a269 k ih
set_option maxHeartbeats 1000000 in
set_option maxRecDepth 10000 in
theorem t136_X2_listLawful_E_g21 (fu : Nat) (hfu : 1000000000000 ≤ fu) (c267_total : Int32) (a269 : Nat → Int32) (n269 : Nat) (n270 : Nat) (c267_lawfulOnes : Int32) (a270 : Nat → Int32) (p0 : c267_total.toInt ≤ 2) (p1 : 2 ≤ c267_total.toInt) (p2 : ((n269 : Nat) : Int) ≤ 13824) (p3 : 1 ≤ ((n269 : Nat) : Int)) (p4 : ((n270 : Nat) : Int) ≤ 13824) (p5 : 1 ≤ ((n270 : Nat) : Int)) (p6 : c267_total.toInt ≤ ((n269 : Nat) : Int)) (p7 : c267_total.toInt ≤ ((n270 : Nat) : Int)) (p8 : ((n269 : Nat) : Int) ≤ ((n270 : Nat) : Int)) (p9 : ((n270 : Nat) : Int) ≤ ((n269 : Nat) : Int)) (hr_a269 : dz_rg a269 n269 0 1023) (kv : Nat) (hkv : 1000000000000 ≤ kv) : dz_T (s136_X2_listLawful_0 fu c267_total a269 n269 n270 (F136_X2_listLawful fu c267_total a269 n269 n270 kv).1  c267_lawfulOnes a270) (fun r => r.1.toInt ≤ 2 ∧ 0 ≤ r.1.toInt ∧ dz_rg r.2 r.1.toInt.toNat 0 1) := by
  unfold s136_X2_listLawful_0
  have e1 := dz_l0
  exact (t136_X2_listLawful_I_g21 fu hfu c267_total a269 n269 n270 p0 p1 p2 p3 p4 p5 p6 p7 p8 p9 hr_a269 kv) (0 : Int32) (0 : Int32) a270 (by omega) (by omega) (by omega) (by omega) (by omega) (dz_rgz (by omega)) (by omega)
theorem t136_X2_listLawful_g21 (fu : Nat) (hfu : 1000000000000 ≤ fu) (c267_total : Int32) (a269 : Nat → Int32) (n269 : Nat) (n270 : Nat) (c267_lawfulOnes : Int32) (a270 : Nat → Int32) (p0 : c267_total.toInt ≤ 2) (p1 : 2 ≤ c267_total.toInt) (p2 : ((n269 : Nat) : Int) ≤ 13824) (p3 : 1 ≤ ((n269 : Nat) : Int)) (p4 : ((n270 : Nat) : Int) ≤ 13824) (p5 : 1 ≤ ((n270 : Nat) : Int)) (p6 : c267_total.toInt ≤ ((n269 : Nat) : Int)) (p7 : c267_total.toInt ≤ ((n270 : Nat) : Int)) (p8 : ((n269 : Nat) : Int) ≤ ((n270 : Nat) : Int)) (p9 : ((n270 : Nat) : Int) ≤ ((n269 : Nat) : Int)) (hr_a269 : dz_rg a269 n269 0 1023) : dz_T (f136_X2_listLawful fu c267_total a269 n269 n270 c267_lawfulOnes a270) (fun r => r.1.toInt ≤ 2 ∧ 0 ≤ r.1.toInt ∧ dz_rg r.2 r.1.toInt.toNat 0 1) :=
  t136_X2_listLawful_E_g21 fu hfu c267_total a269 n269 n270 c267_lawfulOnes a270 p0 p1 p2 p3 p4 p5 p6 p7 p8 p9 hr_a269 fu hfu
abbrev p136_X2_listLawful_g22 (fu : Nat) (c267_total : Int32) (a269 : Nat → Int32) (n269 : Nat) (n270 : Nat) (k : Nat) : Prop :=
  (∀ (v1 : Int32) (c267_lawfulOnes : Int32) (a270 : Nat → Int32), v1.toInt ≤ 4 → 0 ≤ v1.toInt → c267_lawfulOnes.toInt ≤ 4 → 0 ≤ c267_lawfulOnes.toInt → c267_lawfulOnes.toInt ≤ v1.toInt → dz_rg a270 c267_lawfulOnes.toInt.toNat 0 3 → 0 + 0 + (4 - v1.toInt) * 12 + 6 ≤ ((k : Nat) : Int) → dz_T ((F136_X2_listLawful fu c267_total a269 n269 n270 k).1 v1 c267_lawfulOnes a270) (fun r => r.1.toInt ≤ 4 ∧ 0 ≤ r.1.toInt ∧ dz_rg r.2 r.1.toInt.toNat 0 3))
set_option maxHeartbeats 1000000 in
set_option maxRecDepth 10000 in
theorem t136_X2_listLawful_h1_g22 (fu : Nat) (hfu : 1000000000000 ≤ fu) (c267_total : Int32) (a269 : Nat → Int32) (n269 : Nat) (n270 : Nat) (p0 : c267_total.toInt ≤ 4) (p1 : 4 ≤ c267_total.toInt) (p2 : ((n269 : Nat) : Int) ≤ 13824) (p3 : 1 ≤ ((n269 : Nat) : Int)) (p4 : ((n270 : Nat) : Int) ≤ 13824) (p5 : 1 ≤ ((n270 : Nat) : Int)) (p6 : c267_total.toInt ≤ ((n269 : Nat) : Int)) (p7 : c267_total.toInt ≤ ((n270 : Nat) : Int)) (p8 : ((n269 : Nat) : Int) ≤ ((n270 : Nat) : Int)) (p9 : ((n270 : Nat) : Int) ≤ ((n269 : Nat) : Int)) (hr_a269 : dz_rg a269 n269 0 1023) (k : Nat) (ih : ∀ j9, j9 < k → p136_X2_listLawful_g22 fu c267_total a269 n269 n270 j9) : ∀ (v1 : Int32) (c267_lawfulOnes : Int32) (a270 : Nat → Int32), v1.toInt ≤ 4 → 0 ≤ v1.toInt → c267_lawfulOnes.toInt ≤ 4 → 0 ≤ c267_lawfulOnes.toInt → c267_lawfulOnes.toInt ≤ v1.toInt → dz_rg a270 c267_lawfulOnes.toInt.toNat 0 3 → 0 + 0 + (4 - v1.toInt) * 12 + 6 ≤ ((k : Nat) : Int) → dz_T ((F136_X2_listLawful fu c267_total a269 n269 n270 k).1 v1 c267_lawfulOnes a270) (fun r => r.1.toInt ≤ 4 ∧ 0 ≤ r.1.toInt ∧ dz_rg r.2 r.1.toInt.toNat 0 3) := by
  intro v1 c267_lawfulOnes a270 i0 i1 i2 i3 i4 hr_a270 hm
  obtain ⟨k0, rfl⟩ : ∃ x, k = x + 1 := ⟨k - 1, by omega⟩
  show dz_T (s136_X2_listLawful_1 fu c267_total a269 n269 n270 (F136_X2_listLawful fu c267_total a269 n269 n270 k0).2  v1 c267_lawfulOnes a270) _
  unfold s136_X2_listLawful_1
  refine dz_Tle (fun h1 => ?_) (fun h1 => ?_)
  · skip
    refine dz_Ts ?_
    dsimp only
    exact ⟨i2, i3, (dz_rgs (hr_a270) (by omega))⟩
  · skip
    refine dz_Tin (by omega) (by omega) ?_
    have e2 := dz_rgat (hr_a269) (i := v1) (by omega) (by omega)
    have e3 := dz_l0
    refine dz_Teq (fun h4 => ?_) (fun h4 => ?_)
    · skip
      refine dz_Tin (by omega) (by omega) ?_
      obtain ⟨k1, rfl⟩ : ∃ x, k0 = x + 1 := ⟨k0 - 1, by omega⟩
      show dz_T (s136_X2_listLawful_2 fu c267_total a269 n269 n270 (F136_X2_listLawful fu c267_total a269 n269 n270 k1).1 v1 (c267_lawfulOnes + (1 : Int32)) (upd a270 c267_lawfulOnes.toNatClampNeg v1)) _
      unfold s136_X2_listLawful_2
      have e5 := dz_l1
      have e6 := dz_add (a := v1) (b := (1 : Int32)) (by omega) (by omega)
      have e7 := dz_add (a := c267_lawfulOnes) (b := (1 : Int32)) (by omega) (by omega)
      exact (ih k1 (by omega)) (v1 + (1 : Int32)) (c267_lawfulOnes + (1 : Int32)) (upd a270 c267_lawfulOnes.toNatClampNeg v1) (by omega) (by omega) (by omega) (by omega) (by omega) (dz_rgx (hr_a270) (k2 := (c267_lawfulOnes + (1 : Int32))) (by omega) (by omega) (by omega) (by omega)) (by omega)
    · skip
      obtain ⟨k2, rfl⟩ : ∃ x, k0 = x + 1 := ⟨k0 - 1, by omega⟩
      show dz_T (s136_X2_listLawful_2 fu c267_total a269 n269 n270 (F136_X2_listLawful fu c267_total a269 n269 n270 k2).1 v1 c267_lawfulOnes a270) _
      unfold s136_X2_listLawful_2
      have e8 := dz_l1
      have e9 := dz_add (a := v1) (b := (1 : Int32)) (by omega) (by omega)
      exact (ih k2 (by omega)) (v1 + (1 : Int32)) c267_lawfulOnes a270 (by omega) (by omega) i2 i3 (by omega) (dz_rgs (hr_a270) (by omega)) (by omega)
theorem t136_X2_listLawful_I_g22 (fu : Nat) (hfu : 1000000000000 ≤ fu) (c267_total : Int32) (a269 : Nat → Int32) (n269 : Nat) (n270 : Nat) (p0 : c267_total.toInt ≤ 4) (p1 : 4 ≤ c267_total.toInt) (p2 : ((n269 : Nat) : Int) ≤ 13824) (p3 : 1 ≤ ((n269 : Nat) : Int)) (p4 : ((n270 : Nat) : Int) ≤ 13824) (p5 : 1 ≤ ((n270 : Nat) : Int)) (p6 : c267_total.toInt ≤ ((n269 : Nat) : Int)) (p7 : c267_total.toInt ≤ ((n270 : Nat) : Int)) (p8 : ((n269 : Nat) : Int) ≤ ((n270 : Nat) : Int)) (p9 : ((n270 : Nat) : Int) ≤ ((n269 : Nat) : Int)) (hr_a269 : dz_rg a269 n269 0 1023) (k : Nat) : p136_X2_listLawful_g22 fu c267_total a269 n269 n270 k := by
  induction k using Nat.strongRecOn with
  | _ k ih => exact t136_X2_listLawful_h1_g22 fu hfu c267_total a269 n269 n270 p0 p1 p2 p3 p4 p5 p6 p7 p8 p9 hr_a269 k ih
set_option maxHeartbeats 1000000 in
set_option maxRecDepth 10000 in
theorem t136_X2_listLawful_E_g22 (fu : Nat) (hfu : 1000000000000 ≤ fu) (c267_total : Int32) (a269 : Nat → Int32) (n269 : Nat) (n270 : Nat) (c267_lawfulOnes : Int32) (a270 : Nat → Int32) (p0 : c267_total.toInt ≤ 4) (p1 : 4 ≤ c267_total.toInt) (p2 : ((n269 : Nat) : Int) ≤ 13824) (p3 : 1 ≤ ((n269 : Nat) : Int)) (p4 : ((n270 : Nat) : Int) ≤ 13824) (p5 : 1 ≤ ((n270 : Nat) : Int)) (p6 : c267_total.toInt ≤ ((n269 : Nat) : Int)) (p7 : c267_total.toInt ≤ ((n270 : Nat) : Int)) (p8 : ((n269 : Nat) : Int) ≤ ((n270 : Nat) : Int)) (p9 : ((n270 : Nat) : Int) ≤ ((n269 : Nat) : Int)) (hr_a269 : dz_rg a269 n269 0 1023) (kv : Nat) (hkv : 1000000000000 ≤ kv) : dz_T (s136_X2_listLawful_0 fu c267_total a269 n269 n270 (F136_X2_listLawful fu c267_total a269 n269 n270 kv).1  c267_lawfulOnes a270) (fun r => r.1.toInt ≤ 4 ∧ 0 ≤ r.1.toInt ∧ dz_rg r.2 r.1.toInt.toNat 0 3) := by
  unfold s136_X2_listLawful_0
  have e1 := dz_l0
  exact (t136_X2_listLawful_I_g22 fu hfu c267_total a269 n269 n270 p0 p1 p2 p3 p4 p5 p6 p7 p8 p9 hr_a269 kv) (0 : Int32) (0 : Int32) a270 (by omega) (by omega) (by omega) (by omega) (by omega) (dz_rgz (by omega)) (by omega)
theorem t136_X2_listLawful_g22 (fu : Nat) (hfu : 1000000000000 ≤ fu) (c267_total : Int32) (a269 : Nat → Int32) (n269 : Nat) (n270 : Nat) (c267_lawfulOnes : Int32) (a270 : Nat → Int32) (p0 : c267_total.toInt ≤ 4) (p1 : 4 ≤ c267_total.toInt) (p2 : ((n269 : Nat) : Int) ≤ 13824) (p3 : 1 ≤ ((n269 : Nat) : Int)) (p4 : ((n270 : Nat) : Int) ≤ 13824) (p5 : 1 ≤ ((n270 : Nat) : Int)) (p6 : c267_total.toInt ≤ ((n269 : Nat) : Int)) (p7 : c267_total.toInt ≤ ((n270 : Nat) : Int)) (p8 : ((n269 : Nat) : Int) ≤ ((n270 : Nat) : Int)) (p9 : ((n270 : Nat) : Int) ≤ ((n269 : Nat) : Int)) (hr_a269 : dz_rg a269 n269 0 1023) : dz_T (f136_X2_listLawful fu c267_total a269 n269 n270 c267_lawfulOnes a270) (fun r => r.1.toInt ≤ 4 ∧ 0 ≤ r.1.toInt ∧ dz_rg r.2 r.1.toInt.toNat 0 3) :=
  t136_X2_listLawful_E_g22 fu hfu c267_total a269 n269 n270 c267_lawfulOnes a270 p0 p1 p2 p3 p4 p5 p6 p7 p8 p9 hr_a269 fu hfu
abbrev p136_X2_listLawful_g23 (fu : Nat) (c267_total : Int32) (a269 : Nat → Int32) (n269 : Nat) (n270 : Nat) (k : Nat) : Prop :=
  (∀ (v1 : Int32) (c267_lawfulOnes : Int32) (a270 : Nat → Int32), v1.toInt ≤ 8 → 0 ≤ v1.toInt → c267_lawfulOnes.toInt ≤ 8 → 0 ≤ c267_lawfulOnes.toInt → c267_lawfulOnes.toInt ≤ v1.toInt → dz_rg a270 c267_lawfulOnes.toInt.toNat 0 7 → 0 + 0 + (8 - v1.toInt) * 12 + 6 ≤ ((k : Nat) : Int) → dz_T ((F136_X2_listLawful fu c267_total a269 n269 n270 k).1 v1 c267_lawfulOnes a270) (fun r => r.1.toInt ≤ 8 ∧ 0 ≤ r.1.toInt ∧ dz_rg r.2 r.1.toInt.toNat 0 7))
set_option maxHeartbeats 1000000 in
set_option maxRecDepth 10000 in
theorem t136_X2_listLawful_h1_g23 (fu : Nat) (hfu : 1000000000000 ≤ fu) (c267_total : Int32) (a269 : Nat → Int32) (n269 : Nat) (n270 : Nat) (p0 : c267_total.toInt ≤ 8) (p1 : 8 ≤ c267_total.toInt) (p2 : ((n269 : Nat) : Int) ≤ 13824) (p3 : 1 ≤ ((n269 : Nat) : Int)) (p4 : ((n270 : Nat) : Int) ≤ 13824) (p5 : 1 ≤ ((n270 : Nat) : Int)) (p6 : c267_total.toInt ≤ ((n269 : Nat) : Int)) (p7 : c267_total.toInt ≤ ((n270 : Nat) : Int)) (p8 : ((n269 : Nat) : Int) ≤ ((n270 : Nat) : Int)) (p9 : ((n270 : Nat) : Int) ≤ ((n269 : Nat) : Int)) (hr_a269 : dz_rg a269 n269 0 1023) (k : Nat) (ih : ∀ j9, j9 < k → p136_X2_listLawful_g23 fu c267_total a269 n269 n270 j9) : ∀ (v1 : Int32) (c267_lawfulOnes : Int32) (a270 : Nat → Int32), v1.toInt ≤ 8 → 0 ≤ v1.toInt → c267_lawfulOnes.toInt ≤ 8 → 0 ≤ c267_lawfulOnes.toInt → c267_lawfulOnes.toInt ≤ v1.toInt → dz_rg a270 c267_lawfulOnes.toInt.toNat 0 7 → 0 + 0 + (8 - v1.toInt) * 12 + 6 ≤ ((k : Nat) : Int) → dz_T ((F136_X2_listLawful fu c267_total a269 n269 n270 k).1 v1 c267_lawfulOnes a270) (fun r => r.1.toInt ≤ 8 ∧ 0 ≤ r.1.toInt ∧ dz_rg r.2 r.1.toInt.toNat 0 7) := by
  intro v1 c267_lawfulOnes a270 i0 i1 i2 i3 i4 hr_a270 hm
  obtain ⟨k0, rfl⟩ : ∃ x, k = x + 1 := ⟨k - 1, by omega⟩
  show dz_T (s136_X2_listLawful_1 fu c267_total a269 n269 n270 (F136_X2_listLawful fu c267_total a269 n269 n270 k0).2  v1 c267_lawfulOnes a270) _
  unfold s136_X2_listLawful_1
  refine dz_Tle (fun h1 => ?_) (fun h1 => ?_)
  · skip
    refine dz_Ts ?_
    dsimp only
    exact ⟨i2, i3, (dz_rgs (hr_a270) (by omega))⟩
  · skip
    refine dz_Tin (by omega) (by omega) ?_
    have e2 := dz_rgat (hr_a269) (i := v1) (by omega) (by omega)
    have e3 := dz_l0
    refine dz_Teq (fun h4 => ?_) (fun h4 => ?_)
    · skip
      refine dz_Tin (by omega) (by omega) ?_
      obtain ⟨k1, rfl⟩ : ∃ x, k0 = x + 1 := ⟨k0 - 1, by omega⟩
      show dz_T (s136_X2_listLawful_2 fu c267_total a269 n269 n270 (F136_X2_listLawful fu c267_total a269 n269 n270 k1).1 v1 (c267_lawfulOnes + (1 : Int32)) (upd a270 c267_lawfulOnes.toNatClampNeg v1)) _
      unfold s136_X2_listLawful_2
      have e5 := dz_l1
      have e6 := dz_add (a := v1) (b := (1 : Int32)) (by omega) (by omega)
      have e7 := dz_add (a := c267_lawfulOnes) (b := (1 : Int32)) (by omega) (by omega)
      exact (ih k1 (by omega)) (v1 + (1 : Int32)) (c267_lawfulOnes + (1 : Int32)) (upd a270 c267_lawfulOnes.toNatClampNeg v1) (by omega) (by omega) (by omega) (by omega) (by omega) (dz_rgx (hr_a270) (k2 := (c267_lawfulOnes + (1 : Int32))) (by omega) (by omega) (by omega) (by omega)) (by omega)
    · skip
      obtain ⟨k2, rfl⟩ : ∃ x, k0 = x + 1 := ⟨k0 - 1, by omega⟩
      show dz_T (s136_X2_listLawful_2 fu c267_total a269 n269 n270 (F136_X2_listLawful fu c267_total a269 n269 n270 k2).1 v1 c267_lawfulOnes a270) _
      unfold s136_X2_listLawful_2
      have e8 := dz_l1
      have e9 := dz_add (a := v1) (b := (1 : Int32)) (by omega) (by omega)
      exact (ih k2 (by omega)) (v1 + (1 : Int32)) c267_lawfulOnes a270 (by omega) (by omega) i2 i3 (by omega) (dz_rgs (hr_a270) (by omega)) (by omega)
theorem t136_X2_listLawful_I_g23 (fu : Nat) (hfu : 1000000000000 ≤ fu) (c267_total : Int32) (a269 : Nat → Int32) (n269 : Nat) (n270 : Nat) (p0 : c267_total.toInt ≤ 8) (p1 : 8 ≤ c267_total.toInt) (p2 : ((n269 : Nat) : Int) ≤ 13824) (p3 : 1 ≤ ((n269 : Nat) : Int)) (p4 : ((n270 : Nat) : Int) ≤ 13824) (p5 : 1 ≤ ((n270 : Nat) : Int)) (p6 : c267_total.toInt ≤ ((n269 : Nat) : Int)) (p7 : c267_total.toInt ≤ ((n270 : Nat) : Int)) (p8 : ((n269 : Nat) : Int) ≤ ((n270 : Nat) : Int)) (p9 : ((n270 : Nat) : Int) ≤ ((n269 : Nat) : Int)) (hr_a269 : dz_rg a269 n269 0 1023) (k : Nat) : p136_X2_listLawful_g23 fu c267_total a269 n269 n270 k := by
  induction k using Nat.strongRecOn with
  | _ k ih => exact t136_X2_listLawful_h1_g23 fu hfu c267_total a269 n269 n270 p0 p1 p2 p3 p4 p5 p6 p7 p8 p9 hr_a269 k ih
set_option maxHeartbeats 1000000 in
set_option maxRecDepth 10000 in
theorem t136_X2_listLawful_E_g23 (fu : Nat) (hfu : 1000000000000 ≤ fu) (c267_total : Int32) (a269 : Nat → Int32) (n269 : Nat) (n270 : Nat) (c267_lawfulOnes : Int32) (a270 : Nat → Int32) (p0 : c267_total.toInt ≤ 8) (p1 : 8 ≤ c267_total.toInt) (p2 : ((n269 : Nat) : Int) ≤ 13824) (p3 : 1 ≤ ((n269 : Nat) : Int)) (p4 : ((n270 : Nat) : Int) ≤ 13824) (p5 : 1 ≤ ((n270 : Nat) : Int)) (p6 : c267_total.toInt ≤ ((n269 : Nat) : Int)) (p7 : c267_total.toInt ≤ ((n270 : Nat) : Int)) (p8 : ((n269 : Nat) : Int) ≤ ((n270 : Nat) : Int)) (p9 : ((n270 : Nat) : Int) ≤ ((n269 : Nat) : Int)) (hr_a269 : dz_rg a269 n269 0 1023) (kv : Nat) (hkv : 1000000000000 ≤ kv) : dz_T (s136_X2_listLawful_0 fu c267_total a269 n269 n270 (F136_X2_listLawful fu c267_total a269 n269 n270 kv).1  c267_lawfulOnes a270) (fun r => r.1.toInt ≤ 8 ∧ 0 ≤ r.1.toInt ∧ dz_rg r.2 r.1.toInt.toNat 0 7) := by
  unfold s136_X2_listLawful_0
  have e1 := dz_l0
  exact (t136_X2_listLawful_I_g23 fu hfu c267_total a269 n269 n270 p0 p1 p2 p3 p4 p5 p6 p7 p8 p9 hr_a269 kv) (0 : Int32) (0 : Int32) a270 (by omega) (by omega) (by omega) (by omega) (by omega) (dz_rgz (by omega)) (by omega)
theorem t136_X2_listLawful_g23 (fu : Nat) (hfu : 1000000000000 ≤ fu) (c267_total : Int32) (a269 : Nat → Int32) (n269 : Nat) (n270 : Nat) (c267_lawfulOnes : Int32) (a270 : Nat → Int32) (p0 : c267_total.toInt ≤ 8) (p1 : 8 ≤ c267_total.toInt) (p2 : ((n269 : Nat) : Int) ≤ 13824) (p3 : 1 ≤ ((n269 : Nat) : Int)) (p4 : ((n270 : Nat) : Int) ≤ 13824) (p5 : 1 ≤ ((n270 : Nat) : Int)) (p6 : c267_total.toInt ≤ ((n269 : Nat) : Int)) (p7 : c267_total.toInt ≤ ((n270 : Nat) : Int)) (p8 : ((n269 : Nat) : Int) ≤ ((n270 : Nat) : Int)) (p9 : ((n270 : Nat) : Int) ≤ ((n269 : Nat) : Int)) (hr_a269 : dz_rg a269 n269 0 1023) : dz_T (f136_X2_listLawful fu c267_total a269 n269 n270 c267_lawfulOnes a270) (fun r => r.1.toInt ≤ 8 ∧ 0 ≤ r.1.toInt ∧ dz_rg r.2 r.1.toInt.toNat 0 7) :=
  t136_X2_listLawful_E_g23 fu hfu c267_total a269 n269 n270 c267_lawfulOnes a270 p0 p1 p2 p3 p4 p5 p6 p7 p8 p9 hr_a269 fu hfu
abbrev p136_X2_listLawful_g24 (fu : Nat) (c267_total : Int32) (a269 : Nat → Int32) (n269 : Nat) (n270 : Nat) (k : Nat) : Prop :=
  (∀ (v1 : Int32) (c267_lawfulOnes : Int32) (a270 : Nat → Int32), v1.toInt ≤ 16 → 0 ≤ v1.toInt → c267_lawfulOnes.toInt ≤ 16 → 0 ≤ c267_lawfulOnes.toInt → c267_lawfulOnes.toInt ≤ v1.toInt → dz_rg a270 c267_lawfulOnes.toInt.toNat 0 15 → 0 + 0 + (16 - v1.toInt) * 12 + 6 ≤ ((k : Nat) : Int) → dz_T ((F136_X2_listLawful fu c267_total a269 n269 n270 k).1 v1 c267_lawfulOnes a270) (fun r => r.1.toInt ≤ 16 ∧ 0 ≤ r.1.toInt ∧ dz_rg r.2 r.1.toInt.toNat 0 15))
set_option maxHeartbeats 1000000 in
set_option maxRecDepth 10000 in
theorem t136_X2_listLawful_h1_g24 (fu : Nat) (hfu : 1000000000000 ≤ fu) (c267_total : Int32) (a269 : Nat → Int32) (n269 : Nat) (n270 : Nat) (p0 : c267_total.toInt ≤ 16) (p1 : 16 ≤ c267_total.toInt) (p2 : ((n269 : Nat) : Int) ≤ 13824) (p3 : 1 ≤ ((n269 : Nat) : Int)) (p4 : ((n270 : Nat) : Int) ≤ 13824) (p5 : 1 ≤ ((n270 : Nat) : Int)) (p6 : c267_total.toInt ≤ ((n269 : Nat) : Int)) (p7 : c267_total.toInt ≤ ((n270 : Nat) : Int)) (p8 : ((n269 : Nat) : Int) ≤ ((n270 : Nat) : Int)) (p9 : ((n270 : Nat) : Int) ≤ ((n269 : Nat) : Int)) (hr_a269 : dz_rg a269 n269 0 1023) (k : Nat) (ih : ∀ j9, j9 < k → p136_X2_listLawful_g24 fu c267_total a269 n269 n270 j9) : ∀ (v1 : Int32) (c267_lawfulOnes : Int32) (a270 : Nat → Int32), v1.toInt ≤ 16 → 0 ≤ v1.toInt → c267_lawfulOnes.toInt ≤ 16 → 0 ≤ c267_lawfulOnes.toInt → c267_lawfulOnes.toInt ≤ v1.toInt → dz_rg a270 c267_lawfulOnes.toInt.toNat 0 15 → 0 + 0 + (16 - v1.toInt) * 12 + 6 ≤ ((k : Nat) : Int) → dz_T ((F136_X2_listLawful fu c267_total a269 n269 n270 k).1 v1 c267_lawfulOnes a270) (fun r => r.1.toInt ≤ 16 ∧ 0 ≤ r.1.toInt ∧ dz_rg r.2 r.1.toInt.toNat 0 15) := by
  intro v1 c267_lawfulOnes a270 i0 i1 i2 i3 i4 hr_a270 hm
  obtain ⟨k0, rfl⟩ : ∃ x, k = x + 1 := ⟨k - 1, by omega⟩
  show dz_T (s136_X2_listLawful_1 fu c267_total a269 n269 n270 (F136_X2_listLawful fu c267_total a269 n269 n270 k0).2  v1 c267_lawfulOnes a270) _
  unfold s136_X2_listLawful_1
  refine dz_Tle (fun h1 => ?_) (fun h1 => ?_)
  · skip
    refine dz_Ts ?_
    dsimp only
    exact ⟨i2, i3, (dz_rgs (hr_a270) (by omega))⟩
  · skip
    refine dz_Tin (by omega) (by omega) ?_
    have e2 := dz_rgat (hr_a269) (i := v1) (by omega) (by omega)
    have e3 := dz_l0
    refine dz_Teq (fun h4 => ?_) (fun h4 => ?_)
    · skip
      refine dz_Tin (by omega) (by omega) ?_
      obtain ⟨k1, rfl⟩ : ∃ x, k0 = x + 1 := ⟨k0 - 1, by omega⟩
      show dz_T (s136_X2_listLawful_2 fu c267_total a269 n269 n270 (F136_X2_listLawful fu c267_total a269 n269 n270 k1).1 v1 (c267_lawfulOnes + (1 : Int32)) (upd a270 c267_lawfulOnes.toNatClampNeg v1)) _
      unfold s136_X2_listLawful_2
      have e5 := dz_l1
      have e6 := dz_add (a := v1) (b := (1 : Int32)) (by omega) (by omega)
      have e7 := dz_add (a := c267_lawfulOnes) (b := (1 : Int32)) (by omega) (by omega)
      exact (ih k1 (by omega)) (v1 + (1 : Int32)) (c267_lawfulOnes + (1 : Int32)) (upd a270 c267_lawfulOnes.toNatClampNeg v1) (by omega) (by omega) (by omega) (by omega) (by omega) (dz_rgx (hr_a270) (k2 := (c267_lawfulOnes + (1 : Int32))) (by omega) (by omega) (by omega) (by omega)) (by omega)
    · skip
      obtain ⟨k2, rfl⟩ : ∃ x, k0 = x + 1 := ⟨k0 - 1, by omega⟩
      show dz_T (s136_X2_listLawful_2 fu c267_total a269 n269 n270 (F136_X2_listLawful fu c267_total a269 n269 n270 k2).1 v1 c267_lawfulOnes a270) _
      unfold s136_X2_listLawful_2
      have e8 := dz_l1
      have e9 := dz_add (a := v1) (b := (1 : Int32)) (by omega) (by omega)
      exact (ih k2 (by omega)) (v1 + (1 : Int32)) c267_lawfulOnes a270 (by omega) (by omega) i2 i3 (by omega) (dz_rgs (hr_a270) (by omega)) (by omega)
theorem t136_X2_listLawful_I_g24 (fu : Nat) (hfu : 1000000000000 ≤ fu) (c267_total : Int32) (a269 : Nat → Int32) (n269 : Nat) (n270 : Nat) (p0 : c267_total.toInt ≤ 16) (p1 : 16 ≤ c267_total.toInt) (p2 : ((n269 : Nat) : Int) ≤ 13824) (p3 : 1 ≤ ((n269 : Nat) : Int)) (p4 : ((n270 : Nat) : Int) ≤ 13824) (p5 : 1 ≤ ((n270 : Nat) : Int)) (p6 : c267_total.toInt ≤ ((n269 : Nat) : Int)) (p7 : c267_total.toInt ≤ ((n270 : Nat) : Int)) (p8 : ((n269 : Nat) : Int) ≤ ((n270 : Nat) : Int)) (p9 : ((n270 : Nat) : Int) ≤ ((n269 : Nat) : Int)) (hr_a269 : dz_rg a269 n269 0 1023) (k : Nat) : p136_X2_listLawful_g24 fu c267_total a269 n269 n270 k := by
  induction k using Nat.strongRecOn with
  | _ k ih => exact t136_X2_listLawful_h1_g24 fu hfu c267_total a269 n269 n270 p0 p1 p2 p3 p4 p5 p6 p7 p8 p9 hr_a269 k ih
set_option maxHeartbeats 1000000 in
set_option maxRecDepth 10000 in
theorem t136_X2_listLawful_E_g24 (fu : Nat) (hfu : 1000000000000 ≤ fu) (c267_total : Int32) (a269 : Nat → Int32) (n269 : Nat) (n270 : Nat) (c267_lawfulOnes : Int32) (a270 : Nat → Int32) (p0 : c267_total.toInt ≤ 16) (p1 : 16 ≤ c267_total.toInt) (p2 : ((n269 : Nat) : Int) ≤ 13824) (p3 : 1 ≤ ((n269 : Nat) : Int)) (p4 : ((n270 : Nat) : Int) ≤ 13824) (p5 : 1 ≤ ((n270 : Nat) : Int)) (p6 : c267_total.toInt ≤ ((n269 : Nat) : Int)) (p7 : c267_total.toInt ≤ ((n270 : Nat) : Int)) (p8 : ((n269 : Nat) : Int) ≤ ((n270 : Nat) : Int)) (p9 : ((n270 : Nat) : Int) ≤ ((n269 : Nat) : Int)) (hr_a269 : dz_rg a269 n269 0 1023) (kv : Nat) (hkv : 1000000000000 ≤ kv) : dz_T (s136_X2_listLawful_0 fu c267_total a269 n269 n270 (F136_X2_listLawful fu c267_total a269 n269 n270 kv).1  c267_lawfulOnes a270) (fun r => r.1.toInt ≤ 16 ∧ 0 ≤ r.1.toInt ∧ dz_rg r.2 r.1.toInt.toNat 0 15) := by
  unfold s136_X2_listLawful_0
  have e1 := dz_l0
  exact (t136_X2_listLawful_I_g24 fu hfu c267_total a269 n269 n270 p0 p1 p2 p3 p4 p5 p6 p7 p8 p9 hr_a269 kv) (0 : Int32) (0 : Int32) a270 (by omega) (by omega) (by omega) (by omega) (by omega) (dz_rgz (by omega)) (by omega)
theorem t136_X2_listLawful_g24 (fu : Nat) (hfu : 1000000000000 ≤ fu) (c267_total : Int32) (a269 : Nat → Int32) (n269 : Nat) (n270 : Nat) (c267_lawfulOnes : Int32) (a270 : Nat → Int32) (p0 : c267_total.toInt ≤ 16) (p1 : 16 ≤ c267_total.toInt) (p2 : ((n269 : Nat) : Int) ≤ 13824) (p3 : 1 ≤ ((n269 : Nat) : Int)) (p4 : ((n270 : Nat) : Int) ≤ 13824) (p5 : 1 ≤ ((n270 : Nat) : Int)) (p6 : c267_total.toInt ≤ ((n269 : Nat) : Int)) (p7 : c267_total.toInt ≤ ((n270 : Nat) : Int)) (p8 : ((n269 : Nat) : Int) ≤ ((n270 : Nat) : Int)) (p9 : ((n270 : Nat) : Int) ≤ ((n269 : Nat) : Int)) (hr_a269 : dz_rg a269 n269 0 1023) : dz_T (f136_X2_listLawful fu c267_total a269 n269 n270 c267_lawfulOnes a270) (fun r => r.1.toInt ≤ 16 ∧ 0 ≤ r.1.toInt ∧ dz_rg r.2 r.1.toInt.toNat 0 15) :=
  t136_X2_listLawful_E_g24 fu hfu c267_total a269 n269 n270 c267_lawfulOnes a270 p0 p1 p2 p3 p4 p5 p6 p7 p8 p9 hr_a269 fu hfu
abbrev p136_X2_listLawful_g30 (fu : Nat) (c267_total : Int32) (a269 : Nat → Int32) (n269 : Nat) (n270 : Nat) (k : Nat) : Prop :=
  (∀ (v1 : Int32) (c267_lawfulOnes : Int32) (a270 : Nat → Int32), v1.toInt ≤ 1 → 0 ≤ v1.toInt → c267_lawfulOnes.toInt ≤ 1 → 0 ≤ c267_lawfulOnes.toInt → c267_lawfulOnes.toInt ≤ v1.toInt → dz_rg a270 c267_lawfulOnes.toInt.toNat 0 0 → 0 + 0 + (1 - v1.toInt) * 12 + 6 ≤ ((k : Nat) : Int) → dz_T ((F136_X2_listLawful fu c267_total a269 n269 n270 k).1 v1 c267_lawfulOnes a270) (fun r => r.1.toInt ≤ 1 ∧ 0 ≤ r.1.toInt ∧ dz_rg r.2 r.1.toInt.toNat 0 0))
set_option maxHeartbeats 1000000 in
set_option maxRecDepth 10000 in
theorem t136_X2_listLawful_h1_g30 (fu : Nat) (hfu : 1000000000000 ≤ fu) (c267_total : Int32) (a269 : Nat → Int32) (n269 : Nat) (n270 : Nat) (p0 : c267_total.toInt ≤ 1) (p1 : 1 ≤ c267_total.toInt) (p2 : ((n269 : Nat) : Int) ≤ 13824) (p3 : 1 ≤ ((n269 : Nat) : Int)) (p4 : ((n270 : Nat) : Int) ≤ 13824) (p5 : 1 ≤ ((n270 : Nat) : Int)) (p6 : c267_total.toInt ≤ ((n269 : Nat) : Int)) (p7 : c267_total.toInt ≤ ((n270 : Nat) : Int)) (p8 : ((n269 : Nat) : Int) ≤ ((n270 : Nat) : Int)) (p9 : ((n270 : Nat) : Int) ≤ ((n269 : Nat) : Int)) (hr_a269 : dz_rg a269 n269 0 1023) (k : Nat) (ih : ∀ j9, j9 < k → p136_X2_listLawful_g30 fu c267_total a269 n269 n270 j9) : ∀ (v1 : Int32) (c267_lawfulOnes : Int32) (a270 : Nat → Int32), v1.toInt ≤ 1 → 0 ≤ v1.toInt → c267_lawfulOnes.toInt ≤ 1 → 0 ≤ c267_lawfulOnes.toInt → c267_lawfulOnes.toInt ≤ v1.toInt → dz_rg a270 c267_lawfulOnes.toInt.toNat 0 0 → 0 + 0 + (1 - v1.toInt) * 12 + 6 ≤ ((k : Nat) : Int) → dz_T ((F136_X2_listLawful fu c267_total a269 n269 n270 k).1 v1 c267_lawfulOnes a270) (fun r => r.1.toInt ≤ 1 ∧ 0 ≤ r.1.toInt ∧ dz_rg r.2 r.1.toInt.toNat 0 0) := by
  intro v1 c267_lawfulOnes a270 i0 i1 i2 i3 i4 hr_a270 hm
  obtain ⟨k0, rfl⟩ : ∃ x, k = x + 1 := ⟨k - 1, by omega⟩
  show dz_T (s136_X2_listLawful_1 fu c267_total a269 n269 n270 (F136_X2_listLawful fu c267_total a269 n269 n270 k0).2  v1 c267_lawfulOnes a270) _
  unfold s136_X2_listLawful_1
  refine dz_Tle (fun h1 => ?_) (fun h1 => ?_)
  · skip
    refine dz_Ts ?_
    dsimp only
    exact ⟨i2, i3, (dz_rgs (hr_a270) (by omega))⟩
  · skip
    refine dz_Tin (by omega) (by omega) ?_
    have e2 := dz_rgat (hr_a269) (i := v1) (by omega) (by omega)
    have e3 := dz_l0
    refine dz_Teq (fun h4 => ?_) (fun h4 => ?_)
    · skip
      refine dz_Tin (by omega) (by omega) ?_
      obtain ⟨k1, rfl⟩ : ∃ x, k0 = x + 1 := ⟨k0 - 1, by omega⟩
      show dz_T (s136_X2_listLawful_2 fu c267_total a269 n269 n270 (F136_X2_listLawful fu c267_total a269 n269 n270 k1).1 v1 (c267_lawfulOnes + (1 : Int32)) (upd a270 c267_lawfulOnes.toNatClampNeg v1)) _
      unfold s136_X2_listLawful_2
      have e5 := dz_l1
      have e6 := dz_add (a := v1) (b := (1 : Int32)) (by omega) (by omega)
      have e7 := dz_add (a := c267_lawfulOnes) (b := (1 : Int32)) (by omega) (by omega)
      exact (ih k1 (by omega)) (v1 + (1 : Int32)) (c267_lawfulOnes + (1 : Int32)) (upd a270 c267_lawfulOnes.toNatClampNeg v1) (by omega) (by omega) (by omega) (by omega) (by omega) (dz_rgx (hr_a270) (k2 := (c267_lawfulOnes + (1 : Int32))) (by omega) (by omega) (by omega) (by omega)) (by omega)
    · skip
      obtain ⟨k2, rfl⟩ : ∃ x, k0 = x + 1 := ⟨k0 - 1, by omega⟩
      show dz_T (s136_X2_listLawful_2 fu c267_total a269 n269 n270 (F136_X2_listLawful fu c267_total a269 n269 n270 k2).1 v1 c267_lawfulOnes a270) _
      unfold s136_X2_listLawful_2
      have e8 := dz_l1
      have e9 := dz_add (a := v1) (b := (1 : Int32)) (by omega) (by omega)
      exact (ih k2 (by omega)) (v1 + (1 : Int32)) c267_lawfulOnes a270 (by omega) (by omega) i2 i3 (by omega) (dz_rgs (hr_a270) (by omega)) (by omega)
theorem t136_X2_listLawful_I_g30 (fu : Nat) (hfu : 1000000000000 ≤ fu) (c267_total : Int32) (a269 : Nat → Int32) (n269 : Nat) (n270 : Nat) (p0 : c267_total.toInt ≤ 1) (p1 : 1 ≤ c267_total.toInt) (p2 : ((n269 : Nat) : Int) ≤ 13824) (p3 : 1 ≤ ((n269 : Nat) : Int)) (p4 : ((n270 : Nat) : Int) ≤ 13824) (p5 : 1 ≤ ((n270 : Nat) : Int)) (p6 : c267_total.toInt ≤ ((n269 : Nat) : Int)) (p7 : c267_total.toInt ≤ ((n270 : Nat) : Int)) (p8 : ((n269 : Nat) : Int) ≤ ((n270 : Nat) : Int)) (p9 : ((n270 : Nat) : Int) ≤ ((n269 : Nat) : Int)) (hr_a269 : dz_rg a269 n269 0 1023) (k : Nat) : p136_X2_listLawful_g30 fu c267_total a269 n269 n270 k := by
  induction k using Nat.strongRecOn with
  | _ k ih => exact t136_X2_listLawful_h1_g30 fu hfu c267_total a269 n269 n270 p0 p1 p2 p3 p4 p5 p6 p7 p8 p9 hr_a269 k ih
set_option maxHeartbeats 1000000 in
set_option maxRecDepth 10000 in
theorem t136_X2_listLawful_E_g30 (fu : Nat) (hfu : 1000000000000 ≤ fu) (c267_total : Int32) (a269 : Nat → Int32) (n269 : Nat) (n270 : Nat) (c267_lawfulOnes : Int32) (a270 : Nat → Int32) (p0 : c267_total.toInt ≤ 1) (p1 : 1 ≤ c267_total.toInt) (p2 : ((n269 : Nat) : Int) ≤ 13824) (p3 : 1 ≤ ((n269 : Nat) : Int)) (p4 : ((n270 : Nat) : Int) ≤ 13824) (p5 : 1 ≤ ((n270 : Nat) : Int)) (p6 : c267_total.toInt ≤ ((n269 : Nat) : Int)) (p7 : c267_total.toInt ≤ ((n270 : Nat) : Int)) (p8 : ((n269 : Nat) : Int) ≤ ((n270 : Nat) : Int)) (p9 : ((n270 : Nat) : Int) ≤ ((n269 : Nat) : Int)) (hr_a269 : dz_rg a269 n269 0 1023) (kv : Nat) (hkv : 1000000000000 ≤ kv) : dz_T (s136_X2_listLawful_0 fu c267_total a269 n269 n270 (F136_X2_listLawful fu c267_total a269 n269 n270 kv).1  c267_lawfulOnes a270) (fun r => r.1.toInt ≤ 1 ∧ 0 ≤ r.1.toInt ∧ dz_rg r.2 r.1.toInt.toNat 0 0) := by
  unfold s136_X2_listLawful_0
  have e1 := dz_l0
  exact (t136_X2_listLawful_I_g30 fu hfu c267_total a269 n269 n270 p0 p1 p2 p3 p4 p5 p6 p7 p8 p9 hr_a269 kv) (0 : Int32) (0 : Int32) a270 (by omega) (by omega) (by omega) (by omega) (by omega) (dz_rgz (by omega)) (by omega)
theorem t136_X2_listLawful_g30 (fu : Nat) (hfu : 1000000000000 ≤ fu) (c267_total : Int32) (a269 : Nat → Int32) (n269 : Nat) (n270 : Nat) (c267_lawfulOnes : Int32) (a270 : Nat → Int32) (p0 : c267_total.toInt ≤ 1) (p1 : 1 ≤ c267_total.toInt) (p2 : ((n269 : Nat) : Int) ≤ 13824) (p3 : 1 ≤ ((n269 : Nat) : Int)) (p4 : ((n270 : Nat) : Int) ≤ 13824) (p5 : 1 ≤ ((n270 : Nat) : Int)) (p6 : c267_total.toInt ≤ ((n269 : Nat) : Int)) (p7 : c267_total.toInt ≤ ((n270 : Nat) : Int)) (p8 : ((n269 : Nat) : Int) ≤ ((n270 : Nat) : Int)) (p9 : ((n270 : Nat) : Int) ≤ ((n269 : Nat) : Int)) (hr_a269 : dz_rg a269 n269 0 1023) : dz_T (f136_X2_listLawful fu c267_total a269 n269 n270 c267_lawfulOnes a270) (fun r => r.1.toInt ≤ 1 ∧ 0 ≤ r.1.toInt ∧ dz_rg r.2 r.1.toInt.toNat 0 0) :=
  t136_X2_listLawful_E_g30 fu hfu c267_total a269 n269 n270 c267_lawfulOnes a270 p0 p1 p2 p3 p4 p5 p6 p7 p8 p9 hr_a269 fu hfu
abbrev p136_X2_listLawful_g31 (fu : Nat) (c267_total : Int32) (a269 : Nat → Int32) (n269 : Nat) (n270 : Nat) (k : Nat) : Prop :=
  (∀ (v1 : Int32) (c267_lawfulOnes : Int32) (a270 : Nat → Int32), v1.toInt ≤ 6 → 0 ≤ v1.toInt → c267_lawfulOnes.toInt ≤ 6 → 0 ≤ c267_lawfulOnes.toInt → c267_lawfulOnes.toInt ≤ v1.toInt → dz_rg a270 c267_lawfulOnes.toInt.toNat 0 5 → 0 + 0 + (6 - v1.toInt) * 12 + 6 ≤ ((k : Nat) : Int) → dz_T ((F136_X2_listLawful fu c267_total a269 n269 n270 k).1 v1 c267_lawfulOnes a270) (fun r => r.1.toInt ≤ 6 ∧ 0 ≤ r.1.toInt ∧ dz_rg r.2 r.1.toInt.toNat 0 5))
set_option maxHeartbeats 1000000 in
set_option maxRecDepth 10000 in
theorem t136_X2_listLawful_h1_g31 (fu : Nat) (hfu : 1000000000000 ≤ fu) (c267_total : Int32) (a269 : Nat → Int32) (n269 : Nat) (n270 : Nat) (p0 : c267_total.toInt ≤ 6) (p1 : 6 ≤ c267_total.toInt) (p2 : ((n269 : Nat) : Int) ≤ 13824) (p3 : 1 ≤ ((n269 : Nat) : Int)) (p4 : ((n270 : Nat) : Int) ≤ 13824) (p5 : 1 ≤ ((n270 : Nat) : Int)) (p6 : c267_total.toInt ≤ ((n269 : Nat) : Int)) (p7 : c267_total.toInt ≤ ((n270 : Nat) : Int)) (p8 : ((n269 : Nat) : Int) ≤ ((n270 : Nat) : Int)) (p9 : ((n270 : Nat) : Int) ≤ ((n269 : Nat) : Int)) (hr_a269 : dz_rg a269 n269 0 1023) (k : Nat) (ih : ∀ j9, j9 < k → p136_X2_listLawful_g31 fu c267_total a269 n269 n270 j9) : ∀ (v1 : Int32) (c267_lawfulOnes : Int32) (a270 : Nat → Int32), v1.toInt ≤ 6 → 0 ≤ v1.toInt → c267_lawfulOnes.toInt ≤ 6 → 0 ≤ c267_lawfulOnes.toInt → c267_lawfulOnes.toInt ≤ v1.toInt → dz_rg a270 c267_lawfulOnes.toInt.toNat 0 5 → 0 + 0 + (6 - v1.toInt) * 12 + 6 ≤ ((k : Nat) : Int) → dz_T ((F136_X2_listLawful fu c267_total a269 n269 n270 k).1 v1 c267_lawfulOnes a270) (fun r => r.1.toInt ≤ 6 ∧ 0 ≤ r.1.toInt ∧ dz_rg r.2 r.1.toInt.toNat 0 5) := by
  intro v1 c267_lawfulOnes a270 i0 i1 i2 i3 i4 hr_a270 hm
  obtain ⟨k0, rfl⟩ : ∃ x, k = x + 1 := ⟨k - 1, by omega⟩
  show dz_T (s136_X2_listLawful_1 fu c267_total a269 n269 n270 (F136_X2_listLawful fu c267_total a269 n269 n270 k0).2  v1 c267_lawfulOnes a270) _
  unfold s136_X2_listLawful_1
  refine dz_Tle (fun h1 => ?_) (fun h1 => ?_)
  · skip
    refine dz_Ts ?_
    dsimp only
    exact ⟨i2, i3, (dz_rgs (hr_a270) (by omega))⟩
  · skip
    refine dz_Tin (by omega) (by omega) ?_
    have e2 := dz_rgat (hr_a269) (i := v1) (by omega) (by omega)
    have e3 := dz_l0
    refine dz_Teq (fun h4 => ?_) (fun h4 => ?_)
    · skip
      refine dz_Tin (by omega) (by omega) ?_
      obtain ⟨k1, rfl⟩ : ∃ x, k0 = x + 1 := ⟨k0 - 1, by omega⟩
      show dz_T (s136_X2_listLawful_2 fu c267_total a269 n269 n270 (F136_X2_listLawful fu c267_total a269 n269 n270 k1).1 v1 (c267_lawfulOnes + (1 : Int32)) (upd a270 c267_lawfulOnes.toNatClampNeg v1)) _
      unfold s136_X2_listLawful_2
      have e5 := dz_l1
      have e6 := dz_add (a := v1) (b := (1 : Int32)) (by omega) (by omega)
      have e7 := dz_add (a := c267_lawfulOnes) (b := (1 : Int32)) (by omega) (by omega)
      exact (ih k1 (by omega)) (v1 + (1 : Int32)) (c267_lawfulOnes + (1 : Int32)) (upd a270 c267_lawfulOnes.toNatClampNeg v1) (by omega) (by omega) (by omega) (by omega) (by omega) (dz_rgx (hr_a270) (k2 := (c267_lawfulOnes + (1 : Int32))) (by omega) (by omega) (by omega) (by omega)) (by omega)
    · skip
      obtain ⟨k2, rfl⟩ : ∃ x, k0 = x + 1 := ⟨k0 - 1, by omega⟩
      show dz_T (s136_X2_listLawful_2 fu c267_total a269 n269 n270 (F136_X2_listLawful fu c267_total a269 n269 n270 k2).1 v1 c267_lawfulOnes a270) _
      unfold s136_X2_listLawful_2
      have e8 := dz_l1
      have e9 := dz_add (a := v1) (b := (1 : Int32)) (by omega) (by omega)
      exact (ih k2 (by omega)) (v1 + (1 : Int32)) c267_lawfulOnes a270 (by omega) (by omega) i2 i3 (by omega) (dz_rgs (hr_a270) (by omega)) (by omega)
theorem t136_X2_listLawful_I_g31 (fu : Nat) (hfu : 1000000000000 ≤ fu) (c267_total : Int32) (a269 : Nat → Int32) (n269 : Nat) (n270 : Nat) (p0 : c267_total.toInt ≤ 6) (p1 : 6 ≤ c267_total.toInt) (p2 : ((n269 : Nat) : Int) ≤ 13824) (p3 : 1 ≤ ((n269 : Nat) : Int)) (p4 : ((n270 : Nat) : Int) ≤ 13824) (p5 : 1 ≤ ((n270 : Nat) : Int)) (p6 : c267_total.toInt ≤ ((n269 : Nat) : Int)) (p7 : c267_total.toInt ≤ ((n270 : Nat) : Int)) (p8 : ((n269 : Nat) : Int) ≤ ((n270 : Nat) : Int)) (p9 : ((n270 : Nat) : Int) ≤ ((n269 : Nat) : Int)) (hr_a269 : dz_rg a269 n269 0 1023) (k : Nat) : p136_X2_listLawful_g31 fu c267_total a269 n269 n270 k := by
  induction k using Nat.strongRecOn with
  | _ k ih => exact t136_X2_listLawful_h1_g31 fu hfu c267_total a269 n269 n270 p0 p1 p2 p3 p4 p5 p6 p7 p8 p9 hr_a269 k ih
set_option maxHeartbeats 1000000 in
set_option maxRecDepth 10000 in
theorem t136_X2_listLawful_E_g31 (fu : Nat) (hfu : 1000000000000 ≤ fu) (c267_total : Int32) (a269 : Nat → Int32) (n269 : Nat) (n270 : Nat) (c267_lawfulOnes : Int32) (a270 : Nat → Int32) (p0 : c267_total.toInt ≤ 6) (p1 : 6 ≤ c267_total.toInt) (p2 : ((n269 : Nat) : Int) ≤ 13824) (p3 : 1 ≤ ((n269 : Nat) : Int)) (p4 : ((n270 : Nat) : Int) ≤ 13824) (p5 : 1 ≤ ((n270 : Nat) : Int)) (p6 : c267_total.toInt ≤ ((n269 : Nat) : Int)) (p7 : c267_total.toInt ≤ ((n270 : Nat) : Int)) (p8 : ((n269 : Nat) : Int) ≤ ((n270 : Nat) : Int)) (p9 : ((n270 : Nat) : Int) ≤ ((n269 : Nat) : Int)) (hr_a269 : dz_rg a269 n269 0 1023) (kv : Nat) (hkv : 1000000000000 ≤ kv) : dz_T (s136_X2_listLawful_0 fu c267_total a269 n269 n270 (F136_X2_listLawful fu c267_total a269 n269 n270 kv).1  c267_lawfulOnes a270) (fun r => r.1.toInt ≤ 6 ∧ 0 ≤ r.1.toInt ∧ dz_rg r.2 r.1.toInt.toNat 0 5) := by
  unfold s136_X2_listLawful_0
  have e1 := dz_l0
  exact (t136_X2_listLawful_I_g31 fu hfu c267_total a269 n269 n270 p0 p1 p2 p3 p4 p5 p6 p7 p8 p9 hr_a269 kv) (0 : Int32) (0 : Int32) a270 (by omega) (by omega) (by omega) (by omega) (by omega) (dz_rgz (by omega)) (by omega)
theorem t136_X2_listLawful_g31 (fu : Nat) (hfu : 1000000000000 ≤ fu) (c267_total : Int32) (a269 : Nat → Int32) (n269 : Nat) (n270 : Nat) (c267_lawfulOnes : Int32) (a270 : Nat → Int32) (p0 : c267_total.toInt ≤ 6) (p1 : 6 ≤ c267_total.toInt) (p2 : ((n269 : Nat) : Int) ≤ 13824) (p3 : 1 ≤ ((n269 : Nat) : Int)) (p4 : ((n270 : Nat) : Int) ≤ 13824) (p5 : 1 ≤ ((n270 : Nat) : Int)) (p6 : c267_total.toInt ≤ ((n269 : Nat) : Int)) (p7 : c267_total.toInt ≤ ((n270 : Nat) : Int)) (p8 : ((n269 : Nat) : Int) ≤ ((n270 : Nat) : Int)) (p9 : ((n270 : Nat) : Int) ≤ ((n269 : Nat) : Int)) (hr_a269 : dz_rg a269 n269 0 1023) : dz_T (f136_X2_listLawful fu c267_total a269 n269 n270 c267_lawfulOnes a270) (fun r => r.1.toInt ≤ 6 ∧ 0 ≤ r.1.toInt ∧ dz_rg r.2 r.1.toInt.toNat 0 5) :=
  t136_X2_listLawful_E_g31 fu hfu c267_total a269 n269 n270 c267_lawfulOnes a270 p0 p1 p2 p3 p4 p5 p6 p7 p8 p9 hr_a269 fu hfu
abbrev p136_X2_listLawful_g32 (fu : Nat) (c267_total : Int32) (a269 : Nat → Int32) (n269 : Nat) (n270 : Nat) (k : Nat) : Prop :=
  (∀ (v1 : Int32) (c267_lawfulOnes : Int32) (a270 : Nat → Int32), v1.toInt ≤ 36 → 0 ≤ v1.toInt → c267_lawfulOnes.toInt ≤ 36 → 0 ≤ c267_lawfulOnes.toInt → c267_lawfulOnes.toInt ≤ v1.toInt → dz_rg a270 c267_lawfulOnes.toInt.toNat 0 35 → 0 + 0 + (36 - v1.toInt) * 12 + 6 ≤ ((k : Nat) : Int) → dz_T ((F136_X2_listLawful fu c267_total a269 n269 n270 k).1 v1 c267_lawfulOnes a270) (fun r => r.1.toInt ≤ 36 ∧ 0 ≤ r.1.toInt ∧ dz_rg r.2 r.1.toInt.toNat 0 35))
set_option maxHeartbeats 1000000 in
set_option maxRecDepth 10000 in
theorem t136_X2_listLawful_h1_g32 (fu : Nat) (hfu : 1000000000000 ≤ fu) (c267_total : Int32) (a269 : Nat → Int32) (n269 : Nat) (n270 : Nat) (p0 : c267_total.toInt ≤ 36) (p1 : 36 ≤ c267_total.toInt) (p2 : ((n269 : Nat) : Int) ≤ 13824) (p3 : 1 ≤ ((n269 : Nat) : Int)) (p4 : ((n270 : Nat) : Int) ≤ 13824) (p5 : 1 ≤ ((n270 : Nat) : Int)) (p6 : c267_total.toInt ≤ ((n269 : Nat) : Int)) (p7 : c267_total.toInt ≤ ((n270 : Nat) : Int)) (p8 : ((n269 : Nat) : Int) ≤ ((n270 : Nat) : Int)) (p9 : ((n270 : Nat) : Int) ≤ ((n269 : Nat) : Int)) (hr_a269 : dz_rg a269 n269 0 1023) (k : Nat) (ih : ∀ j9, j9 < k → p136_X2_listLawful_g32 fu c267_total a269 n269 n270 j9) : ∀ (v1 : Int32) (c267_lawfulOnes : Int32) (a270 : Nat → Int32), v1.toInt ≤ 36 → 0 ≤ v1.toInt → c267_lawfulOnes.toInt ≤ 36 → 0 ≤ c267_lawfulOnes.toInt → c267_lawfulOnes.toInt ≤ v1.toInt → dz_rg a270 c267_lawfulOnes.toInt.toNat 0 35 → 0 + 0 + (36 - v1.toInt) * 12 + 6 ≤ ((k : Nat) : Int) → dz_T ((F136_X2_listLawful fu c267_total a269 n269 n270 k).1 v1 c267_lawfulOnes a270) (fun r => r.1.toInt ≤ 36 ∧ 0 ≤ r.1.toInt ∧ dz_rg r.2 r.1.toInt.toNat 0 35) := by
  intro v1 c267_lawfulOnes a270 i0 i1 i2 i3 i4 hr_a270 hm
  obtain ⟨k0, rfl⟩ : ∃ x, k = x + 1 := ⟨k - 1, by omega⟩
  show dz_T (s136_X2_listLawful_1 fu c267_total a269 n269 n270 (F136_X2_listLawful fu c267_total a269 n269 n270 k0).2  v1 c267_lawfulOnes a270) _
  unfold s136_X2_listLawful_1
  refine dz_Tle (fun h1 => ?_) (fun h1 => ?_)
  · skip
    refine dz_Ts ?_
    dsimp only
    exact ⟨i2, i3, (dz_rgs (hr_a270) (by omega))⟩
  · skip
    refine dz_Tin (by omega) (by omega) ?_
    have e2 := dz_rgat (hr_a269) (i := v1) (by omega) (by omega)
    have e3 := dz_l0
    refine dz_Teq (fun h4 => ?_) (fun h4 => ?_)
    · skip
      refine dz_Tin (by omega) (by omega) ?_
      obtain ⟨k1, rfl⟩ : ∃ x, k0 = x + 1 := ⟨k0 - 1, by omega⟩
      show dz_T (s136_X2_listLawful_2 fu c267_total a269 n269 n270 (F136_X2_listLawful fu c267_total a269 n269 n270 k1).1 v1 (c267_lawfulOnes + (1 : Int32)) (upd a270 c267_lawfulOnes.toNatClampNeg v1)) _
      unfold s136_X2_listLawful_2
      have e5 := dz_l1
      have e6 := dz_add (a := v1) (b := (1 : Int32)) (by omega) (by omega)
      have e7 := dz_add (a := c267_lawfulOnes) (b := (1 : Int32)) (by omega) (by omega)
      exact (ih k1 (by omega)) (v1 + (1 : Int32)) (c267_lawfulOnes + (1 : Int32)) (upd a270 c267_lawfulOnes.toNatClampNeg v1) (by omega) (by omega) (by omega) (by omega) (by omega) (dz_rgx (hr_a270) (k2 := (c267_lawfulOnes + (1 : Int32))) (by omega) (by omega) (by omega) (by omega)) (by omega)
    · skip
      obtain ⟨k2, rfl⟩ : ∃ x, k0 = x + 1 := ⟨k0 - 1, by omega⟩
      show dz_T (s136_X2_listLawful_2 fu c267_total a269 n269 n270 (F136_X2_listLawful fu c267_total a269 n269 n270 k2).1 v1 c267_lawfulOnes a270) _
      unfold s136_X2_listLawful_2
      have e8 := dz_l1
      have e9 := dz_add (a := v1) (b := (1 : Int32)) (by omega) (by omega)
      exact (ih k2 (by omega)) (v1 + (1 : Int32)) c267_lawfulOnes a270 (by omega) (by omega) i2 i3 (by omega) (dz_rgs (hr_a270) (by omega)) (by omega)
theorem t136_X2_listLawful_I_g32 (fu : Nat) (hfu : 1000000000000 ≤ fu) (c267_total : Int32) (a269 : Nat → Int32) (n269 : Nat) (n270 : Nat) (p0 : c267_total.toInt ≤ 36) (p1 : 36 ≤ c267_total.toInt) (p2 : ((n269 : Nat) : Int) ≤ 13824) (p3 : 1 ≤ ((n269 : Nat) : Int)) (p4 : ((n270 : Nat) : Int) ≤ 13824) (p5 : 1 ≤ ((n270 : Nat) : Int)) (p6 : c267_total.toInt ≤ ((n269 : Nat) : Int)) (p7 : c267_total.toInt ≤ ((n270 : Nat) : Int)) (p8 : ((n269 : Nat) : Int) ≤ ((n270 : Nat) : Int)) (p9 : ((n270 : Nat) : Int) ≤ ((n269 : Nat) : Int)) (hr_a269 : dz_rg a269 n269 0 1023) (k : Nat) : p136_X2_listLawful_g32 fu c267_total a269 n269 n270 k := by
  induction k using Nat.strongRecOn with
  | _ k ih => exact t136_X2_listLawful_h1_g32 fu hfu c267_total a269 n269 n270 p0 p1 p2 p3 p4 p5 p6 p7 p8 p9 hr_a269 k ih
set_option maxHeartbeats 1000000 in
set_option maxRecDepth 10000 in
theorem t136_X2_listLawful_E_g32 (fu : Nat) (hfu : 1000000000000 ≤ fu) (c267_total : Int32) (a269 : Nat → Int32) (n269 : Nat) (n270 : Nat) (c267_lawfulOnes : Int32) (a270 : Nat → Int32) (p0 : c267_total.toInt ≤ 36) (p1 : 36 ≤ c267_total.toInt) (p2 : ((n269 : Nat) : Int) ≤ 13824) (p3 : 1 ≤ ((n269 : Nat) : Int)) (p4 : ((n270 : Nat) : Int) ≤ 13824) (p5 : 1 ≤ ((n270 : Nat) : Int)) (p6 : c267_total.toInt ≤ ((n269 : Nat) : Int)) (p7 : c267_total.toInt ≤ ((n270 : Nat) : Int)) (p8 : ((n269 : Nat) : Int) ≤ ((n270 : Nat) : Int)) (p9 : ((n270 : Nat) : Int) ≤ ((n269 : Nat) : Int)) (hr_a269 : dz_rg a269 n269 0 1023) (kv : Nat) (hkv : 1000000000000 ≤ kv) : dz_T (s136_X2_listLawful_0 fu c267_total a269 n269 n270 (F136_X2_listLawful fu c267_total a269 n269 n270 kv).1  c267_lawfulOnes a270) (fun r => r.1.toInt ≤ 36 ∧ 0 ≤ r.1.toInt ∧ dz_rg r.2 r.1.toInt.toNat 0 35) := by
  unfold s136_X2_listLawful_0
  have e1 := dz_l0
  exact (t136_X2_listLawful_I_g32 fu hfu c267_total a269 n269 n270 p0 p1 p2 p3 p4 p5 p6 p7 p8 p9 hr_a269 kv) (0 : Int32) (0 : Int32) a270 (by omega) (by omega) (by omega) (by omega) (by omega) (dz_rgz (by omega)) (by omega)
theorem t136_X2_listLawful_g32 (fu : Nat) (hfu : 1000000000000 ≤ fu) (c267_total : Int32) (a269 : Nat → Int32) (n269 : Nat) (n270 : Nat) (c267_lawfulOnes : Int32) (a270 : Nat → Int32) (p0 : c267_total.toInt ≤ 36) (p1 : 36 ≤ c267_total.toInt) (p2 : ((n269 : Nat) : Int) ≤ 13824) (p3 : 1 ≤ ((n269 : Nat) : Int)) (p4 : ((n270 : Nat) : Int) ≤ 13824) (p5 : 1 ≤ ((n270 : Nat) : Int)) (p6 : c267_total.toInt ≤ ((n269 : Nat) : Int)) (p7 : c267_total.toInt ≤ ((n270 : Nat) : Int)) (p8 : ((n269 : Nat) : Int) ≤ ((n270 : Nat) : Int)) (p9 : ((n270 : Nat) : Int) ≤ ((n269 : Nat) : Int)) (hr_a269 : dz_rg a269 n269 0 1023) : dz_T (f136_X2_listLawful fu c267_total a269 n269 n270 c267_lawfulOnes a270) (fun r => r.1.toInt ≤ 36 ∧ 0 ≤ r.1.toInt ∧ dz_rg r.2 r.1.toInt.toNat 0 35) :=
  t136_X2_listLawful_E_g32 fu hfu c267_total a269 n269 n270 c267_lawfulOnes a270 p0 p1 p2 p3 p4 p5 p6 p7 p8 p9 hr_a269 fu hfu
