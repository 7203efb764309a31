abbrev p270_X11_findNearest_sb (fu : Nat) (κ : Nat) (U : Nat) (c248_groups : Int32) (c248_pots : Int32) (c248_teams : Int32) (c248_groupsNamed : Int32) (c261_groups : Int32) (c261_many : Int32) (c261_everyRank : Int32) (a262 : Nat → Int32) (a263 : Nat → Int32) (a264 : Nat → Int32) (c267_total : Int32) (a268 : Nat → Int32) (a269 : Nat → Int32) (n269 : Nat) (a275 : Nat → Int32) (a276 : Nat → Int32) (c310_rows : Int64) (a311 : Nat → Int64) (k : Nat) : Prop :=
  (∀ (v1 : Int32) (v2 : Int32) (v5 : Int32) (v6 : Int64) (v8 : Int32) (t1000000 : Nat → Int32) (sl : Nat) (c280_fresh : Int32) (a281 : Nat → Int32) (a282 : Nat → Int32) (a283 : Nat → Int32) (c288_fresh : Int32) (a289 : Nat → Int32) (a290 : Nat → Int32) (a291 : Nat → Int32) (c292_firstLevel : Int32) (c292_firstPrefix : Int32) (c292_firstOpen : Int32) (c292_firstLeft : Int32) (a293 : Nat → Int32) (a294 : Nat → Int64) (c295_way : Int32) (a296 : Nat → Int32) (a297 : Nat → Int64) (a298 : Nat → Int32) (a299 : Nat → Int64) (c302_rows : Int64) (c302_fresh : Int32) (a303 : Nat → Int64) (a304 : Nat → Int64), v1.toInt ≤ 4 → 2 ≤ v1.toInt → v2.toInt ≤ 0 → 0 ≤ v2.toInt → v8.toInt ≤ 256 → 0 ≤ v8.toInt → ((sl : Nat) : Int) ≤ 4 → 4 ≤ ((sl : Nat) : Int) → c280_fresh.toInt ≤ 1 → 0 ≤ c280_fresh.toInt → c288_fresh.toInt ≤ 1 → 0 ≤ c288_fresh.toInt → c292_firstLevel.toInt ≤ 4 → 0 ≤ c292_firstLevel.toInt → c292_firstPrefix.toInt ≤ 331775 → 0 ≤ c292_firstPrefix.toInt → c292_firstOpen.toInt ≤ 16777215 → 0 ≤ c292_firstOpen.toInt → c292_firstLeft.toInt ≤ 15 → 0 ≤ c292_firstLeft.toInt → c248_groups.toInt ≤ v1.toInt → v1.toInt ≤ c248_groups.toInt → dz_rg t1000000 4 0 3 → dz_rg a281 601 0 16777215 → dz_rg a282 5 0 14425 → dz_rg a289 601 0 16777215 → dz_rg a290 5 0 14425 → dz_rg a296 4 0 3 → (c280_fresh.toInt = 0 ∨ dz_pm a283 (dz_kp κ)) → 0 + 0 + (256 - v8.toInt) * 16 + 8 ≤ ((k : Nat) : Int) → dz_T ((F270_X11_findNearest fu U c248_groups c248_pots c248_teams c248_groupsNamed c261_groups c261_many c261_everyRank a262 a263 a264 c267_total a268 a269 n269 a275 a276 c310_rows a311 k).1 v1 v2 v5 v6 v8 t1000000 sl c280_fresh a281 a282 a283 c288_fresh a289 a290 a291 c292_firstLevel c292_firstPrefix c292_firstOpen c292_firstLeft a293 a294 c295_way a296 a297 a298 a299 c302_rows c302_fresh a303 a304) (fun r => r.2.1.toInt ≤ 1 ∧ 0 ≤ r.2.1.toInt ∧ r.2.2.2.2.2.1.toInt ≤ 1 ∧ 0 ≤ r.2.2.2.2.2.1.toInt ∧ r.2.2.2.2.2.2.2.2.2.1.toInt ≤ 4 ∧ 0 ≤ r.2.2.2.2.2.2.2.2.2.1.toInt ∧ r.2.2.2.2.2.2.2.2.2.2.1.toInt ≤ 331775 ∧ 0 ≤ r.2.2.2.2.2.2.2.2.2.2.1.toInt ∧ r.2.2.2.2.2.2.2.2.2.2.2.1.toInt ≤ 16777215 ∧ 0 ≤ r.2.2.2.2.2.2.2.2.2.2.2.1.toInt ∧ r.2.2.2.2.2.2.2.2.2.2.2.2.1.toInt ≤ 15 ∧ 0 ≤ r.2.2.2.2.2.2.2.2.2.2.2.2.1.toInt ∧ dz_rg r.2.2.1 601 0 16777215 ∧ dz_rg r.2.2.2.1 5 0 14425 ∧ dz_rg r.2.2.2.2.2.2.1 601 0 16777215 ∧ dz_rg r.2.2.2.2.2.2.2.1 5 0 14425 ∧ dz_rg r.2.2.2.2.2.2.2.2.2.2.2.2.2.2.2.2.1 4 0 3 ∧ (r.2.1.toInt = 0 ∨ dz_pm r.2.2.2.2.1 (dz_kp κ))))
set_option maxHeartbeats 1000000 in
set_option maxRecDepth 10000 in
theorem t270_X11_findNearest_h1_sb (fu : Nat) (hfu : 1000000000000 ≤ fu) (κ : Nat) (hκ : κ < 14) (U : Nat) (c248_groups : Int32) (c248_pots : Int32) (c248_teams : Int32) (c248_groupsNamed : Int32) (c261_groups : Int32) (c261_many : Int32) (c261_everyRank : Int32) (a262 : Nat → Int32) (a263 : Nat → Int32) (a264 : Nat → Int32) (c267_total : Int32) (a268 : Nat → Int32) (a269 : Nat → Int32) (n269 : Nat) (a275 : Nat → Int32) (a276 : Nat → Int32) (c310_rows : Int64) (a311 : Nat → Int64) (p0 : c248_groups.toInt ≤ 4) (p1 : 2 ≤ c248_groups.toInt) (p2 : c248_pots.toInt ≤ 4) (p3 : 0 ≤ c248_pots.toInt) (p4 : c248_teams.toInt ≤ 12) (p5 : 0 ≤ c248_teams.toInt) (p6 : c261_groups.toInt ≤ 4) (p7 : 0 ≤ c261_groups.toInt) (p8 : c261_many.toInt ≤ 24) (p9 : 0 ≤ c261_many.toInt) (p10 : c261_everyRank.toInt ≤ 16777215) (p11 : 0 ≤ c261_everyRank.toInt) (p12 : c267_total.toInt ≤ 13824) (p13 : 1 ≤ c267_total.toInt) (p14 : ((n269 : Nat) : Int) ≤ 13824) (p15 : 1 ≤ ((n269 : Nat) : Int)) (p16 : c267_total.toInt ≤ ((n269 : Nat) : Int)) (p17 : 4 ≤ ((U : Nat) : Int)) (hr_a262 : dz_rg a262 96 0 3) (hr_a263 : dz_rq a263 (dz_kr κ) (dz_kg κ) 0 (((dz_kg κ : Nat) : Int) - 1)) (hr_a264 : dz_rg a264 16 0 16777215) (hr_a268 : dz_pt a268 (dz_kS κ)) (hr_a269 : dz_rg a269 n269 0 1023) (hr_a275 : dz_pm a275 (dz_kp κ)) (hr_a276 : dz_rg a276 4 0 3) (o0 : c248_groups.toInt = ((dz_kg κ : Nat) : Int)) (o1 : c248_pots.toInt = ((dz_kp κ : Nat) : Int)) (o2 : c248_teams.toInt = ((dz_km κ : Nat) : Int)) (o3 : c261_groups.toInt = ((dz_kg κ : Nat) : Int)) (o4 : c261_many.toInt = ((dz_kr κ : Nat) : Int)) (o5 : c261_everyRank.toInt = ((dz_ke κ : Nat) : Int)) (o6 : c267_total.toInt = ((dz_kt κ : Nat) : Int)) (k : Nat) (ih : ∀ j9, j9 < k → p270_X11_findNearest_sb fu κ U c248_groups c248_pots c248_teams c248_groupsNamed c261_groups c261_many c261_everyRank a262 a263 a264 c267_total a268 a269 n269 a275 a276 c310_rows a311 j9) : ∀ (v1 : Int32) (v2 : Int32) (v5 : Int32) (v6 : Int64) (v8 : Int32) (t1000000 : Nat → Int32) (sl : Nat) (c280_fresh : Int32) (a281 : Nat → Int32) (a282 : Nat → Int32) (a283 : Nat → Int32) (c288_fresh : Int32) (a289 : Nat → Int32) (a290 : Nat → Int32) (a291 : Nat → Int32) (c292_firstLevel : Int32) (c292_firstPrefix : Int32) (c292_firstOpen : Int32) (c292_firstLeft : Int32) (a293 : Nat → Int32) (a294 : Nat → Int64) (c295_way : Int32) (a296 : Nat → Int32) (a297 : Nat → Int64) (a298 : Nat → Int32) (a299 : Nat → Int64) (c302_rows : Int64) (c302_fresh : Int32) (a303 : Nat → Int64) (a304 : Nat → Int64), v1.toInt ≤ 4 → 2 ≤ v1.toInt → v2.toInt ≤ 0 → 0 ≤ v2.toInt → v8.toInt ≤ 256 → 0 ≤ v8.toInt → ((sl : Nat) : Int) ≤ 4 → 4 ≤ ((sl : Nat) : Int) → c280_fresh.toInt ≤ 1 → 0 ≤ c280_fresh.toInt → c288_fresh.toInt ≤ 1 → 0 ≤ c288_fresh.toInt → c292_firstLevel.toInt ≤ 4 → 0 ≤ c292_firstLevel.toInt → c292_firstPrefix.toInt ≤ 331775 → 0 ≤ c292_firstPrefix.toInt → c292_firstOpen.toInt ≤ 16777215 → 0 ≤ c292_firstOpen.toInt → c292_firstLeft.toInt ≤ 15 → 0 ≤ c292_firstLeft.toInt → c248_groups.toInt ≤ v1.toInt → v1.toInt ≤ c248_groups.toInt → dz_rg t1000000 4 0 3 → dz_rg a281 601 0 16777215 → dz_rg a282 5 0 14425 → dz_rg a289 601 0 16777215 → dz_rg a290 5 0 14425 → dz_rg a296 4 0 3 → (c280_fresh.toInt = 0 ∨ dz_pm a283 (dz_kp κ)) → 0 + 0 + (256 - v8.toInt) * 16 + 8 ≤ ((k : Nat) : Int) → dz_T ((F270_X11_findNearest fu U c248_groups c248_pots c248_teams c248_groupsNamed c261_groups c261_many c261_everyRank a262 a263 a264 c267_total a268 a269 n269 a275 a276 c310_rows a311 k).1 v1 v2 v5 v6 v8 t1000000 sl c280_fresh a281 a282 a283 c288_fresh a289 a290 a291 c292_firstLevel c292_firstPrefix c292_firstOpen c292_firstLeft a293 a294 c295_way a296 a297 a298 a299 c302_rows c302_fresh a303 a304) (fun r => r.2.1.toInt ≤ 1 ∧ 0 ≤ r.2.1.toInt ∧ r.2.2.2.2.2.1.toInt ≤ 1 ∧ 0 ≤ r.2.2.2.2.2.1.toInt ∧ r.2.2.2.2.2.2.2.2.2.1.toInt ≤ 4 ∧ 0 ≤ r.2.2.2.2.2.2.2.2.2.1.toInt ∧ r.2.2.2.2.2.2.2.2.2.2.1.toInt ≤ 331775 ∧ 0 ≤ r.2.2.2.2.2.2.2.2.2.2.1.toInt ∧ r.2.2.2.2.2.2.2.2.2.2.2.1.toInt ≤ 16777215 ∧ 0 ≤ r.2.2.2.2.2.2.2.2.2.2.2.1.toInt ∧ r.2.2.2.2.2.2.2.2.2.2.2.2.1.toInt ≤ 15 ∧ 0 ≤ r.2.2.2.2.2.2.2.2.2.2.2.2.1.toInt ∧ dz_rg r.2.2.1 601 0 16777215 ∧ dz_rg r.2.2.2.1 5 0 14425 ∧ dz_rg r.2.2.2.2.2.2.1 601 0 16777215 ∧ dz_rg r.2.2.2.2.2.2.2.1 5 0 14425 ∧ dz_rg r.2.2.2.2.2.2.2.2.2.2.2.2.2.2.2.2.1 4 0 3 ∧ (r.2.1.toInt = 0 ∨ dz_pm r.2.2.2.2.1 (dz_kp κ))) := by
  intro v1 v2 v5 v6 v8 t1000000 sl c280_fresh a281 a282 a283 c288_fresh a289 a290 a291 c292_firstLevel c292_firstPrefix c292_firstOpen c292_firstLeft a293 a294 c295_way a296 a297 a298 a299 c302_rows c302_fresh a303 a304 i0 i1 i2 i3 i4 i5 i6 i7 i8 i9 i10 i11 i12 i13 i14 i15 i16 i17 i18 i19 i20 i21 hr_t1000000 hr_a281 hr_a282 hr_a289 hr_a290 hr_a296 hr_a283 hm
  obtain ⟨k0, rfl⟩ : ∃ x, k = x + 1 := ⟨k - 1, by omega⟩
  show dz_T (s270_X11_findNearest_1 fu U c248_groups c248_pots c248_teams c248_groupsNamed c261_groups c261_many c261_everyRank a262 a263 a264 c267_total a268 a269 n269 a275 a276 c310_rows a311 (F270_X11_findNearest fu U c248_groups c248_pots c248_teams c248_groupsNamed c261_groups c261_many c261_everyRank a262 a263 a264 c267_total a268 a269 n269 a275 a276 c310_rows a311 k0).2.1 (F270_X11_findNearest fu U c248_groups c248_pots c248_teams c248_groupsNamed c261_groups c261_many c261_everyRank a262 a263 a264 c267_total a268 a269 n269 a275 a276 c310_rows a311 k0).2.2.1  v1 v2 v5 v6 v8 t1000000 sl c280_fresh a281 a282 a283 c288_fresh a289 a290 a291 c292_firstLevel c292_firstPrefix c292_firstOpen c292_firstLeft a293 a294 c295_way a296 a297 a298 a299 c302_rows c302_fresh a303 a304) _
  unfold s270_X11_findNearest_1
  refine dz_Tg (by omega) ?_
  have e1 := dz_l1
  have e2 := dz_l2
  have e3 := dz_mull (a := (2 : Int32)) (b := v1) 2 (by omega) (by omega) (by omega)
  have e4 := dz_l31
  have e5 := dz_andr (a := ((2 : Int32) * v1)) (b := (31 : Int32)) (by omega)
  have e6 := dz_andl (a := ((2 : Int32) * v1)) (b := (31 : Int32)) (by omega)
  have e7 := dz_shl1 (b := ((2 : Int32) * v1)) 4 8 (by omega) (by omega) (by omega)
  refine dz_Tle (fun h8 => ?_) (fun h8 => ?_)
  · skip
    refine dz_Ts ?_
    dsimp only
    exact ⟨i8, i9, i10, i11, i12, i13, i14, i15, i16, i17, i18, i19, (hr_a281), (hr_a282), (hr_a289), (hr_a290), (hr_a296), hr_a283⟩
  · skip
    have e9 := dz_l0
    refine dz_Tle (fun h10 => ?_) (fun h10 => ?_)
    · skip
      refine dz_Ts ?_
      dsimp only
      exact ⟨i8, i9, i10, i11, i12, i13, i14, i15, i16, i17, i18, i19, (hr_a281), (hr_a282), (hr_a289), (hr_a290), (hr_a296), hr_a283⟩
    · skip
      refine dz_Tb (t126_X4_readRow_m fu hfu _ _ _ (dz_kg κ) (by have := dz_kg4 hκ; omega) (by omega) (hr_t1000000)) (fun r1 q => ?_)
      obtain ⟨q1_0, q1_1, qa1_1, qo1_0⟩ := q
      refine dz_Teq (fun h11 => ?_) (fun h11 => ?_)
      · skip
        obtain ⟨k1, rfl⟩ : ∃ x, k0 = x + 1 := ⟨k0 - 1, by omega⟩
        show dz_T (s270_X11_findNearest_2 fu U c248_groups c248_pots c248_teams c248_groupsNamed c261_groups c261_many c261_everyRank a262 a263 a264 c267_total a268 a269 n269 a275 a276 c310_rows a311 (F270_X11_findNearest fu U c248_groups c248_pots c248_teams c248_groupsNamed c261_groups c261_many c261_everyRank a262 a263 a264 c267_total a268 a269 n269 a275 a276 c310_rows a311 k1).1 v1 v2 v5 v6 v8 r1.2 sl c280_fresh a281 a282 a283 c288_fresh a289 a290 a291 c292_firstLevel c292_firstPrefix c292_firstOpen c292_firstLeft a293 a294 c295_way a296 a297 a298 a299 c302_rows c302_fresh a303 a304) _
        unfold s270_X11_findNearest_2
        refine dz_Tg (by omega) ?_
        have e12 := dz_add (a := v8) (b := (1 : Int32)) (by omega) (by omega)
        exact (ih k1 (by omega)) v1 v2 v5 v6 (v8 + (1 : Int32)) r1.2 sl c280_fresh a281 a282 a283 c288_fresh a289 a290 a291 c292_firstLevel c292_firstPrefix c292_firstOpen c292_firstLeft a293 a294 c295_way a296 a297 a298 a299 c302_rows c302_fresh a303 a304 i0 i1 i2 i3 (by omega) (by omega) i6 i7 i8 i9 i10 i11 i12 i13 i14 i15 i16 i17 i18 i19 i20 i21 (qa1_1) (hr_a281) (hr_a282) (hr_a289) (hr_a290) (hr_a296) hr_a283 (by omega)
      · skip
        refine dz_Teq (fun h13 => ?_) (fun h13 => ?_)
        · skip
          refine dz_Tb (t266_X11_likeAnEarlierOne_s fu hfu κ hκ _ _ _ p0 p1 o0) (fun r2 q => ?_)
          obtain ⟨q2_0, q2_1⟩ := q
          refine dz_Teq (fun h14 => ?_) (fun h14 => ?_)
          · skip
            obtain ⟨k2, rfl⟩ : ∃ x, k0 = x + 1 := ⟨k0 - 1, by omega⟩
            show dz_T (s270_X11_findNearest_3 fu U c248_groups c248_pots c248_teams c248_groupsNamed c261_groups c261_many c261_everyRank a262 a263 a264 c267_total a268 a269 n269 a275 a276 c310_rows a311 (F270_X11_findNearest fu U c248_groups c248_pots c248_teams c248_groupsNamed c261_groups c261_many c261_everyRank a262 a263 a264 c267_total a268 a269 n269 a275 a276 c310_rows a311 k2).2.2.2 v1 v2 v5 v6 v8 r1.2 sl c280_fresh a281 a282 a283 c288_fresh a289 a290 a291 c292_firstLevel c292_firstPrefix c292_firstOpen c292_firstLeft a293 a294 c295_way a296 a297 a298 a299 c302_rows c302_fresh a303 a304) _
            unfold s270_X11_findNearest_3
            refine dz_Tg (by omega) ?_
            refine dz_Teq (fun h15 => ?_) (fun h15 => ?_)
            · skip
              refine dz_Tb (t267_X11_apartByArrangement_s fu hfu κ hκ _ _ _ _ _ _ _ _ _ _ _ _ _ _ _ _ _ _ _ _ _ _ _ _ _ _ _ _ _ _ _ _ _ _ _ _ p0 p1 p2 p3 p4 p5 p6 p7 p8 p9 p10 p11 p12 p13 p14 p15 i8 i9 i12 i13 i14 i15 i16 i17 i18 i19 p16 (hr_a262) (hr_a263) (hr_a264) (hr_a268) (hr_a269) (hr_a275) (qa1_1) (hr_a281) (hr_a282) hr_a283 (hr_a296) o0 o1 o2 o3 o4 o5 o6) (fun r3 q => ?_)
              obtain ⟨q3_0, q3_1, q3_2, q3_3, q3_4, q3_5, q3_6, q3_7, q3_8, q3_9, qa3_2, qa3_3, qa3_4, qa3_9, qa3_12⟩ := q
              obtain ⟨k3, rfl⟩ : ∃ x, k2 = x + 1 := ⟨k2 - 1, by omega⟩
              show dz_T (s270_X11_findNearest_4 fu U c248_groups c248_pots c248_teams c248_groupsNamed c261_groups c261_many c261_everyRank a262 a263 a264 c267_total a268 a269 n269 a275 a276 c310_rows a311 (F270_X11_findNearest fu U c248_groups c248_pots c248_teams c248_groupsNamed c261_groups c261_many c261_everyRank a262 a263 a264 c267_total a268 a269 n269 a275 a276 c310_rows a311 k3).2.1 v1 v2 v5 v6 v8 r3.1 r1.2 sl r3.2.1 r3.2.2.1 r3.2.2.2.1 r3.2.2.2.2.1 c288_fresh a289 a290 a291 r3.2.2.2.2.2.1 r3.2.2.2.2.2.2.1 r3.2.2.2.2.2.2.2.1 r3.2.2.2.2.2.2.2.2.1 r3.2.2.2.2.2.2.2.2.2.1 r3.2.2.2.2.2.2.2.2.2.2.1 r3.2.2.2.2.2.2.2.2.2.2.2.1 r3.2.2.2.2.2.2.2.2.2.2.2.2.1 r3.2.2.2.2.2.2.2.2.2.2.2.2.2.1 r3.2.2.2.2.2.2.2.2.2.2.2.2.2.2.1 r3.2.2.2.2.2.2.2.2.2.2.2.2.2.2.2.1 r3.2.2.2.2.2.2.2.2.2.2.2.2.2.2.2.2.1 r3.2.2.2.2.2.2.2.2.2.2.2.2.2.2.2.2.2.1 r3.2.2.2.2.2.2.2.2.2.2.2.2.2.2.2.2.2.2.1 r3.2.2.2.2.2.2.2.2.2.2.2.2.2.2.2.2.2.2.2) _
              unfold s270_X11_findNearest_4
              refine dz_Tg (by omega) ?_
              refine dz_Tle (fun h16 => ?_) (fun h16 => ?_)
              · skip
                obtain ⟨k4, rfl⟩ : ∃ x, k3 = x + 1 := ⟨k3 - 1, by omega⟩
                show dz_T (s270_X11_findNearest_2 fu U c248_groups c248_pots c248_teams c248_groupsNamed c261_groups c261_many c261_everyRank a262 a263 a264 c267_total a268 a269 n269 a275 a276 c310_rows a311 (F270_X11_findNearest fu U c248_groups c248_pots c248_teams c248_groupsNamed c261_groups c261_many c261_everyRank a262 a263 a264 c267_total a268 a269 n269 a275 a276 c310_rows a311 k4).1 v1 v2 v5 v6 v8 r1.2 sl r3.2.1 r3.2.2.1 r3.2.2.2.1 r3.2.2.2.2.1 c288_fresh a289 a290 a291 r3.2.2.2.2.2.1 r3.2.2.2.2.2.2.1 r3.2.2.2.2.2.2.2.1 r3.2.2.2.2.2.2.2.2.1 r3.2.2.2.2.2.2.2.2.2.1 r3.2.2.2.2.2.2.2.2.2.2.1 r3.2.2.2.2.2.2.2.2.2.2.2.1 r3.2.2.2.2.2.2.2.2.2.2.2.2.1 r3.2.2.2.2.2.2.2.2.2.2.2.2.2.1 r3.2.2.2.2.2.2.2.2.2.2.2.2.2.2.1 r3.2.2.2.2.2.2.2.2.2.2.2.2.2.2.2.1 r3.2.2.2.2.2.2.2.2.2.2.2.2.2.2.2.2.1 r3.2.2.2.2.2.2.2.2.2.2.2.2.2.2.2.2.2.1 r3.2.2.2.2.2.2.2.2.2.2.2.2.2.2.2.2.2.2.1 r3.2.2.2.2.2.2.2.2.2.2.2.2.2.2.2.2.2.2.2) _
                unfold s270_X11_findNearest_2
                refine dz_Tg (by omega) ?_
                have e17 := dz_add (a := v8) (b := (1 : Int32)) (by omega) (by omega)
                exact (ih k4 (by omega)) v1 v2 v5 v6 (v8 + (1 : Int32)) r1.2 sl r3.2.1 r3.2.2.1 r3.2.2.2.1 r3.2.2.2.2.1 c288_fresh a289 a290 a291 r3.2.2.2.2.2.1 r3.2.2.2.2.2.2.1 r3.2.2.2.2.2.2.2.1 r3.2.2.2.2.2.2.2.2.1 r3.2.2.2.2.2.2.2.2.2.1 r3.2.2.2.2.2.2.2.2.2.2.1 r3.2.2.2.2.2.2.2.2.2.2.2.1 r3.2.2.2.2.2.2.2.2.2.2.2.2.1 r3.2.2.2.2.2.2.2.2.2.2.2.2.2.1 r3.2.2.2.2.2.2.2.2.2.2.2.2.2.2.1 r3.2.2.2.2.2.2.2.2.2.2.2.2.2.2.2.1 r3.2.2.2.2.2.2.2.2.2.2.2.2.2.2.2.2.1 r3.2.2.2.2.2.2.2.2.2.2.2.2.2.2.2.2.2.1 r3.2.2.2.2.2.2.2.2.2.2.2.2.2.2.2.2.2.2.1 r3.2.2.2.2.2.2.2.2.2.2.2.2.2.2.2.2.2.2.2 i0 i1 i2 i3 (by omega) (by omega) i6 i7 q3_0 (by first | assumption | omega) i10 i11 (by first | assumption | omega) q3_3 (by first | assumption | omega) q3_5 q3_6 q3_7 q3_8 (by first | assumption | omega) i20 i21 (qa1_1) (qa3_2) (qa3_3) (hr_a289) (hr_a290) (qa3_12) (Or.inr (qa3_4)) (by omega)
              · skip
                refine dz_Tb (t269_X11_bitsOf fu hfu _ _ ) (fun r4 _ => ?_)
                obtain ⟨k5, rfl⟩ : ∃ x, k3 = x + 1 := ⟨k3 - 1, by omega⟩
                show dz_T (s270_X11_findNearest_2 fu U c248_groups c248_pots c248_teams c248_groupsNamed c261_groups c261_many c261_everyRank a262 a263 a264 c267_total a268 a269 n269 a275 a276 c310_rows a311 (F270_X11_findNearest fu U c248_groups c248_pots c248_teams c248_groupsNamed c261_groups c261_many c261_everyRank a262 a263 a264 c267_total a268 a269 n269 a275 a276 c310_rows a311 k5).1 v1 v2 r4 r3.1 v8 r1.2 sl r3.2.1 r3.2.2.1 r3.2.2.2.1 r3.2.2.2.2.1 c288_fresh a289 a290 a291 r3.2.2.2.2.2.1 r3.2.2.2.2.2.2.1 r3.2.2.2.2.2.2.2.1 r3.2.2.2.2.2.2.2.2.1 r3.2.2.2.2.2.2.2.2.2.1 r3.2.2.2.2.2.2.2.2.2.2.1 r3.2.2.2.2.2.2.2.2.2.2.2.1 r3.2.2.2.2.2.2.2.2.2.2.2.2.1 r3.2.2.2.2.2.2.2.2.2.2.2.2.2.1 r3.2.2.2.2.2.2.2.2.2.2.2.2.2.2.1 r3.2.2.2.2.2.2.2.2.2.2.2.2.2.2.2.1 r3.2.2.2.2.2.2.2.2.2.2.2.2.2.2.2.2.1 r3.2.2.2.2.2.2.2.2.2.2.2.2.2.2.2.2.2.1 r3.2.2.2.2.2.2.2.2.2.2.2.2.2.2.2.2.2.2.1 r3.2.2.2.2.2.2.2.2.2.2.2.2.2.2.2.2.2.2.2) _
                unfold s270_X11_findNearest_2
                refine dz_Tg (by omega) ?_
                have e18 := dz_add (a := v8) (b := (1 : Int32)) (by omega) (by omega)
                exact (ih k5 (by omega)) v1 v2 r4 r3.1 (v8 + (1 : Int32)) r1.2 sl r3.2.1 r3.2.2.1 r3.2.2.2.1 r3.2.2.2.2.1 c288_fresh a289 a290 a291 r3.2.2.2.2.2.1 r3.2.2.2.2.2.2.1 r3.2.2.2.2.2.2.2.1 r3.2.2.2.2.2.2.2.2.1 r3.2.2.2.2.2.2.2.2.2.1 r3.2.2.2.2.2.2.2.2.2.2.1 r3.2.2.2.2.2.2.2.2.2.2.2.1 r3.2.2.2.2.2.2.2.2.2.2.2.2.1 r3.2.2.2.2.2.2.2.2.2.2.2.2.2.1 r3.2.2.2.2.2.2.2.2.2.2.2.2.2.2.1 r3.2.2.2.2.2.2.2.2.2.2.2.2.2.2.2.1 r3.2.2.2.2.2.2.2.2.2.2.2.2.2.2.2.2.1 r3.2.2.2.2.2.2.2.2.2.2.2.2.2.2.2.2.2.1 r3.2.2.2.2.2.2.2.2.2.2.2.2.2.2.2.2.2.2.1 r3.2.2.2.2.2.2.2.2.2.2.2.2.2.2.2.2.2.2.2 i0 i1 i2 i3 (by omega) (by omega) i6 i7 q3_0 (by first | assumption | omega) i10 i11 (by first | assumption | omega) q3_3 (by first | assumption | omega) q3_5 q3_6 q3_7 q3_8 (by first | assumption | omega) i20 i21 (qa1_1) (qa3_2) (qa3_3) (hr_a289) (hr_a290) (qa3_12) (Or.inr (qa3_4)) (by omega)
            · skip
              exfalso; omega
          · skip
            obtain ⟨k6, rfl⟩ : ∃ x, k0 = x + 1 := ⟨k0 - 1, by omega⟩
            show dz_T (s270_X11_findNearest_2 fu U c248_groups c248_pots c248_teams c248_groupsNamed c261_groups c261_many c261_everyRank a262 a263 a264 c267_total a268 a269 n269 a275 a276 c310_rows a311 (F270_X11_findNearest fu U c248_groups c248_pots c248_teams c248_groupsNamed c261_groups c261_many c261_everyRank a262 a263 a264 c267_total a268 a269 n269 a275 a276 c310_rows a311 k6).1 v1 v2 v5 v6 v8 r1.2 sl c280_fresh a281 a282 a283 c288_fresh a289 a290 a291 c292_firstLevel c292_firstPrefix c292_firstOpen c292_firstLeft a293 a294 c295_way a296 a297 a298 a299 c302_rows c302_fresh a303 a304) _
            unfold s270_X11_findNearest_2
            refine dz_Tg (by omega) ?_
            have e19 := dz_add (a := v8) (b := (1 : Int32)) (by omega) (by omega)
            exact (ih k6 (by omega)) v1 v2 v5 v6 (v8 + (1 : Int32)) r1.2 sl c280_fresh a281 a282 a283 c288_fresh a289 a290 a291 c292_firstLevel c292_firstPrefix c292_firstOpen c292_firstLeft a293 a294 c295_way a296 a297 a298 a299 c302_rows c302_fresh a303 a304 i0 i1 i2 i3 (by omega) (by omega) i6 i7 i8 i9 i10 i11 i12 i13 i14 i15 i16 i17 i18 i19 i20 i21 (qa1_1) (hr_a281) (hr_a282) (hr_a289) (hr_a290) (hr_a296) hr_a283 (by omega)
        · skip
          exfalso; omega
theorem t270_X11_findNearest_I_sb (fu : Nat) (hfu : 1000000000000 ≤ fu) (κ : Nat) (hκ : κ < 14) (U : Nat) (c248_groups : Int32) (c248_pots : Int32) (c248_teams : Int32) (c248_groupsNamed : Int32) (c261_groups : Int32) (c261_many : Int32) (c261_everyRank : Int32) (a262 : Nat → Int32) (a263 : Nat → Int32) (a264 : Nat → Int32) (c267_total : Int32) (a268 : Nat → Int32) (a269 : Nat → Int32) (n269 : Nat) (a275 : Nat → Int32) (a276 : Nat → Int32) (c310_rows : Int64) (a311 : Nat → Int64) (p0 : c248_groups.toInt ≤ 4) (p1 : 2 ≤ c248_groups.toInt) (p2 : c248_pots.toInt ≤ 4) (p3 : 0 ≤ c248_pots.toInt) (p4 : c248_teams.toInt ≤ 12) (p5 : 0 ≤ c248_teams.toInt) (p6 : c261_groups.toInt ≤ 4) (p7 : 0 ≤ c261_groups.toInt) (p8 : c261_many.toInt ≤ 24) (p9 : 0 ≤ c261_many.toInt) (p10 : c261_everyRank.toInt ≤ 16777215) (p11 : 0 ≤ c261_everyRank.toInt) (p12 : c267_total.toInt ≤ 13824) (p13 : 1 ≤ c267_total.toInt) (p14 : ((n269 : Nat) : Int) ≤ 13824) (p15 : 1 ≤ ((n269 : Nat) : Int)) (p16 : c267_total.toInt ≤ ((n269 : Nat) : Int)) (p17 : 4 ≤ ((U : Nat) : Int)) (hr_a262 : dz_rg a262 96 0 3) (hr_a263 : dz_rq a263 (dz_kr κ) (dz_kg κ) 0 (((dz_kg κ : Nat) : Int) - 1)) (hr_a264 : dz_rg a264 16 0 16777215) (hr_a268 : dz_pt a268 (dz_kS κ)) (hr_a269 : dz_rg a269 n269 0 1023) (hr_a275 : dz_pm a275 (dz_kp κ)) (hr_a276 : dz_rg a276 4 0 3) (o0 : c248_groups.toInt = ((dz_kg κ : Nat) : Int)) (o1 : c248_pots.toInt = ((dz_kp κ : Nat) : Int)) (o2 : c248_teams.toInt = ((dz_km κ : Nat) : Int)) (o3 : c261_groups.toInt = ((dz_kg κ : Nat) : Int)) (o4 : c261_many.toInt = ((dz_kr κ : Nat) : Int)) (o5 : c261_everyRank.toInt = ((dz_ke κ : Nat) : Int)) (o6 : c267_total.toInt = ((dz_kt κ : Nat) : Int)) (k : Nat) : p270_X11_findNearest_sb fu κ U c248_groups c248_pots c248_teams c248_groupsNamed c261_groups c261_many c261_everyRank a262 a263 a264 c267_total a268 a269 n269 a275 a276 c310_rows a311 k := by
  induction k using Nat.strongRecOn with
  | _ k ih => exact t270_X11_findNearest_h1_sb fu hfu κ hκ U c248_groups c248_pots c248_teams c248_groupsNamed c261_groups c261_many c261_everyRank a262 a263 a264 c267_total a268 a269 n269 a275 a276 c310_rows a311 p0 p1 p2 p3 p4 p5 p6 p7 p8 p9 p10 p11 p12 p13 p14 p15 p16 p17 hr_a262 hr_a263 hr_a264 hr_a268 hr_a269 hr_a275 hr_a276 o0 o1 o2 o3 o4 o5 o6 k ih
set_option maxHeartbeats 1000000 in
set_option maxRecDepth 10000 in
theorem t270_X11_findNearest_E_sb (fu : Nat) (hfu : 1000000000000 ≤ fu) (κ : Nat) (hκ : κ < 14) (U : Nat) (c248_groups : Int32) (c248_pots : Int32) (c248_teams : Int32) (c248_groupsNamed : Int32) (c261_groups : Int32) (c261_many : Int32) (c261_everyRank : Int32) (a262 : Nat → Int32) (a263 : Nat → Int32) (a264 : Nat → Int32) (c267_total : Int32) (a268 : Nat → Int32) (a269 : Nat → Int32) (n269 : Nat) (a275 : Nat → Int32) (a276 : Nat → Int32) (c310_rows : Int64) (a311 : Nat → Int64) (v1 : Int32) (v2 : Int32) (c280_fresh : Int32) (a281 : Nat → Int32) (a282 : Nat → Int32) (a283 : Nat → Int32) (c288_fresh : Int32) (a289 : Nat → Int32) (a290 : Nat → Int32) (a291 : Nat → Int32) (c292_firstLevel : Int32) (c292_firstPrefix : Int32) (c292_firstOpen : Int32) (c292_firstLeft : Int32) (a293 : Nat → Int32) (a294 : Nat → Int64) (c295_way : Int32) (a296 : Nat → Int32) (a297 : Nat → Int64) (a298 : Nat → Int32) (a299 : Nat → Int64) (c302_rows : Int64) (c302_fresh : Int32) (a303 : Nat → Int64) (a304 : Nat → Int64) (p0 : c248_groups.toInt ≤ 4) (p1 : 2 ≤ c248_groups.toInt) (p2 : c248_pots.toInt ≤ 4) (p3 : 0 ≤ c248_pots.toInt) (p4 : c248_teams.toInt ≤ 12) (p5 : 0 ≤ c248_teams.toInt) (p6 : c261_groups.toInt ≤ 4) (p7 : 0 ≤ c261_groups.toInt) (p8 : c261_many.toInt ≤ 24) (p9 : 0 ≤ c261_many.toInt) (p10 : c261_everyRank.toInt ≤ 16777215) (p11 : 0 ≤ c261_everyRank.toInt) (p12 : c267_total.toInt ≤ 13824) (p13 : 1 ≤ c267_total.toInt) (p14 : ((n269 : Nat) : Int) ≤ 13824) (p15 : 1 ≤ ((n269 : Nat) : Int)) (p16 : c280_fresh.toInt ≤ 1) (p17 : 0 ≤ c280_fresh.toInt) (p18 : c288_fresh.toInt ≤ 1) (p19 : 0 ≤ c288_fresh.toInt) (p20 : c292_firstLevel.toInt ≤ 4) (p21 : 0 ≤ c292_firstLevel.toInt) (p22 : c292_firstPrefix.toInt ≤ 331775) (p23 : 0 ≤ c292_firstPrefix.toInt) (p24 : c292_firstOpen.toInt ≤ 16777215) (p25 : 0 ≤ c292_firstOpen.toInt) (p26 : c292_firstLeft.toInt ≤ 15) (p27 : 0 ≤ c292_firstLeft.toInt) (p28 : c267_total.toInt ≤ ((n269 : Nat) : Int)) (p29 : 4 ≤ ((U : Nat) : Int)) (p30 : v1.toInt ≤ c248_groups.toInt) (p31 : c248_groups.toInt ≤ v1.toInt) (p32 : v2.toInt ≤ 0) (p33 : 0 ≤ v2.toInt) (hr_a262 : dz_rg a262 96 0 3) (hr_a263 : dz_rq a263 (dz_kr κ) (dz_kg κ) 0 (((dz_kg κ : Nat) : Int) - 1)) (hr_a264 : dz_rg a264 16 0 16777215) (hr_a268 : dz_pt a268 (dz_kS κ)) (hr_a269 : dz_rg a269 n269 0 1023) (hr_a275 : dz_pm a275 (dz_kp κ)) (hr_a276 : dz_rg a276 4 0 3) (hr_a281 : dz_rg a281 601 0 16777215) (hr_a282 : dz_rg a282 5 0 14425) (hr_a283 : (c280_fresh.toInt = 0 ∨ dz_pm a283 (dz_kp κ))) (hr_a289 : dz_rg a289 601 0 16777215) (hr_a290 : dz_rg a290 5 0 14425) (hr_a296 : dz_rg a296 4 0 3) (o0 : c248_groups.toInt = ((dz_kg κ : Nat) : Int)) (o1 : c248_pots.toInt = ((dz_kp κ : Nat) : Int)) (o2 : c248_teams.toInt = ((dz_km κ : Nat) : Int)) (o3 : c261_groups.toInt = ((dz_kg κ : Nat) : Int)) (o4 : c261_many.toInt = ((dz_kr κ : Nat) : Int)) (o5 : c261_everyRank.toInt = ((dz_ke κ : Nat) : Int)) (o6 : c267_total.toInt = ((dz_kt κ : Nat) : Int)) (kv : Nat) (hkv : 1000000000000 ≤ kv) : dz_T (s270_X11_findNearest_0 fu U c248_groups c248_pots c248_teams c248_groupsNamed c261_groups c261_many c261_everyRank a262 a263 a264 c267_total a268 a269 n269 a275 a276 c310_rows a311 (F270_X11_findNearest fu U c248_groups c248_pots c248_teams c248_groupsNamed c261_groups c261_many c261_everyRank a262 a263 a264 c267_total a268 a269 n269 a275 a276 c310_rows a311 kv).1  v1 v2 c280_fresh a281 a282 a283 c288_fresh a289 a290 a291 c292_firstLevel c292_firstPrefix c292_firstOpen c292_firstLeft a293 a294 c295_way a296 a297 a298 a299 c302_rows c302_fresh a303 a304) (fun r => r.2.1.toInt ≤ 1 ∧ 0 ≤ r.2.1.toInt ∧ r.2.2.2.2.2.1.toInt ≤ 1 ∧ 0 ≤ r.2.2.2.2.2.1.toInt ∧ r.2.2.2.2.2.2.2.2.2.1.toInt ≤ 4 ∧ 0 ≤ r.2.2.2.2.2.2.2.2.2.1.toInt ∧ r.2.2.2.2.2.2.2.2.2.2.1.toInt ≤ 331775 ∧ 0 ≤ r.2.2.2.2.2.2.2.2.2.2.1.toInt ∧ r.2.2.2.2.2.2.2.2.2.2.2.1.toInt ≤ 16777215 ∧ 0 ≤ r.2.2.2.2.2.2.2.2.2.2.2.1.toInt ∧ r.2.2.2.2.2.2.2.2.2.2.2.2.1.toInt ≤ 15 ∧ 0 ≤ r.2.2.2.2.2.2.2.2.2.2.2.2.1.toInt ∧ dz_rg r.2.2.1 601 0 16777215 ∧ dz_rg r.2.2.2.1 5 0 14425 ∧ dz_rg r.2.2.2.2.2.2.1 601 0 16777215 ∧ dz_rg r.2.2.2.2.2.2.2.1 5 0 14425 ∧ dz_rg r.2.2.2.2.2.2.2.2.2.2.2.2.2.2.2.2.1 4 0 3 ∧ (r.2.1.toInt = 0 ∨ dz_pm r.2.2.2.2.1 (dz_kp κ))) := by
  unfold s270_X11_findNearest_0
  refine dz_Tg (by omega) ?_
  have e1 := dz_l0
  exact (t270_X11_findNearest_I_sb fu hfu κ hκ U c248_groups c248_pots c248_teams c248_groupsNamed c261_groups c261_many c261_everyRank a262 a263 a264 c267_total a268 a269 n269 a275 a276 c310_rows a311 p0 p1 p2 p3 p4 p5 p6 p7 p8 p9 p10 p11 p12 p13 p14 p15 p28 p29 hr_a262 hr_a263 hr_a264 hr_a268 hr_a269 hr_a275 hr_a276 o0 o1 o2 o3 o4 o5 o6 kv) v1 v2 (0 : Int32) (9223372036854775807 : Int64) (0 : Int32) (jw_l 0 []) (0 + 4) c280_fresh a281 a282 a283 c288_fresh a289 a290 a291 c292_firstLevel c292_firstPrefix c292_firstOpen c292_firstLeft a293 a294 c295_way a296 a297 a298 a299 c302_rows c302_fresh a303 a304 (by first | assumption | omega) (by first | assumption | omega) p32 p33 (by omega) (by omega) (by omega) (by omega) p16 p17 p18 p19 p20 p21 p22 p23 p24 p25 p26 p27 p31 p30 (dz_rg0 (by omega) (by omega)) (hr_a281) (hr_a282) (hr_a289) (hr_a290) (hr_a296) hr_a283 (by omega)
theorem t270_X11_findNearest_sb (fu : Nat) (hfu : 1000000000000 ≤ fu) (κ : Nat) (hκ : κ < 14) (U : Nat) (c248_groups : Int32) (c248_pots : Int32) (c248_teams : Int32) (c248_groupsNamed : Int32) (c261_groups : Int32) (c261_many : Int32) (c261_everyRank : Int32) (a262 : Nat → Int32) (a263 : Nat → Int32) (a264 : Nat → Int32) (c267_total : Int32) (a268 : Nat → Int32) (a269 : Nat → Int32) (n269 : Nat) (a275 : Nat → Int32) (a276 : Nat → Int32) (c310_rows : Int64) (a311 : Nat → Int64) (v1 : Int32) (v2 : Int32) (c280_fresh : Int32) (a281 : Nat → Int32) (a282 : Nat → Int32) (a283 : Nat → Int32) (c288_fresh : Int32) (a289 : Nat → Int32) (a290 : Nat → Int32) (a291 : Nat → Int32) (c292_firstLevel : Int32) (c292_firstPrefix : Int32) (c292_firstOpen : Int32) (c292_firstLeft : Int32) (a293 : Nat → Int32) (a294 : Nat → Int64) (c295_way : Int32) (a296 : Nat → Int32) (a297 : Nat → Int64) (a298 : Nat → Int32) (a299 : Nat → Int64) (c302_rows : Int64) (c302_fresh : Int32) (a303 : Nat → Int64) (a304 : Nat → Int64) (p0 : c248_groups.toInt ≤ 4) (p1 : 2 ≤ c248_groups.toInt) (p2 : c248_pots.toInt ≤ 4) (p3 : 0 ≤ c248_pots.toInt) (p4 : c248_teams.toInt ≤ 12) (p5 : 0 ≤ c248_teams.toInt) (p6 : c261_groups.toInt ≤ 4) (p7 : 0 ≤ c261_groups.toInt) (p8 : c261_many.toInt ≤ 24) (p9 : 0 ≤ c261_many.toInt) (p10 : c261_everyRank.toInt ≤ 16777215) (p11 : 0 ≤ c261_everyRank.toInt) (p12 : c267_total.toInt ≤ 13824) (p13 : 1 ≤ c267_total.toInt) (p14 : ((n269 : Nat) : Int) ≤ 13824) (p15 : 1 ≤ ((n269 : Nat) : Int)) (p16 : c280_fresh.toInt ≤ 1) (p17 : 0 ≤ c280_fresh.toInt) (p18 : c288_fresh.toInt ≤ 1) (p19 : 0 ≤ c288_fresh.toInt) (p20 : c292_firstLevel.toInt ≤ 4) (p21 : 0 ≤ c292_firstLevel.toInt) (p22 : c292_firstPrefix.toInt ≤ 331775) (p23 : 0 ≤ c292_firstPrefix.toInt) (p24 : c292_firstOpen.toInt ≤ 16777215) (p25 : 0 ≤ c292_firstOpen.toInt) (p26 : c292_firstLeft.toInt ≤ 15) (p27 : 0 ≤ c292_firstLeft.toInt) (p28 : c267_total.toInt ≤ ((n269 : Nat) : Int)) (p29 : 4 ≤ ((U : Nat) : Int)) (p30 : v1.toInt ≤ c248_groups.toInt) (p31 : c248_groups.toInt ≤ v1.toInt) (p32 : v2.toInt ≤ 0) (p33 : 0 ≤ v2.toInt) (hr_a262 : dz_rg a262 96 0 3) (hr_a263 : dz_rq a263 (dz_kr κ) (dz_kg κ) 0 (((dz_kg κ : Nat) : Int) - 1)) (hr_a264 : dz_rg a264 16 0 16777215) (hr_a268 : dz_pt a268 (dz_kS κ)) (hr_a269 : dz_rg a269 n269 0 1023) (hr_a275 : dz_pm a275 (dz_kp κ)) (hr_a276 : dz_rg a276 4 0 3) (hr_a281 : dz_rg a281 601 0 16777215) (hr_a282 : dz_rg a282 5 0 14425) (hr_a283 : (c280_fresh.toInt = 0 ∨ dz_pm a283 (dz_kp κ))) (hr_a289 : dz_rg a289 601 0 16777215) (hr_a290 : dz_rg a290 5 0 14425) (hr_a296 : dz_rg a296 4 0 3) (o0 : c248_groups.toInt = ((dz_kg κ : Nat) : Int)) (o1 : c248_pots.toInt = ((dz_kp κ : Nat) : Int)) (o2 : c248_teams.toInt = ((dz_km κ : Nat) : Int)) (o3 : c261_groups.toInt = ((dz_kg κ : Nat) : Int)) (o4 : c261_many.toInt = ((dz_kr κ : Nat) : Int)) (o5 : c261_everyRank.toInt = ((dz_ke κ : Nat) : Int)) (o6 : c267_total.toInt = ((dz_kt κ : Nat) : Int)) : dz_T (f270_X11_findNearest fu U c248_groups c248_pots c248_teams c248_groupsNamed c261_groups c261_many c261_everyRank a262 a263 a264 c267_total a268 a269 n269 a275 a276 c310_rows a311 v1 v2 c280_fresh a281 a282 a283 c288_fresh a289 a290 a291 c292_firstLevel c292_firstPrefix c292_firstOpen c292_firstLeft a293 a294 c295_way a296 a297 a298 a299 c302_rows c302_fresh a303 a304) (fun r => r.2.1.toInt ≤ 1 ∧ 0 ≤ r.2.1.toInt ∧ r.2.2.2.2.2.1.toInt ≤ 1 ∧ 0 ≤ r.2.2.2.2.2.1.toInt ∧ r.2.2.2.2.2.2.2.2.2.1.toInt ≤ 4 ∧ 0 ≤ r.2.2.2.2.2.2.2.2.2.1.toInt ∧ r.2.2.2.2.2.2.2.2.2.2.1.toInt ≤ 331775 ∧ 0 ≤ r.2.2.2.2.2.2.2.2.2.2.1.toInt ∧ r.2.2.2.2.2.2.2.2.2.2.2.1.toInt ≤ 16777215 ∧ 0 ≤ r.2.2.2.2.2.2.2.2.2.2.2.1.toInt ∧ r.2.2.2.2.2.2.2.2.2.2.2.2.1.toInt ≤ 15 ∧ 0 ≤ r.2.2.2.2.2.2.2.2.2.2.2.2.1.toInt ∧ dz_rg r.2.2.1 601 0 16777215 ∧ dz_rg r.2.2.2.1 5 0 14425 ∧ dz_rg r.2.2.2.2.2.2.1 601 0 16777215 ∧ dz_rg r.2.2.2.2.2.2.2.1 5 0 14425 ∧ dz_rg r.2.2.2.2.2.2.2.2.2.2.2.2.2.2.2.2.1 4 0 3 ∧ (r.2.1.toInt = 0 ∨ dz_pm r.2.2.2.2.1 (dz_kp κ))) :=
  t270_X11_findNearest_E_sb fu hfu κ hκ U c248_groups c248_pots c248_teams c248_groupsNamed c261_groups c261_many c261_everyRank a262 a263 a264 c267_total a268 a269 n269 a275 a276 c310_rows a311 v1 v2 c280_fresh a281 a282 a283 c288_fresh a289 a290 a291 c292_firstLevel c292_firstPrefix c292_firstOpen c292_firstLeft a293 a294 c295_way a296 a297 a298 a299 c302_rows c302_fresh a303 a304 p0 p1 p2 p3 p4 p5 p6 p7 p8 p9 p10 p11 p12 p13 p14 p15 p16 p17 p18 p19 p20 p21 p22 p23 p24 p25 p26 p27 p28 p29 p30 p31 p32 p33 hr_a262 hr_a263 hr_a264 hr_a268 hr_a269 hr_a275 hr_a276 hr_a281 hr_a282 hr_a283 hr_a289 hr_a290 hr_a296 o0 o1 o2 o3 o4 o5 o6 fu hfu
set_option maxHeartbeats 1000000 in
set_option maxRecDepth 10000 in
theorem t271_X11_nearest_s (fu : Nat) (hfu : 1000000000000 ≤ fu) (κ : Nat) (hκ : κ < 14) (U : Nat) (c248_groups : Int32) (c248_pots : Int32) (c248_teams : Int32) (c248_groupsNamed : Int32) (c261_groups : Int32) (c261_many : Int32) (c261_everyRank : Int32) (a262 : Nat → Int32) (a263 : Nat → Int32) (a264 : Nat → Int32) (c267_total : Int32) (c267_lawfulOnes : Int32) (a268 : Nat → Int32) (a269 : Nat → Int32) (n269 : Nat) (a275 : Nat → Int32) (a276 : Nat → Int32) (v1 : Int32) (c73_nearestOrder : Int32) (c73_nearestArrangement : Int32) (c280_fresh : Int32) (a281 : Nat → Int32) (a282 : Nat → Int32) (a283 : Nat → Int32) (c288_fresh : Int32) (a289 : Nat → Int32) (a290 : Nat → Int32) (a291 : Nat → Int32) (c292_firstLevel : Int32) (c292_firstPrefix : Int32) (c292_firstOpen : Int32) (c292_firstLeft : Int32) (a293 : Nat → Int32) (a294 : Nat → Int64) (c295_way : Int32) (a296 : Nat → Int32) (a297 : Nat → Int64) (a298 : Nat → Int32) (a299 : Nat → Int64) (c302_rows : Int64) (c302_fresh : Int32) (a303 : Nat → Int64) (a304 : Nat → Int64) (c310_rows : Int64) (c310_fresh : Int32) (a311 : Nat → Int64) (a312 : Nat → Int64) (c316_rows : Int64) (c316_fresh : Int32) (a317 : Nat → Int64) (a318 : Nat → Int64) (c322_rows : Int64) (c322_fresh : Int32) (a323 : Nat → Int64) (a324 : Nat → Int64) (p0 : c248_groups.toInt ≤ 4) (p1 : 2 ≤ c248_groups.toInt) (p2 : c248_pots.toInt ≤ 4) (p3 : 0 ≤ c248_pots.toInt) (p4 : c248_teams.toInt ≤ 12) (p5 : 0 ≤ c248_teams.toInt) (p6 : c261_groups.toInt ≤ 4) (p7 : 0 ≤ c261_groups.toInt) (p8 : c261_many.toInt ≤ 24) (p9 : 0 ≤ c261_many.toInt) (p10 : c261_everyRank.toInt ≤ 16777215) (p11 : 0 ≤ c261_everyRank.toInt) (p12 : c267_total.toInt ≤ 13824) (p13 : 1 ≤ c267_total.toInt) (p14 : c267_lawfulOnes.toInt ≤ 13824) (p15 : 0 ≤ c267_lawfulOnes.toInt) (p16 : ((n269 : Nat) : Int) ≤ 13824) (p17 : 1 ≤ ((n269 : Nat) : Int)) (p18 : c280_fresh.toInt ≤ 1) (p19 : 0 ≤ c280_fresh.toInt) (p20 : c288_fresh.toInt ≤ 1) (p21 : 0 ≤ c288_fresh.toInt) (p22 : c292_firstLevel.toInt ≤ 4) (p23 : 0 ≤ c292_firstLevel.toInt) (p24 : c292_firstPrefix.toInt ≤ 331775) (p25 : 0 ≤ c292_firstPrefix.toInt) (p26 : c292_firstOpen.toInt ≤ 16777215) (p27 : 0 ≤ c292_firstOpen.toInt) (p28 : c292_firstLeft.toInt ≤ 15) (p29 : 0 ≤ c292_firstLeft.toInt) (p30 : c267_total.toInt ≤ ((n269 : Nat) : Int)) (p31 : c267_lawfulOnes.toInt ≤ c267_total.toInt) (hr_a262 : dz_rg a262 96 0 3) (hr_a263 : dz_rq a263 (dz_kr κ) (dz_kg κ) 0 (((dz_kg κ : Nat) : Int) - 1)) (hr_a264 : dz_rg a264 16 0 16777215) (hr_a268 : dz_pt a268 (dz_kS κ)) (hr_a269 : dz_rg a269 n269 0 1023) (hr_a275 : dz_pm a275 (dz_kp κ)) (hr_a276 : dz_rg a276 4 0 3) (hr_a281 : dz_rg a281 601 0 16777215) (hr_a282 : dz_rg a282 5 0 14425) (hr_a283 : (c280_fresh.toInt = 0 ∨ dz_pm a283 (dz_kp κ))) (hr_a289 : dz_rg a289 601 0 16777215) (hr_a290 : dz_rg a290 5 0 14425) (hr_a296 : dz_rg a296 4 0 3) (o0 : 4 ≤ U) (o1 : c248_groups.toInt = ((dz_kg κ : Nat) : Int)) (o2 : c248_pots.toInt = ((dz_kp κ : Nat) : Int)) (o3 : c248_teams.toInt = ((dz_km κ : Nat) : Int)) (o4 : c261_groups.toInt = ((dz_kg κ : Nat) : Int)) (o5 : c261_many.toInt = ((dz_kr κ : Nat) : Int)) (o6 : c261_everyRank.toInt = ((dz_ke κ : Nat) : Int)) (o7 : c267_total.toInt = ((dz_kt κ : Nat) : Int)) : dz_T (f271_X11_nearest fu U c248_groups c248_pots c248_teams c248_groupsNamed c261_groups c261_many c261_everyRank a262 a263 a264 c267_total c267_lawfulOnes a268 a269 n269 a275 a276 v1 c73_nearestOrder c73_nearestArrangement c280_fresh a281 a282 a283 c288_fresh a289 a290 a291 c292_firstLevel c292_firstPrefix c292_firstOpen c292_firstLeft a293 a294 c295_way a296 a297 a298 a299 c302_rows c302_fresh a303 a304 c310_rows c310_fresh a311 a312 c316_rows c316_fresh a317 a318 c322_rows c322_fresh a323 a324) (fun r => r.2.2.2.1.toInt ≤ 1 ∧ 0 ≤ r.2.2.2.1.toInt ∧ r.2.2.2.2.2.2.2.1.toInt ≤ 1 ∧ 0 ≤ r.2.2.2.2.2.2.2.1.toInt ∧ r.2.2.2.2.2.2.2.2.2.2.2.1.toInt ≤ 4 ∧ 0 ≤ r.2.2.2.2.2.2.2.2.2.2.2.1.toInt ∧ r.2.2.2.2.2.2.2.2.2.2.2.2.1.toInt ≤ 331775 ∧ 0 ≤ r.2.2.2.2.2.2.2.2.2.2.2.2.1.toInt ∧ r.2.2.2.2.2.2.2.2.2.2.2.2.2.1.toInt ≤ 16777215 ∧ 0 ≤ r.2.2.2.2.2.2.2.2.2.2.2.2.2.1.toInt ∧ r.2.2.2.2.2.2.2.2.2.2.2.2.2.2.1.toInt ≤ 15 ∧ 0 ≤ r.2.2.2.2.2.2.2.2.2.2.2.2.2.2.1.toInt ∧ dz_rg r.2.2.2.2.1 601 0 16777215 ∧ dz_rg r.2.2.2.2.2.1 5 0 14425 ∧ dz_rg r.2.2.2.2.2.2.2.2.1 601 0 16777215 ∧ dz_rg r.2.2.2.2.2.2.2.2.2.1 5 0 14425 ∧ dz_rg r.2.2.2.2.2.2.2.2.2.2.2.2.2.2.2.2.2.2.1 4 0 3 ∧ (r.2.2.2.1.toInt = 0 ∨ dz_pm r.2.2.2.2.2.2.1 (dz_kp κ))) := by
  unfold f271_X11_nearest s271_X11_nearest_0
  have e1 := dz_l0
  refine dz_Teq (fun h2 => ?_) (fun h2 => ?_)
  · skip
    have e3 := dz_lm2
    refine dz_Ts ?_
    dsimp only
    exact ⟨p18, p19, p20, p21, p22, p23, p24, p25, p26, p27, p28, p29, (hr_a281), (hr_a282), (hr_a289), (hr_a290), (hr_a296), hr_a283⟩
  · skip
    have e4 := dz_l1
    refine dz_Tb (t245_X11_chancesAtStart_s fu hfu κ hκ _ _ _ _ _ _ _ _ _ _ _ _ _ _ _ _ _ _ _ _ _ _ _ _ _ _ _ _ _ _ _ _ _ _ _ _ _ _ _ _ _ _ p0 p1 p2 p3 p6 p7 p8 p9 p10 p11 p12 p13 p16 p17 p18 p19 p22 p23 p24 p25 p26 p27 p28 p29 p30 (by omega) (by omega) (hr_a262) (hr_a263) (hr_a264) (hr_a268) (hr_a269) (hr_a275) (hr_a276) (hr_a281) (hr_a282) hr_a283 (hr_a296) o1 o2 o4 o5 o6 o7) (fun r1 q => ?_)
    obtain ⟨q1_0, q1_1, q1_2, q1_3, q1_4, q1_5, q1_6, q1_7, q1_8, q1_9, q1_10, q1_11, q1_12, qa1_2, qa1_3, qa1_12, qa1_4⟩ := q
    refine dz_Ti (fun h5 => ?_) (fun h5 => ?_)
    · skip
      exfalso; omega
    · skip
      refine dz_Ti (fun h6 => ?_) (fun h6 => ?_)
      · skip
        refine dz_Teq (fun h7 => ?_) (fun h7 => ?_)
        · skip
          have e8 := dz_lm3
          refine dz_Teq (fun h9 => ?_) (fun h9 => ?_)
          · skip
            refine dz_Tg (by omega) ?_
            refine dz_Tb (t270_X11_findNearest_sa fu hfu κ hκ _ _ _ _ _ _ _ _ _ _ _ _ _ _ _ _ _ _ _ _ _ _ _ _ _ _ _ _ _ _ _ _ _ _ _ _ _ _ _ _ _ _ _ _ p0 p1 p2 p3 p4 p5 p6 p7 p8 p9 p10 p11 p12 p13 p16 p17 q1_1 q1_2 p20 p21 q1_3 q1_4 q1_5 q1_6 q1_7 q1_8 q1_9 q1_10 p30 (by first | assumption | omega) (by first | assumption | omega) (by first | assumption | omega) (by omega) (by omega) (hr_a262) (hr_a263) (hr_a264) (hr_a268) (hr_a269) (hr_a275) (hr_a276) (qa1_2) (qa1_3) qa1_4 (hr_a289) (hr_a290) (qa1_12) o1 o2 o3 o4 o5 o6 o7) (fun r2 q => ?_)
            obtain ⟨q2_0, q2_1, q2_2, q2_3, q2_4, q2_5, q2_6, q2_7, q2_8, q2_9, q2_10, q2_11, qa2_2, qa2_3, qa2_6, qa2_7, qa2_16, qa2_4⟩ := q
            unfold d271_X11_nearest_2 s271_X11_nearest_2
            refine dz_Tg (by omega) ?_
            refine dz_Ts ?_
            dsimp only
            exact ⟨q2_0, q2_1, q2_2, q2_3, q2_4, q2_5, q2_6, q2_7, q2_8, q2_9, q2_10, q2_11, (qa2_2), (qa2_3), (qa2_6), (qa2_7), (qa2_16), qa2_4⟩
          · skip
            unfold d271_X11_nearest_2 s271_X11_nearest_2
            refine dz_Tg (by omega) ?_
            refine dz_Ts ?_
            dsimp only
            exact ⟨q1_1, q1_2, p20, p21, q1_3, q1_4, q1_5, q1_6, q1_7, q1_8, q1_9, q1_10, (qa1_2), (qa1_3), (hr_a289), (hr_a290), (qa1_12), qa1_4⟩
        · skip
          refine dz_Teq (fun h10 => ?_) (fun h10 => ?_)
          · skip
            have e11 := dz_lm3
            refine dz_Teq (fun h12 => ?_) (fun h12 => ?_)
            · skip
              refine dz_Tg (by omega) ?_
              refine dz_Tb (t270_X11_findNearest_sb fu hfu κ hκ _ _ _ _ _ _ _ _ _ _ _ _ _ _ _ _ _ _ _ _ _ _ _ _ _ _ _ _ _ _ _ _ _ _ _ _ _ _ _ _ _ _ _ _ p0 p1 p2 p3 p4 p5 p6 p7 p8 p9 p10 p11 p12 p13 p16 p17 q1_1 q1_2 p20 p21 q1_3 q1_4 q1_5 q1_6 q1_7 q1_8 q1_9 q1_10 p30 (by first | assumption | omega) (by first | assumption | omega) (by first | assumption | omega) (by omega) (by omega) (hr_a262) (hr_a263) (hr_a264) (hr_a268) (hr_a269) (hr_a275) (hr_a276) (qa1_2) (qa1_3) qa1_4 (hr_a289) (hr_a290) (qa1_12) o1 o2 o3 o4 o5 o6 o7) (fun r3 q => ?_)
              obtain ⟨q3_0, q3_1, q3_2, q3_3, q3_4, q3_5, q3_6, q3_7, q3_8, q3_9, q3_10, q3_11, qa3_2, qa3_3, qa3_6, qa3_7, qa3_16, qa3_4⟩ := q
              unfold d271_X11_nearest_1 s271_X11_nearest_1
              refine dz_Tg (by omega) ?_
              refine dz_Ts ?_
              dsimp only
              exact ⟨q3_0, q3_1, q3_2, q3_3, q3_4, q3_5, q3_6, q3_7, q3_8, q3_9, q3_10, q3_11, (qa3_2), (qa3_3), (qa3_6), (qa3_7), (qa3_16), qa3_4⟩
            · skip
              unfold d271_X11_nearest_1 s271_X11_nearest_1
              refine dz_Tg (by omega) ?_
              refine dz_Ts ?_
              dsimp only
              exact ⟨q1_1, q1_2, p20, p21, q1_3, q1_4, q1_5, q1_6, q1_7, q1_8, q1_9, q1_10, (qa1_2), (qa1_3), (hr_a289), (hr_a290), (qa1_12), qa1_4⟩
          · skip
            have e13 := dz_lm1
            refine dz_Ts ?_
            dsimp only
            exact ⟨q1_1, q1_2, p20, p21, q1_3, q1_4, q1_5, q1_6, q1_7, q1_8, q1_9, q1_10, (qa1_2), (qa1_3), (hr_a289), (hr_a290), (qa1_12), qa1_4⟩
      · skip
        exfalso; omega
abbrev p272_X11_leads_s (fu : Nat) (κ : Nat) (c248_groups : Int32) (c248_pots : Int32) (c261_groups : Int32) (c261_many : Int32) (a262 : Nat → Int32) (a264 : Nat → Int32) (c267_total : Int32) (c267_lawfulOnes : Int32) (a268 : Nat → Int32) (a269 : Nat → Int32) (n269 : Nat) (a275 : Nat → Int32) (a276 : Nat → Int32) (k : Nat) : Prop :=
  (∀ (v1 : Int32) (v3 : Int32) (v4 : Int32) (v5 : Int32) (c280_fresh : Int32) (a281 : Nat → Int32) (a282 : Nat → Int32) (a283 : Nat → Int32), 1 ≤ c267_lawfulOnes.toInt → v1.toInt ≤ 13823 → 0 ≤ v1.toInt → v4.toInt ≤ 331775 → 0 ≤ v4.toInt → v5.toInt ≤ 4 → 0 ≤ v5.toInt → c280_fresh.toInt ≤ 1 → 1 ≤ c280_fresh.toInt → v1.toInt + 1 ≤ ((n269 : Nat) : Int) → v1.toInt + 1 ≤ c267_total.toInt → v5.toInt ≤ c248_pots.toInt → dz_rg a281 601 0 16777215 → dz_rg a282 5 0 14425 → dz_pm a283 (dz_kp κ) → ((v5.toInt = 0 ∧ v4.toInt < 1) ∨ (v5.toInt = 1 ∧ v4.toInt < 24) ∨ (v5.toInt = 2 ∧ v4.toInt < 576) ∨ (v5.toInt = 3 ∧ v4.toInt < 13824) ∨ (v5.toInt = 4 ∧ v4.toInt < 331776)) → 0 + 0 + (4 - v5.toInt) * 84 + 6 ≤ ((k : Nat) : Int) → dz_T ((F272_X11_leads fu c248_groups c248_pots c261_groups c261_many a262 a264 c267_total c267_lawfulOnes a268 a269 n269 a275 a276 k).1 v1 v3 v4 v5 c280_fresh a281 a282 a283) (fun r => r.2.1.toInt ≤ 1 ∧ 0 ≤ r.2.1.toInt ∧ dz_rg r.2.2.1 601 0 16777215 ∧ dz_rg r.2.2.2.1 5 0 14425 ∧ (r.2.1.toInt = 0 ∨ dz_pm r.2.2.2.2 (dz_kp κ)))) ∧ (∀ (v1 : Int32) (v3 : Int32) (v4 : Int32) (v5 : Int32) (v6 : Int32) (v7 : Int32) (v8 : Int32) (c280_fresh : Int32) (a281 : Nat → Int32) (a282 : Nat → Int32) (a283 : Nat → Int32), 1 ≤ c248_pots.toInt → 1 ≤ c267_lawfulOnes.toInt → v1.toInt ≤ 13823 → 0 ≤ v1.toInt → v4.toInt ≤ 331774 → 0 ≤ v4.toInt → v5.toInt ≤ 3 → 0 ≤ v5.toInt → v6.toInt ≤ 23 → 0 ≤ v6.toInt → v7.toInt ≤ 16777215 → 0 ≤ v7.toInt → v8.toInt ≤ 4 → 0 ≤ v8.toInt → c280_fresh.toInt ≤ 1 → 1 ≤ c280_fresh.toInt → v1.toInt + 1 ≤ ((n269 : Nat) : Int) → v1.toInt + 1 ≤ c267_total.toInt → v5.toInt + 1 ≤ c248_pots.toInt → v6.toInt + 1 ≤ ((n269 : Nat) : Int) → v6.toInt + 1 ≤ c267_total.toInt → v6.toInt ≤ c261_many.toInt → v6.toInt ≤ v1.toInt → v8.toInt ≤ c248_groups.toInt → dz_rg a281 601 0 16777215 → dz_rg a282 5 0 14425 → dz_pm a283 (dz_kp κ) → ((v5.toInt = 0 ∧ v4.toInt < 1) ∨ (v5.toInt = 1 ∧ v4.toInt < 24) ∨ (v5.toInt = 2 ∧ v4.toInt < 576) ∨ (v5.toInt = 3 ∧ v4.toInt < 13824) ∨ (v5.toInt = 4 ∧ v4.toInt < 331776)) → 0 + 0 + ((4 - v5.toInt) - 1) * 84 + 0 + (4 - v8.toInt) * 12 + 12 ≤ ((k : Nat) : Int) → dz_T ((F272_X11_leads fu c248_groups c248_pots c261_groups c261_many a262 a264 c267_total c267_lawfulOnes a268 a269 n269 a275 a276 k).2 v1 v3 v4 v5 v6 v7 v8 c280_fresh a281 a282 a283) (fun r => r.2.1.toInt ≤ 1 ∧ 0 ≤ r.2.1.toInt ∧ dz_rg r.2.2.1 601 0 16777215 ∧ dz_rg r.2.2.2.1 5 0 14425 ∧ (r.2.1.toInt = 0 ∨ dz_pm r.2.2.2.2 (dz_kp κ))))
set_option maxHeartbeats 1000000 in
set_option maxRecDepth 10000 in
theorem t272_X11_leads_h1_s (fu : Nat) (hfu : 1000000000000 ≤ fu) (κ : Nat) (hκ : κ < 14) (c248_groups : Int32) (c248_pots : Int32) (c261_groups : Int32) (c261_many : Int32) (a262 : Nat → Int32) (a264 : Nat → Int32) (c267_total : Int32) (c267_lawfulOnes : Int32) (a268 : Nat → Int32) (a269 : Nat → Int32) (n269 : Nat) (a275 : Nat → Int32) (a276 : Nat → Int32) (p0 : c248_groups.toInt ≤ 4) (p1 : 2 ≤ c248_groups.toInt) (p2 : c248_pots.toInt ≤ 4) (p3 : 0 ≤ c248_pots.toInt) (p4 : c261_groups.toInt ≤ 4) (p5 : 0 ≤ c261_groups.toInt) (p6 : c261_many.toInt ≤ 24) (p7 : 0 ≤ c261_many.toInt) (p8 : c267_total.toInt ≤ 13824) (p9 : 1 ≤ c267_total.toInt) (p10 : c267_lawfulOnes.toInt ≤ 13824) (p11 : 0 ≤ c267_lawfulOnes.toInt) (p12 : ((n269 : Nat) : Int) ≤ 13824) (p13 : 1 ≤ ((n269 : Nat) : Int)) (p14 : c267_total.toInt ≤ ((n269 : Nat) : Int)) (p15 : c267_lawfulOnes.toInt ≤ c267_total.toInt) (hr_a262 : dz_rg a262 96 0 3) (hr_a264 : dz_rg a264 16 0 16777215) (hr_a268 : dz_pt a268 (dz_kS κ)) (hr_a269 : dz_rg a269 n269 0 1023) (hr_a275 : dz_pm a275 (dz_kp κ)) (hr_a276 : dz_rg a276 4 0 3) (o0 : c248_groups.toInt = ((dz_kg κ : Nat) : Int)) (o1 : c248_pots.toInt = ((dz_kp κ : Nat) : Int)) (o2 : c261_groups.toInt = ((dz_kg κ : Nat) : Int)) (o3 : c261_many.toInt = ((dz_kr κ : Nat) : Int)) (o4 : c267_total.toInt = ((dz_kt κ : Nat) : Int)) (k : Nat) (ih : ∀ j9, j9 < k → p272_X11_leads_s fu κ c248_groups c248_pots c261_groups c261_many a262 a264 c267_total c267_lawfulOnes a268 a269 n269 a275 a276 j9) : ∀ (v1 : Int32) (v3 : Int32) (v4 : Int32) (v5 : Int32) (c280_fresh : Int32) (a281 : Nat → Int32) (a282 : Nat → Int32) (a283 : Nat → Int32), 1 ≤ c267_lawfulOnes.toInt → v1.toInt ≤ 13823 → 0 ≤ v1.toInt → v4.toInt ≤ 331775 → 0 ≤ v4.toInt → v5.toInt ≤ 4 → 0 ≤ v5.toInt → c280_fresh.toInt ≤ 1 → 1 ≤ c280_fresh.toInt → v1.toInt + 1 ≤ ((n269 : Nat) : Int) → v1.toInt + 1 ≤ c267_total.toInt → v5.toInt ≤ c248_pots.toInt → dz_rg a281 601 0 16777215 → dz_rg a282 5 0 14425 → dz_pm a283 (dz_kp κ) → ((v5.toInt = 0 ∧ v4.toInt < 1) ∨ (v5.toInt = 1 ∧ v4.toInt < 24) ∨ (v5.toInt = 2 ∧ v4.toInt < 576) ∨ (v5.toInt = 3 ∧ v4.toInt < 13824) ∨ (v5.toInt = 4 ∧ v4.toInt < 331776)) → 0 + 0 + (4 - v5.toInt) * 84 + 6 ≤ ((k : Nat) : Int) → dz_T ((F272_X11_leads fu c248_groups c248_pots c261_groups c261_many a262 a264 c267_total c267_lawfulOnes a268 a269 n269 a275 a276 k).1 v1 v3 v4 v5 c280_fresh a281 a282 a283) (fun r => r.2.1.toInt ≤ 1 ∧ 0 ≤ r.2.1.toInt ∧ dz_rg r.2.2.1 601 0 16777215 ∧ dz_rg r.2.2.2.1 5 0 14425 ∧ (r.2.1.toInt = 0 ∨ dz_pm r.2.2.2.2 (dz_kp κ))) := by
  intro v1 v3 v4 v5 c280_fresh a281 a282 a283 i0 i1 i2 i3 i4 i5 i6 i7 i8 i9 i10 i11 hr_a281 hr_a282 hr_a283 x0 hm
  obtain ⟨k0, rfl⟩ : ∃ x, k = x + 1 := ⟨k - 1, by omega⟩
  show dz_T (s272_X11_leads_1 fu c248_groups c248_pots c261_groups c261_many a262 a264 c267_total c267_lawfulOnes a268 a269 n269 a275 a276 (F272_X11_leads fu c248_groups c248_pots c261_groups c261_many a262 a264 c267_total c267_lawfulOnes a268 a269 n269 a275 a276 k0).2  v1 v3 v4 v5 c280_fresh a281 a282 a283) _
  unfold s272_X11_leads_1
  refine dz_Tle (fun h1 => ?_) (fun h1 => ?_)
  · skip
    refine dz_Ts ?_
    dsimp only
    exact ⟨i7, (by first | assumption | omega), (hr_a281), (hr_a282), (Or.inr (hr_a283))⟩
  · skip
    refine dz_Tbe (show f141_X2_rankIn fu c261_many a268 v1 v5 = (if dz_in v5 4 then (if ((a268 v5.toNatClampNeg) ≤ (0 : Int32)) then (some (0 : Int32)) else (if (c261_many ≤ (0 : Int32)) then (some (0 : Int32)) else (if (¬ ((a268 v5.toNatClampNeg) = (0 : Int32))) then (if (¬ (c261_many = (0 : Int32))) then (some (dz_rem (v1 / (a268 v5.toNatClampNeg)) c261_many)) else none) else none))) else none) from rfl) ?_
    refine dz_Tinb (by omega) (by omega) ?_
    have e2 := dz_kSat (hr_a268) (i := v5) hκ (by omega) (by omega)
    have e3 := dz_l0
    refine dz_Tleb (fun h4 => ?_) (fun h4 => ?_)
    · skip
      exfalso; omega
    · skip
      refine dz_Tleb (fun h5 => ?_) (fun h5 => ?_)
      · skip
        refine dz_Tsb ?_
        refine dz_Tb (t180_X10_ranksOpen fu hfu _ _ _ _ (by first | assumption | omega) (hr_a281) (hr_a282)) (fun r2 q => ?_)
        obtain ⟨q2_0, q2_1⟩ := q
        exact (ih k0 (by omega)).2 v1 v3 v4 v5 (0 : Int32) r2 (0 : Int32) c280_fresh a281 a282 a283 (by first | assumption | omega) i0 i1 i2 (by first | assumption | omega) i4 (by first | assumption | omega) i6 (by omega) (by omega) q2_0 q2_1 (by omega) (by omega) i7 i8 i9 i10 (by first | assumption | omega) (by omega) (by omega) (by omega) (by omega) (by omega) (hr_a281) (hr_a282) (hr_a283) (by omega) (by omega)
      · skip
        refine dz_Tzb (by omega) ?_
        refine dz_Tzb (by omega) ?_
        refine dz_Tsb ?_
        refine dz_Tb (t180_X10_ranksOpen fu hfu _ _ _ _ (by first | assumption | omega) (hr_a281) (hr_a282)) (fun r3 q => ?_)
        obtain ⟨q3_0, q3_1⟩ := q
        have e6 := dz_divq (a := v1) (b := (a268 v5.toNatClampNeg)) 1 13823 (by omega) (by omega) (by omega) (by omega)
        have e7 := dz_remv (a := (v1 / (a268 v5.toNatClampNeg))) (b := c261_many) (by omega) (by omega)
        exact (ih k0 (by omega)).2 v1 v3 v4 v5 (dz_rem (v1 / (a268 v5.toNatClampNeg)) c261_many) r3 (0 : Int32) c280_fresh a281 a282 a283 (by first | assumption | omega) i0 i1 i2 (by first | assumption | omega) i4 (by first | assumption | omega) i6 (by omega) (by omega) q3_0 q3_1 (by omega) (by omega) i7 i8 i9 i10 (by first | assumption | omega) (by omega) (by omega) (by omega) (by omega) (by omega) (hr_a281) (hr_a282) (hr_a283) (by omega) (by omega)
set_option maxHeartbeats 1000000 in
set_option maxRecDepth 10000 in
theorem t272_X11_leads_h2_s (fu : Nat) (hfu : 1000000000000 ≤ fu) (κ : Nat) (hκ : κ < 14) (c248_groups : Int32) (c248_pots : Int32) (c261_groups : Int32) (c261_many : Int32) (a262 : Nat → Int32) (a264 : Nat → Int32) (c267_total : Int32) (c267_lawfulOnes : Int32) (a268 : Nat → Int32) (a269 : Nat → Int32) (n269 : Nat) (a275 : Nat → Int32) (a276 : Nat → Int32) (p0 : c248_groups.toInt ≤ 4) (p1 : 2 ≤ c248_groups.toInt) (p2 : c248_pots.toInt ≤ 4) (p3 : 0 ≤ c248_pots.toInt) (p4 : c261_groups.toInt ≤ 4) (p5 : 0 ≤ c261_groups.toInt) (p6 : c261_many.toInt ≤ 24) (p7 : 0 ≤ c261_many.toInt) (p8 : c267_total.toInt ≤ 13824) (p9 : 1 ≤ c267_total.toInt) (p10 : c267_lawfulOnes.toInt ≤ 13824) (p11 : 0 ≤ c267_lawfulOnes.toInt) (p12 : ((n269 : Nat) : Int) ≤ 13824) (p13 : 1 ≤ ((n269 : Nat) : Int)) (p14 : c267_total.toInt ≤ ((n269 : Nat) : Int)) (p15 : c267_lawfulOnes.toInt ≤ c267_total.toInt) (hr_a262 : dz_rg a262 96 0 3) (hr_a264 : dz_rg a264 16 0 16777215) (hr_a268 : dz_pt a268 (dz_kS κ)) (hr_a269 : dz_rg a269 n269 0 1023) (hr_a275 : dz_pm a275 (dz_kp κ)) (hr_a276 : dz_rg a276 4 0 3) (o0 : c248_groups.toInt = ((dz_kg κ : Nat) : Int)) (o1 : c248_pots.toInt = ((dz_kp κ : Nat) : Int)) (o2 : c261_groups.toInt = ((dz_kg κ : Nat) : Int)) (o3 : c261_many.toInt = ((dz_kr κ : Nat) : Int)) (o4 : c267_total.toInt = ((dz_kt κ : Nat) : Int)) (k : Nat) (ih : ∀ j9, j9 < k → p272_X11_leads_s fu κ c248_groups c248_pots c261_groups c261_many a262 a264 c267_total c267_lawfulOnes a268 a269 n269 a275 a276 j9) : ∀ (v1 : Int32) (v3 : Int32) (v4 : Int32) (v5 : Int32) (v6 : Int32) (v7 : Int32) (v8 : Int32) (c280_fresh : Int32) (a281 : Nat → Int32) (a282 : Nat → Int32) (a283 : Nat → Int32), 1 ≤ c248_pots.toInt → 1 ≤ c267_lawfulOnes.toInt → v1.toInt ≤ 13823 → 0 ≤ v1.toInt → v4.toInt ≤ 331774 → 0 ≤ v4.toInt → v5.toInt ≤ 3 → 0 ≤ v5.toInt → v6.toInt ≤ 23 → 0 ≤ v6.toInt → v7.toInt ≤ 16777215 → 0 ≤ v7.toInt → v8.toInt ≤ 4 → 0 ≤ v8.toInt → c280_fresh.toInt ≤ 1 → 1 ≤ c280_fresh.toInt → v1.toInt + 1 ≤ ((n269 : Nat) : Int) → v1.toInt + 1 ≤ c267_total.toInt → v5.toInt + 1 ≤ c248_pots.toInt → v6.toInt + 1 ≤ ((n269 : Nat) : Int) → v6.toInt + 1 ≤ c267_total.toInt → v6.toInt ≤ c261_many.toInt → v6.toInt ≤ v1.toInt → v8.toInt ≤ c248_groups.toInt → dz_rg a281 601 0 16777215 → dz_rg a282 5 0 14425 → dz_pm a283 (dz_kp κ) → ((v5.toInt = 0 ∧ v4.toInt < 1) ∨ (v5.toInt = 1 ∧ v4.toInt < 24) ∨ (v5.toInt = 2 ∧ v4.toInt < 576) ∨ (v5.toInt = 3 ∧ v4.toInt < 13824) ∨ (v5.toInt = 4 ∧ v4.toInt < 331776)) → 0 + 0 + ((4 - v5.toInt) - 1) * 84 + 0 + (4 - v8.toInt) * 12 + 12 ≤ ((k : Nat) : Int) → dz_T ((F272_X11_leads fu c248_groups c248_pots c261_groups c261_many a262 a264 c267_total c267_lawfulOnes a268 a269 n269 a275 a276 k).2 v1 v3 v4 v5 v6 v7 v8 c280_fresh a281 a282 a283) (fun r => r.2.1.toInt ≤ 1 ∧ 0 ≤ r.2.1.toInt ∧ dz_rg r.2.2.1 601 0 16777215 ∧ dz_rg r.2.2.2.1 5 0 14425 ∧ (r.2.1.toInt = 0 ∨ dz_pm r.2.2.2.2 (dz_kp κ))) := by
  intro v1 v3 v4 v5 v6 v7 v8 c280_fresh a281 a282 a283 i0 i1 i2 i3 i4 i5 i6 i7 i8 i9 i10 i11 i12 i13 i14 i15 i16 i17 i18 i19 i20 i21 i22 i23 hr_a281 hr_a282 hr_a283 x0 hm
  obtain ⟨k0, rfl⟩ : ∃ x, k = x + 1 := ⟨k - 1, by omega⟩
  show dz_T (s272_X11_leads_2 fu c248_groups c248_pots c261_groups c261_many a262 a264 c267_total c267_lawfulOnes a268 a269 n269 a275 a276 (F272_X11_leads fu c248_groups c248_pots c261_groups c261_many a262 a264 c267_total c267_lawfulOnes a268 a269 n269 a275 a276 k0).1 (F272_X11_leads fu c248_groups c248_pots c261_groups c261_many a262 a264 c267_total c267_lawfulOnes a268 a269 n269 a275 a276 k0).2  v1 v3 v4 v5 v6 v7 v8 c280_fresh a281 a282 a283) _
  unfold s272_X11_leads_2
  rcases (show v5.toInt = 0 ∨ v5.toInt = 1 ∨ v5.toInt = 2 ∨ v5.toInt = 3 by omega) with hs | hs | hs | hs
  · skip
    refine dz_Tle (fun h1 => ?_) (fun h1 => ?_)
    · skip
      refine dz_Tb (t129_X4_only fu hfu _ 24 (by omega) (by omega) (by decide)) (fun r1 q => ?_)
      obtain ⟨q1_0, q1_1⟩ := q
      refine dz_Tin (by omega) (by omega) ?_
      have e2 := dz_pmat (hr_a275) (i := v5) (dz_kp4 hκ) (by omega) (by omega)
      have e3 := dz_kp4 hκ
      refine dz_Tin (by omega) (by omega) ?_
      have e4 := dz_kSat (hr_a268) (i := (a275 v5.toNatClampNeg)) hκ (by omega) (by omega)
      have e5 := dz_mulb (a := r1) (b := (a268 (a275 v5.toNatClampNeg).toNatClampNeg)) 23 13824 (by omega) (by omega) (by omega) (by omega) (by omega)
      have e6 := dz_rng v3
      have e7 := dz_mull (a := v4) (b := c261_many) 0 (by omega) (by omega) (by omega)
      have e8 := dz_add (a := (v4 * c261_many)) (b := r1) (by omega) (by omega)
      have e9 := dz_l1
      have e10 := dz_add (a := v5) (b := (1 : Int32)) (by omega) (by omega)
      exact (ih k0 (by omega)).1 v1 (v3 + (r1 * (a268 (a275 v5.toNatClampNeg).toNatClampNeg))) ((v4 * c261_many) + r1) (v5 + (1 : Int32)) c280_fresh a281 a282 a283 i1 i2 i3 (by omega) (by omega) (by omega) (by omega) i14 i15 i16 i17 (by omega) (hr_a281) (hr_a282) (hr_a283) (by omega) (by omega)
    · skip
      refine dz_Tb (t130_X4_groupAt fu hfu _ _ _ i9 i8 i13 (by first | assumption | omega) (hr_a262)) (fun r2 q => ?_)
      obtain ⟨q2_0, q2_1⟩ := q
      refine dz_Tb (t181_X4_firstOpen_s fu hfu κ hκ _ _ _ _ _ p4 p5 q2_1 q2_0 i11 i10 (hr_a264) (hr_a276) o2) (fun r3 q => ?_)
      obtain ⟨q3_0, q3_1⟩ := q
      have e11 := dz_l1
      have e12 := dz_add (a := v8) (b := (1 : Int32)) (by omega) (by omega)
      exact (ih k0 (by omega)).2 v1 v3 v4 v5 v6 r3 (v8 + (1 : Int32)) c280_fresh a281 a282 a283 i0 i1 i2 i3 i4 i5 i6 i7 i8 i9 q3_0 q3_1 (by omega) (by omega) i14 i15 i16 i17 i18 i19 i20 i21 i22 (by omega) (hr_a281) (hr_a282) (hr_a283) (by omega) (by omega)
  · skip
    refine dz_Tle (fun h13 => ?_) (fun h13 => ?_)
    · skip
      refine dz_Tb (t129_X4_only fu hfu _ 24 (by omega) (by omega) (by decide)) (fun r4 q => ?_)
      obtain ⟨q4_0, q4_1⟩ := q
      refine dz_Tin (by omega) (by omega) ?_
      have e14 := dz_pmat (hr_a275) (i := v5) (dz_kp4 hκ) (by omega) (by omega)
      have e15 := dz_kp4 hκ
      refine dz_Tin (by omega) (by omega) ?_
      have e16 := dz_kSat (hr_a268) (i := (a275 v5.toNatClampNeg)) hκ (by omega) (by omega)
      have e17 := dz_mulb (a := r4) (b := (a268 (a275 v5.toNatClampNeg).toNatClampNeg)) 23 13824 (by omega) (by omega) (by omega) (by omega) (by omega)
      have e18 := dz_rng v3
      have e19 := dz_mulb (a := v4) (b := c261_many) 23 24 (by omega) (by omega) (by omega) (by omega) (by omega)
      have e20 := dz_add (a := (v4 * c261_many)) (b := r4) (by omega) (by omega)
      have e21 := dz_l1
      have e22 := dz_add (a := v5) (b := (1 : Int32)) (by omega) (by omega)
      exact (ih k0 (by omega)).1 v1 (v3 + (r4 * (a268 (a275 v5.toNatClampNeg).toNatClampNeg))) ((v4 * c261_many) + r4) (v5 + (1 : Int32)) c280_fresh a281 a282 a283 i1 i2 i3 (by omega) (by omega) (by omega) (by omega) i14 i15 i16 i17 (by omega) (hr_a281) (hr_a282) (hr_a283) (by omega) (by omega)
    · skip
      refine dz_Tb (t130_X4_groupAt fu hfu _ _ _ i9 i8 i13 (by first | assumption | omega) (hr_a262)) (fun r5 q => ?_)
      obtain ⟨q5_0, q5_1⟩ := q
      refine dz_Tb (t181_X4_firstOpen_s fu hfu κ hκ _ _ _ _ _ p4 p5 q5_1 q5_0 i11 i10 (hr_a264) (hr_a276) o2) (fun r6 q => ?_)
      obtain ⟨q6_0, q6_1⟩ := q
      have e23 := dz_l1
      have e24 := dz_add (a := v8) (b := (1 : Int32)) (by omega) (by omega)
      exact (ih k0 (by omega)).2 v1 v3 v4 v5 v6 r6 (v8 + (1 : Int32)) c280_fresh a281 a282 a283 i0 i1 i2 i3 i4 i5 i6 i7 i8 i9 q6_0 q6_1 (by omega) (by omega) i14 i15 i16 i17 i18 i19 i20 i21 i22 (by omega) (hr_a281) (hr_a282) (hr_a283) (by omega) (by omega)
  · skip
    refine dz_Tle (fun h25 => ?_) (fun h25 => ?_)
    · skip
      refine dz_Tb (t129_X4_only fu hfu _ 24 (by omega) (by omega) (by decide)) (fun r7 q => ?_)
      obtain ⟨q7_0, q7_1⟩ := q
      refine dz_Tin (by omega) (by omega) ?_
      have e26 := dz_pmat (hr_a275) (i := v5) (dz_kp4 hκ) (by omega) (by omega)
      have e27 := dz_kp4 hκ
      refine dz_Tin (by omega) (by omega) ?_
      have e28 := dz_kSat (hr_a268) (i := (a275 v5.toNatClampNeg)) hκ (by omega) (by omega)
      have e29 := dz_mulb (a := r7) (b := (a268 (a275 v5.toNatClampNeg).toNatClampNeg)) 23 13824 (by omega) (by omega) (by omega) (by omega) (by omega)
      have e30 := dz_rng v3
      have e31 := dz_mulb (a := v4) (b := c261_many) 575 24 (by omega) (by omega) (by omega) (by omega) (by omega)
      have e32 := dz_add (a := (v4 * c261_many)) (b := r7) (by omega) (by omega)
      have e33 := dz_l1
      have e34 := dz_add (a := v5) (b := (1 : Int32)) (by omega) (by omega)
      exact (ih k0 (by omega)).1 v1 (v3 + (r7 * (a268 (a275 v5.toNatClampNeg).toNatClampNeg))) ((v4 * c261_many) + r7) (v5 + (1 : Int32)) c280_fresh a281 a282 a283 i1 i2 i3 (by omega) (by omega) (by omega) (by omega) i14 i15 i16 i17 (by omega) (hr_a281) (hr_a282) (hr_a283) (by omega) (by omega)
    · skip
      refine dz_Tb (t130_X4_groupAt fu hfu _ _ _ i9 i8 i13 (by first | assumption | omega) (hr_a262)) (fun r8 q => ?_)
      obtain ⟨q8_0, q8_1⟩ := q
      refine dz_Tb (t181_X4_firstOpen_s fu hfu κ hκ _ _ _ _ _ p4 p5 q8_1 q8_0 i11 i10 (hr_a264) (hr_a276) o2) (fun r9 q => ?_)
      obtain ⟨q9_0, q9_1⟩ := q
      have e35 := dz_l1
      have e36 := dz_add (a := v8) (b := (1 : Int32)) (by omega) (by omega)
      exact (ih k0 (by omega)).2 v1 v3 v4 v5 v6 r9 (v8 + (1 : Int32)) c280_fresh a281 a282 a283 i0 i1 i2 i3 i4 i5 i6 i7 i8 i9 q9_0 q9_1 (by omega) (by omega) i14 i15 i16 i17 i18 i19 i20 i21 i22 (by omega) (hr_a281) (hr_a282) (hr_a283) (by omega) (by omega)
  · skip
    refine dz_Tle (fun h37 => ?_) (fun h37 => ?_)
    · skip
      refine dz_Tb (t129_X4_only fu hfu _ 24 (by omega) (by omega) (by decide)) (fun r10 q => ?_)
      obtain ⟨q10_0, q10_1⟩ := q
      refine dz_Tin (by omega) (by omega) ?_
      have e38 := dz_pmat (hr_a275) (i := v5) (dz_kp4 hκ) (by omega) (by omega)
      have e39 := dz_kp4 hκ
      refine dz_Tin (by omega) (by omega) ?_
      have e40 := dz_kSat (hr_a268) (i := (a275 v5.toNatClampNeg)) hκ (by omega) (by omega)
      have e41 := dz_mulb (a := r10) (b := (a268 (a275 v5.toNatClampNeg).toNatClampNeg)) 23 13824 (by omega) (by omega) (by omega) (by omega) (by omega)
      have e42 := dz_rng v3
      have e43 := dz_mulb (a := v4) (b := c261_many) 13823 24 (by omega) (by omega) (by omega) (by omega) (by omega)
      have e44 := dz_add (a := (v4 * c261_many)) (b := r10) (by omega) (by omega)
      have e45 := dz_l1
      have e46 := dz_add (a := v5) (b := (1 : Int32)) (by omega) (by omega)
      exact (ih k0 (by omega)).1 v1 (v3 + (r10 * (a268 (a275 v5.toNatClampNeg).toNatClampNeg))) ((v4 * c261_many) + r10) (v5 + (1 : Int32)) c280_fresh a281 a282 a283 i1 i2 i3 (by omega) (by omega) (by omega) (by omega) i14 i15 i16 i17 (by omega) (hr_a281) (hr_a282) (hr_a283) (by omega) (by omega)
    · skip
      refine dz_Tb (t130_X4_groupAt fu hfu _ _ _ i9 i8 i13 (by first | assumption | omega) (hr_a262)) (fun r11 q => ?_)
      obtain ⟨q11_0, q11_1⟩ := q
      refine dz_Tb (t181_X4_firstOpen_s fu hfu κ hκ _ _ _ _ _ p4 p5 q11_1 q11_0 i11 i10 (hr_a264) (hr_a276) o2) (fun r12 q => ?_)
      obtain ⟨q12_0, q12_1⟩ := q
      have e47 := dz_l1
      have e48 := dz_add (a := v8) (b := (1 : Int32)) (by omega) (by omega)
      exact (ih k0 (by omega)).2 v1 v3 v4 v5 v6 r12 (v8 + (1 : Int32)) c280_fresh a281 a282 a283 i0 i1 i2 i3 i4 i5 i6 i7 i8 i9 q12_0 q12_1 (by omega) (by omega) i14 i15 i16 i17 i18 i19 i20 i21 i22 (by omega) (hr_a281) (hr_a282) (hr_a283) (by omega) (by omega)
theorem t272_X11_leads_I_s (fu : Nat) (hfu : 1000000000000 ≤ fu) (κ : Nat) (hκ : κ < 14) (c248_groups : Int32) (c248_pots : Int32) (c261_groups : Int32) (c261_many : Int32) (a262 : Nat → Int32) (a264 : Nat → Int32) (c267_total : Int32) (c267_lawfulOnes : Int32) (a268 : Nat → Int32) (a269 : Nat → Int32) (n269 : Nat) (a275 : Nat → Int32) (a276 : Nat → Int32) (p0 : c248_groups.toInt ≤ 4) (p1 : 2 ≤ c248_groups.toInt) (p2 : c248_pots.toInt ≤ 4) (p3 : 0 ≤ c248_pots.toInt) (p4 : c261_groups.toInt ≤ 4) (p5 : 0 ≤ c261_groups.toInt) (p6 : c261_many.toInt ≤ 24) (p7 : 0 ≤ c261_many.toInt) (p8 : c267_total.toInt ≤ 13824) (p9 : 1 ≤ c267_total.toInt) (p10 : c267_lawfulOnes.toInt ≤ 13824) (p11 : 0 ≤ c267_lawfulOnes.toInt) (p12 : ((n269 : Nat) : Int) ≤ 13824) (p13 : 1 ≤ ((n269 : Nat) : Int)) (p14 : c267_total.toInt ≤ ((n269 : Nat) : Int)) (p15 : c267_lawfulOnes.toInt ≤ c267_total.toInt) (hr_a262 : dz_rg a262 96 0 3) (hr_a264 : dz_rg a264 16 0 16777215) (hr_a268 : dz_pt a268 (dz_kS κ)) (hr_a269 : dz_rg a269 n269 0 1023) (hr_a275 : dz_pm a275 (dz_kp κ)) (hr_a276 : dz_rg a276 4 0 3) (o0 : c248_groups.toInt = ((dz_kg κ : Nat) : Int)) (o1 : c248_pots.toInt = ((dz_kp κ : Nat) : Int)) (o2 : c261_groups.toInt = ((dz_kg κ : Nat) : Int)) (o3 : c261_many.toInt = ((dz_kr κ : Nat) : Int)) (o4 : c267_total.toInt = ((dz_kt κ : Nat) : Int)) (k : Nat) : p272_X11_leads_s fu κ c248_groups c248_pots c261_groups c261_many a262 a264 c267_total c267_lawfulOnes a268 a269 n269 a275 a276 k := by
  induction k using Nat.strongRecOn with
  | _ k ih => exact ⟨t272_X11_leads_h1_s fu hfu κ hκ c248_groups c248_pots c261_groups c261_many a262 a264 c267_total c267_lawfulOnes a268 a269 n269 a275 a276 p0 p1 p2 p3 p4 p5 p6 p7 p8 p9 p10 p11 p12 p13 p14 p15 hr_a262 hr_a264 hr_a268 hr_a269 hr_a275 hr_a276 o0 o1 o2 o3 o4 k ih, t272_X11_leads_h2_s fu hfu κ hκ c248_groups c248_pots c261_groups c261_many a262 a264 c267_total c267_lawfulOnes a268 a269 n269 a275 a276 p0 p1 p2 p3 p4 p5 p6 p7 p8 p9 p10 p11 p12 p13 p14 p15 hr_a262 hr_a264 hr_a268 hr_a269 hr_a275 hr_a276 o0 o1 o2 o3 o4 k ih⟩
set_option maxHeartbeats 1000000 in
set_option maxRecDepth 10000 in
theorem t272_X11_leads_E_s (fu : Nat) (hfu : 1000000000000 ≤ fu) (κ : Nat) (hκ : κ < 14) (c248_groups : Int32) (c248_pots : Int32) (c261_groups : Int32) (c261_many : Int32) (a262 : Nat → Int32) (a264 : Nat → Int32) (c267_total : Int32) (c267_lawfulOnes : Int32) (a268 : Nat → Int32) (a269 : Nat → Int32) (n269 : Nat) (a275 : Nat → Int32) (a276 : Nat → Int32) (v1 : Int32) (c280_fresh : Int32) (a281 : Nat → Int32) (a282 : Nat → Int32) (a283 : Nat → Int32) (p0 : c248_groups.toInt ≤ 4) (p1 : 2 ≤ c248_groups.toInt) (p2 : c248_pots.toInt ≤ 4) (p3 : 0 ≤ c248_pots.toInt) (p4 : c261_groups.toInt ≤ 4) (p5 : 0 ≤ c261_groups.toInt) (p6 : c261_many.toInt ≤ 24) (p7 : 0 ≤ c261_many.toInt) (p8 : c267_total.toInt ≤ 13824) (p9 : 1 ≤ c267_total.toInt) (p10 : c267_lawfulOnes.toInt ≤ 13824) (p11 : 0 ≤ c267_lawfulOnes.toInt) (p12 : ((n269 : Nat) : Int) ≤ 13824) (p13 : 1 ≤ ((n269 : Nat) : Int)) (p14 : c280_fresh.toInt ≤ 1) (p15 : 0 ≤ c280_fresh.toInt) (p16 : c267_total.toInt ≤ ((n269 : Nat) : Int)) (p17 : c267_lawfulOnes.toInt ≤ c267_total.toInt) (hr_a262 : dz_rg a262 96 0 3) (hr_a264 : dz_rg a264 16 0 16777215) (hr_a268 : dz_pt a268 (dz_kS κ)) (hr_a269 : dz_rg a269 n269 0 1023) (hr_a275 : dz_pm a275 (dz_kp κ)) (hr_a276 : dz_rg a276 4 0 3) (hr_a281 : dz_rg a281 601 0 16777215) (hr_a282 : dz_rg a282 5 0 14425) (hr_a283 : (c280_fresh.toInt = 0 ∨ dz_pm a283 (dz_kp κ))) (o0 : c248_groups.toInt = ((dz_kg κ : Nat) : Int)) (o1 : c248_pots.toInt = ((dz_kp κ : Nat) : Int)) (o2 : c261_groups.toInt = ((dz_kg κ : Nat) : Int)) (o3 : c261_many.toInt = ((dz_kr κ : Nat) : Int)) (o4 : c267_total.toInt = ((dz_kt κ : Nat) : Int)) (kv : Nat) (hkv : 1000000000000 ≤ kv) : dz_T (s272_X11_leads_0 fu c248_groups c248_pots c261_groups c261_many a262 a264 c267_total c267_lawfulOnes a268 a269 n269 a275 a276 (F272_X11_leads fu c248_groups c248_pots c261_groups c261_many a262 a264 c267_total c267_lawfulOnes a268 a269 n269 a275 a276 kv).1  v1 c280_fresh a281 a282 a283) (fun r => r.2.1.toInt ≤ 1 ∧ 0 ≤ r.2.1.toInt ∧ dz_rg r.2.2.1 601 0 16777215 ∧ dz_rg r.2.2.2.1 5 0 14425 ∧ (r.2.1.toInt = 0 ∨ dz_pm r.2.2.2.2 (dz_kp κ))) := by
  unfold s272_X11_leads_0
  refine dz_Tbe (show f164_X11_isCode fu c267_total v1 = (if (v1 < (0 : Int32)) then (some (0 : Int32)) else (if (c267_total ≤ v1) then (some (0 : Int32)) else (some (1 : Int32)))) from rfl) ?_
  have e1 := dz_l0
  refine dz_Tltb (fun h2 => ?_) (fun h2 => ?_)
  · skip
    refine dz_Tsb ?_
    refine dz_Teq (fun h3 => ?_) (fun h3 => ?_)
    · skip
      have e4 := dz_lm1
      refine dz_Ts ?_
      dsimp only
      exact ⟨p14, p15, (hr_a281), (hr_a282), hr_a283⟩
    · skip
      exfalso; omega
  · skip
    refine dz_Tleb (fun h5 => ?_) (fun h5 => ?_)
    · skip
      refine dz_Tsb ?_
      refine dz_Teq (fun h6 => ?_) (fun h6 => ?_)
      · skip
        have e7 := dz_lm1
        refine dz_Ts ?_
        dsimp only
        exact ⟨p14, p15, (hr_a281), (hr_a282), hr_a283⟩
      · skip
        exfalso; omega
    · skip
      refine dz_Tsb ?_
      have e8 := dz_l1
      refine dz_Teq (fun h9 => ?_) (fun h9 => ?_)
      · skip
        exfalso; omega
      · skip
        refine dz_Teq (fun h10 => ?_) (fun h10 => ?_)
        · skip
          have e11 := dz_lm1
          refine dz_Ts ?_
          dsimp only
          exact ⟨p14, p15, (hr_a281), (hr_a282), hr_a283⟩
        · skip
          refine dz_Tb (t175_X11_treeOfNow_s fu hfu κ hκ _ _ _ _ _ _ _ _ _ _ _ p2 p3 p6 p7 p8 p9 p12 p13 p14 p15 p16 (hr_a268) (hr_a269) (hr_a275) (hr_a281) (hr_a282) hr_a283 o1 o3 o4) (fun r2 q => ?_)
          obtain ⟨q2_0, q2_1, qa2_1, qa2_2, qa2_3⟩ := q
          exact (t272_X11_leads_I_s fu hfu κ hκ c248_groups c248_pots c261_groups c261_many a262 a264 c267_total c267_lawfulOnes a268 a269 n269 a275 a276 p0 p1 p2 p3 p4 p5 p6 p7 p8 p9 p10 p11 p12 p13 p16 p17 hr_a262 hr_a264 hr_a268 hr_a269 hr_a275 hr_a276 o0 o1 o2 o3 o4 kv).1 v1 (0 : Int32) (0 : Int32) (0 : Int32) r2.1 r2.2.1 r2.2.2.1 r2.2.2.2 (by first | assumption | omega) (by first | assumption | omega) (by first | assumption | omega) (by omega) (by omega) (by omega) (by omega) q2_0 q2_1 (by first | assumption | omega) (by first | assumption | omega) (by omega) (qa2_1) (qa2_2) (qa2_3) (by omega) (by omega)
theorem t272_X11_leads_s (fu : Nat) (hfu : 1000000000000 ≤ fu) (κ : Nat) (hκ : κ < 14) (c248_groups : Int32) (c248_pots : Int32) (c261_groups : Int32) (c261_many : Int32) (a262 : Nat → Int32) (a264 : Nat → Int32) (c267_total : Int32) (c267_lawfulOnes : Int32) (a268 : Nat → Int32) (a269 : Nat → Int32) (n269 : Nat) (a275 : Nat → Int32) (a276 : Nat → Int32) (v1 : Int32) (c280_fresh : Int32) (a281 : Nat → Int32) (a282 : Nat → Int32) (a283 : Nat → Int32) (p0 : c248_groups.toInt ≤ 4) (p1 : 2 ≤ c248_groups.toInt) (p2 : c248_pots.toInt ≤ 4) (p3 : 0 ≤ c248_pots.toInt) (p4 : c261_groups.toInt ≤ 4) (p5 : 0 ≤ c261_groups.toInt) (p6 : c261_many.toInt ≤ 24) (p7 : 0 ≤ c261_many.toInt) (p8 : c267_total.toInt ≤ 13824) (p9 : 1 ≤ c267_total.toInt) (p10 : c267_lawfulOnes.toInt ≤ 13824) (p11 : 0 ≤ c267_lawfulOnes.toInt) (p12 : ((n269 : Nat) : Int) ≤ 13824) (p13 : 1 ≤ ((n269 : Nat) : Int)) (p14 : c280_fresh.toInt ≤ 1) (p15 : 0 ≤ c280_fresh.toInt) (p16 : c267_total.toInt ≤ ((n269 : Nat) : Int)) (p17 : c267_lawfulOnes.toInt ≤ c267_total.toInt) (hr_a262 : dz_rg a262 96 0 3) (hr_a264 : dz_rg a264 16 0 16777215) (hr_a268 : dz_pt a268 (dz_kS κ)) (hr_a269 : dz_rg a269 n269 0 1023) (hr_a275 : dz_pm a275 (dz_kp κ)) (hr_a276 : dz_rg a276 4 0 3) (hr_a281 : dz_rg a281 601 0 16777215) (hr_a282 : dz_rg a282 5 0 14425) (hr_a283 : (c280_fresh.toInt = 0 ∨ dz_pm a283 (dz_kp κ))) (o0 : c248_groups.toInt = ((dz_kg κ : Nat) : Int)) (o1 : c248_pots.toInt = ((dz_kp κ : Nat) : Int)) (o2 : c261_groups.toInt = ((dz_kg κ : Nat) : Int)) (o3 : c261_many.toInt = ((dz_kr κ : Nat) : Int)) (o4 : c267_total.toInt = ((dz_kt κ : Nat) : Int)) : dz_T (f272_X11_leads fu c248_groups c248_pots c261_groups c261_many a262 a264 c267_total c267_lawfulOnes a268 a269 n269 a275 a276 v1 c280_fresh a281 a282 a283) (fun r => r.2.1.toInt ≤ 1 ∧ 0 ≤ r.2.1.toInt ∧ dz_rg r.2.2.1 601 0 16777215 ∧ dz_rg r.2.2.2.1 5 0 14425 ∧ (r.2.1.toInt = 0 ∨ dz_pm r.2.2.2.2 (dz_kp κ))) :=
  t272_X11_leads_E_s fu hfu κ hκ c248_groups c248_pots c261_groups c261_many a262 a264 c267_total c267_lawfulOnes a268 a269 n269 a275 a276 v1 c280_fresh a281 a282 a283 p0 p1 p2 p3 p4 p5 p6 p7 p8 p9 p10 p11 p12 p13 p14 p15 p16 p17 hr_a262 hr_a264 hr_a268 hr_a269 hr_a275 hr_a276 hr_a281 hr_a282 hr_a283 o0 o1 o2 o3 o4 fu hfu
abbrev p276_X0_addDraw_g2 (fu : Nat) (c248_groups : Int32) (c248_pots : Int32) (c261_many : Int32) (a263 : Nat → Int32) (a268 : Nat → Int32) (n306 : Nat) (k : Nat) : Prop :=
  (∀ (v1 : Int32) (v2 : Int32) (v3 : Int32) (a306 : Nat → Int32), v1.toInt ≤ 15 → 0 ≤ v1.toInt → v2.toInt ≤ 7920 → 0 ≤ v2.toInt → v3.toInt ≤ 4 → 0 ≤ v3.toInt → v3.toInt ≤ c248_pots.toInt → v2.toInt + 144 ≤ ((n306 : Nat) : Int) → 0 + 0 + (4 - v3.toInt) * 336 + 7 ≤ ((k : Nat) : Int) → dz_T ((F276_X0_addDraw fu c248_groups c248_pots c261_many a263 a268 n306 k).1 v1 v2 v3 a306) (fun r => True)) ∧ (∀ (v1 : Int32) (v2 : Int32) (v3 : Int32) (v4 : Int32) (v5 : Int32) (a306 : Nat → Int32), 1 ≤ c248_pots.toInt → v1.toInt ≤ 15 → 0 ≤ v1.toInt → v2.toInt ≤ 7920 → 0 ≤ v2.toInt → v3.toInt ≤ 3 → 0 ≤ v3.toInt → v4.toInt ≤ 4 → 0 ≤ v4.toInt → v5.toInt ≤ 4 → 1 ≤ v5.toInt → v3.toInt + 1 ≤ c248_pots.toInt → v3.toInt + 1 ≤ v5.toInt → v5.toInt ≤ c248_pots.toInt → v2.toInt + 144 ≤ ((n306 : Nat) : Int) → v4.toInt % 4 = 0 → 0 + 0 + ((4 - v3.toInt) - 1) * 336 + 0 + (4 - v5.toInt) * 77 + 14 ≤ ((k : Nat) : Int) → dz_T ((F276_X0_addDraw fu c248_groups c248_pots c261_many a263 a268 n306 k).2.1 v1 v2 v3 v4 v5 a306) (fun r => True)) ∧ (∀ (v1 : Int32) (v2 : Int32) (v3 : Int32) (v4 : Int32) (v5 : Int32) (v6 : Int32) (v7 : Int32) (a306 : Nat → Int32), 2 ≤ c248_pots.toInt → v1.toInt ≤ 15 → 0 ≤ v1.toInt → v2.toInt ≤ 7920 → 0 ≤ v2.toInt → v3.toInt ≤ 2 → 0 ≤ v3.toInt → v4.toInt ≤ 4 → 0 ≤ v4.toInt → v5.toInt ≤ 3 → 1 ≤ v5.toInt → v6.toInt ≤ 4 → 0 ≤ v6.toInt → v7.toInt ≤ 2 → 0 ≤ v7.toInt → v3.toInt + 1 ≤ v5.toInt → v5.toInt + 1 ≤ c248_pots.toInt → v2.toInt + 144 ≤ ((n306 : Nat) : Int) → v4.toInt % 4 = 0 → v6.toInt % 4 = 0 → 0 + 0 + ((4 - v3.toInt) - 1) * 336 + 0 + ((4 - v5.toInt) - 1) * 77 + 0 + (2 - v7.toInt) * 14 + 21 ≤ ((k : Nat) : Int) → dz_T ((F276_X0_addDraw fu c248_groups c248_pots c261_many a263 a268 n306 k).2.2 v1 v2 v3 v4 v5 v6 v7 a306) (fun r => True))
set_option maxHeartbeats 1000000 in
set_option maxRecDepth 10000 in
theorem t276_X0_addDraw_h1_g2 (fu : Nat) (hfu : 1000000000000 ≤ fu) (c248_groups : Int32) (c248_pots : Int32) (c261_many : Int32) (a263 : Nat → Int32) (a268 : Nat → Int32) (n306 : Nat) (p0 : c248_groups.toInt ≤ 2) (p1 : 2 ≤ c248_groups.toInt) (p2 : c248_pots.toInt ≤ 4) (p3 : 0 ≤ c248_pots.toInt) (p4 : c261_many.toInt ≤ 2) (p5 : 2 ≤ c261_many.toInt) (p6 : ((n306 : Nat) : Int) ≤ 8064) (p7 : 144 ≤ ((n306 : Nat) : Int)) (hr_a263 : dz_rq a263 2 2 0 1) (hr_a268 : dz_rg a268 c248_pots.toInt.toNat 1 16) (k : Nat) (ih : ∀ j9, j9 < k → p276_X0_addDraw_g2 fu c248_groups c248_pots c261_many a263 a268 n306 j9) : ∀ (v1 : Int32) (v2 : Int32) (v3 : Int32) (a306 : Nat → Int32), v1.toInt ≤ 15 → 0 ≤ v1.toInt → v2.toInt ≤ 7920 → 0 ≤ v2.toInt → v3.toInt ≤ 4 → 0 ≤ v3.toInt → v3.toInt ≤ c248_pots.toInt → v2.toInt + 144 ≤ ((n306 : Nat) : Int) → 0 + 0 + (4 - v3.toInt) * 336 + 7 ≤ ((k : Nat) : Int) → dz_T ((F276_X0_addDraw fu c248_groups c248_pots c261_many a263 a268 n306 k).1 v1 v2 v3 a306) (fun r => True) := by
  intro v1 v2 v3 a306 i0 i1 i2 i3 i4 i5 i6 i7 hm
  obtain ⟨k0, rfl⟩ : ∃ x, k = x + 1 := ⟨k - 1, by omega⟩
  show dz_T (s276_X0_addDraw_1 fu c248_groups c248_pots c261_many a263 a268 n306 (F276_X0_addDraw fu c248_groups c248_pots c261_many a263 a268 n306 k0).2.1  v1 v2 v3 a306) _
  unfold s276_X0_addDraw_1
  refine dz_Tle (fun h1 => ?_) (fun h1 => ?_)
  · skip
    exact dz_Ts trivial
  · skip
    refine dz_Tbe (show f141_X2_rankIn fu c261_many a268 v1 v3 = (if dz_in v3 4 then (if ((a268 v3.toNatClampNeg) ≤ (0 : Int32)) then (some (0 : Int32)) else (if (c261_many ≤ (0 : Int32)) then (some (0 : Int32)) else (if (¬ ((a268 v3.toNatClampNeg) = (0 : Int32))) then (if (¬ (c261_many = (0 : Int32))) then (some (dz_rem (v1 / (a268 v3.toNatClampNeg)) c261_many)) else none) else none))) else none) from rfl) ?_
    refine dz_Tinb (by omega) (by omega) ?_
    have e2 := dz_rgat (hr_a268) (i := v3) (by omega) (by omega)
    have e3 := dz_l0
    refine dz_Tleb (fun h4 => ?_) (fun h4 => ?_)
    · skip
      exfalso; omega
    · skip
      refine dz_Tleb (fun h5 => ?_) (fun h5 => ?_)
      · skip
        exfalso; omega
      · skip
        refine dz_Tzb (by omega) ?_
        refine dz_Tzb (by omega) ?_
        refine dz_Tsb ?_
        have e6 := dz_divq (a := v1) (b := (a268 v3.toNatClampNeg)) 1 15 (by omega) (by omega) (by omega) (by omega)
        have e7 := dz_remn (a := (v1 / (a268 v3.toNatClampNeg))) (b := c261_many) 2 (by omega) (by omega) (by omega)
        have e8 := dz_l4
        have e9 := dz_mulr (a := (dz_rem (v1 / (a268 v3.toNatClampNeg)) c261_many)) (b := (4 : Int32)) 4 (by omega) (by omega) (by omega)
        have e10 := dz_l1
        have e11 := dz_add (a := v3) (b := (1 : Int32)) (by omega) (by omega)
        exact (ih k0 (by omega)).2.1 v1 v2 v3 ((dz_rem (v1 / (a268 v3.toNatClampNeg)) c261_many) * (4 : Int32)) (v3 + (1 : Int32)) a306 (by first | assumption | omega) i0 i1 i2 i3 (by first | assumption | omega) i5 (by omega) (by omega) (by omega) (by omega) (by first | assumption | omega) (by omega) (by omega) i7 (by omega) (by omega)
set_option maxHeartbeats 1000000 in
set_option maxRecDepth 10000 in
theorem t276_X0_addDraw_h2_g2 (fu : Nat) (hfu : 1000000000000 ≤ fu) (c248_groups : Int32) (c248_pots : Int32) (c261_many : Int32) (a263 : Nat → Int32) (a268 : Nat → Int32) (n306 : Nat) (p0 : c248_groups.toInt ≤ 2) (p1 : 2 ≤ c248_groups.toInt) (p2 : c248_pots.toInt ≤ 4) (p3 : 0 ≤ c248_pots.toInt) (p4 : c261_many.toInt ≤ 2) (p5 : 2 ≤ c261_many.toInt) (p6 : ((n306 : Nat) : Int) ≤ 8064) (p7 : 144 ≤ ((n306 : Nat) : Int)) (hr_a263 : dz_rq a263 2 2 0 1) (hr_a268 : dz_rg a268 c248_pots.toInt.toNat 1 16) (k : Nat) (ih : ∀ j9, j9 < k → p276_X0_addDraw_g2 fu c248_groups c248_pots c261_many a263 a268 n306 j9) : ∀ (v1 : Int32) (v2 : Int32) (v3 : Int32) (v4 : Int32) (v5 : Int32) (a306 : Nat → Int32), 1 ≤ c248_pots.toInt → v1.toInt ≤ 15 → 0 ≤ v1.toInt → v2.toInt ≤ 7920 → 0 ≤ v2.toInt → v3.toInt ≤ 3 → 0 ≤ v3.toInt → v4.toInt ≤ 4 → 0 ≤ v4.toInt → v5.toInt ≤ 4 → 1 ≤ v5.toInt → v3.toInt + 1 ≤ c248_pots.toInt → v3.toInt + 1 ≤ v5.toInt → v5.toInt ≤ c248_pots.toInt → v2.toInt + 144 ≤ ((n306 : Nat) : Int) → v4.toInt % 4 = 0 → 0 + 0 + ((4 - v3.toInt) - 1) * 336 + 0 + (4 - v5.toInt) * 77 + 14 ≤ ((k : Nat) : Int) → dz_T ((F276_X0_addDraw fu c248_groups c248_pots c261_many a263 a268 n306 k).2.1 v1 v2 v3 v4 v5 a306) (fun r => True) := by
  intro v1 v2 v3 v4 v5 a306 i0 i1 i2 i3 i4 i5 i6 i7 i8 i9 i10 i11 i12 i13 i14 x0 hm
  obtain ⟨k0, rfl⟩ : ∃ x, k = x + 1 := ⟨k - 1, by omega⟩
  show dz_T (s276_X0_addDraw_2 fu c248_groups c248_pots c261_many a263 a268 n306 (F276_X0_addDraw fu c248_groups c248_pots c261_many a263 a268 n306 k0).1 (F276_X0_addDraw fu c248_groups c248_pots c261_many a263 a268 n306 k0).2.2  v1 v2 v3 v4 v5 a306) _
  unfold s276_X0_addDraw_2
  refine dz_Tle (fun h1 => ?_) (fun h1 => ?_)
  · skip
    have e2 := dz_l1
    have e3 := dz_add (a := v3) (b := (1 : Int32)) (by omega) (by omega)
    exact (ih k0 (by omega)).1 v1 v2 (v3 + (1 : Int32)) a306 i1 i2 i3 i4 (by omega) (by omega) (by omega) i14 (by omega)
  · skip
    refine dz_Tbe (show f141_X2_rankIn fu c261_many a268 v1 v5 = (if dz_in v5 4 then (if ((a268 v5.toNatClampNeg) ≤ (0 : Int32)) then (some (0 : Int32)) else (if (c261_many ≤ (0 : Int32)) then (some (0 : Int32)) else (if (¬ ((a268 v5.toNatClampNeg) = (0 : Int32))) then (if (¬ (c261_many = (0 : Int32))) then (some (dz_rem (v1 / (a268 v5.toNatClampNeg)) c261_many)) else none) else none))) else none) from rfl) ?_
    refine dz_Tinb (by omega) (by omega) ?_
    have e4 := dz_rgat (hr_a268) (i := v5) (by omega) (by omega)
    have e5 := dz_l0
    refine dz_Tleb (fun h6 => ?_) (fun h6 => ?_)
    · skip
      exfalso; omega
    · skip
      refine dz_Tleb (fun h7 => ?_) (fun h7 => ?_)
      · skip
        exfalso; omega
      · skip
        refine dz_Tzb (by omega) ?_
        refine dz_Tzb (by omega) ?_
        refine dz_Tsb ?_
        have e8 := dz_divq (a := v1) (b := (a268 v5.toNatClampNeg)) 1 15 (by omega) (by omega) (by omega) (by omega)
        have e9 := dz_remn (a := (v1 / (a268 v5.toNatClampNeg))) (b := c261_many) 2 (by omega) (by omega) (by omega)
        have e10 := dz_l4
        have e11 := dz_mulr (a := (dz_rem (v1 / (a268 v5.toNatClampNeg)) c261_many)) (b := (4 : Int32)) 4 (by omega) (by omega) (by omega)
        exact (ih k0 (by omega)).2.2 v1 v2 v3 v4 v5 ((dz_rem (v1 / (a268 v5.toNatClampNeg)) c261_many) * (4 : Int32)) (0 : Int32) a306 (by first | assumption | omega) i1 i2 i3 i4 (by first | assumption | omega) i6 i7 i8 (by first | assumption | omega) i10 (by omega) (by omega) (by omega) (by omega) i12 (by first | assumption | omega) i14 (by omega) (by omega) (by omega)
set_option maxHeartbeats 1000000 in
set_option maxRecDepth 10000 in
theorem t276_X0_addDraw_h3_g2 (fu : Nat) (hfu : 1000000000000 ≤ fu) (c248_groups : Int32) (c248_pots : Int32) (c261_many : Int32) (a263 : Nat → Int32) (a268 : Nat → Int32) (n306 : Nat) (p0 : c248_groups.toInt ≤ 2) (p1 : 2 ≤ c248_groups.toInt) (p2 : c248_pots.toInt ≤ 4) (p3 : 0 ≤ c248_pots.toInt) (p4 : c261_many.toInt ≤ 2) (p5 : 2 ≤ c261_many.toInt) (p6 : ((n306 : Nat) : Int) ≤ 8064) (p7 : 144 ≤ ((n306 : Nat) : Int)) (hr_a263 : dz_rq a263 2 2 0 1) (hr_a268 : dz_rg a268 c248_pots.toInt.toNat 1 16) (k : Nat) (ih : ∀ j9, j9 < k → p276_X0_addDraw_g2 fu c248_groups c248_pots c261_many a263 a268 n306 j9) : ∀ (v1 : Int32) (v2 : Int32) (v3 : Int32) (v4 : Int32) (v5 : Int32) (v6 : Int32) (v7 : Int32) (a306 : Nat → Int32), 2 ≤ c248_pots.toInt → v1.toInt ≤ 15 → 0 ≤ v1.toInt → v2.toInt ≤ 7920 → 0 ≤ v2.toInt → v3.toInt ≤ 2 → 0 ≤ v3.toInt → v4.toInt ≤ 4 → 0 ≤ v4.toInt → v5.toInt ≤ 3 → 1 ≤ v5.toInt → v6.toInt ≤ 4 → 0 ≤ v6.toInt → v7.toInt ≤ 2 → 0 ≤ v7.toInt → v3.toInt + 1 ≤ v5.toInt → v5.toInt + 1 ≤ c248_pots.toInt → v2.toInt + 144 ≤ ((n306 : Nat) : Int) → v4.toInt % 4 = 0 → v6.toInt % 4 = 0 → 0 + 0 + ((4 - v3.toInt) - 1) * 336 + 0 + ((4 - v5.toInt) - 1) * 77 + 0 + (2 - v7.toInt) * 14 + 21 ≤ ((k : Nat) : Int) → dz_T ((F276_X0_addDraw fu c248_groups c248_pots c261_many a263 a268 n306 k).2.2 v1 v2 v3 v4 v5 v6 v7 a306) (fun r => True) := by
  intro v1 v2 v3 v4 v5 v6 v7 a306 i0 i1 i2 i3 i4 i5 i6 i7 i8 i9 i10 i11 i12 i13 i14 i15 i16 i17 x0 x1 hm
  obtain ⟨k0, rfl⟩ : ∃ x, k = x + 1 := ⟨k - 1, by omega⟩
  show dz_T (s276_X0_addDraw_3 fu c248_groups c248_pots c261_many a263 a268 n306 (F276_X0_addDraw fu c248_groups c248_pots c261_many a263 a268 n306 k0).2.1 (F276_X0_addDraw fu c248_groups c248_pots c261_many a263 a268 n306 k0).2.2  v1 v2 v3 v4 v5 v6 v7 a306) _
  unfold s276_X0_addDraw_3
  refine dz_Tle (fun h1 => ?_) (fun h1 => ?_)
  · skip
    have e2 := dz_l1
    have e3 := dz_add (a := v5) (b := (1 : Int32)) (by omega) (by omega)
    exact (ih k0 (by omega)).2.1 v1 v2 v3 v4 (v5 + (1 : Int32)) a306 (by first | assumption | omega) i1 i2 i3 i4 (by first | assumption | omega) i6 i7 i8 (by omega) (by omega) (by first | assumption | omega) (by omega) (by omega) i17 (by omega) (by omega)
  · skip
    have e4 := dz_add (a := v4) (b := v7) (by omega) (by omega)
    refine dz_Tin (by omega) (by omega) ?_
    have e5 := dz_add (a := v6) (b := v7) (by omega) (by omega)
    refine dz_Tin (by omega) (by omega) ?_
    have e6 := dz_mulr (a := v3) (b := c248_groups) 2 (by omega) (by omega) (by omega)
    have e7 := dz_rqat2 (hr_a263) (x := v4) (y := v7) (by omega) (by omega) (by omega) (by omega) (by omega) (by omega)
    have e8 := dz_add (a := (v3 * c248_groups)) (b := (a263 (v4 + v7).toNatClampNeg)) (by omega) (by omega)
    have e9 := dz_l12
    have e10 := dz_mulr (a := ((v3 * c248_groups) + (a263 (v4 + v7).toNatClampNeg))) (b := (12 : Int32)) 12 (by omega) (by omega) (by omega)
    have e11 := dz_add (a := v2) (b := (((v3 * c248_groups) + (a263 (v4 + v7).toNatClampNeg)) * (12 : Int32))) (by omega) (by omega)
    have e12 := dz_mulr (a := v5) (b := c248_groups) 2 (by omega) (by omega) (by omega)
    have e13 := dz_rqat2 (hr_a263) (x := v6) (y := v7) (by omega) (by omega) (by omega) (by omega) (by omega) (by omega)
    have e14 := dz_add (a := (v5 * c248_groups)) (b := (a263 (v6 + v7).toNatClampNeg)) (by omega) (by omega)
    have e15 := dz_add (a := (v2 + (((v3 * c248_groups) + (a263 (v4 + v7).toNatClampNeg)) * (12 : Int32)))) (b := ((v5 * c248_groups) + (a263 (v6 + v7).toNatClampNeg))) (by omega) (by omega)
    refine dz_Tin (by omega) (by omega) ?_
    refine dz_Tin (by omega) (by omega) ?_
    have e16 := dz_l1
    have e17 := dz_add (a := v7) (b := (1 : Int32)) (by omega) (by omega)
    exact (ih k0 (by omega)).2.2 v1 v2 v3 v4 v5 v6 (v7 + (1 : Int32)) (upd a306 ((v2 + (((v3 * c248_groups) + (a263 (v4 + v7).toNatClampNeg)) * (12 : Int32))) + ((v5 * c248_groups) + (a263 (v6 + v7).toNatClampNeg))).toNatClampNeg ((a306 ((v2 + (((v3 * c248_groups) + (a263 (v4 + v7).toNatClampNeg)) * (12 : Int32))) + ((v5 * c248_groups) + (a263 (v6 + v7).toNatClampNeg))).toNatClampNeg) + (1 : Int32))) i0 i1 i2 i3 i4 i5 i6 i7 i8 i9 i10 i11 i12 (by omega) (by omega) i15 i16 i17 (by omega) (by omega) (by omega)
theorem t276_X0_addDraw_I_g2 (fu : Nat) (hfu : 1000000000000 ≤ fu) (c248_groups : Int32) (c248_pots : Int32) (c261_many : Int32) (a263 : Nat → Int32) (a268 : Nat → Int32) (n306 : Nat) (p0 : c248_groups.toInt ≤ 2) (p1 : 2 ≤ c248_groups.toInt) (p2 : c248_pots.toInt ≤ 4) (p3 : 0 ≤ c248_pots.toInt) (p4 : c261_many.toInt ≤ 2) (p5 : 2 ≤ c261_many.toInt) (p6 : ((n306 : Nat) : Int) ≤ 8064) (p7 : 144 ≤ ((n306 : Nat) : Int)) (hr_a263 : dz_rq a263 2 2 0 1) (hr_a268 : dz_rg a268 c248_pots.toInt.toNat 1 16) (k : Nat) : p276_X0_addDraw_g2 fu c248_groups c248_pots c261_many a263 a268 n306 k := by
  induction k using Nat.strongRecOn with
  | _ k ih => exact ⟨t276_X0_addDraw_h1_g2 fu hfu c248_groups c248_pots c261_many a263 a268 n306 p0 p1 p2 p3 p4 p5 p6 p7 hr_a263 hr_a268 k ih, t276_X0_addDraw_h2_g2 fu hfu c248_groups c248_pots c261_many a263 a268 n306 p0 p1 p2 p3 p4 p5 p6 p7 hr_a263 hr_a268 k ih, t276_X0_addDraw_h3_g2 fu hfu c248_groups c248_pots c261_many a263 a268 n306 p0 p1 p2 p3 p4 p5 p6 p7 hr_a263 hr_a268 k ih⟩
set_option maxHeartbeats 1000000 in
set_option maxRecDepth 10000 in
theorem t276_X0_addDraw_E_g2 (fu : Nat) (hfu : 1000000000000 ≤ fu) (c248_groups : Int32) (c248_pots : Int32) (c261_many : Int32) (a263 : Nat → Int32) (a268 : Nat → Int32) (n306 : Nat) (v1 : Int32) (v2 : Int32) (a306 : Nat → Int32) (p0 : c248_groups.toInt ≤ 2) (p1 : 2 ≤ c248_groups.toInt) (p2 : c248_pots.toInt ≤ 4) (p3 : 0 ≤ c248_pots.toInt) (p4 : c261_many.toInt ≤ 2) (p5 : 2 ≤ c261_many.toInt) (p6 : ((n306 : Nat) : Int) ≤ 8064) (p7 : 144 ≤ ((n306 : Nat) : Int)) (p8 : 0 ≤ v1.toInt) (p9 : v1.toInt ≤ 15) (p10 : 0 ≤ v2.toInt) (p11 : v2.toInt ≤ 7920) (p12 : v2.toInt + 144 ≤ ((n306 : Nat) : Int)) (hr_a263 : dz_rq a263 2 2 0 1) (hr_a268 : dz_rg a268 c248_pots.toInt.toNat 1 16) (kv : Nat) (hkv : 1000000000000 ≤ kv) : dz_T (s276_X0_addDraw_0 fu c248_groups c248_pots c261_many a263 a268 n306 (F276_X0_addDraw fu c248_groups c248_pots c261_many a263 a268 n306 kv).1  v1 v2 a306) (fun r => True) := by
  unfold s276_X0_addDraw_0
  have e1 := dz_l0
  exact (t276_X0_addDraw_I_g2 fu hfu c248_groups c248_pots c261_many a263 a268 n306 p0 p1 p2 p3 p4 p5 p6 p7 hr_a263 hr_a268 kv).1 v1 v2 (0 : Int32) a306 p9 p8 p11 p10 (by omega) (by omega) (by omega) p12 (by omega)
theorem t276_X0_addDraw_g2 (fu : Nat) (hfu : 1000000000000 ≤ fu) (c248_groups : Int32) (c248_pots : Int32) (c261_many : Int32) (a263 : Nat → Int32) (a268 : Nat → Int32) (n306 : Nat) (v1 : Int32) (v2 : Int32) (a306 : Nat → Int32) (p0 : c248_groups.toInt ≤ 2) (p1 : 2 ≤ c248_groups.toInt) (p2 : c248_pots.toInt ≤ 4) (p3 : 0 ≤ c248_pots.toInt) (p4 : c261_many.toInt ≤ 2) (p5 : 2 ≤ c261_many.toInt) (p6 : ((n306 : Nat) : Int) ≤ 8064) (p7 : 144 ≤ ((n306 : Nat) : Int)) (p8 : 0 ≤ v1.toInt) (p9 : v1.toInt ≤ 15) (p10 : 0 ≤ v2.toInt) (p11 : v2.toInt ≤ 7920) (p12 : v2.toInt + 144 ≤ ((n306 : Nat) : Int)) (hr_a263 : dz_rq a263 2 2 0 1) (hr_a268 : dz_rg a268 c248_pots.toInt.toNat 1 16) : dz_T (f276_X0_addDraw fu c248_groups c248_pots c261_many a263 a268 n306 v1 v2 a306) (fun r => True) :=
  t276_X0_addDraw_E_g2 fu hfu c248_groups c248_pots c261_many a263 a268 n306 v1 v2 a306 p0 p1 p2 p3 p4 p5 p6 p7 p8 p9 p10 p11 p12 hr_a263 hr_a268 fu hfu
abbrev p276_X0_addDraw_g3 (fu : Nat) (c248_groups : Int32) (c248_pots : Int32) (c261_many : Int32) (a263 : Nat → Int32) (a268 : Nat → Int32) (n306 : Nat) (k : Nat) : Prop :=
  (∀ (v1 : Int32) (v2 : Int32) (v3 : Int32) (a306 : Nat → Int32), v1.toInt ≤ 1295 → 0 ≤ v1.toInt → v2.toInt ≤ 7920 → 0 ≤ v2.toInt → v3.toInt ≤ 4 → 0 ≤ v3.toInt → v3.toInt ≤ c248_pots.toInt → v2.toInt + 144 ≤ ((n306 : Nat) : Int) → 0 + 0 + (4 - v3.toInt) * 392 + 7 ≤ ((k : Nat) : Int) → dz_T ((F276_X0_addDraw fu c248_groups c248_pots c261_many a263 a268 n306 k).1 v1 v2 v3 a306) (fun r => True)) ∧ (∀ (v1 : Int32) (v2 : Int32) (v3 : Int32) (v4 : Int32) (v5 : Int32) (a306 : Nat → Int32), 1 ≤ c248_pots.toInt → v1.toInt ≤ 1295 → 0 ≤ v1.toInt → v2.toInt ≤ 7920 → 0 ≤ v2.toInt → v3.toInt ≤ 3 → 0 ≤ v3.toInt → v4.toInt ≤ 20 → 0 ≤ v4.toInt → v5.toInt ≤ 4 → 1 ≤ v5.toInt → v3.toInt + 1 ≤ c248_pots.toInt → v3.toInt + 1 ≤ v5.toInt → v5.toInt ≤ c248_pots.toInt → v2.toInt + 144 ≤ ((n306 : Nat) : Int) → v4.toInt % 4 = 0 → 0 + 0 + ((4 - v3.toInt) - 1) * 392 + 0 + (4 - v5.toInt) * 91 + 14 ≤ ((k : Nat) : Int) → dz_T ((F276_X0_addDraw fu c248_groups c248_pots c261_many a263 a268 n306 k).2.1 v1 v2 v3 v4 v5 a306) (fun r => True)) ∧ (∀ (v1 : Int32) (v2 : Int32) (v3 : Int32) (v4 : Int32) (v5 : Int32) (v6 : Int32) (v7 : Int32) (a306 : Nat → Int32), 2 ≤ c248_pots.toInt → v1.toInt ≤ 1295 → 0 ≤ v1.toInt → v2.toInt ≤ 7920 → 0 ≤ v2.toInt → v3.toInt ≤ 2 → 0 ≤ v3.toInt → v4.toInt ≤ 20 → 0 ≤ v4.toInt → v5.toInt ≤ 3 → 1 ≤ v5.toInt → v6.toInt ≤ 20 → 0 ≤ v6.toInt → v7.toInt ≤ 3 → 0 ≤ v7.toInt → v3.toInt + 1 ≤ v5.toInt → v5.toInt + 1 ≤ c248_pots.toInt → v2.toInt + 144 ≤ ((n306 : Nat) : Int) → v4.toInt % 4 = 0 → v6.toInt % 4 = 0 → 0 + 0 + ((4 - v3.toInt) - 1) * 392 + 0 + ((4 - v5.toInt) - 1) * 91 + 0 + (3 - v7.toInt) * 14 + 21 ≤ ((k : Nat) : Int) → dz_T ((F276_X0_addDraw fu c248_groups c248_pots c261_many a263 a268 n306 k).2.2 v1 v2 v3 v4 v5 v6 v7 a306) (fun r => True))
set_option maxHeartbeats 1000000 in
set_option maxRecDepth 10000 in
theorem t276_X0_addDraw_h1_g3 (fu : Nat) (hfu : 1000000000000 ≤ fu) (c248_groups : Int32) (c248_pots : Int32) (c261_many : Int32) (a263 : Nat → Int32) (a268 : Nat → Int32) (n306 : Nat) (p0 : c248_groups.toInt ≤ 3) (p1 : 3 ≤ c248_groups.toInt) (p2 : c248_pots.toInt ≤ 4) (p3 : 0 ≤ c248_pots.toInt) (p4 : c261_many.toInt ≤ 6) (p5 : 6 ≤ c261_many.toInt) (p6 : ((n306 : Nat) : Int) ≤ 8064) (p7 : 144 ≤ ((n306 : Nat) : Int)) (hr_a263 : dz_rq a263 6 3 0 2) (hr_a268 : dz_rg a268 c248_pots.toInt.toNat 1 1296) (k : Nat) (ih : ∀ j9, j9 < k → p276_X0_addDraw_g3 fu c248_groups c248_pots c261_many a263 a268 n306 j9) : ∀ (v1 : Int32) (v2 : Int32) (v3 : Int32) (a306 : Nat → Int32), v1.toInt ≤ 1295 → 0 ≤ v1.toInt → v2.toInt ≤ 7920 → 0 ≤ v2.toInt → v3.toInt ≤ 4 → 0 ≤ v3.toInt → v3.toInt ≤ c248_pots.toInt → v2.toInt + 144 ≤ ((n306 : Nat) : Int) → 0 + 0 + (4 - v3.toInt) * 392 + 7 ≤ ((k : Nat) : Int) → dz_T ((F276_X0_addDraw fu c248_groups c248_pots c261_many a263 a268 n306 k).1 v1 v2 v3 a306) (fun r => True) := by
  intro v1 v2 v3 a306 i0 i1 i2 i3 i4 i5 i6 i7 hm
  obtain ⟨k0, rfl⟩ : ∃ x, k = x + 1 := ⟨k - 1, by omega⟩
  show dz_T (s276_X0_addDraw_1 fu c248_groups c248_pots c261_many a263 a268 n306 (F276_X0_addDraw fu c248_groups c248_pots c261_many a263 a268 n306 k0).2.1  v1 v2 v3 a306) _
  unfold s276_X0_addDraw_1
  refine dz_Tle (fun h1 => ?_) (fun h1 => ?_)
  · skip
    exact dz_Ts trivial
  · skip
    refine dz_Tbe (show f141_X2_rankIn fu c261_many a268 v1 v3 = (if dz_in v3 4 then (if ((a268 v3.toNatClampNeg) ≤ (0 : Int32)) then (some (0 : Int32)) else (if (c261_many ≤ (0 : Int32)) then (some (0 : Int32)) else (if (¬ ((a268 v3.toNatClampNeg) = (0 : Int32))) then (if (¬ (c261_many = (0 : Int32))) then (some (dz_rem (v1 / (a268 v3.toNatClampNeg)) c261_many)) else none) else none))) else none) from rfl) ?_
    refine dz_Tinb (by omega) (by omega) ?_
    have e2 := dz_rgat (hr_a268) (i := v3) (by omega) (by omega)
    have e3 := dz_l0
    refine dz_Tleb (fun h4 => ?_) (fun h4 => ?_)
    · skip
      exfalso; omega
    · skip
      refine dz_Tleb (fun h5 => ?_) (fun h5 => ?_)
      · skip
        exfalso; omega
      · skip
        refine dz_Tzb (by omega) ?_
        refine dz_Tzb (by omega) ?_
        refine dz_Tsb ?_
        have e6 := dz_divq (a := v1) (b := (a268 v3.toNatClampNeg)) 1 1295 (by omega) (by omega) (by omega) (by omega)
        have e7 := dz_remn (a := (v1 / (a268 v3.toNatClampNeg))) (b := c261_many) 6 (by omega) (by omega) (by omega)
        have e8 := dz_l4
        have e9 := dz_mulr (a := (dz_rem (v1 / (a268 v3.toNatClampNeg)) c261_many)) (b := (4 : Int32)) 4 (by omega) (by omega) (by omega)
        have e10 := dz_l1
        have e11 := dz_add (a := v3) (b := (1 : Int32)) (by omega) (by omega)
        exact (ih k0 (by omega)).2.1 v1 v2 v3 ((dz_rem (v1 / (a268 v3.toNatClampNeg)) c261_many) * (4 : Int32)) (v3 + (1 : Int32)) a306 (by first | assumption | omega) i0 i1 i2 i3 (by first | assumption | omega) i5 (by omega) (by omega) (by omega) (by omega) (by first | assumption | omega) (by omega) (by omega) i7 (by omega) (by omega)
set_option maxHeartbeats 1000000 in
set_option maxRecDepth 10000 in
theorem t276_X0_addDraw_h2_g3 (fu : Nat) (hfu : 1000000000000 ≤ fu) (c248_groups : Int32) (c248_pots : Int32) (c261_many : Int32) (a263 : Nat → Int32) (a268 : Nat → Int32) (n306 : Nat) (p0 : c248_groups.toInt ≤ 3) (p1 : 3 ≤ c248_groups.toInt) (p2 : c248_pots.toInt ≤ 4) (p3 : 0 ≤ c248_pots.toInt) (p4 : c261_many.toInt ≤ 6) (p5 : 6 ≤ c261_many.toInt) (p6 : ((n306 : Nat) : Int) ≤ 8064) (p7 : 144 ≤ ((n306 : Nat) : Int)) (hr_a263 : dz_rq a263 6 3 0 2) (hr_a268 : dz_rg a268 c248_pots.toInt.toNat 1 1296) (k : Nat) (ih : ∀ j9, j9 < k → p276_X0_addDraw_g3 fu c248_groups c248_pots c261_many a263 a268 n306 j9) : ∀ (v1 : Int32) (v2 : Int32) (v3 : Int32) (v4 : Int32) (v5 : Int32) (a306 : Nat → Int32), 1 ≤ c248_pots.toInt → v1.toInt ≤ 1295 → 0 ≤ v1.toInt → v2.toInt ≤ 7920 → 0 ≤ v2.toInt → v3.toInt ≤ 3 → 0 ≤ v3.toInt → v4.toInt ≤ 20 → 0 ≤ v4.toInt → v5.toInt ≤ 4 → 1 ≤ v5.toInt → v3.toInt + 1 ≤ c248_pots.toInt → v3.toInt + 1 ≤ v5.toInt → v5.toInt ≤ c248_pots.toInt → v2.toInt + 144 ≤ ((n306 : Nat) : Int) → v4.toInt % 4 = 0 → 0 + 0 + ((4 - v3.toInt) - 1) * 392 + 0 + (4 - v5.toInt) * 91 + 14 ≤ ((k : Nat) : Int) → dz_T ((F276_X0_addDraw fu c248_groups c248_pots c261_many a263 a268 n306 k).2.1 v1 v2 v3 v4 v5 a306) (fun r => True) := by
  intro v1 v2 v3 v4 v5 a306 i0 i1 i2 i3 i4 i5 i6 i7 i8 i9 i10 i11 i12 i13 i14 x0 hm
  obtain ⟨k0, rfl⟩ : ∃ x, k = x + 1 := ⟨k - 1, by omega⟩
  show dz_T (s276_X0_addDraw_2 fu c248_groups c248_pots c261_many a263 a268 n306 (F276_X0_addDraw fu c248_groups c248_pots c261_many a263 a268 n306 k0).1 (F276_X0_addDraw fu c248_groups c248_pots c261_many a263 a268 n306 k0).2.2  v1 v2 v3 v4 v5 a306) _
  unfold s276_X0_addDraw_2
  refine dz_Tle (fun h1 => ?_) (fun h1 => ?_)
  · skip
    have e2 := dz_l1
    have e3 := dz_add (a := v3) (b := (1 : Int32)) (by omega) (by omega)
    exact (ih k0 (by omega)).1 v1 v2 (v3 + (1 : Int32)) a306 i1 i2 i3 i4 (by omega) (by omega) (by omega) i14 (by omega)
  · skip
    refine dz_Tbe (show f141_X2_rankIn fu c261_many a268 v1 v5 = (if dz_in v5 4 then (if ((a268 v5.toNatClampNeg) ≤ (0 : Int32)) then (some (0 : Int32)) else (if (c261_many ≤ (0 : Int32)) then (some (0 : Int32)) else (if (¬ ((a268 v5.toNatClampNeg) = (0 : Int32))) then (if (¬ (c261_many = (0 : Int32))) then (some (dz_rem (v1 / (a268 v5.toNatClampNeg)) c261_many)) else none) else none))) else none) from rfl) ?_
    refine dz_Tinb (by omega) (by omega) ?_
    have e4 := dz_rgat (hr_a268) (i := v5) (by omega) (by omega)
    have e5 := dz_l0
    refine dz_Tleb (fun h6 => ?_) (fun h6 => ?_)
    · skip
      exfalso; omega
    · skip
      refine dz_Tleb (fun h7 => ?_) (fun h7 => ?_)
      · skip
        exfalso; omega
      · skip
        refine dz_Tzb (by omega) ?_
        refine dz_Tzb (by omega) ?_
        refine dz_Tsb ?_
        have e8 := dz_divq (a := v1) (b := (a268 v5.toNatClampNeg)) 1 1295 (by omega) (by omega) (by omega) (by omega)
        have e9 := dz_remn (a := (v1 / (a268 v5.toNatClampNeg))) (b := c261_many) 6 (by omega) (by omega) (by omega)
        have e10 := dz_l4
        have e11 := dz_mulr (a := (dz_rem (v1 / (a268 v5.toNatClampNeg)) c261_many)) (b := (4 : Int32)) 4 (by omega) (by omega) (by omega)
        exact (ih k0 (by omega)).2.2 v1 v2 v3 v4 v5 ((dz_rem (v1 / (a268 v5.toNatClampNeg)) c261_many) * (4 : Int32)) (0 : Int32) a306 (by first | assumption | omega) i1 i2 i3 i4 (by first | assumption | omega) i6 i7 i8 (by first | assumption | omega) i10 (by omega) (by omega) (by omega) (by omega) i12 (by first | assumption | omega) i14 (by omega) (by omega) (by omega)
set_option maxHeartbeats 1000000 in
set_option maxRecDepth 10000 in
theorem t276_X0_addDraw_h3_g3 (fu : Nat) (hfu : 1000000000000 ≤ fu) (c248_groups : Int32) (c248_pots : Int32) (c261_many : Int32) (a263 : Nat → Int32) (a268 : Nat → Int32) (n306 : Nat) (p0 : c248_groups.toInt ≤ 3) (p1 : 3 ≤ c248_groups.toInt) (p2 : c248_pots.toInt ≤ 4) (p3 : 0 ≤ c248_pots.toInt) (p4 : c261_many.toInt ≤ 6) (p5 : 6 ≤ c261_many.toInt) (p6 : ((n306 : Nat) : Int) ≤ 8064) (p7 : 144 ≤ ((n306 : Nat) : Int)) (hr_a263 : dz_rq a263 6 3 0 2) (hr_a268 : dz_rg a268 c248_pots.toInt.toNat 1 1296) (k : Nat) (ih : ∀ j9, j9 < k → p276_X0_addDraw_g3 fu c248_groups c248_pots c261_many a263 a268 n306 j9) : ∀ (v1 : Int32) (v2 : Int32) (v3 : Int32) (v4 : Int32) (v5 : Int32) (v6 : Int32) (v7 : Int32) (a306 : Nat → Int32), 2 ≤ c248_pots.toInt → v1.toInt ≤ 1295 → 0 ≤ v1.toInt → v2.toInt ≤ 7920 → 0 ≤ v2.toInt → v3.toInt ≤ 2 → 0 ≤ v3.toInt → v4.toInt ≤ 20 → 0 ≤ v4.toInt → v5.toInt ≤ 3 → 1 ≤ v5.toInt → v6.toInt ≤ 20 → 0 ≤ v6.toInt → v7.toInt ≤ 3 → 0 ≤ v7.toInt → v3.toInt + 1 ≤ v5.toInt → v5.toInt + 1 ≤ c248_pots.toInt → v2.toInt + 144 ≤ ((n306 : Nat) : Int) → v4.toInt % 4 = 0 → v6.toInt % 4 = 0 → 0 + 0 + ((4 - v3.toInt) - 1) * 392 + 0 + ((4 - v5.toInt) - 1) * 91 + 0 + (3 - v7.toInt) * 14 + 21 ≤ ((k : Nat) : Int) → dz_T ((F276_X0_addDraw fu c248_groups c248_pots c261_many a263 a268 n306 k).2.2 v1 v2 v3 v4 v5 v6 v7 a306) (fun r => True) := by
  intro v1 v2 v3 v4 v5 v6 v7 a306 i0 i1 i2 i3 i4 i5 i6 i7 i8 i9 i10 i11 i12 i13 i14 i15 i16 i17 x0 x1 hm
  obtain ⟨k0, rfl⟩ : ∃ x, k = x + 1 := ⟨k - 1, by omega⟩
  show dz_T (s276_X0_addDraw_3 fu c248_groups c248_pots c261_many a263 a268 n306 (F276_X0_addDraw fu c248_groups c248_pots c261_many a263 a268 n306 k0).2.1 (F276_X0_addDraw fu c248_groups c248_pots c261_many a263 a268 n306 k0).2.2  v1 v2 v3 v4 v5 v6 v7 a306) _
  unfold s276_X0_addDraw_3
  refine dz_Tle (fun h1 => ?_) (fun h1 => ?_)
  · skip
    have e2 := dz_l1
    have e3 := dz_add (a := v5) (b := (1 : Int32)) (by omega) (by omega)
    exact (ih k0 (by omega)).2.1 v1 v2 v3 v4 (v5 + (1 : Int32)) a306 (by first | assumption | omega) i1 i2 i3 i4 (by first | assumption | omega) i6 i7 i8 (by omega) (by omega) (by first | assumption | omega) (by omega) (by omega) i17 (by omega) (by omega)
  · skip
    have e4 := dz_add (a := v4) (b := v7) (by omega) (by omega)
    refine dz_Tin (by omega) (by omega) ?_
    have e5 := dz_add (a := v6) (b := v7) (by omega) (by omega)
    refine dz_Tin (by omega) (by omega) ?_
    have e6 := dz_mulr (a := v3) (b := c248_groups) 3 (by omega) (by omega) (by omega)
    have e7 := dz_rqat2 (hr_a263) (x := v4) (y := v7) (by omega) (by omega) (by omega) (by omega) (by omega) (by omega)
    have e8 := dz_add (a := (v3 * c248_groups)) (b := (a263 (v4 + v7).toNatClampNeg)) (by omega) (by omega)
    have e9 := dz_l12
    have e10 := dz_mulr (a := ((v3 * c248_groups) + (a263 (v4 + v7).toNatClampNeg))) (b := (12 : Int32)) 12 (by omega) (by omega) (by omega)
    have e11 := dz_add (a := v2) (b := (((v3 * c248_groups) + (a263 (v4 + v7).toNatClampNeg)) * (12 : Int32))) (by omega) (by omega)
    have e12 := dz_mulr (a := v5) (b := c248_groups) 3 (by omega) (by omega) (by omega)
    have e13 := dz_rqat2 (hr_a263) (x := v6) (y := v7) (by omega) (by omega) (by omega) (by omega) (by omega) (by omega)
    have e14 := dz_add (a := (v5 * c248_groups)) (b := (a263 (v6 + v7).toNatClampNeg)) (by omega) (by omega)
    have e15 := dz_add (a := (v2 + (((v3 * c248_groups) + (a263 (v4 + v7).toNatClampNeg)) * (12 : Int32)))) (b := ((v5 * c248_groups) + (a263 (v6 + v7).toNatClampNeg))) (by omega) (by omega)
    refine dz_Tin (by omega) (by omega) ?_
    refine dz_Tin (by omega) (by omega) ?_
    have e16 := dz_l1
    have e17 := dz_add (a := v7) (b := (1 : Int32)) (by omega) (by omega)
    exact (ih k0 (by omega)).2.2 v1 v2 v3 v4 v5 v6 (v7 + (1 : Int32)) (upd a306 ((v2 + (((v3 * c248_groups) + (a263 (v4 + v7).toNatClampNeg)) * (12 : Int32))) + ((v5 * c248_groups) + (a263 (v6 + v7).toNatClampNeg))).toNatClampNeg ((a306 ((v2 + (((v3 * c248_groups) + (a263 (v4 + v7).toNatClampNeg)) * (12 : Int32))) + ((v5 * c248_groups) + (a263 (v6 + v7).toNatClampNeg))).toNatClampNeg) + (1 : Int32))) i0 i1 i2 i3 i4 i5 i6 i7 i8 i9 i10 i11 i12 (by omega) (by omega) i15 i16 i17 (by omega) (by omega) (by omega)
theorem t276_X0_addDraw_I_g3 (fu : Nat) (hfu : 1000000000000 ≤ fu) (c248_groups : Int32) (c248_pots : Int32) (c261_many : Int32) (a263 : Nat → Int32) (a268 : Nat → Int32) (n306 : Nat) (p0 : c248_groups.toInt ≤ 3) (p1 : 3 ≤ c248_groups.toInt) (p2 : c248_pots.toInt ≤ 4) (p3 : 0 ≤ c248_pots.toInt) (p4 : c261_many.toInt ≤ 6) (p5 : 6 ≤ c261_many.toInt) (p6 : ((n306 : Nat) : Int) ≤ 8064) (p7 : 144 ≤ ((n306 : Nat) : Int)) (hr_a263 : dz_rq a263 6 3 0 2) (hr_a268 : dz_rg a268 c248_pots.toInt.toNat 1 1296) (k : Nat) : p276_X0_addDraw_g3 fu c248_groups c248_pots c261_many a263 a268 n306 k := by
  induction k using Nat.strongRecOn with
  | _ k ih => exact ⟨t276_X0_addDraw_h1_g3 fu hfu c248_groups c248_pots c261_many a263 a268 n306 p0 p1 p2 p3 p4 p5 p6 p7 hr_a263 hr_a268 k ih, t276_X0_addDraw_h2_g3 fu hfu c248_groups c248_pots c261_many a263 a268 n306 p0 p1 p2 p3 p4 p5 p6 p7 hr_a263 hr_a268 k ih, t276_X0_addDraw_h3_g3 fu hfu c248_groups c248_pots c261_many a263 a268 n306 p0 p1 p2 p3 p4 p5 p6 p7 hr_a263 hr_a268 k ih⟩
set_option maxHeartbeats 1000000 in
set_option maxRecDepth 10000 in
theorem t276_X0_addDraw_E_g3 (fu : Nat) (hfu : 1000000000000 ≤ fu) (c248_groups : Int32) (c248_pots : Int32) (c261_many : Int32) (a263 : Nat → Int32) (a268 : Nat → Int32) (n306 : Nat) (v1 : Int32) (v2 : Int32) (a306 : Nat → Int32) (p0 : c248_groups.toInt ≤ 3) (p1 : 3 ≤ c248_groups.toInt) (p2 : c248_pots.toInt ≤ 4) (p3 : 0 ≤ c248_pots.toInt) (p4 : c261_many.toInt ≤ 6) (p5 : 6 ≤ c261_many.toInt) (p6 : ((n306 : Nat) : Int) ≤ 8064) (p7 : 144 ≤ ((n306 : Nat) : Int)) (p8 : 0 ≤ v1.toInt) (p9 : v1.toInt ≤ 1295) (p10 : 0 ≤ v2.toInt) (p11 : v2.toInt ≤ 7920) (p12 : v2.toInt + 144 ≤ ((n306 : Nat) : Int)) (hr_a263 : dz_rq a263 6 3 0 2) (hr_a268 : dz_rg a268 c248_pots.toInt.toNat 1 1296) (kv : Nat) (hkv : 1000000000000 ≤ kv) : dz_T (s276_X0_addDraw_0 fu c248_groups c248_pots c261_many a263 a268 n306 (F276_X0_addDraw fu c248_groups c248_pots c261_many a263 a268 n306 kv).1  v1 v2 a306) (fun r => True) := by
  unfold s276_X0_addDraw_0
  have e1 := dz_l0
  exact (t276_X0_addDraw_I_g3 fu hfu c248_groups c248_pots c261_many a263 a268 n306 p0 p1 p2 p3 p4 p5 p6 p7 hr_a263 hr_a268 kv).1 v1 v2 (0 : Int32) a306 p9 p8 p11 p10 (by omega) (by omega) (by omega) p12 (by omega)
theorem t276_X0_addDraw_g3 (fu : Nat) (hfu : 1000000000000 ≤ fu) (c248_groups : Int32) (c248_pots : Int32) (c261_many : Int32) (a263 : Nat → Int32) (a268 : Nat → Int32) (n306 : Nat) (v1 : Int32) (v2 : Int32) (a306 : Nat → Int32) (p0 : c248_groups.toInt ≤ 3) (p1 : 3 ≤ c248_groups.toInt) (p2 : c248_pots.toInt ≤ 4) (p3 : 0 ≤ c248_pots.toInt) (p4 : c261_many.toInt ≤ 6) (p5 : 6 ≤ c261_many.toInt) (p6 : ((n306 : Nat) : Int) ≤ 8064) (p7 : 144 ≤ ((n306 : Nat) : Int)) (p8 : 0 ≤ v1.toInt) (p9 : v1.toInt ≤ 1295) (p10 : 0 ≤ v2.toInt) (p11 : v2.toInt ≤ 7920) (p12 : v2.toInt + 144 ≤ ((n306 : Nat) : Int)) (hr_a263 : dz_rq a263 6 3 0 2) (hr_a268 : dz_rg a268 c248_pots.toInt.toNat 1 1296) : dz_T (f276_X0_addDraw fu c248_groups c248_pots c261_many a263 a268 n306 v1 v2 a306) (fun r => True) :=
  t276_X0_addDraw_E_g3 fu hfu c248_groups c248_pots c261_many a263 a268 n306 v1 v2 a306 p0 p1 p2 p3 p4 p5 p6 p7 p8 p9 p10 p11 p12 hr_a263 hr_a268 fu hfu
abbrev p276_X0_addDraw_g4 (fu : Nat) (c248_groups : Int32) (c248_pots : Int32) (c261_many : Int32) (a263 : Nat → Int32) (a268 : Nat → Int32) (n306 : Nat) (k : Nat) : Prop :=
  (∀ (v1 : Int32) (v2 : Int32) (v3 : Int32) (a306 : Nat → Int32), v1.toInt ≤ 13823 → 0 ≤ v1.toInt → v2.toInt ≤ 7920 → 0 ≤ v2.toInt → v3.toInt ≤ 3 → 0 ≤ v3.toInt → v3.toInt ≤ c248_pots.toInt → v2.toInt + 144 ≤ ((n306 : Nat) : Int) → 0 + 0 + (3 - v3.toInt) * 343 + 7 ≤ ((k : Nat) : Int) → dz_T ((F276_X0_addDraw fu c248_groups c248_pots c261_many a263 a268 n306 k).1 v1 v2 v3 a306) (fun r => True)) ∧ (∀ (v1 : Int32) (v2 : Int32) (v3 : Int32) (v4 : Int32) (v5 : Int32) (a306 : Nat → Int32), 1 ≤ c248_pots.toInt → v1.toInt ≤ 13823 → 0 ≤ v1.toInt → v2.toInt ≤ 7920 → 0 ≤ v2.toInt → v3.toInt ≤ 2 → 0 ≤ v3.toInt → v4.toInt ≤ 92 → 0 ≤ v4.toInt → v5.toInt ≤ 3 → 1 ≤ v5.toInt → v3.toInt + 1 ≤ c248_pots.toInt → v3.toInt + 1 ≤ v5.toInt → v5.toInt ≤ c248_pots.toInt → v2.toInt + 144 ≤ ((n306 : Nat) : Int) → v4.toInt % 4 = 0 → 0 + 0 + ((3 - v3.toInt) - 1) * 343 + 0 + (3 - v5.toInt) * 105 + 14 ≤ ((k : Nat) : Int) → dz_T ((F276_X0_addDraw fu c248_groups c248_pots c261_many a263 a268 n306 k).2.1 v1 v2 v3 v4 v5 a306) (fun r => True)) ∧ (∀ (v1 : Int32) (v2 : Int32) (v3 : Int32) (v4 : Int32) (v5 : Int32) (v6 : Int32) (v7 : Int32) (a306 : Nat → Int32), 2 ≤ c248_pots.toInt → v1.toInt ≤ 13823 → 0 ≤ v1.toInt → v2.toInt ≤ 7920 → 0 ≤ v2.toInt → v3.toInt ≤ 1 → 0 ≤ v3.toInt → v4.toInt ≤ 92 → 0 ≤ v4.toInt → v5.toInt ≤ 2 → 1 ≤ v5.toInt → v6.toInt ≤ 92 → 0 ≤ v6.toInt → v7.toInt ≤ 4 → 0 ≤ v7.toInt → v3.toInt + 1 ≤ v5.toInt → v5.toInt + 1 ≤ c248_pots.toInt → v2.toInt + 144 ≤ ((n306 : Nat) : Int) → v4.toInt % 4 = 0 → v6.toInt % 4 = 0 → 0 + 0 + ((3 - v3.toInt) - 1) * 343 + 0 + ((3 - v5.toInt) - 1) * 105 + 0 + (4 - v7.toInt) * 14 + 21 ≤ ((k : Nat) : Int) → dz_T ((F276_X0_addDraw fu c248_groups c248_pots c261_many a263 a268 n306 k).2.2 v1 v2 v3 v4 v5 v6 v7 a306) (fun r => True))
set_option maxHeartbeats 1000000 in
set_option maxRecDepth 10000 in
theorem t276_X0_addDraw_h1_g4 (fu : Nat) (hfu : 1000000000000 ≤ fu) (c248_groups : Int32) (c248_pots : Int32) (c261_many : Int32) (a263 : Nat → Int32) (a268 : Nat → Int32) (n306 : Nat) (p0 : c248_groups.toInt ≤ 4) (p1 : 4 ≤ c248_groups.toInt) (p2 : c248_pots.toInt ≤ 3) (p3 : 0 ≤ c248_pots.toInt) (p4 : c261_many.toInt ≤ 24) (p5 : 24 ≤ c261_many.toInt) (p6 : ((n306 : Nat) : Int) ≤ 8064) (p7 : 144 ≤ ((n306 : Nat) : Int)) (hr_a263 : dz_rq a263 24 4 0 3) (hr_a268 : dz_rg a268 c248_pots.toInt.toNat 1 13824) (k : Nat) (ih : ∀ j9, j9 < k → p276_X0_addDraw_g4 fu c248_groups c248_pots c261_many a263 a268 n306 j9) : ∀ (v1 : Int32) (v2 : Int32) (v3 : Int32) (a306 : Nat → Int32), v1.toInt ≤ 13823 → 0 ≤ v1.toInt → v2.toInt ≤ 7920 → 0 ≤ v2.toInt → v3.toInt ≤ 3 → 0 ≤ v3.toInt → v3.toInt ≤ c248_pots.toInt → v2.toInt + 144 ≤ ((n306 : Nat) : Int) → 0 + 0 + (3 - v3.toInt) * 343 + 7 ≤ ((k : Nat) : Int) → dz_T ((F276_X0_addDraw fu c248_groups c248_pots c261_many a263 a268 n306 k).1 v1 v2 v3 a306) (fun r => True) := by
  intro v1 v2 v3 a306 i0 i1 i2 i3 i4 i5 i6 i7 hm
  obtain ⟨k0, rfl⟩ : ∃ x, k = x + 1 := ⟨k - 1, by omega⟩
  show dz_T (s276_X0_addDraw_1 fu c248_groups c248_pots c261_many a263 a268 n306 (F276_X0_addDraw fu c248_groups c248_pots c261_many a263 a268 n306 k0).2.1  v1 v2 v3 a306) _
  unfold s276_X0_addDraw_1
  refine dz_Tle (fun h1 => ?_) (fun h1 => ?_)
  · skip
    exact dz_Ts trivial
  · skip
    refine dz_Tbe (show f141_X2_rankIn fu c261_many a268 v1 v3 = (if dz_in v3 4 then (if ((a268 v3.toNatClampNeg) ≤ (0 : Int32)) then (some (0 : Int32)) else (if (c261_many ≤ (0 : Int32)) then (some (0 : Int32)) else (if (¬ ((a268 v3.toNatClampNeg) = (0 : Int32))) then (if (¬ (c261_many = (0 : Int32))) then (some (dz_rem (v1 / (a268 v3.toNatClampNeg)) c261_many)) else none) else none))) else none) from rfl) ?_
    refine dz_Tinb (by omega) (by omega) ?_
    have e2 := dz_rgat (hr_a268) (i := v3) (by omega) (by omega)
    have e3 := dz_l0
    refine dz_Tleb (fun h4 => ?_) (fun h4 => ?_)
    · skip
      exfalso; omega
    · skip
      refine dz_Tleb (fun h5 => ?_) (fun h5 => ?_)
      · skip
        exfalso; omega
      · skip
        refine dz_Tzb (by omega) ?_
        refine dz_Tzb (by omega) ?_
        refine dz_Tsb ?_
        have e6 := dz_divq (a := v1) (b := (a268 v3.toNatClampNeg)) 1 13823 (by omega) (by omega) (by omega) (by omega)
        have e7 := dz_remn (a := (v1 / (a268 v3.toNatClampNeg))) (b := c261_many) 24 (by omega) (by omega) (by omega)
        have e8 := dz_l4
        have e9 := dz_mulr (a := (dz_rem (v1 / (a268 v3.toNatClampNeg)) c261_many)) (b := (4 : Int32)) 4 (by omega) (by omega) (by omega)
        have e10 := dz_l1
        have e11 := dz_add (a := v3) (b := (1 : Int32)) (by omega) (by omega)
        exact (ih k0 (by omega)).2.1 v1 v2 v3 ((dz_rem (v1 / (a268 v3.toNatClampNeg)) c261_many) * (4 : Int32)) (v3 + (1 : Int32)) a306 (by first | assumption | omega) i0 i1 i2 i3 (by first | assumption | omega) i5 (by omega) (by omega) (by omega) (by omega) (by first | assumption | omega) (by omega) (by omega) i7 (by omega) (by omega)
set_option maxHeartbeats 1000000 in
set_option maxRecDepth 10000 in
theorem t276_X0_addDraw_h2_g4 (fu : Nat) (hfu : 1000000000000 ≤ fu) (c248_groups : Int32) (c248_pots : Int32) (c261_many : Int32) (a263 : Nat → Int32) (a268 : Nat → Int32) (n306 : Nat) (p0 : c248_groups.toInt ≤ 4) (p1 : 4 ≤ c248_groups.toInt) (p2 : c248_pots.toInt ≤ 3) (p3 : 0 ≤ c248_pots.toInt) (p4 : c261_many.toInt ≤ 24) (p5 : 24 ≤ c261_many.toInt) (p6 : ((n306 : Nat) : Int) ≤ 8064) (p7 : 144 ≤ ((n306 : Nat) : Int)) (hr_a263 : dz_rq a263 24 4 0 3) (hr_a268 : dz_rg a268 c248_pots.toInt.toNat 1 13824) (k : Nat) (ih : ∀ j9, j9 < k → p276_X0_addDraw_g4 fu c248_groups c248_pots c261_many a263 a268 n306 j9) : ∀ (v1 : Int32) (v2 : Int32) (v3 : Int32) (v4 : Int32) (v5 : Int32) (a306 : Nat → Int32), 1 ≤ c248_pots.toInt → v1.toInt ≤ 13823 → 0 ≤ v1.toInt → v2.toInt ≤ 7920 → 0 ≤ v2.toInt → v3.toInt ≤ 2 → 0 ≤ v3.toInt → v4.toInt ≤ 92 → 0 ≤ v4.toInt → v5.toInt ≤ 3 → 1 ≤ v5.toInt → v3.toInt + 1 ≤ c248_pots.toInt → v3.toInt + 1 ≤ v5.toInt → v5.toInt ≤ c248_pots.toInt → v2.toInt + 144 ≤ ((n306 : Nat) : Int) → v4.toInt % 4 = 0 → 0 + 0 + ((3 - v3.toInt) - 1) * 343 + 0 + (3 - v5.toInt) * 105 + 14 ≤ ((k : Nat) : Int) → dz_T ((F276_X0_addDraw fu c248_groups c248_pots c261_many a263 a268 n306 k).2.1 v1 v2 v3 v4 v5 a306) (fun r => True) := by
  intro v1 v2 v3 v4 v5 a306 i0 i1 i2 i3 i4 i5 i6 i7 i8 i9 i10 i11 i12 i13 i14 x0 hm
  obtain ⟨k0, rfl⟩ : ∃ x, k = x + 1 := ⟨k - 1, by omega⟩
  show dz_T (s276_X0_addDraw_2 fu c248_groups c248_pots c261_many a263 a268 n306 (F276_X0_addDraw fu c248_groups c248_pots c261_many a263 a268 n306 k0).1 (F276_X0_addDraw fu c248_groups c248_pots c261_many a263 a268 n306 k0).2.2  v1 v2 v3 v4 v5 a306) _
  unfold s276_X0_addDraw_2
  refine dz_Tle (fun h1 => ?_) (fun h1 => ?_)
  · skip
    have e2 := dz_l1
    have e3 := dz_add (a := v3) (b := (1 : Int32)) (by omega) (by omega)
    exact (ih k0 (by omega)).1 v1 v2 (v3 + (1 : Int32)) a306 i1 i2 i3 i4 (by omega) (by omega) (by omega) i14 (by omega)
  · skip
    refine dz_Tbe (show f141_X2_rankIn fu c261_many a268 v1 v5 = (if dz_in v5 4 then (if ((a268 v5.toNatClampNeg) ≤ (0 : Int32)) then (some (0 : Int32)) else (if (c261_many ≤ (0 : Int32)) then (some (0 : Int32)) else (if (¬ ((a268 v5.toNatClampNeg) = (0 : Int32))) then (if (¬ (c261_many = (0 : Int32))) then (some (dz_rem (v1 / (a268 v5.toNatClampNeg)) c261_many)) else none) else none))) else none) from rfl) ?_
    refine dz_Tinb (by omega) (by omega) ?_
    have e4 := dz_rgat (hr_a268) (i := v5) (by omega) (by omega)
    have e5 := dz_l0
    refine dz_Tleb (fun h6 => ?_) (fun h6 => ?_)
    · skip
      exfalso; omega
    · skip
      refine dz_Tleb (fun h7 => ?_) (fun h7 => ?_)
      · skip
        exfalso; omega
      · skip
        refine dz_Tzb (by omega) ?_
        refine dz_Tzb (by omega) ?_
        refine dz_Tsb ?_
        have e8 := dz_divq (a := v1) (b := (a268 v5.toNatClampNeg)) 1 13823 (by omega) (by omega) (by omega) (by omega)
        have e9 := dz_remn (a := (v1 / (a268 v5.toNatClampNeg))) (b := c261_many) 24 (by omega) (by omega) (by omega)
        have e10 := dz_l4
        have e11 := dz_mulr (a := (dz_rem (v1 / (a268 v5.toNatClampNeg)) c261_many)) (b := (4 : Int32)) 4 (by omega) (by omega) (by omega)
        exact (ih k0 (by omega)).2.2 v1 v2 v3 v4 v5 ((dz_rem (v1 / (a268 v5.toNatClampNeg)) c261_many) * (4 : Int32)) (0 : Int32) a306 (by first | assumption | omega) i1 i2 i3 i4 (by first | assumption | omega) i6 i7 i8 (by first | assumption | omega) i10 (by omega) (by omega) (by omega) (by omega) i12 (by first | assumption | omega) i14 (by omega) (by omega) (by omega)
set_option maxHeartbeats 1000000 in
set_option maxRecDepth 10000 in
theorem t276_X0_addDraw_h3_g4 (fu : Nat) (hfu : 1000000000000 ≤ fu) (c248_groups : Int32) (c248_pots : Int32) (c261_many : Int32) (a263 : Nat → Int32) (a268 : Nat → Int32) (n306 : Nat) (p0 : c248_groups.toInt ≤ 4) (p1 : 4 ≤ c248_groups.toInt) (p2 : c248_pots.toInt ≤ 3) (p3 : 0 ≤ c248_pots.toInt) (p4 : c261_many.toInt ≤ 24) (p5 : 24 ≤ c261_many.toInt) (p6 : ((n306 : Nat) : Int) ≤ 8064) (p7 : 144 ≤ ((n306 : Nat) : Int)) (hr_a263 : dz_rq a263 24 4 0 3) (hr_a268 : dz_rg a268 c248_pots.toInt.toNat 1 13824) (k : Nat) (ih : ∀ j9, j9 < k → p276_X0_addDraw_g4 fu c248_groups c248_pots c261_many a263 a268 n306 j9) : ∀ (v1 : Int32) (v2 : Int32) (v3 : Int32) (v4 : Int32) (v5 : Int32) (v6 : Int32) (v7 : Int32) (a306 : Nat → Int32), 2 ≤ c248_pots.toInt → v1.toInt ≤ 13823 → 0 ≤ v1.toInt → v2.toInt ≤ 7920 → 0 ≤ v2.toInt → v3.toInt ≤ 1 → 0 ≤ v3.toInt → v4.toInt ≤ 92 → 0 ≤ v4.toInt → v5.toInt ≤ 2 → 1 ≤ v5.toInt → v6.toInt ≤ 92 → 0 ≤ v6.toInt → v7.toInt ≤ 4 → 0 ≤ v7.toInt → v3.toInt + 1 ≤ v5.toInt → v5.toInt + 1 ≤ c248_pots.toInt → v2.toInt + 144 ≤ ((n306 : Nat) : Int) → v4.toInt % 4 = 0 → v6.toInt % 4 = 0 → 0 + 0 + ((3 - v3.toInt) - 1) * 343 + 0 + ((3 - v5.toInt) - 1) * 105 + 0 + (4 - v7.toInt) * 14 + 21 ≤ ((k : Nat) : Int) → dz_T ((F276_X0_addDraw fu c248_groups c248_pots c261_many a263 a268 n306 k).2.2 v1 v2 v3 v4 v5 v6 v7 a306) (fun r => True) := by
  intro v1 v2 v3 v4 v5 v6 v7 a306 i0 i1 i2 i3 i4 i5 i6 i7 i8 i9 i10 i11 i12 i13 i14 i15 i16 i17 x0 x1 hm
  obtain ⟨k0, rfl⟩ : ∃ x, k = x + 1 := ⟨k - 1, by omega⟩
  show dz_T (s276_X0_addDraw_3 fu c248_groups c248_pots c261_many a263 a268 n306 (F276_X0_addDraw fu c248_groups c248_pots c261_many a263 a268 n306 k0).2.1 (F276_X0_addDraw fu c248_groups c248_pots c261_many a263 a268 n306 k0).2.2  v1 v2 v3 v4 v5 v6 v7 a306) _
  unfold s276_X0_addDraw_3
  refine dz_Tle (fun h1 => ?_) (fun h1 => ?_)
  · skip
    have e2 := dz_l1
    have e3 := dz_add (a := v5) (b := (1 : Int32)) (by omega) (by omega)
    exact (ih k0 (by omega)).2.1 v1 v2 v3 v4 (v5 + (1 : Int32)) a306 (by first | assumption | omega) i1 i2 i3 i4 (by first | assumption | omega) i6 i7 i8 (by omega) (by omega) (by first | assumption | omega) (by omega) (by omega) i17 (by omega) (by omega)
  · skip
    have e4 := dz_add (a := v4) (b := v7) (by omega) (by omega)
    refine dz_Tin (by omega) (by omega) ?_
    have e5 := dz_add (a := v6) (b := v7) (by omega) (by omega)
    refine dz_Tin (by omega) (by omega) ?_
    have e6 := dz_mulr (a := v3) (b := c248_groups) 4 (by omega) (by omega) (by omega)
    have e7 := dz_rqat2 (hr_a263) (x := v4) (y := v7) (by omega) (by omega) (by omega) (by omega) (by omega) (by omega)
    have e8 := dz_add (a := (v3 * c248_groups)) (b := (a263 (v4 + v7).toNatClampNeg)) (by omega) (by omega)
    have e9 := dz_l12
    have e10 := dz_mulr (a := ((v3 * c248_groups) + (a263 (v4 + v7).toNatClampNeg))) (b := (12 : Int32)) 12 (by omega) (by omega) (by omega)
    have e11 := dz_add (a := v2) (b := (((v3 * c248_groups) + (a263 (v4 + v7).toNatClampNeg)) * (12 : Int32))) (by omega) (by omega)
    have e12 := dz_mulr (a := v5) (b := c248_groups) 4 (by omega) (by omega) (by omega)
    have e13 := dz_rqat2 (hr_a263) (x := v6) (y := v7) (by omega) (by omega) (by omega) (by omega) (by omega) (by omega)
    have e14 := dz_add (a := (v5 * c248_groups)) (b := (a263 (v6 + v7).toNatClampNeg)) (by omega) (by omega)
    have e15 := dz_add (a := (v2 + (((v3 * c248_groups) + (a263 (v4 + v7).toNatClampNeg)) * (12 : Int32)))) (b := ((v5 * c248_groups) + (a263 (v6 + v7).toNatClampNeg))) (by omega) (by omega)
    refine dz_Tin (by omega) (by omega) ?_
    refine dz_Tin (by omega) (by omega) ?_
    have e16 := dz_l1
    have e17 := dz_add (a := v7) (b := (1 : Int32)) (by omega) (by omega)
    exact (ih k0 (by omega)).2.2 v1 v2 v3 v4 v5 v6 (v7 + (1 : Int32)) (upd a306 ((v2 + (((v3 * c248_groups) + (a263 (v4 + v7).toNatClampNeg)) * (12 : Int32))) + ((v5 * c248_groups) + (a263 (v6 + v7).toNatClampNeg))).toNatClampNeg ((a306 ((v2 + (((v3 * c248_groups) + (a263 (v4 + v7).toNatClampNeg)) * (12 : Int32))) + ((v5 * c248_groups) + (a263 (v6 + v7).toNatClampNeg))).toNatClampNeg) + (1 : Int32))) i0 i1 i2 i3 i4 i5 i6 i7 i8 i9 i10 i11 i12 (by omega) (by omega) i15 i16 i17 (by omega) (by omega) (by omega)
theorem t276_X0_addDraw_I_g4 (fu : Nat) (hfu : 1000000000000 ≤ fu) (c248_groups : Int32) (c248_pots : Int32) (c261_many : Int32) (a263 : Nat → Int32) (a268 : Nat → Int32) (n306 : Nat) (p0 : c248_groups.toInt ≤ 4) (p1 : 4 ≤ c248_groups.toInt) (p2 : c248_pots.toInt ≤ 3) (p3 : 0 ≤ c248_pots.toInt) (p4 : c261_many.toInt ≤ 24) (p5 : 24 ≤ c261_many.toInt) (p6 : ((n306 : Nat) : Int) ≤ 8064) (p7 : 144 ≤ ((n306 : Nat) : Int)) (hr_a263 : dz_rq a263 24 4 0 3) (hr_a268 : dz_rg a268 c248_pots.toInt.toNat 1 13824) (k : Nat) : p276_X0_addDraw_g4 fu c248_groups c248_pots c261_many a263 a268 n306 k := by
  induction k using Nat.strongRecOn with
  | _ k ih => exact ⟨t276_X0_addDraw_h1_g4 fu hfu c248_groups c248_pots c261_many a263 a268 n306 p0 p1 p2 p3 p4 p5 p6 p7 hr_a263 hr_a268 k ih, t276_X0_addDraw_h2_g4 fu hfu c248_groups c248_pots c261_many a263 a268 n306 p0 p1 p2 p3 p4 p5 p6 p7 hr_a263 hr_a268 k ih, t276_X0_addDraw_h3_g4 fu hfu c248_groups c248_pots c261_many a263 a268 n306 p0 p1 p2 p3 p4 p5 p6 p7 hr_a263 hr_a268 k ih⟩
set_option maxHeartbeats 1000000 in
set_option maxRecDepth 10000 in
theorem t276_X0_addDraw_E_g4 (fu : Nat) (hfu : 1000000000000 ≤ fu) (c248_groups : Int32) (c248_pots : Int32) (c261_many : Int32) (a263 : Nat → Int32) (a268 : Nat → Int32) (n306 : Nat) (v1 : Int32) (v2 : Int32) (a306 : Nat → Int32) (p0 : c248_groups.toInt ≤ 4) (p1 : 4 ≤ c248_groups.toInt) (p2 : c248_pots.toInt ≤ 3) (p3 : 0 ≤ c248_pots.toInt) (p4 : c261_many.toInt ≤ 24) (p5 : 24 ≤ c261_many.toInt) (p6 : ((n306 : Nat) : Int) ≤ 8064) (p7 : 144 ≤ ((n306 : Nat) : Int)) (p8 : 0 ≤ v1.toInt) (p9 : v1.toInt ≤ 13823) (p10 : 0 ≤ v2.toInt) (p11 : v2.toInt ≤ 7920) (p12 : v2.toInt + 144 ≤ ((n306 : Nat) : Int)) (hr_a263 : dz_rq a263 24 4 0 3) (hr_a268 : dz_rg a268 c248_pots.toInt.toNat 1 13824) (kv : Nat) (hkv : 1000000000000 ≤ kv) : dz_T (s276_X0_addDraw_0 fu c248_groups c248_pots c261_many a263 a268 n306 (F276_X0_addDraw fu c248_groups c248_pots c261_many a263 a268 n306 kv).1  v1 v2 a306) (fun r => True) := by
  unfold s276_X0_addDraw_0
  have e1 := dz_l0
  exact (t276_X0_addDraw_I_g4 fu hfu c248_groups c248_pots c261_many a263 a268 n306 p0 p1 p2 p3 p4 p5 p6 p7 hr_a263 hr_a268 kv).1 v1 v2 (0 : Int32) a306 p9 p8 p11 p10 (by omega) (by omega) (by omega) p12 (by omega)
theorem t276_X0_addDraw_g4 (fu : Nat) (hfu : 1000000000000 ≤ fu) (c248_groups : Int32) (c248_pots : Int32) (c261_many : Int32) (a263 : Nat → Int32) (a268 : Nat → Int32) (n306 : Nat) (v1 : Int32) (v2 : Int32) (a306 : Nat → Int32) (p0 : c248_groups.toInt ≤ 4) (p1 : 4 ≤ c248_groups.toInt) (p2 : c248_pots.toInt ≤ 3) (p3 : 0 ≤ c248_pots.toInt) (p4 : c261_many.toInt ≤ 24) (p5 : 24 ≤ c261_many.toInt) (p6 : ((n306 : Nat) : Int) ≤ 8064) (p7 : 144 ≤ ((n306 : Nat) : Int)) (p8 : 0 ≤ v1.toInt) (p9 : v1.toInt ≤ 13823) (p10 : 0 ≤ v2.toInt) (p11 : v2.toInt ≤ 7920) (p12 : v2.toInt + 144 ≤ ((n306 : Nat) : Int)) (hr_a263 : dz_rq a263 24 4 0 3) (hr_a268 : dz_rg a268 c248_pots.toInt.toNat 1 13824) : dz_T (f276_X0_addDraw fu c248_groups c248_pots c261_many a263 a268 n306 v1 v2 a306) (fun r => True) :=
  t276_X0_addDraw_E_g4 fu hfu c248_groups c248_pots c261_many a263 a268 n306 v1 v2 a306 p0 p1 p2 p3 p4 p5 p6 p7 p8 p9 p10 p11 p12 hr_a263 hr_a268 fu hfu
set_option maxHeartbeats 1000000 in
theorem t276_X0_addDraw_s (fu : Nat) (hfu : 1000000000000 ≤ fu) (κ : Nat) (hκ : κ < 14) (c248_groups : Int32) (c248_pots : Int32) (c261_many : Int32) (a263 : Nat → Int32) (a268 : Nat → Int32) (n306 : Nat) (v1 : Int32) (v2 : Int32) (a306 : Nat → Int32) (p0 : c248_groups.toInt ≤ 4) (p1 : 2 ≤ c248_groups.toInt) (p2 : c248_pots.toInt ≤ 4) (p3 : 0 ≤ c248_pots.toInt) (p4 : c261_many.toInt ≤ 24) (p5 : 0 ≤ c261_many.toInt) (p6 : ((n306 : Nat) : Int) ≤ 8064) (p7 : 144 ≤ ((n306 : Nat) : Int)) (p8 : 0 ≤ v1.toInt) (p9 : v1.toInt ≤ 13823) (p10 : 0 ≤ v2.toInt) (p11 : v2.toInt ≤ 7920) (p12 : v2.toInt + 144 ≤ ((n306 : Nat) : Int)) (hr_a263 : dz_rq a263 (dz_kr κ) (dz_kg κ) 0 (((dz_kg κ : Nat) : Int) - 1)) (hr_a268 : dz_pt a268 (dz_kS κ)) (o0 : v1.toInt ≤ ((dz_kt κ : Nat) : Int) - 1) (o1 : c248_groups.toInt = ((dz_kg κ : Nat) : Int)) (o2 : c248_pots.toInt = ((dz_kp κ : Nat) : Int)) (o3 : c261_many.toInt = ((dz_kr κ : Nat) : Int)) : dz_T (f276_X0_addDraw fu c248_groups c248_pots c261_many a263 a268 n306 v1 v2 a306) (fun r => True) := by
  rcases (show κ = 0 ∨ κ = 1 ∨ κ = 2 ∨ κ = 3 ∨ κ = 4 ∨ κ = 5 ∨ κ = 6 ∨ κ = 7 ∨ κ = 8 ∨ κ = 9 ∨ κ = 10 ∨ κ = 11 ∨ κ = 12 ∨ κ = 13 by omega) with rfl | rfl | rfl | rfl | rfl | rfl | rfl | rfl | rfl | rfl | rfl | rfl | rfl | rfl
  · skip
    have o0 : v1.toInt ≤ (1 : Int) - 1 := o0
    have o1 : c248_groups.toInt = (2 : Int) := o1
    have o2 : c248_pots.toInt = (0 : Int) := o2
    have o3 : c261_many.toInt = (2 : Int) := o3
    refine dz_Tw (t276_X0_addDraw_g2 fu hfu c248_groups c248_pots c261_many a263 a268 n306 v1 v2 a306 (by first | assumption | omega) (by first | assumption | omega) (by first | assumption | omega) (by first | assumption | omega) (by first | assumption | omega) (by first | assumption | omega) (by first | assumption | omega) (by first | assumption | omega) (by first | assumption | omega) (by first | assumption | omega) (by first | assumption | omega) (by first | assumption | omega) (by first | assumption | omega) (by first | exact hr_a263 | exact dz_rgm hr_a263 (by omega) (by omega) | exact dz_pmr hr_a263 (by decide) (by omega) (by omega) (by omega) | exact dz_ptr hr_a263 (by decide) (by decide) (by omega) | exact dz_ptr hr_a263 (by decide) (by decide) (by show _ ≤ 0; omega) | exact dz_rgs hr_a263 (by omega)) (by first | exact hr_a268 | exact dz_rgm hr_a268 (by omega) (by omega) | exact dz_pmr hr_a268 (by decide) (by omega) (by omega) (by omega) | exact dz_ptr hr_a268 (by decide) (by decide) (by omega) | exact dz_ptr hr_a268 (by decide) (by decide) (by show _ ≤ 0; omega) | exact dz_rgs hr_a268 (by omega))) (fun r h => ?_)
    exact trivial
  · skip
    have o0 : v1.toInt ≤ (2 : Int) - 1 := o0
    have o1 : c248_groups.toInt = (2 : Int) := o1
    have o2 : c248_pots.toInt = (1 : Int) := o2
    have o3 : c261_many.toInt = (2 : Int) := o3
    refine dz_Tw (t276_X0_addDraw_g2 fu hfu c248_groups c248_pots c261_many a263 a268 n306 v1 v2 a306 (by first | assumption | omega) (by first | assumption | omega) (by first | assumption | omega) (by first | assumption | omega) (by first | assumption | omega) (by first | assumption | omega) (by first | assumption | omega) (by first | assumption | omega) (by first | assumption | omega) (by first | assumption | omega) (by first | assumption | omega) (by first | assumption | omega) (by first | assumption | omega) (by first | exact hr_a263 | exact dz_rgm hr_a263 (by omega) (by omega) | exact dz_pmr hr_a263 (by decide) (by omega) (by omega) (by omega) | exact dz_ptr hr_a263 (by decide) (by decide) (by omega) | exact dz_ptr hr_a263 (by decide) (by decide) (by show _ ≤ 1; omega) | exact dz_rgs hr_a263 (by omega)) (by first | exact hr_a268 | exact dz_rgm hr_a268 (by omega) (by omega) | exact dz_pmr hr_a268 (by decide) (by omega) (by omega) (by omega) | exact dz_ptr hr_a268 (by decide) (by decide) (by omega) | exact dz_ptr hr_a268 (by decide) (by decide) (by show _ ≤ 1; omega) | exact dz_rgs hr_a268 (by omega))) (fun r h => ?_)
    exact trivial
  · skip
    have o0 : v1.toInt ≤ (4 : Int) - 1 := o0
    have o1 : c248_groups.toInt = (2 : Int) := o1
    have o2 : c248_pots.toInt = (2 : Int) := o2
    have o3 : c261_many.toInt = (2 : Int) := o3
    refine dz_Tw (t276_X0_addDraw_g2 fu hfu c248_groups c248_pots c261_many a263 a268 n306 v1 v2 a306 (by first | assumption | omega) (by first | assumption | omega) (by first | assumption | omega) (by first | assumption | omega) (by first | assumption | omega) (by first | assumption | omega) (by first | assumption | omega) (by first | assumption | omega) (by first | assumption | omega) (by first | assumption | omega) (by first | assumption | omega) (by first | assumption | omega) (by first | assumption | omega) (by first | exact hr_a263 | exact dz_rgm hr_a263 (by omega) (by omega) | exact dz_pmr hr_a263 (by decide) (by omega) (by omega) (by omega) | exact dz_ptr hr_a263 (by decide) (by decide) (by omega) | exact dz_ptr hr_a263 (by decide) (by decide) (by show _ ≤ 2; omega) | exact dz_rgs hr_a263 (by omega)) (by first | exact hr_a268 | exact dz_rgm hr_a268 (by omega) (by omega) | exact dz_pmr hr_a268 (by decide) (by omega) (by omega) (by omega) | exact dz_ptr hr_a268 (by decide) (by decide) (by omega) | exact dz_ptr hr_a268 (by decide) (by decide) (by show _ ≤ 2; omega) | exact dz_rgs hr_a268 (by omega))) (fun r h => ?_)
    exact trivial
  · skip
    have o0 : v1.toInt ≤ (8 : Int) - 1 := o0
    have o1 : c248_groups.toInt = (2 : Int) := o1
    have o2 : c248_pots.toInt = (3 : Int) := o2
    have o3 : c261_many.toInt = (2 : Int) := o3
    refine dz_Tw (t276_X0_addDraw_g2 fu hfu c248_groups c248_pots c261_many a263 a268 n306 v1 v2 a306 (by first | assumption | omega) (by first | assumption | omega) (by first | assumption | omega) (by first | assumption | omega) (by first | assumption | omega) (by first | assumption | omega) (by first | assumption | omega) (by first | assumption | omega) (by first | assumption | omega) (by first | assumption | omega) (by first | assumption | omega) (by first | assumption | omega) (by first | assumption | omega) (by first | exact hr_a263 | exact dz_rgm hr_a263 (by omega) (by omega) | exact dz_pmr hr_a263 (by decide) (by omega) (by omega) (by omega) | exact dz_ptr hr_a263 (by decide) (by decide) (by omega) | exact dz_ptr hr_a263 (by decide) (by decide) (by show _ ≤ 3; omega) | exact dz_rgs hr_a263 (by omega)) (by first | exact hr_a268 | exact dz_rgm hr_a268 (by omega) (by omega) | exact dz_pmr hr_a268 (by decide) (by omega) (by omega) (by omega) | exact dz_ptr hr_a268 (by decide) (by decide) (by omega) | exact dz_ptr hr_a268 (by decide) (by decide) (by show _ ≤ 3; omega) | exact dz_rgs hr_a268 (by omega))) (fun r h => ?_)
    exact trivial
  · skip
    have o0 : v1.toInt ≤ (16 : Int) - 1 := o0
    have o1 : c248_groups.toInt = (2 : Int) := o1
    have o2 : c248_pots.toInt = (4 : Int) := o2
    have o3 : c261_many.toInt = (2 : Int) := o3
    refine dz_Tw (t276_X0_addDraw_g2 fu hfu c248_groups c248_pots c261_many a263 a268 n306 v1 v2 a306 (by first | assumption | omega) (by first | assumption | omega) (by first | assumption | omega) (by first | assumption | omega) (by first | assumption | omega) (by first | assumption | omega) (by first | assumption | omega) (by first | assumption | omega) (by first | assumption | omega) (by first | assumption | omega) (by first | assumption | omega) (by first | assumption | omega) (by first | assumption | omega) (by first | exact hr_a263 | exact dz_rgm hr_a263 (by omega) (by omega) | exact dz_pmr hr_a263 (by decide) (by omega) (by omega) (by omega) | exact dz_ptr hr_a263 (by decide) (by decide) (by omega) | exact dz_ptr hr_a263 (by decide) (by decide) (by show _ ≤ 4; omega) | exact dz_rgs hr_a263 (by omega)) (by first | exact hr_a268 | exact dz_rgm hr_a268 (by omega) (by omega) | exact dz_pmr hr_a268 (by decide) (by omega) (by omega) (by omega) | exact dz_ptr hr_a268 (by decide) (by decide) (by omega) | exact dz_ptr hr_a268 (by decide) (by decide) (by show _ ≤ 4; omega) | exact dz_rgs hr_a268 (by omega))) (fun r h => ?_)
    exact trivial
  · skip
    have o0 : v1.toInt ≤ (1 : Int) - 1 := o0
    have o1 : c248_groups.toInt = (3 : Int) := o1
    have o2 : c248_pots.toInt = (0 : Int) := o2
    have o3 : c261_many.toInt = (6 : Int) := o3
    refine dz_Tw (t276_X0_addDraw_g3 fu hfu c248_groups c248_pots c261_many a263 a268 n306 v1 v2 a306 (by first | assumption | omega) (by first | assumption | omega) (by first | assumption | omega) (by first | assumption | omega) (by first | assumption | omega) (by first | assumption | omega) (by first | assumption | omega) (by first | assumption | omega) (by first | assumption | omega) (by first | assumption | omega) (by first | assumption | omega) (by first | assumption | omega) (by first | assumption | omega) (by first | exact hr_a263 | exact dz_rgm hr_a263 (by omega) (by omega) | exact dz_pmr hr_a263 (by decide) (by omega) (by omega) (by omega) | exact dz_ptr hr_a263 (by decide) (by decide) (by omega) | exact dz_ptr hr_a263 (by decide) (by decide) (by show _ ≤ 0; omega) | exact dz_rgs hr_a263 (by omega)) (by first | exact hr_a268 | exact dz_rgm hr_a268 (by omega) (by omega) | exact dz_pmr hr_a268 (by decide) (by omega) (by omega) (by omega) | exact dz_ptr hr_a268 (by decide) (by decide) (by omega) | exact dz_ptr hr_a268 (by decide) (by decide) (by show _ ≤ 0; omega) | exact dz_rgs hr_a268 (by omega))) (fun r h => ?_)
    exact trivial
  · skip
    have o0 : v1.toInt ≤ (6 : Int) - 1 := o0
    have o1 : c248_groups.toInt = (3 : Int) := o1
    have o2 : c248_pots.toInt = (1 : Int) := o2
    have o3 : c261_many.toInt = (6 : Int) := o3
    refine dz_Tw (t276_X0_addDraw_g3 fu hfu c248_groups c248_pots c261_many a263 a268 n306 v1 v2 a306 (by first | assumption | omega) (by first | assumption | omega) (by first | assumption | omega) (by first | assumption | omega) (by first | assumption | omega) (by first | assumption | omega) (by first | assumption | omega) (by first | assumption | omega) (by first | assumption | omega) (by first | assumption | omega) (by first | assumption | omega) (by first | assumption | omega) (by first | assumption | omega) (by first | exact hr_a263 | exact dz_rgm hr_a263 (by omega) (by omega) | exact dz_pmr hr_a263 (by decide) (by omega) (by omega) (by omega) | exact dz_ptr hr_a263 (by decide) (by decide) (by omega) | exact dz_ptr hr_a263 (by decide) (by decide) (by show _ ≤ 1; omega) | exact dz_rgs hr_a263 (by omega)) (by first | exact hr_a268 | exact dz_rgm hr_a268 (by omega) (by omega) | exact dz_pmr hr_a268 (by decide) (by omega) (by omega) (by omega) | exact dz_ptr hr_a268 (by decide) (by decide) (by omega) | exact dz_ptr hr_a268 (by decide) (by decide) (by show _ ≤ 1; omega) | exact dz_rgs hr_a268 (by omega))) (fun r h => ?_)
    exact trivial
  · skip
    have o0 : v1.toInt ≤ (36 : Int) - 1 := o0
    have o1 : c248_groups.toInt = (3 : Int) := o1
    have o2 : c248_pots.toInt = (2 : Int) := o2
    have o3 : c261_many.toInt = (6 : Int) := o3
    refine dz_Tw (t276_X0_addDraw_g3 fu hfu c248_groups c248_pots c261_many a263 a268 n306 v1 v2 a306 (by first | assumption | omega) (by first | assumption | omega) (by first | assumption | omega) (by first | assumption | omega) (by first | assumption | omega) (by first | assumption | omega) (by first | assumption | omega) (by first | assumption | omega) (by first | assumption | omega) (by first | assumption | omega) (by first | assumption | omega) (by first | assumption | omega) (by first | assumption | omega) (by first | exact hr_a263 | exact dz_rgm hr_a263 (by omega) (by omega) | exact dz_pmr hr_a263 (by decide) (by omega) (by omega) (by omega) | exact dz_ptr hr_a263 (by decide) (by decide) (by omega) | exact dz_ptr hr_a263 (by decide) (by decide) (by show _ ≤ 2; omega) | exact dz_rgs hr_a263 (by omega)) (by first | exact hr_a268 | exact dz_rgm hr_a268 (by omega) (by omega) | exact dz_pmr hr_a268 (by decide) (by omega) (by omega) (by omega) | exact dz_ptr hr_a268 (by decide) (by decide) (by omega) | exact dz_ptr hr_a268 (by decide) (by decide) (by show _ ≤ 2; omega) | exact dz_rgs hr_a268 (by omega))) (fun r h => ?_)
    exact trivial
  · skip
    have o0 : v1.toInt ≤ (216 : Int) - 1 := o0
    have o1 : c248_groups.toInt = (3 : Int) := o1
    have o2 : c248_pots.toInt = (3 : Int) := o2
    have o3 : c261_many.toInt = (6 : Int) := o3
    refine dz_Tw (t276_X0_addDraw_g3 fu hfu c248_groups c248_pots c261_many a263 a268 n306 v1 v2 a306 (by first | assumption | omega) (by first | assumption | omega) (by first | assumption | omega) (by first | assumption | omega) (by first | assumption | omega) (by first | assumption | omega) (by first | assumption | omega) (by first | assumption | omega) (by first | assumption | omega) (by first | assumption | omega) (by first | assumption | omega) (by first | assumption | omega) (by first | assumption | omega) (by first | exact hr_a263 | exact dz_rgm hr_a263 (by omega) (by omega) | exact dz_pmr hr_a263 (by decide) (by omega) (by omega) (by omega) | exact dz_ptr hr_a263 (by decide) (by decide) (by omega) | exact dz_ptr hr_a263 (by decide) (by decide) (by show _ ≤ 3; omega) | exact dz_rgs hr_a263 (by omega)) (by first | exact hr_a268 | exact dz_rgm hr_a268 (by omega) (by omega) | exact dz_pmr hr_a268 (by decide) (by omega) (by omega) (by omega) | exact dz_ptr hr_a268 (by decide) (by decide) (by omega) | exact dz_ptr hr_a268 (by decide) (by decide) (by show _ ≤ 3; omega) | exact dz_rgs hr_a268 (by omega))) (fun r h => ?_)
    exact trivial
  · skip
    have o0 : v1.toInt ≤ (1296 : Int) - 1 := o0
    have o1 : c248_groups.toInt = (3 : Int) := o1
    have o2 : c248_pots.toInt = (4 : Int) := o2
    have o3 : c261_many.toInt = (6 : Int) := o3
    refine dz_Tw (t276_X0_addDraw_g3 fu hfu c248_groups c248_pots c261_many a263 a268 n306 v1 v2 a306 (by first | assumption | omega) (by first | assumption | omega) (by first | assumption | omega) (by first | assumption | omega) (by first | assumption | omega) (by first | assumption | omega) (by first | assumption | omega) (by first | assumption | omega) (by first | assumption | omega) (by first | assumption | omega) (by first | assumption | omega) (by first | assumption | omega) (by first | assumption | omega) (by first | exact hr_a263 | exact dz_rgm hr_a263 (by omega) (by omega) | exact dz_pmr hr_a263 (by decide) (by omega) (by omega) (by omega) | exact dz_ptr hr_a263 (by decide) (by decide) (by omega) | exact dz_ptr hr_a263 (by decide) (by decide) (by show _ ≤ 4; omega) | exact dz_rgs hr_a263 (by omega)) (by first | exact hr_a268 | exact dz_rgm hr_a268 (by omega) (by omega) | exact dz_pmr hr_a268 (by decide) (by omega) (by omega) (by omega) | exact dz_ptr hr_a268 (by decide) (by decide) (by omega) | exact dz_ptr hr_a268 (by decide) (by decide) (by show _ ≤ 4; omega) | exact dz_rgs hr_a268 (by omega))) (fun r h => ?_)
    exact trivial
  · skip
    have o0 : v1.toInt ≤ (1 : Int) - 1 := o0
    have o1 : c248_groups.toInt = (4 : Int) := o1
    have o2 : c248_pots.toInt = (0 : Int) := o2
    have o3 : c261_many.toInt = (24 : Int) := o3
    refine dz_Tw (t276_X0_addDraw_g4 fu hfu c248_groups c248_pots c261_many a263 a268 n306 v1 v2 a306 (by first | assumption | omega) (by first | assumption | omega) (by first | assumption | omega) (by first | assumption | omega) (by first | assumption | omega) (by first | assumption | omega) (by first | assumption | omega) (by first | assumption | omega) (by first | assumption | omega) (by first | assumption | omega) (by first | assumption | omega) (by first | assumption | omega) (by first | assumption | omega) (by first | exact hr_a263 | exact dz_rgm hr_a263 (by omega) (by omega) | exact dz_pmr hr_a263 (by decide) (by omega) (by omega) (by omega) | exact dz_ptr hr_a263 (by decide) (by decide) (by omega) | exact dz_ptr hr_a263 (by decide) (by decide) (by show _ ≤ 0; omega) | exact dz_rgs hr_a263 (by omega)) (by first | exact hr_a268 | exact dz_rgm hr_a268 (by omega) (by omega) | exact dz_pmr hr_a268 (by decide) (by omega) (by omega) (by omega) | exact dz_ptr hr_a268 (by decide) (by decide) (by omega) | exact dz_ptr hr_a268 (by decide) (by decide) (by show _ ≤ 0; omega) | exact dz_rgs hr_a268 (by omega))) (fun r h => ?_)
    exact trivial
  · skip
    have o0 : v1.toInt ≤ (24 : Int) - 1 := o0
    have o1 : c248_groups.toInt = (4 : Int) := o1
    have o2 : c248_pots.toInt = (1 : Int) := o2
    have o3 : c261_many.toInt = (24 : Int) := o3
    refine dz_Tw (t276_X0_addDraw_g4 fu hfu c248_groups c248_pots c261_many a263 a268 n306 v1 v2 a306 (by first | assumption | omega) (by first | assumption | omega) (by first | assumption | omega) (by first | assumption | omega) (by first | assumption | omega) (by first | assumption | omega) (by first | assumption | omega) (by first | assumption | omega) (by first | assumption | omega) (by first | assumption | omega) (by first | assumption | omega) (by first | assumption | omega) (by first | assumption | omega) (by first | exact hr_a263 | exact dz_rgm hr_a263 (by omega) (by omega) | exact dz_pmr hr_a263 (by decide) (by omega) (by omega) (by omega) | exact dz_ptr hr_a263 (by decide) (by decide) (by omega) | exact dz_ptr hr_a263 (by decide) (by decide) (by show _ ≤ 1; omega) | exact dz_rgs hr_a263 (by omega)) (by first | exact hr_a268 | exact dz_rgm hr_a268 (by omega) (by omega) | exact dz_pmr hr_a268 (by decide) (by omega) (by omega) (by omega) | exact dz_ptr hr_a268 (by decide) (by decide) (by omega) | exact dz_ptr hr_a268 (by decide) (by decide) (by show _ ≤ 1; omega) | exact dz_rgs hr_a268 (by omega))) (fun r h => ?_)
    exact trivial
  · skip
    have o0 : v1.toInt ≤ (576 : Int) - 1 := o0
    have o1 : c248_groups.toInt = (4 : Int) := o1
    have o2 : c248_pots.toInt = (2 : Int) := o2
    have o3 : c261_many.toInt = (24 : Int) := o3
    refine dz_Tw (t276_X0_addDraw_g4 fu hfu c248_groups c248_pots c261_many a263 a268 n306 v1 v2 a306 (by first | assumption | omega) (by first | assumption | omega) (by first | assumption | omega) (by first | assumption | omega) (by first | assumption | omega) (by first | assumption | omega) (by first | assumption | omega) (by first | assumption | omega) (by first | assumption | omega) (by first | assumption | omega) (by first | assumption | omega) (by first | assumption | omega) (by first | assumption | omega) (by first | exact hr_a263 | exact dz_rgm hr_a263 (by omega) (by omega) | exact dz_pmr hr_a263 (by decide) (by omega) (by omega) (by omega) | exact dz_ptr hr_a263 (by decide) (by decide) (by omega) | exact dz_ptr hr_a263 (by decide) (by decide) (by show _ ≤ 2; omega) | exact dz_rgs hr_a263 (by omega)) (by first | exact hr_a268 | exact dz_rgm hr_a268 (by omega) (by omega) | exact dz_pmr hr_a268 (by decide) (by omega) (by omega) (by omega) | exact dz_ptr hr_a268 (by decide) (by decide) (by omega) | exact dz_ptr hr_a268 (by decide) (by decide) (by show _ ≤ 2; omega) | exact dz_rgs hr_a268 (by omega))) (fun r h => ?_)
    exact trivial
  · skip
    have o0 : v1.toInt ≤ (13824 : Int) - 1 := o0
    have o1 : c248_groups.toInt = (4 : Int) := o1
    have o2 : c248_pots.toInt = (3 : Int) := o2
    have o3 : c261_many.toInt = (24 : Int) := o3
    refine dz_Tw (t276_X0_addDraw_g4 fu hfu c248_groups c248_pots c261_many a263 a268 n306 v1 v2 a306 (by first | assumption | omega) (by first | assumption | omega) (by first | assumption | omega) (by first | assumption | omega) (by first | assumption | omega) (by first | assumption | omega) (by first | assumption | omega) (by first | assumption | omega) (by first | assumption | omega) (by first | assumption | omega) (by first | assumption | omega) (by first | assumption | omega) (by first | assumption | omega) (by first | exact hr_a263 | exact dz_rgm hr_a263 (by omega) (by omega) | exact dz_pmr hr_a263 (by decide) (by omega) (by omega) (by omega) | exact dz_ptr hr_a263 (by decide) (by decide) (by omega) | exact dz_ptr hr_a263 (by decide) (by decide) (by show _ ≤ 3; omega) | exact dz_rgs hr_a263 (by omega)) (by first | exact hr_a268 | exact dz_rgm hr_a268 (by omega) (by omega) | exact dz_pmr hr_a268 (by decide) (by omega) (by omega) (by omega) | exact dz_ptr hr_a268 (by decide) (by decide) (by omega) | exact dz_ptr hr_a268 (by decide) (by decide) (by show _ ≤ 3; omega) | exact dz_rgs hr_a268 (by omega))) (fun r h => ?_)
    exact trivial
