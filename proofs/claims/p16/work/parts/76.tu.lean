set_option maxHeartbeats 4000000 in
set_option maxRecDepth 10000 in
theorem tu_parts (fu : Nat) (hfu : 1000000000000 ≤ fu) (κ : Nat) (c73_taped : Int32) (c248_bars : Int32) (c248_groups : Int32) (c248_marks : Int32) (c248_pots : Int32) (c248_teams : Int32) (c254_at : Int32) (c254_length : Int32) (c254_start : Int32) (c255_bars : Int32) (c255_groups : Int32) (c255_marks : Int32) (c255_pots : Int32) (c255_teams : Int32) (c261_everyRank : Int32) (c261_groups : Int32) (c261_many : Int32) (c261_swapsAPot : Int32) (a262 : Nat → Int32) (a263 : Nat → Int32) (a264 : Nat → Int32) (a265 : Nat → Int32) (a266 : Nat → Int32) (c267_lawfulOnes : Int32) (c267_total : Int32) (a268 : Nat → Int32) (a269 : Nat → Int32) (n269 : Nat) (a270 : Nat → Int32) (n270 : Nat) (c274_out : Int32) (a275 : Nat → Int32) (a276 : Nat → Int32) (a277 : Nat → Int32) (a278 : Nat → Int32) (a279 : Nat → Int32) (c280_fresh : Int32) (a281 : Nat → Int32) (a282 : Nat → Int32) (a283 : Nat → Int32) (c284_fresh : Int32) (a285 : Nat → Int32) (a286 : Nat → Int32) (a287 : Nat → Int32) (c288_fresh : Int32) (a289 : Nat → Int32) (a290 : Nat → Int32) (c292_firstLeft : Int32) (c292_firstLevel : Int32) (c292_firstOpen : Int32) (c292_firstPrefix : Int32) (a296 : Nat → Int32) (c305_fresh : Int32) (n306 : Nat) (c307_done : Int32) (c307_partsFresh : Int32) (c307_queued : Int32) (n308 : Nat) (n309 : Nat) (v1 : Int32) (c307_manyParts : Int32) (c307_firstPart : Int32) (c307_greatestPart : Int32) (a308 : Nat → Int32) (a309 : Nat → Int32) (hX : dz_X κ c73_taped c248_bars c248_groups c248_marks c248_pots c248_teams c254_at c254_length c254_start c255_bars c255_groups c255_marks c255_pots c255_teams c261_everyRank c261_groups c261_many c261_swapsAPot a262 a263 a264 a265 a266 c267_lawfulOnes c267_total a268 a269 n269 a270 n270 c274_out a275 a276 a277 a278 a279 c280_fresh a281 a282 a283 c284_fresh a285 a286 a287 c288_fresh a289 a290 c292_firstLeft c292_firstLevel c292_firstOpen c292_firstPrefix a296 c305_fresh n306 c307_done c307_partsFresh c307_queued n308 n309) : ∃ U, dz_T (f290_X11_parts fu U c248_pots c261_many c261_swapsAPot a265 c267_total c267_lawfulOnes a268 a269 n269 a270 n270 v1 c307_done c307_partsFresh c307_manyParts c307_firstPart c307_greatestPart c307_queued a308 n308 a309 n309) (fun r => dz_X κ c73_taped c248_bars c248_groups c248_marks c248_pots c248_teams c254_at c254_length c254_start c255_bars c255_groups c255_marks c255_pots c255_teams c261_everyRank c261_groups c261_many c261_swapsAPot a262 a263 a264 a265 a266 c267_lawfulOnes c267_total a268 a269 n269 a270 n270 c274_out a275 a276 a277 a278 a279 c280_fresh a281 a282 a283 c284_fresh a285 a286 a287 c288_fresh a289 a290 c292_firstLeft c292_firstLevel c292_firstOpen c292_firstPrefix a296 c305_fresh n306 (r.2.1) (r.2.2.1) (r.2.2.2.2.2.2.1) (r.2.2.2.2.2.2.2.2.1) (r.2.2.2.2.2.2.2.2.2.2) ∧ U + dz_pot n308 ≤ dz_pot (r.2.2.2.2.2.2.2.2.1)) := by
  have hX0 := hX
  obtain ⟨hκ, x0, x1, x2, x3, x4, x5, x6, x7, x8, x9, x10, x11, x12, x13, x14, x15, x16, x17, x18, x19, x20, x21, x22, x23, x24, x25, x26, x27, x28, x29, x30, x31, x32, x33, x34, x35, x36, x37, x38, x39, x40, x41, x42, x43, x44, x45, x46, x47, x48, x49, x50, x51, x52, x53, x54, x55, x56, x57, x58, x59, x60, x61, x62, x63, x64, x65, x66, x67, x68, x69, x70, x71, x72, x73, x74, x75, x76, x77, x78, x79, x80, x81, x82, x83, x84, x85, x86, x87, x88, x89, x90, x91, x92, x93, x94, x95, x96, x97, x98, x99, x100, x101, x102, x103, x104, x105, x106, x107, x108, x109, x110, x111, x112, x113, x114, x115, x116⟩ := hX0
  have hC := dz_needCc (total := c267_total) (n := n308) (by omega) (by omega)
  by_cases c0 : dz_needC c267_total n308 = 0
  · refine ⟨0, dz_Tw (tx_parts fu hfu κ c73_taped c248_bars c248_groups c248_marks c248_pots c248_teams c254_at c254_length c254_start c255_bars c255_groups c255_marks c255_pots c255_teams c261_everyRank c261_groups c261_many c261_swapsAPot a262 a263 a264 a265 a266 c267_lawfulOnes c267_total a268 a269 n269 a270 n270 c274_out a275 a276 a277 a278 a279 c280_fresh a281 a282 a283 c284_fresh a285 a286 a287 c288_fresh a289 a290 c292_firstLeft c292_firstLevel c292_firstOpen c292_firstPrefix a296 c305_fresh n306 c307_done c307_partsFresh c307_queued n308 n309 (0) v1 c307_manyParts c307_firstPart c307_greatestPart a308 a309 hX (by omega)) (fun r q => ⟨q.1, ?_⟩)⟩
    obtain ⟨q9, q0, q1, q2, q3, q4, q5, q6, q7, q8, q9, q10, q11, q12, q13⟩ := q
    have := dz_potm (n := n308) (m := r.2.2.2.2.2.2.2.2.1) (by omega)
    omega
  have hU : dz_needC c267_total n308 = 2 * dz_kt κ := by omega
  have l0 := dz_l0'
  have l1 : (1 : Int32).toInt = 1 := by decide
  have l2 : (2 : Int32).toInt = 2 := by decide
  by_cases c1 : v1.toInt < 0 ∨ 2 < v1.toInt
  · refine ⟨0, ?_⟩
    unfold f290_X11_parts s290_X11_parts_0
    rw [if_neg (fun h => by rw [h] at c1; omega), if_neg (fun h => by rw [h] at c1; omega), if_neg (fun h => by rw [h] at c1; omega)]
    exact dz_Ts ⟨hX, dz_zU (Nat.le_refl _)⟩
  · refine ⟨dz_needC c267_total n308, dz_Tw (tx_parts fu hfu κ c73_taped c248_bars c248_groups c248_marks c248_pots c248_teams c254_at c254_length c254_start c255_bars c255_groups c255_marks c255_pots c255_teams c261_everyRank c261_groups c261_many c261_swapsAPot a262 a263 a264 a265 a266 c267_lawfulOnes c267_total a268 a269 n269 a270 n270 c274_out a275 a276 a277 a278 a279 c280_fresh a281 a282 a283 c284_fresh a285 a286 a287 c288_fresh a289 a290 c292_firstLeft c292_firstLevel c292_firstOpen c292_firstPrefix a296 c305_fresh n306 c307_done c307_partsFresh c307_queued n308 n309 (dz_needC c267_total n308) v1 c307_manyParts c307_firstPart c307_greatestPart a308 a309 hX (Nat.le_refl _)) (fun r q => ⟨q.1, ?_⟩)⟩
    obtain ⟨q9, q0, q1, q2, q3, q4, q5, q6, q7, q8, q9, q10, q11, q12, q13⟩ := q
    have := dz_potg hκ (n := n308) (m := r.2.2.2.2.2.2.2.2.1) (by omega) (by omega)
    omega
set_option maxHeartbeats 4000000 in
set_option maxRecDepth 10000 in
theorem tu_mix (fu : Nat) (hfu : 1000000000000 ≤ fu) (κ : Nat) (c73_taped : Int32) (c248_bars : Int32) (c248_groups : Int32) (c248_marks : Int32) (c248_pots : Int32) (c248_teams : Int32) (c254_at : Int32) (c254_length : Int32) (c254_start : Int32) (c255_bars : Int32) (c255_groups : Int32) (c255_marks : Int32) (c255_pots : Int32) (c255_teams : Int32) (c261_everyRank : Int32) (c261_groups : Int32) (c261_many : Int32) (c261_swapsAPot : Int32) (a262 : Nat → Int32) (a263 : Nat → Int32) (a264 : Nat → Int32) (a265 : Nat → Int32) (a266 : Nat → Int32) (c267_lawfulOnes : Int32) (c267_total : Int32) (a268 : Nat → Int32) (a269 : Nat → Int32) (n269 : Nat) (a270 : Nat → Int32) (n270 : Nat) (c274_out : Int32) (a275 : Nat → Int32) (a276 : Nat → Int32) (a277 : Nat → Int32) (a278 : Nat → Int32) (a279 : Nat → Int32) (c280_fresh : Int32) (a281 : Nat → Int32) (a282 : Nat → Int32) (a283 : Nat → Int32) (c284_fresh : Int32) (a285 : Nat → Int32) (a286 : Nat → Int32) (a287 : Nat → Int32) (c288_fresh : Int32) (a289 : Nat → Int32) (a290 : Nat → Int32) (c292_firstLeft : Int32) (c292_firstLevel : Int32) (c292_firstOpen : Int32) (c292_firstPrefix : Int32) (a296 : Nat → Int32) (c305_fresh : Int32) (n306 : Nat) (c307_done : Int32) (c307_partsFresh : Int32) (c307_queued : Int32) (n308 : Nat) (n309 : Nat) (v1 : Int32) (v2 : Int32) (a308 : Nat → Int32) (a309 : Nat → Int32) (hX : dz_X κ c73_taped c248_bars c248_groups c248_marks c248_pots c248_teams c254_at c254_length c254_start c255_bars c255_groups c255_marks c255_pots c255_teams c261_everyRank c261_groups c261_many c261_swapsAPot a262 a263 a264 a265 a266 c267_lawfulOnes c267_total a268 a269 n269 a270 n270 c274_out a275 a276 a277 a278 a279 c280_fresh a281 a282 a283 c284_fresh a285 a286 a287 c288_fresh a289 a290 c292_firstLeft c292_firstLevel c292_firstOpen c292_firstPrefix a296 c305_fresh n306 c307_done c307_partsFresh c307_queued n308 n309) : ∃ U, dz_T (f295_X11_mix fu U c248_pots c261_many c261_swapsAPot a265 c267_total c267_lawfulOnes a268 a269 n269 a270 n270 v1 v2 c307_done a308 n308 a309 n309) (fun r => dz_X κ c73_taped c248_bars c248_groups c248_marks c248_pots c248_teams c254_at c254_length c254_start c255_bars c255_groups c255_marks c255_pots c255_teams c261_everyRank c261_groups c261_many c261_swapsAPot a262 a263 a264 a265 a266 c267_lawfulOnes c267_total a268 a269 n269 a270 n270 c274_out a275 a276 a277 a278 a279 c280_fresh a281 a282 a283 c284_fresh a285 a286 a287 c288_fresh a289 a290 c292_firstLeft c292_firstLevel c292_firstOpen c292_firstPrefix a296 c305_fresh n306 (r.2.1) c307_partsFresh c307_queued (r.2.2.2.1) (r.2.2.2.2.2) ∧ U + dz_pot n308 ≤ dz_pot (r.2.2.2.1)) := by
  have hX0 := hX
  obtain ⟨hκ, x0, x1, x2, x3, x4, x5, x6, x7, x8, x9, x10, x11, x12, x13, x14, x15, x16, x17, x18, x19, x20, x21, x22, x23, x24, x25, x26, x27, x28, x29, x30, x31, x32, x33, x34, x35, x36, x37, x38, x39, x40, x41, x42, x43, x44, x45, x46, x47, x48, x49, x50, x51, x52, x53, x54, x55, x56, x57, x58, x59, x60, x61, x62, x63, x64, x65, x66, x67, x68, x69, x70, x71, x72, x73, x74, x75, x76, x77, x78, x79, x80, x81, x82, x83, x84, x85, x86, x87, x88, x89, x90, x91, x92, x93, x94, x95, x96, x97, x98, x99, x100, x101, x102, x103, x104, x105, x106, x107, x108, x109, x110, x111, x112, x113, x114, x115, x116⟩ := hX0
  have hC := dz_needCc (total := c267_total) (n := n308) (by omega) (by omega)
  by_cases c0 : dz_needC c267_total n308 = 0
  · refine ⟨0, dz_Tw (tx_mix fu hfu κ c73_taped c248_bars c248_groups c248_marks c248_pots c248_teams c254_at c254_length c254_start c255_bars c255_groups c255_marks c255_pots c255_teams c261_everyRank c261_groups c261_many c261_swapsAPot a262 a263 a264 a265 a266 c267_lawfulOnes c267_total a268 a269 n269 a270 n270 c274_out a275 a276 a277 a278 a279 c280_fresh a281 a282 a283 c284_fresh a285 a286 a287 c288_fresh a289 a290 c292_firstLeft c292_firstLevel c292_firstOpen c292_firstPrefix a296 c305_fresh n306 c307_done c307_partsFresh c307_queued n308 n309 (0) v1 v2 a308 a309 hX (by omega)) (fun r q => ⟨q.1, ?_⟩)⟩
    obtain ⟨q9, q0, q1, q2, q3, q4, q5, q6, q7, q8, q9, q10⟩ := q
    have := dz_potm (n := n308) (m := r.2.2.2.1) (by omega)
    omega
  have hU : dz_needC c267_total n308 = 2 * dz_kt κ := by omega
  have l0 := dz_l0'
  have l5 : (5 : Int32).toInt = 5 := by decide
  by_cases c1 : v1 < 0
  · refine ⟨0, ?_⟩
    unfold f295_X11_mix s295_X11_mix_0
    rw [if_pos c1]
    exact dz_Ts ⟨hX, dz_zU (Nat.le_refl _)⟩
  by_cases c2 : 5 < v1
  · refine ⟨0, ?_⟩
    unfold f295_X11_mix s295_X11_mix_0
    rw [if_neg c1, if_pos c2]
    exact dz_Ts ⟨hX, dz_zU (Nat.le_refl _)⟩
  have g1 := dz_fnlt c1
  have g2 := dz_fnlt c2
  by_cases c3 : v2 < 0
  · refine ⟨0, ?_⟩
    unfold f295_X11_mix s295_X11_mix_0
    rw [if_neg c1, if_neg c2]
    refine dz_Tbe (show f164_X11_isCode fu c267_total v2 = some 0 from if_pos c3) (dz_Tsb ?_)
    rw [if_pos rfl]
    exact dz_Ts ⟨hX, dz_zU (Nat.le_refl _)⟩
  by_cases c4 : c267_total ≤ v2
  · refine ⟨0, ?_⟩
    unfold f295_X11_mix s295_X11_mix_0
    rw [if_neg c1, if_neg c2]
    refine dz_Tbe (show f164_X11_isCode fu c267_total v2 = some 0 from (if_neg c3).trans (if_pos c4)) (dz_Tsb ?_)
    rw [if_pos rfl]
    exact dz_Ts ⟨hX, dz_zU (Nat.le_refl _)⟩
  have g3 := dz_fnlt c3
  have g4 := dz_fnle c4
  by_cases c5 : c267_lawfulOnes = 0
  · refine ⟨0, ?_⟩
    unfold f295_X11_mix s295_X11_mix_0
    rw [if_neg c1, if_neg c2]
    refine dz_Tbe (show f164_X11_isCode fu c267_total v2 = some 1 from (if_neg c3).trans (if_neg c4)) (dz_Tsb ?_)
    rw [if_neg (by decide), if_pos c5]
    exact dz_Ts ⟨hX, dz_zU (Nat.le_refl _)⟩
  have g5 := dz_fne c5
  refine ⟨dz_needC c267_total n308, dz_Tw (dz_TT (tx_mix fu hfu κ c73_taped c248_bars c248_groups c248_marks c248_pots c248_teams c254_at c254_length c254_start c255_bars c255_groups c255_marks c255_pots c255_teams c261_everyRank c261_groups c261_many c261_swapsAPot a262 a263 a264 a265 a266 c267_lawfulOnes c267_total a268 a269 n269 a270 n270 c274_out a275 a276 a277 a278 a279 c280_fresh a281 a282 a283 c284_fresh a285 a286 a287 c288_fresh a289 a290 c292_firstLeft c292_firstLevel c292_firstOpen c292_firstPrefix a296 c305_fresh n306 c307_done c307_partsFresh c307_queued n308 n309 (dz_needC c267_total n308) v1 v2 a308 a309 hX (Nat.le_refl _)) (Q := fun r => ((dz_kt κ : Nat) : Int) ≤ ((r.2.2.2.1 : Nat) : Int)) ?_) (fun r q => ⟨q.1.1, ?_⟩)⟩
  · unfold f295_X11_mix s295_X11_mix_0
    rw [if_neg c1, if_neg c2]
    refine dz_Tbe (show f164_X11_isCode fu c267_total v2 = some 1 from (if_neg c3).trans (if_neg c4)) (dz_Tsb ?_)
    rw [if_neg (by decide), if_neg c5, if_pos (by omega)]
    exact dz_Tb (t294_X9_rowsTo_s fu hfu κ hκ (dz_needC c267_total n308) c248_pots c261_many c261_swapsAPot a265 c267_total c267_lawfulOnes a268 a269 n269 a270 n270 v1 v2 c307_done a308 n308 a309 n309 x4 x5 x30 x31 x34 x35 x36 x37 x38 x39 x40 x41 x42 x43 x52 x53 x106 x107 x108 x109 x55 x56 x57 x58 x110 x111 x60 x61 (by omega) (by omega) (by omega) (by omega) (by omega) (by omega) x65 x67 x68 x69 (Nat.le_refl _) x113 x74 x77 x79 x80) (fun x px => dz_Ts px.2.2.2.2.2.2.2.2.2.2.1)
  · have q2 := q.2
    have := dz_potg hκ (n := n308) (m := r.2.2.2.1) (by omega) (by omega)
    omega
set_option maxHeartbeats 4000000 in
set_option maxRecDepth 10000 in
theorem tu_mixed (fu : Nat) (hfu : 1000000000000 ≤ fu) (κ : Nat) (c73_taped : Int32) (c248_bars : Int32) (c248_groups : Int32) (c248_marks : Int32) (c248_pots : Int32) (c248_teams : Int32) (c254_at : Int32) (c254_length : Int32) (c254_start : Int32) (c255_bars : Int32) (c255_groups : Int32) (c255_marks : Int32) (c255_pots : Int32) (c255_teams : Int32) (c261_everyRank : Int32) (c261_groups : Int32) (c261_many : Int32) (c261_swapsAPot : Int32) (a262 : Nat → Int32) (a263 : Nat → Int32) (a264 : Nat → Int32) (a265 : Nat → Int32) (a266 : Nat → Int32) (c267_lawfulOnes : Int32) (c267_total : Int32) (a268 : Nat → Int32) (a269 : Nat → Int32) (n269 : Nat) (a270 : Nat → Int32) (n270 : Nat) (c274_out : Int32) (a275 : Nat → Int32) (a276 : Nat → Int32) (a277 : Nat → Int32) (a278 : Nat → Int32) (a279 : Nat → Int32) (c280_fresh : Int32) (a281 : Nat → Int32) (a282 : Nat → Int32) (a283 : Nat → Int32) (c284_fresh : Int32) (a285 : Nat → Int32) (a286 : Nat → Int32) (a287 : Nat → Int32) (c288_fresh : Int32) (a289 : Nat → Int32) (a290 : Nat → Int32) (c292_firstLeft : Int32) (c292_firstLevel : Int32) (c292_firstOpen : Int32) (c292_firstPrefix : Int32) (a296 : Nat → Int32) (c305_fresh : Int32) (n306 : Nat) (c307_done : Int32) (c307_partsFresh : Int32) (c307_queued : Int32) (n308 : Nat) (n309 : Nat) (v1 : Int32) (v2 : Int32) (a308 : Nat → Int32) (a309 : Nat → Int32) (hX : dz_X κ c73_taped c248_bars c248_groups c248_marks c248_pots c248_teams c254_at c254_length c254_start c255_bars c255_groups c255_marks c255_pots c255_teams c261_everyRank c261_groups c261_many c261_swapsAPot a262 a263 a264 a265 a266 c267_lawfulOnes c267_total a268 a269 n269 a270 n270 c274_out a275 a276 a277 a278 a279 c280_fresh a281 a282 a283 c284_fresh a285 a286 a287 c288_fresh a289 a290 c292_firstLeft c292_firstLevel c292_firstOpen c292_firstPrefix a296 c305_fresh n306 c307_done c307_partsFresh c307_queued n308 n309) : ∃ U, dz_T (f298_X11_mixed fu U c248_pots c261_many c261_swapsAPot a265 c267_total c267_lawfulOnes a268 a269 n269 a270 n270 v1 v2 c307_done a308 n308 a309 n309) (fun r => dz_X κ c73_taped c248_bars c248_groups c248_marks c248_pots c248_teams c254_at c254_length c254_start c255_bars c255_groups c255_marks c255_pots c255_teams c261_everyRank c261_groups c261_many c261_swapsAPot a262 a263 a264 a265 a266 c267_lawfulOnes c267_total a268 a269 n269 a270 n270 c274_out a275 a276 a277 a278 a279 c280_fresh a281 a282 a283 c284_fresh a285 a286 a287 c288_fresh a289 a290 c292_firstLeft c292_firstLevel c292_firstOpen c292_firstPrefix a296 c305_fresh n306 (r.2.1) c307_partsFresh c307_queued (r.2.2.2.1) (r.2.2.2.2.2) ∧ U + dz_pot n308 ≤ dz_pot (r.2.2.2.1)) := by
  have hX0 := hX
  obtain ⟨hκ, x0, x1, x2, x3, x4, x5, x6, x7, x8, x9, x10, x11, x12, x13, x14, x15, x16, x17, x18, x19, x20, x21, x22, x23, x24, x25, x26, x27, x28, x29, x30, x31, x32, x33, x34, x35, x36, x37, x38, x39, x40, x41, x42, x43, x44, x45, x46, x47, x48, x49, x50, x51, x52, x53, x54, x55, x56, x57, x58, x59, x60, x61, x62, x63, x64, x65, x66, x67, x68, x69, x70, x71, x72, x73, x74, x75, x76, x77, x78, x79, x80, x81, x82, x83, x84, x85, x86, x87, x88, x89, x90, x91, x92, x93, x94, x95, x96, x97, x98, x99, x100, x101, x102, x103, x104, x105, x106, x107, x108, x109, x110, x111, x112, x113, x114, x115, x116⟩ := hX0
  have hC := dz_needCc (total := c267_total) (n := n308) (by omega) (by omega)
  by_cases c0 : dz_needC c267_total n308 = 0
  · refine ⟨0, dz_Tw (tx_mixed fu hfu κ c73_taped c248_bars c248_groups c248_marks c248_pots c248_teams c254_at c254_length c254_start c255_bars c255_groups c255_marks c255_pots c255_teams c261_everyRank c261_groups c261_many c261_swapsAPot a262 a263 a264 a265 a266 c267_lawfulOnes c267_total a268 a269 n269 a270 n270 c274_out a275 a276 a277 a278 a279 c280_fresh a281 a282 a283 c284_fresh a285 a286 a287 c288_fresh a289 a290 c292_firstLeft c292_firstLevel c292_firstOpen c292_firstPrefix a296 c305_fresh n306 c307_done c307_partsFresh c307_queued n308 n309 (0) v1 v2 a308 a309 hX (by omega)) (fun r q => ⟨q.1, ?_⟩)⟩
    obtain ⟨q9, q0, q1, q2, q3, q4, q5, q6, q7, q8, q9, q10⟩ := q
    have := dz_potm (n := n308) (m := r.2.2.2.1) (by omega)
    omega
  have hU : dz_needC c267_total n308 = 2 * dz_kt κ := by omega
  have l0 := dz_l0'
  have l5 : (5 : Int32).toInt = 5 := by decide
  by_cases c1 : v1 < 0
  · refine ⟨0, ?_⟩
    unfold f298_X11_mixed s298_X11_mixed_0
    rw [if_pos c1]
    exact dz_Ts ⟨hX, dz_zU (Nat.le_refl _)⟩
  by_cases c2 : 5 < v1
  · refine ⟨0, ?_⟩
    unfold f298_X11_mixed s298_X11_mixed_0
    rw [if_neg c1, if_pos c2]
    exact dz_Ts ⟨hX, dz_zU (Nat.le_refl _)⟩
  have g1 := dz_fnlt c1
  have g2 := dz_fnlt c2
  by_cases c5 : c267_lawfulOnes = 0
  · refine ⟨0, ?_⟩
    unfold f298_X11_mixed s298_X11_mixed_0
    rw [if_neg c1, if_neg c2, if_pos c5]
    exact dz_Ts ⟨hX, dz_zU (Nat.le_refl _)⟩
  have g5 := dz_fne c5
  by_cases c6 : v2 = 0
  · refine ⟨dz_needC c267_total n308, dz_Tw (dz_TT (tx_mixed fu hfu κ c73_taped c248_bars c248_groups c248_marks c248_pots c248_teams c254_at c254_length c254_start c255_bars c255_groups c255_marks c255_pots c255_teams c261_everyRank c261_groups c261_many c261_swapsAPot a262 a263 a264 a265 a266 c267_lawfulOnes c267_total a268 a269 n269 a270 n270 c274_out a275 a276 a277 a278 a279 c280_fresh a281 a282 a283 c284_fresh a285 a286 a287 c288_fresh a289 a290 c292_firstLeft c292_firstLevel c292_firstOpen c292_firstPrefix a296 c305_fresh n306 c307_done c307_partsFresh c307_queued n308 n309 (dz_needC c267_total n308) v1 v2 a308 a309 hX (Nat.le_refl _)) (Q := fun r => ((dz_kt κ : Nat) : Int) ≤ ((r.2.2.2.1 : Nat) : Int)) ?_) (fun r q => ⟨q.1.1, ?_⟩)⟩
    · unfold f298_X11_mixed s298_X11_mixed_0
      rw [if_neg c1, if_neg c2, if_neg c5, if_pos c6, if_pos (by omega)]
      exact dz_Tb (t297_X9_uneven_s fu hfu κ hκ (dz_needC c267_total n308) c248_pots c261_many c261_swapsAPot a265 c267_total c267_lawfulOnes a268 a269 n269 a270 n270 v1 c307_done a308 n308 a309 n309 x4 x5 x30 x31 x34 x35 x36 x37 x38 x39 x40 x41 x42 x43 x52 x53 x106 x107 x108 x109 x55 x56 x57 x58 x110 x111 x60 x61 (by omega) (by omega) (by omega) x65 x67 x68 x69 (Nat.le_refl _) x113 x74 x77 x79 x80) (fun x px => dz_Ts px.2.2.2.2.2.2.2.2.2.2.1)
    · have q2 := q.2
      have := dz_potg hκ (n := n308) (m := r.2.2.2.1) (by omega) (by omega)
      omega
  · refine ⟨0, ?_⟩
    unfold f298_X11_mixed s298_X11_mixed_0
    rw [if_neg c1, if_neg c2, if_neg c5, if_neg c6]
    by_cases c7 : v2 = 1
    · rw [if_pos c7]
      exact dz_Tb (t296_X9_allRows_s fu hfu κ hκ c248_pots c261_swapsAPot v1 x4 x5 x34 x35 (by omega) (by omega) x74 x79) (fun x _ => dz_Ts ⟨hX, dz_zU (Nat.le_refl _)⟩)
    · rw [if_neg c7]
      exact dz_Ts ⟨hX, dz_zU (Nat.le_refl _)⟩
set_option maxHeartbeats 4000000 in
set_option maxRecDepth 10000 in
theorem tu_moves (fu : Nat) (hfu : 1000000000000 ≤ fu) (κ : Nat) (c73_taped : Int32) (c248_bars : Int32) (c248_groups : Int32) (c248_marks : Int32) (c248_pots : Int32) (c248_teams : Int32) (c254_at : Int32) (c254_length : Int32) (c254_start : Int32) (c255_bars : Int32) (c255_groups : Int32) (c255_marks : Int32) (c255_pots : Int32) (c255_teams : Int32) (c261_everyRank : Int32) (c261_groups : Int32) (c261_many : Int32) (c261_swapsAPot : Int32) (a262 : Nat → Int32) (a263 : Nat → Int32) (a264 : Nat → Int32) (a265 : Nat → Int32) (a266 : Nat → Int32) (c267_lawfulOnes : Int32) (c267_total : Int32) (a268 : Nat → Int32) (a269 : Nat → Int32) (n269 : Nat) (a270 : Nat → Int32) (n270 : Nat) (c274_out : Int32) (a275 : Nat → Int32) (a276 : Nat → Int32) (a277 : Nat → Int32) (a278 : Nat → Int32) (a279 : Nat → Int32) (c280_fresh : Int32) (a281 : Nat → Int32) (a282 : Nat → Int32) (a283 : Nat → Int32) (c284_fresh : Int32) (a285 : Nat → Int32) (a286 : Nat → Int32) (a287 : Nat → Int32) (c288_fresh : Int32) (a289 : Nat → Int32) (a290 : Nat → Int32) (c292_firstLeft : Int32) (c292_firstLevel : Int32) (c292_firstOpen : Int32) (c292_firstPrefix : Int32) (a296 : Nat → Int32) (c305_fresh : Int32) (n306 : Nat) (c307_done : Int32) (c307_partsFresh : Int32) (c307_queued : Int32) (n308 : Nat) (n309 : Nat) (a271 : Nat → Int32) (v1 : Int32) (v2 : Int32) (v3 : Int32) (a306 : Nat → Int32) (hX : dz_X κ c73_taped c248_bars c248_groups c248_marks c248_pots c248_teams c254_at c254_length c254_start c255_bars c255_groups c255_marks c255_pots c255_teams c261_everyRank c261_groups c261_many c261_swapsAPot a262 a263 a264 a265 a266 c267_lawfulOnes c267_total a268 a269 n269 a270 n270 c274_out a275 a276 a277 a278 a279 c280_fresh a281 a282 a283 c284_fresh a285 a286 a287 c288_fresh a289 a290 c292_firstLeft c292_firstLevel c292_firstOpen c292_firstPrefix a296 c305_fresh n306 c307_done c307_partsFresh c307_queued n308 n309) : ∃ U, dz_T (f279_X11_moves fu U c248_groups c248_pots c248_teams c248_bars c261_many a263 c267_total c267_lawfulOnes a268 a269 n269 a271 v1 v2 v3 c305_fresh a306 n306) (fun r => dz_X κ c73_taped c248_bars c248_groups c248_marks c248_pots c248_teams c254_at c254_length c254_start c255_bars c255_groups c255_marks c255_pots c255_teams c261_everyRank c261_groups c261_many c261_swapsAPot a262 a263 a264 a265 a266 c267_lawfulOnes c267_total a268 a269 n269 a270 n270 c274_out a275 a276 a277 a278 a279 c280_fresh a281 a282 a283 c284_fresh a285 a286 a287 c288_fresh a289 a290 c292_firstLeft c292_firstLevel c292_firstOpen c292_firstPrefix a296 (r.2.1) (r.2.2.2) c307_done c307_partsFresh c307_queued n308 n309 ∧ U + dz_potT n306 ≤ dz_potT (r.2.2.2)) := by
  have hX0 := hX
  obtain ⟨hκ, x0, x1, x2, x3, x4, x5, x6, x7, x8, x9, x10, x11, x12, x13, x14, x15, x16, x17, x18, x19, x20, x21, x22, x23, x24, x25, x26, x27, x28, x29, x30, x31, x32, x33, x34, x35, x36, x37, x38, x39, x40, x41, x42, x43, x44, x45, x46, x47, x48, x49, x50, x51, x52, x53, x54, x55, x56, x57, x58, x59, x60, x61, x62, x63, x64, x65, x66, x67, x68, x69, x70, x71, x72, x73, x74, x75, x76, x77, x78, x79, x80, x81, x82, x83, x84, x85, x86, x87, x88, x89, x90, x91, x92, x93, x94, x95, x96, x97, x98, x99, x100, x101, x102, x103, x104, x105, x106, x107, x108, x109, x110, x111, x112, x113, x114, x115, x116⟩ := hX0
  have hC := dz_needTc (fr := c305_fresh) (bars := c248_bars) (n := n306) (by omega) (by omega)
  by_cases a1 : v1 < 0
  · refine ⟨0, ?_⟩
    unfold f279_X11_moves s279_X11_moves_0
    refine dz_Tbe (show f155_X11_isBar fu c248_bars v1 = some 0 from if_pos a1) (dz_Tsb ?_)
    rw [if_pos rfl]
    exact dz_Ts ⟨hX, dz_zU (Nat.le_refl _)⟩
  by_cases a2 : c248_bars ≤ v1
  · refine ⟨0, ?_⟩
    unfold f279_X11_moves s279_X11_moves_0
    refine dz_Tbe (show f155_X11_isBar fu c248_bars v1 = some 0 from (if_neg a1).trans (if_pos a2)) (dz_Tsb ?_)
    rw [if_pos rfl]
    exact dz_Ts ⟨hX, dz_zU (Nat.le_refl _)⟩
  by_cases a3 : v2 < 0
  · refine ⟨0, ?_⟩
    unfold f279_X11_moves s279_X11_moves_0
    refine dz_Tbe (show f155_X11_isBar fu c248_bars v1 = some 1 from (if_neg a1).trans (if_neg a2)) (dz_Tsb ?_)
    rw [if_neg (by decide)]
    refine dz_Tbe (show f159_X11_isTeam fu c248_teams v2 = some 0 from if_pos a3) (dz_Tsb ?_)
    rw [if_pos rfl]
    exact dz_Ts ⟨hX, dz_zU (Nat.le_refl _)⟩
  by_cases a4 : c248_teams ≤ v2
  · refine ⟨0, ?_⟩
    unfold f279_X11_moves s279_X11_moves_0
    refine dz_Tbe (show f155_X11_isBar fu c248_bars v1 = some 1 from (if_neg a1).trans (if_neg a2)) (dz_Tsb ?_)
    rw [if_neg (by decide)]
    refine dz_Tbe (show f159_X11_isTeam fu c248_teams v2 = some 0 from (if_neg a3).trans (if_pos a4)) (dz_Tsb ?_)
    rw [if_pos rfl]
    exact dz_Ts ⟨hX, dz_zU (Nat.le_refl _)⟩
  by_cases a5 : v3 < 0
  · refine ⟨0, ?_⟩
    unfold f279_X11_moves s279_X11_moves_0
    refine dz_Tbe (show f155_X11_isBar fu c248_bars v1 = some 1 from (if_neg a1).trans (if_neg a2)) (dz_Tsb ?_)
    rw [if_neg (by decide)]
    refine dz_Tbe (show f159_X11_isTeam fu c248_teams v2 = some 1 from (if_neg a3).trans (if_neg a4)) (dz_Tsb ?_)
    rw [if_neg (by decide)]
    refine dz_Tbe (show f159_X11_isTeam fu c248_teams v3 = some 0 from if_pos a5) (dz_Tsb ?_)
    rw [if_pos rfl]
    exact dz_Ts ⟨hX, dz_zU (Nat.le_refl _)⟩
  by_cases a6 : c248_teams ≤ v3
  · refine ⟨0, ?_⟩
    unfold f279_X11_moves s279_X11_moves_0
    refine dz_Tbe (show f155_X11_isBar fu c248_bars v1 = some 1 from (if_neg a1).trans (if_neg a2)) (dz_Tsb ?_)
    rw [if_neg (by decide)]
    refine dz_Tbe (show f159_X11_isTeam fu c248_teams v2 = some 1 from (if_neg a3).trans (if_neg a4)) (dz_Tsb ?_)
    rw [if_neg (by decide)]
    refine dz_Tbe (show f159_X11_isTeam fu c248_teams v3 = some 0 from (if_neg a5).trans (if_pos a6)) (dz_Tsb ?_)
    rw [if_pos rfl]
    exact dz_Ts ⟨hX, dz_zU (Nat.le_refl _)⟩
  by_cases a7 : v2 = v3
  · refine ⟨0, ?_⟩
    unfold f279_X11_moves s279_X11_moves_0
    refine dz_Tbe (show f155_X11_isBar fu c248_bars v1 = some 1 from (if_neg a1).trans (if_neg a2)) (dz_Tsb ?_)
    rw [if_neg (by decide)]
    refine dz_Tbe (show f159_X11_isTeam fu c248_teams v2 = some 1 from (if_neg a3).trans (if_neg a4)) (dz_Tsb ?_)
    rw [if_neg (by decide)]
    refine dz_Tbe (show f159_X11_isTeam fu c248_teams v3 = some 1 from (if_neg a5).trans (if_neg a6)) (dz_Tsb ?_)
    rw [if_neg (by decide)]
    rw [if_pos a7]
    exact dz_Ts ⟨hX, dz_zU (Nat.le_refl _)⟩
  refine ⟨dz_needT c305_fresh c248_bars n306, dz_Tw (dz_TP (tx_moves fu hfu κ c73_taped c248_bars c248_groups c248_marks c248_pots c248_teams c254_at c254_length c254_start c255_bars c255_groups c255_marks c255_pots c255_teams c261_everyRank c261_groups c261_many c261_swapsAPot a262 a263 a264 a265 a266 c267_lawfulOnes c267_total a268 a269 n269 a270 n270 c274_out a275 a276 a277 a278 a279 c280_fresh a281 a282 a283 c284_fresh a285 a286 a287 c288_fresh a289 a290 c292_firstLeft c292_firstLevel c292_firstOpen c292_firstPrefix a296 c305_fresh n306 c307_done c307_partsFresh c307_queued n308 n309 (dz_needT c305_fresh c248_bars n306) a271 v1 v2 v3 a306 hX (Nat.le_refl _)) (Q := fun r => (r.2.1).toInt ≠ 0 ∧ dz_nn n306 (r.2.2.2)) ?_) (fun r q => ⟨q.1.1, ?_⟩)⟩
  · unfold f279_X11_moves s279_X11_moves_0
    refine dz_Pbe (show f155_X11_isBar fu c248_bars v1 = some 1 from (if_neg a1).trans (if_neg a2)) (dz_Psb ?_)
    rw [if_neg (by decide)]
    refine dz_Pbe (show f159_X11_isTeam fu c248_teams v2 = some 1 from (if_neg a3).trans (if_neg a4)) (dz_Psb ?_)
    rw [if_neg (by decide)]
    refine dz_Pbe (show f159_X11_isTeam fu c248_teams v3 = some 1 from (if_neg a5).trans (if_neg a6)) (dz_Psb ?_)
    rw [if_neg (by decide), if_neg a7]
    exact dz_Pi (fun _ => dz_Pb (dz_pwP fu _ _ _ _ _ _ _ _ _ _ _ _ _ _ _ _ _ n306 ⟨Nat.le_refl _, by omega⟩) (fun r1 q1 => dz_Pi (fun _ => dz_Pb (dz_pwP fu _ _ _ _ _ _ _ _ _ _ _ _ _ _ _ _ _ n306 q1.2) (fun r2 q2 => dz_Pi (fun _ => dz_Ps q2) (fun _ => dz_Pn))) (fun _ => dz_Pn))) (fun _ => dz_Pn)
  · obtain ⟨⟨q9, q0, q1, q2, q3, q4⟩, w1, w2, w3⟩ := q
    rcases hC with hC | ⟨hC1, hC2⟩
    · have := dz_potTm (n := n306) (m := r.2.2.2) (by omega)
      omega
    · have := dz_potTg (n := n306) (m := r.2.2.2) (b := c248_bars) (by omega) (by omega) hC1 (by omega)
      omega
set_option maxHeartbeats 4000000 in
set_option maxRecDepth 10000 in
theorem tu_leave (fu : Nat) (hfu : 1000000000000 ≤ fu) (κ : Nat) (c73_taped : Int32) (c248_bars : Int32) (c248_groups : Int32) (c248_marks : Int32) (c248_pots : Int32) (c248_teams : Int32) (c254_at : Int32) (c254_length : Int32) (c254_start : Int32) (c255_bars : Int32) (c255_groups : Int32) (c255_marks : Int32) (c255_pots : Int32) (c255_teams : Int32) (c261_everyRank : Int32) (c261_groups : Int32) (c261_many : Int32) (c261_swapsAPot : Int32) (a262 : Nat → Int32) (a263 : Nat → Int32) (a264 : Nat → Int32) (a265 : Nat → Int32) (a266 : Nat → Int32) (c267_lawfulOnes : Int32) (c267_total : Int32) (a268 : Nat → Int32) (a269 : Nat → Int32) (n269 : Nat) (a270 : Nat → Int32) (n270 : Nat) (c274_out : Int32) (a275 : Nat → Int32) (a276 : Nat → Int32) (a277 : Nat → Int32) (a278 : Nat → Int32) (a279 : Nat → Int32) (c280_fresh : Int32) (a281 : Nat → Int32) (a282 : Nat → Int32) (a283 : Nat → Int32) (c284_fresh : Int32) (a285 : Nat → Int32) (a286 : Nat → Int32) (a287 : Nat → Int32) (c288_fresh : Int32) (a289 : Nat → Int32) (a290 : Nat → Int32) (c292_firstLeft : Int32) (c292_firstLevel : Int32) (c292_firstOpen : Int32) (c292_firstPrefix : Int32) (a296 : Nat → Int32) (c305_fresh : Int32) (n306 : Nat) (c307_done : Int32) (c307_partsFresh : Int32) (c307_queued : Int32) (n308 : Nat) (n309 : Nat) (a271 : Nat → Int32) (v1 : Int32) (a306 : Nat → Int32) (hX : dz_X κ c73_taped c248_bars c248_groups c248_marks c248_pots c248_teams c254_at c254_length c254_start c255_bars c255_groups c255_marks c255_pots c255_teams c261_everyRank c261_groups c261_many c261_swapsAPot a262 a263 a264 a265 a266 c267_lawfulOnes c267_total a268 a269 n269 a270 n270 c274_out a275 a276 a277 a278 a279 c280_fresh a281 a282 a283 c284_fresh a285 a286 a287 c288_fresh a289 a290 c292_firstLeft c292_firstLevel c292_firstOpen c292_firstPrefix a296 c305_fresh n306 c307_done c307_partsFresh c307_queued n308 n309) : ∃ U, dz_T (f306_X11_leave fu U c248_groups c248_pots c248_teams c248_bars c261_many a263 c267_total a268 a269 n269 a271 v1 c305_fresh a306 n306) (fun r => dz_X κ c73_taped c248_bars c248_groups c248_marks c248_pots c248_teams c254_at c254_length c254_start c255_bars c255_groups c255_marks c255_pots c255_teams c261_everyRank c261_groups c261_many c261_swapsAPot a262 a263 a264 a265 a266 c267_lawfulOnes c267_total a268 a269 n269 a270 n270 c274_out a275 a276 a277 a278 a279 c280_fresh a281 a282 a283 c284_fresh a285 a286 a287 c288_fresh a289 a290 c292_firstLeft c292_firstLevel c292_firstOpen c292_firstPrefix a296 (r.2.1) (r.2.2.2) c307_done c307_partsFresh c307_queued n308 n309 ∧ U + dz_potT n306 ≤ dz_potT (r.2.2.2)) := by
  have hX0 := hX
  obtain ⟨hκ, x0, x1, x2, x3, x4, x5, x6, x7, x8, x9, x10, x11, x12, x13, x14, x15, x16, x17, x18, x19, x20, x21, x22, x23, x24, x25, x26, x27, x28, x29, x30, x31, x32, x33, x34, x35, x36, x37, x38, x39, x40, x41, x42, x43, x44, x45, x46, x47, x48, x49, x50, x51, x52, x53, x54, x55, x56, x57, x58, x59, x60, x61, x62, x63, x64, x65, x66, x67, x68, x69, x70, x71, x72, x73, x74, x75, x76, x77, x78, x79, x80, x81, x82, x83, x84, x85, x86, x87, x88, x89, x90, x91, x92, x93, x94, x95, x96, x97, x98, x99, x100, x101, x102, x103, x104, x105, x106, x107, x108, x109, x110, x111, x112, x113, x114, x115, x116⟩ := hX0
  have hC := dz_needTc (fr := c305_fresh) (bars := c248_bars) (n := n306) (by omega) (by omega)
  obtain ⟨r, e, q0, q1, q2, q3, q4, q5, q6⟩ := t306_X11_leave_s fu hfu κ hκ (dz_needT c305_fresh c248_bars n306) c248_groups c248_pots c248_teams c248_bars c261_many a263 c267_total a268 a269 n269 a271 v1 c305_fresh a306 n306 x2 x3 x4 x5 x6 x7 x10 x11 x30 x31 x36 x37 x40 x41 x50 x51 x100 x101 x55 x63 x67 x68 (Nat.le_refl _) x73 x74 x75 x77 x80 x102 x103
  have w := dz_lvQ fu (dz_needT c305_fresh c248_bars n306) n306 c248_groups c248_pots c248_teams c248_bars c261_many a263 c267_total a268 a269 n269 a271 v1 c305_fresh a306 n306 ⟨Nat.le_refl _, by omega⟩ r e
  obtain ⟨⟨w1, w2⟩, w3⟩ := w
  have hXn : dz_X κ c73_taped c248_bars c248_groups c248_marks c248_pots c248_teams c254_at c254_length c254_start c255_bars c255_groups c255_marks c255_pots c255_teams c261_everyRank c261_groups c261_many c261_swapsAPot a262 a263 a264 a265 a266 c267_lawfulOnes c267_total a268 a269 n269 a270 n270 c274_out a275 a276 a277 a278 a279 c280_fresh a281 a282 a283 c284_fresh a285 a286 a287 c288_fresh a289 a290 c292_firstLeft c292_firstLevel c292_firstOpen c292_firstPrefix a296 (r.2.1) (r.2.2.2) c307_done c307_partsFresh c307_queued n308 n309 := ⟨hκ, x0, x1, x2, x3, x4, x5, x6, x7, x8, x9, x10, x11, x12, x13, x14, x15, x16, x17, x18, x19, x20, x21, x22, x23, x24, x25, x26, x27, x28, x29, x30, x31, x32, x33, x34, x35, x36, x37, x38, x39, x40, x41, x42, x43, x44, x45, x46, x47, x48, x49, (by first | assumption | omega), (by first | assumption | omega), x52, x53, x54, x55, x56, x57, x58, x59, x60, x61, x62, x63, x64, x65, x66, x67, x68, x69, x70, x71, x72, x73, x74, x75, x76, x77, x78, x79, x80, x81, x82, x83, x84, x85, x86, x87, x88, x89, x90, x91, x92, x93, x94, x95, x96, x97, x98, x99, (by first | assumption | omega), (by first | assumption | omega), x102, (by first | assumption | omega), x104, x105, x106, x107, x108, x109, x110, x111, x112, x113, x114, x115, x116⟩
  by_cases hz : r.2.1.toInt = 0
  · obtain ⟨w4, w5, w6⟩ := w3.resolve_left (fun h => h hz)
    refine ⟨0, r, dz_lvz0 fu _ c248_groups c248_pots c248_teams c248_bars c261_many a263 c267_total a268 a269 n269 a271 v1 c305_fresh a306 n306 ⟨Nat.zero_le _, by omega⟩ (by omega) (by omega) r hz e, hXn, ?_⟩
    have := dz_potTm (n := n306) (m := r.2.2.2) (by omega)
    omega
  · refine ⟨_, r, e, hXn, ?_⟩
    rcases hC with hC | ⟨hC1, hC2⟩
    · have := dz_potTm (n := n306) (m := r.2.2.2) (by omega)
      omega
    · have := dz_potTg (n := n306) (m := r.2.2.2) (b := c248_bars) (by omega) (by omega) hC1 (by omega)
      omega
set_option maxHeartbeats 4000000 in
set_option maxRecDepth 10000 in
theorem tu_nearest (fu : Nat) (hfu : 1000000000000 ≤ fu) (κ : Nat) (c73_taped : Int32) (c248_bars : Int32) (c248_groups : Int32) (c248_marks : Int32) (c248_pots : Int32) (c248_teams : Int32) (c254_at : Int32) (c254_length : Int32) (c254_start : Int32) (c255_bars : Int32) (c255_groups : Int32) (c255_marks : Int32) (c255_pots : Int32) (c255_teams : Int32) (c261_everyRank : Int32) (c261_groups : Int32) (c261_many : Int32) (c261_swapsAPot : Int32) (a262 : Nat → Int32) (a263 : Nat → Int32) (a264 : Nat → Int32) (a265 : Nat → Int32) (a266 : Nat → Int32) (c267_lawfulOnes : Int32) (c267_total : Int32) (a268 : Nat → Int32) (a269 : Nat → Int32) (n269 : Nat) (a270 : Nat → Int32) (n270 : Nat) (c274_out : Int32) (a275 : Nat → Int32) (a276 : Nat → Int32) (a277 : Nat → Int32) (a278 : Nat → Int32) (a279 : Nat → Int32) (c280_fresh : Int32) (a281 : Nat → Int32) (a282 : Nat → Int32) (a283 : Nat → Int32) (c284_fresh : Int32) (a285 : Nat → Int32) (a286 : Nat → Int32) (a287 : Nat → Int32) (c288_fresh : Int32) (a289 : Nat → Int32) (a290 : Nat → Int32) (c292_firstLeft : Int32) (c292_firstLevel : Int32) (c292_firstOpen : Int32) (c292_firstPrefix : Int32) (a296 : Nat → Int32) (c305_fresh : Int32) (n306 : Nat) (c307_done : Int32) (c307_partsFresh : Int32) (c307_queued : Int32) (n308 : Nat) (n309 : Nat) (c248_groupsNamed : Int32) (v1 : Int32) (c73_nearestOrder : Int32) (c73_nearestArrangement : Int32) (a291 : Nat → Int32) (a293 : Nat → Int32) (a294 : Nat → Int64) (c295_way : Int32) (a297 : Nat → Int64) (a298 : Nat → Int32) (a299 : Nat → Int64) (c302_rows : Int64) (c302_fresh : Int32) (a303 : Nat → Int64) (a304 : Nat → Int64) (c310_rows : Int64) (c310_fresh : Int32) (a311 : Nat → Int64) (a312 : Nat → Int64) (c316_rows : Int64) (c316_fresh : Int32) (a317 : Nat → Int64) (a318 : Nat → Int64) (c322_rows : Int64) (c322_fresh : Int32) (a323 : Nat → Int64) (a324 : Nat → Int64) (hX : dz_X κ c73_taped c248_bars c248_groups c248_marks c248_pots c248_teams c254_at c254_length c254_start c255_bars c255_groups c255_marks c255_pots c255_teams c261_everyRank c261_groups c261_many c261_swapsAPot a262 a263 a264 a265 a266 c267_lawfulOnes c267_total a268 a269 n269 a270 n270 c274_out a275 a276 a277 a278 a279 c280_fresh a281 a282 a283 c284_fresh a285 a286 a287 c288_fresh a289 a290 c292_firstLeft c292_firstLevel c292_firstOpen c292_firstPrefix a296 c305_fresh n306 c307_done c307_partsFresh c307_queued n308 n309) : dz_T (f271_X11_nearest fu 4 c248_groups c248_pots c248_teams c248_groupsNamed c261_groups c261_many c261_everyRank a262 a263 a264 c267_total c267_lawfulOnes a268 a269 n269 a275 a276 v1 c73_nearestOrder c73_nearestArrangement c280_fresh a281 a282 a283 c288_fresh a289 a290 a291 c292_firstLevel c292_firstPrefix c292_firstOpen c292_firstLeft a293 a294 c295_way a296 a297 a298 a299 c302_rows c302_fresh a303 a304 c310_rows c310_fresh a311 a312 c316_rows c316_fresh a317 a318 c322_rows c322_fresh a323 a324) (fun r => dz_X κ c73_taped c248_bars c248_groups c248_marks c248_pots c248_teams c254_at c254_length c254_start c255_bars c255_groups c255_marks c255_pots c255_teams c261_everyRank c261_groups c261_many c261_swapsAPot a262 a263 a264 a265 a266 c267_lawfulOnes c267_total a268 a269 n269 a270 n270 c274_out a275 a276 a277 a278 a279 (r.2.2.2.1) (r.2.2.2.2.1) (r.2.2.2.2.2.1) (r.2.2.2.2.2.2.1) c284_fresh a285 a286 a287 (r.2.2.2.2.2.2.2.1) (r.2.2.2.2.2.2.2.2.1) (r.2.2.2.2.2.2.2.2.2.1) (r.2.2.2.2.2.2.2.2.2.2.2.2.2.2.1) (r.2.2.2.2.2.2.2.2.2.2.2.1) (r.2.2.2.2.2.2.2.2.2.2.2.2.2.1) (r.2.2.2.2.2.2.2.2.2.2.2.2.1) (r.2.2.2.2.2.2.2.2.2.2.2.2.2.2.2.2.2.2.1) c305_fresh n306 c307_done c307_partsFresh c307_queued n308 n309) := dz_Tw (tx_nearest fu hfu κ c73_taped c248_bars c248_groups c248_marks c248_pots c248_teams c254_at c254_length c254_start c255_bars c255_groups c255_marks c255_pots c255_teams c261_everyRank c261_groups c261_many c261_swapsAPot a262 a263 a264 a265 a266 c267_lawfulOnes c267_total a268 a269 n269 a270 n270 c274_out a275 a276 a277 a278 a279 c280_fresh a281 a282 a283 c284_fresh a285 a286 a287 c288_fresh a289 a290 c292_firstLeft c292_firstLevel c292_firstOpen c292_firstPrefix a296 c305_fresh n306 c307_done c307_partsFresh c307_queued n308 n309 (4) c248_groupsNamed v1 c73_nearestOrder c73_nearestArrangement a291 a293 a294 c295_way a297 a298 a299 c302_rows c302_fresh a303 a304 c310_rows c310_fresh a311 a312 c316_rows c316_fresh a317 a318 c322_rows c322_fresh a323 a324 hX (Nat.le_refl _)) (fun r q => q.1)
