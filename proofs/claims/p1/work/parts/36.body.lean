set_option maxHeartbeats 8000000 in
set_option maxRecDepth 100000 in
theorem law_cases {p : Program} {l : Launch} {e : Env} {s : State} {m : MethodId} {below : List Frame} {meth : Method} {c : Code} {b : Nat} {xs : Nat → Int32} {D : va_G} {Y : Nat → ClassId} {tt : Nat → Nat} {A : Nat → Prop} {q : Nat → Nat} {H : Heap} {locs : List Loc} {ls : Array Slot} (hl9 : l.stackTraces = false) {sa : Nat} (hXE : jw_XE sa A s s.heap) (C0 : lw_At p s m meth c b 6 xs) (hE : jw_E D Y tt A s s.heap) (hA : ∀ q, s.heap.size ≤ q → A q) (hAo : ∀ q, A q → s.heap.size ≤ q) (hP : va_P D vwCl (jw_w Y q) H) (hD : va_D A (jw_w Y q)) (hS : va_S A s.heap H locs) (hl : lv_has ls 7 [(4, .int 0), (3, .ref (q 118)), (2, .ref (q 82)), (1, .ref (q 0)), (0, .ref b)]) {j : Nat} (hj : j < 33) : W p l e room_1 s m #[Value.ref b] below meth c H locs 119 302221 (lw_Z below #[Value.ref b] s) (F0 m 40 ls [.int (nI j)]) := by
  obtain ⟨hx, hb, hr, hml, hown, hts, hX, hbl, hlocks, hgv⟩ := id C0
  rcases (show j = 0 ∨ j = 1 ∨ j = 2 ∨ j = 3 ∨ j = 4 ∨ j = 5 ∨ j = 6 ∨ j = 7 ∨ j = 8 ∨ j = 9 ∨ j = 10 ∨ j = 11 ∨ j = 12 ∨ j = 13 ∨ j = 14 ∨ j = 15 ∨ j = 16 ∨ j = 17 ∨ j = 18 ∨ j = 19 ∨ j = 20 ∨ j = 21 ∨ j = 22 ∨ j = 23 ∨ j = 24 ∨ j = 25 ∨ j = 26 ∨ j = 27 ∨ j = 28 ∨ j = 29 ∨ j = 30 ∨ j = 31 ∨ j = 32 by omega) with rfl | rfl | rfl | rfl | rfl | rfl | rfl | rfl | rfl | rfl | rfl | rfl | rfl | rfl | rfl | rfl | rfl | rfl | rfl | rfl | rfl | rfl | rfl | rfl | rfl | rfl | rfl | rfl | rfl | rfl | rfl | rfl | rfl
  · refine lv_tableIn (off := 148) (tgt := 188) hx hb dL_law_40 (by decide +kernel) (by decide +kernel) (by decide +kernel) (by decide) ?_
    exact lc_feed_0 C0 hE hA hAo hP hD hS hl
  · refine lv_tableIn (off := 221) (tgt := 261) hx hb dL_law_40 (by decide +kernel) (by decide +kernel) (by decide +kernel) (by decide) ?_
    rcases (show (xs 1).toInt = 0 ∨ ((xs 1).toInt ≤ -1) ∨ (1 ≤ (xs 1).toInt) by omega) with h1 | h1 | h1
    · have h1 := jw_of (h1.trans (show (0 : Int) = (0 : Int32).toInt by decide +kernel))
      exact lc_text_0 C0 hE hA hAo hP hD hS hl h1
    · have h1 := h1
      exact lc_text_1 C0 hE hA hAo hP hD hS hl h1
    · have h1 := h1
      exact lc_text_2 C0 hE hA hAo hP hD hS hl h1
  · refine lv_tableIn (off := 246) (tgt := 286) hx hb dL_law_40 (by decide +kernel) (by decide +kernel) (by decide +kernel) (by decide) ?_
    rcases (show (xs 1).toInt = 0 ∨ (xs 1).toInt = 1 ∨ ((xs 1).toInt ≤ -1 ∨ 2 ≤ (xs 1).toInt) by omega) with h1 | h1 | h1
    · have h1 := jw_of (h1.trans (show (0 : Int) = (0 : Int32).toInt by decide +kernel))
      exact lc_fault_0 C0 hE hA hAo hP hD hS hl h1
    · have h1 := jw_of (h1.trans (show (1 : Int) = (1 : Int32).toInt by decide +kernel))
      exact lc_fault_1 C0 hE hA hAo hP hD hS hl h1
    · have h1 := h1
      exact lc_fault_2 C0 hE hA hAo hP hD hS hl h1
  · refine lv_tableIn (off := 271) (tgt := 311) hx hb dL_law_40 (by decide +kernel) (by decide +kernel) (by decide +kernel) (by decide) ?_
    rcases (show (xs 1).toInt = 0 ∨ (xs 1).toInt = 1 ∨ ((xs 1).toInt ≤ -1 ∨ 2 ≤ (xs 1).toInt) by omega) with h1 | h1 | h1
    · have h1 := jw_of (h1.trans (show (0 : Int) = (0 : Int32).toInt by decide +kernel))
      exact lc_named_0 C0 hE hA hAo hP hD hS hl h1
    · have h1 := jw_of (h1.trans (show (1 : Int) = (1 : Int32).toInt by decide +kernel))
      exact lc_named_1 C0 hE hA hAo hP hD hS hl h1
    · have h1 := h1
      exact lc_named_2 C0 hE hA hAo hP hD hS hl h1
  · refine lv_tableIn (off := 308) (tgt := 348) hx hb dL_law_40 (by decide +kernel) (by decide +kernel) (by decide +kernel) (by decide) ?_
    exact lc_lawful_0 C0 hE hA hAo hP hD hS hl
  · refine lv_tableIn (off := 321) (tgt := 361) hx hb dL_law_40 (by decide +kernel) (by decide +kernel) (by decide +kernel) (by decide) ?_
    exact lc_without_0 C0 hE hA hAo hP hD hS hl
  · refine lv_tableIn (off := 346) (tgt := 386) hx hb dL_law_40 (by decide +kernel) (by decide +kernel) (by decide +kernel) (by decide) ?_
    exact lc_forbids_0 C0 hE hA hAo hP hD hS hl
  · refine lv_tableIn (off := 359) (tgt := 399) hx hb dL_law_40 (by decide +kernel) (by decide +kernel) (by decide +kernel) (by decide) ?_
    exact lc_draw_0 C0 hE hA hAo hP hD hS hl
  · refine lv_tableIn (off := 396) (tgt := 436) hx hb dL_law_40 (by decide +kernel) (by decide +kernel) (by decide +kernel) (by decide) ?_
    rcases (show (xs 1).toInt = 0 ∨ ((xs 1).toInt ≤ -1 ∨ 1 ≤ (xs 1).toInt) by omega) with h1 | h1
    · have h1 := jw_of (h1.trans (show (0 : Int) = (0 : Int32).toInt by decide +kernel))
      exact lc_judge_0 C0 hE hA hAo hP hD hS hl h1
    · have h1 := h1
      exact lc_judge_1 C0 hE hA hAo hP hD hS hl h1
  · refine lv_tableIn (off := 421) (tgt := 461) hx hb dL_law_40 (by decide +kernel) (by decide +kernel) (by decide +kernel) (by decide) ?_
    exact lc_order_0 C0 hE hA hAo hP hD hS hl
  · refine lv_tableIn (off := 446) (tgt := 486) hx hb dL_law_40 (by decide +kernel) (by decide +kernel) (by decide +kernel) (by decide) ?_
    exact lc_ball_0 C0 hE hA hAo hP hD hS hl
  · refine lv_tableIn (off := 471) (tgt := 511) hx hb dL_law_40 (by decide +kernel) (by decide +kernel) (by decide +kernel) (by decide) ?_
    rcases (show (xs 1).toInt = 0 ∨ (xs 1).toInt = 1 ∨ ((xs 1).toInt ≤ -1 ∨ 2 ≤ (xs 1).toInt) by omega) with h1 | h1 | h1
    · have h1 := jw_of (h1.trans (show (0 : Int) = (0 : Int32).toInt by decide +kernel))
      exact lc_why_0 C0 hE hA hAo hP hD hS hl h1
    · have h1 := jw_of (h1.trans (show (1 : Int) = (1 : Int32).toInt by decide +kernel))
      exact lc_why_1 C0 hE hA hAo hP hD hS hl h1
    · have h1 := h1
      exact lc_why_2 C0 hE hA hAo hP hD hS hl h1
  · refine lv_tableIn (off := 496) (tgt := 536) hx hb dL_law_40 (by decide +kernel) (by decide +kernel) (by decide +kernel) (by decide) ?_
    exact lc_clear_0 C0 hE hA hAo hP hD hS hl
  · refine lv_tableIn (off := 509) (tgt := 549) hx hb dL_law_40 (by decide +kernel) (by decide +kernel) (by decide +kernel) (by decide) ?_
    exact lc_placed_0 C0 hE hA hAo hP hD hS hl
  · refine lv_tableIn (off := 534) (tgt := 574) hx hb dL_law_40 (by decide +kernel) (by decide +kernel) (by decide +kernel) (by decide) ?_
    rcases (show ((xs 1).toBitVec.toNat % 16 = 0) ∨ ((xs 1).toBitVec.toNat % 16 = 1) ∨ ((xs 1).toBitVec.toNat % 16 = 2) ∨ ((xs 1).toBitVec.toNat % 16 = 3) ∨ ((xs 1).toBitVec.toNat % 16 = 4) ∨ ((xs 1).toBitVec.toNat % 16 = 5) ∨ ((xs 1).toBitVec.toNat % 16 = 6) ∨ ((xs 1).toBitVec.toNat % 16 = 7) ∨ ((xs 1).toBitVec.toNat % 16 = 8) ∨ ((xs 1).toBitVec.toNat % 16 = 9) ∨ ((xs 1).toBitVec.toNat % 16 = 10) ∨ ((xs 1).toBitVec.toNat % 16 = 11) ∨ ((xs 1).toBitVec.toNat % 16 = 12) ∨ ((xs 1).toBitVec.toNat % 16 = 13) ∨ ((xs 1).toBitVec.toNat % 16 = 14) ∨ ((xs 1).toBitVec.toNat % 16 = 15) by have := Nat.mod_lt (xs 1).toBitVec.toNat (show 16 > 0 by decide); omega) with h1 | h1 | h1 | h1 | h1 | h1 | h1 | h1 | h1 | h1 | h1 | h1 | h1 | h1 | h1 | h1
    · have h1 := h1
      exact lc_arrange_0 C0 hE hA hAo hP hD hS hl h1
    · have h1 := h1
      exact lc_arrange_1 C0 hE hA hAo hP hD hS hl h1
    · have h1 := h1
      exact lc_arrange_2 C0 hE hA hAo hP hD hS hl h1
    · have h1 := h1
      exact lc_arrange_3 C0 hE hA hAo hP hD hS hl h1
    · have h1 := h1
      exact lc_arrange_4 C0 hE hA hAo hP hD hS hl h1
    · have h1 := h1
      exact lc_arrange_5 C0 hE hA hAo hP hD hS hl h1
    · have h1 := h1
      exact lc_arrange_6 C0 hE hA hAo hP hD hS hl h1
    · have h1 := h1
      exact lc_arrange_7 C0 hE hA hAo hP hD hS hl h1
    · have h1 := h1
      exact lc_arrange_8 C0 hE hA hAo hP hD hS hl h1
    · have h1 := h1
      exact lc_arrange_9 C0 hE hA hAo hP hD hS hl h1
    · have h1 := h1
      exact lc_arrange_10 C0 hE hA hAo hP hD hS hl h1
    · have h1 := h1
      exact lc_arrange_11 C0 hE hA hAo hP hD hS hl h1
    · have h1 := h1
      exact lc_arrange_12 C0 hE hA hAo hP hD hS hl h1
    · have h1 := h1
      exact lc_arrange_13 C0 hE hA hAo hP hD hS hl h1
    · have h1 := h1
      exact lc_arrange_14 C0 hE hA hAo hP hD hS hl h1
    · have h1 := h1
      exact lc_arrange_15 C0 hE hA hAo hP hD hS hl h1
  · refine lv_tableIn (off := 559) (tgt := 599) hx hb dL_law_40 (by decide +kernel) (by decide +kernel) (by decide +kernel) (by decide) ?_
    exact lc_undo_0 C0 hE hA hAo hP hD hS hl
  · refine lv_tableIn (off := 572) (tgt := 612) hx hb dL_law_40 (by decide +kernel) (by decide +kernel) (by decide +kernel) (by decide) ?_
    exact lc_ends_0 C0 hE hA hAo hP hD hS hl
  · refine lv_tableIn (off := 597) (tgt := 637) hx hb dL_law_40 (by decide +kernel) (by decide +kernel) (by decide +kernel) (by decide) ?_
    rcases (show (xs 1).toInt = 0 ∨ (xs 1).toInt = 1 ∨ ((xs 1).toInt ≤ -1 ∨ 2 ≤ (xs 1).toInt) by omega) with h1 | h1 | h1
    · have h1 := jw_of (h1.trans (show (0 : Int) = (0 : Int32).toInt by decide +kernel))
      exact lc_blame_0 C0 hE hA hAo hP hD hS hl h1
    · have h1 := jw_of (h1.trans (show (1 : Int) = (1 : Int32).toInt by decide +kernel))
      exact lc_blame_1 C0 hE hA hAo hP hD hS hl h1
    · have h1 := h1
      exact lc_blame_2 C0 hE hA hAo hP hD hS hl h1
  · refine lv_tableIn (off := 622) (tgt := 662) hx hb dL_law_40 (by decide +kernel) (by decide +kernel) (by decide +kernel) (by decide) ?_
    exact lc_pair_0 C0 hE hA hAo hP hD hS hl
  · refine lv_tableIn (off := 672) (tgt := 712) hx hb dL_law_40 (by decide +kernel) (by decide +kernel) (by decide +kernel) (by decide) ?_
    exact lc_place_0 C0 hE hA hAo hP hD hS hl
  · refine lv_tableIn (off := 722) (tgt := 762) hx hb dL_law_40 (by decide +kernel) (by decide +kernel) (by decide +kernel) (by decide) ?_
    rcases (show (xs 1).toInt = 0 ∨ (xs 1).toInt = 1 ∨ (xs 1).toInt = 2 ∨ ((xs 1).toInt ≤ -1 ∨ 3 ≤ (xs 1).toInt) by omega) with h1 | h1 | h1 | h1
    · have h1 := jw_of (h1.trans (show (0 : Int) = (0 : Int32).toInt by decide +kernel))
      exact lc_all_0 C0 hE hA hAo hP hD hS hl h1
    · have h1 := jw_of (h1.trans (show (1 : Int) = (1 : Int32).toInt by decide +kernel))
      exact lc_all_1 C0 hE hA hAo hP hD hS hl h1
    · have h1 := jw_of (h1.trans (show (2 : Int) = (2 : Int32).toInt by decide +kernel))
      exact lc_all_2 C0 hE hA hAo hP hD hS hl h1
    · have h1 := h1
      exact lc_all_3 C0 hE hA hAo hP hD hS hl h1
  · refine lv_tableIn (off := 748) (tgt := 788) hx hb dL_law_40 (by decide +kernel) (by decide +kernel) (by decide +kernel) (by decide) ?_
    rcases (show (xs 1).toInt = 0 ∨ (xs 1).toInt = 1 ∨ (xs 1).toInt = 2 ∨ ((xs 1).toInt ≤ -1 ∨ 3 ≤ (xs 1).toInt) by omega) with h1 | h1 | h1 | h1
    · have h1 := jw_of (h1.trans (show (0 : Int) = (0 : Int32).toInt by decide +kernel))
      rcases (show (xs 2).toInt = 0 ∨ (xs 2).toInt = 1 ∨ (xs 2).toInt = 2 ∨ ((xs 2).toInt ≤ -1 ∨ 3 ≤ (xs 2).toInt) by omega) with h2 | h2 | h2 | h2
      · have h2 := jw_of (h2.trans (show (0 : Int) = (0 : Int32).toInt by decide +kernel))
        exact lc_apart_0 C0 hE hA hAo hP hD hS hl h1 h2
      · have h2 := jw_of (h2.trans (show (1 : Int) = (1 : Int32).toInt by decide +kernel))
        rcases (show (xs 3).toInt = 0 ∨ (xs 3).toInt = 1 ∨ (xs 3).toInt = 2 ∨ (xs 3).toInt = 3 ∨ (xs 3).toInt = 4 ∨ (xs 3).toInt = 5 ∨ ((xs 3).toInt ≤ -1 ∨ 6 ≤ (xs 3).toInt) by omega) with h3 | h3 | h3 | h3 | h3 | h3 | h3
        · have h3 := jw_of (h3.trans (show (0 : Int) = (0 : Int32).toInt by decide +kernel))
          exact lc_apart_1 C0 hE hA hAo hP hD hS hl h1 h2 h3
        · have h3 := jw_of (h3.trans (show (1 : Int) = (1 : Int32).toInt by decide +kernel))
          exact lc_apart_2 C0 hE hA hAo hP hD hS hl h1 h2 h3
        · have h3 := jw_of (h3.trans (show (2 : Int) = (2 : Int32).toInt by decide +kernel))
          exact lc_apart_3 C0 hE hA hAo hP hD hS hl h1 h2 h3
        · have h3 := jw_of (h3.trans (show (3 : Int) = (3 : Int32).toInt by decide +kernel))
          exact lc_apart_4 C0 hE hA hAo hP hD hS hl h1 h2 h3
        · have h3 := jw_of (h3.trans (show (4 : Int) = (4 : Int32).toInt by decide +kernel))
          exact lc_apart_5 C0 hE hA hAo hP hD hS hl h1 h2 h3
        · have h3 := jw_of (h3.trans (show (5 : Int) = (5 : Int32).toInt by decide +kernel))
          exact lc_apart_6 C0 hE hA hAo hP hD hS hl h1 h2 h3
        · have h3 := h3
          exact lc_apart_7 C0 hE hA hAo hP hD hS hl h1 h2 h3
      · have h2 := jw_of (h2.trans (show (2 : Int) = (2 : Int32).toInt by decide +kernel))
        rcases (show (xs 3).toInt = 0 ∨ (xs 3).toInt = 1 ∨ (xs 3).toInt = 2 ∨ (xs 3).toInt = 3 ∨ (xs 3).toInt = 4 ∨ (xs 3).toInt = 5 ∨ ((xs 3).toInt ≤ -1 ∨ 6 ≤ (xs 3).toInt) by omega) with h3 | h3 | h3 | h3 | h3 | h3 | h3
        · have h3 := jw_of (h3.trans (show (0 : Int) = (0 : Int32).toInt by decide +kernel))
          exact lc_apart_8 C0 hE hA hAo hP hD hS hl h1 h2 h3
        · have h3 := jw_of (h3.trans (show (1 : Int) = (1 : Int32).toInt by decide +kernel))
          exact lc_apart_9 C0 hE hA hAo hP hD hS hl h1 h2 h3
        · have h3 := jw_of (h3.trans (show (2 : Int) = (2 : Int32).toInt by decide +kernel))
          exact lc_apart_10 C0 hE hA hAo hP hD hS hl h1 h2 h3
        · have h3 := jw_of (h3.trans (show (3 : Int) = (3 : Int32).toInt by decide +kernel))
          exact lc_apart_11 C0 hE hA hAo hP hD hS hl h1 h2 h3
        · have h3 := jw_of (h3.trans (show (4 : Int) = (4 : Int32).toInt by decide +kernel))
          exact lc_apart_12 C0 hE hA hAo hP hD hS hl h1 h2 h3
        · have h3 := jw_of (h3.trans (show (5 : Int) = (5 : Int32).toInt by decide +kernel))
          exact lc_apart_13 C0 hE hA hAo hP hD hS hl h1 h2 h3
        · have h3 := h3
          exact lc_apart_14 C0 hE hA hAo hP hD hS hl h1 h2 h3
      · have h2 := h2
        exact lc_apart_15 C0 hE hA hAo hP hD hS hl h1 h2
    · have h1 := jw_of (h1.trans (show (1 : Int) = (1 : Int32).toInt by decide +kernel))
      rcases (show (xs 2).toInt = 0 ∨ (xs 2).toInt = 1 ∨ (xs 2).toInt = 2 ∨ ((xs 2).toInt ≤ -1 ∨ 3 ≤ (xs 2).toInt) by omega) with h2 | h2 | h2 | h2
      · have h2 := jw_of (h2.trans (show (0 : Int) = (0 : Int32).toInt by decide +kernel))
        rcases (show (xs 3).toInt = 0 ∨ (xs 3).toInt = 1 ∨ (xs 3).toInt = 2 ∨ (xs 3).toInt = 3 ∨ (xs 3).toInt = 4 ∨ (xs 3).toInt = 5 ∨ ((xs 3).toInt ≤ -1 ∨ 6 ≤ (xs 3).toInt) by omega) with h3 | h3 | h3 | h3 | h3 | h3 | h3
        · have h3 := jw_of (h3.trans (show (0 : Int) = (0 : Int32).toInt by decide +kernel))
          exact lc_apart_16 C0 hE hA hAo hP hD hS hl h1 h2 h3
        · have h3 := jw_of (h3.trans (show (1 : Int) = (1 : Int32).toInt by decide +kernel))
          exact lc_apart_17 C0 hE hA hAo hP hD hS hl h1 h2 h3
        · have h3 := jw_of (h3.trans (show (2 : Int) = (2 : Int32).toInt by decide +kernel))
          exact lc_apart_18 C0 hE hA hAo hP hD hS hl h1 h2 h3
        · have h3 := jw_of (h3.trans (show (3 : Int) = (3 : Int32).toInt by decide +kernel))
          exact lc_apart_19 C0 hE hA hAo hP hD hS hl h1 h2 h3
        · have h3 := jw_of (h3.trans (show (4 : Int) = (4 : Int32).toInt by decide +kernel))
          exact lc_apart_20 C0 hE hA hAo hP hD hS hl h1 h2 h3
        · have h3 := jw_of (h3.trans (show (5 : Int) = (5 : Int32).toInt by decide +kernel))
          exact lc_apart_21 C0 hE hA hAo hP hD hS hl h1 h2 h3
        · have h3 := h3
          exact lc_apart_22 C0 hE hA hAo hP hD hS hl h1 h2 h3
      · have h2 := jw_of (h2.trans (show (1 : Int) = (1 : Int32).toInt by decide +kernel))
        exact lc_apart_23 C0 hE hA hAo hP hD hS hl h1 h2
      · have h2 := jw_of (h2.trans (show (2 : Int) = (2 : Int32).toInt by decide +kernel))
        rcases (show (xs 3).toInt = 0 ∨ (xs 3).toInt = 1 ∨ (xs 3).toInt = 2 ∨ (xs 3).toInt = 3 ∨ (xs 3).toInt = 4 ∨ (xs 3).toInt = 5 ∨ ((xs 3).toInt ≤ -1 ∨ 6 ≤ (xs 3).toInt) by omega) with h3 | h3 | h3 | h3 | h3 | h3 | h3
        · have h3 := jw_of (h3.trans (show (0 : Int) = (0 : Int32).toInt by decide +kernel))
          exact lc_apart_24 C0 hE hA hAo hP hD hS hl h1 h2 h3
        · have h3 := jw_of (h3.trans (show (1 : Int) = (1 : Int32).toInt by decide +kernel))
          exact lc_apart_25 C0 hE hA hAo hP hD hS hl h1 h2 h3
        · have h3 := jw_of (h3.trans (show (2 : Int) = (2 : Int32).toInt by decide +kernel))
          exact lc_apart_26 C0 hE hA hAo hP hD hS hl h1 h2 h3
        · have h3 := jw_of (h3.trans (show (3 : Int) = (3 : Int32).toInt by decide +kernel))
          exact lc_apart_27 C0 hE hA hAo hP hD hS hl h1 h2 h3
        · have h3 := jw_of (h3.trans (show (4 : Int) = (4 : Int32).toInt by decide +kernel))
          exact lc_apart_28 C0 hE hA hAo hP hD hS hl h1 h2 h3
        · have h3 := jw_of (h3.trans (show (5 : Int) = (5 : Int32).toInt by decide +kernel))
          exact lc_apart_29 C0 hE hA hAo hP hD hS hl h1 h2 h3
        · have h3 := h3
          exact lc_apart_30 C0 hE hA hAo hP hD hS hl h1 h2 h3
      · have h2 := h2
        exact lc_apart_31 C0 hE hA hAo hP hD hS hl h1 h2
    · have h1 := jw_of (h1.trans (show (2 : Int) = (2 : Int32).toInt by decide +kernel))
      rcases (show (xs 2).toInt = 0 ∨ (xs 2).toInt = 1 ∨ (xs 2).toInt = 2 ∨ ((xs 2).toInt ≤ -1 ∨ 3 ≤ (xs 2).toInt) by omega) with h2 | h2 | h2 | h2
      · have h2 := jw_of (h2.trans (show (0 : Int) = (0 : Int32).toInt by decide +kernel))
        rcases (show (xs 3).toInt = 0 ∨ (xs 3).toInt = 1 ∨ (xs 3).toInt = 2 ∨ (xs 3).toInt = 3 ∨ (xs 3).toInt = 4 ∨ (xs 3).toInt = 5 ∨ ((xs 3).toInt ≤ -1 ∨ 6 ≤ (xs 3).toInt) by omega) with h3 | h3 | h3 | h3 | h3 | h3 | h3
        · have h3 := jw_of (h3.trans (show (0 : Int) = (0 : Int32).toInt by decide +kernel))
          exact lc_apart_32 C0 hE hA hAo hP hD hS hl h1 h2 h3
        · have h3 := jw_of (h3.trans (show (1 : Int) = (1 : Int32).toInt by decide +kernel))
          exact lc_apart_33 C0 hE hA hAo hP hD hS hl h1 h2 h3
        · have h3 := jw_of (h3.trans (show (2 : Int) = (2 : Int32).toInt by decide +kernel))
          exact lc_apart_34 C0 hE hA hAo hP hD hS hl h1 h2 h3
        · have h3 := jw_of (h3.trans (show (3 : Int) = (3 : Int32).toInt by decide +kernel))
          exact lc_apart_35 C0 hE hA hAo hP hD hS hl h1 h2 h3
        · have h3 := jw_of (h3.trans (show (4 : Int) = (4 : Int32).toInt by decide +kernel))
          exact lc_apart_36 C0 hE hA hAo hP hD hS hl h1 h2 h3
        · have h3 := jw_of (h3.trans (show (5 : Int) = (5 : Int32).toInt by decide +kernel))
          exact lc_apart_37 C0 hE hA hAo hP hD hS hl h1 h2 h3
        · have h3 := h3
          exact lc_apart_38 C0 hE hA hAo hP hD hS hl h1 h2 h3
      · have h2 := jw_of (h2.trans (show (1 : Int) = (1 : Int32).toInt by decide +kernel))
        rcases (show (xs 3).toInt = 0 ∨ (xs 3).toInt = 1 ∨ (xs 3).toInt = 2 ∨ (xs 3).toInt = 3 ∨ (xs 3).toInt = 4 ∨ (xs 3).toInt = 5 ∨ ((xs 3).toInt ≤ -1 ∨ 6 ≤ (xs 3).toInt) by omega) with h3 | h3 | h3 | h3 | h3 | h3 | h3
        · have h3 := jw_of (h3.trans (show (0 : Int) = (0 : Int32).toInt by decide +kernel))
          exact lc_apart_39 C0 hE hA hAo hP hD hS hl h1 h2 h3
        · have h3 := jw_of (h3.trans (show (1 : Int) = (1 : Int32).toInt by decide +kernel))
          exact lc_apart_40 C0 hE hA hAo hP hD hS hl h1 h2 h3
        · have h3 := jw_of (h3.trans (show (2 : Int) = (2 : Int32).toInt by decide +kernel))
          exact lc_apart_41 C0 hE hA hAo hP hD hS hl h1 h2 h3
        · have h3 := jw_of (h3.trans (show (3 : Int) = (3 : Int32).toInt by decide +kernel))
          exact lc_apart_42 C0 hE hA hAo hP hD hS hl h1 h2 h3
        · have h3 := jw_of (h3.trans (show (4 : Int) = (4 : Int32).toInt by decide +kernel))
          exact lc_apart_43 C0 hE hA hAo hP hD hS hl h1 h2 h3
        · have h3 := jw_of (h3.trans (show (5 : Int) = (5 : Int32).toInt by decide +kernel))
          exact lc_apart_44 C0 hE hA hAo hP hD hS hl h1 h2 h3
        · have h3 := h3
          exact lc_apart_45 C0 hE hA hAo hP hD hS hl h1 h2 h3
      · have h2 := jw_of (h2.trans (show (2 : Int) = (2 : Int32).toInt by decide +kernel))
        exact lc_apart_46 C0 hE hA hAo hP hD hS hl h1 h2
      · have h2 := h2
        exact lc_apart_47 C0 hE hA hAo hP hD hS hl h1 h2
    · have h1 := h1
      exact lc_apart_48 C0 hE hA hAo hP hD hS hl h1
  · refine lv_tableIn (off := 798) (tgt := 838) hx hb dL_law_40 (by decide +kernel) (by decide +kernel) (by decide +kernel) (by decide) ?_
    rcases (show (xs 1).toInt = 0 ∨ (xs 1).toInt = 1 ∨ ((xs 1).toInt ≤ -1 ∨ 2 ≤ (xs 1).toInt) by omega) with h1 | h1 | h1
    · have h1 := jw_of (h1.trans (show (0 : Int) = (0 : Int32).toInt by decide +kernel))
      exact lc_nearest_0 C0 hE hA hAo hP hD hS hl h1
    · have h1 := jw_of (h1.trans (show (1 : Int) = (1 : Int32).toInt by decide +kernel))
      exact lc_nearest_1 C0 hE hA hAo hP hD hS hl h1
    · have h1 := h1
      exact lc_nearest_2 C0 hE hA hAo hP hD hS hl h1
  · refine lv_tableIn (off := 823) (tgt := 863) hx hb dL_law_40 (by decide +kernel) (by decide +kernel) (by decide +kernel) (by decide) ?_
    rcases (show (xs 1).toInt = 0 ∨ ((xs 1).toInt ≤ -1 ∨ 1 ≤ (xs 1).toInt) by omega) with h1 | h1
    · have h1 := jw_of (h1.trans (show (0 : Int) = (0 : Int32).toInt by decide +kernel))
      exact lc_leads_0 C0 hE hA hAo hP hD hS hl h1
    · have h1 := h1
      exact lc_leads_1 C0 hE hA hAo hP hD hS hl h1
  · refine lv_tableIn (off := 848) (tgt := 888) hx hb dL_law_40 (by decide +kernel) (by decide +kernel) (by decide +kernel) (by decide) ?_
    exact lc_moves_0 C0 hE hA hAo hP hD hS hl
  · refine lv_tableIn (off := 898) (tgt := 938) hx hb dL_law_40 (by decide +kernel) (by decide +kernel) (by decide +kernel) (by decide) ?_
    rcases (show ((0 ≤ (xs 1).toInt ∧ (xs 1).toInt ≤ 100)) ∨ ((xs 1).toInt ≤ -1 ∨ 101 ≤ (xs 1).toInt) by omega) with h1 | h1
    · have h1 := h1
      exact lc_leave_0 C0 hE hA hAo hP hD hS hl h1
    · have h1 := h1
      exact lc_leave_1 C0 hE hA hAo hP hD hS hl h1
  · refine lv_tableIn (off := 923) (tgt := 963) hx hb dL_law_40 (by decide +kernel) (by decide +kernel) (by decide +kernel) (by decide) ?_
    rcases (show (xs 1).toInt = 0 ∨ (xs 1).toInt = 1 ∨ (xs 1).toInt = 2 ∨ ((xs 1).toInt ≤ -1 ∨ 3 ≤ (xs 1).toInt) by omega) with h1 | h1 | h1 | h1
    · have h1 := jw_of (h1.trans (show (0 : Int) = (0 : Int32).toInt by decide +kernel))
      exact lc_parts_0 C0 hE hA hAo hP hD hS hl h1
    · have h1 := jw_of (h1.trans (show (1 : Int) = (1 : Int32).toInt by decide +kernel))
      exact lc_parts_1 C0 hE hA hAo hP hD hS hl h1
    · have h1 := jw_of (h1.trans (show (2 : Int) = (2 : Int32).toInt by decide +kernel))
      exact lc_parts_2 C0 hE hA hAo hP hD hS hl h1
    · have h1 := h1
      exact lc_parts_3 C0 hE hA hAo hP hD hS hl h1
  · refine lv_tableIn (off := 948) (tgt := 988) hx hb dL_law_40 (by decide +kernel) (by decide +kernel) (by decide +kernel) (by decide) ?_
    rcases (show (xs 1).toInt = 0 ∨ (xs 1).toInt = 1 ∨ (xs 1).toInt = 2 ∨ (xs 1).toInt = 3 ∨ (xs 1).toInt = 4 ∨ (xs 1).toInt = 5 ∨ ((xs 1).toInt ≤ -1 ∨ 6 ≤ (xs 1).toInt) by omega) with h1 | h1 | h1 | h1 | h1 | h1 | h1
    · have h1 := jw_of (h1.trans (show (0 : Int) = (0 : Int32).toInt by decide +kernel))
      rcases (show (xs 2).toInt = 0 ∨ ((xs 2).toInt ≤ -1 ∨ 1 ≤ (xs 2).toInt) by omega) with h2 | h2
      · have h2 := jw_of (h2.trans (show (0 : Int) = (0 : Int32).toInt by decide +kernel))
        exact lc_mix_0 C0 hE hA hAo hP hD hS hl h1 h2
      · have h2 := h2
        exact lc_mix_1 C0 hE hA hAo hP hD hS hl h1 h2
    · have h1 := jw_of (h1.trans (show (1 : Int) = (1 : Int32).toInt by decide +kernel))
      rcases (show (xs 2).toInt = 0 ∨ ((xs 2).toInt ≤ -1 ∨ 1 ≤ (xs 2).toInt) by omega) with h2 | h2
      · have h2 := jw_of (h2.trans (show (0 : Int) = (0 : Int32).toInt by decide +kernel))
        exact lc_mix_2 C0 hE hA hAo hP hD hS hl h1 h2
      · have h2 := h2
        exact lc_mix_3 C0 hE hA hAo hP hD hS hl h1 h2
    · have h1 := jw_of (h1.trans (show (2 : Int) = (2 : Int32).toInt by decide +kernel))
      rcases (show (xs 2).toInt = 0 ∨ ((xs 2).toInt ≤ -1 ∨ 1 ≤ (xs 2).toInt) by omega) with h2 | h2
      · have h2 := jw_of (h2.trans (show (0 : Int) = (0 : Int32).toInt by decide +kernel))
        exact lc_mix_4 C0 hE hA hAo hP hD hS hl h1 h2
      · have h2 := h2
        exact lc_mix_5 C0 hE hA hAo hP hD hS hl h1 h2
    · have h1 := jw_of (h1.trans (show (3 : Int) = (3 : Int32).toInt by decide +kernel))
      rcases (show (xs 2).toInt = 0 ∨ ((xs 2).toInt ≤ -1 ∨ 1 ≤ (xs 2).toInt) by omega) with h2 | h2
      · have h2 := jw_of (h2.trans (show (0 : Int) = (0 : Int32).toInt by decide +kernel))
        exact lc_mix_6 C0 hE hA hAo hP hD hS hl h1 h2
      · have h2 := h2
        exact lc_mix_7 C0 hE hA hAo hP hD hS hl h1 h2
    · have h1 := jw_of (h1.trans (show (4 : Int) = (4 : Int32).toInt by decide +kernel))
      rcases (show (xs 2).toInt = 0 ∨ ((xs 2).toInt ≤ -1 ∨ 1 ≤ (xs 2).toInt) by omega) with h2 | h2
      · have h2 := jw_of (h2.trans (show (0 : Int) = (0 : Int32).toInt by decide +kernel))
        exact lc_mix_8 C0 hE hA hAo hP hD hS hl h1 h2
      · have h2 := h2
        exact lc_mix_9 C0 hE hA hAo hP hD hS hl h1 h2
    · have h1 := jw_of (h1.trans (show (5 : Int) = (5 : Int32).toInt by decide +kernel))
      rcases (show (xs 2).toInt = 0 ∨ ((xs 2).toInt ≤ -1 ∨ 1 ≤ (xs 2).toInt) by omega) with h2 | h2
      · have h2 := jw_of (h2.trans (show (0 : Int) = (0 : Int32).toInt by decide +kernel))
        exact lc_mix_10 C0 hE hA hAo hP hD hS hl h1 h2
      · have h2 := h2
        exact lc_mix_11 C0 hE hA hAo hP hD hS hl h1 h2
    · have h1 := h1
      exact lc_mix_12 C0 hE hA hAo hP hD hS hl h1
  · refine lv_tableIn (off := 985) (tgt := 1025) hx hb dL_law_40 (by decide +kernel) (by decide +kernel) (by decide +kernel) (by decide) ?_
    rcases (show (xs 1).toInt = 0 ∨ (xs 1).toInt = 1 ∨ (xs 1).toInt = 2 ∨ (xs 1).toInt = 3 ∨ (xs 1).toInt = 4 ∨ (xs 1).toInt = 5 ∨ ((xs 1).toInt ≤ -1 ∨ 6 ≤ (xs 1).toInt) by omega) with h1 | h1 | h1 | h1 | h1 | h1 | h1
    · have h1 := jw_of (h1.trans (show (0 : Int) = (0 : Int32).toInt by decide +kernel))
      rcases (show (xs 2).toInt = 0 ∨ (xs 2).toInt = 1 ∨ ((xs 2).toInt ≤ -1 ∨ 2 ≤ (xs 2).toInt) by omega) with h2 | h2 | h2
      · have h2 := jw_of (h2.trans (show (0 : Int) = (0 : Int32).toInt by decide +kernel))
        exact lc_mixed_0 C0 hE hA hAo hP hD hS hl h1 h2
      · have h2 := jw_of (h2.trans (show (1 : Int) = (1 : Int32).toInt by decide +kernel))
        exact lc_mixed_1 C0 hE hA hAo hP hD hS hl h1 h2
      · have h2 := h2
        exact lc_mixed_2 C0 hE hA hAo hP hD hS hl h1 h2
    · have h1 := jw_of (h1.trans (show (1 : Int) = (1 : Int32).toInt by decide +kernel))
      rcases (show (xs 2).toInt = 0 ∨ (xs 2).toInt = 1 ∨ ((xs 2).toInt ≤ -1 ∨ 2 ≤ (xs 2).toInt) by omega) with h2 | h2 | h2
      · have h2 := jw_of (h2.trans (show (0 : Int) = (0 : Int32).toInt by decide +kernel))
        exact lc_mixed_3 C0 hE hA hAo hP hD hS hl h1 h2
      · have h2 := jw_of (h2.trans (show (1 : Int) = (1 : Int32).toInt by decide +kernel))
        exact lc_mixed_4 C0 hE hA hAo hP hD hS hl h1 h2
      · have h2 := h2
        exact lc_mixed_5 C0 hE hA hAo hP hD hS hl h1 h2
    · have h1 := jw_of (h1.trans (show (2 : Int) = (2 : Int32).toInt by decide +kernel))
      rcases (show (xs 2).toInt = 0 ∨ (xs 2).toInt = 1 ∨ ((xs 2).toInt ≤ -1 ∨ 2 ≤ (xs 2).toInt) by omega) with h2 | h2 | h2
      · have h2 := jw_of (h2.trans (show (0 : Int) = (0 : Int32).toInt by decide +kernel))
        exact lc_mixed_6 C0 hE hA hAo hP hD hS hl h1 h2
      · have h2 := jw_of (h2.trans (show (1 : Int) = (1 : Int32).toInt by decide +kernel))
        exact lc_mixed_7 C0 hE hA hAo hP hD hS hl h1 h2
      · have h2 := h2
        exact lc_mixed_8 C0 hE hA hAo hP hD hS hl h1 h2
    · have h1 := jw_of (h1.trans (show (3 : Int) = (3 : Int32).toInt by decide +kernel))
      rcases (show (xs 2).toInt = 0 ∨ (xs 2).toInt = 1 ∨ ((xs 2).toInt ≤ -1 ∨ 2 ≤ (xs 2).toInt) by omega) with h2 | h2 | h2
      · have h2 := jw_of (h2.trans (show (0 : Int) = (0 : Int32).toInt by decide +kernel))
        exact lc_mixed_9 C0 hE hA hAo hP hD hS hl h1 h2
      · have h2 := jw_of (h2.trans (show (1 : Int) = (1 : Int32).toInt by decide +kernel))
        exact lc_mixed_10 C0 hE hA hAo hP hD hS hl h1 h2
      · have h2 := h2
        exact lc_mixed_11 C0 hE hA hAo hP hD hS hl h1 h2
    · have h1 := jw_of (h1.trans (show (4 : Int) = (4 : Int32).toInt by decide +kernel))
      rcases (show (xs 2).toInt = 0 ∨ (xs 2).toInt = 1 ∨ ((xs 2).toInt ≤ -1 ∨ 2 ≤ (xs 2).toInt) by omega) with h2 | h2 | h2
      · have h2 := jw_of (h2.trans (show (0 : Int) = (0 : Int32).toInt by decide +kernel))
        exact lc_mixed_12 C0 hE hA hAo hP hD hS hl h1 h2
      · have h2 := jw_of (h2.trans (show (1 : Int) = (1 : Int32).toInt by decide +kernel))
        exact lc_mixed_13 C0 hE hA hAo hP hD hS hl h1 h2
      · have h2 := h2
        exact lc_mixed_14 C0 hE hA hAo hP hD hS hl h1 h2
    · have h1 := jw_of (h1.trans (show (5 : Int) = (5 : Int32).toInt by decide +kernel))
      rcases (show (xs 2).toInt = 0 ∨ (xs 2).toInt = 1 ∨ ((xs 2).toInt ≤ -1 ∨ 2 ≤ (xs 2).toInt) by omega) with h2 | h2 | h2
      · have h2 := jw_of (h2.trans (show (0 : Int) = (0 : Int32).toInt by decide +kernel))
        exact lc_mixed_15 C0 hE hA hAo hP hD hS hl h1 h2
      · have h2 := jw_of (h2.trans (show (1 : Int) = (1 : Int32).toInt by decide +kernel))
        exact lc_mixed_16 C0 hE hA hAo hP hD hS hl h1 h2
      · have h2 := h2
        exact lc_mixed_17 C0 hE hA hAo hP hD hS hl h1 h2
    · have h1 := h1
      exact lc_mixed_18 C0 hE hA hAo hP hD hS hl h1
  · refine lv_tableIn (off := 1023) (tgt := 1063) hx hb dL_law_40 (by decide +kernel) (by decide +kernel) (by decide +kernel) (by decide) ?_
    exact lc_run_0 C0 hE hA hAo hP hD hS hl
  · refine lv_tableIn (off := 1060) (tgt := 1100) hx hb dL_law_40 (by decide +kernel) (by decide +kernel) (by decide +kernel) (by decide) ?_
    rcases (show ((xs 1).toInt ≤ -1) ∨ (0 ≤ (xs 1).toInt) by omega) with h1 | h1
    · have h1 := h1
      exact lc_evenly_0 C0 hE hA hAo hP hD hS hl h1
    · have h1 := h1
      rcases (show ((xs 2).toInt ≤ -1 ∨ 3 ≤ (xs 2).toInt) ∨ (xs 2).toInt = 0 ∨ (xs 2).toInt = 1 ∨ (xs 2).toInt = 2 by omega) with h2 | h2 | h2 | h2
      · have h2 := h2
        exact lc_evenly_1 C0 hE hA hAo hP hD hS hl h1 h2
      · have h2 := jw_of (h2.trans (show (0 : Int) = (0 : Int32).toInt by decide +kernel))
        exact lc_evenly_2 C0 hE hA hAo hP hD hS hl h1 h2
      · have h2 := jw_of (h2.trans (show (1 : Int) = (1 : Int32).toInt by decide +kernel))
        exact lc_evenly_3 C0 hE hA hAo hP hD hS hl h1 h2
      · have h2 := jw_of (h2.trans (show (2 : Int) = (2 : Int32).toInt by decide +kernel))
        exact lc_evenly_4 C0 hE hA hAo hP hD hS hl h1 h2
  · refine lv_tableIn (off := 1097) (tgt := 1137) hx hb dL_law_40 (by decide +kernel) (by decide +kernel) (by decide +kernel) (by decide) ?_
    exact lc_look_0 hl9 hXE C0 hE hA hAo hP hD hS hl
  · refine lv_tableIn (off := 1165) (tgt := 1205) hx hb dL_law_40 (by decide +kernel) (by decide +kernel) (by decide +kernel) (by decide) ?_
    rcases (show (xs 1).toInt = 0 ∨ (xs 1).toInt = 1 ∨ (xs 1).toInt = 2 ∨ (xs 1).toInt = 3 ∨ (xs 1).toInt = 4 ∨ (xs 1).toInt = 5 ∨ (xs 1).toInt = 6 ∨ ((xs 1).toInt ≤ -1 ∨ 7 ≤ (xs 1).toInt) by omega) with h1 | h1 | h1 | h1 | h1 | h1 | h1 | h1
    · have h1 := jw_of (h1.trans (show (0 : Int) = (0 : Int32).toInt by decide +kernel))
      exact lc_count_0 C0 hE hA hAo hP hD hS hl h1
    · have h1 := jw_of (h1.trans (show (1 : Int) = (1 : Int32).toInt by decide +kernel))
      exact lc_count_1 C0 hE hA hAo hP hD hS hl h1
    · have h1 := jw_of (h1.trans (show (2 : Int) = (2 : Int32).toInt by decide +kernel))
      exact lc_count_2 C0 hE hA hAo hP hD hS hl h1
    · have h1 := jw_of (h1.trans (show (3 : Int) = (3 : Int32).toInt by decide +kernel))
      exact lc_count_3 C0 hE hA hAo hP hD hS hl h1
    · have h1 := jw_of (h1.trans (show (4 : Int) = (4 : Int32).toInt by decide +kernel))
      exact lc_count_4 C0 hE hA hAo hP hD hS hl h1
    · have h1 := jw_of (h1.trans (show (5 : Int) = (5 : Int32).toInt by decide +kernel))
      exact lc_count_5 C0 hE hA hAo hP hD hS hl h1
    · have h1 := jw_of (h1.trans (show (6 : Int) = (6 : Int32).toInt by decide +kernel))
      exact lc_count_6 C0 hE hA hAo hP hD hS hl h1
    · have h1 := h1
      exact lc_count_7 C0 hE hA hAo hP hD hS hl h1
set_option maxHeartbeats 8000000 in
set_option maxRecDepth 100000 in
theorem law_body {p : Program} {l : Launch} {e : Env} {s : State} {m : MethodId} {below : List Frame} {meth : Method} {c : Code} {b : Nat} {xs : Nat → Int32} {D : va_G} {Y : Nat → ClassId} {tt : Nat → Nat} {A : Nat → Prop} {q : Nat → Nat} {H : Heap} {locs : List Loc} {ls : Array Slot} (hl9 : l.stackTraces = false) {sa : Nat} (hXE : jw_XE sa A s s.heap) {L : Nat} (hL : L ≤ 6) (C0 : lw_At p s m meth c b L xs) (hE : jw_E D Y tt A s s.heap) (hA : ∀ q, s.heap.size ≤ q → A q) (hAo : ∀ q, A q → s.heap.size ≤ q) (hP : va_P D vwCl (jw_w Y q) H) (hD : va_D A (jw_w Y q)) (hS : va_S A s.heap H locs) (hl : lv_has ls 7 [(4, .int 0), (3, .ref (q 118)), (2, .ref (q 82)), (1, .ref (q 0)), (0, .ref b)]) : W p l e room_1 s m #[Value.ref b] below meth c H locs 119 302221 (lw_Z below #[Value.ref b] s) (F0 m 23 ls []) := by
  obtain ⟨hx, hb, hr, hml, hown, hts, hX, hbl, hlocks, hgv⟩ := id C0
  have hbA : ¬ A b := fun h => absurd (hAo b h) (Nat.not_le.mpr hbl)
  refine lv_iload hx hb dL_law_23 (lv_at hl 0 rfl) ?_
  refine lv_aload_n hx hb dL_law_25 rfl (lv_at hl 4 rfl) ?_
  refine va_slen hx hb hX hbl hbA hS dL_law_26 ?_
  refine lv_bipush (v := 6) hx hb dL_law_27 (by decide +kernel) ?_
  by_cases h6 : L = 6
  · subst h6
    refine jw_isub (v := 0) hx hb dL_law_29 (by decide +kernel) ?_
    refine lv_icmp_gt (tgt := 1236) hx hb dL_law_30 (by decide) (fun c9 => absurd c9 (by decide +kernel)) (fun _ => ?_)
    refine lv_aload_n hx hb dL_law_33 rfl (lv_at hl 4 rfl) ?_
    refine lv_iload hx hb dL_law_34 (lv_at hl 0 rfl) ?_
    refine jw_sld (v := xs 0) hx hb hX hbl hbA hS 0 (by decide +kernel) rfl dL_law_36 ?_
    refine lv_bipush (v := 63) hx hb dL_law_37 (by decide +kernel) ?_
    obtain ⟨j, hj, ej⟩ := pk_andE (xs 0) (m := 63) 6 (by decide +kernel)
    refine jw_iand (v := nI j) hx hb dL_law_39 ej ?_
    by_cases hb9 : j < 33
    · exact law_cases hl9 hXE C0 hE hA hAo hP hD hS hl hb9
    · refine lv_tableOut (tgt := 1230) hx hb dL_law_40 (Or.inr (by rw [nI_toInt (by omega)]; omega)) (by decide) ?_
      exact law_end C0 hA hAo hS (lv_sub hl [0, 4] rfl) (Nat.le_of_ble_eq_true rfl) (Nat.le_of_ble_eq_true rfl)
  · refine lv_isub hx hb dL_law_29 ?_
    refine lv_icmp_gt (tgt := 1236) hx hb dL_law_30 (by decide) (fun _ => law_exit C0 hAo hS (Nat.le_of_ble_eq_true rfl) (Nat.le_of_ble_eq_true rfl)) (fun c9 => absurd ?_ c9)
    rcases (show L = 0 ∨ L = 1 ∨ L = 2 ∨ L = 3 ∨ L = 4 ∨ L = 5 by omega) with rfl | rfl | rfl | rfl | rfl | rfl <;> decide +kernel
