/-! Calls, the callee's cells told by a mask over the caller's world -/
def jw_sel : List Bool → va_W → va_W
  | true :: m, x :: w => x :: jw_sel m w
  | false :: m, _ :: w => jw_sel m w
  | _, _ => []
def jw_rej : List Bool → va_W → va_W
  | true :: m, _ :: w => jw_rej m w
  | false :: m, x :: w => x :: jw_rej m w
  | [], w => w
  | _ :: _, [] => []
def jw_mrg : List Bool → va_W → va_W → va_W
  | true :: m, _ :: w, y :: v => y :: jw_mrg m w v
  | true :: m, _ :: w, [] => jw_mrg m w []
  | false :: m, x :: w, v => x :: jw_mrg m w v
  | [], w, v => w ++ v
  | _ :: _, [], v => v
theorem jw_sel_mem {m : List Bool} {w : va_W} {x : Nat × va_E} (h : x ∈ jw_sel m w) : x ∈ w := by
  induction m generalizing w with
  | nil => cases w <;> simp [jw_sel] at h
  | cons b m ih =>
    cases w with
    | nil => cases b <;> simp [jw_sel] at h
    | cons y w =>
      cases b with
      | true =>
        rcases List.mem_cons.mp h with h | h
        · exact List.mem_cons.mpr (Or.inl h)
        · exact List.mem_cons.mpr (Or.inr (ih h))
      | false => exact List.mem_cons.mpr (Or.inr (ih h))
theorem jw_rej_mem {m : List Bool} {w : va_W} {x : Nat × va_E} (h : x ∈ jw_rej m w) : x ∈ w := by
  induction m generalizing w with
  | nil => exact h
  | cons b m ih =>
    cases w with
    | nil => cases b <;> simp [jw_rej] at h
    | cons y w =>
      cases b with
      | false =>
        rcases List.mem_cons.mp h with h | h
        · exact List.mem_cons.mpr (Or.inl h)
        · exact List.mem_cons.mpr (Or.inr (ih h))
      | true => exact List.mem_cons.mpr (Or.inr (ih h))
theorem jw_mrg_perm (m : List Bool) (w v : va_W) : (jw_mrg m w v).Perm (jw_rej m w ++ v) := by
  induction m generalizing w v with
  | nil => exact List.Perm.refl _
  | cons b m ih =>
    cases w with
    | nil => cases b <;> exact List.Perm.refl _
    | cons x w =>
      cases b with
      | false => exact List.Perm.cons x (ih w v)
      | true =>
        cases v with
        | nil => exact ih w []
        | cons y v => exact (List.Perm.cons y (ih w v)).trans List.perm_middle.symm
/-- the addresses of a world, one by one -/
abbrev jw_ad (w : va_W) : List Nat := w.map (·.1)
theorem jw_D_iff {A : Nat → Prop} {w : va_W} : va_D A w ↔ (jw_ad w).Nodup ∧ ∀ x ∈ w, A x.1 := by
  constructor
  · intro h
    refine ⟨?_, fun x hx => ?_⟩
    · refine List.pairwise_iff_getElem.mpr (fun i j hi hj hij he => ?_)
      have hi' : i < w.length := by simpa using hi
      have hj' : j < w.length := by simpa using hj
      have he' : w[i].1 = w[j].1 := by simpa [jw_ad] using he
      have := h.1 i j w[i] w[j] (List.getElem?_eq_getElem hi') (List.getElem?_eq_getElem hj') he'
      omega
    · obtain ⟨k, hk⟩ := List.getElem?_of_mem hx
      exact h.2 k x hk
  · intro ⟨h1, h2⟩
    refine ⟨fun i j p q hi hj he => ?_, fun k q hk => h2 q (List.mem_of_getElem? hk)⟩
    have hi' := (List.getElem?_eq_some_iff.mp hi).1
    have hj' := (List.getElem?_eq_some_iff.mp hj).1
    have e : (jw_ad w)[i]? = (jw_ad w)[j]? := by
      simp only [jw_ad, List.getElem?_map, hi, hj, Option.map_some, he]
    exact (List.getElem?_inj (by simpa using hi') h1).mp e
theorem jw_P_iff {D : va_G} {cl : List vw_C} {w : va_W} {H : Heap} : va_P D cl w H ↔ ∀ x ∈ w, va_at D cl x H := by
  constructor
  · intro h x hx
    obtain ⟨k, hk⟩ := List.getElem?_of_mem hx
    exact h k x hk
  · intro h k x hk
    exact h x (List.mem_of_getElem? hk)
theorem jw_rej_sub {m : List Bool} {w : va_W} : (jw_rej m w).Sublist w := by
  induction m generalizing w with
  | nil => exact List.Sublist.refl _
  | cons b m ih =>
    cases w with
    | nil => cases b <;> exact List.Sublist.refl _
    | cons x w =>
      cases b with
      | false => exact ih.cons₂ x
      | true => exact ih.cons x
theorem jw_sel_sub {m : List Bool} {w : va_W} : (jw_sel m w).Sublist w := by
  induction m generalizing w with
  | nil => cases w <;> simp [jw_sel]
  | cons b m ih =>
    cases w with
    | nil => cases b <;> simp [jw_sel]
    | cons x w =>
      cases b with
      | true => exact ih.cons₂ x
      | false => exact ih.cons x
theorem jw_apart {m : List Bool} {w : va_W} (h : (jw_ad w).Nodup) : ∀ x ∈ jw_rej m w, ∀ y ∈ jw_sel m w, x.1 ≠ y.1 := by
  induction m generalizing w with
  | nil => intro x _ y hy; cases w <;> simp [jw_sel] at hy
  | cons b m ih =>
    cases w with
    | nil => intro x hx; cases b <;> simp [jw_rej] at hx
    | cons z w =>
      have h1 : z.1 ∉ jw_ad w := (List.nodup_cons.mp h).1
      have h2 : (jw_ad w).Nodup := (List.nodup_cons.mp h).2
      cases b with
      | true =>
        intro x hx y hy
        rcases List.mem_cons.mp hy with rfl | hy
        · intro e
          exact h1 (List.mem_map.mpr ⟨x, jw_rej_mem hx, e⟩)
        · exact ih h2 x hx y hy
      | false =>
        intro x hx y hy
        rcases List.mem_cons.mp hx with rfl | hx
        · intro e
          exact h1 (List.mem_map.mpr ⟨y, jw_sel_mem hy, e.symm⟩)
        · exact ih h2 x hx y hy
theorem jw_join {A : Nat → Prop} {D : va_G} {ws wc w1 : va_W} {H H1 : Heap} (hP : va_P D vwCl ws H) (hD : va_D A ws) (mk : List Bool) (hC : jw_sel mk ws = wc)
    (hk : ∀ q : Nat, q < H.size → ¬ va_A wc H.size q → H1[q]? = H[q]?) (hF : ∀ q, va_A wc H.size q → A q) (hP1 : va_P D vwCl w1 H1) (hD1 : va_D (va_A wc H.size) w1) : va_P D vwCl (jw_mrg mk ws w1) H1 ∧ va_D A (jw_mrg mk ws w1) := by
  subst hC
  have hd := jw_D_iff.mp hD
  have hd1 := jw_D_iff.mp hD1
  have hp := jw_P_iff.mp hP
  have hp1 := jw_P_iff.mp hP1
  have pm := jw_mrg_perm mk ws w1
  have out : ∀ x ∈ jw_rej mk ws, x.1 < H.size ∧ ¬ va_A (jw_sel mk ws) H.size x.1 := by
    intro x hx
    have hl : x.1 < H.size := (hp x (jw_rej_mem hx)).lt
    refine ⟨hl, fun h => ?_⟩
    rcases h with ⟨k, e, hke⟩ | h
    · exact jw_apart hd.1 x hx (x.1, e) (List.mem_of_getElem? hke) rfl
    · omega
  refine ⟨jw_P_iff.mpr (fun x hx => ?_), jw_D_iff.mpr ⟨?_, fun x hx => ?_⟩⟩
  · rcases List.mem_append.mp (pm.mem_iff.mp hx) with h | h
    · exact (hp x (jw_rej_mem h)).kept (hk x.1 (out x h).1 (out x h).2)
    · exact hp1 x h
  · have e : (jw_ad (jw_mrg mk ws w1)).Perm (jw_ad (jw_rej mk ws ++ w1)) := pm.map _
    rw [e.nodup_iff]
    show (List.map _ (jw_rej mk ws ++ w1)).Nodup
    rw [List.map_append, List.nodup_append]
    refine ⟨(jw_rej_sub.map _).nodup hd.1, hd1.1, fun a ha b hb => ?_⟩
    obtain ⟨x, hx, rfl⟩ := List.mem_map.mp ha
    obtain ⟨y, hy, rfl⟩ := List.mem_map.mp hb
    intro e
    exact (out x hx).2 (by rw [e]; exact hd1.2 y hy)
  · rcases List.mem_append.mp (pm.mem_iff.mp hx) with h | h
    · exact hd.2 x (jw_rej_mem h)
    · exact hF x.1 (hd1.2 x h)
section JWM
variable {p : Program} {l : Launch} {e : Env} {R : Room} {s : State} {m : MethodId} {args : Array Value} {below : List Frame} {meth : Method} {c : Code} {H : Heap} {locs : List Loc} {cells slots : Nat} {Q : State → Prop}
variable {cc : ByteArray} {pc : Nat} {ls : Array Slot} {rest : List Value} {D : va_G} {Y : Nat → ClassId} {tt : Nat → Nat} {A : Nat → Prop} {a : Nat} {ws : va_W}
variable {mc ms : Nat} {b : Addr} {As : List Value} {wc : va_W} {W1 : va_W → Prop} {st0 : List Value}
theorem jw_freeM (hD : va_D A ws) (hS : va_S A s.heap H locs) (hA : ∀ q, s.heap.size ≤ q → A q) (mk : List Bool) (hC : jw_sel mk ws = wc) : ∀ q, va_A wc H.size q → A q := by
  subst hC
  intro q h
  rcases h with ⟨k, e, hke⟩ | h
  · exact (jw_D_iff.mp hD).2 (q, e) (jw_sel_mem (List.mem_of_getElem? hke))
  · exact hA q (Nat.le_trans hS.1 h)
theorem jw_mpreS (hP : va_P D vwCl ws H) (hD : va_D A ws) (hS : va_S A s.heap H locs) (hA : ∀ q, s.heap.size ≤ q → A q) (hE : jw_E D Y tt A s s.heap) (mk : List Bool) (hC : jw_sel mk ws = wc) : PreS s H (jw_Pc D Y tt As wc H.size) As := by
  have hF := jw_freeM hD hS hA mk hC
  subst hC
  have hd := jw_D_iff.mp hD
  have hP' : va_P D vwCl (jw_sel mk ws) H := jw_P_iff.mpr (fun x hx => jw_P_iff.mp hP x (jw_sel_mem hx))
  have hD' : va_D (fun _ => True) (jw_sel mk ws) := jw_D_iff.mpr ⟨(jw_sel_sub.map _).nodup hd.1, fun _ _ => trivial⟩
  exact ⟨jw_blind, fun U hU hW => ⟨rfl, by rw [hU], by rw [hU]; exact hP', hD', hE.call hS hF hU hW⟩⟩
theorem jw_mpreV {ci q0 : Nat} {q : vw_C} {fs : List Value} (hP : va_P D vwCl ws H) (hD : va_D A ws) (hS : va_S A s.heap H locs) (hA : ∀ q, s.heap.size ≤ q → A q) (hE : jw_E D Y tt A s s.heap) (mk : List Bool) (hC : jw_sel mk ws = wc) (hc : vwCl[ci]? = some q) (he : ws[q0]? = some (b, .inr (ci, fs))) : PreV s H q.1 b (jw_Pc D Y tt (.ref b :: As) wc H.size) As := by
  have h := jw_mpreS (As := .ref b :: As) hP hD hS hA hE mk hC
  exact ⟨h.1, va_recv hE.1 hP hc he, h.2⟩
theorem jw_mv {a0 : Array Value} (hr : va_Run p l e R s m args below meth c H locs cells slots mc ms (F0 m pc ls st0) rest (jw_Qv D W1 (va_A wc H.size) a0) (va_A wc H.size)) (hP : va_P D vwCl ws H) (hD : va_D A ws) (hS : va_S A s.heap H locs) (hA : ∀ q, s.heap.size ≤ q → A q) (mk : List Bool) (hC : jw_sel mk ws = wc) {cs ss : Nat} (e1 : cells + mc = cs) (e2 : slots + ms = ss)
    (kk : ∀ (w1 : va_W) (H1 : Heap) (locs1 : List Loc), W1 w1 → va_P D vwCl (jw_mrg mk ws w1) H1 → va_D A (jw_mrg mk ws w1) → va_S A s.heap H1 locs1 → W p l e R s m args below meth c H1 locs1 cs ss Q (F0 m (pc + 3) ls rest)) : W p l e R s m args below meth c H locs cells slots Q (F0 m pc ls st0) := by
  subst e1 e2
  have hF := jw_freeM hD hS hA mk hC
  refine va_callv hr hS (fun q _ h => hF q h) hF (fun u t H1 locs1 ht hvm hw hB hz hk hS1 => ?_)
  obtain ⟨w1, hw1, hP1, hD1⟩ := hB
  rw [ht] at hP1
  obtain ⟨hP2, hD2⟩ := jw_join hP hD mk hC hk hF hP1 hD1
  exact kk w1 H1 locs1 hw1 hP2 hD2 hS1
theorem jw_mi {a0 : Array Value} {P : Int32 → Prop} (hr : va_Run p l e R s m args below meth c H locs cells slots mc ms (F0 m pc ls st0) rest (jw_Qi D P W1 (va_A wc H.size) a0) (va_A wc H.size)) (hP : va_P D vwCl ws H) (hD : va_D A ws) (hS : va_S A s.heap H locs) (hA : ∀ q, s.heap.size ≤ q → A q) (mk : List Bool) (hC : jw_sel mk ws = wc) {cs ss : Nat} (e1 : cells + mc = cs) (e2 : slots + ms = ss)
    (kk : ∀ (r : Int32) (w1 : va_W) (H1 : Heap) (locs1 : List Loc), P r → W1 w1 → va_P D vwCl (jw_mrg mk ws w1) H1 → va_D A (jw_mrg mk ws w1) → va_S A s.heap H1 locs1 → W p l e R s m args below meth c H1 locs1 cs ss Q (F0 m (pc + 3) ls (.int r :: rest))) : W p l e R s m args below meth c H locs cells slots Q (F0 m pc ls st0) := by
  subst e1 e2
  have hF := jw_freeM hD hS hA mk hC
  refine va_calli hr hS (fun q _ h => hF q h) hF (fun r u t H1 locs1 ht hvm hw hB hz hk hS1 => ?_)
  obtain ⟨w1, hw1, hP1, hD1⟩ := hB
  rw [ht] at hP1
  obtain ⟨hP2, hD2⟩ := jw_join hP hD mk hC hk hF hP1 hD1
  exact kk r w1 H1 locs1 hw hw1 hP2 hD2 hS1
theorem jw_ml {a0 : Array Value} {P : Int64 → Prop} (hr : va_Run p l e R s m args below meth c H locs cells slots mc ms (F0 m pc ls st0) rest (jw_Ql D P W1 (va_A wc H.size) a0) (va_A wc H.size)) (hP : va_P D vwCl ws H) (hD : va_D A ws) (hS : va_S A s.heap H locs) (hA : ∀ q, s.heap.size ≤ q → A q) (mk : List Bool) (hC : jw_sel mk ws = wc) {cs ss : Nat} (e1 : cells + mc = cs) (e2 : slots + ms = ss)
    (kk : ∀ (r : Int64) (w1 : va_W) (H1 : Heap) (locs1 : List Loc), P r → W1 w1 → va_P D vwCl (jw_mrg mk ws w1) H1 → va_D A (jw_mrg mk ws w1) → va_S A s.heap H1 locs1 → W p l e R s m args below meth c H1 locs1 cs ss Q (F0 m (pc + 3) ls (.long r :: rest))) : W p l e R s m args below meth c H locs cells slots Q (F0 m pc ls st0) := by
  subst e1 e2
  have hF := jw_freeM hD hS hA mk hC
  refine va_calll hr hS (fun q _ h => hF q h) hF (fun r u t H1 locs1 ht hvm hw hB hz hk hS1 => ?_)
  obtain ⟨w1, hw1, hP1, hD1⟩ := hB
  rw [ht] at hP1
  obtain ⟨hP2, hD2⟩ := jw_join hP hD mk hC hk hF hP1 hD1
  exact kk r w1 H1 locs1 hw hw1 hP2 hD2 hS1
theorem jw_mr {a0 : Array Value} {P : Nat → Prop} (hr : va_Run p l e R s m args below meth c H locs cells slots mc ms (F0 m pc ls st0) rest (jw_Qr D P W1 (va_A wc H.size) a0) (va_A wc H.size)) (hP : va_P D vwCl ws H) (hD : va_D A ws) (hS : va_S A s.heap H locs) (hA : ∀ q, s.heap.size ≤ q → A q) (mk : List Bool) (hC : jw_sel mk ws = wc) {cs ss : Nat} (e1 : cells + mc = cs) (e2 : slots + ms = ss)
    (kk : ∀ (r : Nat) (w1 : va_W) (H1 : Heap) (locs1 : List Loc), P r → W1 w1 → va_P D vwCl (jw_mrg mk ws w1) H1 → va_D A (jw_mrg mk ws w1) → va_S A s.heap H1 locs1 → W p l e R s m args below meth c H1 locs1 cs ss Q (F0 m (pc + 3) ls (.ref r :: rest))) : W p l e R s m args below meth c H locs cells slots Q (F0 m pc ls st0) := by
  subst e1 e2
  have hF := jw_freeM hD hS hA mk hC
  refine va_callr hr hS (fun q _ h => hF q h) hF (fun u r t H1 locs1 ht hvm hw hB hz hk hS1 => ?_)
  obtain ⟨hp, w1, hw1, hP1, hD1⟩ := hB
  rw [ht] at hP1
  obtain ⟨hP2, hD2⟩ := jw_join hP hD mk hC hk hF hP1 hD1
  exact kk r w1 H1 locs1 hp hw1 hP2 hD2 hS1
end JWM
