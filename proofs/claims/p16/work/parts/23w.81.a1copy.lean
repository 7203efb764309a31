/-! System.arraycopy, the row that it leaves said as a list -/
def jw_cp {α : Type} (b : α) (f : Nat → α) (i j : Nat) : Nat → List α → List α
  | 0, xs => xs
  | k + 1, xs => jw_up b (f (i + k)) (j + k) (jw_cp b f i j k xs)
theorem jw_cp_get {α : Type} (b : α) (f : Nat → α) (i j k : Nat) (xs : List α) (z : Nat) : (jw_cp b f i j k xs).getD z b = va_cpy f (fun y => xs.getD y b) i j k z := by
  induction k with
  | zero => simp only [jw_cp, va_cpy]; rw [if_neg (by omega)]
  | succ k ih =>
    rw [jw_cp, jw_up_get, ih]
    simp only [va_cpy]
    by_cases h : z = j + k
    · subst h
      rw [if_pos rfl, if_pos (by omega)]
      congr 1
      omega
    · rw [if_neg h]
      by_cases h2 : j ≤ z ∧ z < j + k
      · rw [if_pos h2, if_pos (by omega)]
      · rw [if_neg h2, if_neg (by omega)]
section JWC
variable {p : Program} {l : Launch} {e : Env} {R : Room} {s : State} {m : MethodId} {args : Array Value} {below : List Frame} {meth : Method} {c : Code} {H : Heap} {locs : List Loc} {cells slots : Nat} {Q : State → Prop}
variable {cc : ByteArray} {pc : Nat} {ls : Array Slot} {rest : List Value} {D : va_G} {Y : Nat → ClassId} {tt : Nat → Nat} {A : Nat → Prop} {a : Nat} {ws : va_W}
theorem jw_copyi (hx : p.tables.exec = Jvm.exec) (hb : c.code = cc) (hml : c.maxLocals = ls.size) {own : String} {index : Nat} (hown : s.vm.findClass own = some m.cls) (hlink : (Cond.methodLink own index arraycopyName).before args s = true) (hnat : (Cond.native arraycopyName).before args s = true) (hstat : (Cond.static arraycopyName).before args s = true) (hini : (Cond.initialized "java/lang/System").before args s = true)
    (hE : jw_E D Y tt A s s.heap) (hP : va_P D vwCl ws H) (hD : va_D A ws) (hS : va_S A s.heap H locs) (q0 q1 : Nat) {a0 n0 n1 : Nat} {f : Nat → Int32} {b : Int32} {xs : List Int32} (ys : List Int32) (ha0 : ws[q0]? = some (a0, .inl (Y 1, n0, .inl f))) (ha1 : ws[q1]? = some (a, .inl (Y 1, n1, .inl (jw_l b xs)))) (i j k : Nat)
    {sp dp n : Int32} (h1 : jw_ix sp 2147483647 i = true) (h2 : jw_ix dp 2147483647 j = true) (h3 : jw_ix n 2147483647 k = true) (h4 : Nat.ble (i + k) n0 = true) (h5 : Nat.ble (j + k) n1 = true) (hy : jw_cp b f i j k xs = ys) {ws' : va_W} (hw : ws.set q1 (a, .inl (Y 1, n1, .inl (jw_l b ys))) = ws')
    (hframes : 1 ≤ R.frames) (hlocals : (rest.map fun v => v.category).sum + (nativeFrameWords "java/lang/System" "arraycopy" 5 + 11) ≤ R.locals) (hdg : decode cc pc = .ok (.invokestatic index, 3))
    (kk : ∀ (H1 : Heap) (locs1 : List Loc), va_P D vwCl ws' H1 → va_D A ws' → va_S A s.heap H1 locs1 → W p l e R s m args below meth c H1 locs1 cells slots Q (F0 m (pc + 3) ls rest)) : W p l e R s m args below meth c H locs cells slots Q (F0 m pc ls (.int n :: .int dp :: .ref a :: .int sp :: .ref a0 :: rest)) := by
  obtain ⟨g1, e1⟩ := jw_ix_in h1
  obtain ⟨g2, e2⟩ := jw_ix_in h2
  obtain ⟨g3, e3⟩ := jw_ix_in h3
  have h4 := Nat.le_of_ble_eq_true h4
  have h5 := Nat.le_of_ble_eq_true h5
  subst e1 e2 e3 hw
  refine va_copyi hx hb hml hown hlink hnat hstat hini hE.1 hP hD hS q0 q1 1 1 ha0 ha1 rfl rfl rfl (fun q => g1 (Or.inl q)) (fun q => g2 (Or.inl q)) (fun q => g3 (Or.inl q)) h4 h5 (fun _ _ => rfl) hframes hlocals hdg ?_
  have e : va_cpy f (jw_l b xs) sp.toNatClampNeg dp.toNatClampNeg n.toNatClampNeg = jw_l b ys := by
    funext z
    rw [← hy]
    exact (jw_cp_get b f _ _ _ xs z).symm
  rw [e]
  exact kk
theorem jw_copyl (hx : p.tables.exec = Jvm.exec) (hb : c.code = cc) (hml : c.maxLocals = ls.size) {own : String} {index : Nat} (hown : s.vm.findClass own = some m.cls) (hlink : (Cond.methodLink own index arraycopyName).before args s = true) (hnat : (Cond.native arraycopyName).before args s = true) (hstat : (Cond.static arraycopyName).before args s = true) (hini : (Cond.initialized "java/lang/System").before args s = true)
    (hE : jw_E D Y tt A s s.heap) (hP : va_P D vwCl ws H) (hD : va_D A ws) (hS : va_S A s.heap H locs) (q0 q1 : Nat) {a0 n0 n1 : Nat} {f : Nat → Int64} {b : Int64} {xs : List Int64} (ys : List Int64) (ha0 : ws[q0]? = some (a0, .inl (Y 2, n0, .inr (.inl f)))) (ha1 : ws[q1]? = some (a, .inl (Y 2, n1, .inr (.inl (jw_L b xs))))) (i j k : Nat)
    {sp dp n : Int32} (h1 : jw_ix sp 2147483647 i = true) (h2 : jw_ix dp 2147483647 j = true) (h3 : jw_ix n 2147483647 k = true) (h4 : Nat.ble (i + k) n0 = true) (h5 : Nat.ble (j + k) n1 = true) (hy : jw_cp b f i j k xs = ys) {ws' : va_W} (hw : ws.set q1 (a, .inl (Y 2, n1, .inr (.inl (jw_L b ys)))) = ws')
    (hframes : 1 ≤ R.frames) (hlocals : (rest.map fun v => v.category).sum + (nativeFrameWords "java/lang/System" "arraycopy" 5 + 11) ≤ R.locals) (hdg : decode cc pc = .ok (.invokestatic index, 3))
    (kk : ∀ (H1 : Heap) (locs1 : List Loc), va_P D vwCl ws' H1 → va_D A ws' → va_S A s.heap H1 locs1 → W p l e R s m args below meth c H1 locs1 cells slots Q (F0 m (pc + 3) ls rest)) : W p l e R s m args below meth c H locs cells slots Q (F0 m pc ls (.int n :: .int dp :: .ref a :: .int sp :: .ref a0 :: rest)) := by
  obtain ⟨g1, e1⟩ := jw_ix_in h1
  obtain ⟨g2, e2⟩ := jw_ix_in h2
  obtain ⟨g3, e3⟩ := jw_ix_in h3
  have h4 := Nat.le_of_ble_eq_true h4
  have h5 := Nat.le_of_ble_eq_true h5
  subst e1 e2 e3 hw
  refine va_copyl hx hb hml hown hlink hnat hstat hini hE.1 hP hD hS q0 q1 2 2 ha0 ha1 rfl rfl rfl (fun q => g1 (Or.inl q)) (fun q => g2 (Or.inl q)) (fun q => g3 (Or.inl q)) h4 h5 (fun _ _ => rfl) hframes hlocals hdg ?_
  have e : va_cpy f (jw_L b xs) sp.toNatClampNeg dp.toNatClampNeg n.toNatClampNeg = jw_L b ys := by
    funext z
    rw [← hy]
    exact (jw_cp_get b f _ _ _ xs z).symm
  rw [e]
  exact kk
/-- out of a static row -/
theorem jw_copyt (hx : p.tables.exec = Jvm.exec) (hb : c.code = cc) (hml : c.maxLocals = ls.size) {own : String} {index : Nat} (hown : s.vm.findClass own = some m.cls) (hlink : (Cond.methodLink own index arraycopyName).before args s = true) (hnat : (Cond.native arraycopyName).before args s = true) (hstat : (Cond.static arraycopyName).before args s = true) (hini : (Cond.initialized "java/lang/System").before args s = true)
    (hE : jw_E D Y tt A s s.heap) (hP : va_P D vwCl ws H) (hD : va_D A ws) (hS : va_S A s.heap H locs) {C nm : String} {t N : Nat} {f : Nat → Int32} (hT : jw_stat C nm t N f A s s.heap) (q1 : Nat) {n1 : Nat} {b : Int32} {xs : List Int32} (ys : List Int32) (ha1 : ws[q1]? = some (a, .inl (Y 1, n1, .inl (jw_l b xs)))) (i j k : Nat)
    {sp dp n : Int32} (h1 : jw_ix sp 2147483647 i = true) (h2 : jw_ix dp 2147483647 j = true) (h3 : jw_ix n 2147483647 k = true) (h4 : Nat.ble (i + k) N = true) (h5 : Nat.ble (j + k) n1 = true) (hy : jw_cp b f i j k xs = ys) {ws' : va_W} (hw : ws.set q1 (a, .inl (Y 1, n1, .inl (jw_l b ys))) = ws')
    (hframes : 1 ≤ R.frames) (hlocals : (rest.map fun v => v.category).sum + (nativeFrameWords "java/lang/System" "arraycopy" 5 + 11) ≤ R.locals) (hdg : decode cc pc = .ok (.invokestatic index, 3))
    (kk : ∀ (H1 : Heap) (locs1 : List Loc), va_P D vwCl ws' H1 → va_D A ws' → va_S A s.heap H1 locs1 → W p l e R s m args below meth c H1 locs1 cells slots Q (F0 m (pc + 3) ls rest)) : W p l e R s m args below meth c H locs cells slots Q (F0 m pc ls (.int n :: .int dp :: .ref a :: .int sp :: .ref t :: rest)) := by
  obtain ⟨g1, e1⟩ := jw_ix_in h1
  obtain ⟨g2, e2⟩ := jw_ix_in h2
  obtain ⟨g3, e3⟩ := jw_ix_in h3
  have h4 := Nat.le_of_ble_eq_true h4
  have h5 := Nat.le_of_ble_eq_true h5
  subst hw
  have nn : ∀ z : Int32, ¬ z < 0 → z.toInt = (z.toNatClampNeg : Int) := by
    intro z hz
    have hz0 : (0 : Int) ≤ z.toInt := by
      have := Int32.not_lt.mp hz
      simpa using Int32.le_iff_toInt_le.mp this
    show z.toInt = ((z.toInt.toNat : Nat) : Int)
    omega
  have k1 : ¬ sp < 0 := fun q => g1 (Or.inl q)
  have k2 : ¬ dp < 0 := fun q => g2 (Or.inl q)
  have k3 : ¬ n < 0 := fun q => g3 (Or.inl q)
  have e : va_cpy f (jw_l b xs) sp.toNatClampNeg dp.toNatClampNeg n.toNatClampNeg = jw_l b ys := by
    funext z
    rw [← hy, e1, e2, e3]
    exact (jw_cp_get b f _ _ _ xs z).symm
  intro T hTh X
  obtain ⟨scr, hs1, hs2, hs3, hs4, -, hs5, hs7⟩ := hT.2
  have hbl : t < s.heap.size := (Array.getElem?_eq_some_iff.mp hs1).1
  have hc0 : H[t]? = some scr := by rw [hS.2.1 t hbl hs7]; exact hs1
  have hc1 : H[a]? = some (vp_cell (Y 1) (n1, .inl (jw_l b xs))) := hP q1 _ ha1
  obtain ⟨hs6, k0, hk0, cm0, hkk0⟩ := hs2
  obtain ⟨-, k9, hk1, cm1, hkk1⟩ := (hE.1.2 1 _ rfl).1 n1 (fun j => .int (jw_l b xs j))
  obtain ⟨vm', X', step⟩ := X.arraycopy hx hown hlink hnat hstat hini (src := t) (dst := a) (cs := scr) (cd := vp_cell (Y 1) (n1, .inl (jw_l b xs))) (srcPos := sp) (destPos := dp) (n := n) (by rw [hTh]; exact hc0) (by rw [hTh]; exact hc1)
    hs6 (fun _ h => by cases h) hs3 (fun h => by cases h) hk0 hk1 hkk0 hkk1 (by simp [refKind]) k1 k2 k3
    (by rw [nn sp k1, nn n k3]; omega)
    (by rw [nn dp k2, nn n k3]; show ¬ _ > ((arrV (Y 1) n1 (fun j => .int (jw_l b xs j))).slots.size : Int); rw [arrV_size]; omega)
    (fun vm₁ _ i9 hi9 => by
      have e : scr.slots.getD (sp.toNatClampNeg + i9) .null = .int (f (sp.toNatClampNeg + i9)) := by
        rw [Array.getD_eq_getD_getElem?, hs5 _ (by omega)]
        rfl
      refine ⟨?_, ?_⟩
      · rw [e]
        rfl
      · rw [e]
        exact trivial)
    (g := F0 m pc ls (.int n :: .int dp :: .ref a :: .int sp :: .ref t :: rest)) rfl (by rw [hml]) (rest := rest) rfl (by rw [hb]; exact hdg) hframes (by show 2 * 0 + _ + _ ≤ _; omega)
  have e9 : copied scr (vp_cell (Y 1) (n1, .inl (jw_l b xs))) sp dp n = vp_cell (Y 1) (n1, .inl (jw_l b ys)) := by
    rw [← e]
    exact va_copiedX (fun z => .int z) scr (Y 1) f (jw_l b xs) hs5 (by omega)
  rw [e9] at X' step
  have hl : a < H.size := (Array.getElem?_eq_some_iff.mp hc1).1
  have hheap : ((T.setVm vm').setCell a (vp_cell (Y 1) (n1, .inl (jw_l b ys)))).heap = H.setIfInBounds a (vp_cell (Y 1) (n1, .inl (jw_l b ys))) := by rw [← hTh]; rfl
  have oq : ∀ q : Nat, q ≠ a → (H.setIfInBounds a (vp_cell (Y 1) (n1, .inl (jw_l b ys))))[q]? = H[q]? := fun q hq => by simp [Array.getElem?_setIfInBounds, Ne.symm hq]
  obtain ⟨t9, a1, b1⟩ := kk _ _ (hP.set hD ha1 (show (H.setIfInBounds a _)[a]? = some _ by simp [Array.getElem?_setIfInBounds, hl]) oq) (hD.set ha1) ⟨by simp; exact hS.1, fun q g1 g2 => by
      rw [oq q (fun e => g2 (by rw [e]; exact hD.2 q1 _ ha1))]
      exact hS.2.1 q g1 g2, fun q hq => by
      rcases List.mem_append.mp hq with h | h
      · exact hS.2.2 q h
      · obtain ⟨z, -, hz⟩ := List.mem_map.mp h
        rw [← hz]
        exact hD.2 q1 _ ha1⟩ _ hheap X'
  exact ⟨t9, step t9 a1, b1⟩
end JWC
