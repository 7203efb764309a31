theorem dz_andl64 {x : Int64} : 0 ≤ (x &&& 2147483647).toInt ∧ (x &&& 2147483647).toInt ≤ 2147483647 := by
  have h3 : (x &&& 2147483647).toBitVec.toNat = x.toBitVec.toNat &&& (2147483647 : Int64).toBitVec.toNat := BitVec.toNat_and _ _
  have h4 : x.toBitVec.toNat &&& (2147483647 : Int64).toBitVec.toNat ≤ (2147483647 : Int64).toBitVec.toNat := Nat.and_le_right
  have h5 : (2147483647 : Int64).toBitVec.toNat = 2147483647 := by decide
  have h2 := BitVec.toInt_eq_toNat_cond (x &&& 2147483647).toBitVec
  have h6 : (x &&& 2147483647).toInt = (x &&& 2147483647).toBitVec.toInt := rfl
  rw [h6]
  split at h2 <;> omega
theorem dz_evn {x : Int64} : ((x * 1103515245 + 12345) &&& 2147483647).toBitVec.toNat = (x.toBitVec.toNat * 1103515245 + 12345) % 2147483648 := by
  have h1 : ((x * 1103515245 + 12345) &&& 2147483647).toBitVec.toNat = (x * 1103515245 + 12345).toBitVec.toNat &&& (2147483647 : Int64).toBitVec.toNat := BitVec.toNat_and _ _
  have h2 : (x * 1103515245 + 12345).toBitVec.toNat = ((x * 1103515245).toBitVec.toNat + (12345 : Int64).toBitVec.toNat) % 2 ^ 64 := BitVec.toNat_add _ _
  have h3 : (x * 1103515245).toBitVec.toNat = (x.toBitVec.toNat * (1103515245 : Int64).toBitVec.toNat) % 2 ^ 64 := BitVec.toNat_mul _ _
  have k1 : (2147483647 : Int64).toBitVec.toNat = 2 ^ 31 - 1 := by decide
  have k2 : (12345 : Int64).toBitVec.toNat = 12345 := by decide
  have k3 : (1103515245 : Int64).toBitVec.toNat = 1103515245 := by decide
  rw [h1, h2, h3, k1, k2, k3, Nat.and_two_pow_sub_one_eq_mod]
  generalize x.toBitVec.toNat * 1103515245 = m
  have d : (2 : Nat) ^ 31 ∣ 2 ^ 64 := ⟨2 ^ 33, by decide⟩
  rw [Nat.mod_mod_of_dvd _ d, Nat.add_mod, Nat.mod_mod_of_dvd _ d, ← Nat.add_mod]
theorem dz_ev2 {x : Int64} (h0 : 2147469824 ≤ x.toInt) (h1 : x.toInt ≤ 2147483647) : ((x * 1103515245 + 12345) &&& 2147483647).toInt < 2147469824 := by
  have hx : x.toInt = (x.toBitVec.toNat : Int) := by
    have h2 := BitVec.toInt_eq_toNat_cond x.toBitVec
    have h6 : x.toInt = x.toBitVec.toInt := rfl
    have h7 := x.toBitVec.isLt
    rw [h6] at h0 h1 ⊢
    split at h2 <;> omega
  have hy := dz_evn (x := x)
  have t := dz_evt ⟨(2147483647 - x.toBitVec.toNat) / 128, by omega⟩ ⟨(2147483647 - x.toBitVec.toNat) % 128, by omega⟩
  simp only at t
  rw [show 2147483647 - (128 * ((2147483647 - x.toBitVec.toNat) / 128) + (2147483647 - x.toBitVec.toNat) % 128) = x.toBitVec.toNat by omega, ← hy] at t
  have t2 := t
  have h2 := BitVec.toInt_eq_toNat_cond ((x * 1103515245 + 12345) &&& 2147483647).toBitVec
  have h6 : ((x * 1103515245 + 12345) &&& 2147483647).toInt = ((x * 1103515245 + 12345) &&& 2147483647).toBitVec.toInt := rfl
  rw [h6]
  split at h2 <;> omega
theorem dz_cml {x y : Int64} (h : x.toInt < y.toInt) : lg_cmp x y < 0 := by
  unfold lg_cmp
  rw [if_neg (fun q => by have := Int64.lt_iff_toInt_lt.mp q; omega), if_neg (fun q => by rw [q] at h; omega)]
  decide
theorem dz_cmg {x y : Int64} (h : y.toInt ≤ x.toInt) : ¬ lg_cmp x y < 0 := by
  unfold lg_cmp
  by_cases q : x > y
  · rw [if_pos q]; decide
  · rw [if_neg q]
    rcases Int.lt_or_eq_of_le h with w | w
    · exact absurd (Int64.lt_iff_toInt_lt.mpr w) q
    · rw [if_pos (Int64.toInt_inj.mp w.symm)]; decide
theorem dz_evb {A l : Int64} (hA : A.toInt = 2147483648) (l0 : 1 ≤ l.toInt) (l1 : l.toInt ≤ 13824) : 2147469824 ≤ (A - (A - A / l * l)).toInt := by
  have d := dz_ediv (a := 2147483648) (b := l.toInt) (by decide) (by omega)
  have e1 : (A / l).toInt = 2147483648 / l.toInt := by
    rw [Int64.toInt_div, hA, Int.tdiv_eq_ediv_of_nonneg (by decide)]
    exact Int.bmod_eq_of_le (by omega) (by omega)
  have e2 : (A / l * l).toInt = 2147483648 / l.toInt * l.toInt := by
    rw [Int64.toInt_mul, e1]
    clear e1
    exact Int.bmod_eq_of_le (by omega) (by omega)
  have e3 : (A - A / l * l).toInt = 2147483648 - 2147483648 / l.toInt * l.toInt := by
    rw [Int64.toInt_sub, e2, hA]
    clear e1 e2
    exact Int.bmod_eq_of_le (by omega) (by omega)
  have e4 : (A - (A - A / l * l)).toInt = 2147483648 - (2147483648 - 2147483648 / l.toInt * l.toInt) := by
    rw [Int64.toInt_sub, e3, hA]
    clear e1 e2 e3
    exact Int.bmod_eq_of_le (by omega) (by omega)
  rw [e4]
  clear e1 e2 e3 e4
  omega
theorem t84_X12_evenly_x (fu : Nat) (l : Int32) (hl : l.toInt ≠ 0) (k : Nat) (v2 : Int32) (v3 v5 : Int64) (v7 th : Int32) (h : v5.toInt < v3.toInt) : dz_T (F84_X12_evenly fu l (k + 1) v2 v3 v5 v7 th) (fun _ => True) := by
  show dz_T (s84_X12_evenly_1 fu l (F84_X12_evenly fu l k) v2 v3 v5 v7 th) _
  unfold s84_X12_evenly_1
  rw [if_pos (dz_cml h)]
  exact dz_Ti (fun _ => dz_Tg (dz_nz64 hl) (dz_Ts trivial)) (fun _ => dz_Ti (fun _ => dz_Ts trivial) (fun _ => dz_Ts trivial))
theorem t84_X12_evenly (fu : Nat) (hfu : 1000000000000 ≤ fu) (c2_lawful : Int32) (v1 : Int32) (v2 : Int32) (c2_thrown : Int32) (p0 : c2_lawful.toInt ≤ 13824) (p1 : 0 ≤ c2_lawful.toInt) : dz_T (f84_X12_evenly fu c2_lawful v1 v2 c2_thrown) (fun r => True) := by
  unfold f84_X12_evenly s84_X12_evenly_0
  refine dz_Ti (fun _ => dz_Ts trivial) (fun _ => ?_)
  have h1 : dz_T (f1_X12_isIn fu v2 0 2) (fun _ => True) := by
    unfold f1_X12_isIn s1_X12_isIn_0
    exact dz_Ti (fun _ => dz_Ts trivial) (fun _ => dz_Ti (fun _ => dz_Ts trivial) (fun _ => dz_Ts trivial))
  refine dz_Tb h1 (fun r _ => ?_)
  refine dz_Ti (fun _ => dz_Ts trivial) (fun _ => ?_)
  refine dz_Teq (fun _ => dz_Ts trivial) (fun hl => ?_)
  have hl : c2_lawful.toInt ≠ 0 := by
    have := dz_l0'
    omega
  refine dz_Tg (dz_nz64 hl) ?_
  refine dz_Tb (P := fun x => 0 ≤ x.toInt ∧ x.toInt ≤ 2147483647) ⟨_, rfl, dz_andl64⟩ (fun x hx => ?_)
  obtain ⟨k, rfl⟩ : ∃ y, fu = y + 2 := ⟨fu - 2, by omega⟩
  have hL : c2_lawful.toInt64.toInt = c2_lawful.toInt := Int32.toInt_toInt64 c2_lawful
  have hb : 2147469824 ≤ ((2147483648 : Int64) - (dz_reml 2147483648 c2_lawful.toInt64)).toInt := dz_evb (by decide) (by omega) (by omega)
  clear hL
  generalize (2147483648 : Int64) - (dz_reml 2147483648 c2_lawful.toInt64) = B at hb ⊢
  rcases Int.lt_or_le x.toInt B.toInt with q | q
  · exact t84_X12_evenly_x (k + 2) c2_lawful hl (k + 1) v2 B x 1 0 q
  · show dz_T (s84_X12_evenly_1 (k + 2) c2_lawful (F84_X12_evenly (k + 2) c2_lawful (k + 1)) v2 B x 1 0) _
    unfold s84_X12_evenly_1
    rw [if_neg (dz_cmg q)]
    refine dz_Tb (P := fun y => y.toInt < 2147469824) ⟨_, rfl, dz_ev2 (by omega) hx.2⟩ (fun y hy => ?_)
    exact t84_X12_evenly_x (k + 2) c2_lawful hl k v2 B y _ 0 (by omega)
