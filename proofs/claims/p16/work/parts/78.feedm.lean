theorem dz_fdM (fu : Nat) (v1 v2 v3 v4 v5 t th : Int32) (a : Nat → Int32) : dz_P (f0_X12_feed fu v1 v2 v3 v4 v5 t th a) (fun r => dz_fd t r.1 r.2.1) := by
  have key : t + 20 ≤ 400 → ∀ k : Nat, (∀ (v6 th : Int32) (a : Nat → Int32), dz_P ((F0_X12_feed fu k).1 v1 v2 v3 v4 v5 v6 t th a) (fun r => dz_fd t r.1 r.2.1)) ∧ (∀ (v6 w0 th : Int32) (a : Nat → Int32), dz_P ((F0_X12_feed fu k).2 v1 v2 v3 v4 v5 v6 w0 t th a) (fun r => dz_fd t r.1 r.2.1)) := by
    intro c k
    induction k with
    | zero => exact ⟨fun _ _ _ => dz_Pn, fun _ _ _ _ => dz_Pn⟩
    | succ k ih =>
      obtain ⟨i1, i2⟩ := ih
      refine ⟨?_, ?_⟩
      · intro v6 th a
        show dz_P (s0_X12_feed_1 fu _ v1 v2 v3 v4 v5 v6 t th a) _
        unfold s0_X12_feed_1
        exact dz_Pi (fun _ => dz_Ps ⟨fun _ => ⟨rfl, rfl⟩, fun h => absurd c h⟩) (fun _ => dz_Pi (fun _ => dz_Pi (fun _ => dz_Pi (fun _ => dz_Pi (fun _ => i2 _ _ _ _) (fun _ => i2 _ _ _ _)) (fun _ => i2 _ _ _ _)) (fun _ => i2 _ _ _ _)) (fun _ => i2 _ _ _ _))
      · intro v6 w0 th a
        show dz_P (s0_X12_feed_2 fu _ v1 v2 v3 v4 v5 v6 w0 t th a) _
        unfold s0_X12_feed_2
        exact dz_Pi (fun _ => i1 _ _ _) (fun _ => dz_Pn)
  unfold f0_X12_feed s0_X12_feed_0
  exact dz_Pi (fun c => (key c fu).1 _ _ _) (fun c => dz_Ps ⟨fun h => absurd h c, fun _ => ⟨rfl, rfl⟩⟩)
