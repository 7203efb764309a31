/-! evenly: a number at or above the bound is followed by one below -/
theorem dz_evt : ∀ a : Fin 108, ∀ b : Fin 128, ((2147483647 - (128 * a.val + b.val)) * 1103515245 + 12345) % 2147483648 < 2147469824 := by decide +kernel
