/-! THE LAW, told purely, holds -/
theorem pure_law : ∀ (xs : Nat → Int32) (L b z : Nat), L ≤ 2048 → PL_law xs L b (xM0 z) (fun _ => True) := fun xs L b z hl => law_of hl inv0 (Nat.le_refl (z + 125)) (fun K2 => init_all K2)
