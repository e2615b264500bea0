/-! THE BEGINNING: what holds when both are built -/
def C0 : Nat → Nat → Int := fun o k => if o = 0 ∧ k = 10 then -1 else if (o = 84 ∨ o = 87 ∨ o = 99 ∨ o = 103) ∧ k < 24 then -1 else if (o = 81 ∨ o = 110) ∧ k < 8 then 30 else if (o = 91 ∨ o = 113) ∧ k < 5 then (if k = 0 then 60 else 10) else if o = 104 ∧ k = 14 then -1 else 0
theorem C0_z {o k : Nat} (h : o ≠ 0 ∧ o ≠ 84 ∧ o ≠ 87 ∧ o ≠ 99 ∧ o ≠ 103 ∧ o ≠ 81 ∧ o ≠ 110 ∧ o ≠ 91 ∧ o ≠ 113 ∧ o ≠ 104) : C0 o k = 0 := by
  unfold C0
  rw [if_neg (by omega), if_neg (by omega), if_neg (by omega), if_neg (by omega), if_neg (by omega)]
theorem C0_sh {o k : Nat} (h : o = 84 ∨ o = 87 ∨ o = 99 ∨ o = 103) (hk : k < 24) : C0 o k = -1 := by
  unfold C0
  rw [if_neg (by omega), if_pos ⟨h, hk⟩]
theorem C0_w {o k : Nat} (h : o = 81 ∨ o = 110) (hk : k < 8) : C0 o k = 30 := by
  unfold C0
  rw [if_neg (by omega), if_neg (by omega), if_pos ⟨h, hk⟩]
theorem C0_h {o k : Nat} (h : o = 91 ∨ o = 113) (hk : k < 5) : C0 o k = if k = 0 then 60 else 10 := by
  unfold C0
  rw [if_neg (by omega), if_neg (by omega), if_neg (by omega), if_pos ⟨h, hk⟩]
theorem inv0 : Inv C0 0 (0, fun _ => 0, fun _ => 0) := by
  have no : ∀ b : Nat, ¬ b < 0 := fun b => Nat.not_lt_zero b
  have row : ∀ r, r = 82 ∨ r = 85 → RowOk C0 r := fun r hr => by
    refine ⟨?_, fun i hi => ?_, fun b hb => ?_⟩
    · rw [C0_z (by omega)]; omega
    · rw [C0_z (by omega)]; omega
    · rw [C0_sh (by omega) hb]; omega
  refine ⟨⟨?_, ?_, fun i hi => ?_⟩, ⟨by omega, ?_, ?_, ?_, fun o ho => ?_, fun b hb => absurd hb (no b), fun b hb => absurd hb (no b), fun b hb j hj => ?_, fun b hb => absurd hb (no b)⟩, ?_, ⟨?_, ?_, ?_⟩, ⟨?_, ?_, ?_⟩, fun s hs => ?_, ⟨⟨?_, fun i hi => absurd hi (no i), fun i hi => absurd hi (no i), fun b hb _ => ?_, row 82 (by omega)⟩, ⟨?_, ?_, fun i hi => absurd hi (no i), fun s hs => ?_⟩, ⟨fun i hi => absurd hi (no i), fun i j hi => absurd hi (no i), rfl⟩⟩, row 85 (by omega), fun k hk => ?_, ⟨?_, Or.inl ?_⟩, ⟨?_, Or.inl ?_⟩⟩
  · rw [C0_z (by omega)]; omega
  · rw [C0_z (o := 1) (by omega)]; rfl
  · rw [C0_z (by omega)] at hi; omega
  · exact C0_z (by omega)
  · exact C0_z (by omega)
  · rfl
  · obtain ⟨i, hi, rfl⟩ := isBook_i ho
    have e : ∀ k, C0 (5 + 3 * i) k = 0 := fun k => C0_z (by omega)
    unfold BookOk
    simp only [e]
    omega
  · unfold ptC
    rw [C0_z (by omega)]; omega
  · rfl
  · rfl
  · decide
  · decide
  · rfl
  · decide
  · decide
  · rw [C0_w (by omega) hs, C0_w (by omega) hs]; omega
  · exact C0_z (by omega)
  · exact C0_sh (by omega) hb
  · rfl
  · decide
  · exact C0_z (by omega)
  · rw [C0_h (by omega) hk, C0_h (by omega) hk]
    refine ⟨rfl, ?_⟩
    split <;> omega
  · rw [C0_z (by omega), C0_z (by omega)]
  · exact C0_z (by omega)
  · rw [C0_z (by omega), C0_z (by omega)]
  · exact C0_z (by omega)
