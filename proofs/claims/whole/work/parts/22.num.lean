/-! ints and longs by whole numbers -/
theorem J_add (a b : Int) : J a + J b = J (a + b) := (Int32.ofInt_add a b).symm
theorem J_sub (a b : Int) : J a - J b = J (a - b) := (Int32.ofInt_sub a b).symm
theorem J_mul (a b : Int) : J a * J b = J (a * b) := (Int32.ofInt_mul a b).symm
theorem J_neg (a : Int) : -J a = J (-a) := (Int32.ofInt_neg a).symm
theorem J_toInt {a : Int} (h1 : -2147483648 ≤ a) (h2 : a < 2147483648) : (J a).toInt = a := Int32.toInt_ofInt_of_le (by simpa using h1) (by simpa using h2)
theorem J_of (x : Int32) : J x.toInt = x := Int32.ofInt_toInt x
theorem J_ofNat (n : Nat) : Int32.ofNat n = J n := rfl
theorem J_lt {a b : Int} (h1 : -2147483648 ≤ a) (h2 : a < 2147483648) (h3 : -2147483648 ≤ b) (h4 : b < 2147483648) : (J a < J b) = (a < b) := by
  rw [Int32.lt_iff_toInt_lt, J_toInt h1 h2, J_toInt h3 h4]
theorem J_le {a b : Int} (h1 : -2147483648 ≤ a) (h2 : a < 2147483648) (h3 : -2147483648 ≤ b) (h4 : b < 2147483648) : (J a ≤ J b) = (a ≤ b) := by
  rw [Int32.le_iff_toInt_le, J_toInt h1 h2, J_toInt h3 h4]
theorem J_eq {a b : Int} (h1 : -2147483648 ≤ a) (h2 : a < 2147483648) (h3 : -2147483648 ≤ b) (h4 : b < 2147483648) : (J a = J b) = (a = b) := by
  rw [← Int32.toInt_inj, J_toInt h1 h2, J_toInt h3 h4]
theorem J_nat {a : Int} (h1 : -2147483648 ≤ a) (h2 : a < 2147483648) : (J a).toNatClampNeg = a.toNat := by
  show (J a).toInt.toNat = a.toNat
  rw [J_toInt h1 h2]
theorem J_div {a b : Int} (h1 : 0 ≤ a) (h2 : a < 2147483648) (h3 : 0 < b) (h4 : b < 2147483648) : J a / J b = J (a / b) := by
  have h := Int32.ofInt_tdiv (a := a) (b := b) (by rw [show Int32.minValue.toInt = -2147483648 by decide]; omega) (by rw [show Int32.maxValue.toInt = 2147483647 by decide]; omega) (by rw [show Int32.minValue.toInt = -2147483648 by decide]; omega) (by rw [show Int32.maxValue.toInt = 2147483647 by decide]; omega)
  rw [Int.tdiv_eq_ediv_of_nonneg h1] at h
  exact h.symm
theorem J_ne0 {b : Int} (h3 : 0 < b) (h4 : b < 2147483648) : (¬ J b = 0) = True := by
  rw [J0, J_eq (by omega) h4 (by omega) (by omega)]
  exact eq_true (by omega)
theorem J_range (x : Int32) : -2147483648 ≤ x.toInt ∧ x.toInt < 2147483648 := ⟨by have := x.le_toInt; simpa using this, by have := x.toInt_lt; simpa using this⟩
theorem vp_J {i : Int} {n : Nat} (h1 : -2147483648 ≤ i) (h2 : i < 2147483648) : vp_in (J i) n = (0 ≤ i ∧ i < n) := by
  unfold vp_in
  rw [J_nat h1 h2, J0, J_lt h1 h2 (by omega) (by omega)]
  apply propext
  omega
theorem LJ_toInt {a : Int} (h1 : -9223372036854775808 ≤ a) (h2 : a < 9223372036854775808) : (LJ a).toInt = a := Int64.toInt_ofInt_of_le (by simpa using h1) (by simpa using h2)
theorem J_long {a : Int} (h1 : -2147483648 ≤ a) (h2 : a < 2147483648) : (J a).toInt64 = LJ a := by
  apply Int64.toInt_inj.mp
  rw [Int32.toInt_toInt64, J_toInt h1 h2, LJ_toInt (by omega) (by omega)]
theorem LJ_add (a b : Int) : LJ a + LJ b = LJ (a + b) := (Int64.ofInt_add a b).symm
theorem LJ_mul (a b : Int) : LJ a * LJ b = LJ (a * b) := (Int64.ofInt_mul a b).symm
theorem LJ_sub (a b : Int) : LJ a - LJ b = LJ (a - b) := (Int64.ofInt_sub a b).symm
theorem LJ_div {a b : Int} (h1 : 0 ≤ a) (h2 : a < 9223372036854775808) (h3 : 0 < b) (h4 : b < 9223372036854775808) : LJ a / LJ b = LJ (a / b) := by
  have h := Int64.ofInt_tdiv (a := a) (b := b) (by rw [show Int64.minValue.toInt = -9223372036854775808 by decide]; omega) (by rw [show Int64.maxValue.toInt = 9223372036854775807 by decide]; omega) (by rw [show Int64.minValue.toInt = -9223372036854775808 by decide]; omega) (by rw [show Int64.maxValue.toInt = 9223372036854775807 by decide]; omega)
  rw [Int.tdiv_eq_ediv_of_nonneg h1] at h
  exact h.symm
theorem LJ_ne0 {b : Int} (h3 : 0 < b) (h4 : b < 9223372036854775808) : (¬ LJ b = 0) = True := by
  refine eq_true fun h => ?_
  have := congrArg Int64.toInt h
  rw [LJ_toInt (by omega) h4] at this
  simp at this
  omega
theorem LJ_int (a : Int) : (LJ a).toInt32 = J a := by
  show (Int64.ofInt a).toInt32 = Int32.ofInt a
  simp
theorem LJ_of (x : Int64) : LJ x.toInt = x := Int64.ofInt_toInt x
theorem LJ_cmp_lt {a b : Int} (h1 : -9223372036854775808 ≤ a) (h2 : a < 9223372036854775808) (h3 : -9223372036854775808 ≤ b) (h4 : b < 9223372036854775808) : (lg_cmp (LJ a) (LJ b) < J 0) = (a < b) := by
  unfold lg_cmp
  have e1 : (LJ a > LJ b) = (a > b) := by
    show (LJ b < LJ a) = (b < a)
    rw [Int64.lt_iff_toInt_lt, LJ_toInt h1 h2, LJ_toInt h3 h4]
  have e2 : (LJ a = LJ b) = (a = b) := by rw [← Int64.toInt_inj, LJ_toInt h1 h2, LJ_toInt h3 h4]
  simp only [e1, e2]
  by_cases c1 : a > b
  · rw [if_pos c1]; apply propext; constructor
    · intro h; exact absurd h (by decide)
    · intro h; omega
  · rw [if_neg c1]
    by_cases c2 : a = b
    · rw [if_pos c2]; apply propext; constructor
      · intro h; exact absurd h (by decide)
      · intro h; omega
    · rw [if_neg c2]; apply propext; constructor
      · intro h; omega
      · intro h; decide
theorem LJ_cmp_gt {a b : Int} (h1 : -9223372036854775808 ≤ a) (h2 : a < 9223372036854775808) (h3 : -9223372036854775808 ≤ b) (h4 : b < 9223372036854775808) : (J 0 < lg_cmp (LJ a) (LJ b)) = (b < a) := by
  unfold lg_cmp
  have e1 : (LJ a > LJ b) = (a > b) := by
    show (LJ b < LJ a) = (b < a)
    rw [Int64.lt_iff_toInt_lt, LJ_toInt h1 h2, LJ_toInt h3 h4]
  have e2 : (LJ a = LJ b) = (a = b) := by rw [← Int64.toInt_inj, LJ_toInt h1 h2, LJ_toInt h3 h4]
  simp only [e1, e2]
  by_cases c1 : a > b
  · rw [if_pos c1]; apply propext; constructor
    · intro h; omega
    · intro h; decide
  · rw [if_neg c1]
    by_cases c2 : a = b
    · rw [if_pos c2]; apply propext; constructor
      · intro h; exact absurd h (by decide)
      · intro h; omega
    · rw [if_neg c2]; apply propext; constructor
      · intro h; exact absurd h (by decide)
      · intro h; omega
/-! branches -/
theorem xbr_pos {c A B : Prop} (h : c) : xbr c A B = A := propext ⟨fun q => q.1 h, fun a => ⟨fun _ => a, fun n => absurd h n⟩⟩
theorem xbr_neg {c A B : Prop} (h : ¬ c) : xbr c A B = B := propext ⟨fun q => q.2 h, fun b => ⟨fun q => absurd q h, fun _ => b⟩⟩
theorem xbr_true {A B : Prop} : xbr True A B = A := xbr_pos trivial
theorem xbr_false {A B : Prop} : xbr False A B = B := xbr_neg id
theorem xbr_ite {c A B : Prop} [Decidable c] : xbr c A B = if c then A else B := by
  by_cases h : c
  · rw [xbr_pos h, if_pos h]
  · rw [xbr_neg h, if_neg h]
theorem isB0 : isB (J 0) = True := eq_true (by unfold isB; decide)
theorem isB1 : isB (J 1) = True := eq_true (by unfold isB; decide)
theorem isBite {c : Prop} [Decidable c] : isB (if c then J 1 else J 0) = True := by
  split
  · exact isB1
  · exact isB0
theorem ex_eq {α : Type} {a : α} {p : α → Prop} : (∃ x, x = a ∧ p x) = p a := propext ⟨fun ⟨_, e, h⟩ => e ▸ h, fun h => ⟨a, rfl, h⟩⟩
theorem all_eq {α : Type} {a : α} {p : α → Prop} : (∀ x, x = a → p x) = p a := propext ⟨fun h => h a rfl, fun h x e => e ▸ h⟩
/-- a loop, evaluated: at each state it ends as X says, or goes on to one that X says the same of -/
theorem lp_iff {S : Type} {body : (S → Prop) → S → Prop} (I : S → Prop) (μ : S → Nat) (X : S → Prop) (h : ∀ s, I s → (∀ kc, body kc s = X s) ∨ ∃ s', I s' ∧ μ s' < μ s ∧ X s' = X s ∧ ∀ kc, body kc s = kc s') : ∀ s, I s → lp body s = X s := by
  have fw : ∀ n s, I s → lpn body n s → X s := by
    intro n
    induction n with
    | zero => intro s _ h; exact h.elim
    | succ n ih =>
      intro s hs hn
      rcases h s hs with e | ⟨s', hs', -, ex, e⟩
      · exact (e _) ▸ hn
      · rw [← ex]
        refine ih s' hs' ?_
        have h2 : body (lpn body n) s := hn
        rw [e] at h2
        exact h2
  have bw : ∀ n s, I s → μ s < n → X s → lpn body n s := by
    intro n
    induction n with
    | zero => intro s _ hm; omega
    | succ n ih =>
      intro s hs hm hx
      show body (lpn body n) s
      rcases h s hs with e | ⟨s', hs', hlt, ex, e⟩
      · rw [e]; exact hx
      · rw [e]; exact ih s' hs' (by omega) (by rw [ex]; exact hx)
  intro s hs
  exact propext ⟨fun ⟨n, hn⟩ => fw n s hs hn, fun hx => ⟨_, bw _ s hs (Nat.lt_succ_self _) hx⟩⟩
