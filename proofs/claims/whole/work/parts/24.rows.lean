/-! ROWS of the class, read -/
/-- a loop that goes up by one -/
theorem lp_for {S : Type} {body : (S → Prop) → S → Prop} (F : Nat → S) (a n : Nat) (X : Prop) (hn : a ≤ n) (step : ∀ i, a ≤ i → i < n → ∀ kc, body kc (F i) = kc (F (i + 1))) (last : ∀ kc, body kc (F n) = X) : lp body (F a) = X := by
  have key : ∀ d i, a ≤ i → i + d = n → lp body (F i) = X := by
    intro d
    induction d with
    | zero =>
      intro i hi e
      have e' : i = n := by omega
      subst e'
      exact propext ⟨fun ⟨k, h⟩ => by
        cases k with
        | zero => exact h.elim
        | succ k => exact (last _) ▸ (show body (lpn body k) (F i) from h), fun h => ⟨1, by show body _ _; rw [last]; exact h⟩⟩
    | succ d ih =>
      intro i hi e
      have h1 := ih (i + 1) (by omega) (by omega)
      rw [← h1]
      refine propext ⟨fun ⟨k, h⟩ => ?_, fun ⟨k, h⟩ => ⟨k + 1, ?_⟩⟩
      · cases k with
        | zero => exact h.elim
        | succ k =>
          refine ⟨k, ?_⟩
          have h2 : body (lpn body k) (F i) := h
          rw [step i hi (by omega)] at h2
          exact h2
      · show body _ _
        rw [step i hi (by omega)]
        exact h
  exact key (n - a) a (Nat.le_refl _) (by omega)
def cnt : Nat → (Nat → Bool) → Nat
  | 0, _ => 0
  | n + 1, f => cnt n f + (if f n then 1 else 0)
theorem cnt_le (n : Nat) (f : Nat → Bool) : cnt n f ≤ n := by
  induction n with
  | zero => exact Nat.le_refl _
  | succ n ih => show cnt n f + _ ≤ _; split <;> omega
/-- a row's ints are small -/
def RowOk (C : Nat → Nat → Int) (r : Nat) : Prop := (0 ≤ C r 2 ∧ C r 2 ≤ 24) ∧ (∀ i, i < 24 → -1 ≤ C (r + 1) i ∧ C (r + 1) i ≤ 24) ∧ ∀ b, b < 24 → -1 ≤ C (r + 2) b ∧ C (r + 2) b ≤ 8
section ROWS
variable {z : Nat} {g : Mem} {C : Nat → Nat → Int} {r : Nat} {K : Int32 → Prop}
theorem s_size (hr : isRow r) : PX6_size (ad z r) (lay z g C) K = K (J (C r 2)) := by
  unfold PX6_size
  simp (disch := omega) only [J_add, J_sub, J_mul, J_lt, J_le, J_eq, xbr_true, xbr_false, xbr_pos, xbr_neg, Int.toNat_natCast, all_eq, ex_eq, tS_lay (row_T hr), gI_lay (row_len hr)]
theorem s_amount (hr : isRow r) (ho : RowOk C r) {s : Int} (h1 : -1 ≤ s) (h2 : s ≤ 100) : PX6_amount (ad z r) (J s) (lay z g C) K = K (J (cnt 24 fun b => C (r + 2) b == s)) := by
  unfold PX6_amount
  simp (disch := omega) only [J_add, J_sub, J_mul, J_lt, J_le, J_eq, xbr_true, xbr_false, xbr_pos, xbr_neg, Int.toNat_natCast, all_eq, ex_eq, tS_lay (row_T hr), gR_lay (row_sh hr), aL_lay (row_shA hr)]
  refine lp_for (fun i => (J (cnt i fun b => C (r + 2) b == s), J i)) 0 24 _ (by omega) ?_ ?_
  · intro i _ hi kc
    have h3 := ho.2.2 i hi
    have h4 := cnt_le i fun b => C (r + 2) b == s
    unfold BX6_amount_14 CX6_amount_14
    simp (disch := omega) only [J_add, J_sub, J_mul, J_lt, J_le, J_eq, xbr_true, xbr_false, xbr_pos, xbr_neg, Int.toNat_natCast, all_eq, ex_eq, aI_lay (row_shA hr)]
    by_cases c : C (r + 2) i = s
    · simp (disch := omega) only [J_add, J_sub, J_mul, J_lt, J_le, J_eq, xbr_true, xbr_false, xbr_pos, xbr_neg, Int.toNat_natCast, all_eq, ex_eq]
      simp [cnt, c]
    · simp (disch := omega) only [J_add, J_sub, J_mul, J_lt, J_le, J_eq, xbr_true, xbr_false, xbr_pos, xbr_neg, Int.toNat_natCast, all_eq, ex_eq]
      simp [cnt, c]
  · intro kc
    unfold BX6_amount_14 CX6_amount_14
    simp (disch := omega) only [J_add, J_sub, J_mul, J_lt, J_le, J_eq, xbr_true, xbr_false, xbr_pos, xbr_neg, Int.toNat_natCast, all_eq, ex_eq]
def shOf (C : Nat → Nat → Int) (r : Nat) (b : Int) : Int := if 0 ≤ b ∧ b < 24 then C (r + 2) b.toNat else -1
def bkAt (C : Nat → Nat → Int) (r : Nat) (i : Int) : Int := if 0 ≤ i ∧ i < C r 2 then C (r + 1) i.toNat else -1
theorem shOf_r (ho : RowOk C r) (b : Int) : -1 ≤ shOf C r b ∧ shOf C r b ≤ 8 := by
  unfold shOf
  split
  · exact ho.2.2 _ (by omega)
  · omega
theorem bkAt_r (ho : RowOk C r) (b : Int) : -1 ≤ bkAt C r b ∧ bkAt C r b ≤ 24 := by
  unfold bkAt
  split
  · have := ho.1; exact ho.2.1 _ (by omega)
  · omega
theorem s_shelfOf (hr : isRow r) {b : Int} (h1 : -2147483648 ≤ b) (h2 : b < 2147483648) : PX6_shelfOf (ad z r) (J b) (lay z g C) K = K (J (shOf C r b)) := by
  unfold PX6_shelfOf shOf
  by_cases c1 : b < 0
  · simp (disch := omega) only [J_add, J_sub, J_mul, J_lt, J_le, J_eq, xbr_true, xbr_false, xbr_pos, xbr_neg, Int.toNat_natCast, all_eq, ex_eq, tS_lay (row_T hr)]
    rw [if_neg (by omega)]
  · simp (disch := omega) only [J_add, J_sub, J_mul, J_lt, J_le, J_eq, xbr_true, xbr_false, xbr_pos, xbr_neg, Int.toNat_natCast, all_eq, ex_eq, tS_lay (row_T hr), gR_lay (row_sh hr), aL_lay (row_shA hr)]
    by_cases c2 : b < 24
    · simp (disch := omega) only [J_add, J_sub, J_mul, J_lt, J_le, J_eq, xbr_true, xbr_false, xbr_pos, xbr_neg, Int.toNat_natCast, all_eq, ex_eq, aI_lay (row_shA hr)]
      rw [if_pos (by omega)]
    · simp (disch := omega) only [J_add, J_sub, J_mul, J_lt, J_le, J_eq, xbr_true, xbr_false, xbr_pos, xbr_neg, Int.toNat_natCast, all_eq, ex_eq]
      rw [if_neg (by omega)]
theorem s_bookAt (hr : isRow r) (ho : RowOk C r) {i : Int} (h1 : -2147483648 ≤ i) (h2 : i < 2147483648) : PX6_bookAt (ad z r) (J i) (lay z g C) K = K (J (bkAt C r i)) := by
  obtain ⟨o1, o2, o3⟩ := ho
  unfold PX6_bookAt bkAt
  by_cases c1 : i < 0
  · simp (disch := omega) only [J_add, J_sub, J_mul, J_lt, J_le, J_eq, xbr_true, xbr_false, xbr_pos, xbr_neg, Int.toNat_natCast, all_eq, ex_eq, tS_lay (row_T hr)]
    rw [if_neg (by omega)]
  · simp (disch := omega) only [J_add, J_sub, J_mul, J_lt, J_le, J_eq, xbr_true, xbr_false, xbr_pos, xbr_neg, Int.toNat_natCast, all_eq, ex_eq, tS_lay (row_T hr), gI_lay (row_len hr), gR_lay (row_line hr), aL_lay (row_lineA hr)]
    by_cases c2 : i < C r 2
    · simp (disch := omega) only [J_add, J_sub, J_mul, J_lt, J_le, J_eq, xbr_true, xbr_false, xbr_pos, xbr_neg, Int.toNat_natCast, all_eq, ex_eq, aI_lay (row_lineA hr)]
      rw [if_pos (by omega)]
    · simp (disch := omega) only [J_add, J_sub, J_mul, J_lt, J_le, J_eq, xbr_true, xbr_false, xbr_pos, xbr_neg, Int.toNat_natCast, all_eq, ex_eq]
      rw [if_neg (by omega)]
theorem s_stands (hr : isRow r) (ho : RowOk C r) {b : Int} (h1 : -2147483648 ≤ b) (h2 : b < 2147483648) : PX6_stands (ad z r) (J b) (lay z g C) K = K (J (if shOf C r b = -1 then 0 else 1)) := by
  have h3 := shOf_r ho b
  unfold PX6_stands
  simp (disch := omega) only [J_add, J_sub, J_mul, J_lt, J_le, J_eq, xbr_true, xbr_false, xbr_pos, xbr_neg, Int.toNat_natCast, all_eq, ex_eq, tS_lay (row_T hr), s_shelfOf hr]
  by_cases c : shOf C r b = -1
  · simp (disch := omega) only [J_add, J_sub, J_mul, J_lt, J_le, J_eq, xbr_true, xbr_false, xbr_pos, xbr_neg, Int.toNat_natCast, all_eq, ex_eq, isB0, true_and]
    rw [if_pos c]
  · simp (disch := omega) only [J_add, J_sub, J_mul, J_lt, J_le, J_eq, xbr_true, xbr_false, xbr_pos, xbr_neg, Int.toNat_natCast, all_eq, ex_eq, isB1, true_and]
    rw [if_neg c]
theorem s_start (hr : isRow r) (ho : RowOk C r) {s : Int} (h1 : -100 ≤ s) (h2 : s ≤ 100) : PX6_start (ad z r) (J s) (lay z g C) K = K (J (cnt 24 fun b => decide (C (r + 2) b ≠ -1 ∧ C (r + 2) b < s))) := by
  unfold PX6_start
  simp (disch := omega) only [J_add, J_sub, J_mul, J_lt, J_le, J_eq, xbr_true, xbr_false, xbr_pos, xbr_neg, Int.toNat_natCast, all_eq, ex_eq, tS_lay (row_T hr), gR_lay (row_sh hr), aL_lay (row_shA hr)]
  refine lp_for (fun i => (J (cnt i fun b => decide (C (r + 2) b ≠ -1 ∧ C (r + 2) b < s)), J i)) 0 24 _ (by omega) ?_ ?_
  · intro i _ hi kc
    have h3 := ho.2.2 i hi
    have h4 := cnt_le i fun b => decide (C (r + 2) b ≠ -1 ∧ C (r + 2) b < s)
    unfold BX6_start_14 CX6_start_14
    simp (disch := omega) only [J_add, J_sub, J_mul, J_lt, J_le, J_eq, xbr_true, xbr_false, xbr_pos, xbr_neg, Int.toNat_natCast, all_eq, ex_eq, aI_lay (row_shA hr)]
    by_cases c : C (r + 2) i = -1
    · simp (disch := omega) only [J_add, J_sub, J_mul, J_lt, J_le, J_eq, xbr_true, xbr_false, xbr_pos, xbr_neg, Int.toNat_natCast, all_eq, ex_eq]
      simp [cnt, c]
    · by_cases c2 : C (r + 2) i < s
      · simp (disch := omega) only [J_add, J_sub, J_mul, J_lt, J_le, J_eq, xbr_true, xbr_false, xbr_pos, xbr_neg, Int.toNat_natCast, all_eq, ex_eq]
        simp [cnt, c, c2]
      · simp (disch := omega) only [J_add, J_sub, J_mul, J_lt, J_le, J_eq, xbr_true, xbr_false, xbr_pos, xbr_neg, Int.toNat_natCast, all_eq, ex_eq]
        simp [cnt, c, c2]
  · intro kc
    unfold BX6_start_14 CX6_start_14
    simp (disch := omega) only [J_add, J_sub, J_mul, J_lt, J_le, J_eq, xbr_true, xbr_false, xbr_pos, xbr_neg, Int.toNat_natCast, all_eq, ex_eq]
/-- the first place below n where f holds, else n -/
def fst1 : Nat → (Nat → Bool) → Nat
  | 0, _ => 0
  | n + 1, f => if f 0 then 0 else fst1 n (fun i => f (i + 1)) + 1
theorem fst1_le (n : Nat) (f : Nat → Bool) : fst1 n f ≤ n := by
  induction n generalizing f with
  | zero => exact Nat.le_refl _
  | succ n ih => unfold fst1; split; omega; have := ih (fun i => f (i + 1)); omega
theorem fst1_lt {n : Nat} {f : Nat → Bool} {i : Nat} (h : i < fst1 n f) : f i = false := by
  induction n generalizing f i with
  | zero => exact absurd h (Nat.not_lt_zero _)
  | succ n ih =>
    unfold fst1 at h
    split at h
    · omega
    · cases i with
      | zero => simp_all
      | succ i => exact ih (f := fun i => f (i + 1)) (by omega)
theorem fst1_at {n : Nat} {f : Nat → Bool} (h : fst1 n f < n) : f (fst1 n f) = true := by
  induction n generalizing f with
  | zero => exact absurd h (Nat.not_lt_zero _)
  | succ n ih =>
    unfold fst1 at h ⊢
    split
    · assumption
    · rename_i c
      rw [if_neg c] at h
      exact ih (f := fun i => f (i + 1)) (by omega)
theorem s_indexOf (hr : isRow r) (ho : RowOk C r) {b : Int} (h1 : -2147483648 ≤ b) (h2 : b < 2147483648) : PX6_indexOf (ad z r) (J b) (lay z g C) K = K (J (if fst1 (C r 2).toNat (fun i => C (r + 1) i == b) < (C r 2).toNat then (fst1 (C r 2).toNat (fun i => C (r + 1) i == b) : Nat) else -1)) := by
  have o1 := ho.1
  unfold PX6_indexOf
  simp (disch := omega) only [J_add, J_sub, J_mul, J_lt, J_le, J_eq, xbr_true, xbr_false, xbr_pos, xbr_neg, Int.toNat_natCast, all_eq, ex_eq, tS_lay (row_T hr)]
  have h5 := fst1_le (C r 2).toNat (fun i => C (r + 1) i == b)
  refine lp_for (fun i => J i) 0 (fst1 (C r 2).toNat (fun i => C (r + 1) i == b)) _ (by omega) ?_ ?_
  · intro i _ hi kc
    have h6 := fst1_lt hi
    have h7 := bkAt_r ho i
    have h8 : bkAt C r i = C (r + 1) i := by unfold bkAt; rw [if_pos (by omega)]; simp
    have h9 : ¬ C (r + 1) i = b := by simpa using h6
    unfold BX6_indexOf_2 CX6_indexOf_2
    simp (disch := omega) only [J_add, J_sub, J_mul, J_lt, J_le, J_eq, xbr_true, xbr_false, xbr_pos, xbr_neg, Int.toNat_natCast, all_eq, ex_eq, gI_lay (row_len hr), s_bookAt hr ho]
    simp
  · intro kc
    unfold BX6_indexOf_2 CX6_indexOf_2
    by_cases c : fst1 (C r 2).toNat (fun i => C (r + 1) i == b) < (C r 2).toNat
    · have h6 := fst1_at c
      have h7 := bkAt_r ho (fst1 (C r 2).toNat (fun i => C (r + 1) i == b))
      have h8 : bkAt C r (fst1 (C r 2).toNat (fun i => C (r + 1) i == b)) = C (r + 1) (fst1 (C r 2).toNat (fun i => C (r + 1) i == b)) := by unfold bkAt; rw [if_pos (by omega)]; simp
      have h9 : C (r + 1) (fst1 (C r 2).toNat (fun i => C (r + 1) i == b)) = b := by simpa using h6
      simp (disch := omega) only [J_add, J_sub, J_mul, J_lt, J_le, J_eq, xbr_true, xbr_false, xbr_pos, xbr_neg, Int.toNat_natCast, all_eq, ex_eq, gI_lay (row_len hr), s_bookAt hr ho]
      rw [if_pos c]
    · simp (disch := omega) only [J_add, J_sub, J_mul, J_lt, J_le, J_eq, xbr_true, xbr_false, xbr_pos, xbr_neg, Int.toNat_natCast, all_eq, ex_eq, gI_lay (row_len hr)]
      rw [if_neg c]
theorem s_onShelf (hr : isRow r) (ho : RowOk C r) {s i : Int} (h1 : -1 ≤ s) (h2 : s ≤ 100) (h3 : -2147483648 ≤ i) (h4 : i < 2147483648) : PX6_onShelf (ad z r) (J s) (J i) (lay z g C) K = K (J (if 0 ≤ i ∧ i < cnt 24 (fun b => C (r + 2) b == s) then bkAt C r (cnt 24 (fun b => decide (C (r + 2) b ≠ -1 ∧ C (r + 2) b < s)) + i) else -1)) := by
  have o1 := ho.1
  have l1 := cnt_le 24 (fun b => C (r + 2) b == s)
  have l2 := cnt_le 24 (fun b => decide (C (r + 2) b ≠ -1 ∧ C (r + 2) b < s))
  unfold PX6_onShelf
  by_cases c1 : i < 0
  · simp (disch := omega) only [J_add, J_sub, J_mul, J_lt, J_le, J_eq, xbr_true, xbr_false, xbr_pos, xbr_neg, Int.toNat_natCast, all_eq, ex_eq, tS_lay (row_T hr)]
    rw [if_neg (by omega)]
  · simp (disch := omega) only [J_add, J_sub, J_mul, J_lt, J_le, J_eq, xbr_true, xbr_false, xbr_pos, xbr_neg, Int.toNat_natCast, all_eq, ex_eq, tS_lay (row_T hr), s_amount hr ho]
    by_cases c2 : i < cnt 24 (fun b => C (r + 2) b == s)
    · simp (disch := omega) only [J_add, J_sub, J_mul, J_lt, J_le, J_eq, xbr_true, xbr_false, xbr_pos, xbr_neg, Int.toNat_natCast, all_eq, ex_eq, s_start hr ho, s_bookAt hr ho]
      rw [if_pos (by omega)]
    · simp (disch := omega) only [J_add, J_sub, J_mul, J_lt, J_le, J_eq, xbr_true, xbr_false, xbr_pos, xbr_neg, Int.toNat_natCast, all_eq, ex_eq]
      rw [if_neg (by omega)]
theorem s_edge (hr : isRow r) (ho : RowOk C r) {s : Int} (h1 : 0 ≤ s) (h2 : s < 8) : PX6_edge (ad z r) (J s) (J 1) (lay z g C) K = K (J (bkAt C r (cnt 24 (fun b => decide (C (r + 2) b ≠ -1 ∧ C (r + 2) b < s + 1)) - 1))) ∧ PX6_edge (ad z r) (J s) (J (-1)) (lay z g C) K = K (J (bkAt C r (cnt 24 (fun b => decide (C (r + 2) b ≠ -1 ∧ C (r + 2) b < s))))) := by
  have l2 := cnt_le 24 (fun b => decide (C (r + 2) b ≠ -1 ∧ C (r + 2) b < s))
  have l3 := cnt_le 24 (fun b => decide (C (r + 2) b ≠ -1 ∧ C (r + 2) b < s + 1))
  unfold PX6_edge
  constructor
  · simp (disch := omega) only [J_add, J_sub, J_mul, J_lt, J_le, J_eq, xbr_true, xbr_false, xbr_pos, xbr_neg, Int.toNat_natCast, all_eq, ex_eq, tS_lay (row_T hr), s_start hr ho, s_bookAt hr ho]
  · simp (disch := omega) only [J_add, J_sub, J_mul, J_lt, J_le, J_eq, xbr_true, xbr_false, xbr_pos, xbr_neg, Int.toNat_natCast, all_eq, ex_eq, tS_lay (row_T hr), s_start hr ho, s_bookAt hr ho]
theorem s_shelfAtSpot (hr : isRow r) (ho : RowOk C r) {i : Int} (h1 : 0 ≤ i) (h2 : i ≤ 24) : PX6_shelfAtSpot (ad z r) (J i) (lay z g C) K = K (J (if C r 2 = 0 then 0 else shOf C r (bkAt C r (if C r 2 - 1 < i then C r 2 - 1 else i)))) := by
  have o1 := ho.1
  have h5 := fun j => bkAt_r ho j
  unfold PX6_shelfAtSpot
  by_cases c : C r 2 = 0
  · simp (disch := omega) only [J_add, J_sub, J_mul, J_lt, J_le, J_eq, xbr_true, xbr_false, xbr_pos, xbr_neg, Int.toNat_natCast, all_eq, ex_eq, tS_lay (row_T hr), gI_lay (row_len hr)]
    rw [if_pos c]
  · simp (disch := omega) only [J_add, J_sub, J_mul, J_lt, J_le, J_eq, xbr_true, xbr_false, xbr_pos, xbr_neg, Int.toNat_natCast, all_eq, ex_eq, tS_lay (row_T hr), gI_lay (row_len hr)]
    rw [if_neg c]
    by_cases c2 : C r 2 - 1 < i
    · rw [if_pos c2, if_pos c2]
      have := h5 (C r 2 - 1)
      simp (disch := omega) only [J_add, J_sub, J_mul, J_lt, J_le, J_eq, xbr_true, xbr_false, xbr_pos, xbr_neg, Int.toNat_natCast, all_eq, ex_eq, s_bookAt hr ho, s_shelfOf hr]
    · rw [if_neg c2, if_neg c2]
      have := h5 i
      simp (disch := omega) only [J_add, J_sub, J_mul, J_lt, J_le, J_eq, xbr_true, xbr_false, xbr_pos, xbr_neg, Int.toNat_natCast, all_eq, ex_eq, s_bookAt hr ho, s_shelfOf hr]
theorem s_carriedTo {r' : Nat} (hr : isRow r) (ho : RowOk C r) (hr' : isRow r') (ho' : RowOk C r') : PX6_carriedTo (ad z r) (ad z r') (lay z g C) K = K (J (cnt 24 fun b => C (r + 2) b != C (r' + 2) b)) := by
  unfold PX6_carriedTo
  simp (disch := omega) only [J_add, J_sub, J_mul, J_lt, J_le, J_eq, xbr_true, xbr_false, xbr_pos, xbr_neg, Int.toNat_natCast, all_eq, ex_eq, tS_lay (row_T hr)]
  refine lp_for (fun i => (J (cnt i fun b => C (r + 2) b != C (r' + 2) b), J i)) 0 24 _ (by omega) ?_ ?_
  · intro i _ hi kc
    have h3 := ho.2.2 i hi
    have h3' := ho'.2.2 i hi
    have h4 := cnt_le i fun b => C (r + 2) b != C (r' + 2) b
    have e1 : shOf C r i = C (r + 2) i := by unfold shOf; rw [if_pos (by omega)]; simp
    have e2 : shOf C r' i = C (r' + 2) i := by unfold shOf; rw [if_pos (by omega)]; simp
    unfold BX6_carriedTo_4 CX6_carriedTo_4
    simp (disch := omega) only [J_add, J_sub, J_mul, J_lt, J_le, J_eq, xbr_true, xbr_false, xbr_pos, xbr_neg, Int.toNat_natCast, all_eq, ex_eq, s_shelfOf hr, s_shelfOf hr', e1, e2]
    by_cases c : C (r + 2) i = C (r' + 2) i
    · simp (disch := omega) only [J_add, J_sub, J_mul, J_lt, J_le, J_eq, xbr_true, xbr_false, xbr_pos, xbr_neg, Int.toNat_natCast, all_eq, ex_eq]
      simp [cnt, c]
    · simp (disch := omega) only [J_add, J_sub, J_mul, J_lt, J_le, J_eq, xbr_true, xbr_false, xbr_pos, xbr_neg, Int.toNat_natCast, all_eq, ex_eq]
      simp [cnt, c]
  · intro kc
    unfold BX6_carriedTo_4 CX6_carriedTo_4
    simp (disch := omega) only [J_add, J_sub, J_mul, J_lt, J_le, J_eq, xbr_true, xbr_false, xbr_pos, xbr_neg, Int.toNat_natCast, all_eq, ex_eq]
end ROWS
