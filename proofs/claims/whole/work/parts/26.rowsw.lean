/-! ROWS of the class, written -/
section ROWSW
variable {z : Nat} {g : Mem} {C : Nat → Nat → Int} {o r r' N : Nat}
theorem up_idem (C : Nat → Nat → Int) (o k : Nat) : up C o k (C o k) = C := by
  funext a j
  unfold up
  split
  · rename_i h; rw [h.1, h.2]
  · rfl
theorem s_entry {K : Int32 → Prop} (h : okA 100 o N = true) {i : Int} (h1 : -2147483648 ≤ i) (h2 : i < 2147483648) : PX10_entry (ad z o) (J i) (lay z g C) K = K (J (if 0 ≤ i ∧ i < N then C o i.toNat else -1)) := by
  have hN := (okA_s h).2.2.2
  unfold PX10_entry
  by_cases c1 : i < 0
  · simp (disch := omega) only [J_add, J_sub, J_mul, J_lt, J_le, J_eq, xbr_true, xbr_false, xbr_pos, xbr_neg, Int.toNat_natCast, all_eq, ex_eq]
    rw [if_neg (by omega)]
  · by_cases c2 : i < N
    · simp (disch := omega) only [J_add, J_sub, J_mul, J_lt, J_le, J_eq, xbr_true, xbr_false, xbr_pos, xbr_neg, Int.toNat_natCast, all_eq, ex_eq, aL_lay h, aI_lay h]
      rw [if_pos (by omega)]
    · simp (disch := omega) only [J_add, J_sub, J_mul, J_lt, J_le, J_eq, xbr_true, xbr_false, xbr_pos, xbr_neg, Int.toNat_natCast, all_eq, ex_eq, aL_lay h]
      rw [if_neg (by omega)]
theorem s_write {K : Mem → Prop} (h : okA 100 o N = true) {i v : Int} (h1 : -2147483648 ≤ i) (h2 : i < 2147483648) : PX10_write (ad z o) (J i) (J v) (lay z g C) K = K (lay z g (if 0 ≤ i ∧ i < N then up C o i.toNat v else C)) := by
  have hN := (okA_s h).2.2.2
  unfold PX10_write
  by_cases c1 : i < 0
  · simp (disch := omega) only [J_add, J_sub, J_mul, J_lt, J_le, J_eq, xbr_true, xbr_false, xbr_pos, xbr_neg, Int.toNat_natCast, all_eq, ex_eq]
    rw [if_neg (by omega)]
  · by_cases c2 : i < N
    · simp (disch := omega) only [J_add, J_sub, J_mul, J_lt, J_le, J_eq, xbr_true, xbr_false, xbr_pos, xbr_neg, Int.toNat_natCast, all_eq, ex_eq, aL_lay h, aS_lay h]
      rw [if_pos (by omega)]
    · simp (disch := omega) only [J_add, J_sub, J_mul, J_lt, J_le, J_eq, xbr_true, xbr_false, xbr_pos, xbr_neg, Int.toNat_natCast, all_eq, ex_eq, aL_lay h]
      rw [if_neg (by omega)]
def clrC (C : Nat → Nat → Int) (r n : Nat) : Nat → Nat → Int := fun a j => if a = r ∧ j = 2 then 0 else if a = r + 2 ∧ j < n then -1 else C a j
theorem s_clear {K : Mem → Prop} (hr : isRow r) : PX6_clear (ad z r) (lay z g C) K = K (lay z g (clrC C r 24)) := by
  unfold PX6_clear
  simp (disch := omega) only [J_add, J_sub, J_mul, J_lt, J_le, J_eq, xbr_true, xbr_false, xbr_pos, xbr_neg, Int.toNat_natCast, all_eq, ex_eq, tS_lay (row_T hr), pF_lay (row_len hr)]
  have e0 : up C r 2 0 = clrC C r 0 := by
    funext a j; simp [up, clrC]
  rw [e0]
  refine lp_for (fun i => (lay z g (clrC C r i), J i)) 0 24 _ (by omega) ?_ ?_
  · intro i _ hi kc
    unfold BX6_clear_7 CX6_clear_7
    simp (disch := omega) only [J_add, J_sub, J_mul, J_lt, J_le, J_eq, xbr_true, xbr_false, xbr_pos, xbr_neg, Int.toNat_natCast, all_eq, ex_eq, gR_lay (row_sh hr), s_write (row_shA hr)]
    rw [if_pos (by omega)]
    have e1 : up (clrC C r i) (r + 2) i (-1) = clrC C r (i + 1) := by
      funext a j
      simp only [up, clrC]
      repeat' split
      all_goals first | rfl | omega
    rw [e1]
    simp
  · intro kc
    unfold BX6_clear_7 CX6_clear_7
    simp (disch := omega) only [J_add, J_sub, J_mul, J_lt, J_le, J_eq, xbr_true, xbr_false, xbr_pos, xbr_neg, Int.toNat_natCast, all_eq, ex_eq]
def cpC (C : Nat → Nat → Int) (r r' n : Nat) : Nat → Nat → Int := fun a j => if a = r ∧ j = 2 then C r' 2 else if a = r + 1 ∧ j < n then C (r' + 1) j else if a = r + 2 ∧ j < n then C (r' + 2) j else C a j
theorem row_apart (hr : isRow r) (hr' : isRow r') (h : r ≠ r') : r + 2 < r' ∨ r' + 2 < r := by
  unfold isRow at hr hr'
  omega
theorem s_copyFrom {K : Mem → Prop} (hr : isRow r) (hr' : isRow r') (hne : r ≠ r') : PX6_copyFrom (ad z r) (ad z r') (lay z g C) K = K (lay z g (cpC C r r' 24)) := by
  have hap := row_apart hr hr' hne
  unfold PX6_copyFrom
  simp (disch := omega) only [J_add, J_sub, J_mul, J_lt, J_le, J_eq, xbr_true, xbr_false, xbr_pos, xbr_neg, Int.toNat_natCast, all_eq, ex_eq, tS_lay (row_T hr), gI_lay (row_len hr'), pF_lay (row_len hr)]
  have e0 : up C r 2 (C r' 2) = cpC C r r' 0 := by
    funext a j; simp [up, cpC]
  rw [e0]
  refine lp_for (fun i => (lay z g (cpC C r r' i), J i)) 0 24 _ (by omega) ?_ ?_
  · intro i _ hi kc
    unfold BX6_copyFrom_10 CX6_copyFrom_10
    simp (disch := omega) only [J_add, J_sub, J_mul, J_lt, J_le, J_eq, xbr_true, xbr_false, xbr_pos, xbr_neg, Int.toNat_natCast, all_eq, ex_eq, gR_lay (row_sh hr), gR_lay (row_sh hr'), gR_lay (row_line hr), gR_lay (row_line hr'), s_entry (row_shA hr'), s_entry (row_lineA hr'), s_write (row_shA hr), s_write (row_lineA hr)]
    have c0 : (0 ≤ (i : Int) ∧ (i : Int) < ((24 : Nat) : Int)) := by omega
    simp only [if_pos c0]
    skip
    have e1 : up (up (cpC C r r' i) (r + 1) i (cpC C r r' i (r' + 1) i)) (r + 2) i (up (cpC C r r' i) (r + 1) i (cpC C r r' i (r' + 1) i) (r' + 2) i) = cpC C r r' (i + 1) := by
      have q1 : cpC C r r' i (r' + 1) i = C (r' + 1) i := by
        simp only [cpC]
        repeat' split
        all_goals first | rfl | omega
      have q2 : up (cpC C r r' i) (r + 1) i (C (r' + 1) i) (r' + 2) i = C (r' + 2) i := by
        simp only [up, cpC]
        repeat' split
        all_goals first | rfl | omega
      rw [q1, q2]
      funext a j
      simp only [up, cpC]
      by_cases a1 : a = r
      · subst a1
        repeat' split
        all_goals first | rfl | omega
      · by_cases a2 : a = r + 1
        · subst a2
          by_cases j1 : j = i
          · subst j1
            repeat' split
            all_goals first | rfl | omega
          · repeat' split
            all_goals first | rfl | omega
        · by_cases j1 : j = i
          · subst j1
            repeat' split
            all_goals first | rfl | omega
          · repeat' split
            all_goals first | rfl | omega
    rw [e1]
    simp
  · intro kc
    unfold BX6_copyFrom_10 CX6_copyFrom_10
    simp (disch := omega) only [J_add, J_sub, J_mul, J_lt, J_le, J_eq, xbr_true, xbr_false, xbr_pos, xbr_neg, Int.toNat_natCast, all_eq, ex_eq]
/-- the line is moved up by one from i on, down to place k -/
def shiftC (C : Nat → Nat → Int) (r k : Nat) : Nat → Nat → Int := fun a j => if a = r + 1 ∧ k < j ∧ (j : Int) ≤ C r 2 then C (r + 1) (j - 1) else C a j
def insC (C : Nat → Nat → Int) (r i b : Nat) (s : Int) : Nat → Nat → Int := fun a j => if a = r ∧ j = 2 then C r 2 + 1 else if a = r + 1 ∧ j = i then (b : Int) else if a = r + 1 ∧ i < j ∧ (j : Int) ≤ C r 2 then C (r + 1) (j - 1) else if a = r + 2 ∧ j = b then s else C a j
theorem s_insert {K : Mem → Prop} (hr : isRow r) {i b : Nat} {s : Int} (hi : (i : Int) ≤ C r 2) (hn : C r 2 < 24) (hb : b < 24) : PX6_insert (ad z r) (J i) (J b) (J s) (lay z g C) K = K (lay z g (insC C r i b s)) := by
  unfold PX6_insert
  simp (disch := omega) only [J_add, J_sub, J_mul, J_lt, J_le, J_eq, xbr_true, xbr_false, xbr_pos, xbr_neg, Int.toNat_natCast, all_eq, ex_eq, tS_lay (row_T hr), gI_lay (row_len hr)]
  have e0 : shiftC C r (C r 2).toNat = C := by
    funext a j
    unfold shiftC
    split
    · omega
    · rfl
  have hl : C r 2 = ((C r 2).toNat : Int) := by omega
  generalize hm : (C r 2).toNat = m at *
  have lenq : ∀ q, shiftC C r q r 2 = C r 2 := fun q => by unfold shiftC; rw [if_neg (by omega)]
  rw [hl]
  have e2 : (lay z g C, J (m : Int)) = (lay z g (shiftC C r (m - 0)), J ((m - 0 : Nat) : Int)) := by simp [e0]
  rw [e2]
  refine lp_for (fun t => (lay z g (shiftC C r (m - t)), J ((m - t : Nat) : Int))) 0 (m - i) _ (by omega) ?_ ?_
  · intro t _ ht kc
    unfold BX6_insert_28 CX6_insert_28
    simp (disch := omega) only [J_add, J_sub, J_mul, J_lt, J_le, J_eq, xbr_true, xbr_false, xbr_pos, xbr_neg, Int.toNat_natCast, all_eq, ex_eq, gI_lay (row_len hr), gR_lay (row_line hr), s_entry (row_lineA hr), s_write (row_lineA hr), lenq]
    have c0 : (0 ≤ ((m - t : Nat) : Int) ∧ ((m - t : Nat) : Int) < ((24 : Nat) : Int)) := by omega
    have c1 : (0 ≤ ((m - t : Nat) : Int) - 1 ∧ ((m - t : Nat) : Int) - 1 < ((24 : Nat) : Int)) := by omega
    simp only [if_pos c0, if_pos c1]
    have q1 : (((m - t : Nat) : Int) - 1).toNat = m - (t + 1) := by omega
    rw [q1]
    have e1 : up (shiftC C r (m - t)) (r + 1) (m - t) (shiftC C r (m - t) (r + 1) (m - (t + 1))) = shiftC C r (m - (t + 1)) := by
      have q2 : shiftC C r (m - t) (r + 1) (m - (t + 1)) = C (r + 1) (m - t - 1) := by
        unfold shiftC
        rw [if_neg (by omega)]
        congr 1
      rw [q2]
      funext a j
      simp only [up, shiftC]
      by_cases j1 : j = m - t
      · subst j1
        repeat' split
        all_goals first | rfl | omega
      · repeat' split
        all_goals first | rfl | omega
    rw [e1]
    have q3 : ((m - t : Nat) : Int) + -1 = ((m - (t + 1) : Nat) : Int) := by omega
    rw [q3]
  · intro kc
    have q0 : m - (m - i) = i := by omega
    unfold BX6_insert_28 CX6_insert_28
    simp only [q0]
    simp (disch := omega) only [J_add, J_sub, J_mul, J_lt, J_le, J_eq, xbr_true, xbr_false, xbr_pos, xbr_neg, Int.toNat_natCast, all_eq, ex_eq, gI_lay (row_len hr), gR_lay (row_line hr), gR_lay (row_sh hr), s_write (row_lineA hr), s_write (row_shA hr), pF_lay (row_len hr)]
    have c0 : (0 ≤ (i : Int) ∧ (i : Int) < ((24 : Nat) : Int)) := by omega
    have c1 : (0 ≤ (b : Int) ∧ (b : Int) < ((24 : Nat) : Int)) := by omega
    simp only [if_pos c0, if_pos c1, Int.toNat_natCast]
    have q4 : up (up (shiftC C r i) (r + 1) i (b : Int)) (r + 2) b s r 2 = C r 2 := by
      simp only [up, shiftC]
      repeat' split
      all_goals first | rfl | omega
    rw [q4]
    congr 2
    funext a j
    simp only [up, shiftC, insC]
    by_cases a1 : a = r
    · subst a1
      repeat' split
      all_goals first | rfl | omega
    · by_cases a2 : a = r + 1
      · subst a2
        repeat' split
        all_goals first | rfl | omega
      · repeat' split
        all_goals first | rfl | omega
def pullC (C : Nat → Nat → Int) (r p k : Nat) : Nat → Nat → Int := fun a j => if a = r ∧ j = 2 then C r 2 - 1 else if a = r + 1 ∧ p ≤ j ∧ j < k then C (r + 1) (j + 1) else C a j
def rmC (C : Nat → Nat → Int) (r p b : Nat) : Nat → Nat → Int := fun a j => if a = r ∧ j = 2 then C r 2 - 1 else if a = r + 1 ∧ p ≤ j ∧ (j : Int) < C r 2 - 1 then C (r + 1) (j + 1) else if a = r + 2 ∧ j = b then -1 else C a j
theorem s_remove {K : Mem → Prop} (hr : isRow r) (ho : RowOk C r) {p b : Nat} (hp : (p : Int) < C r 2) (hb : b < 24) (hf : fst1 (C r 2).toNat (fun i => C (r + 1) i == (b : Int)) = p) : PX6_remove (ad z r) (J b) (lay z g C) K = K (lay z g (rmC C r p b)) := by
  have o1 := ho.1
  unfold PX6_remove
  simp (disch := omega) only [J_add, J_sub, J_mul, J_lt, J_le, J_eq, xbr_true, xbr_false, xbr_pos, xbr_neg, Int.toNat_natCast, all_eq, ex_eq, tS_lay (row_T hr), s_indexOf hr ho, hf]
  rw [if_pos (by omega)]
  simp (disch := omega) only [J_add, J_sub, J_mul, J_lt, J_le, J_eq, xbr_true, xbr_false, xbr_pos, xbr_neg, Int.toNat_natCast, all_eq, ex_eq, gI_lay (row_len hr), pF_lay (row_len hr)]
  have e0 : up C r 2 (C r 2 - 1) = pullC C r p p := by
    funext a j
    simp only [up, pullC]
    repeat' split
    all_goals first | rfl | omega
  have lenq : ∀ q, pullC C r p q r 2 = C r 2 - 1 := fun q => by unfold pullC; rw [if_pos (by omega)]
  rw [e0]
  have hl : C r 2 = ((C r 2).toNat : Int) := by omega
  generalize hm : (C r 2).toNat = m at *
  refine lp_for (fun t => (lay z g (pullC C r p t), J (t : Int))) p (m - 1) _ (by omega) ?_ ?_
  · intro t ht0 ht kc
    unfold BX6_remove_24 CX6_remove_24
    simp (disch := omega) only [J_add, J_sub, J_mul, J_lt, J_le, J_eq, xbr_true, xbr_false, xbr_pos, xbr_neg, Int.toNat_natCast, all_eq, ex_eq, gI_lay (row_len hr), gR_lay (row_line hr), s_entry (row_lineA hr), s_write (row_lineA hr), lenq]
    have c0 : (0 ≤ (t : Int) ∧ (t : Int) < ((24 : Nat) : Int)) := by omega
    have c1 : (0 ≤ (t : Int) + 1 ∧ (t : Int) + 1 < ((24 : Nat) : Int)) := by omega
    simp only [if_pos c0, if_pos c1]
    have q1 : ((t : Int) + 1).toNat = t + 1 := by omega
    rw [q1]
    have e1 : up (pullC C r p t) (r + 1) t (pullC C r p t (r + 1) (t + 1)) = pullC C r p (t + 1) := by
      have q2 : pullC C r p t (r + 1) (t + 1) = C (r + 1) (t + 1) := by
        unfold pullC
        rw [if_neg (by omega), if_neg (by omega)]
      rw [q2]
      funext a j
      simp only [up, pullC]
      by_cases j1 : j = t
      · subst j1
        repeat' split
        all_goals first | rfl | omega
      · repeat' split
        all_goals first | rfl | omega
    rw [e1]
    simp
  · intro kc
    unfold BX6_remove_24 CX6_remove_24
    simp (disch := omega) only [J_add, J_sub, J_mul, J_lt, J_le, J_eq, xbr_true, xbr_false, xbr_pos, xbr_neg, Int.toNat_natCast, all_eq, ex_eq, gI_lay (row_len hr), gR_lay (row_sh hr), s_write (row_shA hr), lenq]
    have c1 : (0 ≤ (b : Int) ∧ (b : Int) < ((24 : Nat) : Int)) := by omega
    simp only [if_pos c1, Int.toNat_natCast]
    congr 2
    funext a j
    simp only [up, pullC, rmC]
    by_cases a1 : a = r
    · subst a1
      repeat' split
      all_goals first | rfl | omega
    · by_cases a2 : a = r + 1
      · subst a2
        repeat' split
        all_goals first | rfl | omega
      · repeat' split
        all_goals first | rfl | omega
theorem s_pass {K : Mem → Prop} (hr : isRow r) {b : Nat} {s : Int} (hb : b < 24) : PX6_pass (ad z r) (J b) (J s) (lay z g C) K = K (lay z g (up C (r + 2) b s)) := by
  unfold PX6_pass
  simp (disch := omega) only [J_add, J_sub, J_mul, J_lt, J_le, J_eq, xbr_true, xbr_false, xbr_pos, xbr_neg, Int.toNat_natCast, all_eq, ex_eq, tS_lay (row_T hr), gR_lay (row_sh hr), s_write (row_shA hr)]
  have c1 : (0 ≤ (b : Int) ∧ (b : Int) < ((24 : Nat) : Int)) := by omega
  rw [if_pos c1]
end ROWSW
