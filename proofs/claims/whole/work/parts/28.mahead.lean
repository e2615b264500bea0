/-! BOOKS of the reference, read -/
def wholeD (d : Nat → Int) : Nat → Int
  | 0 => 0
  | n + 1 => 10 * wholeD d n + d n
def filD (d : Nat → Int) (n : Nat) : Int := wholeD d n * (if n = 0 then 10000 else if n = 1 then 1000 else if n = 2 then 100 else if n = 3 then 10 else 1) * 5 + n
/-- part j of book b -/
def ptC (C : Nat → Nat → Int) (b j : Nat) : Int := C 105 (16 * b + j)
def bfD (d d' : Nat → Int) (n m : Nat) : Int :=
  if fst1 (min n m) (fun i => d i != d' i) < min n m then d (fst1 (min n m) (fun i => d i != d' i)) - d' (fst1 (min n m) (fun i => d i != d' i)) else (n : Int) - m
/-- the reference's book b is well made, and the class's is the same -/
def BkRel (C : Nat → Nat → Int) (b : Nat) : Prop :=
  (0 ≤ ptC C b 0 ∧ ptC C b 0 ≤ 25) ∧ (-1 ≤ ptC C b 1 ∧ ptC C b 1 ≤ 25) ∧ (∀ j, 2 ≤ j → j < 10 → 0 ≤ ptC C b j ∧ ptC C b j ≤ 9) ∧ (-1 ≤ ptC C b 10 ∧ ptC C b 10 ≤ 25) ∧ (∀ j, 11 ≤ j → j < 15 → 0 ≤ ptC C b j ∧ ptC C b j ≤ 9) ∧ (-1 ≤ ptC C b 15 ∧ ptC C b 15 ≤ 2999) ∧
  (1 ≤ C 106 b ∧ C 106 b ≤ 4) ∧ (0 ≤ C 107 b ∧ C 107 b ≤ 4) ∧ (0 ≤ C 108 b ∧ C 108 b ≤ 4) ∧ (1 ≤ C 109 b ∧ C 109 b ≤ 9) ∧
  C (8 + 3 * b) 1 = ptC C b 0 + 1 ∧ C (8 + 3 * b) 2 = ptC C b 1 + 1 ∧ C (8 + 3 * b) 3 = wholeD (fun j => ptC C b (2 + j)) (C 106 b).toNat ∧ C (8 + 3 * b) 4 = filD (fun j => ptC C b (2 + j)) (C 106 b).toNat ∧
  C (8 + 3 * b) 5 = wholeD (fun j => ptC C b (6 + j)) (C 107 b).toNat ∧ C (8 + 3 * b) 6 = filD (fun j => ptC C b (6 + j)) (C 107 b).toNat ∧ C (8 + 3 * b) 7 = ptC C b 10 + 1 ∧ C (8 + 3 * b) 8 = wholeD (fun j => ptC C b (11 + j)) (C 108 b).toNat ∧ C (8 + 3 * b) 9 = filD (fun j => ptC C b (11 + j)) (C 108 b).toNat ∧
  C (8 + 3 * b) 10 = ptC C b 15 ∧ C (8 + 3 * b) 11 = C 109 b
theorem n4 {n : Nat} (h : n ≤ 4) : n = 0 ∨ n = 1 ∨ n = 2 ∨ n = 3 ∨ n = 4 := by omega
theorem fs0 (f : Nat → Bool) : fst1 0 f = 0 := rfl
theorem fs1 (f : Nat → Bool) : fst1 1 f = if f 0 then 0 else 1 := rfl
theorem fs2 (f : Nat → Bool) : fst1 2 f = if f 0 then 0 else if f 1 then 1 else 2 := by
  show (if f 0 then 0 else (if f 1 then 0 else 1) + 1) = _
  cases f 0 <;> cases f 1 <;> rfl
theorem fs3 (f : Nat → Bool) : fst1 3 f = if f 0 then 0 else if f 1 then 1 else if f 2 then 2 else 3 := by
  show (if f 0 then 0 else (if f 1 then 0 else (if f 2 then 0 else 1) + 1) + 1) = _
  cases f 0 <;> cases f 1 <;> cases f 2 <;> rfl
theorem fs4 (f : Nat → Bool) : fst1 4 f = if f 0 then 0 else if f 1 then 1 else if f 2 then 2 else if f 3 then 3 else 4 := by
  show (if f 0 then 0 else (if f 1 then 0 else (if f 2 then 0 else (if f 3 then 0 else 1) + 1) + 1) + 1) = _
  cases f 0 <;> cases f 1 <;> cases f 2 <;> cases f 3 <;> rfl
set_option maxHeartbeats 4000000 in
theorem bfD_sgn {d d' : Nat → Int} {n m : Nat} (hn : n ≤ 4) (hm : m ≤ 4) (hd : ∀ j, j < 4 → 0 ≤ d j ∧ d j ≤ 9) (hd' : ∀ j, j < 4 → 0 ≤ d' j ∧ d' j ≤ 9) : (bfD d d' n m < 0 ↔ filD d n < filD d' m) ∧ (bfD d d' n m = 0 ↔ filD d n = filD d' m) := by
  have a0 := hd 0 (by omega)
  have a1 := hd 1 (by omega)
  have a2 := hd 2 (by omega)
  have a3 := hd 3 (by omega)
  have b0 := hd' 0 (by omega)
  have b1 := hd' 1 (by omega)
  have b2 := hd' 2 (by omega)
  have b3 := hd' 3 (by omega)
  rcases n4 hn with rfl | rfl | rfl | rfl | rfl <;> rcases n4 hm with rfl | rfl | rfl | rfl | rfl <;>
    (by_cases c0 : d 0 = d' 0 <;> by_cases c1 : d 1 = d' 1 <;> by_cases c2 : d 2 = d' 2 <;> by_cases c3 : d 3 = d' 3 <;> simp [bfD, filD, wholeD, Nat.min_def, fs0, fs1, fs2, fs3, fs4, c0, c1, c2, c3] <;> omega)
section MA
variable {z : Nat} {g : Mem} {C : Nat → Nat → Int} {K : Int32 → Prop}
theorem m_in {a b c : Int} (h1 : -9223372036854775808 ≤ a ∧ a < 9223372036854775808) (h2 : -9223372036854775808 ≤ b ∧ b < 9223372036854775808) (h3 : -9223372036854775808 ≤ c ∧ c < 9223372036854775808) {M : Mem} : PX11_in (LJ a) (LJ b) (LJ c) M K = K (J (if b ≤ a ∧ a ≤ c then 1 else 0)) := by
  unfold PX11_in
  rw [LJ_cmp_lt h1.1 h1.2 h2.1 h2.2, LJ_cmp_gt h1.1 h1.2 h3.1 h3.2]
  by_cases c1 : a < b
  · simp (disch := omega) only [J_add, J_sub, J_mul, J_lt, J_le, J_eq, xbr_true, xbr_false, xbr_pos, xbr_neg, Int.toNat_natCast, all_eq, ex_eq, isB0, true_and]
    rw [if_neg (by omega)]
  · by_cases c2 : c < a
    · simp (disch := omega) only [J_add, J_sub, J_mul, J_lt, J_le, J_eq, xbr_true, xbr_false, xbr_pos, xbr_neg, Int.toNat_natCast, all_eq, ex_eq, isB0, true_and]
      rw [if_neg (by omega)]
    · simp (disch := omega) only [J_add, J_sub, J_mul, J_lt, J_le, J_eq, xbr_true, xbr_false, xbr_pos, xbr_neg, Int.toNat_natCast, all_eq, ex_eq, isB1, true_and]
      rw [if_pos (by omega)]
theorem isBz {c : Prop} [Decidable c] : isB (J (if c then 1 else 0)) = True := by
  split
  · exact isB1
  · exact isB0
theorem m_isBook {b : Int} (hn : 0 ≤ C 104 0 ∧ C 104 0 ≤ 24) (h1 : -2147483648 ≤ b) (h2 : b < 2147483648) : PX11_isBook (ad z 104) (J b) (lay z g C) K = K (J (if 0 ≤ b ∧ b < C 104 0 then 1 else 0)) := by
  unfold PX11_isBook
  simp (disch := omega) only [J_add, J_sub, J_mul, J_lt, J_le, J_eq, xbr_true, xbr_false, xbr_pos, xbr_neg, Int.toNat_natCast, all_eq, ex_eq, tS_lay (o := 104) (t := 12) rfl, gI_lay (t := 12) (o := 104) (k := 0) rfl, J_long, m_in, isBz, true_and]
  by_cases c : 0 ≤ b ∧ b < C 104 0
  · rw [if_pos c, if_pos (by omega)]
  · rw [if_neg c, if_neg (by omega)]
theorem m_isShelf {M : Mem} {s : Int} (h1 : -2147483648 ≤ s) (h2 : s < 2147483648) : PX11_isShelf (J s) M K = K (J (if 0 ≤ s ∧ s < 8 then 1 else 0)) := by
  unfold PX11_isShelf
  simp (disch := omega) only [J_add, J_sub, J_mul, J_lt, J_le, J_eq, xbr_true, xbr_false, xbr_pos, xbr_neg, Int.toNat_natCast, all_eq, ex_eq, J_long, m_in, isBz, true_and]
  by_cases c : 0 ≤ s ∧ s < 8
  · rw [if_pos c, if_pos (by omega)]
  · rw [if_neg c, if_neg (by omega)]
theorem m_isReading {M : Mem} {s : Int} (h1 : -2147483648 ≤ s) (h2 : s < 2147483648) : PX11_isReading (J s) M K = K (J (if 0 ≤ s ∧ s < 5 then 1 else 0)) := by
  unfold PX11_isReading
  simp (disch := omega) only [J_add, J_sub, J_mul, J_lt, J_le, J_eq, xbr_true, xbr_false, xbr_pos, xbr_neg, Int.toNat_natCast, all_eq, ex_eq, J_long, m_in, isBz, true_and]
  by_cases c : 0 ≤ s ∧ s < 5
  · rw [if_pos c, if_pos (by omega)]
  · rw [if_neg c, if_neg (by omega)]
theorem wholeD_r {d : Nat → Int} {n : Nat} (hn : n ≤ 4) (hd : ∀ j, j < 4 → 0 ≤ d j ∧ d j ≤ 9) : 0 ≤ wholeD d n ∧ wholeD d n ≤ 9999 := by
  have a0 := hd 0 (by omega)
  have a1 := hd 1 (by omega)
  have a2 := hd 2 (by omega)
  have a3 := hd 3 (by omega)
  rcases n4 hn with rfl | rfl | rfl | rfl | rfl <;> simp only [wholeD] <;> omega
theorem m_whole {f n : Nat} (hf : f + n ≤ 384) : PX11_whole (ad z 105) (J f) (J n) (lay z g C) K = K (J (wholeD (fun j => C 105 (f + j)) n)) := by
  unfold PX11_whole
  refine lp_for (fun i => (J (wholeD (fun j => C 105 (f + j)) i), J i)) 0 n _ (by omega) ?_ ?_
  · intro i _ hi kc
    unfold BX11_whole_5 CX11_whole_5
    simp (disch := omega) only [J_add, J_sub, J_mul, J_lt, J_le, J_eq, xbr_true, xbr_false, xbr_pos, xbr_neg, Int.toNat_natCast, all_eq, ex_eq, aI_lay (o := 105) (N := 384) rfl]
    rw [show ((f : Int) + (i : Int)).toNat = f + i by omega]
    simp [wholeD]
  · intro kc
    unfold BX11_whole_5 CX11_whole_5
    simp (disch := omega) only [J_add, J_sub, J_mul, J_lt, J_le, J_eq, xbr_true, xbr_false, xbr_pos, xbr_neg, Int.toNat_natCast, all_eq, ex_eq]
theorem m_byFigures {f f' n m : Nat} (hf : f + 4 ≤ 384) (hf' : f' + 4 ≤ 384) (hn : n ≤ 4) (hm : m ≤ 4) (hd : ∀ j, j < 4 → 0 ≤ C 105 (f + j) ∧ C 105 (f + j) ≤ 9) (hd' : ∀ j, j < 4 → 0 ≤ C 105 (f' + j) ∧ C 105 (f' + j) ≤ 9) :
    PX11_byFigures (ad z 104) (J f) (J n) (J f') (J m) (lay z g C) K = K (J (bfD (fun j => C 105 (f + j)) (fun j => C 105 (f' + j)) n m)) := by
  unfold PX11_byFigures
  simp (disch := omega) only [J_add, J_sub, J_mul, J_lt, J_le, J_eq, xbr_true, xbr_false, xbr_pos, xbr_neg, Int.toNat_natCast, all_eq, ex_eq, tS_lay (o := 104) (t := 12) rfl]
  have h5 := fst1_le (min n m) (fun i => C 105 (f + i) != C 105 (f' + i))
  refine lp_for (fun i => J i) 0 (fst1 (min n m) (fun i => C 105 (f + i) != C 105 (f' + i))) _ (by omega) ?_ ?_
  · intro i _ hi kc
    have h6 := fst1_lt hi
    have h7 : C 105 (f + i) = C 105 (f' + i) := by simpa using h6
    have r1 := hd i (by omega)
    have r2 := hd' i (by omega)
    unfold BX11_byFigures_3 CX11_byFigures_3
    simp (disch := omega) only [J_add, J_sub, J_mul, J_lt, J_le, J_eq, xbr_true, xbr_false, xbr_pos, xbr_neg, Int.toNat_natCast, all_eq, ex_eq, gR_lay (t := 12) (o := 104) (k := 1) (r := 105) rfl, aI_lay (o := 105) (N := 384) rfl]
    rw [show ((f : Int) + (i : Int)).toNat = f + i by omega, show ((f' : Int) + (i : Int)).toNat = f' + i by omega, h7]
    simp (disch := omega) only [J_add, J_sub, J_mul, J_lt, J_le, J_eq, xbr_true, xbr_false, xbr_pos, xbr_neg, Int.toNat_natCast, all_eq, ex_eq]
    simp
  · intro kc
    unfold BX11_byFigures_3 CX11_byFigures_3 bfD
    by_cases c : fst1 (min n m) (fun i => C 105 (f + i) != C 105 (f' + i)) < min n m
    · have h6 := fst1_at c
      rw [if_pos c]
      generalize fst1 (min n m) (fun i => C 105 (f + i) != C 105 (f' + i)) = i at *
      have h7 : ¬ C 105 (f + i) = C 105 (f' + i) := by simpa using h6
      have r1 := hd i (by omega)
      have r2 := hd' i (by omega)
      simp (disch := omega) only [J_add, J_sub, J_mul, J_lt, J_le, J_eq, xbr_true, xbr_false, xbr_pos, xbr_neg, Int.toNat_natCast, all_eq, ex_eq, gR_lay (t := 12) (o := 104) (k := 1) (r := 105) rfl, aI_lay (o := 105) (N := 384) rfl]
      rw [show ((f : Int) + (i : Int)).toNat = f + i by omega, show ((f' : Int) + (i : Int)).toNat = f' + i by omega]
      simp (disch := omega) only [J_add, J_sub, J_mul, J_lt, J_le, J_eq, xbr_true, xbr_false, xbr_pos, xbr_neg, Int.toNat_natCast, all_eq, ex_eq]
    · rw [if_neg c]
      generalize hq : fst1 (min n m) (fun i => C 105 (f + i) != C 105 (f' + i)) = i at *
      by_cases c2 : n ≤ i
      · simp (disch := omega) only [J_add, J_sub, J_mul, J_lt, J_le, J_eq, xbr_true, xbr_false, xbr_pos, xbr_neg, Int.toNat_natCast, all_eq, ex_eq]
      · simp (disch := omega) only [J_add, J_sub, J_mul, J_lt, J_le, J_eq, xbr_true, xbr_false, xbr_pos, xbr_neg, Int.toNat_natCast, all_eq, ex_eq]
end MA
