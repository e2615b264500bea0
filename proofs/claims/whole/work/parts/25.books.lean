/-! BOOKS of the class, read -/
def BookOk (C : Nat → Nat → Int) (o : Nat) : Prop := (0 ≤ C o 1 ∧ C o 1 ≤ 26) ∧ (0 ≤ C o 2 ∧ C o 2 ≤ 26) ∧ (0 ≤ C o 7 ∧ C o 7 ≤ 26) ∧ (0 ≤ C o 3 ∧ C o 3 ≤ 9999) ∧ (0 ≤ C o 4 ∧ C o 4 ≤ 50000) ∧ (0 ≤ C o 5 ∧ C o 5 ≤ 9999) ∧ (0 ≤ C o 6 ∧ C o 6 ≤ 50000) ∧ (0 ≤ C o 8 ∧ C o 8 ≤ 9999) ∧ (0 ≤ C o 9 ∧ C o 9 ≤ 50000) ∧ (-1 ≤ C o 10 ∧ C o 10 ≤ 2999) ∧ (0 ≤ C o 11 ∧ C o 11 ≤ 9)
def bkO (b : Int) : Nat := if 0 ≤ b ∧ b < 24 then 8 + 3 * b.toNat else 5
theorem bkO_book (b : Int) : isBook (bkO b) := by
  unfold bkO
  split
  · exact Or.inr ⟨b.toNat, by omega, rfl⟩
  · exact Or.inl rfl
theorem bkO_nat {b : Nat} (h : b < 24) : bkO (b : Int) = 8 + 3 * b := by unfold bkO; rw [if_pos (by omega)]; simp
/-- a book's part of its key by a reading -/
def keyC (C : Nat → Nat → Int) (o p : Nat) (k : Int) : Int :=
  if p = 0 then C o 1 * 32 + (if k = 3 then 0 else C o 2) else if p = 1 then (if k = 4 then C o 4 else C o 3) else if p = 2 then (if k = 1 then C o 5 else C o 6) else if p = 3 then C o 7 * 65536 + (if k = 2 then C o 8 else C o 9) else C o 10
def cmpC (C : Nat → Nat → Int) (o o' : Nat) (k : Int) : Int :=
  if fst1 5 (fun p => keyC C o p k != keyC C o' p k) < 5 then (if keyC C o (fst1 5 (fun p => keyC C o p k != keyC C o' p k)) k < keyC C o' (fst1 5 (fun p => keyC C o p k != keyC C o' p k)) k then -1 else 1) else 0
def aheadC (C : Nat → Nat → Int) (a b k : Int) : Bool :=
  if cmpC C (bkO a) (bkO b) k = 0 then decide (a < b) else decide (cmpC C (bkO a) (bkO b) k < 0)
section BOOKS
variable {z : Nat} {g : Mem} {C : Nat → Nat → Int} {o o' : Nat} {K : Int32 → Prop}
theorem keyC_r (ho : BookOk C o) (p : Nat) (k : Int) : -1 ≤ keyC C o p k ∧ keyC C o p k ≤ 2000000 := by
  unfold BookOk at ho
  unfold keyC
  split
  · split <;> omega
  · split
    · split <;> omega
    · split
      · split <;> omega
      · split
        · split <;> omega
        · omega
theorem cmpC_r (k : Int) : -1 ≤ cmpC C o o' k ∧ cmpC C o o' k ≤ 1 := by
  unfold cmpC
  split
  · split <;> omega
  · omega
theorem s_key (hb : isBook o) (ho : BookOk C o) {p : Nat} (hp : p < 5) {k : Int} (h1 : 0 ≤ k) (h2 : k < 5) : PX0_key (ad z o) (J p) (J k) (lay z g C) K = K (J (keyC C o p k)) := by
  have hT := book_T hb
  have f1 := book_f hb (k := 1) (by omega) (by omega)
  have f2 := book_f hb (k := 2) (by omega) (by omega)
  have f3 := book_f hb (k := 3) (by omega) (by omega)
  have f4 := book_f hb (k := 4) (by omega) (by omega)
  have f5 := book_f hb (k := 5) (by omega) (by omega)
  have f6 := book_f hb (k := 6) (by omega) (by omega)
  have f7 := book_f hb (k := 7) (by omega) (by omega)
  have f8 := book_f hb (k := 8) (by omega) (by omega)
  have f9 := book_f hb (k := 9) (by omega) (by omega)
  have f10 := book_f hb (k := 10) (by omega) (by omega)
  unfold PX0_key keyC
  rcases (show p = 0 ∨ p = 1 ∨ p = 2 ∨ p = 3 ∨ p = 4 by omega) with rfl | rfl | rfl | rfl | rfl
  · by_cases c : k = 3
    · simp (disch := omega) only [J_add, J_sub, J_mul, J_lt, J_le, J_eq, xbr_true, xbr_false, xbr_pos, xbr_neg, Int.toNat_natCast, all_eq, ex_eq, tS_lay hT, gI_lay f1, gI_lay f2]
      simp [c]
    · simp (disch := omega) only [J_add, J_sub, J_mul, J_lt, J_le, J_eq, xbr_true, xbr_false, xbr_pos, xbr_neg, Int.toNat_natCast, all_eq, ex_eq, tS_lay hT, gI_lay f1, gI_lay f2]
      simp [c]
  · by_cases c : k = 4
    · simp (disch := omega) only [J_add, J_sub, J_mul, J_lt, J_le, J_eq, xbr_true, xbr_false, xbr_pos, xbr_neg, Int.toNat_natCast, all_eq, ex_eq, tS_lay hT, gI_lay f3, gI_lay f4]
      simp [c]
    · simp (disch := omega) only [J_add, J_sub, J_mul, J_lt, J_le, J_eq, xbr_true, xbr_false, xbr_pos, xbr_neg, Int.toNat_natCast, all_eq, ex_eq, tS_lay hT, gI_lay f3, gI_lay f4]
      simp [c]
  · by_cases c : k = 1
    · simp (disch := omega) only [J_add, J_sub, J_mul, J_lt, J_le, J_eq, xbr_true, xbr_false, xbr_pos, xbr_neg, Int.toNat_natCast, all_eq, ex_eq, tS_lay hT, gI_lay f5, gI_lay f6]
      simp [c]
    · simp (disch := omega) only [J_add, J_sub, J_mul, J_lt, J_le, J_eq, xbr_true, xbr_false, xbr_pos, xbr_neg, Int.toNat_natCast, all_eq, ex_eq, tS_lay hT, gI_lay f5, gI_lay f6]
      simp [c]
  · by_cases c : k = 2
    · simp (disch := omega) only [J_add, J_sub, J_mul, J_lt, J_le, J_eq, xbr_true, xbr_false, xbr_pos, xbr_neg, Int.toNat_natCast, all_eq, ex_eq, tS_lay hT, gI_lay f7, gI_lay f8, gI_lay f9]
      simp [c]
    · simp (disch := omega) only [J_add, J_sub, J_mul, J_lt, J_le, J_eq, xbr_true, xbr_false, xbr_pos, xbr_neg, Int.toNat_natCast, all_eq, ex_eq, tS_lay hT, gI_lay f7, gI_lay f8, gI_lay f9]
      simp [c]
  · simp (disch := omega) only [J_add, J_sub, J_mul, J_lt, J_le, J_eq, xbr_true, xbr_false, xbr_pos, xbr_neg, Int.toNat_natCast, all_eq, ex_eq, tS_lay hT, gI_lay f10]
    simp
theorem s_compareBy (hb : isBook o) (ho : BookOk C o) (hb' : isBook o') (ho' : BookOk C o') {k : Int} (h1 : 0 ≤ k) (h2 : k < 5) : PX0_compareBy (ad z o) (ad z o') (J k) (lay z g C) K = K (J (cmpC C o o' k)) := by
  unfold PX0_compareBy
  simp (disch := omega) only [J_add, J_sub, J_mul, J_lt, J_le, J_eq, xbr_true, xbr_false, xbr_pos, xbr_neg, Int.toNat_natCast, all_eq, ex_eq, tS_lay (book_T hb)]
  have h5 := fst1_le 5 (fun p => keyC C o p k != keyC C o' p k)
  refine lp_for (fun i => J i) 0 (fst1 5 (fun p => keyC C o p k != keyC C o' p k)) _ (by omega) ?_ ?_
  · intro i _ hi kc
    have h6 := fst1_lt hi
    have h7 : keyC C o i k = keyC C o' i k := by simpa using h6
    have r1 := keyC_r ho i k
    have r2 := keyC_r ho' i k
    unfold BX0_compareBy_2 CX0_compareBy_2
    simp (disch := omega) only [J_add, J_sub, J_mul, J_lt, J_le, J_eq, xbr_true, xbr_false, xbr_pos, xbr_neg, Int.toNat_natCast, all_eq, ex_eq, s_key hb ho, s_key hb' ho']
    simp
  · intro kc
    unfold BX0_compareBy_2 CX0_compareBy_2 cmpC
    by_cases c : fst1 5 (fun p => keyC C o p k != keyC C o' p k) < 5
    · have h6 := fst1_at c
      generalize fst1 5 (fun p => keyC C o p k != keyC C o' p k) = i at *
      have h7 : ¬ keyC C o i k = keyC C o' i k := by simpa using h6
      have r1 := keyC_r ho i k
      have r2 := keyC_r ho' i k
      rw [if_pos c]
      by_cases c2 : keyC C o i k < keyC C o' i k
      · simp (disch := omega) only [J_add, J_sub, J_mul, J_lt, J_le, J_eq, xbr_true, xbr_false, xbr_pos, xbr_neg, Int.toNat_natCast, all_eq, ex_eq, s_key hb ho, s_key hb' ho']
        rw [if_pos c2]
      · simp (disch := omega) only [J_add, J_sub, J_mul, J_lt, J_le, J_eq, xbr_true, xbr_false, xbr_pos, xbr_neg, Int.toNat_natCast, all_eq, ex_eq, s_key hb ho, s_key hb' ho']
        rw [if_neg c2]
    · simp (disch := omega) only [J_add, J_sub, J_mul, J_lt, J_le, J_eq, xbr_true, xbr_false, xbr_pos, xbr_neg, Int.toNat_natCast, all_eq, ex_eq]
      rw [if_neg c]
theorem s_of {K : Nat → Prop} {b : Int} (h1 : -2147483648 ≤ b) (h2 : b < 2147483648) : PX2_of (ad z 3) (J b) (lay z g C) K = K (ad z (bkO b)) := by
  unfold PX2_of bkO
  by_cases c1 : b < 0
  · simp (disch := omega) only [J_add, J_sub, J_mul, J_lt, J_le, J_eq, xbr_true, xbr_false, xbr_pos, xbr_neg, Int.toNat_natCast, all_eq, ex_eq, tS_lay (o := 3) (t := 3) rfl, gR_lay (t := 3) (o := 3) (k := 1) (r := 5) rfl]
    rw [if_neg (by omega)]
  · by_cases c2 : b < 24
    · simp (disch := omega) only [J_add, J_sub, J_mul, J_lt, J_le, J_eq, xbr_true, xbr_false, xbr_pos, xbr_neg, Int.toNat_natCast, all_eq, ex_eq, tS_lay (o := 3) (t := 3) rfl, gR_lay (t := 3) (o := 3) (k := 1) (r := 5) rfl, gR_lay (t := 3) (o := 3) (k := 0) (r := 4) rfl, aLB_lay, aR_lay]
      rw [if_pos (by omega)]
    · simp (disch := omega) only [J_add, J_sub, J_mul, J_lt, J_le, J_eq, xbr_true, xbr_false, xbr_pos, xbr_neg, Int.toNat_natCast, all_eq, ex_eq, tS_lay (o := 3) (t := 3) rfl, gR_lay (t := 3) (o := 3) (k := 1) (r := 5) rfl, gR_lay (t := 3) (o := 3) (k := 0) (r := 4) rfl, aLB_lay]
      rw [if_neg (by omega)]
theorem s_nb : PX2_size (ad z 3) (lay z g C) K = K (J (C 3 2)) := by
  unfold PX2_size
  simp (disch := omega) only [J_add, J_sub, J_mul, J_lt, J_le, J_eq, xbr_true, xbr_false, xbr_pos, xbr_neg, Int.toNat_natCast, all_eq, ex_eq, tS_lay (o := 3) (t := 3) rfl, gI_lay (t := 3) (o := 3) (k := 2) rfl]
theorem s_has {b : Int} (hn : 0 ≤ C 3 2 ∧ C 3 2 ≤ 24) (h1 : -2147483648 ≤ b) (h2 : b < 2147483648) : PX2_has (ad z 3) (J b) (lay z g C) K = K (J (if 0 ≤ b ∧ b < C 3 2 then 1 else 0)) := by
  unfold PX2_has
  by_cases c1 : b < 0
  · simp (disch := omega) only [J_add, J_sub, J_mul, J_lt, J_le, J_eq, xbr_true, xbr_false, xbr_pos, xbr_neg, Int.toNat_natCast, all_eq, ex_eq, tS_lay (o := 3) (t := 3) rfl, gI_lay (t := 3) (o := 3) (k := 2) rfl, isB0, true_and]
    rw [if_neg (by omega)]
  · by_cases c2 : b < C 3 2
    · simp (disch := omega) only [J_add, J_sub, J_mul, J_lt, J_le, J_eq, xbr_true, xbr_false, xbr_pos, xbr_neg, Int.toNat_natCast, all_eq, ex_eq, tS_lay (o := 3) (t := 3) rfl, gI_lay (t := 3) (o := 3) (k := 2) rfl, isB1, true_and]
      rw [if_pos (by omega)]
    · simp (disch := omega) only [J_add, J_sub, J_mul, J_lt, J_le, J_eq, xbr_true, xbr_false, xbr_pos, xbr_neg, Int.toNat_natCast, all_eq, ex_eq, tS_lay (o := 3) (t := 3) rfl, gI_lay (t := 3) (o := 3) (k := 2) rfl, isB0, true_and]
      rw [if_neg (by omega)]
/-- all books' fields are small -/
def BooksOk (C : Nat → Nat → Int) : Prop := ∀ o, isBook o → BookOk C o
theorem s_isAhead (hB : BooksOk C) {a b k : Int} (ha : -2147483648 ≤ a ∧ a < 2147483648) (hb : -2147483648 ≤ b ∧ b < 2147483648) (h1 : 0 ≤ k) (h2 : k < 5) : PX2_isAhead (ad z 3) (J a) (J b) (J k) (lay z g C) K = K (J (if aheadC C a b k then 1 else 0)) := by
  have ba := bkO_book a
  have bb := bkO_book b
  have r := cmpC_r (C := C) (o := bkO a) (o' := bkO b) k
  unfold PX2_isAhead aheadC
  by_cases c : cmpC C (bkO a) (bkO b) k = 0
  · by_cases c2 : a < b
    · simp (disch := omega) only [J_add, J_sub, J_mul, J_lt, J_le, J_eq, xbr_true, xbr_false, xbr_pos, xbr_neg, Int.toNat_natCast, all_eq, ex_eq, tS_lay (o := 3) (t := 3) rfl, s_of, s_compareBy ba (hB _ ba) bb (hB _ bb), isB0, isB1, true_and]
      simp [c, c2]
    · simp (disch := omega) only [J_add, J_sub, J_mul, J_lt, J_le, J_eq, xbr_true, xbr_false, xbr_pos, xbr_neg, Int.toNat_natCast, all_eq, ex_eq, tS_lay (o := 3) (t := 3) rfl, s_of, s_compareBy ba (hB _ ba) bb (hB _ bb), isB0, isB1, true_and]
      simp [c, c2]
  · by_cases c2 : cmpC C (bkO a) (bkO b) k < 0
    · simp (disch := omega) only [J_add, J_sub, J_mul, J_lt, J_le, J_eq, xbr_true, xbr_false, xbr_pos, xbr_neg, Int.toNat_natCast, all_eq, ex_eq, tS_lay (o := 3) (t := 3) rfl, s_of, s_compareBy ba (hB _ ba) bb (hB _ bb), isB0, isB1, true_and]
      simp [c, c2]
    · simp (disch := omega) only [J_add, J_sub, J_mul, J_lt, J_le, J_eq, xbr_true, xbr_false, xbr_pos, xbr_neg, Int.toNat_natCast, all_eq, ex_eq, tS_lay (o := 3) (t := 3) rfl, s_of, s_compareBy ba (hB _ ba) bb (hB _ bb), isB0, isB1, true_and]
      simp [c, c2]
theorem s_spotFor {r : Nat} (hB : BooksOk C) (hr : isRow r) (ho : RowOk C r) {b k : Int} (hb : -2147483648 ≤ b ∧ b < 2147483648) (h1 : 0 ≤ k) (h2 : k < 5) : PX6_spotFor (ad z r) (ad z 3) (J b) (J k) (lay z g C) K = K (J (fst1 (C r 2).toNat fun i => !aheadC C (C (r + 1) i) b k)) := by
  have o1 := ho.1
  unfold PX6_spotFor
  simp (disch := omega) only [J_add, J_sub, J_mul, J_lt, J_le, J_eq, xbr_true, xbr_false, xbr_pos, xbr_neg, Int.toNat_natCast, all_eq, ex_eq, tS_lay (row_T hr)]
  have h5 := fst1_le (C r 2).toNat (fun i => !aheadC C (C (r + 1) i) b k)
  refine lp_for (fun i => J i) 0 (fst1 (C r 2).toNat (fun i => !aheadC C (C (r + 1) i) b k)) _ (by omega) ?_ ?_
  · intro i _ hi kc
    have h6 := fst1_lt hi
    have h7 := bkAt_r ho i
    have h8 : bkAt C r i = C (r + 1) i := by unfold bkAt; rw [if_pos (by omega)]; simp
    rw [h8] at h7
    have h9 : aheadC C (C (r + 1) i) b k = true := by simpa using h6
    unfold BX6_spotFor_3 CX6_spotFor_3
    simp (disch := omega) only [J_add, J_sub, J_mul, J_lt, J_le, J_eq, xbr_true, xbr_false, xbr_pos, xbr_neg, Int.toNat_natCast, all_eq, ex_eq, gI_lay (row_len hr), s_bookAt hr ho, h8, s_isAhead hB, h9, if_true]
    simp
  · intro kc
    unfold BX6_spotFor_3 CX6_spotFor_3
    by_cases c : fst1 (C r 2).toNat (fun i => !aheadC C (C (r + 1) i) b k) < (C r 2).toNat
    · have h6 := fst1_at c
      generalize fst1 (C r 2).toNat (fun i => !aheadC C (C (r + 1) i) b k) = i at *
      have h7 := bkAt_r ho i
      have h8 : bkAt C r i = C (r + 1) i := by unfold bkAt; rw [if_pos (by omega)]; simp
      rw [h8] at h7
      have h9 : aheadC C (C (r + 1) i) b k = false := by simpa using h6
      simp (disch := omega) only [J_add, J_sub, J_mul, J_lt, J_le, J_eq, xbr_true, xbr_false, xbr_pos, xbr_neg, Int.toNat_natCast, all_eq, ex_eq, gI_lay (row_len hr), s_bookAt hr ho, h8, s_isAhead hB, h9, Bool.false_eq_true, if_false]
    · simp (disch := omega) only [J_add, J_sub, J_mul, J_lt, J_le, J_eq, xbr_true, xbr_false, xbr_pos, xbr_neg, Int.toNat_natCast, all_eq, ex_eq, gI_lay (row_len hr)]
      rw [show (fst1 (C r 2).toNat (fun i => !aheadC C (C (r + 1) i) b k) : Int) = C r 2 by omega]
end BOOKS
