/-! PUSHING: the class -/
def mvA (A : Rw) (s t j : Nat) : Rw := (A.1, A.2.1, fun k => if k = s then A.2.2 s - j else if k = t then A.2.2 t + j else A.2.2 k)
/-- the class's row r with the shelves that A says, the line as it is -/
def shC (C : Nat → Nat → Int) (r : Nat) (A : Rw) : Nat → Nat → Int := fun a j => if a = r + 2 ∧ j < 24 then (if idx A j < A.1 then (shAt A.2.2 (idx A j) : Int) else -1) else C a j
/-- room that is left -/
def rmA (W w : Nat → Int) (A : Rw) (s : Nat) : Int := W s - usedA w A s
theorem sumN_mvL {A : Rw} {s j k : Nat} (hj : j ≤ A.2.2 s) : sumN (mvA A s (s + 1) j).2.2 k = if k = s + 1 then sumN A.2.2 k - j else sumN A.2.2 k := by
  induction k with
  | zero => rw [if_neg (by omega)]; rfl
  | succ k ih =>
    show sumN _ k + _ = _
    rw [ih]
    have e : sumN A.2.2 (k + 1) = sumN A.2.2 k + A.2.2 k := rfl
    rw [e]
    show (if k = s + 1 then sumN A.2.2 k - j else sumN A.2.2 k) + (if k = s then A.2.2 s - j else if k = s + 1 then A.2.2 (s + 1) + j else A.2.2 k) = _
    by_cases c1 : k = s
    · subst c1
      rw [if_neg (by omega), if_pos rfl, if_pos rfl]; omega
    · by_cases c2 : k = s + 1
      · subst c2
        have e2 : sumN A.2.2 (s + 1) = sumN A.2.2 s + A.2.2 s := rfl
        rw [if_pos rfl, if_neg c1, if_pos rfl, if_neg (by omega)]; omega
      · rw [if_neg c2, if_neg c1, if_neg c2, if_neg (by omega)]
theorem sumN_mvE {A : Rw} {s j k : Nat} (hj : j ≤ A.2.2 (s + 1)) : sumN (mvA A (s + 1) s j).2.2 k = if k = s + 1 then sumN A.2.2 k + j else sumN A.2.2 k := by
  induction k with
  | zero => rw [if_neg (by omega)]; rfl
  | succ k ih =>
    show sumN _ k + _ = _
    rw [ih]
    have e : sumN A.2.2 (k + 1) = sumN A.2.2 k + A.2.2 k := rfl
    rw [e]
    show (if k = s + 1 then sumN A.2.2 k + j else sumN A.2.2 k) + (if k = s + 1 then A.2.2 (s + 1) - j else if k = s then A.2.2 s + j else A.2.2 k) = _
    by_cases c1 : k = s
    · subst c1
      rw [if_neg (by omega), if_neg (by omega), if_pos rfl, if_pos rfl]; omega
    · by_cases c2 : k = s + 1
      · subst c2
        rw [if_pos rfl, if_pos rfl, if_neg (by omega)]; omega
      · rw [if_neg c2, if_neg c2, if_neg c1, if_neg (by omega)]
theorem shAt_later {on on' : Nat → Nat} {c i : Nat} (hc : c < 8) (h : ∀ k, k ≠ c → sumN on' k = sumN on k) (h1 : sumN on' c + 1 = sumN on c) (hi : i < sumN on 8) : shAt on' i = if i = sumN on' c then c else shAt on i := by
  have ht := shAt_lt hi
  have hb := (shAt_iff (on := on) (i := i) ht).mp rfl
  by_cases e : i = sumN on' c
  · rw [if_pos e]
    have m1 := sumN_mono (f := on) (show c ≤ c + 1 by omega)
    exact (shAt_iff hc).mpr ⟨by omega, by rw [h (c + 1) (by omega)]; omega⟩
  · rw [if_neg e]
    refine (shAt_iff ht).mpr ⟨?_, ?_⟩
    · by_cases e1 : shAt on i = c
      · rw [e1] at hb ⊢; omega
      · rw [h _ e1]; exact hb.1
    · by_cases e1 : shAt on i + 1 = c
      · rw [e1] at hb ⊢; omega
      · rw [h _ e1]; exact hb.2
theorem shAt_earlier {on on' : Nat → Nat} {c i : Nat} (hc : c + 1 < 8) (h : ∀ k, k ≠ c + 1 → sumN on' k = sumN on k) (h1 : sumN on' (c + 1) = sumN on (c + 1) + 1) (hi : i < sumN on 8) : shAt on' i = if i = sumN on (c + 1) then c else shAt on i := by
  have ht := shAt_lt hi
  have hb := (shAt_iff (on := on) (i := i) ht).mp rfl
  by_cases e : i = sumN on (c + 1)
  · rw [if_pos e]
    have m1 := sumN_mono (f := on) (show c ≤ c + 1 by omega)
    exact (shAt_iff (by omega)).mpr ⟨by rw [h c (by omega)]; omega, by omega⟩
  · rw [if_neg e]
    refine (shAt_iff ht).mpr ⟨?_, ?_⟩
    · by_cases e1 : shAt on i = c + 1
      · rw [e1] at hb ⊢; omega
      · rw [h _ e1]; exact hb.1
    · by_cases e1 : shAt on i + 1 = c + 1
      · rw [e1] at hb ⊢; omega
      · rw [h _ e1]; exact hb.2
theorem RwOk.mvL {A : Rw} {nb s j : Nat} (h : RwOk A nb) (hj : j ≤ A.2.2 s) (hs : s + 1 < 8) : RwOk (mvA A s (s + 1) j) nb := ⟨h.1, h.2.1, by rw [sumN_mvL hj, if_neg (by omega)]; exact h.2.2⟩
theorem RwOk.mvE {A : Rw} {nb s j : Nat} (h : RwOk A nb) (hj : j ≤ A.2.2 (s + 1)) (hs : s + 1 < 8) : RwOk (mvA A (s + 1) s j) nb := ⟨h.1, h.2.1, by rw [sumN_mvE hj, if_neg (by omega)]; exact h.2.2⟩
section PUSH
variable {z : Nat} {g : Mem} {C : Nat → Nat → Int} {r nb : Nat} {A : Rw}
theorem RowC.shC {A' : Rw} (h : RowC C r A) (e1 : A'.1 = A.1) (e2 : A'.2.1 = A.2.1) (hA : RwOk A' nb) (hn : nb ≤ 24) : RowC (shC C r A') r A' := by
  obtain ⟨h1, h2, h3, h4, h5⟩ := h
  have q1 : ∀ j, Jvm.Pilot.COutOfPlaceLaw_law_r2444_d06da6.shC C r A' r j = C r j := fun j => by unfold Jvm.Pilot.COutOfPlaceLaw_law_r2444_d06da6.shC; rw [if_neg (by omega)]
  have q2 : ∀ j, Jvm.Pilot.COutOfPlaceLaw_law_r2444_d06da6.shC C r A' (r + 1) j = C (r + 1) j := fun j => by unfold Jvm.Pilot.COutOfPlaceLaw_law_r2444_d06da6.shC; rw [if_neg (by omega)]
  have q3 : ∀ j, j < 24 → Jvm.Pilot.COutOfPlaceLaw_law_r2444_d06da6.shC C r A' (r + 2) j = (if idx A' j < A'.1 then (shAt A'.2.2 (idx A' j) : Int) else -1) := fun j hj => by unfold Jvm.Pilot.COutOfPlaceLaw_law_r2444_d06da6.shC; rw [if_pos ⟨rfl, hj⟩]
  refine ⟨by rw [q1, e1]; exact h1, fun i hi => by rw [q2, e2]; exact h2 i (by omega), fun i hi => ?_, fun b hb hq => ?_, by rw [q1]; exact h5.1, fun i hi => by rw [q2]; exact h5.2.1 i hi, fun b hb => ?_⟩
  · have := hA.1 i hi
    rw [q3 _ (by omega), idx_of hA hi, if_pos hi]
  · rw [q3 _ hb, if_neg]
    intro c
    exact hq _ c (idx_at c)
  · rw [q3 _ hb]
    split
    · rename_i c
      have := shAt_lt (on := A'.2.2) (i := idx A' b) (by rw [hA.2.2]; exact c)
      omega
    · omega
theorem shC_self (h : RowC C r A) (hA : RwOk A nb) (hn : nb ≤ 24) : shC C r A = C := by
  funext a j
  unfold shC
  split
  · rename_i c
    have := h.shb hA hn j
    unfold shOf at this
    rw [if_pos (by omega), Int.toNat_natCast] at this
    rw [c.1, this]
  · rfl
theorem shC_other {a j : Nat} (h : a ≠ r + 2) : shC C r A a j = C a j := by
  unfold shC; rw [if_neg (by omega)]
theorem shC_mvL {s j : Nat} (h : RowC C r A) (hA : RwOk A nb) (hn : nb ≤ 24) (hs : s + 1 < 8) (hj : j < A.2.2 s) : up (shC C r (mvA A s (s + 1) j)) (r + 2) (A.2.1 (sumN A.2.2 (s + 1) - j - 1)) ((s + 1 : Nat) : Int) = shC C r (mvA A s (s + 1) (j + 1)) := by
  have m1 := sumN_mono (f := A.2.2) (show s + 1 ≤ 8 by omega)
  have e0 : sumN A.2.2 (s + 1) = sumN A.2.2 s + A.2.2 s := rfl
  have hl := hA.2.2
  have hb := hA.1 (sumN A.2.2 (s + 1) - j - 1) (by omega)
  have step : ∀ i, i < A.1 → shAt (mvA A s (s + 1) (j + 1)).2.2 i = if i = sumN A.2.2 (s + 1) - j - 1 then s + 1 else shAt (mvA A s (s + 1) j).2.2 i := by
    intro i hi
    have e1 : sumN (mvA A s (s + 1) (j + 1)).2.2 (s + 1) = sumN A.2.2 (s + 1) - j - 1 := by rw [sumN_mvL (by omega), if_pos rfl]; omega
    rw [← e1]
    refine shAt_later hs (fun k hk => ?_) ?_ (by rw [sumN_mvL (by omega), if_neg (by omega)]; omega)
    · rw [sumN_mvL (by omega), sumN_mvL (by omega), if_neg hk, if_neg hk]
    · rw [e1, sumN_mvL (by omega), if_pos rfl]; omega
  funext a k
  unfold up shC
  by_cases c : a = r + 2 ∧ k < 24
  · rw [if_pos c, if_pos c]
    show (if a = r + 2 ∧ k = A.2.1 (sumN A.2.2 (s + 1) - j - 1) then ((s + 1 : Nat) : Int) else (if idx A k < A.1 then (shAt (mvA A s (s + 1) j).2.2 (idx A k) : Int) else -1)) = (if idx A k < A.1 then (shAt (mvA A s (s + 1) (j + 1)).2.2 (idx A k) : Int) else -1)
    by_cases c2 : k = A.2.1 (sumN A.2.2 (s + 1) - j - 1)
    · have e2 : idx A k = sumN A.2.2 (s + 1) - j - 1 := by rw [c2]; exact idx_of hA (by omega)
      rw [if_pos ⟨c.1, c2⟩, e2, if_pos (by omega), step _ (by omega), if_pos rfl]
    · rw [if_neg (fun q => c2 q.2)]
      by_cases c3 : idx A k < A.1
      · rw [if_pos c3, if_pos c3, step _ c3, if_neg]
        intro q
        apply c2
        rw [← q, idx_at c3]
      · rw [if_neg c3, if_neg c3]
  · rw [if_neg c, if_neg c, if_neg]
    intro q
    apply c
    exact ⟨q.1, by rw [q.2]; omega⟩
theorem shC_mvE {s j : Nat} (h : RowC C r A) (hA : RwOk A nb) (hn : nb ≤ 24) (hs : s + 1 < 8) (hj : j < A.2.2 (s + 1)) : up (shC C r (mvA A (s + 1) s j)) (r + 2) (A.2.1 (sumN A.2.2 (s + 1) + j)) (s : Int) = shC C r (mvA A (s + 1) s (j + 1)) := by
  have m1 := sumN_mono (f := A.2.2) (show s + 1 + 1 ≤ 8 by omega)
  have e0 : sumN A.2.2 (s + 1 + 1) = sumN A.2.2 (s + 1) + A.2.2 (s + 1) := rfl
  have hl := hA.2.2
  have hb := hA.1 (sumN A.2.2 (s + 1) + j) (by omega)
  have step : ∀ i, i < A.1 → shAt (mvA A (s + 1) s (j + 1)).2.2 i = if i = sumN A.2.2 (s + 1) + j then s else shAt (mvA A (s + 1) s j).2.2 i := by
    intro i hi
    have e1 : sumN (mvA A (s + 1) s j).2.2 (s + 1) = sumN A.2.2 (s + 1) + j := by rw [sumN_mvE (by omega), if_pos rfl]
    rw [← e1]
    refine shAt_earlier hs (fun k hk => ?_) ?_ (by rw [sumN_mvE (by omega), if_neg (by omega)]; omega)
    · rw [sumN_mvE (by omega), sumN_mvE (by omega), if_neg hk, if_neg hk]
    · rw [e1, sumN_mvE (by omega), if_pos rfl]; omega
  funext a k
  unfold up shC
  by_cases c : a = r + 2 ∧ k < 24
  · rw [if_pos c, if_pos c]
    show (if a = r + 2 ∧ k = A.2.1 (sumN A.2.2 (s + 1) + j) then (s : Int) else (if idx A k < A.1 then (shAt (mvA A (s + 1) s j).2.2 (idx A k) : Int) else -1)) = (if idx A k < A.1 then (shAt (mvA A (s + 1) s (j + 1)).2.2 (idx A k) : Int) else -1)
    by_cases c2 : k = A.2.1 (sumN A.2.2 (s + 1) + j)
    · have e2 : idx A k = sumN A.2.2 (s + 1) + j := by rw [c2]; exact idx_of hA (by omega)
      rw [if_pos ⟨c.1, c2⟩, e2, if_pos (by omega), step _ (by omega), if_pos rfl]
    · rw [if_neg (fun q => c2 q.2)]
      by_cases c3 : idx A k < A.1
      · rw [if_pos c3, if_pos c3, step _ c3, if_neg]
        intro q
        apply c2
        rw [← q, idx_at c3]
      · rw [if_neg c3, if_neg c3]
  · rw [if_neg c, if_neg c, if_neg]
    intro q
    apply c
    exact ⟨q.1, by rw [q.2]; omega⟩
end PUSH
section PUSH2
variable {z : Nat} {g : Mem} {C : Nat → Nat → Int} {r nb : Nat} {A : Rw}
def wC (C : Nat → Nat → Int) (b : Nat) : Int := C (8 + 3 * b) 11
theorem sumZ_b {f : Nat → Int} {n : Nat} (h : ∀ i, i < n → 0 ≤ f i ∧ f i ≤ 9) : 0 ≤ sumZ f n ∧ sumZ f n ≤ 9 * n := by
  induction n with
  | zero => exact ⟨by show (0:Int) ≤ 0; omega, by show (0:Int) ≤ 9 * 0; omega⟩
  | succ n ih =>
    have h1 := ih (fun i hi => h i (by omega))
    have h2 := h n (by omega)
    show 0 ≤ sumZ f n + f n ∧ sumZ f n + f n ≤ 9 * ((n + 1 : Nat) : Int)
    omega
theorem s_left {K : Int32 → Prop} (hr : isRow r) (h : RowC C r A) (hA : RwOk A nb) (hn : nb ≤ 24) (hnb : C 3 2 = nb) (hB : BooksOk C) {s : Nat} (hs : s < 8) (hW : 0 ≤ C 81 s ∧ C 81 s ≤ 1000) : PX8_left (ad z 80) (ad z r) (ad z 3) (J s) (lay z g C) K = K (J (rmA (C 81) (wC C) A s)) := by
  have hwb : ∀ b, b < 24 → 0 ≤ wC C b ∧ wC C b ≤ 9 := fun b hb => by
    have := hB (8 + 3 * b) (Or.inr ⟨b, hb, rfl⟩)
    unfold BookOk at this
    unfold wC; omega
  have e0 := h.used hA hn hs (wC C)
  unfold PX8_left rmA
  simp (disch := omega) only [J_add, J_sub, J_mul, J_lt, J_le, J_eq, xbr_true, xbr_false, xbr_pos, xbr_neg, Int.toNat_natCast, all_eq, ex_eq, tS_lay (o := 80) (t := 9) rfl, gR_lay (t := 9) (o := 80) (k := 0) (r := 81) rfl, s_entry (o := 81) (N := 8) rfl]
  rw [if_pos (by omega), ← e0]
  have h00 : (J (C 81 s), J 0) = ((fun i : Nat => (J (C 81 s - sumZ (fun b => if C (r + 2) b = (s : Int) then wC C b else 0) i), J (i : Int))) 0) := by simp [sumZ]
  rw [h00]
  refine lp_for (fun i : Nat => (J (C 81 s - sumZ (fun b => if C (r + 2) b = (s : Int) then wC C b else 0) i), J (i : Int))) 0 nb _ (by omega) ?_ ?_
  · intro i _ hi kc
    have hsum := sumZ_b (n := i) (f := fun b => if C (r + 2) b = (s : Int) then wC C b else 0) (fun b hb => by
      have := hwb b (by omega)
      show 0 ≤ (if C (r + 2) b = (s : Int) then wC C b else 0) ∧ (if C (r + 2) b = (s : Int) then wC C b else 0) ≤ 9
      split <;> omega)
    have h3 := h.2.2.2.2.2.2 i (by omega)
    have e1 : shOf C r i = C (r + 2) i := by unfold shOf; rw [if_pos (by omega)]; simp
    have h4 := hwb i (by omega)
    have hb4 := book_f (b := 8 + 3 * i) (Or.inr ⟨i, by omega, rfl⟩) (k := 11) (by omega) (by omega)
    have e2 : sumZ (fun b => if C (r + 2) b = (s : Int) then wC C b else 0) (i + 1) = sumZ (fun b => if C (r + 2) b = (s : Int) then wC C b else 0) i + (if C (r + 2) i = (s : Int) then wC C i else 0) := rfl
    unfold BX8_left_13 CX8_left_13
    simp (disch := omega) only [J_add, J_sub, J_mul, J_lt, J_le, J_eq, xbr_true, xbr_false, xbr_pos, xbr_neg, Int.toNat_natCast, all_eq, ex_eq, s_nb, hnb, s_shelfOf hr, e1]
    by_cases c : C (r + 2) i = (s : Int)
    · simp (disch := omega) only [J_add, J_sub, J_mul, J_lt, J_le, J_eq, xbr_true, xbr_false, xbr_pos, xbr_neg, Int.toNat_natCast, all_eq, ex_eq, s_of, bkO_nat (show i < 24 by omega), gI_lay hb4]
      rw [e2, if_pos c]
      show kc (J (C 81 s - _ - wC C i), J ((i : Int) + 1)) = _
      rw [show C 81 s - sumZ (fun b => if C (r + 2) b = (s : Int) then wC C b else 0) i - wC C i = C 81 s - (sumZ (fun b => if C (r + 2) b = (s : Int) then wC C b else 0) i + wC C i) by omega]
      rfl
    · simp (disch := omega) only [J_add, J_sub, J_mul, J_lt, J_le, J_eq, xbr_true, xbr_false, xbr_pos, xbr_neg, Int.toNat_natCast, all_eq, ex_eq]
      rw [e2, if_neg c]
      simp
  · intro kc
    unfold BX8_left_13 CX8_left_13
    simp (disch := omega) only [J_add, J_sub, J_mul, J_lt, J_le, J_eq, xbr_true, xbr_false, xbr_pos, xbr_neg, Int.toNat_natCast, all_eq, ex_eq, s_nb, hnb]
end PUSH2
