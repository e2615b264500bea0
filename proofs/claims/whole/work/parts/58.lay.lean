/-! LAID ANEW -/
theorem lp_same {S : Type} {body : (S → Prop) → S → Prop} {s s' : S} (h : ∀ kc, body kc s = body kc s') : lp body s = lp body s' := propext ⟨fun ⟨n, hn⟩ => by
    cases n with
    | zero => exact hn.elim
    | succ n => exact ⟨n + 1, by show body _ s'; rw [← h]; exact hn⟩, fun ⟨n, hn⟩ => by
    cases n with
    | zero => exact hn.elim
    | succ n => exact ⟨n + 1, by show body _ s; rw [h]; exact hn⟩⟩
/-- a row, perhaps not all of it on shelves -/
def RwP (A : Rw) (nb : Nat) : Prop := (∀ i, i < A.1 → A.2.1 i < nb) ∧ (∀ i j, i < A.1 → j < A.1 → A.2.1 i = A.2.1 j → i = j) ∧ sumN A.2.2 8 ≤ A.1
section LAYP
variable {C : Nat → Nat → Int} {r nb : Nat} {A : Rw}
theorem RowC.sumP (h : RowC C r A) (hA : RwP A nb) (hn : nb ≤ 24) {F : Int → Nat → Int} (hF : ∀ b, F (-1) b = 0) : sumZ (fun b => F (C (r + 2) b) b) 24 = sumZ (fun i => F (shAt A.2.2 i) (A.2.1 i)) A.1 := by
  obtain ⟨h1, h2, h3, h4, h5⟩ := h
  rw [sumZ_perm (ln := A.2.1) (m := A.1) (fun i hi => by have := hA.1 i hi; omega) hA.2.1 (fun b hb hq => by rw [h4 b hb hq]; exact hF b)]
  exact sumZ_congr fun i hi => by rw [h3 i hi]
theorem RwP.on_le (hA : RwP A nb) {s : Nat} (hs : s < 8) : sumN A.2.2 s + A.2.2 s ≤ A.1 := by
  have := sumN_mono (f := A.2.2) (show s + 1 ≤ 8 by omega)
  have e : sumN A.2.2 (s + 1) = sumN A.2.2 s + A.2.2 s := rfl
  have := hA.2.2
  omega
theorem RowC.amountP (h : RowC C r A) (hA : RwP A nb) (hn : nb ≤ 24) {s : Nat} (hs : s < 8) : cnt 24 (fun b => C (r + 2) b == (s : Int)) = A.2.2 s := by
  have e1 := h.sumP hA hn (F := fun x _ => if x = (s : Int) then 1 else 0) (fun b => if_neg (by omega))
  have e2 : sumZ (fun i => if ((shAt A.2.2 i : Nat) : Int) = (s : Int) then 1 else 0) A.1 = sumZ (fun i => if sumN A.2.2 s ≤ i ∧ i < sumN A.2.2 s + A.2.2 s then (1 : Int) else 0) A.1 := by
    refine sumZ_congr fun i hi => ?_
    have := shAt_iff (on := A.2.2) (i := i) hs
    have e : sumN A.2.2 (s + 1) = sumN A.2.2 s + A.2.2 s := rfl
    rw [e] at this
    by_cases c : shAt A.2.2 i = s
    · rw [if_pos (by omega), if_pos (this.mp c)]
    · rw [if_neg (by omega), if_neg (fun q => c (this.mpr q))]
  rw [e2, sumZ_seg (hA.on_le hs), sumZ_ones] at e1
  have e3 := cnt_sum 24 (fun b => C (r + 2) b == (s : Int))
  simp only [beq_iff_eq] at e3
  omega
theorem RowC.usedP (h : RowC C r A) (hA : RwP A nb) (hn : nb ≤ 24) {s : Nat} (hs : s < 8) (w : Nat → Int) : sumZ (fun b => if C (r + 2) b = (s : Int) then w b else 0) nb = usedA w A s := by
  have e0 : sumZ (fun b => if C (r + 2) b = (s : Int) then w b else 0) nb = sumZ (fun b => if C (r + 2) b = (s : Int) then w b else 0) 24 := by
    obtain ⟨d, hd⟩ : ∃ d, 24 = nb + d := ⟨24 - nb, by omega⟩
    rw [hd, sumZ_split, sumZ_congr (n := d) (g := fun _ => 0), sumZ_zero]
    · omega
    · intro i hi
      rw [h.2.2.2.1 (nb + i) (by omega) (fun j hj => by have := hA.1 j hj; omega), if_neg (by omega)]
  have e1 := h.sumP hA hn (F := fun x b => if x = (s : Int) then w b else 0) (fun b => if_neg (by omega))
  have e2 : sumZ (fun i => if ((shAt A.2.2 i : Nat) : Int) = (s : Int) then w (A.2.1 i) else 0) A.1 = sumZ (fun i => if sumN A.2.2 s ≤ i ∧ i < sumN A.2.2 s + A.2.2 s then w (A.2.1 i) else 0) A.1 := by
    refine sumZ_congr fun i hi => ?_
    have := shAt_iff (on := A.2.2) (i := i) hs
    have e : sumN A.2.2 (s + 1) = sumN A.2.2 s + A.2.2 s := rfl
    rw [e] at this
    by_cases c : shAt A.2.2 i = s
    · rw [if_pos (by omega), if_pos (this.mp c)]
    · rw [if_neg (by omega), if_neg (fun q => c (this.mpr q))]
  rw [e2, sumZ_seg (hA.on_le hs)] at e1
  rw [e0, e1]
  rfl
theorem usedP_b {w : Nat → Int} (hA : RwP A nb) (hw : ∀ b, b < nb → 0 ≤ w b ∧ w b ≤ 9) {s : Nat} (hs : s < 8) (hl : A.1 ≤ 24) : 0 ≤ usedA w A s ∧ usedA w A s ≤ 216 := by
  have h1 := hA.on_le hs
  have h2 := sumZ_b (f := fun i => w (A.2.1 (sumN A.2.2 s + i))) (n := A.2.2 s) (fun i hi => hw _ (hA.1 _ (by omega)))
  unfold usedA
  omega
theorem usedP_congr {w w' : Nat → Int} (hA : RwP A nb) {s : Nat} (hs : s < 8) (hw : ∀ b, b < nb → w b = w' b) : usedA w A s = usedA w' A s := by
  have h1 := hA.on_le hs
  exact sumZ_congr fun i hi => hw _ (hA.1 _ (by omega))
end LAYP
/-- whether the k-th book goes on shelf s -/
def goA (W w : Nat → Int) (lst : Int) (A : Rw) (s k : Nat) : Prop := lst ≤ W s - usedA w A s - w (A.2.1 k) ∨ (A.2.2 s = 0 ∧ 0 ≤ W s - usedA w A s - w (A.2.1 k))
def addA (A : Rw) (s : Nat) : Rw := (A.1, A.2.1, fun j => if j = s then A.2.2 s + 1 else A.2.2 j)
/-- shelf s, k books laid, and where -/
def LyI (n : Nat) (L : Nat → Nat) (s k : Nat) (A : Rw) : Prop := A.1 = n ∧ A.2.1 = L ∧ (∀ j, s < j → A.2.2 j = 0) ∧ sumN A.2.2 (s + 1) = k
theorem sumN_zero {f : Nat → Nat} {a : Nat} (h : ∀ j, a ≤ j → f j = 0) : ∀ b, a ≤ b → sumN f b = sumN f a := by
  intro b
  induction b with
  | zero => intro hb; have : a = 0 := by omega
            rw [this]
  | succ b ih =>
    intro hb
    rcases Nat.lt_or_ge b a with c | c
    · rw [show b + 1 = a by omega]
    · show sumN f b + f b = _
      rw [ih c, h b c]
      rfl
section LAYI
variable {n s k nb : Nat} {L : Nat → Nat} {A : Rw}
theorem LyI.tot (h : LyI n L s k A) {b : Nat} (hb : s + 1 ≤ b) : sumN A.2.2 b = k := by
  rw [sumN_zero (fun j hj => h.2.2.1 j (by omega)) b hb]; exact h.2.2.2
theorem LyI.add (h : LyI n L s k A) : LyI n L s (k + 1) (addA A s) := by
  refine ⟨h.1, h.2.1, fun j hj => ?_, ?_⟩
  · show (if j = s then _ else A.2.2 j) = 0
    rw [if_neg (by omega)]; exact h.2.2.1 j hj
  · show sumN (fun j => if j = s then A.2.2 s + 1 else A.2.2 j) (s + 1) = k + 1
    rw [sumN_ins, if_pos (by omega), h.2.2.2]
theorem LyI.next (h : LyI n L s k A) : LyI n L (s + 1) k A := ⟨h.1, h.2.1, fun j hj => h.2.2.1 j (by omega), h.tot (by omega)⟩
theorem LyI.p (h : LyI n L s k A) (hs : s ≤ 8) (hk : k ≤ n) (hL : ∀ i, i < n → L i < nb) (hi : ∀ i j, i < n → j < n → L i = L j → i = j) : RwP A nb := by
  obtain ⟨h1, h2, h3, h4⟩ := h
  refine ⟨by rw [h1, h2]; exact hL, by rw [h1, h2]; exact hi, ?_⟩
  have := sumN_mono (f := A.2.2) (show 8 ≤ s + 1 + 8 by omega)
  have := LyI.tot (n := n) (L := L) (A := A) ⟨h1, h2, h3, h4⟩ (b := s + 1 + 8) (by omega)
  omega
theorem LyI.sh (h : LyI n L s k A) (hs : s < 8) (i : Nat) : shAt (addA A s).2.2 i = if i = k then s else shAt A.2.2 i := by
  have e : ∀ b, sumN (addA A s).2.2 b = if s < b then sumN A.2.2 b + 1 else sumN A.2.2 b := fun b => sumN_ins
  have e0 : sumN A.2.2 (s + 1) = sumN A.2.2 s + A.2.2 s := rfl
  have hk := h.2.2.2
  by_cases c : i = k
  · rw [if_pos c]
    refine fst1_eq hs (fun j hj => ?_) ?_
    · have := sumN_mono (f := A.2.2) (show j + 1 ≤ s by omega)
      rw [e, if_neg (by omega)]
      simp; omega
    · rw [e, if_pos (by omega), hk]
      simp; omega
  · rw [if_neg c]
    unfold shAt
    refine fst1_congr fun j hj => ?_
    rw [e]
    by_cases c2 : s < j + 1
    · rw [if_pos c2, h.tot (by omega)]
      by_cases c3 : i < k
      · simp [c3]; omega
      · have : ¬ i < k + 1 := by omega
        simp [c3, this]
    · rw [if_neg c2]
theorem LyI.used (h : LyI n L s k A) (w : Nat → Int) : usedA w (addA A s) s = usedA w A s + w (L k) := by
  have e : sumN (addA A s).2.2 s = sumN A.2.2 s := by
    show sumN (fun j => if j = s then A.2.2 s + 1 else A.2.2 j) s = _
    rw [sumN_ins, if_neg (by omega)]
  have e2 : (addA A s).2.2 s = A.2.2 s + 1 := by show (if s = s then _ else _) = _; rw [if_pos rfl]
  have e0 : sumN A.2.2 (s + 1) = sumN A.2.2 s + A.2.2 s := rfl
  have hk := h.2.2.2
  unfold usedA
  rw [e, e2]
  show sumZ _ (A.2.2 s) + w (A.2.1 (sumN A.2.2 s + A.2.2 s)) = _
  have q : A.2.1 k = L k := by rw [h.2.1]
  rw [← e0, hk, q]
  rfl
theorem LyI.used0 (h : LyI n L s k A) (w : Nat → Int) : usedA w A (s + 1) = 0 := by
  unfold usedA
  rw [h.2.2.1 (s + 1) (by omega)]; rfl
end LAYI
section LAYC
variable {z : Nat} {g : Mem} {C C' D : Nat → Nat → Int} {nb : Nat} {A A' : Rw} {r : Nat}
theorem s_leftP {K : Int32 → Prop} (hr : isRow r) (h : RowC C r A) (hA : RwP A nb) (hS : Sm C nb) {s : Nat} (hs : s < 8) : PX8_left (ad z 80) (ad z r) (ad z 3) (J s) (lay z g C) K = K (J (C 81 s - usedA (wC C) A s)) := by
  have hn := hS.1
  have hnb := hS.2.1
  have hW := hS.2.2.2 s hs
  have hwb := hS.wb
  have e0 := h.usedP hA hn hs (wC C)
  unfold PX8_left
  simp (disch := omega) only [J_add, J_sub, J_mul, J_lt, J_le, J_eq, xbr_true, xbr_false, xbr_pos, xbr_neg, Int.toNat_natCast, all_eq, ex_eq, tS_lay (o := 80) (t := 9) rfl, gR_lay (t := 9) (o := 80) (k := 0) (r := 81) rfl, s_entry (o := 81) (N := 8) rfl]
  rw [if_pos (by omega), ← e0]
  have h00 : (J (C 81 s), J 0) = ((fun i : Nat => (J (C 81 s - sumZ (fun b => if C (r + 2) b = (s : Int) then wC C b else 0) i), J (i : Int))) 0) := by simp [sumZ]
  rw [h00]
  refine lp_for (fun i : Nat => (J (C 81 s - sumZ (fun b => if C (r + 2) b = (s : Int) then wC C b else 0) i), J (i : Int))) 0 nb _ (by omega) ?_ ?_
  · intro i _ hi kc
    have hsum := sumZ_b (n := i) (f := fun b => if C (r + 2) b = (s : Int) then wC C b else 0) (fun b hb => by
      have := hwb b (by omega)
      show 0 ≤ (if C (r + 2) b = (s : Int) then wC C b else 0) ∧ (if C (r + 2) b = (s : Int) then wC C b else 0) ≤ 9
      split <;> omega)
    have h3 := h.2.2.2.2.2.2 i (by omega)
    have e1 : shOf C r i = C (r + 2) i := by unfold shOf; rw [if_pos (by omega)]; simp
    have h4 := hwb i (by omega)
    have hb4 := book_f (b := 8 + 3 * i) (Or.inr ⟨i, by omega, rfl⟩) (k := 11) (by omega) (by omega)
    have e2 : sumZ (fun b => if C (r + 2) b = (s : Int) then wC C b else 0) (i + 1) = sumZ (fun b => if C (r + 2) b = (s : Int) then wC C b else 0) i + (if C (r + 2) i = (s : Int) then wC C i else 0) := rfl
    unfold BX8_left_13 CX8_left_13
    simp (disch := omega) only [J_add, J_sub, J_mul, J_lt, J_le, J_eq, xbr_true, xbr_false, xbr_pos, xbr_neg, Int.toNat_natCast, all_eq, ex_eq, s_nb, hnb, s_shelfOf hr, e1]
    by_cases c : C (r + 2) i = (s : Int)
    · simp (disch := omega) only [J_add, J_sub, J_mul, J_lt, J_le, J_eq, xbr_true, xbr_false, xbr_pos, xbr_neg, Int.toNat_natCast, all_eq, ex_eq, s_of, bkO_nat (show i < 24 by omega), gI_lay hb4]
      rw [e2, if_pos c]
      show kc (J (C 81 s - _ - wC C i), J ((i : Int) + 1)) = _
      rw [show C 81 s - sumZ (fun b => if C (r + 2) b = (s : Int) then wC C b else 0) i - wC C i = C 81 s - (sumZ (fun b => if C (r + 2) b = (s : Int) then wC C b else 0) i + wC C i) by omega]
      rfl
    · simp (disch := omega) only [J_add, J_sub, J_mul, J_lt, J_le, J_eq, xbr_true, xbr_false, xbr_pos, xbr_neg, Int.toNat_natCast, all_eq, ex_eq]
      rw [e2, if_neg c]
      simp
  · intro kc
    unfold BX8_left_13 CX8_left_13
    simp (disch := omega) only [J_add, J_sub, J_mul, J_lt, J_le, J_eq, xbr_true, xbr_false, xbr_pos, xbr_neg, Int.toNat_natCast, all_eq, ex_eq, s_nb, hnb]
theorem s_ftt_yes {K : Int32 → Prop} (hr : isRow r) (h : RowC C r A) (hA : RwP A nb) (hS : Sm C nb) {s k : Nat} (hs : s < 8) (hk : k < A.1) {lst : Int} (h1 : 0 ≤ lst) (h2 : lst ≤ 30) (hg : goA (C 81) (wC C) lst A s k) (kc : Int32 → Prop) : BX8_firstThatTakes_4 K (lay z g C) (ad z 80) (ad z r) (ad z 3) (J (A.2.1 k : Nat)) (J lst) kc (J (s : Nat)) = K (J (s : Nat)) := by
  have l24 := h.len
  have hb := hA.1 k hk
  have hn := hS.1
  have hb11 := book_f (b := 8 + 3 * A.2.1 k) (Or.inr ⟨A.2.1 k, by omega, rfl⟩) (k := 11) (by omega) (by omega)
  have am := h.amountP hA hn hs
  have ub := usedP_b hA (fun b hb => hS.wb b (by omega)) hs l24
  have wb := hS.wb (A.2.1 k) (by omega)
  have Wb := hS.2.2.2 s hs
  have ol := hA.on_le hs
  have ew : wC C (A.2.1 k) = C (8 + 3 * A.2.1 k) 11 := rfl
  unfold goA at hg
  rw [ew] at hg wb
  unfold BX8_firstThatTakes_4 CX8_firstThatTakes_4 JX8_firstThatTakes_47
  by_cases c : A.2.2 s = 0
  · simp (disch := omega) only [J_add, J_sub, J_mul, J_lt, J_le, J_eq, xbr_true, xbr_false, xbr_pos, xbr_neg, Int.toNat_natCast, all_eq, ex_eq, s_leftP hr h hA hS hs, s_of, bkO_nat (show A.2.1 k < 24 by omega), gI_lay hb11, s_amount hr h.2.2.2.2, am]
  · simp (disch := omega) only [J_add, J_sub, J_mul, J_lt, J_le, J_eq, xbr_true, xbr_false, xbr_pos, xbr_neg, Int.toNat_natCast, all_eq, ex_eq, s_leftP hr h hA hS hs, s_of, bkO_nat (show A.2.1 k < 24 by omega), gI_lay hb11, s_amount hr h.2.2.2.2, am]
theorem s_ftt_no {K : Int32 → Prop} (hr : isRow r) (h : RowC C r A) (hA : RwP A nb) (hS : Sm C nb) {s k : Nat} (hs : s < 8) (hk : k < A.1) {lst : Int} (h1 : 0 ≤ lst) (h2 : lst ≤ 30) (hg : ¬ goA (C 81) (wC C) lst A s k) (kc : Int32 → Prop) : BX8_firstThatTakes_4 K (lay z g C) (ad z 80) (ad z r) (ad z 3) (J (A.2.1 k : Nat)) (J lst) kc (J (s : Nat)) = kc (J (s + 1 : Nat)) := by
  have l24 := h.len
  have hb := hA.1 k hk
  have hn := hS.1
  have hb11 := book_f (b := 8 + 3 * A.2.1 k) (Or.inr ⟨A.2.1 k, by omega, rfl⟩) (k := 11) (by omega) (by omega)
  have am := h.amountP hA hn hs
  have ub := usedP_b hA (fun b hb => hS.wb b (by omega)) hs l24
  have wb := hS.wb (A.2.1 k) (by omega)
  have Wb := hS.2.2.2 s hs
  have ol := hA.on_le hs
  have ew : wC C (A.2.1 k) = C (8 + 3 * A.2.1 k) 11 := rfl
  unfold goA at hg
  rw [ew] at hg wb
  unfold BX8_firstThatTakes_4 CX8_firstThatTakes_4 JX8_firstThatTakes_47
  by_cases c : A.2.2 s = 0
  · simp (disch := omega) only [J_add, J_sub, J_mul, J_lt, J_le, J_eq, xbr_true, xbr_false, xbr_pos, xbr_neg, Int.toNat_natCast, all_eq, ex_eq, s_leftP hr h hA hS hs, s_of, bkO_nat (show A.2.1 k < 24 by omega), gI_lay hb11, s_amount hr h.2.2.2.2, am]
    rfl
  · simp (disch := omega) only [J_add, J_sub, J_mul, J_lt, J_le, J_eq, xbr_true, xbr_false, xbr_pos, xbr_neg, Int.toNat_natCast, all_eq, ex_eq, s_leftP hr h hA hS hs, s_of, bkO_nat (show A.2.1 k < 24 by omega), gI_lay hb11, s_amount hr h.2.2.2.2, am]
    rfl
theorem RowC.lay (h : RowC C r A) (hn : nb ≤ 24) {n s k : Nat} {L : Nat → Nat} (hy : LyI n L s k A) (hA : RwP A nb) (hs : s < 8) (hk : k < n) : RowC (up C (r + 2) (L k) (s : Nat)) r (addA A s) := by
  obtain ⟨h1, h2, h3, h4, h5⟩ := h
  obtain ⟨y1, y2, y3, y4⟩ := hy
  have hL : A.2.1 k = L k := by rw [y2]
  have hLb := hA.1 k (by omega)
  refine ⟨by rw [up_ne (by omega)]; exact h1, fun i hi => by rw [up_ne (by omega)]; exact h2 i hi, fun i hi => ?_, fun b hb hq => ?_, by rw [up_ne (by omega)]; exact h5.1, fun i hi => by rw [up_ne (by omega)]; exact h5.2.1 i hi, fun b hb => ?_⟩
  · have hi' : i < A.1 := hi
    show up C (r + 2) (L k) (s : Nat) (r + 2) (A.2.1 i) = _
    rw [LyI.sh ⟨y1, y2, y3, y4⟩ hs i]
    by_cases c : i = k
    · rw [if_pos c, c, hL, up_eq]
    · rw [if_neg c, up_nk (fun q => c (hA.2.1 i k hi' (by omega) (by rw [q, hL])))]
      exact h3 i hi'
  · have : b ≠ L k := fun e => hq k (by show k < A.1; omega) (by show A.2.1 k = b; rw [hL, e])
    rw [up_nk this]
    exact h4 b hb hq
  · by_cases c : b = L k
    · rw [c, up_eq]; omega
    · rw [up_nk c]; exact h5.2.2 b hb
theorem goA_congr {W W' w w' : Nat → Int} {lst : Int} {s k : Nat} (hA : RwP A nb) (hs : s < 8) (hk : k < A.1) (hW : ∀ s, s < 8 → W s = W' s) (hw : ∀ b, b < nb → w b = w' b) : goA W w lst A s k ↔ goA W' w' lst A s k := by
  unfold goA
  rw [hW s hs, usedP_congr hA hs hw, hw _ (hA.1 k hk)]
end LAYC
/-- the laying, step by step: shelf, how many are laid, and where -/
noncomputable def lyT (W w : Nat → Int) (lst : Int) (t : Nat × Nat × Rw) : Nat × Nat × Rw :=
  have : Decidable (goA W w lst t.2.2 t.1 t.2.1) := Classical.propDecidable _
  if goA W w lst t.2.2 t.1 t.2.1 then (t.1, t.2.1 + 1, addA t.2.2 t.1) else (t.1 + 1, t.2.1, t.2.2)
theorem lyT_yes {W w : Nat → Int} {lst : Int} {t : Nat × Nat × Rw} (h : goA W w lst t.2.2 t.1 t.2.1) : lyT W w lst t = (t.1, t.2.1 + 1, addA t.2.2 t.1) := by
  unfold lyT; rw [if_pos h]
theorem lyT_no {W w : Nat → Int} {lst : Int} {t : Nat × Nat × Rw} (h : ¬ goA W w lst t.2.2 t.1 t.2.1) : lyT W w lst t = (t.1 + 1, t.2.1, t.2.2) := by
  unfold lyT; rw [if_neg h]
noncomputable def lyS (W w : Nat → Int) (lst : Int) (n : Nat) (L : Nat → Nat) : Nat → Nat × Nat × Rw
  | 0 => (0, 0, n, L, fun _ => 0)
  | t + 1 => lyT W w lst (lyS W w lst n L t)
noncomputable def lyE (W w : Nat → Int) (lst : Int) (n : Nat) (L : Nat → Nat) : Nat := fst1 (n + 9) (fun t => decide (n ≤ (lyS W w lst n L t).2.1 ∨ 8 ≤ (lyS W w lst n L t).1))
section LYS
variable {W w : Nat → Int} {lst : Int} {n : Nat} {L : Nat → Nat}
theorem lyS_ok (t : Nat) : LyI n L (lyS W w lst n L t).1 (lyS W w lst n L t).2.1 (lyS W w lst n L t).2.2 ∧ (lyS W w lst n L t).1 + (lyS W w lst n L t).2.1 = t := by
  induction t with
  | zero => exact ⟨⟨rfl, rfl, fun _ _ => rfl, rfl⟩, rfl⟩
  | succ t ih =>
    show LyI n L (lyT W w lst (lyS W w lst n L t)).1 (lyT W w lst (lyS W w lst n L t)).2.1 (lyT W w lst (lyS W w lst n L t)).2.2 ∧ (lyT W w lst (lyS W w lst n L t)).1 + (lyT W w lst (lyS W w lst n L t)).2.1 = t + 1
    generalize lyS W w lst n L t = x at *
    by_cases c : goA W w lst x.2.2 x.1 x.2.1
    · rw [lyT_yes c]
      exact ⟨ih.1.add, by show x.1 + (x.2.1 + 1) = _; omega⟩
    · rw [lyT_no c]
      exact ⟨ih.1.next, by show (x.1 + 1) + x.2.1 = _; omega⟩
theorem lyE_lt {t : Nat} (h : t < lyE W w lst n L) : (lyS W w lst n L t).2.1 < n ∧ (lyS W w lst n L t).1 < 8 := by
  have := fst1_lt (n := n + 9) (f := fun t => decide (n ≤ (lyS W w lst n L t).2.1 ∨ 8 ≤ (lyS W w lst n L t).1)) (i := t) h
  simp at this
  omega
theorem lyE_at : (n ≤ (lyS W w lst n L (lyE W w lst n L)).2.1 ∨ 8 ≤ (lyS W w lst n L (lyE W w lst n L)).1) ∧ (lyS W w lst n L (lyE W w lst n L)).2.1 ≤ n ∧ (lyS W w lst n L (lyE W w lst n L)).1 ≤ 8 := by
  have h1 : lyE W w lst n L < n + 9 := by
    rcases Nat.lt_or_ge (lyE W w lst n L) (n + 9) with c | c
    · exact c
    · have := lyE_lt (W := W) (w := w) (lst := lst) (n := n) (L := L) (t := n + 8) (by omega)
      have := (lyS_ok (W := W) (w := w) (lst := lst) (n := n) (L := L) (n + 8)).2
      omega
  have h2 := fst1_at (n := n + 9) (f := fun t => decide (n ≤ (lyS W w lst n L t).2.1 ∨ 8 ≤ (lyS W w lst n L t).1)) h1
  have h2' : decide (n ≤ (lyS W w lst n L (lyE W w lst n L)).2.1 ∨ 8 ≤ (lyS W w lst n L (lyE W w lst n L)).1) = true := h2
  refine ⟨of_decide_eq_true h2', ?_⟩
  cases he : lyE W w lst n L with
  | zero => exact ⟨Nat.zero_le _, Nat.zero_le _⟩
  | succ t =>
    have h3 := lyE_lt (W := W) (w := w) (lst := lst) (n := n) (L := L) (t := t) (by omega)
    show (lyT W w lst (lyS W w lst n L t)).2.1 ≤ n ∧ (lyT W w lst (lyS W w lst n L t)).1 ≤ 8
    generalize lyS W w lst n L t = x at *
    by_cases c : goA W w lst x.2.2 x.1 x.2.1
    · rw [lyT_yes c]
      exact ⟨by show x.2.1 + 1 ≤ n; omega, by show x.1 ≤ 8; omega⟩
    · rw [lyT_no c]
      exact ⟨by show x.2.1 ≤ n; omega, by show x.1 + 1 ≤ 8; omega⟩
theorem lyE_kle {t : Nat} (h : t ≤ lyE W w lst n L) : (lyS W w lst n L t).2.1 ≤ n ∧ (lyS W w lst n L t).1 ≤ 8 := by
  rcases Nat.lt_or_ge t (lyE W w lst n L) with c | c
  · have := lyE_lt c; omega
  · have : t = lyE W w lst n L := by omega
    rw [this]; exact lyE_at.2
end LYS
section LAYO
variable {z : Nat} {g : Mem} {C C' D : Nat → Nat → Int} {nb : Nat} {A A' : Rw}
theorem s_lay53 {n : Nat} {L : Nat → Nat} (hL : ∀ i, i < n → L i < nb) (hi : ∀ i j, i < n → j < n → L i = L j → i = j) {E : Nat → Nat → Int} (hE : RowC E 85 (n, L, fun _ => 0)) (hS : Sm E nb) {W w : Nat → Int} (hW : ∀ s, s < 8 → E 81 s = W s) (hw : ∀ b, b < nb → wC E b = w b) {lst : Int} (h1 : 0 ≤ lst) (h2 : lst ≤ 30) : ∀ t, t ≤ lyE W w lst n L → ∃ D, (∀ a, a ≠ 87 → D a = E a) ∧ RowC D 85 (lyS W w lst n L t).2.2 ∧ ∀ K, lp (BX8_layAnew_53 K (ad z 80) (ad z 85) (ad z 3) (J lst)) (lay z g E, J 0, J 0) = lp (BX8_layAnew_53 K (ad z 80) (ad z 85) (ad z 3) (J lst)) (lay z g D, J ((lyS W w lst n L t).1 : Nat), J ((lyS W w lst n L t).2.1 : Nat)) := by
  have hn := hS.1
  intro t
  induction t with
  | zero => exact fun _ => ⟨E, fun _ _ => rfl, hE, fun _ => rfl⟩
  | succ t ih =>
    intro ht
    obtain ⟨D, d1, d2, hD⟩ := ih (by omega)
    obtain ⟨hy, -⟩ := lyS_ok (W := W) (w := w) (lst := lst) (n := n) (L := L) t
    obtain ⟨hk, hs⟩ := lyE_lt (W := W) (w := w) (lst := lst) (n := n) (L := L) (t := t) (by omega)
    show ∃ D, (∀ a, a ≠ 87 → D a = E a) ∧ RowC D 85 (lyT W w lst (lyS W w lst n L t)).2.2 ∧ ∀ K, lp (BX8_layAnew_53 K (ad z 80) (ad z 85) (ad z 3) (J lst)) (lay z g E, J 0, J 0) = lp (BX8_layAnew_53 K (ad z 80) (ad z 85) (ad z 3) (J lst)) (lay z g D, J ((lyT W w lst (lyS W w lst n L t)).1 : Nat), J ((lyT W w lst (lyS W w lst n L t)).2.1 : Nat))
    generalize lyS W w lst n L t = x at *
    obtain ⟨s, k, B⟩ := x
    simp only at hy hk hs d2 hD ⊢
    have hP := hy.p (by omega) (by omega) hL hi
    have l24 := d2.len
    have eL : B.2.1 k = L k := by rw [hy.2.1]
    have hkB : k < B.1 := by rw [hy.1]; exact hk
    have ebk := d2.bk hkB
    have e1 := d2.1
    have hB' := hP.1 k hkB
    have hSD : Sm D nb := ⟨hn, by rw [d1 _ (by omega)]; exact hS.2.1, hS.2.2.1.fr (fun o _ _ => d1 _ (by omega)), fun s hs => by rw [d1 _ (by omega)]; exact hS.2.2.2 s hs⟩
    have gc : goA (D 81) (wC D) lst B s k ↔ goA W w lst B s k := goA_congr hP hs hkB (fun s hs => by rw [d1 _ (by omega)]; exact hW s hs) (fun b hb => by
      have := hw b hb
      unfold wC at this ⊢
      rw [d1 _ (by omega)]; exact this)
    have ee : (k : Int) + 1 = ((k + 1 : Nat) : Int) := by omega
    by_cases c : goA W w lst B s k
    · rw [lyT_yes (t := (s, k, B)) c]
      refine ⟨up D 87 (L k) (s : Nat), fun a ha => by rw [up_ne ha, d1 a ha], d2.lay hn hy hP hs hk, fun K => (hD K).trans (lp_step fun kc => ?_)⟩
      have ft : ∀ K, PX8_firstThatTakes (ad z 80) (ad z 85) (ad z 3) (J (B.2.1 k : Nat)) (J (s : Nat)) (J lst) (lay z g D) K = K (J (s : Nat)) := fun K => by
        unfold PX8_firstThatTakes
        simp (disch := omega) only [J_add, J_sub, J_mul, J_lt, J_le, J_eq, xbr_true, xbr_false, xbr_pos, xbr_neg, Int.toNat_natCast, all_eq, ex_eq, t_0, q_0_0, q_0_1, q_0_2, q_0_3, q_0_4, q_0_5, q_0_6, q_0_7, q_0_8, q_0_9, i_0_10, p_0_10, i_0_11, p_0_11, i_0_12, p_0_12, t_1, q_1_0, t_3, q_3_0, q_3_1, i_3_2, p_3_2, i_3_3, p_3_3, t_80, q_80_0, t_88, q_88_0, t_90, q_90_0, t_92, q_92_0, q_92_1, q_92_2, i_92_3, p_92_3, i_92_4, p_92_4, t_96, q_96_0, i_96_1, p_96_1, i_96_2, p_96_2, i_96_3, p_96_3, t_100, q_100_0, i_100_1, p_100_1, i_100_2, p_100_2, i_100_3, p_100_3, t_104, q_104_1, q_104_2, q_104_3, q_104_4, q_104_5, q_104_6, q_104_8, q_104_9, q_104_11, q_104_12, q_104_18, q_104_21, q_104_22, q_104_23, q_104_24, q_104_26, q_104_27, q_104_28, q_104_30, q_104_31, i_104_0, p_104_0, i_104_7, p_104_7, i_104_10, p_104_10, i_104_13, p_104_13, i_104_14, p_104_14, i_104_15, p_104_15, i_104_16, p_104_16, i_104_17, p_104_17, i_104_19, p_104_19, i_104_20, p_104_20, i_104_25, p_104_25, i_104_29, p_104_29, a_2, w_2, a_81, w_81, a_89, w_89, a_91, w_91, a_93, w_93, a_94, w_94, a_95, w_95, a_105, w_105, a_106, w_106, a_107, w_107, a_108, w_108, a_109, w_109, a_110, w_110, a_111, w_111, a_112, w_112, a_113, w_113, a_114, w_114, a_115, w_115, a_116, w_116, a_117, w_117, a_118, w_118, a_119, w_119, a_120, w_120, a_121, w_121, a_122, w_122, a_123, w_123, a_124, w_124]
        exact lp_last fun kc => s_ftt_yes r85 d2 hP hSD hs hkB h1 h2 (gc.mpr c) kc
      rw [eL] at ebk hB'
      simp only [eL] at ft
      unfold BX8_layAnew_53 CX8_layAnew_53
      simp (disch := omega) only [J_add, J_sub, J_mul, J_lt, J_le, J_eq, xbr_true, xbr_false, xbr_pos, xbr_neg, Int.toNat_natCast, all_eq, ex_eq, t_0, q_0_0, q_0_1, q_0_2, q_0_3, q_0_4, q_0_5, q_0_6, q_0_7, q_0_8, q_0_9, i_0_10, p_0_10, i_0_11, p_0_11, i_0_12, p_0_12, t_1, q_1_0, t_3, q_3_0, q_3_1, i_3_2, p_3_2, i_3_3, p_3_3, t_80, q_80_0, t_88, q_88_0, t_90, q_90_0, t_92, q_92_0, q_92_1, q_92_2, i_92_3, p_92_3, i_92_4, p_92_4, t_96, q_96_0, i_96_1, p_96_1, i_96_2, p_96_2, i_96_3, p_96_3, t_100, q_100_0, i_100_1, p_100_1, i_100_2, p_100_2, i_100_3, p_100_3, t_104, q_104_1, q_104_2, q_104_3, q_104_4, q_104_5, q_104_6, q_104_8, q_104_9, q_104_11, q_104_12, q_104_18, q_104_21, q_104_22, q_104_23, q_104_24, q_104_26, q_104_27, q_104_28, q_104_30, q_104_31, i_104_0, p_104_0, i_104_7, p_104_7, i_104_10, p_104_10, i_104_13, p_104_13, i_104_14, p_104_14, i_104_15, p_104_15, i_104_16, p_104_16, i_104_17, p_104_17, i_104_19, p_104_19, i_104_20, p_104_20, i_104_25, p_104_25, i_104_29, p_104_29, a_2, w_2, a_81, w_81, a_89, w_89, a_91, w_91, a_93, w_93, a_94, w_94, a_95, w_95, a_105, w_105, a_106, w_106, a_107, w_107, a_108, w_108, a_109, w_109, a_110, w_110, a_111, w_111, a_112, w_112, a_113, w_113, a_114, w_114, a_115, w_115, a_116, w_116, a_117, w_117, a_118, w_118, a_119, w_119, a_120, w_120, a_121, w_121, a_122, w_122, a_123, w_123, a_124, w_124, s_size r85, e1, s_bookAt r85 d2.2.2.2.2, ebk, ft, s_isShelf, if_pos (show 0 ≤ (s : Int) ∧ (s : Int) < 8 by omega), s_pass r85, ee]
    · rw [lyT_no (t := (s, k, B)) c]
      refine ⟨D, d1, d2, fun K => (hD K).trans (lp_same fun kc => ?_)⟩
      have ft : ∀ K, PX8_firstThatTakes (ad z 80) (ad z 85) (ad z 3) (J (B.2.1 k : Nat)) (J (s : Nat)) (J lst) (lay z g D) K = PX8_firstThatTakes (ad z 80) (ad z 85) (ad z 3) (J (B.2.1 k : Nat)) (J (s + 1 : Nat)) (J lst) (lay z g D) K := fun K => by
        unfold PX8_firstThatTakes
        simp (disch := omega) only [J_add, J_sub, J_mul, J_lt, J_le, J_eq, xbr_true, xbr_false, xbr_pos, xbr_neg, Int.toNat_natCast, all_eq, ex_eq, t_0, q_0_0, q_0_1, q_0_2, q_0_3, q_0_4, q_0_5, q_0_6, q_0_7, q_0_8, q_0_9, i_0_10, p_0_10, i_0_11, p_0_11, i_0_12, p_0_12, t_1, q_1_0, t_3, q_3_0, q_3_1, i_3_2, p_3_2, i_3_3, p_3_3, t_80, q_80_0, t_88, q_88_0, t_90, q_90_0, t_92, q_92_0, q_92_1, q_92_2, i_92_3, p_92_3, i_92_4, p_92_4, t_96, q_96_0, i_96_1, p_96_1, i_96_2, p_96_2, i_96_3, p_96_3, t_100, q_100_0, i_100_1, p_100_1, i_100_2, p_100_2, i_100_3, p_100_3, t_104, q_104_1, q_104_2, q_104_3, q_104_4, q_104_5, q_104_6, q_104_8, q_104_9, q_104_11, q_104_12, q_104_18, q_104_21, q_104_22, q_104_23, q_104_24, q_104_26, q_104_27, q_104_28, q_104_30, q_104_31, i_104_0, p_104_0, i_104_7, p_104_7, i_104_10, p_104_10, i_104_13, p_104_13, i_104_14, p_104_14, i_104_15, p_104_15, i_104_16, p_104_16, i_104_17, p_104_17, i_104_19, p_104_19, i_104_20, p_104_20, i_104_25, p_104_25, i_104_29, p_104_29, a_2, w_2, a_81, w_81, a_89, w_89, a_91, w_91, a_93, w_93, a_94, w_94, a_95, w_95, a_105, w_105, a_106, w_106, a_107, w_107, a_108, w_108, a_109, w_109, a_110, w_110, a_111, w_111, a_112, w_112, a_113, w_113, a_114, w_114, a_115, w_115, a_116, w_116, a_117, w_117, a_118, w_118, a_119, w_119, a_120, w_120, a_121, w_121, a_122, w_122, a_123, w_123, a_124, w_124]
        exact lp_step fun kc => s_ftt_no r85 d2 hP hSD hs hkB h1 h2 (fun q => c (gc.mp q)) kc
      unfold BX8_layAnew_53 CX8_layAnew_53
      simp (disch := omega) only [J_add, J_sub, J_mul, J_lt, J_le, J_eq, xbr_true, xbr_false, xbr_pos, xbr_neg, Int.toNat_natCast, all_eq, ex_eq, t_0, q_0_0, q_0_1, q_0_2, q_0_3, q_0_4, q_0_5, q_0_6, q_0_7, q_0_8, q_0_9, i_0_10, p_0_10, i_0_11, p_0_11, i_0_12, p_0_12, t_1, q_1_0, t_3, q_3_0, q_3_1, i_3_2, p_3_2, i_3_3, p_3_3, t_80, q_80_0, t_88, q_88_0, t_90, q_90_0, t_92, q_92_0, q_92_1, q_92_2, i_92_3, p_92_3, i_92_4, p_92_4, t_96, q_96_0, i_96_1, p_96_1, i_96_2, p_96_2, i_96_3, p_96_3, t_100, q_100_0, i_100_1, p_100_1, i_100_2, p_100_2, i_100_3, p_100_3, t_104, q_104_1, q_104_2, q_104_3, q_104_4, q_104_5, q_104_6, q_104_8, q_104_9, q_104_11, q_104_12, q_104_18, q_104_21, q_104_22, q_104_23, q_104_24, q_104_26, q_104_27, q_104_28, q_104_30, q_104_31, i_104_0, p_104_0, i_104_7, p_104_7, i_104_10, p_104_10, i_104_13, p_104_13, i_104_14, p_104_14, i_104_15, p_104_15, i_104_16, p_104_16, i_104_17, p_104_17, i_104_19, p_104_19, i_104_20, p_104_20, i_104_25, p_104_25, i_104_29, p_104_29, a_2, w_2, a_81, w_81, a_89, w_89, a_91, w_91, a_93, w_93, a_94, w_94, a_95, w_95, a_105, w_105, a_106, w_106, a_107, w_107, a_108, w_108, a_109, w_109, a_110, w_110, a_111, w_111, a_112, w_112, a_113, w_113, a_114, w_114, a_115, w_115, a_116, w_116, a_117, w_117, a_118, w_118, a_119, w_119, a_120, w_120, a_121, w_121, a_122, w_122, a_123, w_123, a_124, w_124, s_size r85, e1, s_bookAt r85 d2.2.2.2.2, ebk, ft]
/-- counted over the line of A as over the books of it -/
theorem RwOk.count (hA : RwOk A nb) (f : Nat → Bool) : cnt nb (fun b => decide (idx A b < A.1) && f b) = cnt A.1 (fun j => f (A.2.1 j)) := by
  have e1 := cnt_sum nb (fun b => decide (idx A b < A.1) && f b)
  have e2 := cnt_sum A.1 (fun j => f (A.2.1 j))
  have e3 := sumZ_perm (F := fun b => if (decide (idx A b < A.1) && f b) = true then 1 else 0) (ln := A.2.1) (n := nb) (m := A.1) hA.1 hA.2.1 (fun b hb hq => by
    have : decide (idx A b < A.1) = false := decide_eq_false fun c => hq _ c (idx_at c)
    simp [this])
  have e4 : sumZ (fun i => (fun b => if (decide (idx A b < A.1) && f b) = true then (1 : Int) else 0) (A.2.1 i)) A.1 = sumZ (fun j => if f (A.2.1 j) = true then 1 else 0) A.1 := sumZ_congr fun i hi => by
    show (if (decide (idx A (A.2.1 i) < A.1) && f (A.2.1 i)) = true then (1 : Int) else 0) = _
    rw [idx_of hA hi, decide_eq_true hi, Bool.true_and]
  rw [e4] at e3
  omega
theorem cnt_true : ∀ n, cnt n (fun _ => true) = n := by
  intro n
  induction n with
  | zero => rfl
  | succ n ih => show cnt n _ + 1 = _; rw [ih]
/-- the line of the books that stand, in order -/
def lnS (C : Nat → Nat → Int) (A : Rw) (nb : Nat) : Rw := srtA C 0 (fun b => decide (idx A b < A.1)) nb
theorem lnS_len (hB : BooksOk C) (hA : RwOk A nb) (hn : nb ≤ 24) : (lnS C A nb).1 = A.1 := by
  have h := srtA_ok (k := 0) (P := fun b => decide (idx A b < A.1)) hB hn
  have e1 := h.count (fun _ => true)
  have e2 := hA.count (fun _ => true)
  have e3 : cnt (lnS C A nb).1 (fun _ => true) = (lnS C A nb).1 := cnt_true _
  rw [cnt_true] at e2
  have e4 : cnt (srtA C 0 (fun b => decide (idx A b < A.1)) nb).1 (fun _ => true) = (srtA C 0 (fun b => decide (idx A b < A.1)) nb).1 := cnt_true _
  unfold lnS
  omega
theorem lnS_rank (hB : BooksOk C) (hA : RwOk A nb) (hn : nb ≤ 24) {i : Nat} (hi : i < (lnS C A nb).1) : cnt A.1 (fun j => decide (ordK C (A.2.1 j) 0 < ordK C ((lnS C A nb).2.1 i) 0)) = i := by
  have h := srtA_ok (k := 0) (P := fun b => decide (idx A b < A.1)) hB hn
  have e1 := h.rank hi
  have e2 := h.count (fun b => decide (ordK C b 0 < ordK C ((lnS C A nb).2.1 i) 0))
  have e3 := hA.count (fun b => decide (ordK C b 0 < ordK C ((lnS C A nb).2.1 i) 0))
  rw [← e3, e2]
  exact e1
theorem s_layAnew (h : Inv C nb A) {lst : Int} (h1 : 0 ≤ lst) (h2 : lst ≤ 30) : ∃ D : Nat → Nat → Int, (∀ a, a < 85 ∨ 87 < a → D a = C a) ∧ RowC D 85 (lyS (C 110) (C 109) lst (lnS C A nb).1 (lnS C A nb).2.1 (lyE (C 110) (C 109) lst (lnS C A nb).1 (lnS C A nb).2.1)).2.2 ∧ ∀ K, PX8_layAnew (ad z 80) (ad z 85) (ad z 82) (ad z 3) (J lst) (lay z g C) K = K (J (if (lnS C A nb).1 ≤ (lyS (C 110) (C 109) lst (lnS C A nb).1 (lnS C A nb).2.1 (lyE (C 110) (C 109) lst (lnS C A nb).1 (lnS C A nb).2.1)).2.1 then 1 else 0)) (lay z g D) := by
  obtain ⟨g1, g2, g3, g4, g5, g6, g7⟩ := h.2.1
  obtain ⟨k1, k2, k3⟩ := h.2.2.2.2.2.2.1
  have sr := fun n (hn : n ≤ 24) => srtC_row (k := 0) (P := fun b => decide (idx A b < A.1)) (s := 8) g5 h.2.2.2.2.2.2.2.1 (by omega) hn
  have so := fun n (hn : n ≤ 24) => srtA_ok (k := 0) (P := fun b => decide (idx A b < A.1)) g5 hn
  have sne := fun n a (ha : a < 85 ∨ 85 + 2 < a) => srtC_ne (C := C) (k := 0) (P := fun b => decide (idx A b < A.1)) (s := 8) (n := n) ha
  have sln := fun n => srtA_len (C := C) (k := 0) (P := fun b => decide (idx A b < A.1)) n
  obtain ⟨E, hE⟩ : ∃ E, E = srtC C 85 0 (fun b => decide (idx A b < A.1)) 8 nb := ⟨_, rfl⟩
  have cl : ∀ K, PX8_layAnew (ad z 80) (ad z 85) (ad z 82) (ad z 3) (J lst) (lay z g C) K = lp (BX8_layAnew_53 K (ad z 80) (ad z 85) (ad z 3) (J lst)) (lay z g E, J 0, J 0) := by
    intro K
    unfold PX8_layAnew
    simp (disch := omega) only [J_add, J_sub, J_mul, J_lt, J_le, J_eq, xbr_true, xbr_false, xbr_pos, xbr_neg, Int.toNat_natCast, all_eq, ex_eq, t_0, q_0_0, q_0_1, q_0_2, q_0_3, q_0_4, q_0_5, q_0_6, q_0_7, q_0_8, q_0_9, i_0_10, p_0_10, i_0_11, p_0_11, i_0_12, p_0_12, t_1, q_1_0, t_3, q_3_0, q_3_1, i_3_2, p_3_2, i_3_3, p_3_3, t_80, q_80_0, t_88, q_88_0, t_90, q_90_0, t_92, q_92_0, q_92_1, q_92_2, i_92_3, p_92_3, i_92_4, p_92_4, t_96, q_96_0, i_96_1, p_96_1, i_96_2, p_96_2, i_96_3, p_96_3, t_100, q_100_0, i_100_1, p_100_1, i_100_2, p_100_2, i_100_3, p_100_3, t_104, q_104_1, q_104_2, q_104_3, q_104_4, q_104_5, q_104_6, q_104_8, q_104_9, q_104_11, q_104_12, q_104_18, q_104_21, q_104_22, q_104_23, q_104_24, q_104_26, q_104_27, q_104_28, q_104_30, q_104_31, i_104_0, p_104_0, i_104_7, p_104_7, i_104_10, p_104_10, i_104_13, p_104_13, i_104_14, p_104_14, i_104_15, p_104_15, i_104_16, p_104_16, i_104_17, p_104_17, i_104_19, p_104_19, i_104_20, p_104_20, i_104_25, p_104_25, i_104_29, p_104_29, a_2, w_2, a_81, w_81, a_89, w_89, a_91, w_91, a_93, w_93, a_94, w_94, a_95, w_95, a_105, w_105, a_106, w_106, a_107, w_107, a_108, w_108, a_109, w_109, a_110, w_110, a_111, w_111, a_112, w_112, a_113, w_113, a_114, w_114, a_115, w_115, a_116, w_116, a_117, w_117, a_118, w_118, a_119, w_119, a_120, w_120, a_121, w_121, a_122, w_122, a_123, w_123, a_124, w_124, s_clear r85]
    refine lp_for (fun n : Nat => (lay z g (srtC C 85 0 (fun b => decide (idx A b < A.1)) 8 n), J (n : Int))) 0 nb _ (by omega) ?_ ?_
    · intro n _ hn kc
      have e3 : srtC C 85 0 (fun b => decide (idx A b < A.1)) 8 n 3 2 = nb := by rw [sne _ _ (by omega)]; exact g2
      have hb := g5.fr (C' := srtC C 85 0 (fun b => decide (idx A b < A.1)) 8 n) (fun o _ _ => sne _ _ (by omega))
      have sp := (sr n (by omega)).spot (C := C) (fun o _ _ => sne _ _ (by omega)) n 0
      have l := sln n
      have r := (sr n (by omega)).1
      have q := spotA_le C (srtA C 0 (fun b => decide (idx A b < A.1)) n) n 0
      have k1' : RowC (srtC C 85 0 (fun b => decide (idx A b < A.1)) 8 n) 82 A := k1.fr (sne _ _ (by omega)) (sne _ _ (by omega)) (sne _ _ (by omega))
      have en : (n : Int) + 1 = ((n + 1 : Nat) : Int) := by omega
      unfold BX8_layAnew_7 CX8_layAnew_7
      by_cases c : idx A n < A.1
      · have es : srtC C 85 0 (fun b => decide (idx A b < A.1)) 8 (n + 1) = insC (srtC C 85 0 (fun b => decide (idx A b < A.1)) 8 n) 85 (spotA C (srtA C 0 (fun b => decide (idx A b < A.1)) n) n 0) n 8 := by
          show (if decide (idx A n < A.1) = true then _ else _) = _
          rw [if_pos (decide_eq_true c)]
        rw [es]
        simp (disch := omega) only [J_add, J_sub, J_mul, J_lt, J_le, J_eq, xbr_true, xbr_false, xbr_pos, xbr_neg, Int.toNat_natCast, all_eq, ex_eq, t_0, q_0_0, q_0_1, q_0_2, q_0_3, q_0_4, q_0_5, q_0_6, q_0_7, q_0_8, q_0_9, i_0_10, p_0_10, i_0_11, p_0_11, i_0_12, p_0_12, t_1, q_1_0, t_3, q_3_0, q_3_1, i_3_2, p_3_2, i_3_3, p_3_3, t_80, q_80_0, t_88, q_88_0, t_90, q_90_0, t_92, q_92_0, q_92_1, q_92_2, i_92_3, p_92_3, i_92_4, p_92_4, t_96, q_96_0, i_96_1, p_96_1, i_96_2, p_96_2, i_96_3, p_96_3, t_100, q_100_0, i_100_1, p_100_1, i_100_2, p_100_2, i_100_3, p_100_3, t_104, q_104_1, q_104_2, q_104_3, q_104_4, q_104_5, q_104_6, q_104_8, q_104_9, q_104_11, q_104_12, q_104_18, q_104_21, q_104_22, q_104_23, q_104_24, q_104_26, q_104_27, q_104_28, q_104_30, q_104_31, i_104_0, p_104_0, i_104_7, p_104_7, i_104_10, p_104_10, i_104_13, p_104_13, i_104_14, p_104_14, i_104_15, p_104_15, i_104_16, p_104_16, i_104_17, p_104_17, i_104_19, p_104_19, i_104_20, p_104_20, i_104_25, p_104_25, i_104_29, p_104_29, a_2, w_2, a_81, w_81, a_89, w_89, a_91, w_91, a_93, w_93, a_94, w_94, a_95, w_95, a_105, w_105, a_106, w_106, a_107, w_107, a_108, w_108, a_109, w_109, a_110, w_110, a_111, w_111, a_112, w_112, a_113, w_113, a_114, w_114, a_115, w_115, a_116, w_116, a_117, w_117, a_118, w_118, a_119, w_119, a_120, w_120, a_121, w_121, a_122, w_122, a_123, w_123, a_124, w_124, s_nb, e3, RowC.stands k1' k3 g1 (show n < 24 by omega), if_pos c, s_spotFor hb r85 (sr n (by omega)).2.2.2.2, sp, s_insert r85, en]
      · have es : srtC C 85 0 (fun b => decide (idx A b < A.1)) 8 (n + 1) = srtC C 85 0 (fun b => decide (idx A b < A.1)) 8 n := by
          show (if decide (idx A n < A.1) = true then _ else _) = _
          rw [if_neg (by simpa using c)]
        rw [es]
        simp (disch := omega) only [J_add, J_sub, J_mul, J_lt, J_le, J_eq, xbr_true, xbr_false, xbr_pos, xbr_neg, Int.toNat_natCast, all_eq, ex_eq, t_0, q_0_0, q_0_1, q_0_2, q_0_3, q_0_4, q_0_5, q_0_6, q_0_7, q_0_8, q_0_9, i_0_10, p_0_10, i_0_11, p_0_11, i_0_12, p_0_12, t_1, q_1_0, t_3, q_3_0, q_3_1, i_3_2, p_3_2, i_3_3, p_3_3, t_80, q_80_0, t_88, q_88_0, t_90, q_90_0, t_92, q_92_0, q_92_1, q_92_2, i_92_3, p_92_3, i_92_4, p_92_4, t_96, q_96_0, i_96_1, p_96_1, i_96_2, p_96_2, i_96_3, p_96_3, t_100, q_100_0, i_100_1, p_100_1, i_100_2, p_100_2, i_100_3, p_100_3, t_104, q_104_1, q_104_2, q_104_3, q_104_4, q_104_5, q_104_6, q_104_8, q_104_9, q_104_11, q_104_12, q_104_18, q_104_21, q_104_22, q_104_23, q_104_24, q_104_26, q_104_27, q_104_28, q_104_30, q_104_31, i_104_0, p_104_0, i_104_7, p_104_7, i_104_10, p_104_10, i_104_13, p_104_13, i_104_14, p_104_14, i_104_15, p_104_15, i_104_16, p_104_16, i_104_17, p_104_17, i_104_19, p_104_19, i_104_20, p_104_20, i_104_25, p_104_25, i_104_29, p_104_29, a_2, w_2, a_81, w_81, a_89, w_89, a_91, w_91, a_93, w_93, a_94, w_94, a_95, w_95, a_105, w_105, a_106, w_106, a_107, w_107, a_108, w_108, a_109, w_109, a_110, w_110, a_111, w_111, a_112, w_112, a_113, w_113, a_114, w_114, a_115, w_115, a_116, w_116, a_117, w_117, a_118, w_118, a_119, w_119, a_120, w_120, a_121, w_121, a_122, w_122, a_123, w_123, a_124, w_124, s_nb, e3, RowC.stands k1' k3 g1 (show n < 24 by omega), if_neg c, en]
    · intro kc
      have e3 : srtC C 85 0 (fun b => decide (idx A b < A.1)) 8 nb 3 2 = nb := by rw [sne _ _ (by omega)]; exact g2
      unfold BX8_layAnew_7 CX8_layAnew_7
      simp (disch := omega) only [J_add, J_sub, J_mul, J_lt, J_le, J_eq, xbr_true, xbr_false, xbr_pos, xbr_neg, Int.toNat_natCast, all_eq, ex_eq, t_0, q_0_0, q_0_1, q_0_2, q_0_3, q_0_4, q_0_5, q_0_6, q_0_7, q_0_8, q_0_9, i_0_10, p_0_10, i_0_11, p_0_11, i_0_12, p_0_12, t_1, q_1_0, t_3, q_3_0, q_3_1, i_3_2, p_3_2, i_3_3, p_3_3, t_80, q_80_0, t_88, q_88_0, t_90, q_90_0, t_92, q_92_0, q_92_1, q_92_2, i_92_3, p_92_3, i_92_4, p_92_4, t_96, q_96_0, i_96_1, p_96_1, i_96_2, p_96_2, i_96_3, p_96_3, t_100, q_100_0, i_100_1, p_100_1, i_100_2, p_100_2, i_100_3, p_100_3, t_104, q_104_1, q_104_2, q_104_3, q_104_4, q_104_5, q_104_6, q_104_8, q_104_9, q_104_11, q_104_12, q_104_18, q_104_21, q_104_22, q_104_23, q_104_24, q_104_26, q_104_27, q_104_28, q_104_30, q_104_31, i_104_0, p_104_0, i_104_7, p_104_7, i_104_10, p_104_10, i_104_13, p_104_13, i_104_14, p_104_14, i_104_15, p_104_15, i_104_16, p_104_16, i_104_17, p_104_17, i_104_19, p_104_19, i_104_20, p_104_20, i_104_25, p_104_25, i_104_29, p_104_29, a_2, w_2, a_81, w_81, a_89, w_89, a_91, w_91, a_93, w_93, a_94, w_94, a_95, w_95, a_105, w_105, a_106, w_106, a_107, w_107, a_108, w_108, a_109, w_109, a_110, w_110, a_111, w_111, a_112, w_112, a_113, w_113, a_114, w_114, a_115, w_115, a_116, w_116, a_117, w_117, a_118, w_118, a_119, w_119, a_120, w_120, a_121, w_121, a_122, w_122, a_123, w_123, a_124, w_124, s_nb, e3, hE]
  have fE : ∀ a, a < 85 ∨ 85 + 2 < a → E a = C a := fun a ha => by rw [hE]; exact sne nb a ha
  have rS := sr nb g1
  have oS := so nb g1
  rw [← hE] at rS
  have rE : RowC E 85 ((lnS C A nb).1, (lnS C A nb).2.1, fun _ => 0) := by
    refine ⟨rS.1, rS.2.1, fun i hi => ?_, rS.2.2.2.1, rS.2.2.2.2⟩
    have e8 : shAt (fun _ : Nat => 0) i = 8 := fst1_none fun j hj => by
      rw [show sumN (fun _ => 0) (j + 1) = 0 from (by
        have : ∀ m, sumN (fun _ => 0) m = 0 := by
          intro m
          induction m with
          | zero => rfl
          | succ m ih => show sumN _ m + 0 = 0; rw [ih]
        exact this _)]
      simp
    show E (85 + 2) ((lnS C A nb).2.1 i) = ((shAt (fun _ => 0) i : Nat) : Int)
    rw [e8]
    exact rS.2.2.1 i hi
  have hSE : Sm E nb := ⟨g1, by rw [fE _ (by omega)]; exact g2, g5.fr (fun o _ _ => fE _ (by omega)), fun s hs => by rw [fE _ (by omega)]; exact h.sm.2.2.2 s hs⟩
  have hLn : ∀ i, i < (lnS C A nb).1 → (lnS C A nb).2.1 i < nb := fun i hi => (oS.1 i hi).1
  have hLi : ∀ i j, i < (lnS C A nb).1 → j < (lnS C A nb).1 → (lnS C A nb).2.1 i = (lnS C A nb).2.1 j → i = j := oS.inj
  have hW : ∀ s, s < 8 → E 81 s = C 110 s := fun s hs => by rw [fE _ (by omega)]; exact h.W s hs
  have hw : ∀ b, b < nb → wC E b = C 109 b := fun b hb => by
    have := h.w b hb
    unfold wC at this ⊢
    rw [fE _ (by omega)]; exact this
  obtain ⟨D, d1, d2, hD⟩ := s_lay53 (z := z) (g := g) hLn hLi rE hSE hW hw h1 h2 _ (Nat.le_refl _)
  obtain ⟨hy, -⟩ := lyS_ok (W := C 110) (w := C 109) (lst := lst) (n := (lnS C A nb).1) (L := (lnS C A nb).2.1) (lyE (C 110) (C 109) lst (lnS C A nb).1 (lnS C A nb).2.1)
  obtain ⟨ht1, ht2, ht3⟩ := lyE_at (W := C 110) (w := C 109) (lst := lst) (n := (lnS C A nb).1) (L := (lnS C A nb).2.1)
  generalize lyS (C 110) (C 109) lst (lnS C A nb).1 (lnS C A nb).2.1 (lyE (C 110) (C 109) lst (lnS C A nb).1 (lnS C A nb).2.1) = x at *
  obtain ⟨s, k, B⟩ := x
  simp only at hy ht1 ht2 ht3 d2 hD ⊢
  refine ⟨D, fun a ha => by rw [d1 a (by omega), fE a (by omega)], d2, fun K => ?_⟩
  rw [cl, hD]
  refine lp_last fun kc => ?_
  have hP := hy.p ht3 ht2 hLn hLi
  have l24 := d2.len
  have e1 := d2.1
  have eB := hy.1
  unfold BX8_layAnew_53 CX8_layAnew_53
  by_cases c : (lnS C A nb).1 ≤ k
  · rw [if_pos c]
    simp (disch := omega) only [J_add, J_sub, J_mul, J_lt, J_le, J_eq, xbr_true, xbr_false, xbr_pos, xbr_neg, Int.toNat_natCast, all_eq, ex_eq, t_0, q_0_0, q_0_1, q_0_2, q_0_3, q_0_4, q_0_5, q_0_6, q_0_7, q_0_8, q_0_9, i_0_10, p_0_10, i_0_11, p_0_11, i_0_12, p_0_12, t_1, q_1_0, t_3, q_3_0, q_3_1, i_3_2, p_3_2, i_3_3, p_3_3, t_80, q_80_0, t_88, q_88_0, t_90, q_90_0, t_92, q_92_0, q_92_1, q_92_2, i_92_3, p_92_3, i_92_4, p_92_4, t_96, q_96_0, i_96_1, p_96_1, i_96_2, p_96_2, i_96_3, p_96_3, t_100, q_100_0, i_100_1, p_100_1, i_100_2, p_100_2, i_100_3, p_100_3, t_104, q_104_1, q_104_2, q_104_3, q_104_4, q_104_5, q_104_6, q_104_8, q_104_9, q_104_11, q_104_12, q_104_18, q_104_21, q_104_22, q_104_23, q_104_24, q_104_26, q_104_27, q_104_28, q_104_30, q_104_31, i_104_0, p_104_0, i_104_7, p_104_7, i_104_10, p_104_10, i_104_13, p_104_13, i_104_14, p_104_14, i_104_15, p_104_15, i_104_16, p_104_16, i_104_17, p_104_17, i_104_19, p_104_19, i_104_20, p_104_20, i_104_25, p_104_25, i_104_29, p_104_29, a_2, w_2, a_81, w_81, a_89, w_89, a_91, w_91, a_93, w_93, a_94, w_94, a_95, w_95, a_105, w_105, a_106, w_106, a_107, w_107, a_108, w_108, a_109, w_109, a_110, w_110, a_111, w_111, a_112, w_112, a_113, w_113, a_114, w_114, a_115, w_115, a_116, w_116, a_117, w_117, a_118, w_118, a_119, w_119, a_120, w_120, a_121, w_121, a_122, w_122, a_123, w_123, a_124, w_124, s_size r85, e1, isB1, true_and]
  · rw [if_neg c]
    have hs8 : s = 8 := by omega
    subst hs8
    have hkB : k < B.1 := by omega
    have ebk := d2.bk hkB
    have ft : ∀ K, PX8_firstThatTakes (ad z 80) (ad z 85) (ad z 3) (J (B.2.1 k : Nat)) (J ((8 : Nat) : Int)) (J lst) (lay z g D) K = K (J 8) := fun K => by
      unfold PX8_firstThatTakes
      simp (disch := omega) only [J_add, J_sub, J_mul, J_lt, J_le, J_eq, xbr_true, xbr_false, xbr_pos, xbr_neg, Int.toNat_natCast, all_eq, ex_eq, t_0, q_0_0, q_0_1, q_0_2, q_0_3, q_0_4, q_0_5, q_0_6, q_0_7, q_0_8, q_0_9, i_0_10, p_0_10, i_0_11, p_0_11, i_0_12, p_0_12, t_1, q_1_0, t_3, q_3_0, q_3_1, i_3_2, p_3_2, i_3_3, p_3_3, t_80, q_80_0, t_88, q_88_0, t_90, q_90_0, t_92, q_92_0, q_92_1, q_92_2, i_92_3, p_92_3, i_92_4, p_92_4, t_96, q_96_0, i_96_1, p_96_1, i_96_2, p_96_2, i_96_3, p_96_3, t_100, q_100_0, i_100_1, p_100_1, i_100_2, p_100_2, i_100_3, p_100_3, t_104, q_104_1, q_104_2, q_104_3, q_104_4, q_104_5, q_104_6, q_104_8, q_104_9, q_104_11, q_104_12, q_104_18, q_104_21, q_104_22, q_104_23, q_104_24, q_104_26, q_104_27, q_104_28, q_104_30, q_104_31, i_104_0, p_104_0, i_104_7, p_104_7, i_104_10, p_104_10, i_104_13, p_104_13, i_104_14, p_104_14, i_104_15, p_104_15, i_104_16, p_104_16, i_104_17, p_104_17, i_104_19, p_104_19, i_104_20, p_104_20, i_104_25, p_104_25, i_104_29, p_104_29, a_2, w_2, a_81, w_81, a_89, w_89, a_91, w_91, a_93, w_93, a_94, w_94, a_95, w_95, a_105, w_105, a_106, w_106, a_107, w_107, a_108, w_108, a_109, w_109, a_110, w_110, a_111, w_111, a_112, w_112, a_113, w_113, a_114, w_114, a_115, w_115, a_116, w_116, a_117, w_117, a_118, w_118, a_119, w_119, a_120, w_120, a_121, w_121, a_122, w_122, a_123, w_123, a_124, w_124]
      refine lp_last fun kc => ?_
      unfold BX8_firstThatTakes_4 CX8_firstThatTakes_4
      simp (disch := omega) only [J_add, J_sub, J_mul, J_lt, J_le, J_eq, xbr_true, xbr_false, xbr_pos, xbr_neg, Int.toNat_natCast, all_eq, ex_eq]
    simp (disch := omega) only [J_add, J_sub, J_mul, J_lt, J_le, J_eq, xbr_true, xbr_false, xbr_pos, xbr_neg, Int.toNat_natCast, all_eq, ex_eq, t_0, q_0_0, q_0_1, q_0_2, q_0_3, q_0_4, q_0_5, q_0_6, q_0_7, q_0_8, q_0_9, i_0_10, p_0_10, i_0_11, p_0_11, i_0_12, p_0_12, t_1, q_1_0, t_3, q_3_0, q_3_1, i_3_2, p_3_2, i_3_3, p_3_3, t_80, q_80_0, t_88, q_88_0, t_90, q_90_0, t_92, q_92_0, q_92_1, q_92_2, i_92_3, p_92_3, i_92_4, p_92_4, t_96, q_96_0, i_96_1, p_96_1, i_96_2, p_96_2, i_96_3, p_96_3, t_100, q_100_0, i_100_1, p_100_1, i_100_2, p_100_2, i_100_3, p_100_3, t_104, q_104_1, q_104_2, q_104_3, q_104_4, q_104_5, q_104_6, q_104_8, q_104_9, q_104_11, q_104_12, q_104_18, q_104_21, q_104_22, q_104_23, q_104_24, q_104_26, q_104_27, q_104_28, q_104_30, q_104_31, i_104_0, p_104_0, i_104_7, p_104_7, i_104_10, p_104_10, i_104_13, p_104_13, i_104_14, p_104_14, i_104_15, p_104_15, i_104_16, p_104_16, i_104_17, p_104_17, i_104_19, p_104_19, i_104_20, p_104_20, i_104_25, p_104_25, i_104_29, p_104_29, a_2, w_2, a_81, w_81, a_89, w_89, a_91, w_91, a_93, w_93, a_94, w_94, a_95, w_95, a_105, w_105, a_106, w_106, a_107, w_107, a_108, w_108, a_109, w_109, a_110, w_110, a_111, w_111, a_112, w_112, a_113, w_113, a_114, w_114, a_115, w_115, a_116, w_116, a_117, w_117, a_118, w_118, a_119, w_119, a_120, w_120, a_121, w_121, a_122, w_122, a_123, w_123, a_124, w_124, s_size r85, e1, s_bookAt r85 d2.2.2.2.2, ebk, ft, s_isShelf, if_neg (show ¬ (0 ≤ (8 : Int) ∧ (8 : Int) < 8) by omega), isB0, true_and]
end LAYO
section LAYM
variable {z : Nat} {g : Mem} {C C' D E : Nat → Nat → Int} {nb : Nat} {A A' : Rw}
theorem m_lay78 {K : Int32 → Mem → Prop} {kc : Mem × Int32 → Prop} (w : WasM D A) (hA : RwOk A nb) (hl : A.1 ≤ 24) (hn : nb ≤ 24) (hB : ∀ b, b < nb → BkRel D b) (hO : BooksOk D) {b : Nat} (hb : b < nb) {x : Int32} : lp (BX11_lay_78 K kc (lay z g D) (ad z 104) x (J (b : Nat))) (J 0, J 0) = kc (lay z g (up D 111 (cnt A.1 (fun j => decide (ordK D (A.2.1 j) 0 < ordK D b 0))) (b : Nat)), J (b + 1 : Nat)) := by
  obtain ⟨w1, w2, w3⟩ := w
  refine lp_for (fun i : Nat => (J (cnt i (fun j => decide (ordK D (A.2.1 j) 0 < ordK D b 0)) : Nat), J (i : Int))) 0 A.1 _ (by omega) ?_ ?_
  · intro i _ hi kc'
    have c1 := cnt_le i (fun j => decide (ordK D (A.2.1 j) 0 < ordK D b 0))
    have ha := hA.1 i hi
    unfold BX11_lay_78 CX11_lay_78
    simp (disch := omega) only [J_add, J_sub, J_mul, J_lt, J_le, J_eq, xbr_true, xbr_false, xbr_pos, xbr_neg, Int.toNat_natCast, all_eq, ex_eq, t_0, q_0_0, q_0_1, q_0_2, q_0_3, q_0_4, q_0_5, q_0_6, q_0_7, q_0_8, q_0_9, i_0_10, p_0_10, i_0_11, p_0_11, i_0_12, p_0_12, t_1, q_1_0, t_3, q_3_0, q_3_1, i_3_2, p_3_2, i_3_3, p_3_3, t_80, q_80_0, t_88, q_88_0, t_90, q_90_0, t_92, q_92_0, q_92_1, q_92_2, i_92_3, p_92_3, i_92_4, p_92_4, t_96, q_96_0, i_96_1, p_96_1, i_96_2, p_96_2, i_96_3, p_96_3, t_100, q_100_0, i_100_1, p_100_1, i_100_2, p_100_2, i_100_3, p_100_3, t_104, q_104_1, q_104_2, q_104_3, q_104_4, q_104_5, q_104_6, q_104_8, q_104_9, q_104_11, q_104_12, q_104_18, q_104_21, q_104_22, q_104_23, q_104_24, q_104_26, q_104_27, q_104_28, q_104_30, q_104_31, i_104_0, p_104_0, i_104_7, p_104_7, i_104_10, p_104_10, i_104_13, p_104_13, i_104_14, p_104_14, i_104_15, p_104_15, i_104_16, p_104_16, i_104_17, p_104_17, i_104_19, p_104_19, i_104_20, p_104_20, i_104_25, p_104_25, i_104_29, p_104_29, a_2, w_2, a_81, w_81, a_89, w_89, a_91, w_91, a_93, w_93, a_94, w_94, a_95, w_95, a_105, w_105, a_106, w_106, a_107, w_107, a_108, w_108, a_109, w_109, a_110, w_110, a_111, w_111, a_112, w_112, a_113, w_113, a_114, w_114, a_115, w_115, a_116, w_116, a_117, w_117, a_118, w_118, a_119, w_119, a_120, w_120, a_121, w_121, a_122, w_122, a_123, w_123, a_124, w_124, w1, w2 i hi, m_isAhead (hB _ ha) (hB b hb), aheadC_ord hO (show A.2.1 i < 24 by omega) (show b < 24 by omega)]
    by_cases c : ordK D (A.2.1 i) 0 < ordK D b 0
    · simp only [decide_eq_true_eq, if_pos c]
      simp (disch := omega) only [J_add, J_sub, J_mul, J_lt, J_le, J_eq, xbr_true, xbr_false, xbr_pos, xbr_neg, Int.toNat_natCast, all_eq, ex_eq]
      simp [cnt, c]
    · simp only [decide_eq_true_eq, if_neg c]
      simp (disch := omega) only [J_add, J_sub, J_mul, J_lt, J_le, J_eq, xbr_true, xbr_false, xbr_pos, xbr_neg, Int.toNat_natCast, all_eq, ex_eq]
      simp [cnt, c]
  · intro kc'
    have c1 := cnt_le A.1 (fun j => decide (ordK D (A.2.1 j) 0 < ordK D b 0))
    unfold BX11_lay_78 CX11_lay_78
    simp (disch := omega) only [J_add, J_sub, J_mul, J_lt, J_le, J_eq, xbr_true, xbr_false, xbr_pos, xbr_neg, Int.toNat_natCast, all_eq, ex_eq, t_0, q_0_0, q_0_1, q_0_2, q_0_3, q_0_4, q_0_5, q_0_6, q_0_7, q_0_8, q_0_9, i_0_10, p_0_10, i_0_11, p_0_11, i_0_12, p_0_12, t_1, q_1_0, t_3, q_3_0, q_3_1, i_3_2, p_3_2, i_3_3, p_3_3, t_80, q_80_0, t_88, q_88_0, t_90, q_90_0, t_92, q_92_0, q_92_1, q_92_2, i_92_3, p_92_3, i_92_4, p_92_4, t_96, q_96_0, i_96_1, p_96_1, i_96_2, p_96_2, i_96_3, p_96_3, t_100, q_100_0, i_100_1, p_100_1, i_100_2, p_100_2, i_100_3, p_100_3, t_104, q_104_1, q_104_2, q_104_3, q_104_4, q_104_5, q_104_6, q_104_8, q_104_9, q_104_11, q_104_12, q_104_18, q_104_21, q_104_22, q_104_23, q_104_24, q_104_26, q_104_27, q_104_28, q_104_30, q_104_31, i_104_0, p_104_0, i_104_7, p_104_7, i_104_10, p_104_10, i_104_13, p_104_13, i_104_14, p_104_14, i_104_15, p_104_15, i_104_16, p_104_16, i_104_17, p_104_17, i_104_19, p_104_19, i_104_20, p_104_20, i_104_25, p_104_25, i_104_29, p_104_29, a_2, w_2, a_81, w_81, a_89, w_89, a_91, w_91, a_93, w_93, a_94, w_94, a_95, w_95, a_105, w_105, a_106, w_106, a_107, w_107, a_108, w_108, a_109, w_109, a_110, w_110, a_111, w_111, a_112, w_112, a_113, w_113, a_114, w_114, a_115, w_115, a_116, w_116, a_117, w_117, a_118, w_118, a_119, w_119, a_120, w_120, a_121, w_121, a_122, w_122, a_123, w_123, a_124, w_124, w1]
    rfl
theorem m_lay35 {K : Int32 → Mem → Prop} {kc : Mem × Int32 → Prop} (w : WasM D A) (hA : RwOk A nb) (hl : A.1 ≤ 24) (hn : nb ≤ 24) {b : Nat} (hb : b < nb) {x : Int32} : lp (BX11_lay_35 K kc (lay z g D) (ad z 104) x (J (b : Nat))) (J (-1), J 0) = if idx A b < A.1 then lp (BX11_lay_78 K kc (lay z g D) (ad z 104) x (J (b : Nat))) (J 0, J 0) else kc (lay z g D, J (b + 1 : Nat)) := by
  obtain ⟨w1, w2, w3⟩ := w
  have hx := fst1_le A.1 (fun i => A.2.1 i == b)
  have hx' : idx A b ≤ A.1 := hx
  have st : (J (-1), J 0) = (fun i : Nat => (J (if idx A b < i then (idx A b : Int) else -1), J (i : Int))) 0 := by
    show _ = (J (if idx A b < 0 then (idx A b : Int) else -1), _)
    rw [if_neg (by omega)]; rfl
  rw [st]
  refine lp_for (fun i : Nat => (J (if idx A b < i then (idx A b : Int) else -1), J (i : Int))) 0 A.1 _ (by omega) ?_ ?_
  · intro i _ hi kc'
    have ha := hA.1 i hi
    have ei : (i : Int) + 1 = ((i + 1 : Nat) : Int) := by omega
    unfold BX11_lay_35 CX11_lay_35
    by_cases c : A.2.1 i = b
    · have e : idx A b = i := by rw [← c]; exact idx_of hA hi
      rw [if_pos (show idx A b < i + 1 by omega), e]
      simp (disch := omega) only [J_add, J_sub, J_mul, J_lt, J_le, J_eq, xbr_true, xbr_false, xbr_pos, xbr_neg, Int.toNat_natCast, all_eq, ex_eq, t_0, q_0_0, q_0_1, q_0_2, q_0_3, q_0_4, q_0_5, q_0_6, q_0_7, q_0_8, q_0_9, i_0_10, p_0_10, i_0_11, p_0_11, i_0_12, p_0_12, t_1, q_1_0, t_3, q_3_0, q_3_1, i_3_2, p_3_2, i_3_3, p_3_3, t_80, q_80_0, t_88, q_88_0, t_90, q_90_0, t_92, q_92_0, q_92_1, q_92_2, i_92_3, p_92_3, i_92_4, p_92_4, t_96, q_96_0, i_96_1, p_96_1, i_96_2, p_96_2, i_96_3, p_96_3, t_100, q_100_0, i_100_1, p_100_1, i_100_2, p_100_2, i_100_3, p_100_3, t_104, q_104_1, q_104_2, q_104_3, q_104_4, q_104_5, q_104_6, q_104_8, q_104_9, q_104_11, q_104_12, q_104_18, q_104_21, q_104_22, q_104_23, q_104_24, q_104_26, q_104_27, q_104_28, q_104_30, q_104_31, i_104_0, p_104_0, i_104_7, p_104_7, i_104_10, p_104_10, i_104_13, p_104_13, i_104_14, p_104_14, i_104_15, p_104_15, i_104_16, p_104_16, i_104_17, p_104_17, i_104_19, p_104_19, i_104_20, p_104_20, i_104_25, p_104_25, i_104_29, p_104_29, a_2, w_2, a_81, w_81, a_89, w_89, a_91, w_91, a_93, w_93, a_94, w_94, a_95, w_95, a_105, w_105, a_106, w_106, a_107, w_107, a_108, w_108, a_109, w_109, a_110, w_110, a_111, w_111, a_112, w_112, a_113, w_113, a_114, w_114, a_115, w_115, a_116, w_116, a_117, w_117, a_118, w_118, a_119, w_119, a_120, w_120, a_121, w_121, a_122, w_122, a_123, w_123, a_124, w_124, w1, w2 i hi, c, ei]
    · have e : (if idx A b < i + 1 then (idx A b : Int) else -1) = if idx A b < i then (idx A b : Int) else -1 := by
        by_cases c2 : idx A b < i
        · rw [if_pos c2, if_pos (by omega)]
        · rw [if_neg c2, if_neg]
          intro q
          have : idx A b = i := by omega
          exact c (by rw [← this]; exact idx_at (by omega))
      rw [e]
      simp (disch := omega) only [J_add, J_sub, J_mul, J_lt, J_le, J_eq, xbr_true, xbr_false, xbr_pos, xbr_neg, Int.toNat_natCast, all_eq, ex_eq, t_0, q_0_0, q_0_1, q_0_2, q_0_3, q_0_4, q_0_5, q_0_6, q_0_7, q_0_8, q_0_9, i_0_10, p_0_10, i_0_11, p_0_11, i_0_12, p_0_12, t_1, q_1_0, t_3, q_3_0, q_3_1, i_3_2, p_3_2, i_3_3, p_3_3, t_80, q_80_0, t_88, q_88_0, t_90, q_90_0, t_92, q_92_0, q_92_1, q_92_2, i_92_3, p_92_3, i_92_4, p_92_4, t_96, q_96_0, i_96_1, p_96_1, i_96_2, p_96_2, i_96_3, p_96_3, t_100, q_100_0, i_100_1, p_100_1, i_100_2, p_100_2, i_100_3, p_100_3, t_104, q_104_1, q_104_2, q_104_3, q_104_4, q_104_5, q_104_6, q_104_8, q_104_9, q_104_11, q_104_12, q_104_18, q_104_21, q_104_22, q_104_23, q_104_24, q_104_26, q_104_27, q_104_28, q_104_30, q_104_31, i_104_0, p_104_0, i_104_7, p_104_7, i_104_10, p_104_10, i_104_13, p_104_13, i_104_14, p_104_14, i_104_15, p_104_15, i_104_16, p_104_16, i_104_17, p_104_17, i_104_19, p_104_19, i_104_20, p_104_20, i_104_25, p_104_25, i_104_29, p_104_29, a_2, w_2, a_81, w_81, a_89, w_89, a_91, w_91, a_93, w_93, a_94, w_94, a_95, w_95, a_105, w_105, a_106, w_106, a_107, w_107, a_108, w_108, a_109, w_109, a_110, w_110, a_111, w_111, a_112, w_112, a_113, w_113, a_114, w_114, a_115, w_115, a_116, w_116, a_117, w_117, a_118, w_118, a_119, w_119, a_120, w_120, a_121, w_121, a_122, w_122, a_123, w_123, a_124, w_124, w1, w2 i hi, ei]
  · intro kc'
    unfold BX11_lay_35 CX11_lay_35
    by_cases c : idx A b < A.1
    · rw [if_pos c, if_pos c]
      simp (disch := omega) only [J_add, J_sub, J_mul, J_lt, J_le, J_eq, xbr_true, xbr_false, xbr_pos, xbr_neg, Int.toNat_natCast, all_eq, ex_eq, t_0, q_0_0, q_0_1, q_0_2, q_0_3, q_0_4, q_0_5, q_0_6, q_0_7, q_0_8, q_0_9, i_0_10, p_0_10, i_0_11, p_0_11, i_0_12, p_0_12, t_1, q_1_0, t_3, q_3_0, q_3_1, i_3_2, p_3_2, i_3_3, p_3_3, t_80, q_80_0, t_88, q_88_0, t_90, q_90_0, t_92, q_92_0, q_92_1, q_92_2, i_92_3, p_92_3, i_92_4, p_92_4, t_96, q_96_0, i_96_1, p_96_1, i_96_2, p_96_2, i_96_3, p_96_3, t_100, q_100_0, i_100_1, p_100_1, i_100_2, p_100_2, i_100_3, p_100_3, t_104, q_104_1, q_104_2, q_104_3, q_104_4, q_104_5, q_104_6, q_104_8, q_104_9, q_104_11, q_104_12, q_104_18, q_104_21, q_104_22, q_104_23, q_104_24, q_104_26, q_104_27, q_104_28, q_104_30, q_104_31, i_104_0, p_104_0, i_104_7, p_104_7, i_104_10, p_104_10, i_104_13, p_104_13, i_104_14, p_104_14, i_104_15, p_104_15, i_104_16, p_104_16, i_104_17, p_104_17, i_104_19, p_104_19, i_104_20, p_104_20, i_104_25, p_104_25, i_104_29, p_104_29, a_2, w_2, a_81, w_81, a_89, w_89, a_91, w_91, a_93, w_93, a_94, w_94, a_95, w_95, a_105, w_105, a_106, w_106, a_107, w_107, a_108, w_108, a_109, w_109, a_110, w_110, a_111, w_111, a_112, w_112, a_113, w_113, a_114, w_114, a_115, w_115, a_116, w_116, a_117, w_117, a_118, w_118, a_119, w_119, a_120, w_120, a_121, w_121, a_122, w_122, a_123, w_123, a_124, w_124, w1]
    · rw [if_neg c, if_neg c]
      simp (disch := omega) only [J_add, J_sub, J_mul, J_lt, J_le, J_eq, xbr_true, xbr_false, xbr_pos, xbr_neg, Int.toNat_natCast, all_eq, ex_eq, t_0, q_0_0, q_0_1, q_0_2, q_0_3, q_0_4, q_0_5, q_0_6, q_0_7, q_0_8, q_0_9, i_0_10, p_0_10, i_0_11, p_0_11, i_0_12, p_0_12, t_1, q_1_0, t_3, q_3_0, q_3_1, i_3_2, p_3_2, i_3_3, p_3_3, t_80, q_80_0, t_88, q_88_0, t_90, q_90_0, t_92, q_92_0, q_92_1, q_92_2, i_92_3, p_92_3, i_92_4, p_92_4, t_96, q_96_0, i_96_1, p_96_1, i_96_2, p_96_2, i_96_3, p_96_3, t_100, q_100_0, i_100_1, p_100_1, i_100_2, p_100_2, i_100_3, p_100_3, t_104, q_104_1, q_104_2, q_104_3, q_104_4, q_104_5, q_104_6, q_104_8, q_104_9, q_104_11, q_104_12, q_104_18, q_104_21, q_104_22, q_104_23, q_104_24, q_104_26, q_104_27, q_104_28, q_104_30, q_104_31, i_104_0, p_104_0, i_104_7, p_104_7, i_104_10, p_104_10, i_104_13, p_104_13, i_104_14, p_104_14, i_104_15, p_104_15, i_104_16, p_104_16, i_104_17, p_104_17, i_104_19, p_104_19, i_104_20, p_104_20, i_104_25, p_104_25, i_104_29, p_104_29, a_2, w_2, a_81, w_81, a_89, w_89, a_91, w_91, a_93, w_93, a_94, w_94, a_95, w_95, a_105, w_105, a_106, w_106, a_107, w_107, a_108, w_108, a_109, w_109, a_110, w_110, a_111, w_111, a_112, w_112, a_113, w_113, a_114, w_114, a_115, w_115, a_116, w_116, a_117, w_117, a_118, w_118, a_119, w_119, a_120, w_120, a_121, w_121, a_122, w_122, a_123, w_123, a_124, w_124, w1]
      rfl
/-- the line is written in order -/
theorem m_lay22 {K : Int32 → Mem → Prop} (w : WasM E A) (hA : RwOk A nb) (hl : A.1 ≤ 24) (hn : nb ≤ 24) (h0 : E 104 0 = nb) (hB : ∀ b, b < nb → BkRel E b) (hO : BooksOk E) {x : Int32} : ∀ b, b ≤ nb → ∃ D : Nat → Nat → Int, (∀ a, a ≠ 111 → D a = E a) ∧ (∀ i, i < (lnS E A nb).1 → (lnS E A nb).2.1 i < b → D 111 i = (lnS E A nb).2.1 i) ∧ ∀ K, lp (BX11_lay_22 K (ad z 104) x) (lay z g E, J 0) = lp (BX11_lay_22 K (ad z 104) x) (lay z g D, J (b : Nat)) := by
  have oS := srtA_ok (k := 0) (P := fun b => decide (idx A b < A.1)) hO hn
  intro b
  induction b with
  | zero => exact fun _ => ⟨E, fun _ _ => rfl, fun _ _ h => absurd h (Nat.not_lt_zero _), fun _ => rfl⟩
  | succ b ih =>
    intro hb
    obtain ⟨D, d1, d2, hD⟩ := ih (by omega)
    have wD : WasM D A := w.fr (by rw [d1 _ (by omega)]) (d1 _ (by omega)) (d1 _ (by omega))
    have e0 : D 104 0 = nb := by rw [d1 _ (by omega)]; exact h0
    have eK : ∀ a, a < 24 → ordK D a 0 = ordK E a 0 := fun a ha => by
      unfold ordK keyC
      rw [d1 _ (by omega)]
    have hBD : ∀ b, b < nb → BkRel D b := fun b hb => (hB b hb).fr (by omega) (fun a _ _ => d1 a (by omega)) (fun a _ _ => d1 a (by omega))
    have m35 := fun K kc => m_lay35 (z := z) (g := g) (K := K) (kc := kc) (x := x) wD hA hl hn (b := b) (by omega)
    by_cases c : idx A b < A.1
    · have m78 := fun K kc => m_lay78 (z := z) (g := g) (K := K) (kc := kc) (x := x) wD hA hl hn hBD (hO.fr (fun o _ _ => d1 o (by omega))) (b := b) (by omega)
      have er : cnt A.1 (fun j => decide (ordK D (A.2.1 j) 0 < ordK D b 0)) = cnt A.1 (fun j => decide (ordK E (A.2.1 j) 0 < ordK E b 0)) := cnt_congr fun j hj => by
        have := hA.1 j hj
        rw [eK _ (by omega), eK _ (by omega)]
      obtain ⟨i0, p1, p2⟩ := oS.2.1 b (by omega) (decide_eq_true c)
      have p1' : i0 < (lnS E A nb).1 := p1
      have p2' : (lnS E A nb).2.1 i0 = b := p2
      have rk := lnS_rank hO hA hn p1'
      rw [p2'] at rk
      rw [rk] at er
      refine ⟨up D 111 i0 (b : Nat), fun a ha => by rw [up_ne ha, d1 a ha], fun i hi hlt => ?_, fun K => (hD K).trans (lp_step fun kc => ?_)⟩
      · by_cases q : i = i0
        · rw [q, up_eq, p2']
        · rw [up_nk q]
          refine d2 i hi ?_
          have : (lnS E A nb).2.1 i ≠ b := fun e => q (oS.inj i i0 hi p1 (by
            show (lnS E A nb).2.1 i = (lnS E A nb).2.1 i0
            rw [e, p2']))
          omega
      · unfold BX11_lay_22 CX11_lay_22
        simp (disch := omega) only [J_add, J_sub, J_mul, J_lt, J_le, J_eq, xbr_true, xbr_false, xbr_pos, xbr_neg, Int.toNat_natCast, all_eq, ex_eq, t_0, q_0_0, q_0_1, q_0_2, q_0_3, q_0_4, q_0_5, q_0_6, q_0_7, q_0_8, q_0_9, i_0_10, p_0_10, i_0_11, p_0_11, i_0_12, p_0_12, t_1, q_1_0, t_3, q_3_0, q_3_1, i_3_2, p_3_2, i_3_3, p_3_3, t_80, q_80_0, t_88, q_88_0, t_90, q_90_0, t_92, q_92_0, q_92_1, q_92_2, i_92_3, p_92_3, i_92_4, p_92_4, t_96, q_96_0, i_96_1, p_96_1, i_96_2, p_96_2, i_96_3, p_96_3, t_100, q_100_0, i_100_1, p_100_1, i_100_2, p_100_2, i_100_3, p_100_3, t_104, q_104_1, q_104_2, q_104_3, q_104_4, q_104_5, q_104_6, q_104_8, q_104_9, q_104_11, q_104_12, q_104_18, q_104_21, q_104_22, q_104_23, q_104_24, q_104_26, q_104_27, q_104_28, q_104_30, q_104_31, i_104_0, p_104_0, i_104_7, p_104_7, i_104_10, p_104_10, i_104_13, p_104_13, i_104_14, p_104_14, i_104_15, p_104_15, i_104_16, p_104_16, i_104_17, p_104_17, i_104_19, p_104_19, i_104_20, p_104_20, i_104_25, p_104_25, i_104_29, p_104_29, a_2, w_2, a_81, w_81, a_89, w_89, a_91, w_91, a_93, w_93, a_94, w_94, a_95, w_95, a_105, w_105, a_106, w_106, a_107, w_107, a_108, w_108, a_109, w_109, a_110, w_110, a_111, w_111, a_112, w_112, a_113, w_113, a_114, w_114, a_115, w_115, a_116, w_116, a_117, w_117, a_118, w_118, a_119, w_119, a_120, w_120, a_121, w_121, a_122, w_122, a_123, w_123, a_124, w_124, e0]
        rw [m35, if_pos c, m78, er]
    · refine ⟨D, d1, fun i hi hlt => d2 i hi ?_, fun K => (hD K).trans (lp_step fun kc => ?_)⟩
      · have h1 := (oS.1 i hi).2
        have : (lnS E A nb).2.1 i ≠ b := fun e => by
          have h2 : decide (idx A ((lnS E A nb).2.1 i) < A.1) = true := h1
          rw [e] at h2
          exact c (of_decide_eq_true h2)
        omega
      · unfold BX11_lay_22 CX11_lay_22
        simp (disch := omega) only [J_add, J_sub, J_mul, J_lt, J_le, J_eq, xbr_true, xbr_false, xbr_pos, xbr_neg, Int.toNat_natCast, all_eq, ex_eq, t_0, q_0_0, q_0_1, q_0_2, q_0_3, q_0_4, q_0_5, q_0_6, q_0_7, q_0_8, q_0_9, i_0_10, p_0_10, i_0_11, p_0_11, i_0_12, p_0_12, t_1, q_1_0, t_3, q_3_0, q_3_1, i_3_2, p_3_2, i_3_3, p_3_3, t_80, q_80_0, t_88, q_88_0, t_90, q_90_0, t_92, q_92_0, q_92_1, q_92_2, i_92_3, p_92_3, i_92_4, p_92_4, t_96, q_96_0, i_96_1, p_96_1, i_96_2, p_96_2, i_96_3, p_96_3, t_100, q_100_0, i_100_1, p_100_1, i_100_2, p_100_2, i_100_3, p_100_3, t_104, q_104_1, q_104_2, q_104_3, q_104_4, q_104_5, q_104_6, q_104_8, q_104_9, q_104_11, q_104_12, q_104_18, q_104_21, q_104_22, q_104_23, q_104_24, q_104_26, q_104_27, q_104_28, q_104_30, q_104_31, i_104_0, p_104_0, i_104_7, p_104_7, i_104_10, p_104_10, i_104_13, p_104_13, i_104_14, p_104_14, i_104_15, p_104_15, i_104_16, p_104_16, i_104_17, p_104_17, i_104_19, p_104_19, i_104_20, p_104_20, i_104_25, p_104_25, i_104_29, p_104_29, a_2, w_2, a_81, w_81, a_89, w_89, a_91, w_91, a_93, w_93, a_94, w_94, a_95, w_95, a_105, w_105, a_106, w_106, a_107, w_107, a_108, w_108, a_109, w_109, a_110, w_110, a_111, w_111, a_112, w_112, a_113, w_113, a_114, w_114, a_115, w_115, a_116, w_116, a_117, w_117, a_118, w_118, a_119, w_119, a_120, w_120, a_121, w_121, a_122, w_122, a_123, w_123, a_124, w_124, e0]
        rw [m35, if_neg c]
theorem m_lay135 {K : Int32 → Mem → Prop} {x : Int32} {n : Nat} {L : Nat → Nat} : lp (BX11_lay_135 K (ad z 104) x) (lay z g D, J 0) = lp (BX11_lay_161 K (ad z 104) x) (lay z g (onC D (n, L, fun _ => 0)), J 0, J 0, J 0) := by
  have st : (lay z g D, J 0) = (fun s : Nat => (lay z g (fun a j => if a = 112 ∧ j < s then 0 else D a j), J (s : Int))) 0 := by
    show _ = (lay z g (fun a j => if a = 112 ∧ j < 0 then 0 else D a j), _)
    have : (fun a j => if a = 112 ∧ j < 0 then 0 else D a j) = D := by
      funext a j; rw [if_neg (by omega)]
    rw [this]; rfl
  rw [st]
  refine lp_for (fun s : Nat => (lay z g (fun a j => if a = 112 ∧ j < s then 0 else D a j), J (s : Int))) 0 8 _ (by omega) ?_ ?_
  · intro s _ hs kc
    have ei : (s : Int) + 1 = ((s + 1 : Nat) : Int) := by omega
    have e : up (fun a j => if a = 112 ∧ j < s then 0 else D a j) 112 s 0 = fun a j => if a = 112 ∧ j < s + 1 then 0 else D a j := by
      funext a j
      unfold up
      by_cases q : a = 112 ∧ j = s
      · rw [if_pos q, if_pos (by omega)]
      · rw [if_neg q]
        show (if a = 112 ∧ j < s then 0 else D a j) = _
        by_cases q2 : a = 112 ∧ j < s
        · rw [if_pos q2, if_pos (by omega)]
        · rw [if_neg q2, if_neg (by omega)]
    unfold BX11_lay_135 CX11_lay_135
    simp (disch := omega) only [J_add, J_sub, J_mul, J_lt, J_le, J_eq, xbr_true, xbr_false, xbr_pos, xbr_neg, Int.toNat_natCast, all_eq, ex_eq, t_0, q_0_0, q_0_1, q_0_2, q_0_3, q_0_4, q_0_5, q_0_6, q_0_7, q_0_8, q_0_9, i_0_10, p_0_10, i_0_11, p_0_11, i_0_12, p_0_12, t_1, q_1_0, t_3, q_3_0, q_3_1, i_3_2, p_3_2, i_3_3, p_3_3, t_80, q_80_0, t_88, q_88_0, t_90, q_90_0, t_92, q_92_0, q_92_1, q_92_2, i_92_3, p_92_3, i_92_4, p_92_4, t_96, q_96_0, i_96_1, p_96_1, i_96_2, p_96_2, i_96_3, p_96_3, t_100, q_100_0, i_100_1, p_100_1, i_100_2, p_100_2, i_100_3, p_100_3, t_104, q_104_1, q_104_2, q_104_3, q_104_4, q_104_5, q_104_6, q_104_8, q_104_9, q_104_11, q_104_12, q_104_18, q_104_21, q_104_22, q_104_23, q_104_24, q_104_26, q_104_27, q_104_28, q_104_30, q_104_31, i_104_0, p_104_0, i_104_7, p_104_7, i_104_10, p_104_10, i_104_13, p_104_13, i_104_14, p_104_14, i_104_15, p_104_15, i_104_16, p_104_16, i_104_17, p_104_17, i_104_19, p_104_19, i_104_20, p_104_20, i_104_25, p_104_25, i_104_29, p_104_29, a_2, w_2, a_81, w_81, a_89, w_89, a_91, w_91, a_93, w_93, a_94, w_94, a_95, w_95, a_105, w_105, a_106, w_106, a_107, w_107, a_108, w_108, a_109, w_109, a_110, w_110, a_111, w_111, a_112, w_112, a_113, w_113, a_114, w_114, a_115, w_115, a_116, w_116, a_117, w_117, a_118, w_118, a_119, w_119, a_120, w_120, a_121, w_121, a_122, w_122, a_123, w_123, a_124, w_124, e, ei]
  · intro kc
    unfold BX11_lay_135 CX11_lay_135
    simp (disch := omega) only [J_add, J_sub, J_mul, J_lt, J_le, J_eq, xbr_true, xbr_false, xbr_pos, xbr_neg, Int.toNat_natCast, all_eq, ex_eq]
    rfl
theorem used_pos {w : Nat → Int} (hA : RwP A nb) (hw : ∀ b, b < nb → 1 ≤ w b) {s : Nat} (hs : s < 8) : usedA w A s = 0 ↔ A.2.2 s = 0 := by
  have h1 := hA.on_le hs
  have key : ∀ m, m ≤ A.2.2 s → (m : Int) ≤ sumZ (fun i => w (A.2.1 (sumN A.2.2 s + i))) m := by
    intro m
    induction m with
    | zero => intro _; exact Int.le_refl _
    | succ m ih =>
      intro hm
      have h2 := ih (by omega)
      have h3 := hw _ (hA.1 (sumN A.2.2 s + m) (by omega))
      show ((m + 1 : Nat) : Int) ≤ sumZ _ m + w (A.2.1 (sumN A.2.2 s + m))
      omega
  have h2 := key _ (Nat.le_refl _)
  constructor
  · intro h
    unfold usedA at h
    omega
  · intro h
    unfold usedA
    rw [h]; rfl
theorem onC_add {s : Nat} (hs : s < 8) : up (onC D A) 112 s ((A.2.2 s : Int) + 1) = onC D (addA A s) := by
  funext a j
  unfold up onC addA
  by_cases q : a = 112 ∧ j = s
  · rw [if_pos q, if_pos (by omega)]
    show _ = (((if j = s then A.2.2 s + 1 else A.2.2 j) : Nat) : Int)
    rw [if_pos q.2]; omega
  · rw [if_neg q]
    by_cases q2 : a = 112 ∧ j < 8
    · rw [if_pos q2, if_pos q2]
      show _ = (((if j = s then A.2.2 s + 1 else A.2.2 j) : Nat) : Int)
      rw [if_neg (by omega)]
    · rw [if_neg q2, if_neg q2]
theorem m_lay161 {n : Nat} {L : Nat → Nat} (hL : ∀ i, i < n → L i < nb) (hi : ∀ i j, i < n → j < n → L i = L j → i = j) (hn : n ≤ 24) (hnb : nb ≤ 24) (e20 : D 104 20 = n) (e11 : ∀ i, i < n → D 111 i = L i) (hw1 : ∀ b, b < nb → 1 ≤ D 109 b ∧ D 109 b ≤ 9) (hW : ∀ s, s < 8 → 0 ≤ D 110 s ∧ D 110 s ≤ 1000) {lst : Int} (h1 : 0 ≤ lst) (h2 : lst ≤ 30) : ∀ t, t ≤ lyE (D 110) (D 109) lst n L → ∀ K, lp (BX11_lay_161 K (ad z 104) (J lst)) (lay z g (onC D (n, L, fun _ => 0)), J 0, J 0, J 0) = lp (BX11_lay_161 K (ad z 104) (J lst)) (lay z g (onC D (lyS (D 110) (D 109) lst n L t).2.2), J ((lyS (D 110) (D 109) lst n L t).1 : Nat), J (if (lyS (D 110) (D 109) lst n L t).1 < 8 then usedA (D 109) (lyS (D 110) (D 109) lst n L t).2.2 (lyS (D 110) (D 109) lst n L t).1 else 0), J ((lyS (D 110) (D 109) lst n L t).2.1 : Nat)) := by
  intro t
  induction t with
  | zero => exact fun _ K => rfl
  | succ t ih =>
    intro ht K
    rw [ih (by omega) K]
    obtain ⟨hy, -⟩ := lyS_ok (W := D 110) (w := D 109) (lst := lst) (n := n) (L := L) t
    obtain ⟨hk, hs⟩ := lyE_lt (W := D 110) (w := D 109) (lst := lst) (n := n) (L := L) (t := t) (by omega)
    show _ = lp (BX11_lay_161 K (ad z 104) (J lst)) (lay z g (onC D (lyT (D 110) (D 109) lst (lyS (D 110) (D 109) lst n L t)).2.2), J ((lyT (D 110) (D 109) lst (lyS (D 110) (D 109) lst n L t)).1 : Nat), J (if (lyT (D 110) (D 109) lst (lyS (D 110) (D 109) lst n L t)).1 < 8 then usedA (D 109) (lyT (D 110) (D 109) lst (lyS (D 110) (D 109) lst n L t)).2.2 (lyT (D 110) (D 109) lst (lyS (D 110) (D 109) lst n L t)).1 else 0), J ((lyT (D 110) (D 109) lst (lyS (D 110) (D 109) lst n L t)).2.1 : Nat))
    generalize lyS (D 110) (D 109) lst n L t = x at *
    obtain ⟨s, k, B⟩ := x
    simp only at hy hk hs ⊢
    have hP := hy.p (by omega) (by omega) hL hi
    have eL : B.2.1 k = L k := by rw [hy.2.1]
    have hkB : k < B.1 := by rw [hy.1]; exact hk
    have l24 : B.1 ≤ 24 := by rw [hy.1]; exact hn
    have ub := usedP_b (w := D 109) hP (fun b hb => by have := hw1 b hb; omega) hs l24
    have up1 := used_pos (w := D 109) hP (fun b hb => (hw1 b hb).1) hs
    have ol := hP.on_le hs
    have hLk := hL k hk
    have wk := hw1 (L k) hLk
    have Ws := hW s hs
    have on104 : ∀ j, onC D B 104 j = D 104 j := fun j => by rw [onC_ne (by omega)]
    have on111 : onC D B 111 k = L k := by rw [onC_ne (by omega)]; exact e11 k hk
    have on109 : onC D B 109 = D 109 := onC_ne (by omega)
    have on110 : onC D B 110 = D 110 := onC_ne (by omega)
    have on112 : onC D B 112 s = B.2.2 s := onC_s hs
    have ee : (k : Int) + 1 = ((k + 1 : Nat) : Int) := by omega
    have es : (s : Int) + 1 = ((s + 1 : Nat) : Int) := by omega
    rw [if_pos hs]
    have hgo : goA (D 110) (D 109) lst B s k ↔ (lst ≤ D 110 s - usedA (D 109) B s - D 109 (L k) ∨ (B.2.2 s = 0 ∧ 0 ≤ D 110 s - usedA (D 109) B s - D 109 (L k))) := by unfold goA; rw [eL]
    by_cases c : goA (D 110) (D 109) lst B s k
    · rw [lyT_yes (t := (s, k, B)) c]
      simp only
      rw [if_pos hs, hy.used]
      refine lp_step fun kc => ?_
      have c' := hgo.mp c
      unfold BX11_lay_161 CX11_lay_161
      by_cases c1 : lst ≤ D 110 s - usedA (D 109) B s - D 109 (L k)
      · simp (disch := omega) only [J_add, J_sub, J_mul, J_lt, J_le, J_eq, xbr_true, xbr_false, xbr_pos, xbr_neg, Int.toNat_natCast, all_eq, ex_eq, t_0, q_0_0, q_0_1, q_0_2, q_0_3, q_0_4, q_0_5, q_0_6, q_0_7, q_0_8, q_0_9, i_0_10, p_0_10, i_0_11, p_0_11, i_0_12, p_0_12, t_1, q_1_0, t_3, q_3_0, q_3_1, i_3_2, p_3_2, i_3_3, p_3_3, t_80, q_80_0, t_88, q_88_0, t_90, q_90_0, t_92, q_92_0, q_92_1, q_92_2, i_92_3, p_92_3, i_92_4, p_92_4, t_96, q_96_0, i_96_1, p_96_1, i_96_2, p_96_2, i_96_3, p_96_3, t_100, q_100_0, i_100_1, p_100_1, i_100_2, p_100_2, i_100_3, p_100_3, t_104, q_104_1, q_104_2, q_104_3, q_104_4, q_104_5, q_104_6, q_104_8, q_104_9, q_104_11, q_104_12, q_104_18, q_104_21, q_104_22, q_104_23, q_104_24, q_104_26, q_104_27, q_104_28, q_104_30, q_104_31, i_104_0, p_104_0, i_104_7, p_104_7, i_104_10, p_104_10, i_104_13, p_104_13, i_104_14, p_104_14, i_104_15, p_104_15, i_104_16, p_104_16, i_104_17, p_104_17, i_104_19, p_104_19, i_104_20, p_104_20, i_104_25, p_104_25, i_104_29, p_104_29, a_2, w_2, a_81, w_81, a_89, w_89, a_91, w_91, a_93, w_93, a_94, w_94, a_95, w_95, a_105, w_105, a_106, w_106, a_107, w_107, a_108, w_108, a_109, w_109, a_110, w_110, a_111, w_111, a_112, w_112, a_113, w_113, a_114, w_114, a_115, w_115, a_116, w_116, a_117, w_117, a_118, w_118, a_119, w_119, a_120, w_120, a_121, w_121, a_122, w_122, a_123, w_123, a_124, w_124, on104, e20, on111, on109, on110]
        unfold JX11_lay_218 JX11_lay_223 JX11_lay_242 JX11_lay_257 JX11_lay_270
        simp (disch := omega) only [J_add, J_sub, J_mul, J_lt, J_le, J_eq, xbr_true, xbr_false, xbr_pos, xbr_neg, Int.toNat_natCast, all_eq, ex_eq, t_0, q_0_0, q_0_1, q_0_2, q_0_3, q_0_4, q_0_5, q_0_6, q_0_7, q_0_8, q_0_9, i_0_10, p_0_10, i_0_11, p_0_11, i_0_12, p_0_12, t_1, q_1_0, t_3, q_3_0, q_3_1, i_3_2, p_3_2, i_3_3, p_3_3, t_80, q_80_0, t_88, q_88_0, t_90, q_90_0, t_92, q_92_0, q_92_1, q_92_2, i_92_3, p_92_3, i_92_4, p_92_4, t_96, q_96_0, i_96_1, p_96_1, i_96_2, p_96_2, i_96_3, p_96_3, t_100, q_100_0, i_100_1, p_100_1, i_100_2, p_100_2, i_100_3, p_100_3, t_104, q_104_1, q_104_2, q_104_3, q_104_4, q_104_5, q_104_6, q_104_8, q_104_9, q_104_11, q_104_12, q_104_18, q_104_21, q_104_22, q_104_23, q_104_24, q_104_26, q_104_27, q_104_28, q_104_30, q_104_31, i_104_0, p_104_0, i_104_7, p_104_7, i_104_10, p_104_10, i_104_13, p_104_13, i_104_14, p_104_14, i_104_15, p_104_15, i_104_16, p_104_16, i_104_17, p_104_17, i_104_19, p_104_19, i_104_20, p_104_20, i_104_25, p_104_25, i_104_29, p_104_29, a_2, w_2, a_81, w_81, a_89, w_89, a_91, w_91, a_93, w_93, a_94, w_94, a_95, w_95, a_105, w_105, a_106, w_106, a_107, w_107, a_108, w_108, a_109, w_109, a_110, w_110, a_111, w_111, a_112, w_112, a_113, w_113, a_114, w_114, a_115, w_115, a_116, w_116, a_117, w_117, a_118, w_118, a_119, w_119, a_120, w_120, a_121, w_121, a_122, w_122, a_123, w_123, a_124, w_124, on112, onC_add hs, ee, Int.add_zero]
      · have c2 : B.2.2 s = 0 ∧ 0 ≤ D 110 s - usedA (D 109) B s - D 109 (L k) := by
          rcases c' with q | q
          · exact absurd q c1
          · exact q
        have u0 := up1.mpr c2.1
        simp (disch := omega) only [J_add, J_sub, J_mul, J_lt, J_le, J_eq, xbr_true, xbr_false, xbr_pos, xbr_neg, Int.toNat_natCast, all_eq, ex_eq, t_0, q_0_0, q_0_1, q_0_2, q_0_3, q_0_4, q_0_5, q_0_6, q_0_7, q_0_8, q_0_9, i_0_10, p_0_10, i_0_11, p_0_11, i_0_12, p_0_12, t_1, q_1_0, t_3, q_3_0, q_3_1, i_3_2, p_3_2, i_3_3, p_3_3, t_80, q_80_0, t_88, q_88_0, t_90, q_90_0, t_92, q_92_0, q_92_1, q_92_2, i_92_3, p_92_3, i_92_4, p_92_4, t_96, q_96_0, i_96_1, p_96_1, i_96_2, p_96_2, i_96_3, p_96_3, t_100, q_100_0, i_100_1, p_100_1, i_100_2, p_100_2, i_100_3, p_100_3, t_104, q_104_1, q_104_2, q_104_3, q_104_4, q_104_5, q_104_6, q_104_8, q_104_9, q_104_11, q_104_12, q_104_18, q_104_21, q_104_22, q_104_23, q_104_24, q_104_26, q_104_27, q_104_28, q_104_30, q_104_31, i_104_0, p_104_0, i_104_7, p_104_7, i_104_10, p_104_10, i_104_13, p_104_13, i_104_14, p_104_14, i_104_15, p_104_15, i_104_16, p_104_16, i_104_17, p_104_17, i_104_19, p_104_19, i_104_20, p_104_20, i_104_25, p_104_25, i_104_29, p_104_29, a_2, w_2, a_81, w_81, a_89, w_89, a_91, w_91, a_93, w_93, a_94, w_94, a_95, w_95, a_105, w_105, a_106, w_106, a_107, w_107, a_108, w_108, a_109, w_109, a_110, w_110, a_111, w_111, a_112, w_112, a_113, w_113, a_114, w_114, a_115, w_115, a_116, w_116, a_117, w_117, a_118, w_118, a_119, w_119, a_120, w_120, a_121, w_121, a_122, w_122, a_123, w_123, a_124, w_124, on104, e20, on111, on109, on110]
        unfold JX11_lay_218 JX11_lay_223 JX11_lay_242 JX11_lay_257 JX11_lay_270
        simp (disch := omega) only [J_add, J_sub, J_mul, J_lt, J_le, J_eq, xbr_true, xbr_false, xbr_pos, xbr_neg, Int.toNat_natCast, all_eq, ex_eq, t_0, q_0_0, q_0_1, q_0_2, q_0_3, q_0_4, q_0_5, q_0_6, q_0_7, q_0_8, q_0_9, i_0_10, p_0_10, i_0_11, p_0_11, i_0_12, p_0_12, t_1, q_1_0, t_3, q_3_0, q_3_1, i_3_2, p_3_2, i_3_3, p_3_3, t_80, q_80_0, t_88, q_88_0, t_90, q_90_0, t_92, q_92_0, q_92_1, q_92_2, i_92_3, p_92_3, i_92_4, p_92_4, t_96, q_96_0, i_96_1, p_96_1, i_96_2, p_96_2, i_96_3, p_96_3, t_100, q_100_0, i_100_1, p_100_1, i_100_2, p_100_2, i_100_3, p_100_3, t_104, q_104_1, q_104_2, q_104_3, q_104_4, q_104_5, q_104_6, q_104_8, q_104_9, q_104_11, q_104_12, q_104_18, q_104_21, q_104_22, q_104_23, q_104_24, q_104_26, q_104_27, q_104_28, q_104_30, q_104_31, i_104_0, p_104_0, i_104_7, p_104_7, i_104_10, p_104_10, i_104_13, p_104_13, i_104_14, p_104_14, i_104_15, p_104_15, i_104_16, p_104_16, i_104_17, p_104_17, i_104_19, p_104_19, i_104_20, p_104_20, i_104_25, p_104_25, i_104_29, p_104_29, a_2, w_2, a_81, w_81, a_89, w_89, a_91, w_91, a_93, w_93, a_94, w_94, a_95, w_95, a_105, w_105, a_106, w_106, a_107, w_107, a_108, w_108, a_109, w_109, a_110, w_110, a_111, w_111, a_112, w_112, a_113, w_113, a_114, w_114, a_115, w_115, a_116, w_116, a_117, w_117, a_118, w_118, a_119, w_119, a_120, w_120, a_121, w_121, a_122, w_122, a_123, w_123, a_124, w_124, on112, onC_add hs, ee, Int.add_zero]
    · rw [lyT_no (t := (s, k, B)) c]
      simp only
      have u1 : (if s + 1 < 8 then usedA (D 109) B (s + 1) else 0) = 0 := by
        rw [hy.used0]; split <;> rfl
      rw [u1]
      refine lp_step fun kc => ?_
      have c' := fun q => c (hgo.mpr q)
      have c1 : ¬ lst ≤ D 110 s - usedA (D 109) B s - D 109 (L k) := fun q => c' (Or.inl q)
      have uid : up (onC D B) 112 s (B.2.2 s : Nat) = onC D B := by
        have := up_idem (onC D B) 112 s
        rw [on112] at this
        exact this
      unfold BX11_lay_161 CX11_lay_161
      by_cases c2 : B.2.2 s = 0
      · have u0 := up1.mpr c2
        have c3 : ¬ 0 ≤ D 110 s - usedA (D 109) B s - D 109 (L k) := fun q => c' (Or.inr ⟨c2, q⟩)
        simp (disch := omega) only [J_add, J_sub, J_mul, J_lt, J_le, J_eq, xbr_true, xbr_false, xbr_pos, xbr_neg, Int.toNat_natCast, all_eq, ex_eq, t_0, q_0_0, q_0_1, q_0_2, q_0_3, q_0_4, q_0_5, q_0_6, q_0_7, q_0_8, q_0_9, i_0_10, p_0_10, i_0_11, p_0_11, i_0_12, p_0_12, t_1, q_1_0, t_3, q_3_0, q_3_1, i_3_2, p_3_2, i_3_3, p_3_3, t_80, q_80_0, t_88, q_88_0, t_90, q_90_0, t_92, q_92_0, q_92_1, q_92_2, i_92_3, p_92_3, i_92_4, p_92_4, t_96, q_96_0, i_96_1, p_96_1, i_96_2, p_96_2, i_96_3, p_96_3, t_100, q_100_0, i_100_1, p_100_1, i_100_2, p_100_2, i_100_3, p_100_3, t_104, q_104_1, q_104_2, q_104_3, q_104_4, q_104_5, q_104_6, q_104_8, q_104_9, q_104_11, q_104_12, q_104_18, q_104_21, q_104_22, q_104_23, q_104_24, q_104_26, q_104_27, q_104_28, q_104_30, q_104_31, i_104_0, p_104_0, i_104_7, p_104_7, i_104_10, p_104_10, i_104_13, p_104_13, i_104_14, p_104_14, i_104_15, p_104_15, i_104_16, p_104_16, i_104_17, p_104_17, i_104_19, p_104_19, i_104_20, p_104_20, i_104_25, p_104_25, i_104_29, p_104_29, a_2, w_2, a_81, w_81, a_89, w_89, a_91, w_91, a_93, w_93, a_94, w_94, a_95, w_95, a_105, w_105, a_106, w_106, a_107, w_107, a_108, w_108, a_109, w_109, a_110, w_110, a_111, w_111, a_112, w_112, a_113, w_113, a_114, w_114, a_115, w_115, a_116, w_116, a_117, w_117, a_118, w_118, a_119, w_119, a_120, w_120, a_121, w_121, a_122, w_122, a_123, w_123, a_124, w_124, on104, e20, on111, on109, on110]
        unfold JX11_lay_222 JX11_lay_223 JX11_lay_242 JX11_lay_257 JX11_lay_270
        simp (disch := omega) only [J_add, J_sub, J_mul, J_lt, J_le, J_eq, xbr_true, xbr_false, xbr_pos, xbr_neg, Int.toNat_natCast, all_eq, ex_eq, t_0, q_0_0, q_0_1, q_0_2, q_0_3, q_0_4, q_0_5, q_0_6, q_0_7, q_0_8, q_0_9, i_0_10, p_0_10, i_0_11, p_0_11, i_0_12, p_0_12, t_1, q_1_0, t_3, q_3_0, q_3_1, i_3_2, p_3_2, i_3_3, p_3_3, t_80, q_80_0, t_88, q_88_0, t_90, q_90_0, t_92, q_92_0, q_92_1, q_92_2, i_92_3, p_92_3, i_92_4, p_92_4, t_96, q_96_0, i_96_1, p_96_1, i_96_2, p_96_2, i_96_3, p_96_3, t_100, q_100_0, i_100_1, p_100_1, i_100_2, p_100_2, i_100_3, p_100_3, t_104, q_104_1, q_104_2, q_104_3, q_104_4, q_104_5, q_104_6, q_104_8, q_104_9, q_104_11, q_104_12, q_104_18, q_104_21, q_104_22, q_104_23, q_104_24, q_104_26, q_104_27, q_104_28, q_104_30, q_104_31, i_104_0, p_104_0, i_104_7, p_104_7, i_104_10, p_104_10, i_104_13, p_104_13, i_104_14, p_104_14, i_104_15, p_104_15, i_104_16, p_104_16, i_104_17, p_104_17, i_104_19, p_104_19, i_104_20, p_104_20, i_104_25, p_104_25, i_104_29, p_104_29, a_2, w_2, a_81, w_81, a_89, w_89, a_91, w_91, a_93, w_93, a_94, w_94, a_95, w_95, a_105, w_105, a_106, w_106, a_107, w_107, a_108, w_108, a_109, w_109, a_110, w_110, a_111, w_111, a_112, w_112, a_113, w_113, a_114, w_114, a_115, w_115, a_116, w_116, a_117, w_117, a_118, w_118, a_119, w_119, a_120, w_120, a_121, w_121, a_122, w_122, a_123, w_123, a_124, w_124, on112, uid, es, Int.add_zero]
      · have u0 : ¬ usedA (D 109) B s = 0 := fun q => c2 (up1.mp q)
        simp (disch := omega) only [J_add, J_sub, J_mul, J_lt, J_le, J_eq, xbr_true, xbr_false, xbr_pos, xbr_neg, Int.toNat_natCast, all_eq, ex_eq, t_0, q_0_0, q_0_1, q_0_2, q_0_3, q_0_4, q_0_5, q_0_6, q_0_7, q_0_8, q_0_9, i_0_10, p_0_10, i_0_11, p_0_11, i_0_12, p_0_12, t_1, q_1_0, t_3, q_3_0, q_3_1, i_3_2, p_3_2, i_3_3, p_3_3, t_80, q_80_0, t_88, q_88_0, t_90, q_90_0, t_92, q_92_0, q_92_1, q_92_2, i_92_3, p_92_3, i_92_4, p_92_4, t_96, q_96_0, i_96_1, p_96_1, i_96_2, p_96_2, i_96_3, p_96_3, t_100, q_100_0, i_100_1, p_100_1, i_100_2, p_100_2, i_100_3, p_100_3, t_104, q_104_1, q_104_2, q_104_3, q_104_4, q_104_5, q_104_6, q_104_8, q_104_9, q_104_11, q_104_12, q_104_18, q_104_21, q_104_22, q_104_23, q_104_24, q_104_26, q_104_27, q_104_28, q_104_30, q_104_31, i_104_0, p_104_0, i_104_7, p_104_7, i_104_10, p_104_10, i_104_13, p_104_13, i_104_14, p_104_14, i_104_15, p_104_15, i_104_16, p_104_16, i_104_17, p_104_17, i_104_19, p_104_19, i_104_20, p_104_20, i_104_25, p_104_25, i_104_29, p_104_29, a_2, w_2, a_81, w_81, a_89, w_89, a_91, w_91, a_93, w_93, a_94, w_94, a_95, w_95, a_105, w_105, a_106, w_106, a_107, w_107, a_108, w_108, a_109, w_109, a_110, w_110, a_111, w_111, a_112, w_112, a_113, w_113, a_114, w_114, a_115, w_115, a_116, w_116, a_117, w_117, a_118, w_118, a_119, w_119, a_120, w_120, a_121, w_121, a_122, w_122, a_123, w_123, a_124, w_124, on104, e20, on111, on109, on110]
        unfold JX11_lay_222 JX11_lay_223 JX11_lay_242 JX11_lay_257 JX11_lay_270
        simp (disch := omega) only [J_add, J_sub, J_mul, J_lt, J_le, J_eq, xbr_true, xbr_false, xbr_pos, xbr_neg, Int.toNat_natCast, all_eq, ex_eq, t_0, q_0_0, q_0_1, q_0_2, q_0_3, q_0_4, q_0_5, q_0_6, q_0_7, q_0_8, q_0_9, i_0_10, p_0_10, i_0_11, p_0_11, i_0_12, p_0_12, t_1, q_1_0, t_3, q_3_0, q_3_1, i_3_2, p_3_2, i_3_3, p_3_3, t_80, q_80_0, t_88, q_88_0, t_90, q_90_0, t_92, q_92_0, q_92_1, q_92_2, i_92_3, p_92_3, i_92_4, p_92_4, t_96, q_96_0, i_96_1, p_96_1, i_96_2, p_96_2, i_96_3, p_96_3, t_100, q_100_0, i_100_1, p_100_1, i_100_2, p_100_2, i_100_3, p_100_3, t_104, q_104_1, q_104_2, q_104_3, q_104_4, q_104_5, q_104_6, q_104_8, q_104_9, q_104_11, q_104_12, q_104_18, q_104_21, q_104_22, q_104_23, q_104_24, q_104_26, q_104_27, q_104_28, q_104_30, q_104_31, i_104_0, p_104_0, i_104_7, p_104_7, i_104_10, p_104_10, i_104_13, p_104_13, i_104_14, p_104_14, i_104_15, p_104_15, i_104_16, p_104_16, i_104_17, p_104_17, i_104_19, p_104_19, i_104_20, p_104_20, i_104_25, p_104_25, i_104_29, p_104_29, a_2, w_2, a_81, w_81, a_89, w_89, a_91, w_91, a_93, w_93, a_94, w_94, a_95, w_95, a_105, w_105, a_106, w_106, a_107, w_107, a_108, w_108, a_109, w_109, a_110, w_110, a_111, w_111, a_112, w_112, a_113, w_113, a_114, w_114, a_115, w_115, a_116, w_116, a_117, w_117, a_118, w_118, a_119, w_119, a_120, w_120, a_121, w_121, a_122, w_122, a_123, w_123, a_124, w_124, on112, uid, es, Int.add_zero]
end LAYM
