/-! PUSHING: the class's loops -/
theorem mvA_zero (A : Rw) (s t : Nat) : mvA A s t 0 = A := by
  unfold mvA
  refine Prod.ext rfl (Prod.ext rfl ?_)
  funext k
  show (if k = s then A.2.2 s - 0 else if k = t then A.2.2 t + 0 else A.2.2 k) = A.2.2 k
  split
  · rename_i h; rw [h]; rfl
  · split
    · rename_i h; rw [h]; rfl
    · rfl
def relL (W w : Nat → Int) (s : Nat) (due : Int) (A : Rw) : Bool × Rw :=
  if s + 1 < 8 then (decide (due ≤ rmA W w (mvA A s (s + 1) (fst1 (A.2.2 s) (fun j => decide (due ≤ rmA W w (mvA A s (s + 1) j) s)))) s), mvA A s (s + 1) (fst1 (A.2.2 s) (fun j => decide (due ≤ rmA W w (mvA A s (s + 1) j) s)))) else (decide (due ≤ rmA W w A s), A)
def relE (W w : Nat → Int) (s : Nat) (due : Int) (A : Rw) : Bool × Rw :=
  if 0 < s then (decide (due ≤ rmA W w (mvA A s (s - 1) (fst1 (A.2.2 s) (fun j => decide (due ≤ rmA W w (mvA A s (s - 1) j) s)))) s), mvA A s (s - 1) (fst1 (A.2.2 s) (fun j => decide (due ≤ rmA W w (mvA A s (s - 1) j) s)))) else (decide (due ≤ rmA W w A s), A)
/-- what all is small -/
def Sm (C : Nat → Nat → Int) (nb : Nat) : Prop := nb ≤ 24 ∧ C 3 2 = nb ∧ BooksOk C ∧ ∀ s, s < 8 → 0 ≤ C 81 s ∧ C 81 s ≤ 1000
theorem usedA_b {w : Nat → Int} {A : Rw} {nb s : Nat} (hA : RwOk A nb) (hw : ∀ b, b < nb → 0 ≤ w b ∧ w b ≤ 9) (hs : s < 8) (hl : A.1 ≤ 24) : 0 ≤ usedA w A s ∧ usedA w A s ≤ 216 := by
  have hle : sumN A.2.2 s + A.2.2 s ≤ A.1 := by
    rw [← hA.2.2]
    exact sumN_mono (f := A.2.2) (show s + 1 ≤ 8 by omega)
  have := sumZ_b (n := A.2.2 s) (f := fun i => w (A.2.1 (sumN A.2.2 s + i))) (fun i hi => hw _ (hA.1 _ (by omega)))
  unfold usedA
  omega
section REL
variable {z : Nat} {g : Mem} {C : Nat → Nat → Int} {r nb : Nat} {A : Rw}
theorem s_isShelf {M : Mem} {K : Int32 → Prop} {s : Int} (h1 : -2147483648 ≤ s) (h2 : s < 2147483648) : PX10_isShelf (J s) M K = K (J (if 0 ≤ s ∧ s < 8 then 1 else 0)) := by
  unfold PX10_isShelf
  by_cases c1 : s < 0
  · simp (disch := omega) only [J_add, J_sub, J_mul, J_lt, J_le, J_eq, xbr_true, xbr_false, xbr_pos, xbr_neg, Int.toNat_natCast, all_eq, ex_eq, isB0, true_and]
    rw [if_neg (by omega)]
  · by_cases c2 : s < 8
    · simp (disch := omega) only [J_add, J_sub, J_mul, J_lt, J_le, J_eq, xbr_true, xbr_false, xbr_pos, xbr_neg, Int.toNat_natCast, all_eq, ex_eq, isB1, true_and]
      rw [if_pos (by omega)]
    · simp (disch := omega) only [J_add, J_sub, J_mul, J_lt, J_le, J_eq, xbr_true, xbr_false, xbr_pos, xbr_neg, Int.toNat_natCast, all_eq, ex_eq, isB0, true_and]
      rw [if_neg (by omega)]
theorem Sm.wb (h : Sm C nb) : ∀ b, b < 24 → 0 ≤ wC C b ∧ wC C b ≤ 9 := fun b hb => by
  have := h.2.2.1 (8 + 3 * b) (Or.inr ⟨b, hb, rfl⟩)
  unfold BookOk at this
  unfold wC; omega
theorem row_book {o : Nat} (hr : isRow r) (ho : isBook o) : o + 2 < r ∧ 81 < r := by
  obtain ⟨i, hi, rfl⟩ := isBook_i ho
  unfold isRow at hr
  omega
theorem Sm.shC {A' : Rw} (h : Sm C nb) (hr : isRow r) : Sm (shC C r A') nb := by
  have q : ∀ a j, a ≠ r + 2 → Jvm.Pilot.COutOfPlaceLaw_law_r2444_d06da6.shC C r A' a j = C a j := fun a j ha => shC_other ha
  have hr2 := row_book hr (o := 5) (Or.inl rfl)
  refine ⟨h.1, by rw [q _ _ (by omega)]; exact h.2.1, fun o ho => ?_, fun s hs => by rw [q _ _ (by omega)]; exact h.2.2.2 s hs⟩
  have := row_book hr ho
  have hb := h.2.2.1 o ho
  unfold BookOk at hb ⊢
  simp only [q o _ (show o ≠ r + 2 by omega)]
  exact hb
theorem shC_81 {A' : Rw} (hr : isRow r) : shC C r A' 81 = C 81 := by
  have hr2 := row_book hr (o := 5) (Or.inl rfl)
  funext j
  exact shC_other (by omega)
theorem shC_wC {A' : Rw} (hr : isRow r) : ∀ b, b < 24 → wC (shC C r A') b = wC C b := by
  intro b hb
  have hr2 := row_book hr (o := 8 + 3 * b) (Or.inr ⟨b, hb, rfl⟩)
  exact shC_other (by omega)
theorem usedA_congr {w w' : Nat → Int} {A : Rw} {s : Nat} (hA : RwOk A nb) (hs : s < 8) (hw : ∀ b, b < nb → w b = w' b) : usedA w A s = usedA w' A s := by
  have hle : sumN A.2.2 s + A.2.2 s ≤ A.1 := by
    rw [← hA.2.2]
    exact sumN_mono (f := A.2.2) (show s + 1 ≤ 8 by omega)
  unfold usedA
  exact sumZ_congr fun i hi => hw _ (hA.1 _ (by omega))
theorem rmA_b (h : Sm C nb) (hA : RwOk A nb) (hl : A.1 ≤ 24) {s : Nat} (hs : s < 8) : -216 ≤ rmA (C 81) (wC C) A s ∧ rmA (C 81) (wC C) A s ≤ 1000 := by
  have h1 := usedA_b hA (fun b hb => h.wb b (by have := h.1; omega)) hs hl
  have h2 := h.2.2.2 s hs
  unfold rmA
  omega
theorem s_leftS {K : Int32 → Prop} {A' : Rw} (hr : isRow r) (h : RowC C r A) (e1 : A'.1 = A.1) (e2 : A'.2.1 = A.2.1) (hA : RwOk A' nb) (hS : Sm C nb) {s : Nat} (hs : s < 8) : PX8_left (ad z 80) (ad z r) (ad z 3) (J s) (lay z g (shC C r A')) K = K (J (rmA (C 81) (wC C) A' s)) := by
  have hS' := hS.shC (A' := A') hr
  rw [s_left hr (h.shC e1 e2 hA hS.1) hA hS.1 hS'.2.1 hS'.2.2.1 hs (hS'.2.2.2 s hs)]
  unfold rmA
  rw [shC_81 hr, usedA_congr hA hs (fun b hb => shC_wC hr b (by have := hS.1; omega))]
theorem s_j57 {K : Int32 → Mem → Prop} {A' : Rw} (hr : isRow r) (h : RowC C r A) (e1 : A'.1 = A.1) (e2 : A'.2.1 = A.2.1) (hA : RwOk A' nb) (hS : Sm C nb) {s : Nat} (hs : s < 8) {due : Int} (hd : 0 ≤ due ∧ due ≤ 100) : JX8_relieve_57 K (lay z g (shC C r A')) (ad z 80) (ad z r) (ad z 3) (J s) (J due) = K (J (if due ≤ rmA (C 81) (wC C) A' s then 1 else 0)) (lay z g (shC C r A')) := by
  have hb := rmA_b hS hA (by rw [e1]; exact h.len) hs
  unfold JX8_relieve_57
  simp (disch := omega) only [J_add, J_sub, J_mul, J_lt, J_le, J_eq, xbr_true, xbr_false, xbr_pos, xbr_neg, Int.toNat_natCast, all_eq, ex_eq, s_leftS hr h e1 e2 hA hS]
  by_cases c : due ≤ rmA (C 81) (wC C) A' s
  · simp (disch := omega) only [J_add, J_sub, J_mul, J_lt, J_le, J_eq, xbr_true, xbr_false, xbr_pos, xbr_neg, Int.toNat_natCast, all_eq, ex_eq, isB1, true_and]
    rw [if_pos c]
  · simp (disch := omega) only [J_add, J_sub, J_mul, J_lt, J_le, J_eq, xbr_true, xbr_false, xbr_pos, xbr_neg, Int.toNat_natCast, all_eq, ex_eq, isB0, true_and]
    rw [if_neg c]
theorem s_relL {K : Int32 → Mem → Prop} (hr : isRow r) (h : RowC C r A) (hA : RwOk A nb) (hS : Sm C nb) {s : Nat} (hs : s < 8) {due : Int} (hd : 0 ≤ due ∧ due ≤ 100) : PX8_relieve (ad z 80) (ad z r) (ad z 3) (J s) (J due) (J 1) (lay z g C) K = K (J (if (relL (C 81) (wC C) s due A).1 then 1 else 0)) (lay z g (shC C r (relL (C 81) (wC C) s due A).2)) := by
  have hn := hS.1
  have self := shC_self h hA hn
  have hl := h.len
  have hle : sumN A.2.2 s + A.2.2 s ≤ A.1 := by
    rw [← hA.2.2]
    exact sumN_mono (f := A.2.2) (show s + 1 ≤ 8 by omega)
  have e0 : sumN A.2.2 (s + 1) = sumN A.2.2 s + A.2.2 s := rfl
  unfold PX8_relieve
  simp (disch := omega) only [J_add, J_sub, J_mul, J_lt, J_le, J_eq, xbr_true, xbr_false, xbr_pos, xbr_neg, Int.toNat_natCast, all_eq, ex_eq, tS_lay (o := 80) (t := 9) rfl, s_amount hr h.2.2.2.2, h.amount hA hn hs]
  unfold relL
  by_cases c7 : s + 1 < 8
  · rw [if_pos c7]
    have hm := fst1_le (A.2.2 s) (fun j => decide (due ≤ rmA (C 81) (wC C) (mvA A s (s + 1) j) s))
    have hlt := fun j => fst1_lt (n := A.2.2 s) (f := fun j => decide (due ≤ rmA (C 81) (wC C) (mvA A s (s + 1) j) s)) (i := j)
    have hat := fst1_at (n := A.2.2 s) (f := fun j => decide (due ≤ rmA (C 81) (wC C) (mvA A s (s + 1) j) s))
    generalize fst1 (A.2.2 s) (fun j => decide (due ≤ rmA (C 81) (wC C) (mvA A s (s + 1) j) s)) = m at *
    have h00 : (lay z g C, J (A.2.2 s : Int)) = ((fun j : Nat => (lay z g (shC C r (mvA A s (s + 1) j)), J ((A.2.2 s - j : Nat) : Int))) 0) := by
      show _ = (lay z g (shC C r (mvA A s (s + 1) 0)), J ((A.2.2 s - 0 : Nat) : Int))
      rw [mvA_zero, self]; rfl
    rw [h00]
    refine lp_for (fun j : Nat => (lay z g (shC C r (mvA A s (s + 1) j)), J ((A.2.2 s - j : Nat) : Int))) 0 m _ (by omega) ?_ ?_
    · intro j _ hj kc
      have hAj := hA.mvL (j := j) (by omega) c7
      have hRj := h.shC (A' := mvA A s (s + 1) j) rfl rfl hAj hn
      have hb := rmA_b hS hAj hl hs
      have hf : ¬ due ≤ rmA (C 81) (wC C) (mvA A s (s + 1) j) s := of_decide_eq_false (hlt j hj)
      have hst := hRj.start hAj hn (s := s + 1) (by omega)
      have e1 : sumN (mvA A s (s + 1) j).2.2 (s + 1) = sumN A.2.2 (s + 1) - j := by rw [sumN_mvL (by omega), if_pos rfl]
      have hpos : sumN A.2.2 (s + 1) - j - 1 < A.1 := by omega
      have hbk := hRj.bk (i := sumN A.2.2 (s + 1) - j - 1) hpos
      have hbn := hA.1 _ hpos
      have hed := fun K => (s_edge (z := z) (g := g) (K := K) hr hRj.2.2.2.2 (s := (s : Int)) (by omega) (by omega)).1
      have ec : (((sumN A.2.2 (s + 1) - j : Nat) : Int) - 1) = ((sumN A.2.2 (s + 1) - j - 1 : Nat) : Int) := by omega
      have ec2 : ((s : Int) + 1) = ((s + 1 : Nat) : Int) := by omega
      unfold BX8_relieve_7 CX8_relieve_7
      simp (disch := omega) only [J_add, J_sub, J_mul, J_lt, J_le, J_eq, xbr_true, xbr_false, xbr_pos, xbr_neg, Int.toNat_natCast, all_eq, ex_eq, s_leftS (A' := mvA A s (s + 1) j) hr h rfl rfl hAj hS, s_isShelf, hed]
      rw [ec2, hst, e1, ec, hbk]
      show PX6_pass (ad z r) (J (A.2.1 (sumN A.2.2 (s + 1) - j - 1) : Nat)) (J ((s + 1 : Nat) : Int)) _ _ = _
      rw [s_pass hr (by omega), shC_mvL h hA hn c7 (by omega)]
      show kc (_, J _) = kc (_, J _)
      rw [show (((A.2.2 s - j : Nat) : Int) + -1) = ((A.2.2 s - (j + 1) : Nat) : Int) by omega]
    · intro kc
      have hAj := hA.mvL (j := m) (by omega) c7
      have hb := rmA_b hS hAj hl hs
      unfold BX8_relieve_7 CX8_relieve_7
      by_cases c : m < A.2.2 s
      · have hf : due ≤ rmA (C 81) (wC C) (mvA A s (s + 1) m) s := of_decide_eq_true (hat c)
        simp (disch := omega) only [J_add, J_sub, J_mul, J_lt, J_le, J_eq, xbr_true, xbr_false, xbr_pos, xbr_neg, Int.toNat_natCast, all_eq, ex_eq, s_leftS (A' := mvA A s (s + 1) m) hr h rfl rfl hAj hS, s_j57 (A' := mvA A s (s + 1) m) hr h rfl rfl hAj hS]
        simp
      · simp (disch := omega) only [J_add, J_sub, J_mul, J_lt, J_le, J_eq, xbr_true, xbr_false, xbr_pos, xbr_neg, Int.toNat_natCast, all_eq, ex_eq, s_j57 (A' := mvA A s (s + 1) m) hr h rfl rfl hAj hS]
        simp
  · rw [if_neg c7]
    have hb := rmA_b hS hA hl hs
    have j57 := fun K => s_j57 (z := z) (g := g) (K := K) (A' := A) hr h rfl rfl hA hS hs hd
    have lf := fun K => s_leftS (z := z) (g := g) (K := K) (A' := A) hr h rfl rfl hA hS hs
    rw [self] at j57 lf ⊢
    refine lp_for (fun j : Nat => (lay z g C, J (A.2.2 s : Int))) 0 0 _ (by omega) (fun j _ hj => by omega) ?_
    intro kc
    unfold BX8_relieve_7 CX8_relieve_7
    by_cases c : A.2.2 s = 0
    · simp (disch := omega) only [J_add, J_sub, J_mul, J_lt, J_le, J_eq, xbr_true, xbr_false, xbr_pos, xbr_neg, Int.toNat_natCast, all_eq, ex_eq, j57]
      simp
    · by_cases c2 : due ≤ rmA (C 81) (wC C) A s
      · simp (disch := omega) only [J_add, J_sub, J_mul, J_lt, J_le, J_eq, xbr_true, xbr_false, xbr_pos, xbr_neg, Int.toNat_natCast, all_eq, ex_eq, lf, j57]
        simp
      · simp (disch := omega) only [J_add, J_sub, J_mul, J_lt, J_le, J_eq, xbr_true, xbr_false, xbr_pos, xbr_neg, Int.toNat_natCast, all_eq, ex_eq, lf, s_isShelf, isB0, true_and]
        simp [c2]
end REL
