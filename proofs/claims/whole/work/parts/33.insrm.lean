/-! a book comes into a row, goes out of it -/
def insA (A : Rw) (i b s : Nat) : Rw := (A.1 + 1, fun j => if j < i then A.2.1 j else if j = i then b else A.2.1 (j - 1), fun k => if k = s then A.2.2 s + 1 else A.2.2 k)
def rmvA (A : Rw) (p : Nat) : Rw := (A.1 - 1, fun j => if j < p then A.2.1 j else A.2.1 (j + 1), fun k => if k = shAt A.2.2 p then A.2.2 k - 1 else A.2.2 k)
theorem sumN_ins {on : Nat → Nat} {s k : Nat} : sumN (fun k => if k = s then on s + 1 else on k) k = if s < k then sumN on k + 1 else sumN on k := by
  induction k with
  | zero => rw [if_neg (by omega)]; rfl
  | succ k ih =>
    show sumN _ k + (if k = s then on s + 1 else on k) = _
    rw [ih]
    have e : sumN on (k + 1) = sumN on k + on k := rfl
    rw [e]
    by_cases c : k = s
    · subst c; rw [if_neg (by omega), if_pos rfl, if_pos (by omega)]; omega
    · by_cases c2 : s < k
      · rw [if_pos c2, if_neg c, if_pos (by omega)]; omega
      · rw [if_neg c2, if_neg c, if_neg (by omega)]
theorem sumN_rm {on : Nat → Nat} {s k : Nat} (h : 0 < on s) : sumN (fun k => if k = s then on k - 1 else on k) k = if s < k then sumN on k - 1 else sumN on k := by
  induction k with
  | zero => rw [if_neg (by omega)]; rfl
  | succ k ih =>
    show sumN _ k + (if k = s then on k - 1 else on k) = _
    rw [ih]
    have e : sumN on (k + 1) = sumN on k + on k := rfl
    rw [e]
    by_cases c : k = s
    · subst c; rw [if_neg (by omega), if_pos rfl, if_pos (by omega)]; omega
    · by_cases c2 : s < k
      · have m1 := sumN_mono (f := on) (show s + 1 ≤ k by omega)
        have e2 : sumN on (s + 1) = sumN on s + on s := rfl
        rw [if_pos c2, if_neg c, if_pos (by omega)]; omega
      · rw [if_neg c2, if_neg c, if_neg (by omega)]
theorem RwOk.room {A : Rw} {nb b : Nat} (h : RwOk A nb) (hb : b < nb) (hq : ∀ i, i < A.1 → A.2.1 i ≠ b) : A.1 < nb := by
  have e := sumZ_perm (F := fun x => if x = b then 0 else if idx A x < A.1 then 1 else 0) (ln := A.2.1) (n := nb) (m := A.1) h.1 h.2.1 (fun x hx hq => by
    show (if x = b then (0 : Int) else if idx A x < A.1 then 1 else 0) = 0
    split
    · rfl
    · rw [if_neg (fun c => hq _ c (idx_at c))])
  rw [sumZ_congr (n := A.1) (g := fun _ => 1) (fun i hi => by
    show (if A.2.1 i = b then (0 : Int) else if idx A (A.2.1 i) < A.1 then 1 else 0) = 1
    rw [if_neg (hq i hi), idx_of h hi, if_pos hi]), sumZ_ones] at e
  have e2 : sumZ (fun x => if x = b then (0 : Int) else if idx A x < A.1 then 1 else 0) nb + 1 ≤ nb := by
    have key : ∀ n, sumZ (fun x => if x = b then (0 : Int) else if idx A x < A.1 then 1 else 0) n + (if b < n then 1 else 0) ≤ n := by
      intro n
      induction n with
      | zero => simp [sumZ]
      | succ n ih =>
        show sumZ _ n + (if n = b then (0 : Int) else if idx A n < A.1 then 1 else 0) + _ ≤ _
        by_cases c : n = b
        · rw [if_pos c, if_pos (by omega)]
          rw [if_neg (by omega)] at ih
          omega
        · rw [if_neg c]
          by_cases c2 : b < n
          · rw [if_pos c2] at ih
            rw [if_pos (show b < n + 1 by omega)]
            split <;> omega
          · rw [if_neg c2] at ih
            rw [if_neg (show ¬ b < n + 1 by omega)]
            split <;> omega
    have := key nb
    rw [if_pos hb] at this
    exact this
  omega
theorem shAt_ins {on : Nat → Nat} {i s j : Nat} (hs : s < 8) (h1 : sumN on s ≤ i) (h2 : i ≤ sumN on (s + 1)) (hj : j ≤ sumN on 8) : shAt (fun k => if k = s then on s + 1 else on k) j = if j < i then shAt on j else if j = i then s else shAt on (j - 1) := by
  have S := fun k => sumN_ins (on := on) (s := s) (k := k)
  by_cases c1 : j < i
  · rw [if_pos c1]
    have ht := shAt_lt (on := on) (i := j) (by have := sumN_mono (f := on) (show s + 1 ≤ 8 by omega); omega)
    have hb := (shAt_iff (on := on) (i := j) ht).mp rfl
    refine (shAt_iff ht).mpr ⟨?_, ?_⟩
    · rw [S]
      by_cases c : s < shAt on j
      · have := sumN_mono (f := on) (show s + 1 ≤ shAt on j by omega)
        omega
      · rw [if_neg c]; exact hb.1
    · rw [S]
      split <;> omega
  · rw [if_neg c1]
    by_cases c2 : j = i
    · rw [if_pos c2]
      refine (shAt_iff hs).mpr ⟨by rw [S, if_neg (by omega)]; omega, by rw [S, if_pos (by omega)]; omega⟩
    · rw [if_neg c2]
      have ht := shAt_lt (on := on) (i := j - 1) (by omega)
      have hb := (shAt_iff (on := on) (i := j - 1) ht).mp rfl
      refine (shAt_iff ht).mpr ⟨?_, ?_⟩
      · rw [S]
        split <;> omega
      · rw [S]
        by_cases c : s < shAt on (j - 1) + 1
        · rw [if_pos c]; omega
        · have := sumN_mono (f := on) (show shAt on (j - 1) + 1 ≤ s by omega)
          omega
theorem shAt_rm {on : Nat → Nat} {p j : Nat} (hp : p < sumN on 8) (hj : j + 1 < sumN on 8) : shAt (fun k => if k = shAt on p then on k - 1 else on k) j = if j < p then shAt on j else shAt on (j + 1) := by
  have hs := shAt_lt hp
  have hpb := (shAt_iff (on := on) (i := p) hs).mp rfl
  have e2 : sumN on (shAt on p + 1) = sumN on (shAt on p) + on (shAt on p) := rfl
  have S := fun k => sumN_rm (on := on) (s := shAt on p) (k := k) (by omega)
  by_cases c1 : j < p
  · rw [if_pos c1]
    have ht := shAt_lt (on := on) (i := j) (by omega)
    have hb := (shAt_iff (on := on) (i := j) ht).mp rfl
    refine (shAt_iff ht).mpr ⟨?_, ?_⟩
    · rw [S]
      split <;> omega
    · rw [S]
      by_cases c : shAt on p < shAt on j + 1
      · rw [if_pos c]
        by_cases c3 : shAt on j + 1 = shAt on p + 1
        · rw [c3]; omega
        · have := sumN_mono (f := on) (show shAt on p + 1 ≤ shAt on j + 1 by omega)
          omega
      · rw [if_neg c]; exact hb.2
  · rw [if_neg c1]
    have ht := shAt_lt (on := on) (i := j + 1) hj
    have hb := (shAt_iff (on := on) (i := j + 1) ht).mp rfl
    refine (shAt_iff ht).mpr ⟨?_, ?_⟩
    · rw [S]
      by_cases c : shAt on p < shAt on (j + 1)
      · rw [if_pos c]; omega
      · rw [if_neg c]
        have := sumN_mono (f := on) (show shAt on (j + 1) ≤ shAt on p by omega)
        omega
    · rw [S]
      by_cases c : shAt on p < shAt on (j + 1) + 1
      · rw [if_pos c]; omega
      · have := sumN_mono (f := on) (show shAt on (j + 1) + 1 ≤ shAt on p by omega)
        omega
theorem RwOk.ins {A : Rw} {nb i b s : Nat} (h : RwOk A nb) (hb : b < nb) (hq : ∀ i, i < A.1 → A.2.1 i ≠ b) (hi : i ≤ A.1) (hs : s < 8) : RwOk (insA A i b s) nb := by
  refine ⟨fun j hj => ?_, fun j k hj hk e => ?_, ?_⟩
  · have hj' : j < A.1 + 1 := hj
    show (if j < i then A.2.1 j else if j = i then b else A.2.1 (j - 1)) < nb
    split
    · exact h.1 _ (by omega)
    · split
      · exact hb
      · exact h.1 _ (by omega)
  · have hj' : j < A.1 + 1 := hj
    have hk' : k < A.1 + 1 := hk
    have e' : (if j < i then A.2.1 j else if j = i then b else A.2.1 (j - 1)) = (if k < i then A.2.1 k else if k = i then b else A.2.1 (k - 1)) := e
    by_cases c1 : j < i
    · rw [if_pos c1] at e'
      by_cases d1 : k < i
      · rw [if_pos d1] at e'; exact h.2.1 _ _ (by omega) (by omega) e'
      · rw [if_neg d1] at e'
        by_cases d2 : k = i
        · rw [if_pos d2] at e'; exact absurd e' (hq _ (by omega))
        · rw [if_neg d2] at e'; have := h.2.1 _ _ (by omega) (by omega) e'; omega
    · rw [if_neg c1] at e'
      by_cases c2 : j = i
      · rw [if_pos c2] at e'
        by_cases d1 : k < i
        · rw [if_pos d1] at e'; exact absurd e'.symm (hq _ (by omega))
        · rw [if_neg d1] at e'
          by_cases d2 : k = i
          · omega
          · rw [if_neg d2] at e'; exact absurd e'.symm (hq _ (by omega))
      · rw [if_neg c2] at e'
        by_cases d1 : k < i
        · rw [if_pos d1] at e'; have := h.2.1 _ _ (by omega) (by omega) e'; omega
        · rw [if_neg d1] at e'
          by_cases d2 : k = i
          · rw [if_pos d2] at e'; exact absurd e' (hq _ (by omega))
          · rw [if_neg d2] at e'; have := h.2.1 _ _ (by omega) (by omega) e'; omega
  · show sumN (fun k => if k = s then A.2.2 s + 1 else A.2.2 k) 8 = A.1 + 1
    rw [sumN_ins, if_pos hs, h.2.2]
theorem RwOk.rmv {A : Rw} {nb p : Nat} (h : RwOk A nb) (hp : p < A.1) : RwOk (rmvA A p) nb := by
  have hp8 : p < sumN A.2.2 8 := by rw [h.2.2]; exact hp
  have hs := shAt_lt hp8
  have hpb := (shAt_iff (on := A.2.2) (i := p) hs).mp rfl
  have e2 : sumN A.2.2 (shAt A.2.2 p + 1) = sumN A.2.2 (shAt A.2.2 p) + A.2.2 (shAt A.2.2 p) := rfl
  refine ⟨fun j hj => ?_, fun j k hj hk e => ?_, ?_⟩
  · have hj' : j < A.1 - 1 := hj
    show (if j < p then A.2.1 j else A.2.1 (j + 1)) < nb
    split <;> exact h.1 _ (by omega)
  · have hj' : j < A.1 - 1 := hj
    have hk' : k < A.1 - 1 := hk
    have e' : (if j < p then A.2.1 j else A.2.1 (j + 1)) = (if k < p then A.2.1 k else A.2.1 (k + 1)) := e
    by_cases c1 : j < p
    · rw [if_pos c1] at e'
      by_cases d1 : k < p
      · rw [if_pos d1] at e'; exact h.2.1 _ _ (by omega) (by omega) e'
      · rw [if_neg d1] at e'; have := h.2.1 _ _ (by omega) (by omega) e'; omega
    · rw [if_neg c1] at e'
      by_cases d1 : k < p
      · rw [if_pos d1] at e'; have := h.2.1 _ _ (by omega) (by omega) e'; omega
      · rw [if_neg d1] at e'; have := h.2.1 _ _ (by omega) (by omega) e'; omega
  · show sumN (fun k => if k = shAt A.2.2 p then A.2.2 k - 1 else A.2.2 k) 8 = A.1 - 1
    rw [sumN_rm (by omega), if_pos hs, h.2.2]
section IR
variable {z : Nat} {g : Mem} {C : Nat → Nat → Int} {r nb : Nat} {A : Rw}
theorem RowC.ins (h : RowC C r A) (hA : RwOk A nb) (hn : nb ≤ 24) {i b s : Nat} (hb : b < nb) (hq : ∀ i, i < A.1 → A.2.1 i ≠ b) (hi : i ≤ A.1) (hs : s < 8) (h1 : sumN A.2.2 s ≤ i) (h2 : i ≤ sumN A.2.2 (s + 1)) : RowC (insC C r i b (s : Int)) r (insA A i b s) := by
  have hroom := hA.room hb hq
  obtain ⟨g1, g2, g3, g4, g5⟩ := h
  have hO := hA.ins (i := i) hb hq hi hs
  have shi : ∀ j, j < A.1 + 1 → shAt (insA A i b s).2.2 j = if j < i then shAt A.2.2 j else if j = i then s else shAt A.2.2 (j - 1) := fun j hj => shAt_ins hs h1 h2 (by rw [hA.2.2]; omega)
  have q1 : insC C r i b (s : Int) r 2 = C r 2 + 1 := by unfold insC; rw [if_pos ⟨rfl, rfl⟩]
  have q2 : ∀ j, insC C r i b (s : Int) (r + 1) j = if j = i then (b : Int) else if i < j ∧ (j : Int) ≤ C r 2 then C (r + 1) (j - 1) else C (r + 1) j := fun j => by
    unfold insC
    rw [if_neg (by omega)]
    by_cases c : j = i
    · rw [if_pos ⟨rfl, c⟩, if_pos c]
    · rw [if_neg (by omega), if_neg c]
      by_cases c2 : i < j ∧ (j : Int) ≤ C r 2
      · rw [if_pos ⟨rfl, c2⟩, if_pos c2]
      · rw [if_neg (fun q => c2 q.2), if_neg c2, if_neg (by omega)]
  have q3 : ∀ j, insC C r i b (s : Int) (r + 2) j = if j = b then (s : Int) else C (r + 2) j := fun j => by
    unfold insC
    rw [if_neg (by omega), if_neg (by omega), if_neg (by omega)]
    by_cases c : j = b
    · rw [if_pos ⟨rfl, c⟩, if_pos c]
    · rw [if_neg (by omega), if_neg c]
  refine ⟨?_, fun j hj => ?_, fun j hj => ?_, fun x hx hx2 => ?_, ?_, fun j hj => ?_, fun x hx => ?_⟩
  · rw [q1, g1]; show (A.1 : Int) + 1 = ((A.1 + 1 : Nat) : Int); omega
  · have hj' : j < A.1 + 1 := hj
    rw [q2]
    show _ = ((if j < i then A.2.1 j else if j = i then b else A.2.1 (j - 1) : Nat) : Int)
    by_cases c1 : j < i
    · rw [if_neg (by omega), if_neg (by omega), if_pos c1]; exact g2 j (by omega)
    · rw [if_neg c1]
      by_cases c2 : j = i
      · rw [if_pos c2, if_pos c2]
      · rw [if_neg c2, if_pos (by omega), if_neg c2]; exact g2 _ (by omega)
  · have hj' : j < A.1 + 1 := hj
    rw [q3, shi j hj']
    show (if (if j < i then A.2.1 j else if j = i then b else A.2.1 (j - 1)) = b then (s : Int) else C (r + 2) (if j < i then A.2.1 j else if j = i then b else A.2.1 (j - 1))) = _
    by_cases c1 : j < i
    · rw [if_pos c1, if_pos c1, if_neg (hq _ (by omega))]; exact g3 j (by omega)
    · rw [if_neg c1, if_neg c1]
      by_cases c2 : j = i
      · rw [if_pos c2, if_pos c2, if_pos rfl]
      · rw [if_neg c2, if_neg c2, if_neg (hq _ (by omega))]; exact g3 _ (by omega)
  · rw [q3]
    have hx3 : x ≠ b := fun e => hx2 i (by show i < A.1 + 1; omega) (by
      show (if i < i then A.2.1 i else if i = i then b else A.2.1 (i - 1)) = x
      rw [if_neg (by omega), if_pos rfl]; exact e.symm)
    rw [if_neg hx3]
    refine g4 x hx fun j hj e => ?_
    by_cases c1 : j < i
    · exact hx2 j (by show j < A.1 + 1; omega) (by
        show (if j < i then A.2.1 j else if j = i then b else A.2.1 (j - 1)) = x
        rw [if_pos c1]; exact e)
    · exact hx2 (j + 1) (by show j + 1 < A.1 + 1; omega) (by
        show (if j + 1 < i then A.2.1 (j + 1) else if j + 1 = i then b else A.2.1 (j + 1 - 1)) = x
        rw [if_neg (by omega), if_neg (by omega)]; exact e)
  · rw [q1]; have := g5.1; omega
  · rw [q2]
    have := g5.2.1 j hj
    have h3 := g5.2.1 (j - 1) (by omega)
    split
    · omega
    · split <;> omega
  · rw [q3]
    have := g5.2.2 x hx
    split <;> omega
theorem RowC.rmv (h : RowC C r A) (hA : RwOk A nb) (hn : nb ≤ 24) {p : Nat} (hp : p < A.1) : RowC (rmC C r p (A.2.1 p)) r (rmvA A p) := by
  have hlen := h.len
  obtain ⟨g1, g2, g3, g4, g5⟩ := h
  have hp8 : p < sumN A.2.2 8 := by rw [hA.2.2]; exact hp
  have shi : ∀ j, j < A.1 - 1 → shAt (rmvA A p).2.2 j = if j < p then shAt A.2.2 j else shAt A.2.2 (j + 1) := fun j hj => shAt_rm hp8 (by rw [hA.2.2]; omega)
  have q1 : rmC C r p (A.2.1 p) r 2 = C r 2 - 1 := by unfold rmC; rw [if_pos ⟨rfl, rfl⟩]
  have q2 : ∀ j, rmC C r p (A.2.1 p) (r + 1) j = if p ≤ j ∧ (j : Int) < C r 2 - 1 then C (r + 1) (j + 1) else C (r + 1) j := fun j => by
    unfold rmC
    rw [if_neg (by omega)]
    by_cases c2 : p ≤ j ∧ (j : Int) < C r 2 - 1
    · rw [if_pos ⟨rfl, c2⟩, if_pos c2]
    · rw [if_neg (fun q => c2 q.2), if_neg c2, if_neg (by omega)]
  have q3 : ∀ j, rmC C r p (A.2.1 p) (r + 2) j = if j = A.2.1 p then -1 else C (r + 2) j := fun j => by
    unfold rmC
    rw [if_neg (by omega), if_neg (by omega)]
    by_cases c : j = A.2.1 p
    · rw [if_pos ⟨rfl, c⟩, if_pos c]
    · rw [if_neg (by omega), if_neg c]
  refine ⟨?_, fun j hj => ?_, fun j hj => ?_, fun x hx hx2 => ?_, ?_, fun j hj => ?_, fun x hx => ?_⟩
  · rw [q1, g1]; show (A.1 : Int) - 1 = ((A.1 - 1 : Nat) : Int); omega
  · have hj' : j < A.1 - 1 := hj
    rw [q2]
    show _ = ((if j < p then A.2.1 j else A.2.1 (j + 1) : Nat) : Int)
    by_cases c1 : j < p
    · rw [if_neg (by omega), if_pos c1]; exact g2 j (by omega)
    · rw [if_pos (by omega), if_neg c1]; exact g2 _ (by omega)
  · have hj' : j < A.1 - 1 := hj
    rw [q3, shi j hj']
    show (if (if j < p then A.2.1 j else A.2.1 (j + 1)) = A.2.1 p then (-1 : Int) else C (r + 2) (if j < p then A.2.1 j else A.2.1 (j + 1))) = _
    by_cases c1 : j < p
    · rw [if_pos c1, if_pos c1, if_neg (fun e => by have := hA.2.1 _ _ (by omega) hp e; omega)]; exact g3 j (by omega)
    · rw [if_neg c1, if_neg c1, if_neg (fun e => by have := hA.2.1 _ _ (by omega) hp e; omega)]; exact g3 _ (by omega)
  · rw [q3]
    split
    · rfl
    · rename_i hne
      refine g4 x hx fun j hj e => ?_
      by_cases c1 : j < p
      · exact hx2 j (by show j < A.1 - 1; omega) (by
          show (if j < p then A.2.1 j else A.2.1 (j + 1)) = x
          rw [if_pos c1]; exact e)
      · by_cases c2 : j = p
        · subst c2; exact hne e.symm
        · exact hx2 (j - 1) (by show j - 1 < A.1 - 1; omega) (by
            show (if j - 1 < p then A.2.1 (j - 1) else A.2.1 (j - 1 + 1)) = x
            rw [if_neg (by omega), show j - 1 + 1 = j by omega]; exact e)
  · rw [q1]; have := g5.1; omega
  · rw [q2]
    have := g5.2.1 j hj
    split
    · exact g5.2.1 (j + 1) (by omega)
    · exact this
  · rw [q3]
    have := g5.2.2 x hx
    split <;> omega
end IR
