/-! PUT: both sides alike; save and back -/
def putA (W w : Nat → Int) (C : Nat → Nat → Int) (A : Rw) (b : Nat) (k : Int) : Bool × Rw :=
  pshL W w (8 - spotS A (spotA C A b k)) (spotS A (spotA C A b k)) 0 (insA A (spotA C A b k) b (spotS A (spotA C A b k)))
theorem pshL_ok {W w : Nat → Int} {nb n s : Nat} {due : Int} {A : Rw} (hA : RwOk A nb) : RwOk (pshL W w n s due A).2 nb ∧ (pshL W w n s due A).2.1 = A.1 ∧ (pshL W w n s due A).2.2.1 = A.2.1 := by
  induction n generalizing s due A with
  | zero => exact ⟨hA, rfl, rfl⟩
  | succ n ih =>
    obtain ⟨k1, k2, k3⟩ := relL_ok (W := W) (w := w) (s := s) (due := due) hA
    show RwOk (if (relL W w s due A).1 then pshL W w n (s + 1) 0 (relL W w s due A).2 else (false, (relL W w s due A).2)).2 nb ∧ (if (relL W w s due A).1 then pshL W w n (s + 1) 0 (relL W w s due A).2 else (false, (relL W w s due A).2)).2.1 = A.1 ∧ (if (relL W w s due A).1 then pshL W w n (s + 1) 0 (relL W w s due A).2 else (false, (relL W w s due A).2)).2.2.1 = A.2.1
    split
    · obtain ⟨j1, j2, j3⟩ := ih (s := s + 1) (due := 0) k1
      exact ⟨j1, by rw [j2, k2], by rw [j3, k3]⟩
    · exact ⟨k1, k2, k3⟩
theorem relL_congr {W W' w w' : Nat → Int} {nb s : Nat} {due : Int} {A : Rw} (hA : RwOk A nb) (hs : s < 8) (hW : ∀ s, s < 8 → W s = W' s) (hw : ∀ b, b < nb → w b = w' b) : relL W w s due A = relL W' w' s due A := by
  have e3 : ∀ j, j ≤ A.2.2 s → s + 1 < 8 → rmA W w (mvA A s (s + 1) j) s = rmA W' w' (mvA A s (s + 1) j) s := fun j hj h7 => by
    unfold rmA
    rw [usedA_congr (hA.mvL hj h7) hs hw, hW s hs]
  have e4 : rmA W w A s = rmA W' w' A s := by
    unfold rmA
    rw [usedA_congr hA hs hw, hW s hs]
  unfold relL
  by_cases c7 : s + 1 < 8
  · rw [if_pos c7, if_pos c7]
    have e5 : fst1 (A.2.2 s) (fun j => decide (due ≤ rmA W w (mvA A s (s + 1) j) s)) = fst1 (A.2.2 s) (fun j => decide (due ≤ rmA W' w' (mvA A s (s + 1) j) s)) := by
      refine fst1_congr fun j hj => ?_
      rw [e3 j (by omega) c7]
    rw [e5, e3 _ (fst1_le _ _) c7]
  · rw [if_neg c7, if_neg c7, e4]
theorem pshL_congr {W W' w w' : Nat → Int} {nb n s : Nat} {due : Int} {A : Rw} (hA : RwOk A nb) (hs : s + n ≤ 8) (hW : ∀ s, s < 8 → W s = W' s) (hw : ∀ b, b < nb → w b = w' b) : pshL W w n s due A = pshL W' w' n s due A := by
  induction n generalizing s due A with
  | zero => rfl
  | succ n ih =>
    have e := relL_congr (W := W) (W' := W') (w := w) (w' := w') (s := s) (due := due) hA (by omega) hW hw
    show (if (relL W w s due A).1 then pshL W w n (s + 1) 0 (relL W w s due A).2 else (false, (relL W w s due A).2)) = (if (relL W' w' s due A).1 then pshL W' w' n (s + 1) 0 (relL W' w' s due A).2 else (false, (relL W' w' s due A).2))
    rw [e, ih (relL_ok hA).1 (by omega)]
theorem spotS_b {A : Rw} {nb i : Nat} (hA : RwOk A nb) (hi : i ≤ A.1) : spotS A i < 8 ∧ sumN A.2.2 (spotS A i) ≤ i ∧ i ≤ sumN A.2.2 (spotS A i + 1) := by
  unfold spotS
  by_cases c : A.1 = 0
  · rw [if_pos c]
    exact ⟨by omega, Nat.zero_le _, by omega⟩
  · rw [if_neg c]
    by_cases c2 : A.1 - 1 < i
    · rw [if_pos c2]
      have hs := shAt_lt (on := A.2.2) (i := A.1 - 1) (by rw [hA.2.2]; omega)
      have hb := (shAt_iff (on := A.2.2) (i := A.1 - 1) hs).mp rfl
      exact ⟨hs, by omega, by omega⟩
    · rw [if_neg c2]
      have hs := shAt_lt (on := A.2.2) (i := i) (by rw [hA.2.2]; omega)
      have hb := (shAt_iff (on := A.2.2) (i := i) hs).mp rfl
      exact ⟨hs, by omega, by omega⟩
theorem spotA_le (C : Nat → Nat → Int) (A : Rw) (b : Nat) (k : Int) : spotA C A b k ≤ A.1 := fst1_le _ _
theorem insC_other {C : Nat → Nat → Int} {r i b : Nat} {s : Int} {a j : Nat} (h : a < r ∨ r + 2 < a) : insC C r i b s a j = C a j := by
  unfold insC
  rw [if_neg (by omega), if_neg (by omega), if_neg (by omega), if_neg (by omega)]
section PUT
variable {z : Nat} {g : Mem} {C : Nat → Nat → Int} {r nb : Nat} {A : Rw}
theorem RowC.spot (h : RowC C r A) (b : Nat) (k : Int) : fst1 (C r 2).toNat (fun i => !aheadC C (C (r + 1) i) b k) = spotA C A b k := by
  have e : (C r 2).toNat = A.1 := by have := h.1; omega
  rw [e]
  exact fst1_congr fun i hi => by rw [h.2.1 i hi]
theorem RowC.spotS (h : RowC C r A) (hA : RwOk A nb) (hn : nb ≤ 24) {i : Nat} (hi : i ≤ A.1) : (if C r 2 = 0 then 0 else shOf C r (bkAt C r (if C r 2 - 1 < (i : Int) then C r 2 - 1 else i))) = ((Jvm.Pilot.COutOfPlaceLaw_law_r2444_d06da6.spotS A i : Nat) : Int) := by
  have h1 := h.1
  unfold Jvm.Pilot.COutOfPlaceLaw_law_r2444_d06da6.spotS
  by_cases c : A.1 = 0
  · rw [if_pos (by omega), if_pos c]; rfl
  · rw [if_neg (by omega), if_neg c]
    by_cases c2 : A.1 - 1 < i
    · rw [if_pos (by omega), if_pos c2, show C r 2 - 1 = ((A.1 - 1 : Nat) : Int) by omega, h.bk (by omega), h.sh hA hn (by omega)]
    · rw [if_neg (by omega), if_neg c2, h.bk (by omega), h.sh hA hn (by omega)]
theorem row_lt (hr : isRow r) : 81 < r ∧ r + 2 < 104 := by unfold isRow at hr; omega
theorem Sm.ins (h : Sm C nb) (hr : isRow r) {i b : Nat} {s : Int} : Sm (insC C r i b s) nb := by
  have hr2 := row_lt hr
  refine ⟨h.1, by rw [insC_other (by omega)]; exact h.2.1, fun o ho => ?_, fun s hs => by rw [insC_other (by omega)]; exact h.2.2.2 s hs⟩
  have := row_book hr ho
  have hb := h.2.2.1 o ho
  unfold BookOk at hb ⊢
  simp only [insC_other (C := C) (i := i) (b := b) (s := s) (show o < r ∨ r + 2 < o by omega)]
  exact hb
theorem s_putBy {K : Int32 → Mem → Prop} (hr : isRow r) (h : RowC C r A) (hA : RwOk A nb) (hS : Sm C nb) {b : Nat} (hb : b < nb) (hq : ∀ i, i < A.1 → A.2.1 i ≠ b) {k : Int} (h1 : 0 ≤ k) (h2 : k < 5) : PX8_putBy (ad z 80) (ad z r) (ad z 3) (J b) (J k) (lay z g C) K = K (J (if (putA (C 81) (wC C) C A b k).1 then 1 else 0)) (lay z g (shC (insC C r (spotA C A b k) b (spotS A (spotA C A b k))) r (putA (C 81) (wC C) C A b k).2)) := by
  have hn := hS.1
  have hroom := hA.room hb hq
  have hi := spotA_le C A b k
  obtain ⟨s1, s2, s3⟩ := spotS_b hA hi
  have hl := h.len
  have hr2 := row_lt hr
  have l1 := h.1
  have sp := h.spot b k
  have ss := h.spotS hA hn hi
  unfold PX8_putBy putA
  simp (disch := omega) only [J_add, J_sub, J_mul, J_lt, J_le, J_eq, xbr_true, xbr_false, xbr_pos, xbr_neg, Int.toNat_natCast, all_eq, ex_eq, tS_lay (o := 80) (t := 9) rfl, s_spotFor hS.2.2.1 hr h.2.2.2.2, sp, s_shelfAtSpot hr h.2.2.2.2, ss, s_insert hr]
  generalize spotA C A b k = i at *
  generalize spotS A i = s at *
  have hR := h.ins hA hn hb hq hi s1 s2 s3
  have hO := hA.ins (i := i) hb hq hi s1
  have hS' := hS.ins (i := i) (b := b) (s := (s : Int)) hr
  have pl := fun K => s_pushL (z := z) (g := g) (K := K) hr hR hO hS' s1 (due := 0) (by omega)
  have e81 : insC C r i b (s : Int) 81 = C 81 := by funext j; exact insC_other (by omega)
  have ew : ∀ x, x < nb → wC (insC C r i b (s : Int)) x = wC C x := fun x hx => by
    have := row_book hr (o := 8 + 3 * x) (Or.inr ⟨x, by omega, rfl⟩)
    exact insC_other (by omega)
  have ep : pshL (insC C r i b (s : Int) 81) (wC (insC C r i b (s : Int))) (8 - s) s 0 (insA A i b s) = pshL (C 81) (wC C) (8 - s) s 0 (insA A i b s) := pshL_congr hO (by omega) (fun s _ => by rw [e81]) ew
  rw [pl, ep]
  simp [isBz]
theorem insM_other {i b s a j : Nat} (h : a ≠ 104 ∧ a ≠ 111 ∧ a ≠ 112) : insM C i b s a j = C a j := by
  unfold insM
  rw [if_neg (by omega), if_neg (by omega), if_neg (by omega), if_neg (by omega)]
theorem m_putNow {K : Int32 → Mem → Prop} (h : RowM C A) (hA : RwOk A nb) (hS : SmM C nb) (hB : ∀ b, b < nb → BkRel C b) {b : Nat} (hb : b < nb) (hq : ∀ i, i < A.1 → A.2.1 i ≠ b) {k : Int} (h1 : 0 ≤ k) (h2 : k < 5) : PX11_putNow (ad z 104) (J b) (J k) (lay z g C) K = K (J (if (putA (C 110) (C 109) C A b k).1 then 1 else 0)) (lay z g (onC (insM C (spotA C A b k) b (spotS A (spotA C A b k))) (putA (C 110) (C 109) C A b k).2)) := by
  have hn := hS.1
  have hroom := hA.room hb hq
  have hi := spotA_le C A b k
  obtain ⟨s1, s2, s3⟩ := spotS_b hA hi
  have l1 := h.1
  have l2 := h.2.1
  unfold PX11_putNow putA
  simp (disch := omega) only [J_add, J_sub, J_mul, J_lt, J_le, J_eq, xbr_true, xbr_false, xbr_pos, xbr_neg, Int.toNat_natCast, all_eq, ex_eq, tS_lay (o := 104) (t := 12) rfl, m_placeBy h hA hn hB hb h1 h2, m_shelfBy h hA hi, m_insert]
  generalize spotA C A b k = i at *
  generalize spotS A i = s at *
  have hR := h.ins (i := i) (b := b) (s := s) hi (by omega)
  have hO := hA.ins (i := i) hb hq hi s1
  have e110 : insM C i b s 110 = C 110 := by funext j; exact insM_other (by omega)
  have e109 : insM C i b s 109 = C 109 := by funext j; exact insM_other (by omega)
  have hS' : SmM (insM C i b s) nb := ⟨hS.1, by rw [e109]; exact hS.2.1, by rw [e110]; exact hS.2.2⟩
  rw [m_push hR hO hS' (by omega), e110, e109]
  simp [isBz]
/-- what save has kept is A -/
def WasM (C : Nat → Nat → Int) (A : Rw) : Prop := C 104 20 = A.1 ∧ (∀ i, i < A.1 → C 116 i = A.2.1 i) ∧ ∀ s, s < 8 → C 117 s = A.2.2 s
def savC (C : Nat → Nat → Int) (n m : Nat) : Nat → Nat → Int := fun a j => if a = 104 ∧ j = 20 then C 104 7 else if a = 116 ∧ j < n then C 111 j else if a = 117 ∧ j < m then C 112 j else C a j
def bakC (C : Nat → Nat → Int) (n m : Nat) : Nat → Nat → Int := fun a j => if a = 104 ∧ j = 7 then C 104 20 else if a = 111 ∧ j < n then C 116 j else if a = 112 ∧ j < m then C 117 j else C a j
theorem m_save {K : Mem → Prop} : PX11_save (ad z 104) (lay z g C) K = K (lay z g (savC C 25 8)) := by
  unfold PX11_save
  simp (disch := omega) only [J_add, J_sub, J_mul, J_lt, J_le, J_eq, xbr_true, xbr_false, xbr_pos, xbr_neg, Int.toNat_natCast, all_eq, ex_eq, tS_lay (o := 104) (t := 12) rfl, gI_lay (t := 12) (o := 104) (k := 7) rfl, pF_lay (t := 12) (o := 104) (k := 20) rfl]
  have e0 : up C 104 20 (C 104 7) = savC C 0 0 := by funext a j; simp [up, savC]
  rw [e0]
  refine lp_for (fun i : Nat => (lay z g (savC C i 0), J (i : Int))) 0 25 _ (by omega) ?_ ?_
  · intro i _ hi kc
    unfold BX11_save_10 CX11_save_10
    simp (disch := omega) only [J_add, J_sub, J_mul, J_lt, J_le, J_eq, xbr_true, xbr_false, xbr_pos, xbr_neg, Int.toNat_natCast, all_eq, ex_eq, gR_lay (t := 12) (o := 104) (k := 21) (r := 116) rfl, gR_lay (t := 12) (o := 104) (k := 8) (r := 111) rfl, aI_lay (o := 111) (N := 25) rfl, aS_lay (o := 116) (N := 25) rfl]
    have e1 : up (savC C i 0) 116 i (savC C i 0 111 i) = savC C (i + 1) 0 := by
      have q : savC C i 0 111 i = C 111 i := by unfold savC; rw [if_neg (by omega), if_neg (by omega), if_neg (by omega)]
      rw [q]
      funext a j
      simp only [up, savC]
      by_cases j1 : j = i
      · subst j1
        repeat' split
        all_goals first | rfl | omega
      · repeat' split
        all_goals first | rfl | omega
    rw [e1]; rfl
  · intro kc
    unfold BX11_save_10 CX11_save_10
    simp (disch := omega) only [J_add, J_sub, J_mul, J_lt, J_le, J_eq, xbr_true, xbr_false, xbr_pos, xbr_neg, Int.toNat_natCast, all_eq, ex_eq]
    refine lp_for (fun i : Nat => (lay z g (savC C 25 i), J (i : Int))) 0 8 _ (by omega) ?_ ?_
    · intro i _ hi kc
      unfold BX11_save_36 CX11_save_36
      simp (disch := omega) only [J_add, J_sub, J_mul, J_lt, J_le, J_eq, xbr_true, xbr_false, xbr_pos, xbr_neg, Int.toNat_natCast, all_eq, ex_eq, gR_lay (t := 12) (o := 104) (k := 22) (r := 117) rfl, gR_lay (t := 12) (o := 104) (k := 9) (r := 112) rfl, aI_lay (o := 112) (N := 8) rfl, aS_lay (o := 117) (N := 8) rfl]
      have e1 : up (savC C 25 i) 117 i (savC C 25 i 112 i) = savC C 25 (i + 1) := by
        have q : savC C 25 i 112 i = C 112 i := by unfold savC; rw [if_neg (by omega), if_neg (by omega), if_neg (by omega)]
        rw [q]
        funext a j
        simp only [up, savC]
        by_cases j1 : j = i
        · subst j1
          repeat' split
          all_goals first | rfl | omega
        · repeat' split
          all_goals first | rfl | omega
      rw [e1]; rfl
    · intro kc
      unfold BX11_save_36 CX11_save_36
      simp (disch := omega) only [J_add, J_sub, J_mul, J_lt, J_le, J_eq, xbr_true, xbr_false, xbr_pos, xbr_neg, Int.toNat_natCast, all_eq, ex_eq]
theorem m_back {K : Mem → Prop} : PX11_back (ad z 104) (lay z g C) K = K (lay z g (bakC C 25 8)) := by
  unfold PX11_back
  simp (disch := omega) only [J_add, J_sub, J_mul, J_lt, J_le, J_eq, xbr_true, xbr_false, xbr_pos, xbr_neg, Int.toNat_natCast, all_eq, ex_eq, tS_lay (o := 104) (t := 12) rfl, gI_lay (t := 12) (o := 104) (k := 20) rfl, pF_lay (t := 12) (o := 104) (k := 7) rfl]
  have e0 : up C 104 7 (C 104 20) = bakC C 0 0 := by funext a j; simp [up, bakC]
  rw [e0]
  refine lp_for (fun i : Nat => (lay z g (bakC C i 0), J (i : Int))) 0 25 _ (by omega) ?_ ?_
  · intro i _ hi kc
    unfold BX11_back_10 CX11_back_10
    simp (disch := omega) only [J_add, J_sub, J_mul, J_lt, J_le, J_eq, xbr_true, xbr_false, xbr_pos, xbr_neg, Int.toNat_natCast, all_eq, ex_eq, gR_lay (t := 12) (o := 104) (k := 21) (r := 116) rfl, gR_lay (t := 12) (o := 104) (k := 8) (r := 111) rfl, aI_lay (o := 116) (N := 25) rfl, aS_lay (o := 111) (N := 25) rfl]
    have e1 : up (bakC C i 0) 111 i (bakC C i 0 116 i) = bakC C (i + 1) 0 := by
      have q : bakC C i 0 116 i = C 116 i := by unfold bakC; rw [if_neg (by omega), if_neg (by omega), if_neg (by omega)]
      rw [q]
      funext a j
      simp only [up, bakC]
      by_cases j1 : j = i
      · subst j1
        repeat' split
        all_goals first | rfl | omega
      · repeat' split
        all_goals first | rfl | omega
    rw [e1]; rfl
  · intro kc
    unfold BX11_back_10 CX11_back_10
    simp (disch := omega) only [J_add, J_sub, J_mul, J_lt, J_le, J_eq, xbr_true, xbr_false, xbr_pos, xbr_neg, Int.toNat_natCast, all_eq, ex_eq]
    refine lp_for (fun i : Nat => (lay z g (bakC C 25 i), J (i : Int))) 0 8 _ (by omega) ?_ ?_
    · intro i _ hi kc
      unfold BX11_back_36 CX11_back_36
      simp (disch := omega) only [J_add, J_sub, J_mul, J_lt, J_le, J_eq, xbr_true, xbr_false, xbr_pos, xbr_neg, Int.toNat_natCast, all_eq, ex_eq, gR_lay (t := 12) (o := 104) (k := 22) (r := 117) rfl, gR_lay (t := 12) (o := 104) (k := 9) (r := 112) rfl, aI_lay (o := 117) (N := 8) rfl, aS_lay (o := 112) (N := 8) rfl]
      have e1 : up (bakC C 25 i) 112 i (bakC C 25 i 117 i) = bakC C 25 (i + 1) := by
        have q : bakC C 25 i 117 i = C 117 i := by unfold bakC; rw [if_neg (by omega), if_neg (by omega), if_neg (by omega)]
        rw [q]
        funext a j
        simp only [up, bakC]
        by_cases j1 : j = i
        · subst j1
          repeat' split
          all_goals first | rfl | omega
        · repeat' split
          all_goals first | rfl | omega
      rw [e1]; rfl
    · intro kc
      unfold BX11_back_36 CX11_back_36
      simp (disch := omega) only [J_add, J_sub, J_mul, J_lt, J_le, J_eq, xbr_true, xbr_false, xbr_pos, xbr_neg, Int.toNat_natCast, all_eq, ex_eq]
theorem RowM.sav (h : RowM C A) : RowM (savC C 25 8) A ∧ WasM (savC C 25 8) A := by
  obtain ⟨h1, h2, h3, h4⟩ := h
  have q : ∀ a j, a ≠ 116 → a ≠ 117 → (a = 104 → j ≠ 20) → savC C 25 8 a j = C a j := fun a j x1 x2 x3 => by
    unfold savC; rw [if_neg (fun q => x3 q.1 q.2), if_neg (by omega), if_neg (by omega)]
  refine ⟨⟨by rw [q _ _ (by omega) (by omega) (by omega)]; exact h1, h2, fun i hi => by rw [q _ _ (by omega) (by omega) (by omega)]; exact h3 i hi, fun s hs => by rw [q _ _ (by omega) (by omega) (by omega)]; exact h4 s hs⟩, ?_, fun i hi => ?_, fun s hs => ?_⟩
  · unfold savC; rw [if_pos ⟨rfl, rfl⟩]; exact h1
  · unfold savC; rw [if_neg (by omega), if_pos (by omega)]; exact h3 i hi
  · unfold savC; rw [if_neg (by omega), if_neg (by omega), if_pos (by omega)]; exact h4 s hs
theorem WasM.bak (h : WasM C A) (hl : A.1 ≤ 24) : RowM (bakC C 25 8) A := by
  obtain ⟨h1, h3, h4⟩ := h
  refine ⟨?_, hl, fun i hi => ?_, fun s hs => ?_⟩
  · unfold bakC; rw [if_pos ⟨rfl, rfl⟩]; exact h1
  · unfold bakC; rw [if_neg (by omega), if_pos (by omega)]; exact h3 i hi
  · unfold bakC; rw [if_neg (by omega), if_neg (by omega), if_pos (by omega)]; exact h4 s hs
end PUT
