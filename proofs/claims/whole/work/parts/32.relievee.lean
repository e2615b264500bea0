/-! PUSHING to earlier shelves; the whole of a push -/
/-- a loop's one step -/
theorem lp_step {S : Type} {body : (S → Prop) → S → Prop} {s s' : S} (h : ∀ kc, body kc s = kc s') : lp body s = lp body s' := propext ⟨fun ⟨n, hn⟩ => by
  cases n with
  | zero => exact hn.elim
  | succ n =>
    have h2 : body (lpn body n) s := hn
    rw [h] at h2
    exact ⟨n, h2⟩, fun ⟨n, hn⟩ => ⟨n + 1, by show body (lpn body n) s; rw [h]; exact hn⟩⟩
theorem fst1_congr {n : Nat} {f g : Nat → Bool} (h : ∀ i, i < n → f i = g i) : fst1 n f = fst1 n g := by
  induction n generalizing f g with
  | zero => rfl
  | succ n ih =>
    unfold fst1
    rw [h 0 (by omega), ih (f := fun i => f (i + 1)) (g := fun i => g (i + 1)) (fun i hi => h (i + 1) (by omega))]
section REE
variable {z : Nat} {g : Mem} {C : Nat → Nat → Int} {r nb : Nat} {A : Rw}
theorem s_relE {K : Int32 → Mem → Prop} (hr : isRow r) (h : RowC C r A) (hA : RwOk A nb) (hS : Sm C nb) {s : Nat} (hs : s < 8) {due : Int} (hd : 0 ≤ due ∧ due ≤ 100) : PX8_relieve (ad z 80) (ad z r) (ad z 3) (J s) (J due) (J (-1)) (lay z g C) K = K (J (if (relE (C 81) (wC C) s due A).1 then 1 else 0)) (lay z g (shC C r (relE (C 81) (wC C) s due A).2)) := by
  have hn := hS.1
  have self := shC_self h hA hn
  have hl := h.len
  have hle : sumN A.2.2 s + A.2.2 s ≤ A.1 := by
    rw [← hA.2.2]
    exact sumN_mono (f := A.2.2) (show s + 1 ≤ 8 by omega)
  unfold PX8_relieve
  simp (disch := omega) only [J_add, J_sub, J_mul, J_lt, J_le, J_eq, xbr_true, xbr_false, xbr_pos, xbr_neg, Int.toNat_natCast, all_eq, ex_eq, tS_lay (o := 80) (t := 9) rfl, s_amount hr h.2.2.2.2, h.amount hA hn hs]
  unfold relE
  by_cases c7 : 0 < s
  · obtain ⟨q, rfl⟩ : ∃ q, s = q + 1 := ⟨s - 1, by omega⟩
    rw [if_pos c7]
    simp only [Nat.add_sub_cancel]
    have e0 : sumN A.2.2 (q + 1 + 1) = sumN A.2.2 (q + 1) + A.2.2 (q + 1) := rfl
    have hm := fst1_le (A.2.2 (q + 1)) (fun j => decide (due ≤ rmA (C 81) (wC C) (mvA A (q + 1) q j) (q + 1)))
    have hlt := fun j => fst1_lt (n := A.2.2 (q + 1)) (f := fun j => decide (due ≤ rmA (C 81) (wC C) (mvA A (q + 1) q j) (q + 1))) (i := j)
    have hat := fst1_at (n := A.2.2 (q + 1)) (f := fun j => decide (due ≤ rmA (C 81) (wC C) (mvA A (q + 1) q j) (q + 1)))
    generalize fst1 (A.2.2 (q + 1)) (fun j => decide (due ≤ rmA (C 81) (wC C) (mvA A (q + 1) q j) (q + 1))) = m at *
    have h00 : (lay z g C, J (A.2.2 (q + 1) : Int)) = ((fun j : Nat => (lay z g (shC C r (mvA A (q + 1) q j)), J ((A.2.2 (q + 1) - j : Nat) : Int))) 0) := by
      show _ = (lay z g (shC C r (mvA A (q + 1) q 0)), J ((A.2.2 (q + 1) - 0 : Nat) : Int))
      rw [mvA_zero, self]; rfl
    rw [h00]
    refine lp_for (fun j : Nat => (lay z g (shC C r (mvA A (q + 1) q j)), J ((A.2.2 (q + 1) - j : Nat) : Int))) 0 m _ (by omega) ?_ ?_
    · intro j _ hj kc
      have hAj := hA.mvE (j := j) (by omega) hs
      have hRj := h.shC (A' := mvA A (q + 1) q j) rfl rfl hAj hn
      have hb := rmA_b hS hAj hl hs
      have hf : ¬ due ≤ rmA (C 81) (wC C) (mvA A (q + 1) q j) (q + 1) := of_decide_eq_false (hlt j hj)
      have hst := hRj.start hAj hn (s := q + 1) (by omega)
      have e1 : sumN (mvA A (q + 1) q j).2.2 (q + 1) = sumN A.2.2 (q + 1) + j := by rw [sumN_mvE (by omega), if_pos rfl]
      have hpos : sumN A.2.2 (q + 1) + j < A.1 := by omega
      have hbk := hRj.bk (i := sumN A.2.2 (q + 1) + j) hpos
      have hbn := hA.1 _ hpos
      have hed := fun K => (s_edge (z := z) (g := g) (K := K) hr hRj.2.2.2.2 (s := ((q + 1 : Nat) : Int)) (by omega) (by omega)).2
      have ec2 : (((q + 1 : Nat) : Int) + -1) = ((q : Nat) : Int) := by omega
      unfold BX8_relieve_7 CX8_relieve_7
      simp (disch := omega) only [J_add, J_sub, J_mul, J_lt, J_le, J_eq, xbr_true, xbr_false, xbr_pos, xbr_neg, Int.toNat_natCast, all_eq, ex_eq, s_leftS (A' := mvA A (q + 1) q j) hr h rfl rfl hAj hS, s_isShelf, hed]
      rw [ec2, hst, e1, hbk]
      show PX6_pass (ad z r) (J (A.2.1 (sumN A.2.2 (q + 1) + j) : Nat)) (J (q : Int)) _ _ = _
      rw [s_pass hr (by omega), shC_mvE h hA hn hs (by omega)]
      show kc (_, J _) = kc (_, J _)
      rw [show (((A.2.2 (q + 1) - j : Nat) : Int) + -1) = ((A.2.2 (q + 1) - (j + 1) : Nat) : Int) by omega]
    · intro kc
      have hAj := hA.mvE (j := m) (by omega) hs
      have hb := rmA_b hS hAj hl hs
      unfold BX8_relieve_7 CX8_relieve_7
      by_cases c : m < A.2.2 (q + 1)
      · have hf : due ≤ rmA (C 81) (wC C) (mvA A (q + 1) q m) (q + 1) := of_decide_eq_true (hat c)
        simp (disch := omega) only [J_add, J_sub, J_mul, J_lt, J_le, J_eq, xbr_true, xbr_false, xbr_pos, xbr_neg, Int.toNat_natCast, all_eq, ex_eq, s_leftS (A' := mvA A (q + 1) q m) hr h rfl rfl hAj hS, s_j57 (A' := mvA A (q + 1) q m) hr h rfl rfl hAj hS]
        simp
      · simp (disch := omega) only [J_add, J_sub, J_mul, J_lt, J_le, J_eq, xbr_true, xbr_false, xbr_pos, xbr_neg, Int.toNat_natCast, all_eq, ex_eq, s_j57 (A' := mvA A (q + 1) q m) hr h rfl rfl hAj hS]
        simp
  · rw [if_neg c7]
    have hb := rmA_b hS hA hl hs
    have j57 := fun K => s_j57 (z := z) (g := g) (K := K) (A' := A) hr h rfl rfl hA hS hs hd
    have lf := fun K => s_leftS (z := z) (g := g) (K := K) (A' := A) hr h rfl rfl hA hS hs
    rw [self] at j57 lf ⊢
    refine lp_for (fun j : Nat => (lay z g C, J (A.2.2 s : Int))) 0 0 _ (by omega) (fun j _ hj => by omega) ?_
    intro kc
    unfold BX8_relieve_7 CX8_relieve_7
    by_cases c : A.2.2 s = 0
    · simp (disch := omega) only [J_add, J_sub, J_mul, J_lt, J_le, J_eq, xbr_true, xbr_false, xbr_pos, xbr_neg, Int.toNat_natCast, all_eq, ex_eq, j57]
      simp
    · by_cases c2 : due ≤ rmA (C 81) (wC C) A s
      · simp (disch := omega) only [J_add, J_sub, J_mul, J_lt, J_le, J_eq, xbr_true, xbr_false, xbr_pos, xbr_neg, Int.toNat_natCast, all_eq, ex_eq, lf, j57]
        simp
      · simp (disch := omega) only [J_add, J_sub, J_mul, J_lt, J_le, J_eq, xbr_true, xbr_false, xbr_pos, xbr_neg, Int.toNat_natCast, all_eq, ex_eq, lf, s_isShelf, isB0, true_and]
        simp [c2]
theorem relL_ok {W w : Nat → Int} {s : Nat} {due : Int} (hA : RwOk A nb) : RwOk (relL W w s due A).2 nb ∧ (relL W w s due A).2.1 = A.1 ∧ (relL W w s due A).2.2.1 = A.2.1 := by
  unfold relL
  split
  · exact ⟨hA.mvL (fst1_le _ _) (by assumption), rfl, rfl⟩
  · exact ⟨hA, rfl, rfl⟩
theorem relE_ok {W w : Nat → Int} {s : Nat} {due : Int} (hA : RwOk A nb) (hs : s < 8) : RwOk (relE W w s due A).2 nb ∧ (relE W w s due A).2.1 = A.1 ∧ (relE W w s due A).2.2.1 = A.2.1 := by
  unfold relE
  split
  · obtain ⟨q, rfl⟩ : ∃ q, s = q + 1 := ⟨s - 1, by omega⟩
    simp only [Nat.add_sub_cancel]
    exact ⟨hA.mvE (fst1_le _ _) hs, rfl, rfl⟩
  · exact ⟨hA, rfl, rfl⟩
/-- all of a push to later shelves: n shelves from s on -/
def pshL (W w : Nat → Int) : Nat → Nat → Int → Rw → Bool × Rw
  | 0, _, _, A => (true, A)
  | n + 1, s, due, A => if (relL W w s due A).1 then pshL W w n (s + 1) 0 (relL W w s due A).2 else (false, (relL W w s due A).2)
/-- to earlier ones, from s on down to 0 -/
def pshE (W w : Nat → Int) : Nat → Int → Rw → Bool × Rw
  | 0, due, A => relE W w 0 due A
  | s + 1, due, A => if (relE W w (s + 1) due A).1 then pshE W w s 0 (relE W w (s + 1) due A).2 else (false, (relE W w (s + 1) due A).2)
theorem shC_shC {A A' : Rw} : shC (shC C r A) r A' = shC C r A' := by
  funext a j
  unfold shC
  split
  · rfl
  · rfl
theorem s_pushL {K : Int32 → Mem → Prop} (hr : isRow r) (h : RowC C r A) (hA : RwOk A nb) (hS : Sm C nb) {s : Nat} (hs : s < 8) {due : Int} (hd : 0 ≤ due ∧ due ≤ 100) : PX8_pushAway (ad z 80) (ad z r) (ad z 3) (J s) (J due) (J 1) (lay z g C) K = K (J (if (pshL (C 81) (wC C) (8 - s) s due A).1 then 1 else 0)) (lay z g (shC C r (pshL (C 81) (wC C) (8 - s) s due A).2)) := by
  unfold PX8_pushAway
  simp (disch := omega) only [J_add, J_sub, J_mul, J_lt, J_le, J_eq, xbr_true, xbr_false, xbr_pos, xbr_neg, Int.toNat_natCast, all_eq, ex_eq, tS_lay (o := 80) (t := 9) rfl]
  have key : ∀ n i A1 d1, s + i + n = 8 → RwOk A1 nb → A1.1 = A.1 → A1.2.1 = A.2.1 → 0 ≤ d1 ∧ d1 ≤ 100 → lp (BX8_pushAway_7 K (ad z 80) (ad z r) (ad z 3) (J s) (J 1)) (lay z g (shC C r A1), J d1, J (i : Int)) = K (J (if (pshL (C 81) (wC C) n (s + i) d1 A1).1 then 1 else 0)) (lay z g (shC C r (pshL (C 81) (wC C) n (s + i) d1 A1).2)) := by
    intro n
    induction n with
    | zero =>
      intro i A1 d1 hi hA1 _ _ hd1
      refine lp_for (fun _ : Nat => (lay z g (shC C r A1), J d1, J (i : Int))) 0 0 _ (by omega) (fun j _ hj => by omega) ?_
      intro kc
      unfold BX8_pushAway_7 CX8_pushAway_7
      by_cases c : i = 8
      · simp (disch := omega) only [J_add, J_sub, J_mul, J_lt, J_le, J_eq, xbr_true, xbr_false, xbr_pos, xbr_neg, Int.toNat_natCast, all_eq, ex_eq, isB1, true_and]
        simp [pshL]
      · simp (disch := omega) only [J_add, J_sub, J_mul, J_lt, J_le, J_eq, xbr_true, xbr_false, xbr_pos, xbr_neg, Int.toNat_natCast, all_eq, ex_eq, s_isShelf, isB1, true_and]
        simp [pshL]
    | succ n ih =>
      intro i A1 d1 hi hA1 e1 e2 hd1
      have hR1 := h.shC e1 e2 hA1 hS.1
      have hS1 := hS.shC (A' := A1) hr
      have rl := fun K => s_relL (z := z) (g := g) (K := K) hr hR1 hA1 hS1 (s := s + i) (by omega) (due := d1) hd1
      have q1 : relL (shC C r A1 81) (wC (shC C r A1)) (s + i) d1 A1 = relL (C 81) (wC C) (s + i) d1 A1 := by
        have e3 : ∀ j, j ≤ A1.2.2 (s + i) → s + i + 1 < 8 → rmA (C 81) (wC (shC C r A1)) (mvA A1 (s + i) (s + i + 1) j) (s + i) = rmA (C 81) (wC C) (mvA A1 (s + i) (s + i + 1) j) (s + i) := fun j hj h7 => by
          unfold rmA
          rw [usedA_congr (hA1.mvL hj h7) (by omega) (fun b hb => shC_wC hr b (by have := hS.1; omega))]
        have e4 : rmA (C 81) (wC (shC C r A1)) A1 (s + i) = rmA (C 81) (wC C) A1 (s + i) := by
          unfold rmA
          rw [usedA_congr hA1 (by omega) (fun b hb => shC_wC hr b (by have := hS.1; omega))]
        rw [shC_81 hr]
        unfold relL
        by_cases c7 : s + i + 1 < 8
        · rw [if_pos c7, if_pos c7]
          have e5 : fst1 (A1.2.2 (s + i)) (fun j => decide (d1 ≤ rmA (C 81) (wC (shC C r A1)) (mvA A1 (s + i) (s + i + 1) j) (s + i))) = fst1 (A1.2.2 (s + i)) (fun j => decide (d1 ≤ rmA (C 81) (wC C) (mvA A1 (s + i) (s + i + 1) j) (s + i))) := by
            refine fst1_congr fun j hj => ?_
            rw [e3 j (by omega) c7]
          rw [e5, e3 _ (fst1_le _ _) c7]
        · rw [if_neg c7, if_neg c7, e4]
      rw [q1] at rl
      simp only [shC_shC] at rl
      obtain ⟨k1, k2, k3⟩ := relL_ok (W := C 81) (w := wC C) (s := s + i) (due := d1) hA1
      have ec : ((s : Int) + (i : Int)) = ((s + i : Nat) : Int) := by omega
      by_cases c : (relL (C 81) (wC C) (s + i) d1 A1).1 = true
      · have hih := ih (i + 1) (relL (C 81) (wC C) (s + i) d1 A1).2 0 (by omega) k1 (by rw [k2, e1]) (by rw [k3, e2]) (by omega)
        have hp : pshL (C 81) (wC C) (n + 1) (s + i) d1 A1 = pshL (C 81) (wC C) n (s + (i + 1)) 0 (relL (C 81) (wC C) (s + i) d1 A1).2 := by
          show (if _ then _ else _) = _
          rw [if_pos c]; rfl
        rw [hp, ← hih]
        refine lp_step (fun kc => ?_)
        unfold BX8_pushAway_7 CX8_pushAway_7
        simp (disch := omega) only [J_add, J_sub, J_mul, J_lt, J_le, J_eq, xbr_true, xbr_false, xbr_pos, xbr_neg, Int.toNat_natCast, all_eq, ex_eq, Int.mul_one, s_isShelf]
        rw [ec, rl, if_pos c]
        simp (disch := omega) only [J_add, J_sub, J_mul, J_lt, J_le, J_eq, xbr_true, xbr_false, xbr_pos, xbr_neg, Int.toNat_natCast, all_eq, ex_eq]
        simp
      · have hp : pshL (C 81) (wC C) (n + 1) (s + i) d1 A1 = (false, (relL (C 81) (wC C) (s + i) d1 A1).2) := by
          show (if _ then _ else _) = _
          rw [if_neg c]
        rw [hp]
        refine lp_for (fun _ : Nat => (lay z g (shC C r A1), J d1, J (i : Int))) 0 0 _ (by omega) (fun j _ hj => by omega) ?_
        intro kc
        unfold BX8_pushAway_7 CX8_pushAway_7
        simp (disch := omega) only [J_add, J_sub, J_mul, J_lt, J_le, J_eq, xbr_true, xbr_false, xbr_pos, xbr_neg, Int.toNat_natCast, all_eq, ex_eq, Int.mul_one, s_isShelf]
        rw [ec, rl, if_neg c]
        simp (disch := omega) only [J_add, J_sub, J_mul, J_lt, J_le, J_eq, xbr_true, xbr_false, xbr_pos, xbr_neg, Int.toNat_natCast, all_eq, ex_eq, isB0, true_and]
        simp
  have h0 := key (8 - s) 0 A due (by omega) hA rfl rfl hd
  rw [shC_self h hA hS.1] at h0
  exact h0
end REE
