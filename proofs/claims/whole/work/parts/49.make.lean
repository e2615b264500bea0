/-! make -/
theorem relE_congr {W W' w w' : Nat → Int} {nb s : Nat} {due : Int} {A : Rw} (hA : RwOk A nb) (hs : s < 8) (hW : ∀ s, s < 8 → W s = W' s) (hw : ∀ b, b < nb → w b = w' b) : relE W w s due A = relE W' w' s due A := by
  have e3 : ∀ j, j ≤ A.2.2 s → 0 < s → rmA W w (mvA A s (s - 1) j) s = rmA W' w' (mvA A s (s - 1) j) s := fun j hj h7 => by
    obtain ⟨t, rfl⟩ : ∃ t, s = t + 1 := ⟨s - 1, by omega⟩
    unfold rmA
    rw [Nat.add_sub_cancel, usedA_congr (hA.mvE hj hs) hs hw, hW _ hs]
  have e4 : rmA W w A s = rmA W' w' A s := by
    unfold rmA
    rw [usedA_congr hA hs hw, hW s hs]
  unfold relE
  by_cases c7 : 0 < s
  · rw [if_pos c7, if_pos c7]
    have e5 : fst1 (A.2.2 s) (fun j => decide (due ≤ rmA W w (mvA A s (s - 1) j) s)) = fst1 (A.2.2 s) (fun j => decide (due ≤ rmA W' w' (mvA A s (s - 1) j) s)) := by
      refine fst1_congr fun j hj => ?_
      rw [e3 j (by omega) c7]
    rw [e5, e3 _ (fst1_le _ _) c7]
  · rw [if_neg c7, if_neg c7, e4]
theorem pshE_congr {W W' w w' : Nat → Int} {nb s : Nat} {due : Int} {A : Rw} (hA : RwOk A nb) (hs : s < 8) (hW : ∀ s, s < 8 → W s = W' s) (hw : ∀ b, b < nb → w b = w' b) : pshE W w s due A = pshE W' w' s due A := by
  induction s generalizing due A with
  | zero => exact relE_congr hA hs hW hw
  | succ s ih =>
    have e := relE_congr (W := W) (W' := W') (w := w) (w' := w') (due := due) hA hs hW hw
    show (if (relE W w (s + 1) due A).1 then pshE W w s 0 (relE W w (s + 1) due A).2 else (false, (relE W w (s + 1) due A).2)) = (if (relE W' w' (s + 1) due A).1 then pshE W' w' s 0 (relE W' w' (s + 1) due A).2 else (false, (relE W' w' (s + 1) due A).2))
    rw [e, ih (relE_ok hA hs).1 (by omega)]
theorem pshE_ok {W w : Nat → Int} {nb s : Nat} {due : Int} {A : Rw} (hA : RwOk A nb) (hs : s < 8) : RwOk (pshE W w s due A).2 nb ∧ (pshE W w s due A).2.1 = A.1 ∧ (pshE W w s due A).2.2.1 = A.2.1 := by
  induction s generalizing due A with
  | zero => exact relE_ok hA hs
  | succ s ih =>
    obtain ⟨k1, k2, k3⟩ := relE_ok (W := W) (w := w) (s := s + 1) (due := due) hA hs
    show RwOk (if (relE W w (s + 1) due A).1 then pshE W w s 0 (relE W w (s + 1) due A).2 else (false, (relE W w (s + 1) due A).2)).2 nb ∧ (if (relE W w (s + 1) due A).1 then pshE W w s 0 (relE W w (s + 1) due A).2 else (false, (relE W w (s + 1) due A).2)).2.1 = A.1 ∧ (if (relE W w (s + 1) due A).1 then pshE W w s 0 (relE W w (s + 1) due A).2 else (false, (relE W w (s + 1) due A).2)).2.2.1 = A.2.1
    split
    · obtain ⟨j1, j2, j3⟩ := ih (due := 0) k1 (by omega)
      exact ⟨j1, by rw [j2, k2], by rw [j3, k3]⟩
    · exact ⟨k1, k2, k3⟩
/-- from shelf t - 1 down to 0, nothing due but that all hold theirs -/
def pE (W w : Nat → Int) : Nat → Rw → Bool × Rw
  | 0, A => (true, A)
  | t + 1, A => pshE W w t 0 A
theorem pshE_pE (W w : Nat → Int) (s : Nat) (due : Int) (A : Rw) : pshE W w s due A = if (relE W w s due A).1 then pE W w s (relE W w s due A).2 else (false, (relE W w s due A).2) := by
  cases s with
  | zero =>
    show relE W w 0 due A = _
    by_cases c : (relE W w 0 due A).1 = true
    · rw [if_pos c]
      show _ = (true, (relE W w 0 due A).2)
      rw [← c]
    · rw [if_neg c]
      have : (relE W w 0 due A).1 = false := by simpa using c
      rw [← this]
  | succ s => rfl
theorem relL_id {W w : Nat → Int} {s : Nat} {A : Rw} (h : 0 ≤ rmA W w A s) : relL W w s 0 A = (true, A) := by
  unfold relL
  by_cases c7 : s + 1 < 8
  · rw [if_pos c7]
    have e : fst1 (A.2.2 s) (fun j => decide (0 ≤ rmA W w (mvA A s (s + 1) j) s)) = 0 := by
      rcases Nat.eq_zero_or_pos (A.2.2 s) with c | c
      · rw [c]; rfl
      · exact fst1_eq c (fun i hi => by omega) (by rw [mvA_zero]; exact decide_eq_true h)
    rw [e, mvA_zero, decide_eq_true h]
  · rw [if_neg c7, decide_eq_true h]
def shB (A : Rw) (b : Nat) : Int := if idx A b < A.1 then (shAt A.2.2 (idx A b) : Int) else -1
def crd (A A' : Rw) (nb : Nat) : Nat := cnt nb (fun b => shB A b != shB A' b)
theorem cnt_ext {n m : Nat} {f : Nat → Bool} (h : n ≤ m) (hf : ∀ i, n ≤ i → i < m → f i = false) : cnt m f = cnt n f := by
  obtain ⟨d, rfl⟩ : ∃ d, m = n + d := ⟨m - n, by omega⟩
  induction d with
  | zero => rfl
  | succ d ih =>
    show cnt (n + d) f + (if f (n + d) then 1 else 0) = _
    rw [ih (by omega) (fun i h1 h2 => hf i h1 (by omega)), hf (n + d) (by omega) (by omega)]
    simp
theorem shB_out {A : Rw} {nb b : Nat} (hA : RwOk A nb) (h : nb ≤ b) : shB A b = -1 := by
  unfold shB
  rw [if_neg]
  intro c
  have := hA.1 _ c
  rw [idx_at c] at this
  omega
theorem shB_r {A : Rw} {nb b : Nat} (hA : RwOk A nb) : -1 ≤ shB A b ∧ shB A b < 8 := by
  unfold shB
  split
  · rename_i c
    have := shAt_lt (on := A.2.2) (i := idx A b) (by rw [hA.2.2]; exact c)
    omega
  · omega
section MAKE
variable {z : Nat} {g : Mem} {C C' D : Nat → Nat → Int} {r nb : Nat} {A A0 A' : Rw}
theorem RowC.shB (h : RowC C r A) (hA : RwOk A nb) (hn : nb ≤ 24) {b : Nat} (hb : b < 24) : C (r + 2) b = Jvm.Pilot.COutOfPlaceLaw_law_r2444_d06da6.shB A b := by
  have := h.shb hA hn b
  unfold shOf at this
  rw [if_pos (by omega), Int.toNat_natCast] at this
  exact this
theorem s_crd {r' : Nat} {K : Int32 → Prop} (hr : isRow r) (h : RowC C r A) (hA : RwOk A nb) (hr' : isRow r') (h' : RowC C r' A') (hA' : RwOk A' nb) (hn : nb ≤ 24) : PX6_carriedTo (ad z r) (ad z r') (lay z g C) K = K (J (crd A A' nb : Nat)) := by
  rw [s_carriedTo hr h.2.2.2.2 hr' h'.2.2.2.2]
  have e : cnt 24 (fun b => C (r + 2) b != C (r' + 2) b) = crd A A' nb := by
    unfold crd
    rw [← cnt_ext (n := nb) (m := 24) hn (fun i h1 h2 => by rw [shB_out hA h1, shB_out hA' h1]; rfl)]
    exact cnt_congr fun b hb => by rw [h.shB hA hn hb, h'.shB hA' hn hb]
  rw [e]
theorem s_pushE {K : Int32 → Mem → Prop} (hr : isRow r) (h : RowC C r A) (hA : RwOk A nb) (hS : Sm C nb) {s : Nat} (hs : s < 8) {due : Int} (hd : 0 ≤ due ∧ due ≤ 100) : PX8_pushAway (ad z 80) (ad z r) (ad z 3) (J s) (J due) (J (-1)) (lay z g C) K = K (J (if (pshE (C 81) (wC C) s due A).1 then 1 else 0)) (lay z g (shC C r (pshE (C 81) (wC C) s due A).2)) := by
  unfold PX8_pushAway
  simp (disch := omega) only [J_add, J_sub, J_mul, J_lt, J_le, J_eq, xbr_true, xbr_false, xbr_pos, xbr_neg, Int.toNat_natCast, all_eq, ex_eq, tS_lay (o := 80) (t := 9) rfl]
  have last : ∀ A1 d1, lp (BX8_pushAway_7 K (ad z 80) (ad z r) (ad z 3) (J s) (J (-1))) (lay z g (shC C r A1), J d1, J ((s + 1 : Nat) : Int)) = K (J 1) (lay z g (shC C r A1)) := by
    intro A1 d1
    refine lp_for (fun _ : Nat => (lay z g (shC C r A1), J d1, J ((s + 1 : Nat) : Int))) 0 0 _ (by omega) (fun j _ hj => by omega) ?_
    intro kc
    unfold BX8_pushAway_7 CX8_pushAway_7
    by_cases c : s + 1 = 8
    · simp (disch := omega) only [J_add, J_sub, J_mul, J_lt, J_le, J_eq, xbr_true, xbr_false, xbr_pos, xbr_neg, Int.toNat_natCast, all_eq, ex_eq, isB1, true_and]
    · simp (disch := omega) only [J_add, J_sub, J_mul, J_lt, J_le, J_eq, xbr_true, xbr_false, xbr_pos, xbr_neg, Int.toNat_natCast, all_eq, ex_eq, s_isShelf, isB1, true_and]
  have key : ∀ t i A1 d1, i + t = s → RwOk A1 nb → A1.1 = A.1 → A1.2.1 = A.2.1 → 0 ≤ d1 ∧ d1 ≤ 100 → lp (BX8_pushAway_7 K (ad z 80) (ad z r) (ad z 3) (J s) (J (-1))) (lay z g (shC C r A1), J d1, J (i : Int)) = K (J (if (pshE (C 81) (wC C) t d1 A1).1 then 1 else 0)) (lay z g (shC C r (pshE (C 81) (wC C) t d1 A1).2)) := by
    intro t
    induction t with
    | zero =>
      intro i A1 d1 hi hA1 e1 e2 hd1
      have hR1 := h.shC e1 e2 hA1 hS.1
      have hS1 := hS.shC (A' := A1) hr
      have rl := fun K => s_relE (z := z) (g := g) (K := K) hr hR1 hA1 hS1 (s := 0) (by omega) (due := d1) hd1
      have q1 : relE (shC C r A1 81) (wC (shC C r A1)) 0 d1 A1 = relE (C 81) (wC C) 0 d1 A1 := relE_congr hA1 (by omega) (fun s _ => by rw [shC_81 hr]) (fun b hb => shC_wC hr b (by have := hS.1; omega))
      rw [q1] at rl
      simp only [shC_shC] at rl
      have ec : ((s : Int) + (i : Int) * -1) = ((0 : Nat) : Int) := by omega
      show _ = K (J (if (relE (C 81) (wC C) 0 d1 A1).1 then 1 else 0)) (lay z g (shC C r (relE (C 81) (wC C) 0 d1 A1).2))
      by_cases c : (relE (C 81) (wC C) 0 d1 A1).1 = true
      · rw [if_pos c, ← last (relE (C 81) (wC C) 0 d1 A1).2 0]
        refine lp_step (fun kc => ?_)
        unfold BX8_pushAway_7 CX8_pushAway_7
        simp (disch := omega) only [J_add, J_sub, J_mul, J_lt, J_le, J_eq, xbr_true, xbr_false, xbr_pos, xbr_neg, Int.toNat_natCast, all_eq, ex_eq, s_isShelf, ec]
        rw [rl, if_pos c]
        simp (disch := omega) only [J_add, J_sub, J_mul, J_lt, J_le, J_eq, xbr_true, xbr_false, xbr_pos, xbr_neg, Int.toNat_natCast, all_eq, ex_eq]
        rw [show (i : Int) + 1 = ((s + 1 : Nat) : Int) by omega]
      · rw [if_neg c]
        refine lp_for (fun _ : Nat => (lay z g (shC C r A1), J d1, J (i : Int))) 0 0 _ (by omega) (fun j _ hj => by omega) ?_
        intro kc
        unfold BX8_pushAway_7 CX8_pushAway_7
        simp (disch := omega) only [J_add, J_sub, J_mul, J_lt, J_le, J_eq, xbr_true, xbr_false, xbr_pos, xbr_neg, Int.toNat_natCast, all_eq, ex_eq, s_isShelf, ec]
        rw [rl, if_neg c]
        simp (disch := omega) only [J_add, J_sub, J_mul, J_lt, J_le, J_eq, xbr_true, xbr_false, xbr_pos, xbr_neg, Int.toNat_natCast, all_eq, ex_eq, isB0, true_and]
    | succ t ih =>
      intro i A1 d1 hi hA1 e1 e2 hd1
      have hR1 := h.shC e1 e2 hA1 hS.1
      have hS1 := hS.shC (A' := A1) hr
      have rl := fun K => s_relE (z := z) (g := g) (K := K) hr hR1 hA1 hS1 (s := t + 1) (by omega) (due := d1) hd1
      have q1 : relE (shC C r A1 81) (wC (shC C r A1)) (t + 1) d1 A1 = relE (C 81) (wC C) (t + 1) d1 A1 := relE_congr hA1 (by omega) (fun s _ => by rw [shC_81 hr]) (fun b hb => shC_wC hr b (by have := hS.1; omega))
      rw [q1] at rl
      simp only [shC_shC] at rl
      obtain ⟨k1, k2, k3⟩ := relE_ok (W := C 81) (w := wC C) (s := t + 1) (due := d1) hA1 (by omega)
      have ec : ((s : Int) + (i : Int) * -1) = ((t + 1 : Nat) : Int) := by omega
      by_cases c : (relE (C 81) (wC C) (t + 1) d1 A1).1 = true
      · have hih := ih (i + 1) (relE (C 81) (wC C) (t + 1) d1 A1).2 0 (by omega) k1 (by rw [k2, e1]) (by rw [k3, e2]) (by omega)
        have hp : pshE (C 81) (wC C) (t + 1) d1 A1 = pshE (C 81) (wC C) t 0 (relE (C 81) (wC C) (t + 1) d1 A1).2 := by
          show (if _ then _ else _) = _
          rw [if_pos c]
        rw [hp, ← hih]
        refine lp_step (fun kc => ?_)
        unfold BX8_pushAway_7 CX8_pushAway_7
        simp (disch := omega) only [J_add, J_sub, J_mul, J_lt, J_le, J_eq, xbr_true, xbr_false, xbr_pos, xbr_neg, Int.toNat_natCast, all_eq, ex_eq, s_isShelf, ec]
        rw [rl, if_pos c]
        simp (disch := omega) only [J_add, J_sub, J_mul, J_lt, J_le, J_eq, xbr_true, xbr_false, xbr_pos, xbr_neg, Int.toNat_natCast, all_eq, ex_eq]
        rfl
      · have hp : pshE (C 81) (wC C) (t + 1) d1 A1 = (false, (relE (C 81) (wC C) (t + 1) d1 A1).2) := by
          show (if _ then _ else _) = _
          rw [if_neg c]
        rw [hp]
        refine lp_for (fun _ : Nat => (lay z g (shC C r A1), J d1, J (i : Int))) 0 0 _ (by omega) (fun j _ hj => by omega) ?_
        intro kc
        unfold BX8_pushAway_7 CX8_pushAway_7
        simp (disch := omega) only [J_add, J_sub, J_mul, J_lt, J_le, J_eq, xbr_true, xbr_false, xbr_pos, xbr_neg, Int.toNat_natCast, all_eq, ex_eq, s_isShelf, ec]
        rw [rl, if_neg c]
        simp (disch := omega) only [J_add, J_sub, J_mul, J_lt, J_le, J_eq, xbr_true, xbr_false, xbr_pos, xbr_neg, Int.toNat_natCast, all_eq, ex_eq, isB0, true_and]
        simp
  have h0 := key s 0 A due (by omega) hA rfl rfl hd
  rw [shC_self h hA hS.1] at h0
  exact h0
/-- moved on from shelf s to shelf t, till due is left or none stands there -/
theorem m_roomD {K : Int32 → Prop} (h : RowM C A) {A' : Rw} (e1 : A'.1 = A.1) (e2 : A'.2.1 = A.2.1) (hA : RwOk A' nb) (hS : SmM C nb) {s : Nat} (hs : s < 8) : PX11_roomOn (ad z 104) (J s) (lay z g (onC C A')) K = K (J (rmA (C 110) (C 109) A' s)) := m_roomS h e1 e2 hA hS hs
theorem m_later {K : Int32 → Mem → Prop} (h : RowM C A) (hA : RwOk A nb) (hS : SmM C nb) {s : Nat} (hs : s < 8) {due : Int} (hd : 0 ≤ due ∧ due ≤ 100) : PX11_makeLater (ad z 104) (J s) (J due) (lay z g C) K = K (J (if (pshL (C 110) (C 109) (8 - s) s due A).1 then 1 else 0)) (lay z g (onC C (pshL (C 110) (C 109) (8 - s) s due A).2)) := by
  have hl : A.1 ≤ 24 := h.2.1
  -- what stands behind the loop
  have j49 : ∀ A1 : Rw, RwOk A1 nb → A1.1 = A.1 → A1.2.1 = A.2.1 → relL (C 110) (C 109) s due A = (decide (due ≤ rmA (C 110) (C 109) A1 s), A1) → JX11_makeLater_49 K (lay z g (onC C A1)) (ad z 104) (J s) (J due) = K (J (if (pshL (C 110) (C 109) (8 - s) s due A).1 then 1 else 0)) (lay z g (onC C (pshL (C 110) (C 109) (8 - s) s due A).2)) := by
    intro A1 hA1 e1 e2 hr
    have hb := rmM_b hS hA1 (by rw [e1]; exact hl) hs
    have rm := fun K => m_roomS (z := z) (g := g) (K := K) (A' := A1) h e1 e2 hA1 hS hs
    have hp : pshL (C 110) (C 109) (8 - s) s due A = if due ≤ rmA (C 110) (C 109) A1 s then pshL (C 110) (C 109) (7 - s) (s + 1) 0 A1 else (false, A1) := by
      rw [show 8 - s = (7 - s) + 1 by omega]
      show (if (relL (C 110) (C 109) s due A).1 then _ else _) = _
      rw [hr]
      simp
    unfold JX11_makeLater_49
    by_cases c : due ≤ rmA (C 110) (C 109) A1 s
    · rw [if_pos c] at hp
      have hM := h.onC e1 e2
      have hS' : SmM (onC C A1) nb := ⟨hS.1, by rw [onC_109]; exact hS.2.1, by rw [onC_110]; exact hS.2.2⟩
      have mp := fun K => m_push (z := z) (g := g) (K := K) hM hA1 hS' (s := s) (by omega)
      have hp2 : pshL (C 110) (C 109) (8 - s) s 0 A1 = pshL (C 110) (C 109) (7 - s) (s + 1) 0 A1 := by
        rw [show 8 - s = (7 - s) + 1 by omega]
        show (if (relL (C 110) (C 109) s 0 A1).1 then _ else _) = _
        rw [relL_id (by omega)]
        simp
      rw [onC_110, onC_109, hp2, ← hp] at mp
      simp only [onC_onC] at mp
      simp (disch := omega) only [J_add, J_sub, J_mul, J_lt, J_le, J_eq, xbr_true, xbr_false, xbr_pos, xbr_neg, Int.toNat_natCast, all_eq, ex_eq, rm, mp]
      cases (pshL (C 110) (C 109) (8 - s) s due A).1 with
      | true => simp only [if_true]; simp (disch := omega) only [J_add, J_sub, J_mul, J_lt, J_le, J_eq, xbr_true, xbr_false, xbr_pos, xbr_neg, Int.toNat_natCast, all_eq, ex_eq, isB1, true_and]
      | false => simp only [Bool.false_eq_true, if_false]; simp (disch := omega) only [J_add, J_sub, J_mul, J_lt, J_le, J_eq, xbr_true, xbr_false, xbr_pos, xbr_neg, Int.toNat_natCast, all_eq, ex_eq, isB0, true_and]
    · rw [if_neg c] at hp
      rw [hp]
      simp (disch := omega) only [J_add, J_sub, J_mul, J_lt, J_le, J_eq, xbr_true, xbr_false, xbr_pos, xbr_neg, Int.toNat_natCast, all_eq, ex_eq, rm, isB0, true_and]
      simp
  unfold PX11_makeLater
  simp (disch := omega) only [J_add, J_sub, J_mul, J_lt, J_le, J_eq, xbr_true, xbr_false, xbr_pos, xbr_neg, Int.toNat_natCast, all_eq, ex_eq, tS_lay (o := 104) (t := 12) rfl]
  have h000 : onC C A = C := onC_self h
  by_cases c7 : s + 1 < 8
  · have hm := fst1_le (A.2.2 s) (fun j => decide (due ≤ rmA (C 110) (C 109) (mvA A s (s + 1) j) s))
    have hlt := fun j => fst1_lt (n := A.2.2 s) (f := fun j => decide (due ≤ rmA (C 110) (C 109) (mvA A s (s + 1) j) s)) (i := j)
    have hat := fst1_at (n := A.2.2 s) (f := fun j => decide (due ≤ rmA (C 110) (C 109) (mvA A s (s + 1) j) s))
    have hr : relL (C 110) (C 109) s due A = (decide (due ≤ rmA (C 110) (C 109) (mvA A s (s + 1) (fst1 (A.2.2 s) (fun j => decide (due ≤ rmA (C 110) (C 109) (mvA A s (s + 1) j) s)))) s), mvA A s (s + 1) (fst1 (A.2.2 s) (fun j => decide (due ≤ rmA (C 110) (C 109) (mvA A s (s + 1) j) s)))) := by
      unfold relL; rw [if_pos c7]
    generalize fst1 (A.2.2 s) (fun j => decide (due ≤ rmA (C 110) (C 109) (mvA A s (s + 1) j) s)) = m at *
    have h00 : lay z g C = ((fun j : Nat => lay z g (onC C (mvA A s (s + 1) j))) 0) := by
      show _ = lay z g (onC C (mvA A s (s + 1) 0))
      rw [mvA_zero, h000]
    rw [h00]
    refine lp_for (fun j : Nat => lay z g (onC C (mvA A s (s + 1) j))) 0 m _ (by omega) ?_ ?_
    · intro j _ hj kc
      have hAj := hA.mvL (j := j) (by omega) c7
      have hb := rmM_b hS hAj hl hs
      have hf : ¬ due ≤ rmA (C 110) (C 109) (mvA A s (s + 1) j) s := of_decide_eq_false (hlt j hj)
      have hon := on_le hA (s := s + 1) (by omega)
      have hon2 : sumN A.2.2 (s + 1) = sumN A.2.2 s + A.2.2 s := rfl
      have x1 : ((s : Int) + 1).toNat = s + 1 := by omega
      have x2 : up (onC C (mvA A s (s + 1) j)) 112 s (((A.2.2 s - j : Nat) : Int) - 1) 112 (s + 1) = ((A.2.2 (s + 1) + j : Nat) : Int) := by
        unfold up
        rw [if_neg (by omega), onC_s c7, mv_t (by omega)]
      unfold BX11_makeLater_0 CX11_makeLater_0
      simp (disch := omega) only [J_add, J_sub, J_mul, J_lt, J_le, J_eq, xbr_true, xbr_false, xbr_pos, xbr_neg, Int.toNat_natCast, all_eq, ex_eq, m_roomS (A' := mvA A s (s + 1) j) h rfl rfl hAj hS hs, gR_lay (t := 12) (o := 104) (k := 9) (r := 112) rfl, aI_lay (o := 112) (N := 8) rfl, aS_lay (o := 112) (N := 8) rfl, x1, onC_s hs, mv_s, x2]
      rw [onC_mv (by omega) hs c7 (by omega)]
    · intro kc
      have hAj := hA.mvL (j := m) (by omega) c7
      have hb := rmM_b hS hAj hl hs
      unfold BX11_makeLater_0 CX11_makeLater_0
      rw [← j49 (mvA A s (s + 1) m) hAj rfl rfl hr]
      by_cases c : due ≤ rmA (C 110) (C 109) (mvA A s (s + 1) m) s
      · simp (disch := omega) only [J_add, J_sub, J_mul, J_lt, J_le, J_eq, xbr_true, xbr_false, xbr_pos, xbr_neg, Int.toNat_natCast, all_eq, ex_eq, m_roomS (A' := mvA A s (s + 1) m) h rfl rfl hAj hS hs]
      · have em : m = A.2.2 s := by
          rcases Nat.lt_or_ge m (A.2.2 s) with c8 | c8
          · exact absurd (of_decide_eq_true (hat c8)) c
          · omega
        have e0 : onC C (mvA A s (s + 1) m) 112 s = 0 := by
          rw [onC_s hs, mv_s, em]; simp
        simp (disch := omega) only [J_add, J_sub, J_mul, J_lt, J_le, J_eq, xbr_true, xbr_false, xbr_pos, xbr_neg, Int.toNat_natCast, all_eq, ex_eq, m_roomS (A' := mvA A s (s + 1) m) h rfl rfl hAj hS hs, gR_lay (t := 12) (o := 104) (k := 9) (r := 112) rfl, aI_lay (o := 112) (N := 8) rfl, e0]
  · have hr : relL (C 110) (C 109) s due A = (decide (due ≤ rmA (C 110) (C 109) A s), A) := by
      unfold relL; rw [if_neg c7]
    have hb := rmM_b hS hA hl hs
    have rm := fun K => m_roomS (z := z) (g := g) (K := K) (A' := A) h rfl rfl hA hS hs
    have j := j49 A hA rfl rfl hr
    rw [h000] at rm j
    have hon := on_le hA (s := s + 1) (by omega)
    have hon2 : sumN A.2.2 (s + 1) = sumN A.2.2 s + A.2.2 s := rfl
    have e0 := h.2.2.2 s hs
    refine lp_for (fun _ : Nat => lay z g C) 0 0 _ (by omega) (fun j _ hj => by omega) ?_
    intro kc
    unfold BX11_makeLater_0 CX11_makeLater_0
    rw [← j]
    by_cases c : due ≤ rmA (C 110) (C 109) A s
    · simp (disch := omega) only [J_add, J_sub, J_mul, J_lt, J_le, J_eq, xbr_true, xbr_false, xbr_pos, xbr_neg, Int.toNat_natCast, all_eq, ex_eq, rm]
    · by_cases c2 : A.2.2 s = 0
      · simp (disch := omega) only [J_add, J_sub, J_mul, J_lt, J_le, J_eq, xbr_true, xbr_false, xbr_pos, xbr_neg, Int.toNat_natCast, all_eq, ex_eq, rm, gR_lay (t := 12) (o := 104) (k := 9) (r := 112) rfl, aI_lay (o := 112) (N := 8) rfl, e0]
      · simp (disch := omega) only [J_add, J_sub, J_mul, J_lt, J_le, J_eq, xbr_true, xbr_false, xbr_pos, xbr_neg, Int.toNat_natCast, all_eq, ex_eq, rm, gR_lay (t := 12) (o := 104) (k := 9) (r := 112) rfl, aI_lay (o := 112) (N := 8) rfl, e0]
theorem m_earlier {K : Int32 → Mem → Prop} (h : RowM C A) (hA : RwOk A nb) (hS : SmM C nb) {s : Nat} (hs : s < 8) {due : Int} (hd : 0 ≤ due ∧ due ≤ 100) : PX11_makeEarlier (ad z 104) (J s) (J due) (lay z g C) K = K (J (if (pshE (C 110) (C 109) s due A).1 then 1 else 0)) (lay z g (onC C (pshE (C 110) (C 109) s due A).2)) := by
  have hl : A.1 ≤ 24 := h.2.1
  have no : ∀ A1 : Rw, ∀ t : Nat, t ≤ 8 → lp (BX11_makeEarlier_67 K (ad z 104)) (lay z g (onC C A1), J 0, J ((t : Int) - 1)) = K (J 0) (lay z g (onC C A1)) := by
    intro A1 t ht
    refine lp_for (fun _ : Nat => (lay z g (onC C A1), J 0, J ((t : Int) - 1))) 0 0 _ (by omega) (fun j _ hj => by omega) ?_
    intro kc
    unfold BX11_makeEarlier_67 CX11_makeEarlier_67
    by_cases c : t = 0
    · simp (disch := omega) only [J_add, J_sub, J_mul, J_lt, J_le, J_eq, xbr_true, xbr_false, xbr_pos, xbr_neg, Int.toNat_natCast, all_eq, ex_eq, isB0, true_and]
    · simp (disch := omega) only [J_add, J_sub, J_mul, J_lt, J_le, J_eq, xbr_true, xbr_false, xbr_pos, xbr_neg, Int.toNat_natCast, all_eq, ex_eq, isB0, true_and]
  have yes : ∀ (t : Nat) (A1 : Rw), t ≤ 8 → RwOk A1 nb → A1.1 = A.1 → A1.2.1 = A.2.1 → lp (BX11_makeEarlier_67 K (ad z 104)) (lay z g (onC C A1), J 1, J ((t : Int) - 1)) = K (J (if (pE (C 110) (C 109) t A1).1 then 1 else 0)) (lay z g (onC C (pE (C 110) (C 109) t A1).2)) := by
    intro t
    induction t with
    | zero =>
      intro A1 _ hA1 e1 e2
      refine lp_for (fun _ : Nat => (lay z g (onC C A1), J 1, J (((0 : Nat) : Int) - 1))) 0 0 _ (by omega) (fun j _ hj => by omega) ?_
      intro kc
      unfold BX11_makeEarlier_67 CX11_makeEarlier_67
      simp (disch := omega) only [J_add, J_sub, J_mul, J_lt, J_le, J_eq, xbr_true, xbr_false, xbr_pos, xbr_neg, Int.toNat_natCast, all_eq, ex_eq, isB1, true_and]
      simp [pE]
    | succ t ih =>
      intro A1 ht hA1 e1 e2
      have ht8 : t < 8 := by omega
      have et : ((t + 1 : Nat) : Int) - 1 = (t : Int) := by omega
      obtain ⟨k1, k2, k3⟩ := relE_ok (W := C 110) (w := C 109) (s := t) (due := 0) hA1 ht8
      -- one shelf
      have one : ∀ kc : Mem × Int32 × Int32 → Prop, lp (BX11_makeEarlier_76 K kc (ad z 104) (J (t : Int))) (lay z g (onC C A1)) = kc (lay z g (onC C (relE (C 110) (C 109) t 0 A1).2), (if (relE (C 110) (C 109) t 0 A1).1 then J 1 else J 0), J ((t : Int) + -1)) := by
        intro kc
        by_cases c7 : 0 < t
        · have hr : relE (C 110) (C 109) t 0 A1 = (decide (0 ≤ rmA (C 110) (C 109) (mvA A1 t (t - 1) (fst1 (A1.2.2 t) (fun j => decide (0 ≤ rmA (C 110) (C 109) (mvA A1 t (t - 1) j) t)))) t), mvA A1 t (t - 1) (fst1 (A1.2.2 t) (fun j => decide (0 ≤ rmA (C 110) (C 109) (mvA A1 t (t - 1) j) t)))) := by
            unfold relE; rw [if_pos c7]
          have hm := fst1_le (A1.2.2 t) (fun j => decide (0 ≤ rmA (C 110) (C 109) (mvA A1 t (t - 1) j) t))
          have hlt := fun j => fst1_lt (n := A1.2.2 t) (f := fun j => decide (0 ≤ rmA (C 110) (C 109) (mvA A1 t (t - 1) j) t)) (i := j)
          have hat := fst1_at (n := A1.2.2 t) (f := fun j => decide (0 ≤ rmA (C 110) (C 109) (mvA A1 t (t - 1) j) t))
          generalize fst1 (A1.2.2 t) (fun j => decide (0 ≤ rmA (C 110) (C 109) (mvA A1 t (t - 1) j) t)) = m at *
          have hAm : ∀ j, j ≤ A1.2.2 t → RwOk (mvA A1 t (t - 1) j) nb := fun j hj => by
            obtain ⟨u, rfl⟩ : ∃ u, t = u + 1 := ⟨t - 1, by omega⟩
            exact hA1.mvE hj ht8
          have hfin : 0 ≤ rmA (C 110) (C 109) (mvA A1 t (t - 1) m) t := by
            rcases Nat.lt_or_ge m (A1.2.2 t) with c | c
            · exact of_decide_eq_true (hat c)
            · have : m = A1.2.2 t := by omega
              rw [this]
              unfold rmA
              rw [usedA_all]
              have := hS.2.2 t ht8
              omega
          rw [hr, decide_eq_true hfin, if_pos rfl]
          have h00 : lay z g (onC C A1) = ((fun j : Nat => lay z g (onC C (mvA A1 t (t - 1) j))) 0) := by
            show _ = lay z g (onC C (mvA A1 t (t - 1) 0))
            rw [mvA_zero]
          rw [h00]
          refine lp_for (fun j : Nat => lay z g (onC C (mvA A1 t (t - 1) j))) 0 m _ (by omega) ?_ ?_
          · intro j _ hj kc2
            have hAj := hAm j (by omega)
            have hb := rmM_b hS hAj (by show A1.1 ≤ 24; rw [e1]; exact hl) ht8
            have hf : ¬ 0 ≤ rmA (C 110) (C 109) (mvA A1 t (t - 1) j) t := of_decide_eq_false (hlt j hj)
            have x1 : ((t : Int) - 1).toNat = t - 1 := by omega
            have x2 : up (onC C (mvA A1 t (t - 1) j)) 112 t (((A1.2.2 t - j : Nat) : Int) - 1) 112 (t - 1) = ((A1.2.2 (t - 1) + j : Nat) : Int) := by
              unfold up
              rw [if_neg (by omega), onC_s (by omega), mv_t (by omega)]
            unfold BX11_makeEarlier_76 CX11_makeEarlier_76
            simp (disch := omega) only [J_add, J_sub, J_mul, J_lt, J_le, J_eq, xbr_true, xbr_false, xbr_pos, xbr_neg, Int.toNat_natCast, all_eq, ex_eq, m_roomS (A' := mvA A1 t (t - 1) j) h e1 e2 hAj hS ht8, gR_lay (t := 12) (o := 104) (k := 9) (r := 112) rfl, aI_lay (o := 112) (N := 8) rfl, aS_lay (o := 112) (N := 8) rfl, x1, onC_s ht8, mv_s, x2]
            rw [onC_mv (by omega) ht8 (by omega) (by omega)]
          · intro kc2
            have hAj := hAm m (by omega)
            have hb := rmM_b hS hAj (by show A1.1 ≤ 24; rw [e1]; exact hl) ht8
            unfold BX11_makeEarlier_76 CX11_makeEarlier_76 JX11_makeEarlier_117
            simp (disch := omega) only [J_add, J_sub, J_mul, J_lt, J_le, J_eq, xbr_true, xbr_false, xbr_pos, xbr_neg, Int.toNat_natCast, all_eq, ex_eq, m_roomS (A' := mvA A1 t (t - 1) m) h e1 e2 hAj hS ht8]
        · have hr : relE (C 110) (C 109) t 0 A1 = (decide (0 ≤ rmA (C 110) (C 109) A1 t), A1) := by
            unfold relE; rw [if_neg c7]
          have hb := rmM_b hS hA1 (by rw [e1]; exact hl) ht8
          rw [hr]
          refine lp_for (fun _ : Nat => lay z g (onC C A1)) 0 0 _ (by omega) (fun j _ hj => by omega) ?_
          intro kc2
          unfold BX11_makeEarlier_76 CX11_makeEarlier_76 JX11_makeEarlier_117
          by_cases c : 0 ≤ rmA (C 110) (C 109) A1 t
          · simp (disch := omega) only [J_add, J_sub, J_mul, J_lt, J_le, J_eq, xbr_true, xbr_false, xbr_pos, xbr_neg, Int.toNat_natCast, all_eq, ex_eq, m_roomS (A' := A1) h e1 e2 hA1 hS ht8]
            simp [c]
          · simp (disch := omega) only [J_add, J_sub, J_mul, J_lt, J_le, J_eq, xbr_true, xbr_false, xbr_pos, xbr_neg, Int.toNat_natCast, all_eq, ex_eq, m_roomS (A' := A1) h e1 e2 hA1 hS ht8]
            simp [c]
      have hpp : pE (C 110) (C 109) (t + 1) A1 = if (relE (C 110) (C 109) t 0 A1).1 then pE (C 110) (C 109) t (relE (C 110) (C 109) t 0 A1).2 else (false, (relE (C 110) (C 109) t 0 A1).2) := pshE_pE _ _ _ _ _
      have et2 : (t : Int) + -1 = (t : Int) - 1 := by omega
      rw [hpp]
      by_cases c : (relE (C 110) (C 109) t 0 A1).1 = true
      · rw [if_pos c, ← ih (relE (C 110) (C 109) t 0 A1).2 (by omega) k1 (by rw [k2, e1]) (by rw [k3, e2])]
        refine lp_step (fun kc => ?_)
        unfold BX11_makeEarlier_67 CX11_makeEarlier_67
        simp only [et]
        simp (disch := omega) only [J_add, J_sub, J_mul, J_lt, J_le, J_eq, xbr_true, xbr_false, xbr_pos, xbr_neg, Int.toNat_natCast, all_eq, ex_eq]
        rw [one kc, if_pos c, et2]
      · rw [if_neg c]
        have := no (relE (C 110) (C 109) t 0 A1).2 t (by omega)
        simp only [Bool.false_eq_true, if_false]
        rw [← this]
        refine lp_step (fun kc => ?_)
        unfold BX11_makeEarlier_67 CX11_makeEarlier_67
        simp only [et]
        simp (disch := omega) only [J_add, J_sub, J_mul, J_lt, J_le, J_eq, xbr_true, xbr_false, xbr_pos, xbr_neg, Int.toNat_natCast, all_eq, ex_eq]
        rw [one kc, if_neg c, et2]
  have j47 : ∀ A1 : Rw, RwOk A1 nb → A1.1 = A.1 → A1.2.1 = A.2.1 → relE (C 110) (C 109) s due A = (decide (due ≤ rmA (C 110) (C 109) A1 s), A1) → JX11_makeEarlier_47 K (lay z g (onC C A1)) (ad z 104) (J s) (J due) = K (J (if (pshE (C 110) (C 109) s due A).1 then 1 else 0)) (lay z g (onC C (pshE (C 110) (C 109) s due A).2)) := by
    intro A1 hA1 e1 e2 hr
    have hb := rmM_b hS hA1 (by rw [e1]; exact hl) hs
    have rm := fun K => m_roomS (z := z) (g := g) (K := K) (A' := A1) h e1 e2 hA1 hS hs
    rw [pshE_pE, hr]
    unfold JX11_makeEarlier_47 JX11_makeEarlier_61
    by_cases c : due ≤ rmA (C 110) (C 109) A1 s
    · simp (disch := omega) only [J_add, J_sub, J_mul, J_lt, J_le, J_eq, xbr_true, xbr_false, xbr_pos, xbr_neg, Int.toNat_natCast, all_eq, ex_eq, rm]
      rw [yes s A1 (by omega) hA1 e1 e2]
      simp [c]
    · simp (disch := omega) only [J_add, J_sub, J_mul, J_lt, J_le, J_eq, xbr_true, xbr_false, xbr_pos, xbr_neg, Int.toNat_natCast, all_eq, ex_eq, rm]
      rw [no A1 s (by omega)]
      simp [c]
  unfold PX11_makeEarlier
  simp (disch := omega) only [J_add, J_sub, J_mul, J_lt, J_le, J_eq, xbr_true, xbr_false, xbr_pos, xbr_neg, Int.toNat_natCast, all_eq, ex_eq, tS_lay (o := 104) (t := 12) rfl]
  have h000 : onC C A = C := onC_self h
  by_cases c7 : 0 < s
  · have hm := fst1_le (A.2.2 s) (fun j => decide (due ≤ rmA (C 110) (C 109) (mvA A s (s - 1) j) s))
    have hlt := fun j => fst1_lt (n := A.2.2 s) (f := fun j => decide (due ≤ rmA (C 110) (C 109) (mvA A s (s - 1) j) s)) (i := j)
    have hat := fst1_at (n := A.2.2 s) (f := fun j => decide (due ≤ rmA (C 110) (C 109) (mvA A s (s - 1) j) s))
    have hr : relE (C 110) (C 109) s due A = (decide (due ≤ rmA (C 110) (C 109) (mvA A s (s - 1) (fst1 (A.2.2 s) (fun j => decide (due ≤ rmA (C 110) (C 109) (mvA A s (s - 1) j) s)))) s), mvA A s (s - 1) (fst1 (A.2.2 s) (fun j => decide (due ≤ rmA (C 110) (C 109) (mvA A s (s - 1) j) s)))) := by
      unfold relE; rw [if_pos c7]
    generalize fst1 (A.2.2 s) (fun j => decide (due ≤ rmA (C 110) (C 109) (mvA A s (s - 1) j) s)) = m at *
    have hAm : ∀ j, j ≤ A.2.2 s → RwOk (mvA A s (s - 1) j) nb := fun j hj => by
      obtain ⟨u, rfl⟩ : ∃ u, s = u + 1 := ⟨s - 1, by omega⟩
      exact hA.mvE hj hs
    have h00 : lay z g C = ((fun j : Nat => lay z g (onC C (mvA A s (s - 1) j))) 0) := by
      show _ = lay z g (onC C (mvA A s (s - 1) 0))
      rw [mvA_zero, h000]
    rw [h00]
    refine lp_for (fun j : Nat => lay z g (onC C (mvA A s (s - 1) j))) 0 m _ (by omega) ?_ ?_
    · intro j _ hj kc
      have hAj := hAm j (by omega)
      have hb := rmM_b hS hAj hl hs
      have hf : ¬ due ≤ rmA (C 110) (C 109) (mvA A s (s - 1) j) s := of_decide_eq_false (hlt j hj)
      have hon := on_le hA (s := s + 1) (by omega)
      have hon2 : sumN A.2.2 (s + 1) = sumN A.2.2 s + A.2.2 s := rfl
      have x1 : ((s : Int) - 1).toNat = s - 1 := by omega
      have x2 : up (onC C (mvA A s (s - 1) j)) 112 s (((A.2.2 s - j : Nat) : Int) - 1) 112 (s - 1) = ((A.2.2 (s - 1) + j : Nat) : Int) := by
        unfold up
        rw [if_neg (by omega), onC_s (by omega), mv_t (by omega)]
      unfold BX11_makeEarlier_0 CX11_makeEarlier_0
      simp (disch := omega) only [J_add, J_sub, J_mul, J_lt, J_le, J_eq, xbr_true, xbr_false, xbr_pos, xbr_neg, Int.toNat_natCast, all_eq, ex_eq, m_roomS (A' := mvA A s (s - 1) j) h rfl rfl hAj hS hs, gR_lay (t := 12) (o := 104) (k := 9) (r := 112) rfl, aI_lay (o := 112) (N := 8) rfl, aS_lay (o := 112) (N := 8) rfl, x1, onC_s hs, mv_s, x2]
      rw [onC_mv (by omega) hs (by omega) (by omega)]
    · intro kc
      have hAj := hAm m (by omega)
      have hb := rmM_b hS hAj hl hs
      unfold BX11_makeEarlier_0 CX11_makeEarlier_0
      rw [← j47 (mvA A s (s - 1) m) hAj rfl rfl hr]
      by_cases c : due ≤ rmA (C 110) (C 109) (mvA A s (s - 1) m) s
      · simp (disch := omega) only [J_add, J_sub, J_mul, J_lt, J_le, J_eq, xbr_true, xbr_false, xbr_pos, xbr_neg, Int.toNat_natCast, all_eq, ex_eq, m_roomS (A' := mvA A s (s - 1) m) h rfl rfl hAj hS hs]
      · have em : m = A.2.2 s := by
          rcases Nat.lt_or_ge m (A.2.2 s) with c8 | c8
          · exact absurd (of_decide_eq_true (hat c8)) c
          · omega
        have e0 : onC C (mvA A s (s - 1) m) 112 s = 0 := by
          rw [onC_s hs, mv_s, em]; simp
        simp (disch := omega) only [J_add, J_sub, J_mul, J_lt, J_le, J_eq, xbr_true, xbr_false, xbr_pos, xbr_neg, Int.toNat_natCast, all_eq, ex_eq, m_roomS (A' := mvA A s (s - 1) m) h rfl rfl hAj hS hs, gR_lay (t := 12) (o := 104) (k := 9) (r := 112) rfl, aI_lay (o := 112) (N := 8) rfl, e0]
  · have hr : relE (C 110) (C 109) s due A = (decide (due ≤ rmA (C 110) (C 109) A s), A) := by
      unfold relE; rw [if_neg c7]
    have hb := rmM_b hS hA hl hs
    have rm := fun K => m_roomS (z := z) (g := g) (K := K) (A' := A) h rfl rfl hA hS hs
    have j := j47 A hA rfl rfl hr
    rw [h000] at rm j
    have hon := on_le hA (s := s + 1) (by omega)
    have hon2 : sumN A.2.2 (s + 1) = sumN A.2.2 s + A.2.2 s := rfl
    have e0 := h.2.2.2 s hs
    refine lp_for (fun _ : Nat => lay z g C) 0 0 _ (by omega) (fun j _ hj => by omega) ?_
    intro kc
    unfold BX11_makeEarlier_0 CX11_makeEarlier_0
    rw [← j]
    by_cases c : due ≤ rmA (C 110) (C 109) A s
    · simp (disch := omega) only [J_add, J_sub, J_mul, J_lt, J_le, J_eq, xbr_true, xbr_false, xbr_pos, xbr_neg, Int.toNat_natCast, all_eq, ex_eq, rm]
    · by_cases c2 : A.2.2 s = 0
      · simp (disch := omega) only [J_add, J_sub, J_mul, J_lt, J_le, J_eq, xbr_true, xbr_false, xbr_pos, xbr_neg, Int.toNat_natCast, all_eq, ex_eq, rm, gR_lay (t := 12) (o := 104) (k := 9) (r := 112) rfl, aI_lay (o := 112) (N := 8) rfl, e0]
      · simp (disch := omega) only [J_add, J_sub, J_mul, J_lt, J_le, J_eq, xbr_true, xbr_false, xbr_pos, xbr_neg, Int.toNat_natCast, all_eq, ex_eq, rm, gR_lay (t := 12) (o := 104) (k := 9) (r := 112) rfl, aI_lay (o := 112) (N := 8) rfl, e0]
/-- where a book was, as the reference looks it up in what it has saved -/
theorem m_carried33 {K : Int32 → Prop} {kc4 : Int32 × Int32 → Prop} (w : WasM C A0) (hA : RwOk A0 nb) (hl : A0.1 ≤ 24) (hnb : nb ≤ 24) {b : Nat} (hb : b < 24) {n : Nat} (hn : n ≤ 24) {v : Int} (hv : -1 ≤ v ∧ v < 8) : JX11_carried_33 K kc4 (lay z g C) (ad z 104) (J (n : Nat)) (J (b : Nat)) (J v) = kc4 (J ((n + (if v = shB A0 b then 0 else 1) : Nat) : Int), J ((b + 1 : Nat) : Int)) := by
  obtain ⟨w1, w2, w3⟩ := w
  have wv : ∀ k, k ≤ A0.1 → -1 ≤ (if idx A0 b < k then (shAt A0.2.2 (idx A0 b) : Int) else -1) ∧ (if idx A0 b < k then (shAt A0.2.2 (idx A0 b) : Int) else -1) < 8 := fun k hk => by
    split
    · rename_i c
      have := shAt_lt (on := A0.2.2) (i := idx A0 b) (by rw [hA.2.2]; omega)
      omega
    · omega
  have inner : ∀ (kc43 : Int32 × Int32 × Int32 → Prop) (s : Nat), s < 8 → lp (BX11_carried_54 K kc4 kc43 (lay z g C) (ad z 104) (J (n : Nat)) (J (b : Nat)) (J v) (J (sumN A0.2.2 s : Nat)) (J (s : Nat))) (J (if idx A0 b < sumN A0.2.2 s then (shAt A0.2.2 (idx A0 b) : Int) else -1), J (sumN A0.2.2 s : Nat)) = kc43 (J (if idx A0 b < sumN A0.2.2 (s + 1) then (shAt A0.2.2 (idx A0 b) : Int) else -1), J (sumN A0.2.2 (s + 1) : Nat), J ((s + 1 : Nat) : Int)) := by
    intro kc43 s hs
    have hle := on_le hA (s := s + 1) (by omega)
    have e0 : sumN A0.2.2 (s + 1) = sumN A0.2.2 s + A0.2.2 s := rfl
    have ws := w3 s hs
    refine lp_for (fun k : Nat => (J (if idx A0 b < k then (shAt A0.2.2 (idx A0 b) : Int) else -1), J (k : Int))) (sumN A0.2.2 s) (sumN A0.2.2 (s + 1)) _ (by omega) ?_ ?_
    · intro k hk0 hk kc
      have wr := w2 k (by omega)
      have hnk := hA.1 k (by omega)
      have hsh := (shAt_iff (on := A0.2.2) (i := k) hs).mpr ⟨hk0, hk⟩
      unfold BX11_carried_54 CX11_carried_54
      simp (disch := omega) only [J_add, J_sub, J_mul, J_lt, J_le, J_eq, xbr_true, xbr_false, xbr_pos, xbr_neg, Int.toNat_natCast, all_eq, ex_eq, t_0, q_0_0, q_0_1, q_0_2, q_0_3, q_0_4, q_0_5, q_0_6, q_0_7, q_0_8, q_0_9, i_0_10, p_0_10, i_0_11, p_0_11, i_0_12, p_0_12, t_1, q_1_0, t_3, q_3_0, q_3_1, i_3_2, p_3_2, i_3_3, p_3_3, t_80, q_80_0, t_88, q_88_0, t_90, q_90_0, t_92, q_92_0, q_92_1, q_92_2, i_92_3, p_92_3, i_92_4, p_92_4, t_96, q_96_0, i_96_1, p_96_1, i_96_2, p_96_2, i_96_3, p_96_3, t_100, q_100_0, i_100_1, p_100_1, i_100_2, p_100_2, i_100_3, p_100_3, t_104, q_104_1, q_104_2, q_104_3, q_104_4, q_104_5, q_104_6, q_104_8, q_104_9, q_104_11, q_104_12, q_104_18, q_104_21, q_104_22, q_104_23, q_104_24, q_104_26, q_104_27, q_104_28, q_104_30, q_104_31, i_104_0, p_104_0, i_104_7, p_104_7, i_104_10, p_104_10, i_104_13, p_104_13, i_104_14, p_104_14, i_104_15, p_104_15, i_104_16, p_104_16, i_104_17, p_104_17, i_104_19, p_104_19, i_104_20, p_104_20, i_104_25, p_104_25, i_104_29, p_104_29, a_2, w_2, a_81, w_81, a_89, w_89, a_91, w_91, a_93, w_93, a_94, w_94, a_95, w_95, a_105, w_105, a_106, w_106, a_107, w_107, a_108, w_108, a_109, w_109, a_110, w_110, a_111, w_111, a_112, w_112, a_113, w_113, a_114, w_114, a_115, w_115, a_116, w_116, a_117, w_117, a_118, w_118, a_119, w_119, a_120, w_120, a_121, w_121, a_122, w_122, a_123, w_123, a_124, w_124, ws, wr]
      by_cases c : A0.2.1 k = b
      · have e : idx A0 b = k := by rw [← c]; exact idx_of hA (by omega)
        simp (disch := omega) only [J_add, J_sub, J_mul, J_lt, J_le, J_eq, xbr_true, xbr_false, xbr_pos, xbr_neg, Int.toNat_natCast, all_eq, ex_eq]
        rw [e, if_pos (by omega), hsh]; rfl
      · have e : idx A0 b ≠ k := fun q => c (by rw [← q]; exact idx_at (by omega))
        simp (disch := omega) only [J_add, J_sub, J_mul, J_lt, J_le, J_eq, xbr_true, xbr_false, xbr_pos, xbr_neg, Int.toNat_natCast, all_eq, ex_eq]
        by_cases c2 : idx A0 b < k
        · rw [if_pos c2, if_pos (by omega)]; rfl
        · rw [if_neg c2, if_neg (by omega)]; rfl
    · intro kc
      unfold BX11_carried_54 CX11_carried_54
      simp (disch := omega) only [J_add, J_sub, J_mul, J_lt, J_le, J_eq, xbr_true, xbr_false, xbr_pos, xbr_neg, Int.toNat_natCast, all_eq, ex_eq, t_0, q_0_0, q_0_1, q_0_2, q_0_3, q_0_4, q_0_5, q_0_6, q_0_7, q_0_8, q_0_9, i_0_10, p_0_10, i_0_11, p_0_11, i_0_12, p_0_12, t_1, q_1_0, t_3, q_3_0, q_3_1, i_3_2, p_3_2, i_3_3, p_3_3, t_80, q_80_0, t_88, q_88_0, t_90, q_90_0, t_92, q_92_0, q_92_1, q_92_2, i_92_3, p_92_3, i_92_4, p_92_4, t_96, q_96_0, i_96_1, p_96_1, i_96_2, p_96_2, i_96_3, p_96_3, t_100, q_100_0, i_100_1, p_100_1, i_100_2, p_100_2, i_100_3, p_100_3, t_104, q_104_1, q_104_2, q_104_3, q_104_4, q_104_5, q_104_6, q_104_8, q_104_9, q_104_11, q_104_12, q_104_18, q_104_21, q_104_22, q_104_23, q_104_24, q_104_26, q_104_27, q_104_28, q_104_30, q_104_31, i_104_0, p_104_0, i_104_7, p_104_7, i_104_10, p_104_10, i_104_13, p_104_13, i_104_14, p_104_14, i_104_15, p_104_15, i_104_16, p_104_16, i_104_17, p_104_17, i_104_19, p_104_19, i_104_20, p_104_20, i_104_25, p_104_25, i_104_29, p_104_29, a_2, w_2, a_81, w_81, a_89, w_89, a_91, w_91, a_93, w_93, a_94, w_94, a_95, w_95, a_105, w_105, a_106, w_106, a_107, w_107, a_108, w_108, a_109, w_109, a_110, w_110, a_111, w_111, a_112, w_112, a_113, w_113, a_114, w_114, a_115, w_115, a_116, w_116, a_117, w_117, a_118, w_118, a_119, w_119, a_120, w_120, a_121, w_121, a_122, w_122, a_123, w_123, a_124, w_124, ws]
      rw [show ((sumN A0.2.2 s : Nat) : Int) + (A0.2.2 s : Nat) = (sumN A0.2.2 (s + 1) : Nat) by omega]
      rfl
  unfold JX11_carried_33
  have h00 : (J (-1), J 0, J 0) = ((fun s : Nat => (J (if idx A0 b < sumN A0.2.2 s then (shAt A0.2.2 (idx A0 b) : Int) else -1), J (sumN A0.2.2 s : Nat), J (s : Int))) 0) := by simp [sumN]
  rw [h00]
  refine lp_for (fun s : Nat => (J (if idx A0 b < sumN A0.2.2 s then (shAt A0.2.2 (idx A0 b) : Int) else -1), J (sumN A0.2.2 s : Nat), J (s : Int))) 0 8 _ (by omega) ?_ ?_
  · intro s _ hs kc
    unfold BX11_carried_43 CX11_carried_43
    simp (disch := omega) only [J_add, J_sub, J_mul, J_lt, J_le, J_eq, xbr_true, xbr_false, xbr_pos, xbr_neg, Int.toNat_natCast, all_eq, ex_eq]
    exact inner kc s hs
  · intro kc
    have wv8 := wv A0.1 (Nat.le_refl _)
    unfold BX11_carried_43 CX11_carried_43
    rw [hA.2.2]
    by_cases c : v = shB A0 b
    · have c' := c
      unfold shB at c'
      simp (disch := omega) only [J_add, J_sub, J_mul, J_lt, J_le, J_eq, xbr_true, xbr_false, xbr_pos, xbr_neg, Int.toNat_natCast, all_eq, ex_eq]
      rw [if_pos c]; rfl
    · have c' := c
      unfold shB at c'
      simp (disch := omega) only [J_add, J_sub, J_mul, J_lt, J_le, J_eq, xbr_true, xbr_false, xbr_pos, xbr_neg, Int.toNat_natCast, all_eq, ex_eq]
      rw [if_neg c]; rfl
theorem m_carried {K : Int32 → Prop} (h : RowM C A) (hA : RwOk A nb) (w : WasM C A0) (hA0 : RwOk A0 nb) (hl0 : A0.1 ≤ 24) (hn : nb ≤ 24) (h0 : C 104 0 = nb) : PX11_carried (ad z 104) (lay z g C) K = K (J (crd A0 A nb : Nat)) := by
  unfold PX11_carried
  simp (disch := omega) only [J_add, J_sub, J_mul, J_lt, J_le, J_eq, xbr_true, xbr_false, xbr_pos, xbr_neg, Int.toNat_natCast, all_eq, ex_eq, t_0, q_0_0, q_0_1, q_0_2, q_0_3, q_0_4, q_0_5, q_0_6, q_0_7, q_0_8, q_0_9, i_0_10, p_0_10, i_0_11, p_0_11, i_0_12, p_0_12, t_1, q_1_0, t_3, q_3_0, q_3_1, i_3_2, p_3_2, i_3_3, p_3_3, t_80, q_80_0, t_88, q_88_0, t_90, q_90_0, t_92, q_92_0, q_92_1, q_92_2, i_92_3, p_92_3, i_92_4, p_92_4, t_96, q_96_0, i_96_1, p_96_1, i_96_2, p_96_2, i_96_3, p_96_3, t_100, q_100_0, i_100_1, p_100_1, i_100_2, p_100_2, i_100_3, p_100_3, t_104, q_104_1, q_104_2, q_104_3, q_104_4, q_104_5, q_104_6, q_104_8, q_104_9, q_104_11, q_104_12, q_104_18, q_104_21, q_104_22, q_104_23, q_104_24, q_104_26, q_104_27, q_104_28, q_104_30, q_104_31, i_104_0, p_104_0, i_104_7, p_104_7, i_104_10, p_104_10, i_104_13, p_104_13, i_104_14, p_104_14, i_104_15, p_104_15, i_104_16, p_104_16, i_104_17, p_104_17, i_104_19, p_104_19, i_104_20, p_104_20, i_104_25, p_104_25, i_104_29, p_104_29, a_2, w_2, a_81, w_81, a_89, w_89, a_91, w_91, a_93, w_93, a_94, w_94, a_95, w_95, a_105, w_105, a_106, w_106, a_107, w_107, a_108, w_108, a_109, w_109, a_110, w_110, a_111, w_111, a_112, w_112, a_113, w_113, a_114, w_114, a_115, w_115, a_116, w_116, a_117, w_117, a_118, w_118, a_119, w_119, a_120, w_120, a_121, w_121, a_122, w_122, a_123, w_123, a_124, w_124]
  refine lp_for (fun b : Nat => (J (cnt b (fun b => shB A0 b != shB A b) : Nat), J (b : Int))) 0 nb _ (by omega) ?_ ?_
  · intro b _ hb kc
    have c1 := cnt_le b (fun b => shB A0 b != shB A b)
    have hr := shB_r (b := b) hA
    have j33 := m_carried33 (z := z) (g := g) (K := K) (kc4 := kc) w hA0 hl0 hn (b := b) (by omega) (n := cnt b (fun b => shB A0 b != shB A b)) (by omega) hr
    have ef : cnt (b + 1) (fun b => shB A0 b != shB A b) = cnt b (fun b => shB A0 b != shB A b) + (if shB A b = shB A0 b then 0 else 1) := by
      show _ + (if (shB A0 b != shB A b) = true then 1 else 0) = _
      by_cases c : shB A b = shB A0 b
      · simp [c]
      · rw [if_neg c, if_pos (by simp; exact fun q => c q.symm)]
    rw [← ef] at j33
    unfold BX11_carried_4 CX11_carried_4
    by_cases c : idx A b < A.1
    · have e : shB A b = shAt A.2.2 (idx A b) := by unfold shB; rw [if_pos c]
      have hl := h.2.1
      simp (disch := omega) only [J_add, J_sub, J_mul, J_lt, J_le, J_eq, xbr_true, xbr_false, xbr_pos, xbr_neg, Int.toNat_natCast, all_eq, ex_eq, t_0, q_0_0, q_0_1, q_0_2, q_0_3, q_0_4, q_0_5, q_0_6, q_0_7, q_0_8, q_0_9, i_0_10, p_0_10, i_0_11, p_0_11, i_0_12, p_0_12, t_1, q_1_0, t_3, q_3_0, q_3_1, i_3_2, p_3_2, i_3_3, p_3_3, t_80, q_80_0, t_88, q_88_0, t_90, q_90_0, t_92, q_92_0, q_92_1, q_92_2, i_92_3, p_92_3, i_92_4, p_92_4, t_96, q_96_0, i_96_1, p_96_1, i_96_2, p_96_2, i_96_3, p_96_3, t_100, q_100_0, i_100_1, p_100_1, i_100_2, p_100_2, i_100_3, p_100_3, t_104, q_104_1, q_104_2, q_104_3, q_104_4, q_104_5, q_104_6, q_104_8, q_104_9, q_104_11, q_104_12, q_104_18, q_104_21, q_104_22, q_104_23, q_104_24, q_104_26, q_104_27, q_104_28, q_104_30, q_104_31, i_104_0, p_104_0, i_104_7, p_104_7, i_104_10, p_104_10, i_104_13, p_104_13, i_104_14, p_104_14, i_104_15, p_104_15, i_104_16, p_104_16, i_104_17, p_104_17, i_104_19, p_104_19, i_104_20, p_104_20, i_104_25, p_104_25, i_104_29, p_104_29, a_2, w_2, a_81, w_81, a_89, w_89, a_91, w_91, a_93, w_93, a_94, w_94, a_95, w_95, a_105, w_105, a_106, w_106, a_107, w_107, a_108, w_108, a_109, w_109, a_110, w_110, a_111, w_111, a_112, w_112, a_113, w_113, a_114, w_114, a_115, w_115, a_116, w_116, a_117, w_117, a_118, w_118, a_119, w_119, a_120, w_120, a_121, w_121, a_122, w_122, a_123, w_123, a_124, w_124, h0, m_placeOf h hA hn (b := b) (by omega), if_pos c, m_shelfOf h hA c]
      rw [← e, j33]
    · have e : shB A b = -1 := by unfold shB; rw [if_neg c]
      simp (disch := omega) only [J_add, J_sub, J_mul, J_lt, J_le, J_eq, xbr_true, xbr_false, xbr_pos, xbr_neg, Int.toNat_natCast, all_eq, ex_eq, t_0, q_0_0, q_0_1, q_0_2, q_0_3, q_0_4, q_0_5, q_0_6, q_0_7, q_0_8, q_0_9, i_0_10, p_0_10, i_0_11, p_0_11, i_0_12, p_0_12, t_1, q_1_0, t_3, q_3_0, q_3_1, i_3_2, p_3_2, i_3_3, p_3_3, t_80, q_80_0, t_88, q_88_0, t_90, q_90_0, t_92, q_92_0, q_92_1, q_92_2, i_92_3, p_92_3, i_92_4, p_92_4, t_96, q_96_0, i_96_1, p_96_1, i_96_2, p_96_2, i_96_3, p_96_3, t_100, q_100_0, i_100_1, p_100_1, i_100_2, p_100_2, i_100_3, p_100_3, t_104, q_104_1, q_104_2, q_104_3, q_104_4, q_104_5, q_104_6, q_104_8, q_104_9, q_104_11, q_104_12, q_104_18, q_104_21, q_104_22, q_104_23, q_104_24, q_104_26, q_104_27, q_104_28, q_104_30, q_104_31, i_104_0, p_104_0, i_104_7, p_104_7, i_104_10, p_104_10, i_104_13, p_104_13, i_104_14, p_104_14, i_104_15, p_104_15, i_104_16, p_104_16, i_104_17, p_104_17, i_104_19, p_104_19, i_104_20, p_104_20, i_104_25, p_104_25, i_104_29, p_104_29, a_2, w_2, a_81, w_81, a_89, w_89, a_91, w_91, a_93, w_93, a_94, w_94, a_95, w_95, a_105, w_105, a_106, w_106, a_107, w_107, a_108, w_108, a_109, w_109, a_110, w_110, a_111, w_111, a_112, w_112, a_113, w_113, a_114, w_114, a_115, w_115, a_116, w_116, a_117, w_117, a_118, w_118, a_119, w_119, a_120, w_120, a_121, w_121, a_122, w_122, a_123, w_123, a_124, w_124, h0, m_placeOf h hA hn (b := b) (by omega), if_neg c]
      rw [← e, j33]
  · intro kc
    unfold BX11_carried_4 CX11_carried_4
    simp (disch := omega) only [J_add, J_sub, J_mul, J_lt, J_le, J_eq, xbr_true, xbr_false, xbr_pos, xbr_neg, Int.toNat_natCast, all_eq, ex_eq, t_0, q_0_0, q_0_1, q_0_2, q_0_3, q_0_4, q_0_5, q_0_6, q_0_7, q_0_8, q_0_9, i_0_10, p_0_10, i_0_11, p_0_11, i_0_12, p_0_12, t_1, q_1_0, t_3, q_3_0, q_3_1, i_3_2, p_3_2, i_3_3, p_3_3, t_80, q_80_0, t_88, q_88_0, t_90, q_90_0, t_92, q_92_0, q_92_1, q_92_2, i_92_3, p_92_3, i_92_4, p_92_4, t_96, q_96_0, i_96_1, p_96_1, i_96_2, p_96_2, i_96_3, p_96_3, t_100, q_100_0, i_100_1, p_100_1, i_100_2, p_100_2, i_100_3, p_100_3, t_104, q_104_1, q_104_2, q_104_3, q_104_4, q_104_5, q_104_6, q_104_8, q_104_9, q_104_11, q_104_12, q_104_18, q_104_21, q_104_22, q_104_23, q_104_24, q_104_26, q_104_27, q_104_28, q_104_30, q_104_31, i_104_0, p_104_0, i_104_7, p_104_7, i_104_10, p_104_10, i_104_13, p_104_13, i_104_14, p_104_14, i_104_15, p_104_15, i_104_16, p_104_16, i_104_17, p_104_17, i_104_19, p_104_19, i_104_20, p_104_20, i_104_25, p_104_25, i_104_29, p_104_29, a_2, w_2, a_81, w_81, a_89, w_89, a_91, w_91, a_93, w_93, a_94, w_94, a_95, w_95, a_105, w_105, a_106, w_106, a_107, w_107, a_108, w_108, a_109, w_109, a_110, w_110, a_111, w_111, a_112, w_112, a_113, w_113, a_114, w_114, a_115, w_115, a_116, w_116, a_117, w_117, a_118, w_118, a_119, w_119, a_120, w_120, a_121, w_121, a_122, w_122, a_123, w_123, a_124, w_124, h0]
    rfl
end MAKE
