/-! READING A TEXT: class and reference hold the same of a book -/
section REL
variable {z n m p nb : Nat} {g : Mem} {C C' : Nat → Nat → Int} {tx : Nat → Int}
theorem rnT_ok : ∀ (k p m : Nat) (κ : Nat → Nat → Int) (ps : Nat → Nat), (∀ b, b < m → (rnT tx n k p m κ ps).2.2.2 b = ps b) ∧ ((rnT tx n k p m κ ps).1 = 0 → ∀ b, m ≤ b → b < (rnT tx n k p m κ ps).2.2.1 → ∃ full, (clF tx n full ((rnT tx n k p m κ ps).2.2.2 b)).1 = 0) := by
  intro k
  induction k with
  | zero =>
    intro p m κ ps
    exact ⟨fun _ _ => rfl, fun _ b h1 h2 => by have h2' : b < m := h2; omega⟩
  | succ k ih =>
    intro p m κ ps
    by_cases c0 : n ≤ p
    · have e : rnT tx n (k + 1) p m κ ps = (0, 0, m, ps) := if_pos c0
      rw [e]
      exact ⟨fun _ _ => rfl, fun _ b h1 h2 => by have h2' : b < m := h2; omega⟩
    · by_cases c1 : (clF tx n (decide (m = 24)) p).1 = 0
      · by_cases c2 : tld κ m (knT tx n p) = true
        · have e : rnT tx n (k + 1) p m κ ps = (5, enT tx n p, m, ps) := by
            show (if n ≤ p then _ else if (clF tx n (decide (m = 24)) p).1 ≠ 0 then _ else if tld κ m (knT tx n p) = true then _ else _) = _
            rw [if_neg c0, if_neg (by omega), if_pos c2]
          rw [e]
          exact ⟨fun _ _ => rfl, fun q => by simp at q⟩
        · have e : rnT tx n (k + 1) p m κ ps = rnT tx n k (skp tx n (enT tx n p + 1)) (m + 1) (fun b => if b = m then knT tx n p else κ b) (fun b => if b = m then p else ps b) := by
            show (if n ≤ p then _ else if (clF tx n (decide (m = 24)) p).1 ≠ 0 then _ else if tld κ m (knT tx n p) = true then _ else _) = _
            rw [if_neg c0, if_neg (by omega), if_neg c2]
          rw [e]
          obtain ⟨r1, r2⟩ := ih (skp tx n (enT tx n p + 1)) (m + 1) (fun b => if b = m then knT tx n p else κ b) (fun b => if b = m then p else ps b)
          refine ⟨fun b hb => by rw [r1 b (by omega), if_neg (by omega)], fun q b b1 b2 => ?_⟩
          by_cases w : b = m
          · subst w
            rw [r1 b (by omega), if_pos rfl]
            exact ⟨_, c1⟩
          · exact r2 q b (by omega) b2
      · have e : rnT tx n (k + 1) p m κ ps = ((clF tx n (decide (m = 24)) p).1, (clF tx n (decide (m = 24)) p).2, m, ps) := by
          show (if n ≤ p then _ else if (clF tx n (decide (m = 24)) p).1 ≠ 0 then _ else _) = _
          rw [if_neg c0, if_pos c1]
        rw [e]
        exact ⟨fun _ _ => rfl, fun q => absurd q c1⟩
theorem clF_ok {full : Bool} (h : (clF tx n full p).1 = 0) : (clC tx (p3T tx p)).1 = 0 ∧ (clY tx n (p4T tx p)).1 = 0 ∧ (clW tx n (p4T tx p)).1 = 0 := by
  rw [clF_eq] at h
  by_cases cA : (clA2 tx full p).1 ≠ 0
  · rw [if_pos cA] at h; exact absurd h cA
  · rw [if_neg cA] at h
    by_cases cB : fgF tx (p1T tx p) ≠ 0
    · rw [if_pos cB] at h; exact absurd h cB
    · rw [if_neg cB] at h
      by_cases cP : (clP tx (p2T tx p)).1 ≠ 0
      · rw [if_pos cP] at h; exact absurd h cP
      · rw [if_neg cP] at h
        have cC0 : (clC tx (p3T tx p)).1 = 0 := by
          have cP0 : (clP tx (p2T tx p)).1 = 0 := by omega
          unfold clP at cP0
          by_cases c : (clD tx (p2T tx p)).1 ≠ 0
          · rw [if_pos c] at cP0; omega
          · rw [if_neg c] at cP0; exact cP0
        by_cases cY : (clY tx n (p4T tx p)).1 ≠ 0
        · rw [if_pos cY] at h; exact absurd h cY
        · rw [if_neg cY] at h
          by_cases cW : (clW tx n (p4T tx p)).1 ≠ 0
          · rw [if_pos cW] at h; exact absurd h cW
          · exact ⟨cC0, by omega, by omega⟩
theorem BkRel.key {b : Nat} (h : BkRel C b) {i : Nat} (hi : i < 5) : keyC C (8 + 3 * b) i 0 = keyR C b i := by
  obtain ⟨-, -, -, -, -, -, -, -, -, -, h1, h2, h3, h4, h5, h6, h7, h8, h9, h10, h11⟩ := h
  unfold keyC keyR
  rcases (show i = 0 ∨ i = 1 ∨ i = 2 ∨ i = 3 ∨ i = 4 by omega) with rfl | rfl | rfl | rfl | rfl
  · simp [h1, h2]
  · simp [h3]
  · simp [h6]
  · simp [h7, h9]
  · simp [h10]
theorem BkRel.rbk {b : Nat} (h : BkRel C b) (l : 1 ≤ ptC C b 2) : RBk C b := by
  obtain ⟨a1, a2, a3, a4, a5, a6, a7, a8, a9, a10, -⟩ := h
  exact ⟨a1, a2, a4, a6, a7, a8, a9, l⟩
theorem relNew {b : Nat} (hc : ClsAt C tx n b p) (hr : RefAt C tx n b p) (hk : RBk C b) (hD : GDig C) (hb : b < 24) (hw : (clW tx n (p4T tx p)).1 = 0) : BkRel C b := by
  obtain ⟨r0, r1, r10, r15, r6, r7, r8, rl⟩ := hk
  obtain ⟨h0, h1, h2, hk1, hk2, h6, h10, hk3, h11, h15, hw9⟩ := hr
  obtain ⟨v1, v2, v3, v4, v5, v6, v7, v8, v9, v10, v11⟩ := vT_f (tx := tx) (n := n) (p := p)
  have cf := hc.1
  have d := hD b hb
  have w9 : 1 ≤ C 109 b ∧ C 109 b ≤ 9 := by
    rw [hw9]
    unfold wW
    by_cases c : hasW tx n (p4T tx p) = true
    · have := clW_w hw c
      rw [if_pos c]; omega
    · rw [if_neg c]; omega
  refine ⟨r0, r1, fun j j1 j2 => d j (by omega), r10, fun j j1 j2 => d j (by omega), r15, r6, r7, r8, w9, ?_, ?_, ?_, ?_, ?_, ?_, ?_, ?_, ?_, ?_, ?_⟩
  · rw [cf 1 (by omega) (by omega), v1, h0]; omega
  · rw [cf 2 (by omega) (by omega), v2, h1]
    split <;> omega
  · rw [cf 3 (by omega) (by omega), v3, hk1, Int.toNat_natCast]
    exact (wh_congr fun j hj => h2 j hj).symm
  · rw [cf 4 (by omega) (by omega), v4, hk1, Int.toNat_natCast]
    exact (fil_congr fun j hj => h2 j hj).symm
  · rw [cf 5 (by omega) (by omega), v5, hk2]
    unfold kD
    by_cases c : hasD tx (p2T tx p) = true
    · rw [if_pos c, if_pos c, Int.toNat_natCast]
      exact (wh_congr fun j hj => h6 c j hj).symm
    · rw [if_neg c, if_neg c]; rfl
  · rw [cf 6 (by omega) (by omega), v6, hk2]
    unfold kD
    by_cases c : hasD tx (p2T tx p) = true
    · rw [if_pos c, if_pos c, Int.toNat_natCast]
      exact (fil_congr fun j hj => h6 c j hj).symm
    · rw [if_neg c, if_neg c]; rfl
  · rw [cf 7 (by omega) (by omega), v7, h10]
    split <;> omega
  · rw [cf 8 (by omega) (by omega), v8, hk3]
    unfold kC
    by_cases c : tx (p3T tx p) = 46
    · rw [if_pos c, if_pos c, Int.toNat_natCast]
      exact (wh_congr fun j hj => h11 c j hj).symm
    · rw [if_neg c, if_neg c]; rfl
  · rw [cf 9 (by omega) (by omega), v9, hk3]
    unfold kC
    by_cases c : tx (p3T tx p) = 46
    · rw [if_pos c, if_pos c, Int.toNat_natCast]
      exact (fil_congr fun j hj => h11 c j hj).symm
    · rw [if_neg c, if_neg c]; rfl
  · rw [cf 10 (by omega) (by omega), v10, h15]
  · rw [cf 11 (by omega) (by omega), v11, hw9]
    rfl
theorem fgL_eq {d : Nat → Int} {k : Nat} (h : ∀ j, j < k → d j = dgs tx p j) : (List.range k).map (fun j => 48 + d j) = fgL tx p k := by
  unfold fgL
  apply List.map_congr_left
  intro j hj
  have := h j (List.mem_range.mp hj)
  rw [this]
  unfold dgs
  omega
theorem sT_eq {b : Nat} (hr : RefAt C tx n b p) (hc : (clC tx (p3T tx p)).1 = 0) (hy : (clY tx n (p4T tx p)).1 = 0) (hlt : 0 ≤ ptC C b 0) : mkA C b = sT tx n p := by
  obtain ⟨h0, h1, h2, hk1, hk2, h6, h10, hk3, h11, h15, -⟩ := hr
  have m0 : mk0 C b = sA tx p := by
    unfold mk0 sA
    rw [h0, h1]
    by_cases c : isLt (tx (p + 1)) = true
    · have := isLt_t c
      rw [if_pos c, if_pos c, if_pos (by omega), show 97 + (tx p - 97) = tx p by omega, show 97 + (tx (p + 1) - 97) = tx (p + 1) by omega]
    · rw [if_neg c, if_neg c, if_neg (by omega), show 97 + (tx p - 97) = tx p by omega]
  have m1 : mk1 C b = fgL tx (p1T tx p) (fgN tx (p1T tx p)) := by
    unfold mk1
    rw [hk1, Int.toNat_natCast]
    exact fgL_eq h2
  have m2 : mk2 C b = if hasD tx (p2T tx p) then tx (p2T tx p) :: fgL tx (p2T tx p + 1) (fgN tx (p2T tx p + 1)) else [] := by
    unfold mk2
    rw [hk2]
    unfold kD
    by_cases c : hasD tx (p2T tx p) = true
    · have c' : tx (p2T tx p) = 46 ∧ isFg (tx (p2T tx p + 1)) = true := by
        unfold hasD at c; simpa using c
      have k1 : 1 ≤ fgN tx (p2T tx p + 1) := by
        rcases Nat.eq_zero_or_pos (fgN tx (p2T tx p + 1)) with q | q
        · have := fgN_end (tx := tx) (p := p2T tx p + 1) (by omega)
          rw [q] at this
          exact absurd c'.2 this
        · exact q
      rw [if_pos c, if_pos c, if_pos (by omega), Int.toNat_natCast, fgL_eq (h6 c), c'.1]
    · rw [if_neg c, if_neg c, if_neg (by omega)]
  have m3 : mk3 C b = if tx (p3T tx p) = 46 then tx (p3T tx p) :: tx (p3T tx p + 1) :: fgL tx (p3T tx p + 2) (fgN tx (p3T tx p + 2)) else [] := by
    unfold mk3
    rw [hk3, h10]
    unfold kC
    by_cases c : tx (p3T tx p) = 46
    · have := isLt_t (clC_lt hc c)
      rw [if_pos c, if_pos c, if_pos c, if_pos (by omega), Int.toNat_natCast, fgL_eq (h11 c), c, show 97 + (tx (p3T tx p + 1) - 97) = tx (p3T tx p + 1) by omega]
    · rw [if_neg c, if_neg c, if_neg (by omega), if_neg c]
  have m4 : mk4 C b = if hasY tx n (p4T tx p) then 32 :: tx (skp tx n (p4T tx p)) :: fgL tx (skp tx n (p4T tx p) + 1) 4 else [] := by
    unfold mk4
    rw [h15]
    by_cases c : hasY tx n (p4T tx p) = true
    · obtain ⟨f4, y1, y2⟩ := clY_y hy c
      have c' : tx (skp tx n (p4T tx p)) = 121 := by
        unfold hasY at c
        simp only [Bool.and_eq_true, decide_eq_true_eq] at c
        exact c.2
      have ey : yrT tx n (p4T tx p) = 10 * (10 * (10 * (10 * 0 + (tx (skp tx n (p4T tx p) + 1 + 0) - 48)) + (tx (skp tx n (p4T tx p) + 1 + 1) - 48)) + (tx (skp tx n (p4T tx p) + 1 + 2) - 48)) + (tx (skp tx n (p4T tx p) + 1 + 3) - 48) := rfl
      have a0 := fgN_at (tx := tx) (p := skp tx n (p4T tx p) + 1) (j := 0) (by omega)
      have a1 := fgN_at (tx := tx) (p := skp tx n (p4T tx p) + 1) (j := 1) (by omega)
      have a2 := fgN_at (tx := tx) (p := skp tx n (p4T tx p) + 1) (j := 2) (by omega)
      have a3 := fgN_at (tx := tx) (p := skp tx n (p4T tx p) + 1) (j := 3) (by omega)
      have el : fgL tx (skp tx n (p4T tx p) + 1) 4 = [tx (skp tx n (p4T tx p) + 1 + 0), tx (skp tx n (p4T tx p) + 1 + 1), tx (skp tx n (p4T tx p) + 1 + 2), tx (skp tx n (p4T tx p) + 1 + 3)] := rfl
      rw [if_pos c, if_pos c, if_pos (by omega), c', el]
      generalize yrT tx n (p4T tx p) = Y at *
      generalize tx (skp tx n (p4T tx p) + 1 + 0) = t0 at *
      generalize tx (skp tx n (p4T tx p) + 1 + 1) = t1 at *
      generalize tx (skp tx n (p4T tx p) + 1 + 2) = t2 at *
      generalize tx (skp tx n (p4T tx p) + 1 + 3) = t3 at *
      have e0 : 48 + Y / 1000 = t0 := by omega
      have e1 : 48 + Y / 100 % 10 = t1 := by omega
      have e2 : 48 + Y / 10 % 10 = t2 := by omega
      have e3 : 48 + Y % 10 = t3 := by omega
      rw [e0, e1, e2, e3]
    · rw [if_neg c, if_neg c, if_neg (by omega)]
  rw [mkA_eq, m0, m1, m2, m3, m4]
  unfold sT sB sD sC sY
  by_cases c2 : hasD tx (p2T tx p) = true
  · rw [if_pos c2, if_pos c2]
    by_cases c3 : tx (p3T tx p) = 46
    · rw [if_pos c3, if_pos c3]
      by_cases c4 : hasY tx n (p4T tx p) = true
      · rw [if_pos c4, if_pos c4]; simp [List.append_assoc]
      · rw [if_neg c4, if_neg c4]; simp [List.append_assoc]
    · rw [if_neg c3, if_neg c3]
      by_cases c4 : hasY tx n (p4T tx p) = true
      · rw [if_pos c4, if_pos c4]; simp [List.append_assoc]
      · rw [if_neg c4, if_neg c4]; simp [List.append_assoc]
  · rw [if_neg c2, if_neg c2]
    by_cases c3 : tx (p3T tx p) = 46
    · rw [if_pos c3, if_pos c3]
      by_cases c4 : hasY tx n (p4T tx p) = true
      · rw [if_pos c4, if_pos c4]; simp [List.append_assoc]
      · rw [if_neg c4, if_neg c4]; simp [List.append_assoc]
    · rw [if_neg c3, if_neg c3]
      by_cases c4 : hasY tx n (p4T tx p) = true
      · rw [if_pos c4, if_pos c4]; simp [List.append_assoc]
      · rw [if_neg c4, if_neg c4]; simp [List.append_assoc]
theorem ltrNew {b : Nat} (hc : ClsAt C tx n b p) (e : mkA C b = sT tx n p) : Ltr C b := by
  refine ⟨by rw [e]; exact hc.2.1, fun i v h => ?_⟩
  rw [e] at h
  have hi : i < (sT tx n p).length := by
    rcases Nat.lt_or_ge i (sT tx n p).length with q | q
    · exact q
    · rw [List.getElem?_eq_none q] at h; cases h
  rw [hc.2.2 i hi, List.getD_eq_getElem?_getD, h]
  rfl
end REL
