/-! READING A TEXT: the class, a clause, the whole text (2) -/
section TXT
variable {z q n m p : Nat} {g : Mem} {C : Nat → Nat → Int} {v : Nat → Int} {sg : List Int} {tx : Nat → Int} {kd0 pl vl bf : Int}
theorem sA_len : (sA tx p).length ≤ 2 := by unfold sA; split <;> simp
theorem sB_len : (sB tx p sg).length ≤ sg.length + 4 := by
  have := fgN_le (tx := tx) (p := p)
  unfold sB; rw [List.length_append, fgL_len]; omega
theorem sD_len : (sD tx p sg).length ≤ sg.length + 5 := by
  have := fgN_le (tx := tx) (p := p + 1)
  unfold sD
  split
  · rw [List.length_append, fgL_len]; simp; omega
  · omega
theorem sC_len : (sC tx p sg).length ≤ sg.length + 6 := by
  have := fgN_le (tx := tx) (p := p + 2)
  unfold sC
  split
  · rw [List.length_append, fgL_len]; simp; omega
  · omega
theorem sY_len : (sY tx n p sg).length ≤ sg.length + 6 := by
  unfold sY
  split
  · rw [List.length_append, fgL_len]; simp
  · omega
theorem VOk.stA (h : isLt (tx p) = true) : VOk (vA tx p) := by
  have h1 := isLt_t h
  unfold vA
  by_cases c : isLt (tx (p + 1)) = true
  · have h2 := isLt_t c
    rw [if_pos c]
    unfold VOk vup vz
    simp
    omega
  · rw [if_neg c]
    unfold VOk vup vz
    simp
    omega
theorem VOk.stB (hv : VOk v) : VOk (vB tx p v) := by
  have f4 := fgN_le (tx := tx) (p := p)
  have w : 0 ≤ wholeD (dgs tx p) (fgN tx p) ∧ wholeD (dgs tx p) (fgN tx p) ≤ 9999 := wh_r f4 (fun j hj => dgs_r (tx := tx) (p := p) hj)
  have f : 0 ≤ filD (dgs tx p) (fgN tx p) ∧ filD (dgs tx p) (fgN tx p) ≤ 50000 := fil_r f4 (fun j hj => dgs_r (tx := tx) (p := p) hj)
  unfold VOk at hv ⊢
  unfold vB vup
  simp
  omega
theorem VOk.stD (hv : VOk v) : VOk (vD tx p v) := by
  have f4 := fgN_le (tx := tx) (p := p + 1)
  have w : 0 ≤ wholeD (dgs tx (p + 1)) (fgN tx (p + 1)) ∧ wholeD (dgs tx (p + 1)) (fgN tx (p + 1)) ≤ 9999 := wh_r f4 (fun j hj => dgs_r (tx := tx) (p := p + 1) hj)
  have f : 0 ≤ filD (dgs tx (p + 1)) (fgN tx (p + 1)) ∧ filD (dgs tx (p + 1)) (fgN tx (p + 1)) ≤ 50000 := fil_r f4 (fun j hj => dgs_r (tx := tx) (p := p + 1) hj)
  unfold vD
  split
  · unfold VOk at hv ⊢
    unfold vup
    simp
    omega
  · exact hv
theorem clC_lt (h : (clC tx p).1 = 0) (c : tx p = 46) : isLt (tx (p + 1)) = true := by
  unfold clC at h
  rw [if_pos c] at h
  cases e : isLt (tx (p + 1)) with
  | true => rfl
  | false => rw [if_pos e] at h; simp at h
theorem VOk.stC (hv : VOk v) (h : (clC tx p).1 = 0) : VOk (vC tx p v) := by
  have f4 := fgN_le (tx := tx) (p := p + 2)
  have w : 0 ≤ wholeD (dgs tx (p + 2)) (fgN tx (p + 2)) ∧ wholeD (dgs tx (p + 2)) (fgN tx (p + 2)) ≤ 9999 := wh_r f4 (fun j hj => dgs_r (tx := tx) (p := p + 2) hj)
  have f : 0 ≤ filD (dgs tx (p + 2)) (fgN tx (p + 2)) ∧ filD (dgs tx (p + 2)) (fgN tx (p + 2)) ≤ 50000 := fil_r f4 (fun j hj => dgs_r (tx := tx) (p := p + 2) hj)
  unfold vC
  by_cases c : tx p = 46
  · have h1 := isLt_t (clC_lt h c)
    rw [if_pos c]
    unfold VOk at hv ⊢
    unfold vup
    simp
    omega
  · rw [if_neg c]; exact hv
theorem clY_y (h : (clY tx n p).1 = 0) (c : hasY tx n p = true) : fgN tx (skp tx n p + 1) = 4 ∧ 1000 ≤ yrT tx n p ∧ yrT tx n p ≤ 2999 := by
  have f4 := fgN_le (tx := tx) (p := skp tx n p + 1)
  unfold clY at h
  rw [if_pos c] at h
  by_cases c1 : fgN tx (skp tx n p + 1) < 4
  · rw [if_pos c1] at h; simp at h
  · rw [if_neg c1] at h
    by_cases c2 : 1000 ≤ yrT tx n p ∧ yrT tx n p ≤ 2999
    · exact ⟨by omega, c2⟩
    · rw [if_neg c2] at h; simp at h
theorem clW_w (h : (clW tx n p).1 = 0) (c : hasW tx n p = true) : 49 ≤ tx (q5 tx n p + 1) ∧ tx (q5 tx n p + 1) ≤ 57 := by
  unfold clW at h
  rw [if_pos c] at h
  by_cases c2 : 49 ≤ tx (q5 tx n p + 1) ∧ tx (q5 tx n p + 1) ≤ 57
  · exact c2
  · rw [if_neg c2] at h; simp at h
theorem VOk.stY (hv : VOk v) (h : (clY tx n p).1 = 0) : VOk (vY tx n p v) := by
  unfold vY
  by_cases c : hasY tx n p = true
  · rw [if_pos c]; exact hv.y (clY_y h c).2
  · rw [if_neg c]; exact hv
theorem VOk.stW (hv : VOk v) (h : (clW tx n p).1 = 0) : VOk (vW tx n p v) := by
  unfold vW
  by_cases c : hasW tx n p = true
  · have := clW_w h c
    rw [if_pos c]
    unfold VOk at hv ⊢
    unfold vup
    simp
    omega
  · rw [if_neg c]; exact hv
theorem vB_ne {j : Nat} (h : j ≠ 3 ∧ j ≠ 4) : vB tx p v j = v j := by unfold vB vup; simp [h.1, h.2]
theorem vD_ne {j : Nat} (h : j ≠ 5 ∧ j ≠ 6) : vD tx p v j = v j := by unfold vD vup; split <;> simp [h.1, h.2]
theorem vC_ne {j : Nat} (h : j ≠ 7 ∧ j ≠ 8 ∧ j ≠ 9) : vC tx p v j = v j := by unfold vC vup; split <;> simp [h.1, h.2.1, h.2.2]
theorem vY_ne {j : Nat} (h : j ≠ 10) : vY tx n p v j = v j := by unfold vY vup; split <;> simp [h]
theorem vW_ne {j : Nat} (h : j ≠ 11) : vW tx n p v j = v j := by unfold vW vup; split <;> simp [h]
theorem vA_f : vA tx p 1 = tx p - 96 ∧ vA tx p 2 = (if isLt (tx (p + 1)) then tx (p + 1) - 96 else 0) ∧ ∀ j, 3 ≤ j → vA tx p j = vz j := by
  unfold vA
  by_cases c : isLt (tx (p + 1)) = true
  · rw [if_pos c, if_pos c]
    exact ⟨by simp [vup], by simp [vup], fun j hj => by unfold vup; rw [if_neg (by omega), if_neg (by omega)]⟩
  · rw [if_neg c, if_neg c]
    exact ⟨by simp [vup], by simp [vup, vz], fun j hj => by unfold vup; rw [if_neg (by omega)]⟩
theorem vT_f : vT tx n p 1 = tx p - 96 ∧ vT tx n p 2 = (if isLt (tx (p + 1)) then tx (p + 1) - 96 else 0) ∧ vT tx n p 3 = wholeD (dgs tx (p1T tx p)) (fgN tx (p1T tx p)) ∧ vT tx n p 4 = filD (dgs tx (p1T tx p)) (fgN tx (p1T tx p)) ∧
    vT tx n p 5 = (if hasD tx (p2T tx p) then wholeD (dgs tx (p2T tx p + 1)) (fgN tx (p2T tx p + 1)) else 0) ∧ vT tx n p 6 = (if hasD tx (p2T tx p) then filD (dgs tx (p2T tx p + 1)) (fgN tx (p2T tx p + 1)) else 0) ∧
    vT tx n p 7 = (if tx (p3T tx p) = 46 then tx (p3T tx p + 1) - 96 else 0) ∧ vT tx n p 8 = (if tx (p3T tx p) = 46 then wholeD (dgs tx (p3T tx p + 2)) (fgN tx (p3T tx p + 2)) else 0) ∧ vT tx n p 9 = (if tx (p3T tx p) = 46 then filD (dgs tx (p3T tx p + 2)) (fgN tx (p3T tx p + 2)) else 0) ∧
    vT tx n p 10 = (if hasY tx n (p4T tx p) then yrT tx n (p4T tx p) else -1) ∧ vT tx n p 11 = (if hasW tx n (p4T tx p) then tx (q5 tx n (p4T tx p) + 1) - 48 else 2) := by
  obtain ⟨a1, a2, a3⟩ := vA_f (tx := tx) (p := p)
  unfold vT
  refine ⟨?_, ?_, ?_, ?_, ?_, ?_, ?_, ?_, ?_, ?_, ?_⟩
  · rw [vW_ne (by omega), vY_ne (by omega), vC_ne (by omega), vD_ne (by omega), vB_ne (by omega)]; exact a1
  · rw [vW_ne (by omega), vY_ne (by omega), vC_ne (by omega), vD_ne (by omega), vB_ne (by omega)]; exact a2
  · rw [vW_ne (by omega), vY_ne (by omega), vC_ne (by omega), vD_ne (by omega)]; simp [vB, vup]
  · rw [vW_ne (by omega), vY_ne (by omega), vC_ne (by omega), vD_ne (by omega)]; simp [vB, vup]
  · rw [vW_ne (by omega), vY_ne (by omega), vC_ne (by omega)]
    unfold vD
    split
    · simp [vup]
    · rw [vB_ne (by omega), a3 _ (by omega)]; rfl
  · rw [vW_ne (by omega), vY_ne (by omega), vC_ne (by omega)]
    unfold vD
    split
    · simp [vup]
    · rw [vB_ne (by omega), a3 _ (by omega)]; rfl
  · rw [vW_ne (by omega), vY_ne (by omega)]
    unfold vC
    split
    · simp [vup]
    · rw [vD_ne (by omega), vB_ne (by omega), a3 _ (by omega)]; rfl
  · rw [vW_ne (by omega), vY_ne (by omega)]
    unfold vC
    split
    · simp [vup]
    · rw [vD_ne (by omega), vB_ne (by omega), a3 _ (by omega)]; rfl
  · rw [vW_ne (by omega), vY_ne (by omega)]
    unfold vC
    split
    · simp [vup]
    · rw [vD_ne (by omega), vB_ne (by omega), a3 _ (by omega)]; rfl
  · rw [vW_ne (by omega)]
    unfold vY
    split
    · simp [vup]
    · rw [vC_ne (by omega), vD_ne (by omega), vB_ne (by omega), a3 _ (by omega)]; rfl
  · unfold vW
    split
    · simp [vup]
    · rw [vY_ne (by omega), vC_ne (by omega), vD_ne (by omega), vB_ne (by omega), a3 _ (by omega)]; rfl
theorem keyC_d {i : Nat} (hi : i < 5) : keyC (dC C m (vT tx n p) sg) (8 + 3 * m) i 0 = knT tx n p i := by
  obtain ⟨f1, f2, f3, f4, f5, f6, f7, f8, f9, f10, f11⟩ := vT_f (tx := tx) (n := n) (p := p)
  unfold keyC knT
  rw [dC_f (by omega) (by omega), dC_f (by omega) (by omega), dC_f (by omega) (by omega), dC_f (by omega) (by omega), dC_f (by omega) (by omega), dC_f (by omega) (by omega), dC_f (by omega) (by omega), dC_f (by omega) (by omega), dC_f (by omega) (by omega), dC_f (by omega) (by omega)]
  rw [f1, f2, f3, f6, f7, f9, f10]
  rcases (show i = 0 ∨ i = 1 ∨ i = 2 ∨ i = 3 ∨ i = 4 by omega) with rfl | rfl | rfl | rfl | rfl
  · simp
  · simp
  · simp
  · simp only [if_neg (show ¬ (3 = 0) by omega), if_neg (show ¬ (3 = 1) by omega), if_neg (show ¬ (3 = 2) by omega), if_true, if_neg (show ¬ ((0 : Int) = 2) by omega)]
    split
    · rfl
    · rfl
  · simp
theorem keyC_o {b i : Nat} (hb : b < m) : keyC (dC C m v sg) (8 + 3 * b) i 0 = keyC C (8 + 3 * b) i 0 := by
  unfold keyC
  rw [dC_ne (by omega)]
theorem s_clause {d : Nat} (hq : z + 125 ≤ q) (h : TxC C n tx) (hB : BooksOk C) (hm3 : C 3 3 = m) (h24 : m ≤ 24) (hp : p < n) {κ : Nat → Nat → Int} (hκ : ∀ b, b < m → ∀ i, i < 5 → keyC C (8 + 3 * b) i 0 = κ b i) :
    ((clF tx n (decide (m = 24)) p).1 ≠ 0 → FlC z q g C m (clF tx n (decide (m = 24)) p).1 (clF tx n (decide (m = 24)) p).2 (fun K => PX5_readClause q (lay z (prM g z q d (p : Nat) kd0 pl vl bf) C) K)) ∧
    ((clF tx n (decide (m = 24)) p).1 = 0 → (m < 24 ∧ enT tx n p < n ∧ p < enT tx n p ∧ VOk (vT tx n p)) ∧
      (tld κ m (knT tx n p) = true → FlC z q g C m 5 (enT tx n p) (fun K => PX5_readClause q (lay z (prM g z q d (p : Nat) kd0 pl vl bf) C) K)) ∧
      (¬ tld κ m (knT tx n p) = true → ∃ x y : Int, ∀ K, PX5_readClause q (lay z (prM g z q d (p : Nat) kd0 pl vl bf) C) K = K (J 1) (lay z (prM g z q (8 + 3 * m) (enT tx n p + 1 : Nat) kd0 pl x y) (up (dC C m (vT tx n p) (sT tx n p)) 3 3 ((m + 1 : Nat) : Int))))) := by
  obtain ⟨a1, a2⟩ := s_readClass (g := g) (d := d) (kd0 := kd0) (pl := pl) (vl := vl) (bf := bf) hq h hm3 h24 (show p ≤ n by omega)
  by_cases cA : (clA tx (decide (m = 24)) p).1 = 0
  · obtain ⟨⟨hm, hlt⟩, aK⟩ := a2 cA
    have eA : ∀ x, (if (clA tx (decide (m = 24)) p).1 ≠ 0 then clA tx (decide (m = 24)) p else x) = x := fun x => if_neg (by omega)
    have l1 : p1T tx p ≤ n := by
      unfold p1T q1
      split
      · rename_i c
        have := (h.b (p + 1)).2.2 (by have := isLt_t c; omega)
        omega
      · omega
    have g1 : p < p1T tx p := by unfold p1T q1; split <;> omega
    have X1 : ∀ K, PX5_readClause q (lay z (prM g z q d (p : Nat) kd0 pl vl bf) C) K = tl1 q K (lay z (prM g z q (8 + 3 * m) (p1T tx p : Nat) kd0 pl vl bf) (dC C m (vA tx p) (sA tx p))) := fun K => by
      rw [clause_tl, p_T hq, aK]
      simp (disch := omega) only [J_add, J_sub, J_mul, J_lt, J_le, J_eq, xbr_true, xbr_false, xbr_pos, xbr_neg, Int.toNat_natCast, all_eq, ex_eq]
      rfl
    have vA' := VOk.stA hlt
    have lA := sA_len (tx := tx) (p := p)
    obtain ⟨b1, b2⟩ := s_readNumber (g := g) (v := vA tx p) (sg := sA tx p) (kd0 := kd0) (pl := pl) (vl := vl) (bf := bf) hq h hm l1 (by omega) vA'
    by_cases cB : (clB tx (p1T tx p)).1 = 0
    · obtain ⟨x1, y1, bK⟩ := b2 cB
      have eB : ∀ x, (if (clB tx (p1T tx p)).1 ≠ 0 then clB tx (p1T tx p) else x) = x := fun x => if_neg (by omega)
      have l2 : p2T tx p ≤ n := fgN_n h l1
      have g2 : p1T tx p ≤ p2T tx p := Nat.le_add_right _ _
      have X2 : ∀ K, PX5_readClause q (lay z (prM g z q d (p : Nat) kd0 pl vl bf) C) K = tl2 q K (lay z (prM g z q (8 + 3 * m) (p2T tx p : Nat) kd0 pl x1 y1) (dC C m (vB tx (p1T tx p) (vA tx p)) (sB tx (p1T tx p) (sA tx p)))) := fun K => by
        rw [X1]
        unfold tl1
        rw [bK]
        simp (disch := omega) only [J_add, J_sub, J_mul, J_lt, J_le, J_eq, xbr_true, xbr_false, xbr_pos, xbr_neg, Int.toNat_natCast, all_eq, ex_eq]
        rfl
      have vB' := vA'.stB (tx := tx) (p := p1T tx p)
      have lB := sB_len (tx := tx) (p := p1T tx p) (sg := sA tx p)
      obtain ⟨d1, d2⟩ := s_readDecimals (g := g) (v := vB tx (p1T tx p) (vA tx p)) (sg := sB tx (p1T tx p) (sA tx p)) (kd0 := kd0) (pl := pl) (vl := x1) (bf := y1) hq h hm l2 (by omega) vB'
      by_cases cD : (clD tx (p2T tx p)).1 = 0
      · obtain ⟨x2, y2, dK⟩ := d2 cD
        have eD : ∀ x, (if (clD tx (p2T tx p)).1 ≠ 0 then clD tx (p2T tx p) else x) = x := fun x => if_neg (by omega)
        have l3 : p3T tx p ≤ n := by
          unfold p3T q3
          by_cases c : hasD tx (p2T tx p) = true
          · rw [if_pos c]
            have c' : tx (p2T tx p) = 46 ∧ isFg (tx (p2T tx p + 1)) = true := by unfold hasD at c; simpa using c
            have := (h.b (p2T tx p)).2.2 (by omega)
            exact fgN_n h (by omega)
          · rw [if_neg c]; exact l2
        have g3 : p2T tx p ≤ p3T tx p := by unfold p3T q3; split <;> omega
        have X3 : ∀ K, PX5_readClause q (lay z (prM g z q d (p : Nat) kd0 pl vl bf) C) K = tl3 q K (lay z (prM g z q (8 + 3 * m) (p3T tx p : Nat) kd0 pl x2 y2) (dC C m (vD tx (p2T tx p) (vB tx (p1T tx p) (vA tx p))) (sD tx (p2T tx p) (sB tx (p1T tx p) (sA tx p))))) := fun K => by
          rw [X2]
          unfold tl2
          rw [dK]
          simp (disch := omega) only [J_add, J_sub, J_mul, J_lt, J_le, J_eq, xbr_true, xbr_false, xbr_pos, xbr_neg, Int.toNat_natCast, all_eq, ex_eq]
          rfl
        have vD' := vB'.stD (tx := tx) (p := p2T tx p)
        have lD := sD_len (tx := tx) (p := p2T tx p) (sg := sB tx (p1T tx p) (sA tx p))
        obtain ⟨c1, c2⟩ := s_readCutter (g := g) (v := vD tx (p2T tx p) (vB tx (p1T tx p) (vA tx p))) (sg := sD tx (p2T tx p) (sB tx (p1T tx p) (sA tx p))) (kd0 := kd0) (pl := pl) (vl := x2) (bf := y2) hq h hm l3 (by omega) vD'
        by_cases cC : (clC tx (p3T tx p)).1 = 0
        · obtain ⟨x3, y3, cK⟩ := c2 cC
          have eC : ∀ x, (if (clC tx (p3T tx p)).1 ≠ 0 then clC tx (p3T tx p) else x) = x := fun x => if_neg (by omega)
          have l4 : p4T tx p ≤ n := by
            unfold p4T q4
            by_cases c : tx (p3T tx p) = 46
            · rw [if_pos c]
              have := (h.b (p3T tx p + 1)).2.2 (by have := isLt_t (clC_lt cC c); omega)
              exact fgN_n h (by omega)
            · rw [if_neg c]; exact l3
          have g4 : p3T tx p ≤ p4T tx p := by unfold p4T q4; split <;> omega
          have X4 : ∀ K, PX5_readClause q (lay z (prM g z q d (p : Nat) kd0 pl vl bf) C) K = tl4 q K (lay z (prM g z q (8 + 3 * m) (p4T tx p : Nat) kd0 pl x3 y3) (dC C m (vC tx (p3T tx p) (vD tx (p2T tx p) (vB tx (p1T tx p) (vA tx p)))) (sC tx (p3T tx p) (sD tx (p2T tx p) (sB tx (p1T tx p) (sA tx p)))))) := fun K => by
            rw [X3]
            unfold tl3
            rw [cK]
            simp (disch := omega) only [J_add, J_sub, J_mul, J_lt, J_le, J_eq, xbr_true, xbr_false, xbr_pos, xbr_neg, Int.toNat_natCast, all_eq, ex_eq]
            rfl
          have vC' := vD'.stC (tx := tx) (p := p3T tx p) cC
          have lC := sC_len (tx := tx) (p := p3T tx p) (sg := sD tx (p2T tx p) (sB tx (p1T tx p) (sA tx p)))
          obtain ⟨h1, h2, h3⟩ := s_behind (g := g) (v := vC tx (p3T tx p) (vD tx (p2T tx p) (vB tx (p1T tx p) (vA tx p)))) (sg := sC tx (p3T tx p) (sD tx (p2T tx p) (sB tx (p1T tx p) (sA tx p)))) (kd0 := kd0) (pl := pl) (vl := x3) (bf := y3) hq h hm l4 (by omega) vC'
          by_cases cY : (clY tx n (p4T tx p)).1 = 0
          · have eY : ∀ x, (if (clY tx n (p4T tx p)).1 ≠ 0 then clY tx n (p4T tx p) else x) = x := fun x => if_neg (by omega)
            by_cases cW : (clW tx n (p4T tx p)).1 = 0
            · have eW : ∀ x, (if (clW tx n (p4T tx p)).1 ≠ 0 then clW tx n (p4T tx p) else x) = x := fun x => if_neg (by omega)
              obtain ⟨l6, x4, y4, hK⟩ := h3 cY cW
              have X5 : ∀ K, PX5_readClause q (lay z (prM g z q d (p : Nat) kd0 pl vl bf) C) K = tl5 q K (lay z (prM g z q (8 + 3 * m) (enT tx n p : Nat) kd0 pl x4 y4) (dC C m (vT tx n p) (sT tx n p))) := fun K => by
                rw [X4]
                unfold tl4
                rw [hK]
                simp (disch := omega) only [J_add, J_sub, J_mul, J_lt, J_le, J_eq, xbr_true, xbr_false, xbr_pos, xbr_neg, Int.toNat_natCast, all_eq, ex_eq]
                rfl
              have vT' : VOk (vT tx n p) := (vC'.stY cY).stW cW
              have g6 : p < enT tx n p := by
                have s1 := skp_ge (tx := tx) (n := n) (p := p4T tx p)
                have s2 := skp_ge (tx := tx) (n := n) (p := skp tx n (p4T tx p) + 5)
                have s3 := skp_ge (tx := tx) (n := n) (p := q5 tx n (p4T tx p) + 2)
                have s5 : p4T tx p ≤ q5 tx n (p4T tx p) := by unfold q5; split <;> omega
                have s6 : q5 tx n (p4T tx p) ≤ enT tx n p := by unfold enT q6; split <;> omega
                omega
              have eF : clF tx n (decide (m = 24)) p = clE tx (enT tx n p) := by
                unfold clF
                rw [eA, eB, eD, eC, eY, eW]
              rw [eF]
              obtain ⟨e1, e2, e3⟩ := s_readEnd (g := g) (p := enT tx n p) (v := vT tx n p) (sg := sT tx n p) (kd0 := kd0) (pl := pl) (vl := x4) (bf := y4) hq h hm l6 hm3 hB vT'
              have et : tld (fun b i => keyC (dC C m (vT tx n p) (sT tx n p)) (8 + 3 * b) i 0) m (fun i => keyC (dC C m (vT tx n p) (sT tx n p)) (8 + 3 * m) i 0) = tld κ m (knT tx n p) := tld_congr (fun b hb i hi => by
                show keyC (dC C m (vT tx n p) (sT tx n p)) (8 + 3 * b) i 0 = κ b i
                rw [keyC_o hb]; exact hκ b hb i hi) (fun i hi => keyC_d hi)
              rw [et] at e2 e3
              refine ⟨fun q1 => FlC.bind (fun K M17 => isB (J 1) ∧ K (J 1) M17) (e1 q1) (fun K => X5 K), fun cE => ?_⟩
              have lE : enT tx n p < n := (h.b _).2.2 (by
                unfold clE at cE
                by_cases c : tx (enT tx n p) = 59
                · omega
                · rw [if_neg c] at cE; simp at cE)
              refine ⟨⟨hm, lE, g6, vT'⟩, fun q1 => FlC.bind (fun K M17 => isB (J 1) ∧ K (J 1) M17) (e2 cE q1) (fun K => X5 K), fun q1 => ⟨x4, y4, fun K => ?_⟩⟩
              obtain ⟨-, eK⟩ := e3 cE q1
              rw [X5]
              unfold tl5
              rw [eK]
              simp (disch := omega) only [J_add, J_sub, J_mul, J_lt, J_le, J_eq, xbr_true, xbr_false, xbr_pos, xbr_neg, Int.toNat_natCast, all_eq, ex_eq, isB1, true_and]
            · have eF : clF tx n (decide (m = 24)) p = clW tx n (p4T tx p) := by
                unfold clF
                rw [eA, eB, eD, eC, eY, if_pos cW]
              rw [eF]
              exact ⟨fun _ => FlC.bind (fun K M14 => tl5 q K M14) (h2 cY cW) (fun K => X4 K), fun q1 => absurd q1 cW⟩
          · have eF : clF tx n (decide (m = 24)) p = clY tx n (p4T tx p) := by
              unfold clF
              rw [eA, eB, eD, eC, if_pos cY]
            rw [eF]
            exact ⟨fun _ => FlC.bind (fun K M14 => tl5 q K M14) (h1 cY) (fun K => X4 K), fun q1 => absurd q1 cY⟩
        · have eF : clF tx n (decide (m = 24)) p = clC tx (p3T tx p) := by
            unfold clF
            rw [eA, eB, eD, if_pos cC]
          rw [eF]
          exact ⟨fun _ => FlC.bind (fun K M11 => tl4 q K M11) (c1 cC) (fun K => X3 K), fun q1 => absurd q1 cC⟩
      · have eF : clF tx n (decide (m = 24)) p = clD tx (p2T tx p) := by
          unfold clF
          rw [eA, eB, if_pos cD]
        rw [eF]
        exact ⟨fun _ => FlC.bind (fun K M8 => tl3 q K M8) (d1 cD) (fun K => X2 K), fun q1 => absurd q1 cD⟩
    · have eF : clF tx n (decide (m = 24)) p = clB tx (p1T tx p) := by
        unfold clF
        rw [eA, if_pos cB]
      rw [eF]
      exact ⟨fun _ => FlC.bind (fun K M5 => tl2 q K M5) (b1 cB) (fun K => X1 K), fun q1 => absurd q1 cB⟩
  · have eF : clF tx n (decide (m = 24)) p = clA tx (decide (m = 24)) p := by
      unfold clF
      rw [if_pos cA]
    rw [eF]
    exact ⟨fun _ => FlC.bind (fun K M2 => tl1 q K M2) (a1 cA) (fun K => by rw [clause_tl, p_T hq]), fun q1 => absurd q1 cA⟩
/-- the class's book b is the one that the text tells at p -/
def ClsAt (C : Nat → Nat → Int) (tx : Nat → Int) (n b p : Nat) : Prop := (∀ j, 1 ≤ j → j < 12 → C (8 + 3 * b) j = vT tx n p j) ∧ C (9 + 3 * b) 1 = (sT tx n p).length ∧ ∀ i, i < (sT tx n p).length → C (10 + 3 * b) i = (sT tx n p).getD i 0
theorem ClsAt.fr {C' : Nat → Nat → Int} {b : Nat} (h : ClsAt C tx n b p) (e : ∀ j, j < 3 → C' (8 + 3 * b + j) = C (8 + 3 * b + j)) : ClsAt C' tx n b p := by
  obtain ⟨h1, h2, h3⟩ := h
  have e0 := e 0 (by omega)
  have e1 := e 1 (by omega)
  have e2 := e 2 (by omega)
  rw [Nat.add_zero] at e0
  rw [show 8 + 3 * b + 1 = 9 + 3 * b by omega] at e1
  rw [show 8 + 3 * b + 2 = 10 + 3 * b by omega] at e2
  exact ⟨fun j j1 j2 => by rw [e0]; exact h1 j j1 j2, by rw [e1]; exact h2, fun i hi => by rw [e2]; exact h3 i hi⟩
theorem ClsAt.new : ClsAt (dC C m (vT tx n p) (sT tx n p)) tx n m p := by
  refine ⟨fun j j1 j2 => dC_f j1 j2, dC_l, fun i hi => ?_⟩
  unfold dC
  rw [if_neg (by omega), if_neg (by omega), if_pos ⟨rfl, hi⟩]
theorem s_parse7 (hq : z + 125 ≤ q) : ∀ (k p m : Nat) (C : Nat → Nat → Int) (d x : Nat) (vl bf : Int) (κ : Nat → Nat → Int) (ps : Nat → Nat), TxC C n tx → BooksOk C → C 3 3 = m → m ≤ 24 → p ≤ n → n ≤ p + k → x ≤ p → (∀ b, b < m → ∀ i, i < 5 → keyC C (8 + 3 * b) i 0 = κ b i) →
    ∃ (C' : Nat → Nat → Int) (d' : Nat) (a' x' y' : Int), (∀ o, o ≠ 3 → o < 8 + 3 * m ∨ 79 < o → C' o = C o) ∧ C' 3 2 = C 3 2 ∧ BooksOk C' ∧ m ≤ (rnT tx n k p m κ ps).2.2.1 ∧ (rnT tx n k p m κ ps).2.2.1 ≤ 24 ∧ (∀ b, b < m → (rnT tx n k p m κ ps).2.2.2 b = ps b) ∧
      ((rnT tx n k p m κ ps).1 = 0 → C' 3 3 = (rnT tx n k p m κ ps).2.2.1 ∧ ∀ b, m ≤ b → b < (rnT tx n k p m κ ps).2.2.1 → ClsAt C' tx n b ((rnT tx n k p m κ ps).2.2.2 b)) ∧
      ∀ K, lp (BX5_parse_7 K q) (lay z (prM g z q d (p : Nat) 0 (-1) vl bf) C, J (x : Nat)) = K (J ((rnT tx n k p m κ ps).1 : Nat)) (lay z (prM g z q d' a' ((rnT tx n k p m κ ps).1 : Nat) (if (rnT tx n k p m κ ps).1 = 0 then -1 else ((rnT tx n k p m κ ps).2.1 : Int)) x' y') C') := by
  intro k
  induction k with
  | zero =>
    intro p m C d x vl bf κ ps h hB hm3 h24 hp hk hx hκ
    have hn := h.2.1
    have e : rnT tx n 0 p m κ ps = (0, 0, m, ps) := rfl
    rw [e]
    refine ⟨C, d, (p : Nat), vl, bf, fun _ _ _ => rfl, rfl, hB, Nat.le_refl _, h24, fun _ _ => rfl, fun _ => ⟨hm3, fun b h1 h2 => by have h2' : b < m := h2; omega⟩, fun K => ?_⟩
    refine lp_last fun kc => ?_
    show BX5_parse_7 K q kc _ = K (J ((0 : Nat) : Int)) (lay z (prM g z q d (p : Nat) ((0 : Nat) : Int) (if 0 = 0 then -1 else ((0 : Nat) : Int)) vl bf) C)
    rw [if_pos rfl]
    unfold BX5_parse_7 CX5_parse_7
    by_cases c : 600 ≤ x
    · simp (disch := omega) only [J_add, J_sub, J_mul, J_lt, J_le, J_eq, xbr_true, xbr_false, xbr_pos, xbr_neg, Int.toNat_natCast, all_eq, ex_eq]
      rfl
    · simp (disch := omega) only [J_add, J_sub, J_mul, J_lt, J_le, J_eq, xbr_true, xbr_false, xbr_pos, xbr_neg, Int.toNat_natCast, all_eq, ex_eq, p_i3 hq, p_r0 hq, s_bsize text_B, h.1]
      rfl
  | succ k ih =>
    intro p m C d x vl bf κ ps h hB hm3 h24 hp hk hx hκ
    have hn := h.2.1
    by_cases c0 : n ≤ p
    · have e : rnT tx n (k + 1) p m κ ps = (0, 0, m, ps) := if_pos c0
      rw [e]
      refine ⟨C, d, (p : Nat), vl, bf, fun _ _ _ => rfl, rfl, hB, Nat.le_refl _, h24, fun _ _ => rfl, fun _ => ⟨hm3, fun b h1 h2 => by have h2' : b < m := h2; omega⟩, fun K => ?_⟩
      refine lp_last fun kc => ?_
      show BX5_parse_7 K q kc _ = K (J ((0 : Nat) : Int)) (lay z (prM g z q d (p : Nat) ((0 : Nat) : Int) (if 0 = 0 then -1 else ((0 : Nat) : Int)) vl bf) C)
      rw [if_pos rfl]
      unfold BX5_parse_7 CX5_parse_7
      by_cases c : 600 ≤ x
      · simp (disch := omega) only [J_add, J_sub, J_mul, J_lt, J_le, J_eq, xbr_true, xbr_false, xbr_pos, xbr_neg, Int.toNat_natCast, all_eq, ex_eq]
        rfl
      · simp (disch := omega) only [J_add, J_sub, J_mul, J_lt, J_le, J_eq, xbr_true, xbr_false, xbr_pos, xbr_neg, Int.toNat_natCast, all_eq, ex_eq, p_i3 hq, p_r0 hq, s_bsize text_B, h.1]
        rfl
    · obtain ⟨a1, a2⟩ := s_clause (g := g) (d := d) (kd0 := 0) (pl := -1) (vl := vl) (bf := bf) hq h hB hm3 h24 (show p < n by omega) hκ
      have fail : ∀ f l : Nat, f ≠ 0 → FlC z q g C m f l (fun K => PX5_readClause q (lay z (prM g z q d (p : Nat) 0 (-1) vl bf) C) K) → ∃ (C' : Nat → Nat → Int) (d' : Nat) (a' x' y' : Int), (∀ o, o ≠ 3 → o < 8 + 3 * m ∨ 79 < o → C' o = C o) ∧ C' 3 2 = C 3 2 ∧ BooksOk C' ∧ m ≤ m ∧ m ≤ 24 ∧ (∀ b, b < m → ps b = ps b) ∧ (f = 0 → C' 3 3 = m ∧ ∀ b, m ≤ b → b < m → ClsAt C' tx n b (ps b)) ∧ ∀ K, lp (BX5_parse_7 K q) (lay z (prM g z q d (p : Nat) 0 (-1) vl bf) C, J (x : Nat)) = K (J (f : Nat)) (lay z (prM g z q d' a' (f : Nat) (if f = 0 then -1 else (l : Int)) x' y') C') := by
        intro f l hf hF
        obtain ⟨C', d', a', x', y', f1, f2, f3⟩ := hF
        refine ⟨C', d', a', x', y', fun o h1 h2 => f1 o h2, by rw [f1 3 (by omega)], f2 hB, Nat.le_refl _, h24, fun _ _ => rfl, fun q => absurd q hf, fun K => ?_⟩
        refine lp_last fun kc => ?_
        rw [if_neg hf]
        unfold BX5_parse_7 CX5_parse_7
        simp (disch := omega) only [J_add, J_sub, J_mul, J_lt, J_le, J_eq, xbr_true, xbr_false, xbr_pos, xbr_neg, Int.toNat_natCast, all_eq, ex_eq, p_i3 hq, p_r0 hq, s_bsize text_B, h.1, f3, p_i4 hq]
      by_cases c1 : (clF tx n (decide (m = 24)) p).1 = 0
      · obtain ⟨⟨hm, lE, gE, vOk⟩, b1, b2⟩ := a2 c1
        by_cases c2 : tld κ m (knT tx n p) = true
        · have e : rnT tx n (k + 1) p m κ ps = (5, enT tx n p, m, ps) := by
            show (if n ≤ p then _ else if (clF tx n (decide (m = 24)) p).1 ≠ 0 then _ else if tld κ m (knT tx n p) = true then _ else _) = _
            rw [if_neg c0, if_neg (by omega), if_pos c2]
          rw [e]
          exact fail 5 (enT tx n p) (by omega) (b1 c2)
        · have e : rnT tx n (k + 1) p m κ ps = rnT tx n k (skp tx n (enT tx n p + 1)) (m + 1) (fun b => if b = m then knT tx n p else κ b) (fun b => if b = m then p else ps b) := by
            show (if n ≤ p then _ else if (clF tx n (decide (m = 24)) p).1 ≠ 0 then _ else if tld κ m (knT tx n p) = true then _ else _) = _
            rw [if_neg c0, if_neg (by omega), if_neg c2]
          rw [e]
          obtain ⟨x1, y1, bK⟩ := b2 c2
          have sg1 := skp_ge (tx := tx) (n := n) (p := enT tx n p + 1)
          have sl1 := skp_le (tx := tx) (show enT tx n p + 1 ≤ n by omega)
          obtain ⟨D, hD⟩ : ∃ D, D = up (dC C m (vT tx n p) (sT tx n p)) 3 3 ((m + 1 : Nat) : Int) := ⟨_, rfl⟩
          rw [← hD] at bK
          have dU : ∀ o, o ≠ 3 → D o = dC C m (vT tx n p) (sT tx n p) o := fun o ho => by rw [hD, up_ne ho]
          have hDx : TxC D n tx := (h.d (m := m) (v := vT tx n p) (sg := sT tx n p)).fr (dU _ (by omega)) (dU _ (by omega))
          have hDB : BooksOk D := (hB.d (m := m) (sg := sT tx n p) vOk).fr (fun o _ _ => dU o (by omega))
          have kD : ∀ b i, keyC D (8 + 3 * b) i 0 = keyC (dC C m (vT tx n p) (sT tx n p)) (8 + 3 * b) i 0 := fun b i => by
            unfold keyC; rw [dU _ (by omega)]
          obtain ⟨C', d', a', x', y', r1, r2, r3, r4, r5, r6, r7, r8⟩ := ih (skp tx n (enT tx n p + 1)) (m + 1) D (8 + 3 * m) (x + 1) x1 y1 (fun b => if b = m then knT tx n p else κ b) (fun b => if b = m then p else ps b) hDx hDB (by rw [hD, up_eq]) (by omega) sl1 (by omega) (by omega) (fun b hb i hi => by
            rw [kD]
            show _ = (if b = m then knT tx n p else κ b) i
            by_cases q1 : b = m
            · rw [if_pos q1, q1]; exact keyC_d hi
            · rw [if_neg q1, keyC_o (by omega)]; exact hκ b (by omega) i hi)
          generalize rnT tx n k (skp tx n (enT tx n p + 1)) (m + 1) (fun b => if b = m then knT tx n p else κ b) (fun b => if b = m then p else ps b) = R at *
          refine ⟨C', d', a', x', y', fun o h1 h2 => by rw [r1 o h1 (by omega), dU o h1, dC_ne (by omega)], by rw [r2, hD, up_nk (by omega), dC_ne (by omega)], r3, by omega, r5, fun b hb => by rw [r6 b (by omega), if_neg (by omega)], fun q1 => ⟨(r7 q1).1, fun b h1 h2 => ?_⟩, fun K => ?_⟩
          · by_cases q2 : b = m
            · subst q2
              rw [r6 b (by omega), if_pos rfl]
              refine (ClsAt.new (C := C) (m := b) (tx := tx) (n := n) (p := p)).fr fun j hj => ?_
              rw [r1 _ (by omega) (by omega), dU _ (by omega)]
            · exact (r7 q1).2 b (by omega) h2
          · rw [← r8 K]
            refine lp_step fun kc => ?_
            have ex : (x : Int) + 1 = ((x + 1 : Nat) : Int) := by omega
            unfold BX5_parse_7 CX5_parse_7
            simp (disch := omega) only [J_add, J_sub, J_mul, J_lt, J_le, J_eq, xbr_true, xbr_false, xbr_pos, xbr_neg, Int.toNat_natCast, all_eq, ex_eq, p_i3 hq, p_r0 hq, s_bsize text_B, h.1, bK, s_skip hq hDx (show enT tx n p + 1 ≤ n by omega), ex]
      · have e : rnT tx n (k + 1) p m κ ps = ((clF tx n (decide (m = 24)) p).1, (clF tx n (decide (m = 24)) p).2, m, ps) := by
          show (if n ≤ p then _ else if (clF tx n (decide (m = 24)) p).1 ≠ 0 then _ else _) = _
          rw [if_neg c0, if_pos c1]
        rw [e]
        exact fail _ _ c1 (a1 c1)
end TXT
