/-! READING A TEXT: a book, by the reference -/
section RBO
variable {z n m p : Nat} {g : Mem} {C C' : Nat → Nat → Int} {P : Nat → Int} {k1 k2 k3 w at0 fg fp : Int} {tx : Nat → Int}
theorem clF_eq (full : Bool) : clF tx n full p = if (clA2 tx full p).1 ≠ 0 then clA2 tx full p else if fgF tx (p1T tx p) ≠ 0 then (fgF tx (p1T tx p), p1T tx p + fgN tx (p1T tx p)) else if (clP tx (p2T tx p)).1 ≠ 0 then clP tx (p2T tx p) else if (clY tx n (p4T tx p)).1 ≠ 0 then clY tx n (p4T tx p) else if (clW tx n (p4T tx p)).1 ≠ 0 then clW tx n (p4T tx p) else clE tx (enT tx n p) := by
  unfold clF clA2 clB
  have ep1 : q1 tx p = p1T tx p := rfl
  rw [ep1]
  by_cases cA : (clA tx full p).1 ≠ 0
  · rw [if_pos cA, if_pos cA, if_pos cA]
  · rw [if_neg cA, if_neg cA]
    by_cases c48 : tx (p1T tx p) = 48
    · rw [if_pos c48, if_pos c48, if_pos (show ((1, p1T tx p) : Nat × Nat).1 ≠ 0 by simp), if_pos (show ((1, p1T tx p) : Nat × Nat).1 ≠ 0 by simp)]
    · rw [if_neg c48, if_neg c48, if_neg (show ¬ ((0, 0) : Nat × Nat).1 ≠ 0 by simp)]
      by_cases cB : fgF tx (p1T tx p) ≠ 0
      · rw [if_pos cB, if_pos cB]
        rw [if_pos (show ((fgF tx (p1T tx p), p1T tx p + fgN tx (p1T tx p)) : Nat × Nat).1 ≠ 0 from cB)]
      · rw [if_neg cB, if_neg cB, if_neg (show ¬ ((0, 0) : Nat × Nat).1 ≠ 0 by simp)]
        unfold clP
        have e3 : q3 tx (p2T tx p) = p3T tx p := rfl
        rw [e3]
        by_cases cD : (clD tx (p2T tx p)).1 ≠ 0
        · rw [if_pos cD, if_pos cD, if_pos cD]
        · rw [if_neg cD, if_neg cD]
theorem FlM.bind {f pl : Nat} {X X1 : (Int32 → Mem → Prop) → Prop} (R : (Int32 → Mem → Prop) → Int32 → Mem → Prop) (h : FlM z g C m f pl X1) (e : ∀ K, X K = X1 (R K)) (hR : ∀ K M, R K (J (f : Nat)) M = K (J (f : Nat)) M) : FlM z g C m f pl X := by
  obtain ⟨C1, h1, h2, h3, h4⟩ := h
  exact ⟨C1, h1, h2, h3, fun K => by rw [e, h4, hR]⟩
theorem PA_ok (h : POk P) : POk (PA tx p P) := (h.v (by omega)).v (by omega)
theorem PB_ok (h : POk P) : POk (PB tx p P) := h.d
theorem PD_ok (h : POk P) : POk (PD tx p P) := by
  unfold PD
  split
  · exact (h.v (by omega)).d
  · exact h.v (by omega)
theorem PC_ok (h : POk P) : POk (PC tx p P) := by
  unfold PC
  split
  · exact (h.v (by omega)).d
  · exact h
theorem PY_ok (h : POk P) : POk (PY tx n p P) := by
  unfold PY
  split
  · exact h.v (by omega)
  · exact h.v (by omega)
theorem m_42 {f : Nat} {K : Int32 → Mem → Prop} (hf : 1 ≤ f ∧ f ≤ 5) (M : Mem) : JX11_takeBook_42 K M (ad z 104) (J (16 * (m : Int))) (J (f : Nat)) = K (J (f : Nat)) M := by
  unfold JX11_takeBook_42
  simp (disch := omega) only [J_add, J_sub, J_mul, J_lt, J_le, J_eq, xbr_true, xbr_false, xbr_pos, xbr_neg, Int.toNat_natCast, all_eq, ex_eq]
theorem m_42s {K : Int32 → Mem → Prop} (h : TxM C n tx) (h16 : C 104 16 = m) (hm : m < 24) (hf : 0 ≤ fg ∧ fg ≤ 4) (X : (Int32 → Mem → Prop) → Prop) (hX : ∀ K, PX11_takePoints (ad z 104) (J (16 * (m : Int))) (lay z g (rM C m P fg k2 k3 w (p : Nat) fg fp)) K = X K) : JX11_takeBook_42 K (lay z g (rM C m P k1 k2 k3 w (p : Nat) fg fp)) (ad z 104) (J (16 * (m : Int))) (J 0) = X (fun r15 M16 =>
    gR M16 12 (ad z 104) 1 fun q17 =>
    aS M16 q17 (J (16 * (m : Int)) + (J 15)) (J (-1)) fun M18 =>
    gR M18 12 (ad z 104) 5 fun q19 =>
    gI M18 12 (ad z 104) 16 fun v20 =>
    aS M18 q19 v20 (J 2) fun M21 =>
    PX11_byteAt (ad z 104) M21 fun r22 =>
    xbr (r22 = (J 32)) (
      JX11_takeBook_102 K M21 (ad z 104) (J (16 * (m : Int))) r15 (J 1)) (
      JX11_takeBook_102 K M21 (ad z 104) (J (16 * (m : Int))) r15 (J 0))) := by
  have r16 : ∀ P k1 k2 k3 w at0 fg fp, rM C m P k1 k2 k3 w at0 fg fp 104 16 = m := fun P k1 k2 k3 w at0 fg fp => by rw [rM_104 (by omega)]; exact h16
  rw [← hX]
  unfold JX11_takeBook_42
  rw [xbr_pos (by simp (disch := omega) only [J_add, J_sub, J_mul, J_lt, J_le, J_eq, xbr_true, xbr_false, xbr_pos, xbr_neg, Int.toNat_natCast, all_eq, ex_eq]; exact Int.le_refl 0)]
  have e1 : ∀ (K' : Mem → Prop), (gR (lay z g (rM C m P k1 k2 k3 w (p : Nat) fg fp)) 12 (ad z 104) 2 fun q11 => gI (lay z g (rM C m P k1 k2 k3 w (p : Nat) fg fp)) 12 (ad z 104) 16 fun v12 => gI (lay z g (rM C m P k1 k2 k3 w (p : Nat) fg fp)) 12 (ad z 104) 17 fun v13 => aS (lay z g (rM C m P k1 k2 k3 w (p : Nat) fg fp)) q11 v12 v13 fun M14 => K' M14) = K' (lay z g (rM C m P fg k2 k3 w (p : Nat) fg fp)) := fun K' => by
    simp (disch := omega) only [J_add, J_sub, J_mul, J_lt, J_le, J_eq, xbr_true, xbr_false, xbr_pos, xbr_neg, Int.toNat_natCast, all_eq, ex_eq, t_0, q_0_0, q_0_1, q_0_2, q_0_3, q_0_4, q_0_5, q_0_6, q_0_7, q_0_8, q_0_9, i_0_10, p_0_10, i_0_11, p_0_11, i_0_12, p_0_12, t_1, q_1_0, t_3, q_3_0, q_3_1, i_3_2, p_3_2, i_3_3, p_3_3, t_80, q_80_0, t_88, q_88_0, t_90, q_90_0, t_92, q_92_0, q_92_1, q_92_2, i_92_3, p_92_3, i_92_4, p_92_4, t_96, q_96_0, i_96_1, p_96_1, i_96_2, p_96_2, i_96_3, p_96_3, t_100, q_100_0, i_100_1, p_100_1, i_100_2, p_100_2, i_100_3, p_100_3, t_104, q_104_1, q_104_2, q_104_3, q_104_4, q_104_5, q_104_6, q_104_8, q_104_9, q_104_11, q_104_12, q_104_18, q_104_21, q_104_22, q_104_23, q_104_24, q_104_26, q_104_27, q_104_28, q_104_30, q_104_31, i_104_0, p_104_0, i_104_7, p_104_7, i_104_10, p_104_10, i_104_13, p_104_13, i_104_14, p_104_14, i_104_15, p_104_15, i_104_16, p_104_16, i_104_17, p_104_17, i_104_19, p_104_19, i_104_20, p_104_20, i_104_25, p_104_25, i_104_29, p_104_29, a_2, w_2, a_81, w_81, a_89, w_89, a_91, w_91, a_93, w_93, a_94, w_94, a_95, w_95, a_105, w_105, a_106, w_106, a_107, w_107, a_108, w_108, a_109, w_109, a_110, w_110, a_111, w_111, a_112, w_112, a_113, w_113, a_114, w_114, a_115, w_115, a_116, w_116, a_117, w_117, a_118, w_118, a_119, w_119, a_120, w_120, a_121, w_121, a_122, w_122, a_123, w_123, a_124, w_124, r16, rM_17, up_k1]
  rw [e1]
/-- behind the points -/
theorem m_mid {K : Int32 → Mem → Prop} {P' : Nat → Int} {k1' k2' k3' w' fg' fp' : Int} {pl f : Nat} (h : TxM C n tx) (h16 : C 104 16 = m) (hm : m < 24) (hp : pl ≤ n) : (
    gR (lay z g (rM C m P' k1' k2' k3' w' (pl : Nat) fg' fp')) 12 (ad z 104) 1 fun q17 =>
    aS (lay z g (rM C m P' k1' k2' k3' w' (pl : Nat) fg' fp')) q17 (J (16 * (m : Int)) + (J 15)) (J (-1)) fun M18 =>
    gR M18 12 (ad z 104) 5 fun q19 =>
    gI M18 12 (ad z 104) 16 fun v20 =>
    aS M18 q19 v20 (J 2) fun M21 =>
    PX11_byteAt (ad z 104) M21 fun r22 =>
    xbr (r22 = (J 32)) (
      JX11_takeBook_102 K M21 (ad z 104) (J (16 * (m : Int))) (J (f : Nat)) (J 1)) (
      JX11_takeBook_102 K M21 (ad z 104) (J (16 * (m : Int))) (J (f : Nat)) (J 0))) = JX11_takeBook_102 K (lay z g (rM C m (vup P' 15 (-1)) k1' k2' k3' 2 (pl : Nat) fg' fp')) (ad z 104) (J (16 * (m : Int))) (J (f : Nat)) (J (if decide (tx pl = 32) then 1 else 0)) := by
  have hn := h.2.1
  have r16 : ∀ P k1 k2 k3 w at0 fg fp, rM C m P k1 k2 k3 w at0 fg fp 104 16 = m := fun P k1 k2 k3 w at0 fg fp => by rw [rM_104 (by omega)]; exact h16
  have t15 : (16 * (m : Int) + 15).toNat = 16 * m + 15 := by omega
  have bb := h.b pl
  by_cases c : tx pl = 32
  · rw [decide_eq_true c]
    simp (disch := omega) only [J_add, J_sub, J_mul, J_lt, J_le, J_eq, xbr_true, xbr_false, xbr_pos, xbr_neg, Int.toNat_natCast, all_eq, ex_eq, t_0, q_0_0, q_0_1, q_0_2, q_0_3, q_0_4, q_0_5, q_0_6, q_0_7, q_0_8, q_0_9, i_0_10, p_0_10, i_0_11, p_0_11, i_0_12, p_0_12, t_1, q_1_0, t_3, q_3_0, q_3_1, i_3_2, p_3_2, i_3_3, p_3_3, t_80, q_80_0, t_88, q_88_0, t_90, q_90_0, t_92, q_92_0, q_92_1, q_92_2, i_92_3, p_92_3, i_92_4, p_92_4, t_96, q_96_0, i_96_1, p_96_1, i_96_2, p_96_2, i_96_3, p_96_3, t_100, q_100_0, i_100_1, p_100_1, i_100_2, p_100_2, i_100_3, p_100_3, t_104, q_104_1, q_104_2, q_104_3, q_104_4, q_104_5, q_104_6, q_104_8, q_104_9, q_104_11, q_104_12, q_104_18, q_104_21, q_104_22, q_104_23, q_104_24, q_104_26, q_104_27, q_104_28, q_104_30, q_104_31, i_104_0, p_104_0, i_104_7, p_104_7, i_104_10, p_104_10, i_104_13, p_104_13, i_104_14, p_104_14, i_104_15, p_104_15, i_104_16, p_104_16, i_104_17, p_104_17, i_104_19, p_104_19, i_104_20, p_104_20, i_104_25, p_104_25, i_104_29, p_104_29, a_2, w_2, a_81, w_81, a_89, w_89, a_91, w_91, a_93, w_93, a_94, w_94, a_95, w_95, a_105, w_105, a_106, w_106, a_107, w_107, a_108, w_108, a_109, w_109, a_110, w_110, a_111, w_111, a_112, w_112, a_113, w_113, a_114, w_114, a_115, w_115, a_116, w_116, a_117, w_117, a_118, w_118, a_119, w_119, a_120, w_120, a_121, w_121, a_122, w_122, a_123, w_123, a_124, w_124, t15, up_P (show 15 < 16 by omega), r16, up_w, m_byteAt h.r rM_15 (show pl ≤ 10000 by omega), c, if_true]
  · rw [decide_eq_false c]
    simp (disch := omega) only [J_add, J_sub, J_mul, J_lt, J_le, J_eq, xbr_true, xbr_false, xbr_pos, xbr_neg, Int.toNat_natCast, all_eq, ex_eq, t_0, q_0_0, q_0_1, q_0_2, q_0_3, q_0_4, q_0_5, q_0_6, q_0_7, q_0_8, q_0_9, i_0_10, p_0_10, i_0_11, p_0_11, i_0_12, p_0_12, t_1, q_1_0, t_3, q_3_0, q_3_1, i_3_2, p_3_2, i_3_3, p_3_3, t_80, q_80_0, t_88, q_88_0, t_90, q_90_0, t_92, q_92_0, q_92_1, q_92_2, i_92_3, p_92_3, i_92_4, p_92_4, t_96, q_96_0, i_96_1, p_96_1, i_96_2, p_96_2, i_96_3, p_96_3, t_100, q_100_0, i_100_1, p_100_1, i_100_2, p_100_2, i_100_3, p_100_3, t_104, q_104_1, q_104_2, q_104_3, q_104_4, q_104_5, q_104_6, q_104_8, q_104_9, q_104_11, q_104_12, q_104_18, q_104_21, q_104_22, q_104_23, q_104_24, q_104_26, q_104_27, q_104_28, q_104_30, q_104_31, i_104_0, p_104_0, i_104_7, p_104_7, i_104_10, p_104_10, i_104_13, p_104_13, i_104_14, p_104_14, i_104_15, p_104_15, i_104_16, p_104_16, i_104_17, p_104_17, i_104_19, p_104_19, i_104_20, p_104_20, i_104_25, p_104_25, i_104_29, p_104_29, a_2, w_2, a_81, w_81, a_89, w_89, a_91, w_91, a_93, w_93, a_94, w_94, a_95, w_95, a_105, w_105, a_106, w_106, a_107, w_107, a_108, w_108, a_109, w_109, a_110, w_110, a_111, w_111, a_112, w_112, a_113, w_113, a_114, w_114, a_115, w_115, a_116, w_116, a_117, w_117, a_118, w_118, a_119, w_119, a_120, w_120, a_121, w_121, a_122, w_122, a_123, w_123, a_124, w_124, t15, up_P (show 15 < 16 by omega), r16, up_w, m_byteAt h.r rM_15 (show pl ≤ 10000 by omega), Bool.false_eq_true, if_false]
theorem m_102f {K : Int32 → Mem → Prop} {f : Nat} {M : Mem} {x : Int32} (hf : 1 ≤ f ∧ f ≤ 5) : JX11_takeBook_102 K M (ad z 104) (J (16 * (m : Int))) (J (f : Nat)) x = K (J (f : Nat)) M := by
  unfold JX11_takeBook_102 JX11_takeBook_141 JX11_takeBook_163
  simp (disch := omega) only [J_add, J_sub, J_mul, J_lt, J_le, J_eq, xbr_true, xbr_false, xbr_pos, xbr_neg, Int.toNat_natCast, all_eq, ex_eq]
theorem FlM.of {f pl : Nat} {X X1 : (Int32 → Mem → Prop) → Prop} (h : FlM z g C m f pl X1) (e : ∀ K, X K = X1 K) : FlM z g C m f pl X := by
  obtain ⟨C1, h1, h2, h3, h4⟩ := h
  exact ⟨C1, h1, h2, h3, fun K => by rw [e, h4]⟩
theorem RBk_at {b : Nat} (h : RBk C b) (e : ∀ j, j < 16 → C' 105 (16 * b + j) = C 105 (16 * b + j)) (e2 : ∀ a, 106 ≤ a → a ≤ 109 → C' a b = C a b) : RBk C' b := by
  unfold RBk ptC at *
  have e0 : C' 105 (16 * b) = C 105 (16 * b) := e 0 (by omega)
  rw [e2 106 (by omega) (by omega), e2 107 (by omega) (by omega), e2 108 (by omega) (by omega), e 0 (by omega), e 1 (by omega), e 2 (by omega), e 10 (by omega), e 15 (by omega)]
  exact h
theorem keyR_at {b : Nat} (e : ∀ j, j < 16 → C' 105 (16 * b + j) = C 105 (16 * b + j)) (e2 : ∀ a, 106 ≤ a → a ≤ 109 → C' a b = C a b) (h7 : C 106 b ≤ 4) (h8 : C 107 b ≤ 4) (h9 : C 108 b ≤ 4) : keyR C' b = keyR C b := by
  funext i
  unfold keyR ptC
  rw [e2 106 (by omega) (by omega), e2 107 (by omega) (by omega), e2 108 (by omega) (by omega), e 0 (by omega), e 1 (by omega), e 10 (by omega), e 15 (by omega)]
  have w1 : wholeD (fun j => C' 105 (16 * b + (2 + j))) (C 106 b).toNat = wholeD (fun j => C 105 (16 * b + (2 + j))) (C 106 b).toNat := wh_congr fun j hj => e _ (by omega)
  have w2 : filD (fun j => C' 105 (16 * b + (6 + j))) (C 107 b).toNat = filD (fun j => C 105 (16 * b + (6 + j))) (C 107 b).toNat := fil_congr fun j hj => e _ (by omega)
  have w3 : filD (fun j => C' 105 (16 * b + (11 + j))) (C 108 b).toNat = filD (fun j => C 105 (16 * b + (11 + j))) (C 108 b).toNat := fil_congr fun j hj => e _ (by omega)
  rw [w1, w2, w3]
theorem kD_r : 0 ≤ kD tx p ∧ kD tx p ≤ 4 := by
  have f := fgN_le (tx := tx) (p := p + 1)
  unfold kD
  split <;> omega
theorem kC_r : 0 ≤ kC tx p ∧ kC tx p ≤ 4 := by
  have f := fgN_le (tx := tx) (p := p + 2)
  unfold kC
  split <;> omega
theorem RefAt.rbk {b : Nat} (h : RefAt C tx n b p) (hlt : isLt (tx p) = true) (h48 : tx (p1T tx p) ≠ 48) (cB : fgF tx (p1T tx p) = 0) (cC : (clC tx (p3T tx p)).1 = 0) (cY : (clY tx n (p4T tx p)).1 = 0) : RBk C b := by
  obtain ⟨h0, h1, h2, hk1, hk2, -, h10, hk3, -, h15, -⟩ := h
  have r0 := isLt_t hlt
  have f4 := fgN_le (tx := tx) (p := p1T tx p)
  have f1 : 1 ≤ fgN tx (p1T tx p) := by
    unfold fgF at cB
    by_cases c : fgN tx (p1T tx p) = 0
    · rw [if_pos c] at cB; omega
    · omega
  have d2 := h2 0 (by omega)
  have a2 := fgN_at (tx := tx) (p := p1T tx p) (j := 0) (by omega)
  have d2' : ptC C b 2 = tx (p1T tx p) - 48 := d2
  have a2' : 48 ≤ tx (p1T tx p) ∧ tx (p1T tx p) ≤ 57 := a2
  have kd := kD_r (tx := tx) (p := p2T tx p)
  have kc := kC_r (tx := tx) (p := p3T tx p)
  refine ⟨by omega, ?_, ?_, ?_, by omega, by omega, by omega, by omega⟩
  · rw [h1]
    split
    · rename_i c; have := isLt_t c; omega
    · omega
  · rw [h10]
    split
    · rename_i c; have := isLt_t (clC_lt cC c); omega
    · omega
  · rw [h15]
    split
    · rename_i c; have := (clY_y cY c).2; omega
    · omega
theorem m_takeBook (h : TxM C n tx) (h16 : C 104 16 = m) (h24 : m ≤ 24) (h15 : C 104 15 = (p : Nat)) (hp : p < n) (hD : GDig C) (hR : ∀ b, b < m → RBk C b) :
    ((clF tx n (decide (m = 24)) p).1 ≠ 0 → FlM z g C m (clF tx n (decide (m = 24)) p).1 (clF tx n (decide (m = 24)) p).2 (fun K => PX11_takeBook (ad z 104) (lay z g C) K)) ∧
    ((clF tx n (decide (m = 24)) p).1 = 0 → (m < 24 ∧ enT tx n p < n ∧ p < enT tx n p) ∧
      (tld (keyR C) m (knT tx n p) = true → FlM z g C m 5 (enT tx n p) (fun K => PX11_takeBook (ad z 104) (lay z g C) K)) ∧
      (¬ tld (keyR C) m (knT tx n p) = true → ∃ C0, FrM C C0 m ∧ GDig C0 ∧ C0 104 15 = ((enT tx n p + 1 : Nat) : Int) ∧ C0 104 14 = C 104 14 ∧ RefAt C0 tx n m p ∧ RBk C0 m ∧ (∀ b, b < m → RBk C0 b ∧ keyR C0 b = keyR C b) ∧ ∀ K, PX11_takeBook (ad z 104) (lay z g C) K = K (J 0) (lay z g (up C0 104 16 ((m + 1 : Nat) : Int))))) := by
  obtain ⟨D0, hD0⟩ := h.c
  have hn := h.2.1
  have eC : rM C m (fun i => C 105 (16 * m + i)) (C 106 m) (C 107 m) (C 108 m) (C 109 m) (p : Nat) (C 104 17) (C 104 14) = C := by
    rw [← h15]; exact rM_self
  have hP0 : m < 24 → POk (fun i => C 105 (16 * m + i)) := fun hm j hj => hD m hm j hj
  have X0 : ∀ K, PX11_takeBook (ad z 104) (lay z g C) K = PX11_takeClass (ad z 104) (J (if m = 24 then 0 else 16 * (m : Int))) (lay z g (rM C m (fun i => C 105 (16 * m + i)) (C 106 m) (C 107 m) (C 108 m) (C 109 m) (p : Nat) (C 104 17) (C 104 14))) (fun r5 M6 => xbr (r5 ≤ (J 0)) (PX11_takeFigures (ad z 104) (J (16 * (m : Int)) + (J 2)) M6 fun r8 M9 => JX11_takeBook_42 K M9 (ad z 104) (J (16 * (m : Int))) r8) (JX11_takeBook_42 K M6 (ad z 104) (J (16 * (m : Int))) r5)) := fun K => by
    rw [eC]
    unfold PX11_takeBook
    by_cases c : m = 24
    · have c' : (m : Int) = 24 := by omega
      rw [if_pos c]
      simp (disch := omega) only [t_104, i_104_16, h16, ex_eq, J_mul, J_le]
      rw [xbr_pos (by omega)]
      rfl
    · rw [if_neg c]
      simp (disch := omega) only [t_104, i_104_16, h16, ex_eq, J_mul, J_le]
      rw [xbr_neg (by omega)]
      rfl
  obtain ⟨a1, a2⟩ := m_takeClass (z := z) (g := g) (k1 := C 106 m) (k2 := C 107 m) (k3 := C 108 m) (w := C 109 m) (fg := C 104 17) (fp := C 104 14) h h16 h24 hp hP0 (x := if m = 24 then 0 else 16 * (m : Int)) (fun q => if_neg (by omega))
  by_cases cA : (clA2 tx (decide (m = 24)) p).1 ≠ 0
  · have eF : clF tx n (decide (m = 24)) p = clA2 tx (decide (m = 24)) p := by rw [clF_eq, if_pos cA]
    have b5 := clF_b (tx := tx) (n := n) (decide (m = 24)) p
    rw [eF] at b5
    rw [eF]
    refine ⟨fun _ => FlM.bind _ (a1 cA) X0 fun K M => ?_, fun q => absurd q cA⟩
    show xbr (J ((clA2 tx (decide (m = 24)) p).1 : Nat) ≤ J 0) _ _ = _
    simp (disch := omega) only [J_add, J_sub, J_mul, J_lt, J_le, J_eq, xbr_true, xbr_false, xbr_pos, xbr_neg, Int.toNat_natCast, all_eq, ex_eq]
    exact m_42 (by omega) M
  · have cA0 : (clA2 tx (decide (m = 24)) p).1 = 0 := by omega
    obtain ⟨⟨hm, hlt⟩, aK⟩ := a2 cA0
    have h48 : tx (p1T tx p) ≠ 48 := fun q => by
      unfold clA2 at cA0
      by_cases c : (clA tx (decide (m = 24)) p).1 ≠ 0
      · rw [if_pos c] at cA0; omega
      · rw [if_neg c, if_pos (show tx (q1 tx p) = 48 from q)] at cA0; simp at cA0
    have l1 : p1T tx p ≤ n := by
      unfold p1T q1
      split
      · rename_i c
        have := (h.b (p + 1)).2.2 (by have := isLt_t c; omega)
        omega
      · omega
    have g1 : p < p1T tx p := by unfold p1T q1; split <;> omega
    have hPA := PA_ok (tx := tx) (p := p) (hP0 hm)
    have X1 : ∀ K, PX11_takeBook (ad z 104) (lay z g C) K = JX11_takeBook_42 K (lay z g (rM C m (pdg (PA tx p fun i => C 105 (16 * m + i)) tx 2 (p1T tx p) (fgN tx (p1T tx p))) (C 106 m) (C 107 m) (C 108 m) (C 109 m) ((p1T tx p + fgN tx (p1T tx p) : Nat) : Int) (fgN tx (p1T tx p) : Nat) (if fgF tx (p1T tx p) = 0 then C 104 14 else ((p1T tx p + fgN tx (p1T tx p) : Nat) : Int)))) (ad z 104) (J (16 * (m : Int))) (J (fgF tx (p1T tx p) : Nat)) := fun K => by
      rw [X0, aK, xbr_pos (by simp (disch := omega) only [J_add, J_sub, J_mul, J_lt, J_le, J_eq, xbr_true, xbr_false, xbr_pos, xbr_neg, Int.toNat_natCast, all_eq, ex_eq]; exact Int.le_refl 0), J_add, show q1 tx p = p1T tx p from rfl, m_takeFigures h hm l1 (f := 2) (by omega) (F := 2) rfl]
    by_cases cB : fgF tx (p1T tx p) ≠ 0
    · have eF : clF tx n (decide (m = 24)) p = (fgF tx (p1T tx p), p1T tx p + fgN tx (p1T tx p)) := by rw [clF_eq, if_neg cA, if_pos cB]
      have b5 := fgF_b (tx := tx) (p1T tx p)
      rw [eF]
      refine ⟨fun _ => FlM.mk (k1 := C 106 m) (k2 := C 107 m) (k3 := C 108 m) (w := C 109 m) (at0 := ((p1T tx p + fgN tx (p1T tx p) : Nat) : Int)) (fg := (fgN tx (p1T tx p) : Nat)) (fp := ((p1T tx p + fgN tx (p1T tx p) : Nat) : Int)) (fun _ => hPA.d (f := 2) (tx := tx) (p := p1T tx p)) rfl fun K => ?_, fun q => absurd q cB⟩
      show PX11_takeBook _ _ _ = _
      rw [X1, m_42 (by omega), if_neg cB]
    · have cB0 : fgF tx (p1T tx p) = 0 := by omega
      have l2 : p2T tx p ≤ n := fgN_n hD0 l1
      have g2 : p1T tx p ≤ p2T tx p := Nat.le_add_right _ _
      have f4 := fgN_le (tx := tx) (p := p1T tx p)
      have hPB := PB_ok (tx := tx) (p := p1T tx p) hPA
      have X2 : ∀ K, PX11_takeBook (ad z 104) (lay z g C) K = JX11_takeBook_42 K (lay z g (rM C m (PB tx (p1T tx p) (PA tx p fun i => C 105 (16 * m + i))) (C 106 m) (C 107 m) (C 108 m) (C 109 m) (p2T tx p : Nat) (fgN tx (p1T tx p) : Nat) (C 104 14))) (ad z 104) (J (16 * (m : Int))) (J 0) := fun K => by
        rw [X1, if_pos cB0, cB0]
        rfl
      obtain ⟨t1, t2⟩ := m_takePoints (z := z) (g := g) (k1 := (fgN tx (p1T tx p) : Nat)) (k2 := C 107 m) (k3 := C 108 m) (w := C 109 m) (fg := (fgN tx (p1T tx p) : Nat)) (fp := C 104 14) h h16 hm l2 hPB
      by_cases cP : (clP tx (p2T tx p)).1 ≠ 0
      · have eF : clF tx n (decide (m = 24)) p = clP tx (p2T tx p) := by rw [clF_eq, if_neg cA, if_neg cB, if_pos cP]
        have b5 := clF_b (tx := tx) (n := n) (decide (m = 24)) p
        rw [eF] at b5
        rw [eF]
        obtain ⟨ln, P', k2', k3', fg', hP', pK⟩ := t1 cP
        refine ⟨fun _ => FlM.mk (k1 := (fgN tx (p1T tx p) : Nat)) (k2 := k2') (k3 := k3') (w := 2) (at0 := ((clP tx (p2T tx p)).2 : Nat)) (fg := fg') (fp := ((clP tx (p2T tx p)).2 : Nat)) (fun _ => hP'.v (i := 15) (x := -1) (by omega)) rfl fun K => ?_, fun q => absurd q cP⟩
        show PX11_takeBook _ _ _ = _
        rw [X2, m_42s h h16 hm (by omega) _ pK]
        refine (m_mid h h16 hm ln).trans ?_
        exact m_102f (by omega)
      · have cP0 : (clP tx (p2T tx p)).1 = 0 := by omega
        obtain ⟨l4, fg', pK⟩ := t2 cP0
        have cC0 : (clC tx (p3T tx p)).1 = 0 := by
          unfold clP at cP0
          by_cases c : (clD tx (p2T tx p)).1 ≠ 0
          · rw [if_pos c] at cP0; omega
          · rw [if_neg c] at cP0; exact cP0
        have hPC := PC_ok (tx := tx) (p := p3T tx p) (PD_ok (tx := tx) (p := p2T tx p) hPB)
        have l4' : p4T tx p ≤ n := l4
        have X3 : ∀ K, PX11_takeBook (ad z 104) (lay z g C) K = JX11_takeBook_102 K (lay z g (rM C m (vup (PC tx (p3T tx p) (PD tx (p2T tx p) (PB tx (p1T tx p) (PA tx p fun i => C 105 (16 * m + i))))) 15 (-1)) (fgN tx (p1T tx p) : Nat) (kD tx (p2T tx p)) (kC tx (p3T tx p)) 2 (p4T tx p : Nat) fg' (C 104 14))) (ad z 104) (J (16 * (m : Int))) (J 0) (J (if decide (tx (p4T tx p) = 32) then 1 else 0)) := fun K => by
          rw [X2, m_42s h h16 hm (by omega) _ pK]
          exact m_mid (f := 0) h h16 hm l4'
        obtain ⟨y1, y2, y3⟩ := m_tail (z := z) (g := g) (k1 := (fgN tx (p1T tx p) : Nat)) (k2 := kD tx (p2T tx p)) (k3 := kC tx (p3T tx p)) (fg := fg') (fp := C 104 14) h h16 hm l4' hD hPC
        by_cases cY : (clY tx n (p4T tx p)).1 ≠ 0
        · have eF : clF tx n (decide (m = 24)) p = clY tx n (p4T tx p) := by rw [clF_eq, if_neg cA, if_neg cB, if_neg cP, if_pos cY]
          rw [eF]
          exact ⟨fun _ => (y1 cY).of X3, fun q => absurd q cY⟩
        · have cY0 : (clY tx n (p4T tx p)).1 = 0 := by omega
          by_cases cW : (clW tx n (p4T tx p)).1 ≠ 0
          · have eF : clF tx n (decide (m = 24)) p = clW tx n (p4T tx p) := by rw [clF_eq, if_neg cA, if_neg cB, if_neg cP, if_neg cY, if_pos cW]
            rw [eF]
            exact ⟨fun _ => (y2 cY0 cW).of X3, fun q => absurd q cW⟩
          · have cW0 : (clW tx n (p4T tx p)).1 = 0 := by omega
            have eF : clF tx n (decide (m = 24)) p = clE tx (enT tx n p) := by rw [clF_eq, if_neg cA, if_neg cB, if_neg cP, if_neg cY, if_neg cW]
            rw [eF]
            have ra : ∀ at0 fp : Int, RefAt (rM C m (PY tx n (p4T tx p) (PC tx (p3T tx p) (PD tx (p2T tx p) (PB tx (p1T tx p) (PA tx p fun i => C 105 (16 * m + i)))))) (fgN tx (p1T tx p) : Nat) (kD tx (p2T tx p)) (kC tx (p3T tx p)) (wW tx n (p4T tx p)) at0 fg' fp) tx n m p := fun at0 fp => RefAt.r
            have hPY := PY_ok (tx := tx) (n := n) (p := p4T tx p) hPC
            have ra0 : RefAt (rM C m (PY tx n (p4T tx p) (PC tx (p3T tx p) (PD tx (p2T tx p) (PB tx (p1T tx p) (PA tx p fun i => C 105 (16 * m + i)))))) (fgN tx (p1T tx p) : Nat) (kD tx (p2T tx p)) (kC tx (p3T tx p)) (wW tx n (p4T tx p)) 0 0 0) tx n m p := RefAt.r
            have old : ∀ (P : Nat → Int) (k1 k2 k3 w at0 fg fp : Int) (b : Nat), b < m → RBk (rM C m P k1 k2 k3 w at0 fg fp) b ∧ keyR (rM C m P k1 k2 k3 w at0 fg fp) b = keyR C b := fun P k1 k2 k3 w at0 fg fp b hb => by
              have hb' := hR b hb
              have r6 := hb'.2.2.2.2.1
              have r7 := hb'.2.2.2.2.2.1
              have r8 := hb'.2.2.2.2.2.2.1
              exact ⟨RBk_at hb' (fun j hj => rM_o hb hj) (fun a h1 h2 => rM_ob h1 h2 (by omega)), keyR_at (fun j hj => rM_o hb hj) (fun a h1 h2 => rM_ob h1 h2 (by omega)) (by omega) (by omega) (by omega)⟩
            obtain ⟨l6, eK⟩ := y3 cY0 cW0 (fun b hb => by
              by_cases c : b = m
              · rw [c]; exact ra0.rbk hlt h48 cB0 cC0 cY0
              · exact (old _ _ _ _ _ _ _ _ b (by omega)).1)
            have g6 : p < enT tx n p := by
              have s1 := skp_ge (tx := tx) (n := n) (p := p4T tx p)
              have s2 := skp_ge (tx := tx) (n := n) (p := skp tx n (p4T tx p) + 5)
              have s3 := skp_ge (tx := tx) (n := n) (p := q5 tx n (p4T tx p) + 2)
              have s5 : p4T tx p ≤ q5 tx n (p4T tx p) := by unfold q5; split <;> omega
              have s6 : q5 tx n (p4T tx p) ≤ enT tx n p := by unfold enT q6; split <;> omega
              have g3 : p2T tx p ≤ p3T tx p := by unfold p3T q3; split <;> omega
              have g4 : p3T tx p ≤ p4T tx p := by unfold p4T q4; split <;> omega
              omega
            have eK' : ∀ K, PX11_takeBook (ad z 104) (lay z g C) K = rEnd z g C m (PY tx n (p4T tx p) (PC tx (p3T tx p) (PD tx (p2T tx p) (PB tx (p1T tx p) (PA tx p fun i => C 105 (16 * m + i)))))) (fgN tx (p1T tx p) : Nat) (kD tx (p2T tx p)) (kC tx (p3T tx p)) (wW tx n (p4T tx p)) fg' (C 104 14) tx (enT tx n p) K := fun K => by rw [X3, eK]; rfl
            by_cases c59 : tx (enT tx n p) = 59
            · have eE : clE tx (enT tx n p) = (0, 0) := by unfold clE; rw [if_pos c59]
              rw [eE]
              have lE : enT tx n p < n := (h.b _).2.2 (by omega)
              have et : tld (keyR (rM C m (PY tx n (p4T tx p) (PC tx (p3T tx p) (PD tx (p2T tx p) (PB tx (p1T tx p) (PA tx p fun i => C 105 (16 * m + i)))))) (fgN tx (p1T tx p) : Nat) (kD tx (p2T tx p)) (kC tx (p3T tx p)) (wW tx n (p4T tx p)) 0 0 0)) m (keyR (rM C m (PY tx n (p4T tx p) (PC tx (p3T tx p) (PD tx (p2T tx p) (PB tx (p1T tx p) (PA tx p fun i => C 105 (16 * m + i)))))) (fgN tx (p1T tx p) : Nat) (kD tx (p2T tx p)) (kC tx (p3T tx p)) (wW tx n (p4T tx p)) 0 0 0) m) = tld (keyR C) m (knT tx n p) := tld_congr (fun b hb i hi => by rw [(old _ _ _ _ _ _ _ _ b hb).2]) (fun i hi => by rw [ra0.key])
              refine ⟨fun q => absurd rfl q, fun _ => ⟨⟨hm, lE, g6⟩, fun q => ?_, fun q => ?_⟩⟩
              · refine FlM.mk (P := PY tx n (p4T tx p) (PC tx (p3T tx p) (PD tx (p2T tx p) (PB tx (p1T tx p) (PA tx p fun i => C 105 (16 * m + i)))))) (k1 := (fgN tx (p1T tx p) : Nat)) (k2 := kD tx (p2T tx p)) (k3 := kC tx (p3T tx p)) (w := wW tx n (p4T tx p)) (at0 := (enT tx n p : Nat)) (fg := fg') (fp := (enT tx n p : Nat)) (fun _ => hPY) rfl fun K => ?_
                show PX11_takeBook _ _ _ = _
                rw [eK']
                unfold rEnd
                rw [if_pos c59, et, if_pos q]
                rfl
              · refine ⟨_, FrM.r, hD.r (fun _ => hPY), rM_15, rM_14, ra _ _, (ra _ _).rbk hlt h48 cB0 cC0 cY0, fun b hb => old _ _ _ _ _ _ _ _ b hb, fun K => ?_⟩
                rw [eK']
                unfold rEnd
                rw [if_pos c59, et, if_neg q]
            · have eE : clE tx (enT tx n p) = (1, enT tx n p) := by unfold clE; rw [if_neg c59]
              rw [eE]
              refine ⟨fun _ => FlM.mk (P := PY tx n (p4T tx p) (PC tx (p3T tx p) (PD tx (p2T tx p) (PB tx (p1T tx p) (PA tx p fun i => C 105 (16 * m + i)))))) (k1 := (fgN tx (p1T tx p) : Nat)) (k2 := kD tx (p2T tx p)) (k3 := kC tx (p3T tx p)) (w := wW tx n (p4T tx p)) (at0 := (enT tx n p : Nat)) (fg := fg') (fp := (enT tx n p : Nat)) (fun _ => hPY) rfl fun K => ?_, fun q => by simp at q⟩
              show PX11_takeBook _ _ _ = _
              rw [eK']
              unfold rEnd
              rw [if_neg c59]
              rfl
end RBO
