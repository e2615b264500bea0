/-! READING A TEXT: the class's books() -/
section BKS
variable {z n nb : Nat} {g : Mem} {C : Nat → Nat → Int} {tx : Nat → Int}
theorem fgF_b (p : Nat) : fgF tx p ≤ 2 := by
  unfold fgF
  split
  · omega
  · split <;> omega
theorem clF_b (full : Bool) (p : Nat) : (clF tx n full p).1 ≤ 5 := by
  have a1 : (clA tx full p).1 ≤ 5 := by unfold clA; repeat' split
                                        all_goals simp
  have a2 : (clB tx (p1T tx p)).1 ≤ 5 := by
    have := fgF_b (tx := tx) (p1T tx p)
    unfold clB; repeat' split
    all_goals first | (simp; done) | (simp; omega)
  have a3 : (clD tx (p2T tx p)).1 ≤ 5 := by
    have := fgF_b (tx := tx) (p2T tx p + 1)
    unfold clD; repeat' split
    all_goals first | (simp; done) | (simp; omega)
  have a4 : (clC tx (p3T tx p)).1 ≤ 5 := by
    have := fgF_b (tx := tx) (p3T tx p + 2)
    unfold clC; repeat' split
    all_goals first | (simp; done) | (simp; omega)
  have a5 : (clY tx n (p4T tx p)).1 ≤ 5 := by
    unfold clY; repeat' split
    all_goals simp
  have a6 : (clW tx n (p4T tx p)).1 ≤ 5 := by
    unfold clW; repeat' split
    all_goals simp
  have a7 : (clE tx (enT tx n p)).1 ≤ 5 := by
    unfold clE; repeat' split
    all_goals simp
  unfold clF
  split
  · exact a1
  · split
    · exact a2
    · split
      · exact a3
      · split
        · exact a4
        · split
          · exact a5
          · split
            · exact a6
            · exact a7
theorem rnT_f (k : Nat) : ∀ (p m : Nat) (κ : Nat → Nat → Int) (ps : Nat → Nat), (rnT tx n k p m κ ps).1 ≤ 5 := by
  induction k with
  | zero => intro p m κ ps; show 0 ≤ 5; omega
  | succ k ih =>
    intro p m κ ps
    show (if n ≤ p then (0, 0, m, ps) else if (clF tx n (decide (m = 24)) p).1 ≠ 0 then ((clF tx n (decide (m = 24)) p).1, (clF tx n (decide (m = 24)) p).2, m, ps) else if tld κ m (knT tx n p) = true then (5, enT tx n p, m, ps) else rnT tx n k (skp tx n (enT tx n p + 1)) (m + 1) (fun b => if b = m then knT tx n p else κ b) (fun b => if b = m then p else ps b) : Nat × Nat × Nat × (Nat → Nat)).1 ≤ 5
    split
    · show 0 ≤ 5; omega
    · split
      · exact clF_b _ _
      · split
        · show 5 ≤ 5; omega
        · exact ih _ _ _ _
theorem s_books (hz : z + 125 ≤ g.2.2) (h : TxC C n tx) (hB : BooksOk C) (h2 : C 3 2 = nb) (h3 : C 3 3 = nb) (hn24 : nb ≤ 24) {κ : Nat → Nat → Int} (hκ : ∀ b, b < nb → ∀ i, i < 5 → keyC C (8 + 3 * b) i 0 = κ b i) {R : Nat × Nat × Nat × (Nat → Nat)} (hR : R = rnT tx n n (skp tx n 0) nb κ (fun _ => 0)) :
    ∃ (C1 : Nat → Nat → Int) (g' : Mem), (∀ K, PX10_books (ad z 0) (lay z g C) K = K (J (if R.1 = 0 then (R.2.2.1 : Int) else -10 - (R.1 : Int))) (lay z g' C1)) ∧ g.2.2 ≤ g'.2.2 ∧ (∀ o, o ≠ 0 → o ≠ 1 → o ≠ 3 → o < 8 + 3 * nb ∨ 79 < o → C1 o = C o) ∧ (∀ j, j ≠ 10 → C1 0 j = C 0 j) ∧ C1 0 10 = (if R.1 = 0 then -1 else (R.2.1 : Int)) ∧ C1 1 1 = 0 ∧ BooksOk C1 ∧ C1 3 2 = (if R.1 = 0 then R.2.2.1 else nb : Nat) ∧ C1 3 3 = (if R.1 = 0 then R.2.2.1 else nb : Nat) ∧ nb ≤ R.2.2.1 ∧ R.2.2.1 ≤ 24 ∧ (R.1 = 0 → ∀ b, nb ≤ b → b < R.2.2.1 → ClsAt C1 tx n b (R.2.2.2 b)) := by
  have hn := h.2.1
  have hs := skp_le (tx := tx) (show 0 ≤ n by omega)
  obtain ⟨C', d', a', x', y', r1, r2, r3, r4, r5, r6, r7, r8⟩ := s_parse7 (g := g) hz n (skp tx n 0) nb C (bkO nb) 0 0 0 κ (fun _ => 0) h hB h3 hn24 hs (by omega) (by omega) hκ
  rw [← hR] at r4 r5 r6 r7 r8
  have c00 : C' 0 = C 0 := r1 0 (by omega) (by omega)
  have c01 : C' 1 = C 1 := r1 1 (by omega) (by omega)
  have pre : ∀ K, PX10_books (ad z 0) (lay z g C) K = xbr (J (R.1 : Nat) = J 0) (PX2_acceptDrafts (ad z 3) (lay z (prM g z g.2.2 d' a' (R.1 : Nat) (if R.1 = 0 then -1 else (R.2.1 : Int)) x' y') (up C' 0 10 (if R.1 = 0 then -1 else (R.2.1 : Int)))) fun M25 => JX10_books_50 K M25 (ad z 0) (J (R.1 : Nat))) (PX2_dropDrafts (ad z 3) (lay z (prM g z g.2.2 d' a' (R.1 : Nat) (if R.1 = 0 then -1 else (R.2.1 : Int)) x' y') (up C' 0 10 (if R.1 = 0 then -1 else (R.2.1 : Int)))) fun M15 => JX10_books_50 K M15 (ad z 0) (J (R.1 : Nat))) := by
    intro K
    have sk := fun K => s_skip (z := z) (q := g.2.2) (g := g) (C := C) (tx := tx) (n := n) (p := 0) (d := bkO nb) (kd0 := 0) (pl := -1) (vl := 0) (bf := 0) (K := K) hz h (by omega)
    unfold PX10_books PX5_parse PX5_faultAt
    simp (disch := omega) only [J_add, J_sub, J_mul, J_lt, J_le, J_eq, xbr_true, xbr_false, xbr_pos, xbr_neg, Int.toNat_natCast, all_eq, ex_eq, t_0, q_0_0, q_0_1, q_0_2, q_0_3, q_0_4, q_0_5, q_0_6, q_0_7, q_0_8, q_0_9, i_0_10, p_0_10, i_0_11, p_0_11, i_0_12, p_0_12, t_1, q_1_0, t_3, q_3_0, q_3_1, i_3_2, p_3_2, i_3_3, p_3_3, t_80, q_80_0, t_88, q_88_0, t_90, q_90_0, t_92, q_92_0, q_92_1, q_92_2, i_92_3, p_92_3, i_92_4, p_92_4, t_96, q_96_0, i_96_1, p_96_1, i_96_2, p_96_2, i_96_3, p_96_3, t_100, q_100_0, i_100_1, p_100_1, i_100_2, p_100_2, i_100_3, p_100_3, t_104, q_104_1, q_104_2, q_104_3, q_104_4, q_104_5, q_104_6, q_104_8, q_104_9, q_104_11, q_104_12, q_104_18, q_104_21, q_104_22, q_104_23, q_104_24, q_104_26, q_104_27, q_104_28, q_104_30, q_104_31, i_104_0, p_104_0, i_104_7, p_104_7, i_104_10, p_104_10, i_104_13, p_104_13, i_104_14, p_104_14, i_104_15, p_104_15, i_104_16, p_104_16, i_104_17, p_104_17, i_104_19, p_104_19, i_104_20, p_104_20, i_104_25, p_104_25, i_104_29, p_104_29, a_2, w_2, a_81, w_81, a_89, w_89, a_91, w_91, a_93, w_93, a_94, w_94, a_95, w_95, a_105, w_105, a_106, w_106, a_107, w_107, a_108, w_108, a_109, w_109, a_110, w_110, a_111, w_111, a_112, w_112, a_113, w_113, a_114, w_114, a_115, w_115, a_116, w_116, a_117, w_117, a_118, w_118, a_119, w_119, a_120, w_120, a_121, w_121, a_122, w_122, a_123, w_123, a_124, w_124, nO_lay hz, s_pinit hz h3 hn24, p_T hz]
    have e0 : lay z (prM g z g.2.2 (bkO nb) 0 0 (-1) 0 0) C = lay z (prM g z g.2.2 (bkO nb) ((0 : Nat) : Int) 0 (-1) 0 0) C := rfl
    rw [e0, sk]
    have e1 : J 0 = J ((0 : Nat) : Int) := rfl
    rw [e1, r8]
    simp (disch := omega) only [J_add, J_sub, J_mul, J_lt, J_le, J_eq, xbr_true, xbr_false, xbr_pos, xbr_neg, Int.toNat_natCast, all_eq, ex_eq, t_0, q_0_0, q_0_1, q_0_2, q_0_3, q_0_4, q_0_5, q_0_6, q_0_7, q_0_8, q_0_9, i_0_10, p_0_10, i_0_11, p_0_11, i_0_12, p_0_12, t_1, q_1_0, t_3, q_3_0, q_3_1, i_3_2, p_3_2, i_3_3, p_3_3, t_80, q_80_0, t_88, q_88_0, t_90, q_90_0, t_92, q_92_0, q_92_1, q_92_2, i_92_3, p_92_3, i_92_4, p_92_4, t_96, q_96_0, i_96_1, p_96_1, i_96_2, p_96_2, i_96_3, p_96_3, t_100, q_100_0, i_100_1, p_100_1, i_100_2, p_100_2, i_100_3, p_100_3, t_104, q_104_1, q_104_2, q_104_3, q_104_4, q_104_5, q_104_6, q_104_8, q_104_9, q_104_11, q_104_12, q_104_18, q_104_21, q_104_22, q_104_23, q_104_24, q_104_26, q_104_27, q_104_28, q_104_30, q_104_31, i_104_0, p_104_0, i_104_7, p_104_7, i_104_10, p_104_10, i_104_13, p_104_13, i_104_14, p_104_14, i_104_15, p_104_15, i_104_16, p_104_16, i_104_17, p_104_17, i_104_19, p_104_19, i_104_20, p_104_20, i_104_25, p_104_25, i_104_29, p_104_29, a_2, w_2, a_81, w_81, a_89, w_89, a_91, w_91, a_93, w_93, a_94, w_94, a_95, w_95, a_105, w_105, a_106, w_106, a_107, w_107, a_108, w_108, a_109, w_109, a_110, w_110, a_111, w_111, a_112, w_112, a_113, w_113, a_114, w_114, a_115, w_115, a_116, w_116, a_117, w_117, a_118, w_118, a_119, w_119, a_120, w_120, a_121, w_121, a_122, w_122, a_123, w_123, a_124, w_124, p_T hz, p_i5 hz]
  by_cases c : R.1 = 0
  · simp only [if_pos c] at pre
    have r73 := (r7 c).1
    refine ⟨up (up (up C' 0 10 (-1)) 3 2 (R.2.2.1 : Nat)) 1 1 0, prM g z g.2.2 d' a' (R.1 : Nat) (-1) x' y', fun K => ?_, by show g.2.2 ≤ g.2.2 + 1; omega, fun o h0 h1 h2 h3 => by rw [up_ne h1, up_ne h2, up_ne h0, r1 o h2 h3], fun j hj => by rw [up_ne (by omega), up_ne (by omega), up_nk hj, c00], by rw [if_pos c, up_ne (by omega), up_ne (by omega), up_eq], up_eq, r3.fr (fun o _ _ => by rw [up_ne (by omega), up_ne (by omega), up_ne (by omega)]), by rw [if_pos c, up_ne (by omega), up_eq], by rw [if_pos c, up_ne (by omega), up_nk (by omega), up_ne (by omega)]; exact r73, r4, r5, fun _ b b1 b2 => ?_⟩
    · have u3 : up C' 0 10 (-1) 3 3 = R.2.2.1 := by rw [up_ne (by omega)]; exact r73
      have u4 : up (up (up C' 0 10 (-1)) 3 2 (R.2.2.1 : Nat)) 1 1 0 3 2 = R.2.2.1 := by rw [up_ne (by omega), up_eq]
      rw [pre, if_pos c]
      unfold PX2_acceptDrafts JX10_books_50
      simp (disch := omega) only [J_add, J_sub, J_mul, J_lt, J_le, J_eq, xbr_true, xbr_false, xbr_pos, xbr_neg, Int.toNat_natCast, all_eq, ex_eq, t_0, q_0_0, q_0_1, q_0_2, q_0_3, q_0_4, q_0_5, q_0_6, q_0_7, q_0_8, q_0_9, i_0_10, p_0_10, i_0_11, p_0_11, i_0_12, p_0_12, t_1, q_1_0, t_3, q_3_0, q_3_1, i_3_2, p_3_2, i_3_3, p_3_3, t_80, q_80_0, t_88, q_88_0, t_90, q_90_0, t_92, q_92_0, q_92_1, q_92_2, i_92_3, p_92_3, i_92_4, p_92_4, t_96, q_96_0, i_96_1, p_96_1, i_96_2, p_96_2, i_96_3, p_96_3, t_100, q_100_0, i_100_1, p_100_1, i_100_2, p_100_2, i_100_3, p_100_3, t_104, q_104_1, q_104_2, q_104_3, q_104_4, q_104_5, q_104_6, q_104_8, q_104_9, q_104_11, q_104_12, q_104_18, q_104_21, q_104_22, q_104_23, q_104_24, q_104_26, q_104_27, q_104_28, q_104_30, q_104_31, i_104_0, p_104_0, i_104_7, p_104_7, i_104_10, p_104_10, i_104_13, p_104_13, i_104_14, p_104_14, i_104_15, p_104_15, i_104_16, p_104_16, i_104_17, p_104_17, i_104_19, p_104_19, i_104_20, p_104_20, i_104_25, p_104_25, i_104_29, p_104_29, a_2, w_2, a_81, w_81, a_89, w_89, a_91, w_91, a_93, w_93, a_94, w_94, a_95, w_95, a_105, w_105, a_106, w_106, a_107, w_107, a_108, w_108, a_109, w_109, a_110, w_110, a_111, w_111, a_112, w_112, a_113, w_113, a_114, w_114, a_115, w_115, a_116, w_116, a_117, w_117, a_118, w_118, a_119, w_119, a_120, w_120, a_121, w_121, a_122, w_122, a_123, w_123, a_124, w_124, c, tS_lay (o := 3) (t := 3) rfl, gI_lay (t := 3) (o := 3) (k := 3) rfl, u3, pF_lay (t := 3) (o := 3) (k := 2) rfl, s_bclear text_B, s_nb, u4]
    · exact ((r7 c).2 b b1 b2).fr (fun j _ => by rw [up_ne (by omega), up_ne (by omega), up_ne (by omega)])
  · simp only [if_neg c] at pre
    refine ⟨up (up (up C' 0 10 (R.2.1 : Nat)) 3 3 (nb : Nat)) 1 1 0, prM g z g.2.2 d' a' (R.1 : Nat) (R.2.1 : Nat) x' y', fun K => ?_, by show g.2.2 ≤ g.2.2 + 1; omega, fun o h0 h1 h2 h3 => by rw [up_ne h1, up_ne h2, up_ne h0, r1 o h2 h3], fun j hj => by rw [up_ne (by omega), up_ne (by omega), up_nk hj, c00], by rw [if_neg c, up_ne (by omega), up_ne (by omega), up_eq], up_eq, r3.fr (fun o _ _ => by rw [up_ne (by omega), up_ne (by omega), up_ne (by omega)]), by rw [if_neg c, up_ne (by omega), up_nk (by omega), up_ne (by omega), r2]; exact h2, by rw [if_neg c, up_ne (by omega), up_eq], r4, r5, fun q => absurd q c⟩
    have u3 : up C' 0 10 (R.2.1 : Nat) 3 2 = nb := by rw [up_ne (by omega), r2]; exact h2
    have nz : ¬ J (R.1 : Nat) = J 0 := by
      rw [J_eq (by omega) (by
        have : R.1 ≤ 5 := by
          rw [hR]
          exact rnT_f _ _ _ _ _
        omega) (by omega) (by omega)]
      omega
    rw [pre, if_neg c]
    unfold PX2_dropDrafts JX10_books_50
    rw [xbr_neg nz]
    simp (disch := omega) only [J_add, J_sub, J_mul, J_lt, J_le, J_eq, xbr_true, xbr_false, xbr_pos, xbr_neg, Int.toNat_natCast, all_eq, ex_eq, t_0, q_0_0, q_0_1, q_0_2, q_0_3, q_0_4, q_0_5, q_0_6, q_0_7, q_0_8, q_0_9, i_0_10, p_0_10, i_0_11, p_0_11, i_0_12, p_0_12, t_1, q_1_0, t_3, q_3_0, q_3_1, i_3_2, p_3_2, i_3_3, p_3_3, t_80, q_80_0, t_88, q_88_0, t_90, q_90_0, t_92, q_92_0, q_92_1, q_92_2, i_92_3, p_92_3, i_92_4, p_92_4, t_96, q_96_0, i_96_1, p_96_1, i_96_2, p_96_2, i_96_3, p_96_3, t_100, q_100_0, i_100_1, p_100_1, i_100_2, p_100_2, i_100_3, p_100_3, t_104, q_104_1, q_104_2, q_104_3, q_104_4, q_104_5, q_104_6, q_104_8, q_104_9, q_104_11, q_104_12, q_104_18, q_104_21, q_104_22, q_104_23, q_104_24, q_104_26, q_104_27, q_104_28, q_104_30, q_104_31, i_104_0, p_104_0, i_104_7, p_104_7, i_104_10, p_104_10, i_104_13, p_104_13, i_104_14, p_104_14, i_104_15, p_104_15, i_104_16, p_104_16, i_104_17, p_104_17, i_104_19, p_104_19, i_104_20, p_104_20, i_104_25, p_104_25, i_104_29, p_104_29, a_2, w_2, a_81, w_81, a_89, w_89, a_91, w_91, a_93, w_93, a_94, w_94, a_95, w_95, a_105, w_105, a_106, w_106, a_107, w_107, a_108, w_108, a_109, w_109, a_110, w_110, a_111, w_111, a_112, w_112, a_113, w_113, a_114, w_114, a_115, w_115, a_116, w_116, a_117, w_117, a_118, w_118, a_119, w_119, a_120, w_120, a_121, w_121, a_122, w_122, a_123, w_123, a_124, w_124, tS_lay (o := 3) (t := 3) rfl, gI_lay (t := 3) (o := 3) (k := 2) rfl, u3, pF_lay (t := 3) (o := 3) (k := 3) rfl, s_bclear text_B]
end BKS
