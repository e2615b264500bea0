/-! READING A TEXT: whether a mark is told already, by the reference -/
/-- a book of the reference, by itself -/
def RBk (C : Nat → Nat → Int) (b : Nat) : Prop := (0 ≤ ptC C b 0 ∧ ptC C b 0 ≤ 25) ∧ (-1 ≤ ptC C b 1 ∧ ptC C b 1 ≤ 25) ∧ (-1 ≤ ptC C b 10 ∧ ptC C b 10 ≤ 25) ∧ (-1 ≤ ptC C b 15 ∧ ptC C b 15 ≤ 2999) ∧ (1 ≤ C 106 b ∧ C 106 b ≤ 4) ∧ (0 ≤ C 107 b ∧ C 107 b ≤ 4) ∧ (0 ≤ C 108 b ∧ C 108 b ≤ 4) ∧ 1 ≤ ptC C b 2
def keyR (C : Nat → Nat → Int) (b : Nat) : Nat → Int := fun i => if i = 0 then (ptC C b 0 + 1) * 32 + (ptC C b 1 + 1) else if i = 1 then wholeD (fun j => ptC C b (2 + j)) (C 106 b).toNat else if i = 2 then filD (fun j => ptC C b (6 + j)) (C 107 b).toNat else if i = 3 then (ptC C b 10 + 1) * 65536 + filD (fun j => ptC C b (11 + j)) (C 108 b).toNat else ptC C b 15
theorem whole_inj {d d' : Nat → Int} {n n' : Nat} (h1 : 1 ≤ n ∧ n ≤ 4) (h2 : 1 ≤ n' ∧ n' ≤ 4) (hd : ∀ j, j < 4 → 0 ≤ d j ∧ d j ≤ 9) (hd' : ∀ j, j < 4 → 0 ≤ d' j ∧ d' j ≤ 9) (l : 1 ≤ d 0) (l' : 1 ≤ d' 0) (h : wholeD d n = wholeD d' n') : n = n' ∧ ∀ j, j < n → d j = d' j := by
  have a0 := hd 0 (by omega)
  have a1 := hd 1 (by omega)
  have a2 := hd 2 (by omega)
  have a3 := hd 3 (by omega)
  have b0 := hd' 0 (by omega)
  have b1 := hd' 1 (by omega)
  have b2 := hd' 2 (by omega)
  have b3 := hd' 3 (by omega)
  rcases (show n = 1 ∨ n = 2 ∨ n = 3 ∨ n = 4 by omega) with rfl | rfl | rfl | rfl <;> rcases (show n' = 1 ∨ n' = 2 ∨ n' = 3 ∨ n' = 4 by omega) with rfl | rfl | rfl | rfl <;> simp only [wholeD] at h <;> refine ⟨by omega, fun j hj => ?_⟩ <;> rcases (show j = 0 ∨ j = 1 ∨ j = 2 ∨ j = 3 by omega) with rfl | rfl | rfl | rfl <;> omega
theorem fil_inj {d d' : Nat → Int} {n n' : Nat} (h1 : n ≤ 4) (h2 : n' ≤ 4) (hd : ∀ j, j < 4 → 0 ≤ d j ∧ d j ≤ 9) (hd' : ∀ j, j < 4 → 0 ≤ d' j ∧ d' j ≤ 9) (h : filD d n = filD d' n') : n = n' ∧ ∀ j, j < n → d j = d' j := by
  have a0 := hd 0 (by omega)
  have a1 := hd 1 (by omega)
  have a2 := hd 2 (by omega)
  have a3 := hd 3 (by omega)
  have b0 := hd' 0 (by omega)
  have b1 := hd' 1 (by omega)
  have b2 := hd' 2 (by omega)
  have b3 := hd' 3 (by omega)
  rcases n4 h1 with rfl | rfl | rfl | rfl | rfl <;> rcases n4 h2 with rfl | rfl | rfl | rfl | rfl <;> simp [filD, wholeD] at h <;> refine ⟨by omega, fun j hj => ?_⟩ <;> rcases (show j = 0 ∨ j = 1 ∨ j = 2 ∨ j = 3 by omega) with rfl | rfl | rfl | rfl <;> omega
section SAM
variable {z m : Nat} {g : Mem} {C : Nat → Nat → Int} {a b : Nat}
def smZ (C : Nat → Nat → Int) (a b : Nat) : Bool := decide (C 106 a = C 106 b) && (decide (C 107 a = C 107 b) && (decide (C 108 a = C 108 b) && (decide (ptC C a 10 = ptC C b 10) && decide (ptC C a 15 = ptC C b 15))))
def smA (C : Nat → Nat → Int) (a b : Nat) : Nat → Bool
  | 0 => smZ C a b
  | i + 1 => smA C a b i && decide (ptC C a i = ptC C b i)
def smD (C : Nat → Nat → Int) (a b : Nat) : Nat → Bool
  | 0 => smA C a b 2
  | i + 1 => ((smD C a b i && (decide (C 106 a ≤ i) || decide (ptC C a (2 + i) = ptC C b (2 + i)))) && (decide (C 107 a ≤ i) || decide (ptC C a (6 + i) = ptC C b (6 + i)))) && (decide (C 108 a ≤ i) || decide (ptC C a (11 + i) = ptC C b (11 + i)))
theorem sm271 {K : Int32 → Prop} {kc : Int32 × Int32 → Prop} {i : Nat} (hi : i < 4) (ha : a < 24) (hb : b < 24) (h8 : 0 ≤ C 108 a ∧ C 108 a ≤ 4) (da : 0 ≤ ptC C a (11 + i) ∧ ptC C a (11 + i) ≤ 9) (db : 0 ≤ ptC C b (11 + i) ∧ ptC C b (11 + i) ≤ 9) (s : Bool) : JX11_isSame_271 K kc (lay z g C) (ad z 104) (J (a : Nat)) (J (b : Nat)) (J (i : Nat)) (J (if s then 1 else 0)) = kc (J (if (s && (decide (C 108 a ≤ i) || decide (ptC C a (11 + i) = ptC C b (11 + i)))) then 1 else 0), J (i + 1 : Nat)) := by
  have ei : (i : Int) + 1 = ((i + 1 : Nat) : Int) := by omega
  have x11 : (16 * (a : Int) + 11 + (i : Int)).toNat = 16 * a + (11 + i) := by omega
  have y11 : (16 * (b : Int) + 11 + (i : Int)).toNat = 16 * b + (11 + i) := by omega
  have v11 : C 105 (16 * a + (11 + i)) = ptC C a (11 + i) := rfl
  have w11 : C 105 (16 * b + (11 + i)) = ptC C b (11 + i) := rfl
  unfold JX11_isSame_271
  cases s with
  | false =>
    simp only [Bool.false_and, Bool.false_eq_true, if_false]
    simp (disch := omega) only [J_add, J_sub, J_mul, J_lt, J_le, J_eq, xbr_true, xbr_false, xbr_pos, xbr_neg, Int.toNat_natCast, all_eq, ex_eq, t_0, q_0_0, q_0_1, q_0_2, q_0_3, q_0_4, q_0_5, q_0_6, q_0_7, q_0_8, q_0_9, i_0_10, p_0_10, i_0_11, p_0_11, i_0_12, p_0_12, t_1, q_1_0, t_3, q_3_0, q_3_1, i_3_2, p_3_2, i_3_3, p_3_3, t_80, q_80_0, t_88, q_88_0, t_90, q_90_0, t_92, q_92_0, q_92_1, q_92_2, i_92_3, p_92_3, i_92_4, p_92_4, t_96, q_96_0, i_96_1, p_96_1, i_96_2, p_96_2, i_96_3, p_96_3, t_100, q_100_0, i_100_1, p_100_1, i_100_2, p_100_2, i_100_3, p_100_3, t_104, q_104_1, q_104_2, q_104_3, q_104_4, q_104_5, q_104_6, q_104_8, q_104_9, q_104_11, q_104_12, q_104_18, q_104_21, q_104_22, q_104_23, q_104_24, q_104_26, q_104_27, q_104_28, q_104_30, q_104_31, i_104_0, p_104_0, i_104_7, p_104_7, i_104_10, p_104_10, i_104_13, p_104_13, i_104_14, p_104_14, i_104_15, p_104_15, i_104_16, p_104_16, i_104_17, p_104_17, i_104_19, p_104_19, i_104_20, p_104_20, i_104_25, p_104_25, i_104_29, p_104_29, a_2, w_2, a_81, w_81, a_89, w_89, a_91, w_91, a_93, w_93, a_94, w_94, a_95, w_95, a_105, w_105, a_106, w_106, a_107, w_107, a_108, w_108, a_109, w_109, a_110, w_110, a_111, w_111, a_112, w_112, a_113, w_113, a_114, w_114, a_115, w_115, a_116, w_116, a_117, w_117, a_118, w_118, a_119, w_119, a_120, w_120, a_121, w_121, a_122, w_122, a_123, w_123, a_124, w_124, ei]
  | true =>
    by_cases c : C 108 a ≤ i
    · simp only [Bool.true_and, decide_eq_true c, Bool.true_or, if_true]
      simp (disch := omega) only [J_add, J_sub, J_mul, J_lt, J_le, J_eq, xbr_true, xbr_false, xbr_pos, xbr_neg, Int.toNat_natCast, all_eq, ex_eq, t_0, q_0_0, q_0_1, q_0_2, q_0_3, q_0_4, q_0_5, q_0_6, q_0_7, q_0_8, q_0_9, i_0_10, p_0_10, i_0_11, p_0_11, i_0_12, p_0_12, t_1, q_1_0, t_3, q_3_0, q_3_1, i_3_2, p_3_2, i_3_3, p_3_3, t_80, q_80_0, t_88, q_88_0, t_90, q_90_0, t_92, q_92_0, q_92_1, q_92_2, i_92_3, p_92_3, i_92_4, p_92_4, t_96, q_96_0, i_96_1, p_96_1, i_96_2, p_96_2, i_96_3, p_96_3, t_100, q_100_0, i_100_1, p_100_1, i_100_2, p_100_2, i_100_3, p_100_3, t_104, q_104_1, q_104_2, q_104_3, q_104_4, q_104_5, q_104_6, q_104_8, q_104_9, q_104_11, q_104_12, q_104_18, q_104_21, q_104_22, q_104_23, q_104_24, q_104_26, q_104_27, q_104_28, q_104_30, q_104_31, i_104_0, p_104_0, i_104_7, p_104_7, i_104_10, p_104_10, i_104_13, p_104_13, i_104_14, p_104_14, i_104_15, p_104_15, i_104_16, p_104_16, i_104_17, p_104_17, i_104_19, p_104_19, i_104_20, p_104_20, i_104_25, p_104_25, i_104_29, p_104_29, a_2, w_2, a_81, w_81, a_89, w_89, a_91, w_91, a_93, w_93, a_94, w_94, a_95, w_95, a_105, w_105, a_106, w_106, a_107, w_107, a_108, w_108, a_109, w_109, a_110, w_110, a_111, w_111, a_112, w_112, a_113, w_113, a_114, w_114, a_115, w_115, a_116, w_116, a_117, w_117, a_118, w_118, a_119, w_119, a_120, w_120, a_121, w_121, a_122, w_122, a_123, w_123, a_124, w_124, ei]
    · by_cases c2 : ptC C a (11 + i) = ptC C b (11 + i)
      · simp only [Bool.true_and, decide_eq_true c2, Bool.or_true, if_true]
        simp (disch := omega) only [J_add, J_sub, J_mul, J_lt, J_le, J_eq, xbr_true, xbr_false, xbr_pos, xbr_neg, Int.toNat_natCast, all_eq, ex_eq, t_0, q_0_0, q_0_1, q_0_2, q_0_3, q_0_4, q_0_5, q_0_6, q_0_7, q_0_8, q_0_9, i_0_10, p_0_10, i_0_11, p_0_11, i_0_12, p_0_12, t_1, q_1_0, t_3, q_3_0, q_3_1, i_3_2, p_3_2, i_3_3, p_3_3, t_80, q_80_0, t_88, q_88_0, t_90, q_90_0, t_92, q_92_0, q_92_1, q_92_2, i_92_3, p_92_3, i_92_4, p_92_4, t_96, q_96_0, i_96_1, p_96_1, i_96_2, p_96_2, i_96_3, p_96_3, t_100, q_100_0, i_100_1, p_100_1, i_100_2, p_100_2, i_100_3, p_100_3, t_104, q_104_1, q_104_2, q_104_3, q_104_4, q_104_5, q_104_6, q_104_8, q_104_9, q_104_11, q_104_12, q_104_18, q_104_21, q_104_22, q_104_23, q_104_24, q_104_26, q_104_27, q_104_28, q_104_30, q_104_31, i_104_0, p_104_0, i_104_7, p_104_7, i_104_10, p_104_10, i_104_13, p_104_13, i_104_14, p_104_14, i_104_15, p_104_15, i_104_16, p_104_16, i_104_17, p_104_17, i_104_19, p_104_19, i_104_20, p_104_20, i_104_25, p_104_25, i_104_29, p_104_29, a_2, w_2, a_81, w_81, a_89, w_89, a_91, w_91, a_93, w_93, a_94, w_94, a_95, w_95, a_105, w_105, a_106, w_106, a_107, w_107, a_108, w_108, a_109, w_109, a_110, w_110, a_111, w_111, a_112, w_112, a_113, w_113, a_114, w_114, a_115, w_115, a_116, w_116, a_117, w_117, a_118, w_118, a_119, w_119, a_120, w_120, a_121, w_121, a_122, w_122, a_123, w_123, a_124, w_124, x11, y11, v11, w11, c2, ei]
      · simp only [Bool.true_and, decide_eq_false c, decide_eq_false c2, Bool.or_false, if_true, Bool.false_eq_true, if_false]
        simp (disch := omega) only [J_add, J_sub, J_mul, J_lt, J_le, J_eq, xbr_true, xbr_false, xbr_pos, xbr_neg, Int.toNat_natCast, all_eq, ex_eq, t_0, q_0_0, q_0_1, q_0_2, q_0_3, q_0_4, q_0_5, q_0_6, q_0_7, q_0_8, q_0_9, i_0_10, p_0_10, i_0_11, p_0_11, i_0_12, p_0_12, t_1, q_1_0, t_3, q_3_0, q_3_1, i_3_2, p_3_2, i_3_3, p_3_3, t_80, q_80_0, t_88, q_88_0, t_90, q_90_0, t_92, q_92_0, q_92_1, q_92_2, i_92_3, p_92_3, i_92_4, p_92_4, t_96, q_96_0, i_96_1, p_96_1, i_96_2, p_96_2, i_96_3, p_96_3, t_100, q_100_0, i_100_1, p_100_1, i_100_2, p_100_2, i_100_3, p_100_3, t_104, q_104_1, q_104_2, q_104_3, q_104_4, q_104_5, q_104_6, q_104_8, q_104_9, q_104_11, q_104_12, q_104_18, q_104_21, q_104_22, q_104_23, q_104_24, q_104_26, q_104_27, q_104_28, q_104_30, q_104_31, i_104_0, p_104_0, i_104_7, p_104_7, i_104_10, p_104_10, i_104_13, p_104_13, i_104_14, p_104_14, i_104_15, p_104_15, i_104_16, p_104_16, i_104_17, p_104_17, i_104_19, p_104_19, i_104_20, p_104_20, i_104_25, p_104_25, i_104_29, p_104_29, a_2, w_2, a_81, w_81, a_89, w_89, a_91, w_91, a_93, w_93, a_94, w_94, a_95, w_95, a_105, w_105, a_106, w_106, a_107, w_107, a_108, w_108, a_109, w_109, a_110, w_110, a_111, w_111, a_112, w_112, a_113, w_113, a_114, w_114, a_115, w_115, a_116, w_116, a_117, w_117, a_118, w_118, a_119, w_119, a_120, w_120, a_121, w_121, a_122, w_122, a_123, w_123, a_124, w_124, x11, y11, v11, w11, ei]
theorem sm217 {K : Int32 → Prop} {kc : Int32 × Int32 → Prop} {i : Nat} (hi : i < 4) (ha : a < 24) (hb : b < 24) (h7 : 0 ≤ C 107 a ∧ C 107 a ≤ 4) (da : 0 ≤ ptC C a (6 + i) ∧ ptC C a (6 + i) ≤ 9) (db : 0 ≤ ptC C b (6 + i) ∧ ptC C b (6 + i) ≤ 9) (s : Bool) : JX11_isSame_217 K kc (lay z g C) (ad z 104) (J (a : Nat)) (J (b : Nat)) (J (i : Nat)) (J (if s then 1 else 0)) = JX11_isSame_271 K kc (lay z g C) (ad z 104) (J (a : Nat)) (J (b : Nat)) (J (i : Nat)) (J (if (s && (decide (C 107 a ≤ i) || decide (ptC C a (6 + i) = ptC C b (6 + i)))) then 1 else 0)) := by
  have x6 : (16 * (a : Int) + 6 + (i : Int)).toNat = 16 * a + (6 + i) := by omega
  have y6 : (16 * (b : Int) + 6 + (i : Int)).toNat = 16 * b + (6 + i) := by omega
  have v6 : C 105 (16 * a + (6 + i)) = ptC C a (6 + i) := rfl
  have w6 : C 105 (16 * b + (6 + i)) = ptC C b (6 + i) := rfl
  unfold JX11_isSame_217 JX11_isSame_266 JX11_isSame_270
  cases s with
  | false =>
    simp only [Bool.false_and, Bool.false_eq_true, if_false]
    simp (disch := omega) only [J_add, J_sub, J_mul, J_lt, J_le, J_eq, xbr_true, xbr_false, xbr_pos, xbr_neg, Int.toNat_natCast, all_eq, ex_eq, t_0, q_0_0, q_0_1, q_0_2, q_0_3, q_0_4, q_0_5, q_0_6, q_0_7, q_0_8, q_0_9, i_0_10, p_0_10, i_0_11, p_0_11, i_0_12, p_0_12, t_1, q_1_0, t_3, q_3_0, q_3_1, i_3_2, p_3_2, i_3_3, p_3_3, t_80, q_80_0, t_88, q_88_0, t_90, q_90_0, t_92, q_92_0, q_92_1, q_92_2, i_92_3, p_92_3, i_92_4, p_92_4, t_96, q_96_0, i_96_1, p_96_1, i_96_2, p_96_2, i_96_3, p_96_3, t_100, q_100_0, i_100_1, p_100_1, i_100_2, p_100_2, i_100_3, p_100_3, t_104, q_104_1, q_104_2, q_104_3, q_104_4, q_104_5, q_104_6, q_104_8, q_104_9, q_104_11, q_104_12, q_104_18, q_104_21, q_104_22, q_104_23, q_104_24, q_104_26, q_104_27, q_104_28, q_104_30, q_104_31, i_104_0, p_104_0, i_104_7, p_104_7, i_104_10, p_104_10, i_104_13, p_104_13, i_104_14, p_104_14, i_104_15, p_104_15, i_104_16, p_104_16, i_104_17, p_104_17, i_104_19, p_104_19, i_104_20, p_104_20, i_104_25, p_104_25, i_104_29, p_104_29, a_2, w_2, a_81, w_81, a_89, w_89, a_91, w_91, a_93, w_93, a_94, w_94, a_95, w_95, a_105, w_105, a_106, w_106, a_107, w_107, a_108, w_108, a_109, w_109, a_110, w_110, a_111, w_111, a_112, w_112, a_113, w_113, a_114, w_114, a_115, w_115, a_116, w_116, a_117, w_117, a_118, w_118, a_119, w_119, a_120, w_120, a_121, w_121, a_122, w_122, a_123, w_123, a_124, w_124]
  | true =>
    by_cases c : C 107 a ≤ i
    · simp only [Bool.true_and, decide_eq_true c, Bool.true_or, if_true]
      simp (disch := omega) only [J_add, J_sub, J_mul, J_lt, J_le, J_eq, xbr_true, xbr_false, xbr_pos, xbr_neg, Int.toNat_natCast, all_eq, ex_eq, t_0, q_0_0, q_0_1, q_0_2, q_0_3, q_0_4, q_0_5, q_0_6, q_0_7, q_0_8, q_0_9, i_0_10, p_0_10, i_0_11, p_0_11, i_0_12, p_0_12, t_1, q_1_0, t_3, q_3_0, q_3_1, i_3_2, p_3_2, i_3_3, p_3_3, t_80, q_80_0, t_88, q_88_0, t_90, q_90_0, t_92, q_92_0, q_92_1, q_92_2, i_92_3, p_92_3, i_92_4, p_92_4, t_96, q_96_0, i_96_1, p_96_1, i_96_2, p_96_2, i_96_3, p_96_3, t_100, q_100_0, i_100_1, p_100_1, i_100_2, p_100_2, i_100_3, p_100_3, t_104, q_104_1, q_104_2, q_104_3, q_104_4, q_104_5, q_104_6, q_104_8, q_104_9, q_104_11, q_104_12, q_104_18, q_104_21, q_104_22, q_104_23, q_104_24, q_104_26, q_104_27, q_104_28, q_104_30, q_104_31, i_104_0, p_104_0, i_104_7, p_104_7, i_104_10, p_104_10, i_104_13, p_104_13, i_104_14, p_104_14, i_104_15, p_104_15, i_104_16, p_104_16, i_104_17, p_104_17, i_104_19, p_104_19, i_104_20, p_104_20, i_104_25, p_104_25, i_104_29, p_104_29, a_2, w_2, a_81, w_81, a_89, w_89, a_91, w_91, a_93, w_93, a_94, w_94, a_95, w_95, a_105, w_105, a_106, w_106, a_107, w_107, a_108, w_108, a_109, w_109, a_110, w_110, a_111, w_111, a_112, w_112, a_113, w_113, a_114, w_114, a_115, w_115, a_116, w_116, a_117, w_117, a_118, w_118, a_119, w_119, a_120, w_120, a_121, w_121, a_122, w_122, a_123, w_123, a_124, w_124]
    · by_cases c2 : ptC C a (6 + i) = ptC C b (6 + i)
      · simp only [Bool.true_and, decide_eq_true c2, Bool.or_true, if_true]
        simp (disch := omega) only [J_add, J_sub, J_mul, J_lt, J_le, J_eq, xbr_true, xbr_false, xbr_pos, xbr_neg, Int.toNat_natCast, all_eq, ex_eq, t_0, q_0_0, q_0_1, q_0_2, q_0_3, q_0_4, q_0_5, q_0_6, q_0_7, q_0_8, q_0_9, i_0_10, p_0_10, i_0_11, p_0_11, i_0_12, p_0_12, t_1, q_1_0, t_3, q_3_0, q_3_1, i_3_2, p_3_2, i_3_3, p_3_3, t_80, q_80_0, t_88, q_88_0, t_90, q_90_0, t_92, q_92_0, q_92_1, q_92_2, i_92_3, p_92_3, i_92_4, p_92_4, t_96, q_96_0, i_96_1, p_96_1, i_96_2, p_96_2, i_96_3, p_96_3, t_100, q_100_0, i_100_1, p_100_1, i_100_2, p_100_2, i_100_3, p_100_3, t_104, q_104_1, q_104_2, q_104_3, q_104_4, q_104_5, q_104_6, q_104_8, q_104_9, q_104_11, q_104_12, q_104_18, q_104_21, q_104_22, q_104_23, q_104_24, q_104_26, q_104_27, q_104_28, q_104_30, q_104_31, i_104_0, p_104_0, i_104_7, p_104_7, i_104_10, p_104_10, i_104_13, p_104_13, i_104_14, p_104_14, i_104_15, p_104_15, i_104_16, p_104_16, i_104_17, p_104_17, i_104_19, p_104_19, i_104_20, p_104_20, i_104_25, p_104_25, i_104_29, p_104_29, a_2, w_2, a_81, w_81, a_89, w_89, a_91, w_91, a_93, w_93, a_94, w_94, a_95, w_95, a_105, w_105, a_106, w_106, a_107, w_107, a_108, w_108, a_109, w_109, a_110, w_110, a_111, w_111, a_112, w_112, a_113, w_113, a_114, w_114, a_115, w_115, a_116, w_116, a_117, w_117, a_118, w_118, a_119, w_119, a_120, w_120, a_121, w_121, a_122, w_122, a_123, w_123, a_124, w_124, x6, y6, v6, w6, c2]
      · simp only [Bool.true_and, decide_eq_false c, decide_eq_false c2, Bool.or_false, if_true, Bool.false_eq_true, if_false]
        simp (disch := omega) only [J_add, J_sub, J_mul, J_lt, J_le, J_eq, xbr_true, xbr_false, xbr_pos, xbr_neg, Int.toNat_natCast, all_eq, ex_eq, t_0, q_0_0, q_0_1, q_0_2, q_0_3, q_0_4, q_0_5, q_0_6, q_0_7, q_0_8, q_0_9, i_0_10, p_0_10, i_0_11, p_0_11, i_0_12, p_0_12, t_1, q_1_0, t_3, q_3_0, q_3_1, i_3_2, p_3_2, i_3_3, p_3_3, t_80, q_80_0, t_88, q_88_0, t_90, q_90_0, t_92, q_92_0, q_92_1, q_92_2, i_92_3, p_92_3, i_92_4, p_92_4, t_96, q_96_0, i_96_1, p_96_1, i_96_2, p_96_2, i_96_3, p_96_3, t_100, q_100_0, i_100_1, p_100_1, i_100_2, p_100_2, i_100_3, p_100_3, t_104, q_104_1, q_104_2, q_104_3, q_104_4, q_104_5, q_104_6, q_104_8, q_104_9, q_104_11, q_104_12, q_104_18, q_104_21, q_104_22, q_104_23, q_104_24, q_104_26, q_104_27, q_104_28, q_104_30, q_104_31, i_104_0, p_104_0, i_104_7, p_104_7, i_104_10, p_104_10, i_104_13, p_104_13, i_104_14, p_104_14, i_104_15, p_104_15, i_104_16, p_104_16, i_104_17, p_104_17, i_104_19, p_104_19, i_104_20, p_104_20, i_104_25, p_104_25, i_104_29, p_104_29, a_2, w_2, a_81, w_81, a_89, w_89, a_91, w_91, a_93, w_93, a_94, w_94, a_95, w_95, a_105, w_105, a_106, w_106, a_107, w_107, a_108, w_108, a_109, w_109, a_110, w_110, a_111, w_111, a_112, w_112, a_113, w_113, a_114, w_114, a_115, w_115, a_116, w_116, a_117, w_117, a_118, w_118, a_119, w_119, a_120, w_120, a_121, w_121, a_122, w_122, a_123, w_123, a_124, w_124, x6, y6, v6, w6]
theorem sm160 {K : Int32 → Prop} {kc : Int32 × Int32 → Prop} {i : Nat} (hi : i < 4) (ha : a < 24) (hb : b < 24) (h6 : 0 ≤ C 106 a ∧ C 106 a ≤ 4) (da : 0 ≤ ptC C a (2 + i) ∧ ptC C a (2 + i) ≤ 9) (db : 0 ≤ ptC C b (2 + i) ∧ ptC C b (2 + i) ≤ 9) (s : Bool) : BX11_isSame_160 K (lay z g C) (ad z 104) (J (a : Nat)) (J (b : Nat)) kc (J (if s then 1 else 0), J (i : Nat)) = JX11_isSame_217 K kc (lay z g C) (ad z 104) (J (a : Nat)) (J (b : Nat)) (J (i : Nat)) (J (if (s && (decide (C 106 a ≤ i) || decide (ptC C a (2 + i) = ptC C b (2 + i)))) then 1 else 0)) := by
  have x2 : (16 * (a : Int) + 2 + (i : Int)).toNat = 16 * a + (2 + i) := by omega
  have y2 : (16 * (b : Int) + 2 + (i : Int)).toNat = 16 * b + (2 + i) := by omega
  have v2 : C 105 (16 * a + (2 + i)) = ptC C a (2 + i) := rfl
  have w2 : C 105 (16 * b + (2 + i)) = ptC C b (2 + i) := rfl
  unfold BX11_isSame_160 CX11_isSame_160 JX11_isSame_216 JX11_isSame_212
  cases s with
  | false =>
    simp only [Bool.false_and, Bool.false_eq_true, if_false]
    simp (disch := omega) only [J_add, J_sub, J_mul, J_lt, J_le, J_eq, xbr_true, xbr_false, xbr_pos, xbr_neg, Int.toNat_natCast, all_eq, ex_eq, t_0, q_0_0, q_0_1, q_0_2, q_0_3, q_0_4, q_0_5, q_0_6, q_0_7, q_0_8, q_0_9, i_0_10, p_0_10, i_0_11, p_0_11, i_0_12, p_0_12, t_1, q_1_0, t_3, q_3_0, q_3_1, i_3_2, p_3_2, i_3_3, p_3_3, t_80, q_80_0, t_88, q_88_0, t_90, q_90_0, t_92, q_92_0, q_92_1, q_92_2, i_92_3, p_92_3, i_92_4, p_92_4, t_96, q_96_0, i_96_1, p_96_1, i_96_2, p_96_2, i_96_3, p_96_3, t_100, q_100_0, i_100_1, p_100_1, i_100_2, p_100_2, i_100_3, p_100_3, t_104, q_104_1, q_104_2, q_104_3, q_104_4, q_104_5, q_104_6, q_104_8, q_104_9, q_104_11, q_104_12, q_104_18, q_104_21, q_104_22, q_104_23, q_104_24, q_104_26, q_104_27, q_104_28, q_104_30, q_104_31, i_104_0, p_104_0, i_104_7, p_104_7, i_104_10, p_104_10, i_104_13, p_104_13, i_104_14, p_104_14, i_104_15, p_104_15, i_104_16, p_104_16, i_104_17, p_104_17, i_104_19, p_104_19, i_104_20, p_104_20, i_104_25, p_104_25, i_104_29, p_104_29, a_2, w_2, a_81, w_81, a_89, w_89, a_91, w_91, a_93, w_93, a_94, w_94, a_95, w_95, a_105, w_105, a_106, w_106, a_107, w_107, a_108, w_108, a_109, w_109, a_110, w_110, a_111, w_111, a_112, w_112, a_113, w_113, a_114, w_114, a_115, w_115, a_116, w_116, a_117, w_117, a_118, w_118, a_119, w_119, a_120, w_120, a_121, w_121, a_122, w_122, a_123, w_123, a_124, w_124]
  | true =>
    by_cases c : C 106 a ≤ i
    · simp only [Bool.true_and, decide_eq_true c, Bool.true_or, if_true]
      simp (disch := omega) only [J_add, J_sub, J_mul, J_lt, J_le, J_eq, xbr_true, xbr_false, xbr_pos, xbr_neg, Int.toNat_natCast, all_eq, ex_eq, t_0, q_0_0, q_0_1, q_0_2, q_0_3, q_0_4, q_0_5, q_0_6, q_0_7, q_0_8, q_0_9, i_0_10, p_0_10, i_0_11, p_0_11, i_0_12, p_0_12, t_1, q_1_0, t_3, q_3_0, q_3_1, i_3_2, p_3_2, i_3_3, p_3_3, t_80, q_80_0, t_88, q_88_0, t_90, q_90_0, t_92, q_92_0, q_92_1, q_92_2, i_92_3, p_92_3, i_92_4, p_92_4, t_96, q_96_0, i_96_1, p_96_1, i_96_2, p_96_2, i_96_3, p_96_3, t_100, q_100_0, i_100_1, p_100_1, i_100_2, p_100_2, i_100_3, p_100_3, t_104, q_104_1, q_104_2, q_104_3, q_104_4, q_104_5, q_104_6, q_104_8, q_104_9, q_104_11, q_104_12, q_104_18, q_104_21, q_104_22, q_104_23, q_104_24, q_104_26, q_104_27, q_104_28, q_104_30, q_104_31, i_104_0, p_104_0, i_104_7, p_104_7, i_104_10, p_104_10, i_104_13, p_104_13, i_104_14, p_104_14, i_104_15, p_104_15, i_104_16, p_104_16, i_104_17, p_104_17, i_104_19, p_104_19, i_104_20, p_104_20, i_104_25, p_104_25, i_104_29, p_104_29, a_2, w_2, a_81, w_81, a_89, w_89, a_91, w_91, a_93, w_93, a_94, w_94, a_95, w_95, a_105, w_105, a_106, w_106, a_107, w_107, a_108, w_108, a_109, w_109, a_110, w_110, a_111, w_111, a_112, w_112, a_113, w_113, a_114, w_114, a_115, w_115, a_116, w_116, a_117, w_117, a_118, w_118, a_119, w_119, a_120, w_120, a_121, w_121, a_122, w_122, a_123, w_123, a_124, w_124]
    · by_cases c2 : ptC C a (2 + i) = ptC C b (2 + i)
      · simp only [Bool.true_and, decide_eq_true c2, Bool.or_true, if_true]
        simp (disch := omega) only [J_add, J_sub, J_mul, J_lt, J_le, J_eq, xbr_true, xbr_false, xbr_pos, xbr_neg, Int.toNat_natCast, all_eq, ex_eq, t_0, q_0_0, q_0_1, q_0_2, q_0_3, q_0_4, q_0_5, q_0_6, q_0_7, q_0_8, q_0_9, i_0_10, p_0_10, i_0_11, p_0_11, i_0_12, p_0_12, t_1, q_1_0, t_3, q_3_0, q_3_1, i_3_2, p_3_2, i_3_3, p_3_3, t_80, q_80_0, t_88, q_88_0, t_90, q_90_0, t_92, q_92_0, q_92_1, q_92_2, i_92_3, p_92_3, i_92_4, p_92_4, t_96, q_96_0, i_96_1, p_96_1, i_96_2, p_96_2, i_96_3, p_96_3, t_100, q_100_0, i_100_1, p_100_1, i_100_2, p_100_2, i_100_3, p_100_3, t_104, q_104_1, q_104_2, q_104_3, q_104_4, q_104_5, q_104_6, q_104_8, q_104_9, q_104_11, q_104_12, q_104_18, q_104_21, q_104_22, q_104_23, q_104_24, q_104_26, q_104_27, q_104_28, q_104_30, q_104_31, i_104_0, p_104_0, i_104_7, p_104_7, i_104_10, p_104_10, i_104_13, p_104_13, i_104_14, p_104_14, i_104_15, p_104_15, i_104_16, p_104_16, i_104_17, p_104_17, i_104_19, p_104_19, i_104_20, p_104_20, i_104_25, p_104_25, i_104_29, p_104_29, a_2, w_2, a_81, w_81, a_89, w_89, a_91, w_91, a_93, w_93, a_94, w_94, a_95, w_95, a_105, w_105, a_106, w_106, a_107, w_107, a_108, w_108, a_109, w_109, a_110, w_110, a_111, w_111, a_112, w_112, a_113, w_113, a_114, w_114, a_115, w_115, a_116, w_116, a_117, w_117, a_118, w_118, a_119, w_119, a_120, w_120, a_121, w_121, a_122, w_122, a_123, w_123, a_124, w_124, x2, y2, v2, w2, c2]
      · simp only [Bool.true_and, decide_eq_false c, decide_eq_false c2, Bool.or_false, if_true, Bool.false_eq_true, if_false]
        simp (disch := omega) only [J_add, J_sub, J_mul, J_lt, J_le, J_eq, xbr_true, xbr_false, xbr_pos, xbr_neg, Int.toNat_natCast, all_eq, ex_eq, t_0, q_0_0, q_0_1, q_0_2, q_0_3, q_0_4, q_0_5, q_0_6, q_0_7, q_0_8, q_0_9, i_0_10, p_0_10, i_0_11, p_0_11, i_0_12, p_0_12, t_1, q_1_0, t_3, q_3_0, q_3_1, i_3_2, p_3_2, i_3_3, p_3_3, t_80, q_80_0, t_88, q_88_0, t_90, q_90_0, t_92, q_92_0, q_92_1, q_92_2, i_92_3, p_92_3, i_92_4, p_92_4, t_96, q_96_0, i_96_1, p_96_1, i_96_2, p_96_2, i_96_3, p_96_3, t_100, q_100_0, i_100_1, p_100_1, i_100_2, p_100_2, i_100_3, p_100_3, t_104, q_104_1, q_104_2, q_104_3, q_104_4, q_104_5, q_104_6, q_104_8, q_104_9, q_104_11, q_104_12, q_104_18, q_104_21, q_104_22, q_104_23, q_104_24, q_104_26, q_104_27, q_104_28, q_104_30, q_104_31, i_104_0, p_104_0, i_104_7, p_104_7, i_104_10, p_104_10, i_104_13, p_104_13, i_104_14, p_104_14, i_104_15, p_104_15, i_104_16, p_104_16, i_104_17, p_104_17, i_104_19, p_104_19, i_104_20, p_104_20, i_104_25, p_104_25, i_104_29, p_104_29, a_2, w_2, a_81, w_81, a_89, w_89, a_91, w_91, a_93, w_93, a_94, w_94, a_95, w_95, a_105, w_105, a_106, w_106, a_107, w_107, a_108, w_108, a_109, w_109, a_110, w_110, a_111, w_111, a_112, w_112, a_113, w_113, a_114, w_114, a_115, w_115, a_116, w_116, a_117, w_117, a_118, w_118, a_119, w_119, a_120, w_120, a_121, w_121, a_122, w_122, a_123, w_123, a_124, w_124, x2, y2, v2, w2]
theorem sm108 {K : Int32 → Prop} {kc : Int32 × Int32 → Prop} {i : Nat} (hi : i < 2) (ha : a < 24) (hb : b < 24) (da : -1 ≤ ptC C a i ∧ ptC C a i ≤ 25) (db : -1 ≤ ptC C b i ∧ ptC C b i ≤ 25) (s : Bool) : BX11_isSame_108 K (lay z g C) (ad z 104) (J (a : Nat)) (J (b : Nat)) kc (J (if s then 1 else 0), J (i : Nat)) = kc (J (if (s && decide (ptC C a i = ptC C b i)) then 1 else 0), J (i + 1 : Nat)) := by
  have e1 : (16 * (a : Int) + (i : Int)).toNat = 16 * a + i := by omega
  have e2 : (16 * (b : Int) + (i : Int)).toNat = 16 * b + i := by omega
  have p : C 105 (16 * a + i) = ptC C a i := rfl
  have q : C 105 (16 * b + i) = ptC C b i := rfl
  have ei : (i : Int) + 1 = ((i + 1 : Nat) : Int) := by omega
  unfold BX11_isSame_108 CX11_isSame_108
  cases s with
  | false =>
    simp only [Bool.false_and, Bool.false_eq_true, if_false]
    simp (disch := omega) only [J_add, J_sub, J_mul, J_lt, J_le, J_eq, xbr_true, xbr_false, xbr_pos, xbr_neg, Int.toNat_natCast, all_eq, ex_eq, t_0, q_0_0, q_0_1, q_0_2, q_0_3, q_0_4, q_0_5, q_0_6, q_0_7, q_0_8, q_0_9, i_0_10, p_0_10, i_0_11, p_0_11, i_0_12, p_0_12, t_1, q_1_0, t_3, q_3_0, q_3_1, i_3_2, p_3_2, i_3_3, p_3_3, t_80, q_80_0, t_88, q_88_0, t_90, q_90_0, t_92, q_92_0, q_92_1, q_92_2, i_92_3, p_92_3, i_92_4, p_92_4, t_96, q_96_0, i_96_1, p_96_1, i_96_2, p_96_2, i_96_3, p_96_3, t_100, q_100_0, i_100_1, p_100_1, i_100_2, p_100_2, i_100_3, p_100_3, t_104, q_104_1, q_104_2, q_104_3, q_104_4, q_104_5, q_104_6, q_104_8, q_104_9, q_104_11, q_104_12, q_104_18, q_104_21, q_104_22, q_104_23, q_104_24, q_104_26, q_104_27, q_104_28, q_104_30, q_104_31, i_104_0, p_104_0, i_104_7, p_104_7, i_104_10, p_104_10, i_104_13, p_104_13, i_104_14, p_104_14, i_104_15, p_104_15, i_104_16, p_104_16, i_104_17, p_104_17, i_104_19, p_104_19, i_104_20, p_104_20, i_104_25, p_104_25, i_104_29, p_104_29, a_2, w_2, a_81, w_81, a_89, w_89, a_91, w_91, a_93, w_93, a_94, w_94, a_95, w_95, a_105, w_105, a_106, w_106, a_107, w_107, a_108, w_108, a_109, w_109, a_110, w_110, a_111, w_111, a_112, w_112, a_113, w_113, a_114, w_114, a_115, w_115, a_116, w_116, a_117, w_117, a_118, w_118, a_119, w_119, a_120, w_120, a_121, w_121, a_122, w_122, a_123, w_123, a_124, w_124, ei]
  | true =>
    by_cases c : ptC C a i = ptC C b i
    · simp only [Bool.true_and, decide_eq_true c, if_true]
      simp (disch := omega) only [J_add, J_sub, J_mul, J_lt, J_le, J_eq, xbr_true, xbr_false, xbr_pos, xbr_neg, Int.toNat_natCast, all_eq, ex_eq, t_0, q_0_0, q_0_1, q_0_2, q_0_3, q_0_4, q_0_5, q_0_6, q_0_7, q_0_8, q_0_9, i_0_10, p_0_10, i_0_11, p_0_11, i_0_12, p_0_12, t_1, q_1_0, t_3, q_3_0, q_3_1, i_3_2, p_3_2, i_3_3, p_3_3, t_80, q_80_0, t_88, q_88_0, t_90, q_90_0, t_92, q_92_0, q_92_1, q_92_2, i_92_3, p_92_3, i_92_4, p_92_4, t_96, q_96_0, i_96_1, p_96_1, i_96_2, p_96_2, i_96_3, p_96_3, t_100, q_100_0, i_100_1, p_100_1, i_100_2, p_100_2, i_100_3, p_100_3, t_104, q_104_1, q_104_2, q_104_3, q_104_4, q_104_5, q_104_6, q_104_8, q_104_9, q_104_11, q_104_12, q_104_18, q_104_21, q_104_22, q_104_23, q_104_24, q_104_26, q_104_27, q_104_28, q_104_30, q_104_31, i_104_0, p_104_0, i_104_7, p_104_7, i_104_10, p_104_10, i_104_13, p_104_13, i_104_14, p_104_14, i_104_15, p_104_15, i_104_16, p_104_16, i_104_17, p_104_17, i_104_19, p_104_19, i_104_20, p_104_20, i_104_25, p_104_25, i_104_29, p_104_29, a_2, w_2, a_81, w_81, a_89, w_89, a_91, w_91, a_93, w_93, a_94, w_94, a_95, w_95, a_105, w_105, a_106, w_106, a_107, w_107, a_108, w_108, a_109, w_109, a_110, w_110, a_111, w_111, a_112, w_112, a_113, w_113, a_114, w_114, a_115, w_115, a_116, w_116, a_117, w_117, a_118, w_118, a_119, w_119, a_120, w_120, a_121, w_121, a_122, w_122, a_123, w_123, a_124, w_124, e1, e2, p, q, c, ei]
    · simp only [Bool.true_and, decide_eq_false c, if_true, Bool.false_eq_true, if_false]
      simp (disch := omega) only [J_add, J_sub, J_mul, J_lt, J_le, J_eq, xbr_true, xbr_false, xbr_pos, xbr_neg, Int.toNat_natCast, all_eq, ex_eq, t_0, q_0_0, q_0_1, q_0_2, q_0_3, q_0_4, q_0_5, q_0_6, q_0_7, q_0_8, q_0_9, i_0_10, p_0_10, i_0_11, p_0_11, i_0_12, p_0_12, t_1, q_1_0, t_3, q_3_0, q_3_1, i_3_2, p_3_2, i_3_3, p_3_3, t_80, q_80_0, t_88, q_88_0, t_90, q_90_0, t_92, q_92_0, q_92_1, q_92_2, i_92_3, p_92_3, i_92_4, p_92_4, t_96, q_96_0, i_96_1, p_96_1, i_96_2, p_96_2, i_96_3, p_96_3, t_100, q_100_0, i_100_1, p_100_1, i_100_2, p_100_2, i_100_3, p_100_3, t_104, q_104_1, q_104_2, q_104_3, q_104_4, q_104_5, q_104_6, q_104_8, q_104_9, q_104_11, q_104_12, q_104_18, q_104_21, q_104_22, q_104_23, q_104_24, q_104_26, q_104_27, q_104_28, q_104_30, q_104_31, i_104_0, p_104_0, i_104_7, p_104_7, i_104_10, p_104_10, i_104_13, p_104_13, i_104_14, p_104_14, i_104_15, p_104_15, i_104_16, p_104_16, i_104_17, p_104_17, i_104_19, p_104_19, i_104_20, p_104_20, i_104_25, p_104_25, i_104_29, p_104_29, a_2, w_2, a_81, w_81, a_89, w_89, a_91, w_91, a_93, w_93, a_94, w_94, a_95, w_95, a_105, w_105, a_106, w_106, a_107, w_107, a_108, w_108, a_109, w_109, a_110, w_110, a_111, w_111, a_112, w_112, a_113, w_113, a_114, w_114, a_115, w_115, a_116, w_116, a_117, w_117, a_118, w_118, a_119, w_119, a_120, w_120, a_121, w_121, a_122, w_122, a_123, w_123, a_124, w_124, e1, e2, p, q, ei]
theorem sm104 {K : Int32 → Prop} (ra : RBk C a) (rb : RBk C b) (hD : GDig C) (ha : a < 24) (hb : b < 24) {s : Bool} (hs : s = smZ C a b) : JX11_isSame_104 K (lay z g C) (ad z 104) (J (a : Nat)) (J (b : Nat)) (J (if s then 1 else 0)) = K (J (if smD C a b 4 then 1 else 0)) := by
  obtain ⟨a0, a1, a10, a15, a6, a7, a8, aL⟩ := ra
  obtain ⟨b0, b1, b10, b15, b6, b7, b8, bL⟩ := rb
  unfold JX11_isSame_104
  have st : (J (if s then 1 else 0), J 0) = (fun i : Nat => (J (if smA C a b i then 1 else 0), J (i : Int))) 0 := by rw [hs]; rfl
  rw [st]
  refine lp_for (fun i : Nat => (J (if smA C a b i then 1 else 0), J (i : Int))) 0 2 _ (by omega) ?_ ?_
  · intro i _ hi kc
    have ra' : -1 ≤ ptC C a i ∧ ptC C a i ≤ 25 := by
      rcases (show i = 0 ∨ i = 1 by omega) with rfl | rfl
      · omega
      · omega
    have rb' : -1 ≤ ptC C b i ∧ ptC C b i ≤ 25 := by
      rcases (show i = 0 ∨ i = 1 by omega) with rfl | rfl
      · omega
      · omega
    exact sm108 hi ha hb ra' rb' _
  · intro kc
    unfold BX11_isSame_108 CX11_isSame_108
    simp (disch := omega) only [J_add, J_sub, J_mul, J_lt, J_le, J_eq, xbr_true, xbr_false, xbr_pos, xbr_neg, Int.toNat_natCast, all_eq, ex_eq]
    have st2 : (J (if smA C a b 2 then 1 else 0), J 0) = (fun i : Nat => (J (if smD C a b i then 1 else 0), J (i : Int))) 0 := rfl
    rw [st2]
    refine lp_for (fun i : Nat => (J (if smD C a b i then 1 else 0), J (i : Int))) 0 4 _ (by omega) ?_ ?_
    · intro i _ hi kc
      have h1 := sm160 (z := z) (g := g) (K := K) (kc := kc) hi ha hb (by omega) (hD a ha (2 + i) (by omega)) (hD b hb (2 + i) (by omega)) (smD C a b i)
      rw [sm217 hi ha hb (by omega) (hD a ha (6 + i) (by omega)) (hD b hb (6 + i) (by omega)), sm271 hi ha hb (by omega) (hD a ha (11 + i) (by omega)) (hD b hb (11 + i) (by omega))] at h1
      exact h1
    · intro kc
      unfold BX11_isSame_160 CX11_isSame_160
      simp (disch := omega) only [J_add, J_sub, J_mul, J_lt, J_le, J_eq, xbr_true, xbr_false, xbr_pos, xbr_neg, Int.toNat_natCast, all_eq, ex_eq, isBz, true_and]
theorem m_isSame {K : Int32 → Prop} (ra : RBk C a) (rb : RBk C b) (hD : GDig C) (ha : a < 24) (hb : b < 24) : PX11_isSame (ad z 104) (J (a : Nat)) (J (b : Nat)) (lay z g C) K = K (J (if smD C a b 4 then 1 else 0)) := by
  have go := fun (s : Bool) hs => sm104 (z := z) (g := g) (K := K) (s := s) ra rb hD ha hb hs
  have go1 := go true
  have go0 := go false
  simp only [if_true] at go1
  simp only [Bool.false_eq_true, if_false] at go0
  obtain ⟨a0, a1, a10, a15, a6, a7, a8, aL⟩ := ra
  obtain ⟨b0, b1, b10, b15, b6, b7, b8, bL⟩ := rb
  have t10 : (16 * (a : Int) + 10).toNat = 16 * a + 10 := by omega
  have u10 : (16 * (b : Int) + 10).toNat = 16 * b + 10 := by omega
  have t15 : (16 * (a : Int) + 15).toNat = 16 * a + 15 := by omega
  have u15 : (16 * (b : Int) + 15).toNat = 16 * b + 15 := by omega
  have p10 : C 105 (16 * a + 10) = ptC C a 10 := rfl
  have q10 : C 105 (16 * b + 10) = ptC C b 10 := rfl
  have p15 : C 105 (16 * a + 15) = ptC C a 15 := rfl
  have q15 : C 105 (16 * b + 15) = ptC C b 15 := rfl
  unfold PX11_isSame JX11_isSame_103
  by_cases c1 : C 106 a = C 106 b
  · by_cases c2 : C 107 a = C 107 b
    · by_cases c3 : C 108 a = C 108 b
      · by_cases c4 : ptC C a 10 = ptC C b 10
        · by_cases c5 : ptC C a 15 = ptC C b 15
          · simp (disch := omega) only [J_add, J_sub, J_mul, J_lt, J_le, J_eq, xbr_true, xbr_false, xbr_pos, xbr_neg, Int.toNat_natCast, all_eq, ex_eq, t_0, q_0_0, q_0_1, q_0_2, q_0_3, q_0_4, q_0_5, q_0_6, q_0_7, q_0_8, q_0_9, i_0_10, p_0_10, i_0_11, p_0_11, i_0_12, p_0_12, t_1, q_1_0, t_3, q_3_0, q_3_1, i_3_2, p_3_2, i_3_3, p_3_3, t_80, q_80_0, t_88, q_88_0, t_90, q_90_0, t_92, q_92_0, q_92_1, q_92_2, i_92_3, p_92_3, i_92_4, p_92_4, t_96, q_96_0, i_96_1, p_96_1, i_96_2, p_96_2, i_96_3, p_96_3, t_100, q_100_0, i_100_1, p_100_1, i_100_2, p_100_2, i_100_3, p_100_3, t_104, q_104_1, q_104_2, q_104_3, q_104_4, q_104_5, q_104_6, q_104_8, q_104_9, q_104_11, q_104_12, q_104_18, q_104_21, q_104_22, q_104_23, q_104_24, q_104_26, q_104_27, q_104_28, q_104_30, q_104_31, i_104_0, p_104_0, i_104_7, p_104_7, i_104_10, p_104_10, i_104_13, p_104_13, i_104_14, p_104_14, i_104_15, p_104_15, i_104_16, p_104_16, i_104_17, p_104_17, i_104_19, p_104_19, i_104_20, p_104_20, i_104_25, p_104_25, i_104_29, p_104_29, a_2, w_2, a_81, w_81, a_89, w_89, a_91, w_91, a_93, w_93, a_94, w_94, a_95, w_95, a_105, w_105, a_106, w_106, a_107, w_107, a_108, w_108, a_109, w_109, a_110, w_110, a_111, w_111, a_112, w_112, a_113, w_113, a_114, w_114, a_115, w_115, a_116, w_116, a_117, w_117, a_118, w_118, a_119, w_119, a_120, w_120, a_121, w_121, a_122, w_122, a_123, w_123, a_124, w_124, t10, u10, t15, u15, p10, q10, p15, q15, c1, c2, c3, c4, c5]
            exact go1 (by unfold smZ; simp [c1, c2, c3, c4, c5])
          · simp (disch := omega) only [J_add, J_sub, J_mul, J_lt, J_le, J_eq, xbr_true, xbr_false, xbr_pos, xbr_neg, Int.toNat_natCast, all_eq, ex_eq, t_0, q_0_0, q_0_1, q_0_2, q_0_3, q_0_4, q_0_5, q_0_6, q_0_7, q_0_8, q_0_9, i_0_10, p_0_10, i_0_11, p_0_11, i_0_12, p_0_12, t_1, q_1_0, t_3, q_3_0, q_3_1, i_3_2, p_3_2, i_3_3, p_3_3, t_80, q_80_0, t_88, q_88_0, t_90, q_90_0, t_92, q_92_0, q_92_1, q_92_2, i_92_3, p_92_3, i_92_4, p_92_4, t_96, q_96_0, i_96_1, p_96_1, i_96_2, p_96_2, i_96_3, p_96_3, t_100, q_100_0, i_100_1, p_100_1, i_100_2, p_100_2, i_100_3, p_100_3, t_104, q_104_1, q_104_2, q_104_3, q_104_4, q_104_5, q_104_6, q_104_8, q_104_9, q_104_11, q_104_12, q_104_18, q_104_21, q_104_22, q_104_23, q_104_24, q_104_26, q_104_27, q_104_28, q_104_30, q_104_31, i_104_0, p_104_0, i_104_7, p_104_7, i_104_10, p_104_10, i_104_13, p_104_13, i_104_14, p_104_14, i_104_15, p_104_15, i_104_16, p_104_16, i_104_17, p_104_17, i_104_19, p_104_19, i_104_20, p_104_20, i_104_25, p_104_25, i_104_29, p_104_29, a_2, w_2, a_81, w_81, a_89, w_89, a_91, w_91, a_93, w_93, a_94, w_94, a_95, w_95, a_105, w_105, a_106, w_106, a_107, w_107, a_108, w_108, a_109, w_109, a_110, w_110, a_111, w_111, a_112, w_112, a_113, w_113, a_114, w_114, a_115, w_115, a_116, w_116, a_117, w_117, a_118, w_118, a_119, w_119, a_120, w_120, a_121, w_121, a_122, w_122, a_123, w_123, a_124, w_124, t10, u10, t15, u15, p10, q10, p15, q15, c1, c2, c3, c4]
            exact go0 (by unfold smZ; simp [c5])
        · simp (disch := omega) only [J_add, J_sub, J_mul, J_lt, J_le, J_eq, xbr_true, xbr_false, xbr_pos, xbr_neg, Int.toNat_natCast, all_eq, ex_eq, t_0, q_0_0, q_0_1, q_0_2, q_0_3, q_0_4, q_0_5, q_0_6, q_0_7, q_0_8, q_0_9, i_0_10, p_0_10, i_0_11, p_0_11, i_0_12, p_0_12, t_1, q_1_0, t_3, q_3_0, q_3_1, i_3_2, p_3_2, i_3_3, p_3_3, t_80, q_80_0, t_88, q_88_0, t_90, q_90_0, t_92, q_92_0, q_92_1, q_92_2, i_92_3, p_92_3, i_92_4, p_92_4, t_96, q_96_0, i_96_1, p_96_1, i_96_2, p_96_2, i_96_3, p_96_3, t_100, q_100_0, i_100_1, p_100_1, i_100_2, p_100_2, i_100_3, p_100_3, t_104, q_104_1, q_104_2, q_104_3, q_104_4, q_104_5, q_104_6, q_104_8, q_104_9, q_104_11, q_104_12, q_104_18, q_104_21, q_104_22, q_104_23, q_104_24, q_104_26, q_104_27, q_104_28, q_104_30, q_104_31, i_104_0, p_104_0, i_104_7, p_104_7, i_104_10, p_104_10, i_104_13, p_104_13, i_104_14, p_104_14, i_104_15, p_104_15, i_104_16, p_104_16, i_104_17, p_104_17, i_104_19, p_104_19, i_104_20, p_104_20, i_104_25, p_104_25, i_104_29, p_104_29, a_2, w_2, a_81, w_81, a_89, w_89, a_91, w_91, a_93, w_93, a_94, w_94, a_95, w_95, a_105, w_105, a_106, w_106, a_107, w_107, a_108, w_108, a_109, w_109, a_110, w_110, a_111, w_111, a_112, w_112, a_113, w_113, a_114, w_114, a_115, w_115, a_116, w_116, a_117, w_117, a_118, w_118, a_119, w_119, a_120, w_120, a_121, w_121, a_122, w_122, a_123, w_123, a_124, w_124, t10, u10, p10, q10, c1, c2, c3]
          exact go0 (by unfold smZ; simp [c4])
      · simp (disch := omega) only [J_add, J_sub, J_mul, J_lt, J_le, J_eq, xbr_true, xbr_false, xbr_pos, xbr_neg, Int.toNat_natCast, all_eq, ex_eq, t_0, q_0_0, q_0_1, q_0_2, q_0_3, q_0_4, q_0_5, q_0_6, q_0_7, q_0_8, q_0_9, i_0_10, p_0_10, i_0_11, p_0_11, i_0_12, p_0_12, t_1, q_1_0, t_3, q_3_0, q_3_1, i_3_2, p_3_2, i_3_3, p_3_3, t_80, q_80_0, t_88, q_88_0, t_90, q_90_0, t_92, q_92_0, q_92_1, q_92_2, i_92_3, p_92_3, i_92_4, p_92_4, t_96, q_96_0, i_96_1, p_96_1, i_96_2, p_96_2, i_96_3, p_96_3, t_100, q_100_0, i_100_1, p_100_1, i_100_2, p_100_2, i_100_3, p_100_3, t_104, q_104_1, q_104_2, q_104_3, q_104_4, q_104_5, q_104_6, q_104_8, q_104_9, q_104_11, q_104_12, q_104_18, q_104_21, q_104_22, q_104_23, q_104_24, q_104_26, q_104_27, q_104_28, q_104_30, q_104_31, i_104_0, p_104_0, i_104_7, p_104_7, i_104_10, p_104_10, i_104_13, p_104_13, i_104_14, p_104_14, i_104_15, p_104_15, i_104_16, p_104_16, i_104_17, p_104_17, i_104_19, p_104_19, i_104_20, p_104_20, i_104_25, p_104_25, i_104_29, p_104_29, a_2, w_2, a_81, w_81, a_89, w_89, a_91, w_91, a_93, w_93, a_94, w_94, a_95, w_95, a_105, w_105, a_106, w_106, a_107, w_107, a_108, w_108, a_109, w_109, a_110, w_110, a_111, w_111, a_112, w_112, a_113, w_113, a_114, w_114, a_115, w_115, a_116, w_116, a_117, w_117, a_118, w_118, a_119, w_119, a_120, w_120, a_121, w_121, a_122, w_122, a_123, w_123, a_124, w_124, c1, c2]
        exact go0 (by unfold smZ; simp [c3])
    · simp (disch := omega) only [J_add, J_sub, J_mul, J_lt, J_le, J_eq, xbr_true, xbr_false, xbr_pos, xbr_neg, Int.toNat_natCast, all_eq, ex_eq, t_0, q_0_0, q_0_1, q_0_2, q_0_3, q_0_4, q_0_5, q_0_6, q_0_7, q_0_8, q_0_9, i_0_10, p_0_10, i_0_11, p_0_11, i_0_12, p_0_12, t_1, q_1_0, t_3, q_3_0, q_3_1, i_3_2, p_3_2, i_3_3, p_3_3, t_80, q_80_0, t_88, q_88_0, t_90, q_90_0, t_92, q_92_0, q_92_1, q_92_2, i_92_3, p_92_3, i_92_4, p_92_4, t_96, q_96_0, i_96_1, p_96_1, i_96_2, p_96_2, i_96_3, p_96_3, t_100, q_100_0, i_100_1, p_100_1, i_100_2, p_100_2, i_100_3, p_100_3, t_104, q_104_1, q_104_2, q_104_3, q_104_4, q_104_5, q_104_6, q_104_8, q_104_9, q_104_11, q_104_12, q_104_18, q_104_21, q_104_22, q_104_23, q_104_24, q_104_26, q_104_27, q_104_28, q_104_30, q_104_31, i_104_0, p_104_0, i_104_7, p_104_7, i_104_10, p_104_10, i_104_13, p_104_13, i_104_14, p_104_14, i_104_15, p_104_15, i_104_16, p_104_16, i_104_17, p_104_17, i_104_19, p_104_19, i_104_20, p_104_20, i_104_25, p_104_25, i_104_29, p_104_29, a_2, w_2, a_81, w_81, a_89, w_89, a_91, w_91, a_93, w_93, a_94, w_94, a_95, w_95, a_105, w_105, a_106, w_106, a_107, w_107, a_108, w_108, a_109, w_109, a_110, w_110, a_111, w_111, a_112, w_112, a_113, w_113, a_114, w_114, a_115, w_115, a_116, w_116, a_117, w_117, a_118, w_118, a_119, w_119, a_120, w_120, a_121, w_121, a_122, w_122, a_123, w_123, a_124, w_124, c1]
      exact go0 (by unfold smZ; simp [c2])
  · simp (disch := omega) only [J_add, J_sub, J_mul, J_lt, J_le, J_eq, xbr_true, xbr_false, xbr_pos, xbr_neg, Int.toNat_natCast, all_eq, ex_eq, t_0, q_0_0, q_0_1, q_0_2, q_0_3, q_0_4, q_0_5, q_0_6, q_0_7, q_0_8, q_0_9, i_0_10, p_0_10, i_0_11, p_0_11, i_0_12, p_0_12, t_1, q_1_0, t_3, q_3_0, q_3_1, i_3_2, p_3_2, i_3_3, p_3_3, t_80, q_80_0, t_88, q_88_0, t_90, q_90_0, t_92, q_92_0, q_92_1, q_92_2, i_92_3, p_92_3, i_92_4, p_92_4, t_96, q_96_0, i_96_1, p_96_1, i_96_2, p_96_2, i_96_3, p_96_3, t_100, q_100_0, i_100_1, p_100_1, i_100_2, p_100_2, i_100_3, p_100_3, t_104, q_104_1, q_104_2, q_104_3, q_104_4, q_104_5, q_104_6, q_104_8, q_104_9, q_104_11, q_104_12, q_104_18, q_104_21, q_104_22, q_104_23, q_104_24, q_104_26, q_104_27, q_104_28, q_104_30, q_104_31, i_104_0, p_104_0, i_104_7, p_104_7, i_104_10, p_104_10, i_104_13, p_104_13, i_104_14, p_104_14, i_104_15, p_104_15, i_104_16, p_104_16, i_104_17, p_104_17, i_104_19, p_104_19, i_104_20, p_104_20, i_104_25, p_104_25, i_104_29, p_104_29, a_2, w_2, a_81, w_81, a_89, w_89, a_91, w_91, a_93, w_93, a_94, w_94, a_95, w_95, a_105, w_105, a_106, w_106, a_107, w_107, a_108, w_108, a_109, w_109, a_110, w_110, a_111, w_111, a_112, w_112, a_113, w_113, a_114, w_114, a_115, w_115, a_116, w_116, a_117, w_117, a_118, w_118, a_119, w_119, a_120, w_120, a_121, w_121, a_122, w_122, a_123, w_123, a_124, w_124]
    exact go0 (by unfold smZ; simp [c1])
theorem sm_iff (ra : RBk C a) (rb : RBk C b) (hD : GDig C) (ha : a < 24) (hb : b < 24) : smD C a b 4 = true ↔ eqK (keyR C a) (keyR C b) = true := by
  have d2 : ∀ x, x < 24 → ∀ j, j < 4 → 0 ≤ ptC C x (2 + j) ∧ ptC C x (2 + j) ≤ 9 := fun x hx j hj => hD x hx _ (by omega)
  have d6 : ∀ x, x < 24 → ∀ j, j < 4 → 0 ≤ ptC C x (6 + j) ∧ ptC C x (6 + j) ≤ 9 := fun x hx j hj => hD x hx _ (by omega)
  have d11 : ∀ x, x < 24 → ∀ j, j < 4 → 0 ≤ ptC C x (11 + j) ∧ ptC C x (11 + j) ≤ 9 := fun x hx j hj => hD x hx _ (by omega)
  obtain ⟨a0, a1, a10, a15, a6, a7, a8, aL⟩ := ra
  obtain ⟨b0, b1, b10, b15, b6, b7, b8, bL⟩ := rb
  have kr : ∀ x, keyR C x 0 = (ptC C x 0 + 1) * 32 + (ptC C x 1 + 1) ∧ keyR C x 1 = wholeD (fun j => ptC C x (2 + j)) (C 106 x).toNat ∧ keyR C x 2 = filD (fun j => ptC C x (6 + j)) (C 107 x).toNat ∧ keyR C x 3 = (ptC C x 10 + 1) * 65536 + filD (fun j => ptC C x (11 + j)) (C 108 x).toNat ∧ keyR C x 4 = ptC C x 15 := fun x => ⟨rfl, rfl, rfl, rfl, rfl⟩
  obtain ⟨ka0, ka1, ka2, ka3, ka4⟩ := kr a
  obtain ⟨kb0, kb1, kb2, kb3, kb4⟩ := kr b
  have fa := filD_r (n := (C 108 a).toNat) (by omega) (d11 a ha)
  have fb := filD_r (n := (C 108 b).toNat) (by omega) (d11 b hb)
  rw [eqK_iff]
  simp only [smD, smA, smZ, Bool.and_eq_true, Bool.or_eq_true, decide_eq_true_eq]
  constructor
  · rintro ⟨⟨⟨⟨⟨⟨⟨⟨⟨⟨⟨⟨⟨⟨⟨h1, h2, h3, h4, h5⟩, p0⟩, p1⟩, n0⟩, e0⟩, c0⟩, n1⟩, e1⟩, c1⟩, n2⟩, e2⟩, c2⟩, n3⟩, e3⟩, c3⟩ i hi
    rcases (show i = 0 ∨ i = 1 ∨ i = 2 ∨ i = 3 ∨ i = 4 by omega) with rfl | rfl | rfl | rfl | rfl
    · rw [ka0, kb0, p0, p1]
    · rw [ka1, kb1, ← h1]
      refine wh_congr fun j hj => ?_
      show ptC C a (2 + j) = ptC C b (2 + j)
      rcases (show j = 0 ∨ j = 1 ∨ j = 2 ∨ j = 3 by omega) with rfl | rfl | rfl | rfl
      · rcases n0 with q | q; omega; exact q
      · rcases n1 with q | q; omega; exact q
      · rcases n2 with q | q; omega; exact q
      · rcases n3 with q | q; omega; exact q
    · rw [ka2, kb2, ← h2]
      refine fil_congr fun j hj => ?_
      show ptC C a (6 + j) = ptC C b (6 + j)
      rcases (show j = 0 ∨ j = 1 ∨ j = 2 ∨ j = 3 by omega) with rfl | rfl | rfl | rfl
      · rcases e0 with q | q; omega; exact q
      · rcases e1 with q | q; omega; exact q
      · rcases e2 with q | q; omega; exact q
      · rcases e3 with q | q; omega; exact q
    · rw [ka3, kb3, ← h3, h4]
      have : filD (fun j => ptC C a (11 + j)) (C 108 a).toNat = filD (fun j => ptC C b (11 + j)) (C 108 a).toNat := fil_congr fun j hj => by
        show ptC C a (11 + j) = ptC C b (11 + j)
        rcases (show j = 0 ∨ j = 1 ∨ j = 2 ∨ j = 3 by omega) with rfl | rfl | rfl | rfl
        · rcases c0 with q | q; omega; exact q
        · rcases c1 with q | q; omega; exact q
        · rcases c2 with q | q; omega; exact q
        · rcases c3 with q | q; omega; exact q
      rw [this]
    · rw [ka4, kb4, h5]
  · intro h
    have k0 := h 0 (by omega)
    have k1 := h 1 (by omega)
    have k2 := h 2 (by omega)
    have k3 := h 3 (by omega)
    have k4 := h 4 (by omega)
    rw [ka0, kb0] at k0
    rw [ka1, kb1] at k1
    rw [ka2, kb2] at k2
    rw [ka3, kb3] at k3
    rw [ka4, kb4] at k4
    obtain ⟨w1, w2⟩ := whole_inj (by omega) (by omega) (d2 a ha) (d2 b hb) aL bL k1
    obtain ⟨f1, f2⟩ := fil_inj (by omega) (by omega) (d6 a ha) (d6 b hb) k2
    have e10 : ptC C a 10 = ptC C b 10 := by omega
    have k3' : filD (fun j => ptC C a (11 + j)) (C 108 a).toNat = filD (fun j => ptC C b (11 + j)) (C 108 b).toNat := by omega
    obtain ⟨g1, g2⟩ := fil_inj (by omega) (by omega) (d11 a ha) (d11 b hb) k3'
    have D2 : ∀ j : Nat, j < 4 → C 106 a ≤ (j : Int) ∨ ptC C a (2 + j) = ptC C b (2 + j) := fun j hj => by
      by_cases q : C 106 a ≤ (j : Int)
      · exact Or.inl q
      · exact Or.inr (w2 j (by omega))
    have D6 : ∀ j : Nat, j < 4 → C 107 a ≤ (j : Int) ∨ ptC C a (6 + j) = ptC C b (6 + j) := fun j hj => by
      by_cases q : C 107 a ≤ (j : Int)
      · exact Or.inl q
      · exact Or.inr (f2 j (by omega))
    have D11 : ∀ j : Nat, j < 4 → C 108 a ≤ (j : Int) ∨ ptC C a (11 + j) = ptC C b (11 + j) := fun j hj => by
      by_cases q : C 108 a ≤ (j : Int)
      · exact Or.inl q
      · exact Or.inr (g2 j (by omega))
    exact ⟨⟨⟨⟨⟨⟨⟨⟨⟨⟨⟨⟨⟨⟨⟨by omega, by omega, by omega, e10, k4⟩, by omega⟩, by omega⟩, D2 0 (by omega)⟩, D6 0 (by omega)⟩, D11 0 (by omega)⟩, D2 1 (by omega)⟩, D6 1 (by omega)⟩, D11 1 (by omega)⟩, D2 2 (by omega)⟩, D6 2 (by omega)⟩, D11 2 (by omega)⟩, D2 3 (by omega)⟩, D6 3 (by omega)⟩, D11 3 (by omega)⟩
theorem m_isTold {K : Int32 → Prop} (h16 : C 104 16 = m) (hm : m < 24) (hR : ∀ b, b ≤ m → RBk C b) (hD : GDig C) : PX11_isTold (ad z 104) (lay z g C) K = K (J (if tld (keyR C) m (keyR C m) then 1 else 0)) := by
  have hF := fst1_le m (fun b => eqK (keyR C b) (keyR C m))
  unfold PX11_isTold
  simp (disch := omega) only [J_add, J_sub, J_mul, J_lt, J_le, J_eq, xbr_true, xbr_false, xbr_pos, xbr_neg, Int.toNat_natCast, all_eq, ex_eq, t_0, q_0_0, q_0_1, q_0_2, q_0_3, q_0_4, q_0_5, q_0_6, q_0_7, q_0_8, q_0_9, i_0_10, p_0_10, i_0_11, p_0_11, i_0_12, p_0_12, t_1, q_1_0, t_3, q_3_0, q_3_1, i_3_2, p_3_2, i_3_3, p_3_3, t_80, q_80_0, t_88, q_88_0, t_90, q_90_0, t_92, q_92_0, q_92_1, q_92_2, i_92_3, p_92_3, i_92_4, p_92_4, t_96, q_96_0, i_96_1, p_96_1, i_96_2, p_96_2, i_96_3, p_96_3, t_100, q_100_0, i_100_1, p_100_1, i_100_2, p_100_2, i_100_3, p_100_3, t_104, q_104_1, q_104_2, q_104_3, q_104_4, q_104_5, q_104_6, q_104_8, q_104_9, q_104_11, q_104_12, q_104_18, q_104_21, q_104_22, q_104_23, q_104_24, q_104_26, q_104_27, q_104_28, q_104_30, q_104_31, i_104_0, p_104_0, i_104_7, p_104_7, i_104_10, p_104_10, i_104_13, p_104_13, i_104_14, p_104_14, i_104_15, p_104_15, i_104_16, p_104_16, i_104_17, p_104_17, i_104_19, p_104_19, i_104_20, p_104_20, i_104_25, p_104_25, i_104_29, p_104_29, a_2, w_2, a_81, w_81, a_89, w_89, a_91, w_91, a_93, w_93, a_94, w_94, a_95, w_95, a_105, w_105, a_106, w_106, a_107, w_107, a_108, w_108, a_109, w_109, a_110, w_110, a_111, w_111, a_112, w_112, a_113, w_113, a_114, w_114, a_115, w_115, a_116, w_116, a_117, w_117, a_118, w_118, a_119, w_119, a_120, w_120, a_121, w_121, a_122, w_122, a_123, w_123, a_124, w_124]
  have st : (J 0, J 0) = (fun i : Nat => (J (if fst1 m (fun b => eqK (keyR C b) (keyR C m)) < i then 1 else 0), J (i : Int))) 0 := by
    show _ = (J (if _ < 0 then 1 else 0), _)
    rw [if_neg (by omega)]; rfl
  rw [st]
  refine lp_for (fun i : Nat => (J (if fst1 m (fun b => eqK (keyR C b) (keyR C m)) < i then 1 else 0), J (i : Int))) 0 m _ (by omega) ?_ ?_
  · intro i _ hi kc
    have ei : (i : Int) + 1 = ((i + 1 : Nat) : Int) := by omega
    have sm := sm_iff (hR i (by omega)) (hR m (by omega)) hD (by omega) hm
    unfold BX11_isTold_4 CX11_isTold_4
    by_cases c : fst1 m (fun b => eqK (keyR C b) (keyR C m)) < i
    · rw [if_pos c, if_pos (show _ < i + 1 by omega)]
      simp (disch := omega) only [J_add, J_sub, J_mul, J_lt, J_le, J_eq, xbr_true, xbr_false, xbr_pos, xbr_neg, Int.toNat_natCast, all_eq, ex_eq, t_0, q_0_0, q_0_1, q_0_2, q_0_3, q_0_4, q_0_5, q_0_6, q_0_7, q_0_8, q_0_9, i_0_10, p_0_10, i_0_11, p_0_11, i_0_12, p_0_12, t_1, q_1_0, t_3, q_3_0, q_3_1, i_3_2, p_3_2, i_3_3, p_3_3, t_80, q_80_0, t_88, q_88_0, t_90, q_90_0, t_92, q_92_0, q_92_1, q_92_2, i_92_3, p_92_3, i_92_4, p_92_4, t_96, q_96_0, i_96_1, p_96_1, i_96_2, p_96_2, i_96_3, p_96_3, t_100, q_100_0, i_100_1, p_100_1, i_100_2, p_100_2, i_100_3, p_100_3, t_104, q_104_1, q_104_2, q_104_3, q_104_4, q_104_5, q_104_6, q_104_8, q_104_9, q_104_11, q_104_12, q_104_18, q_104_21, q_104_22, q_104_23, q_104_24, q_104_26, q_104_27, q_104_28, q_104_30, q_104_31, i_104_0, p_104_0, i_104_7, p_104_7, i_104_10, p_104_10, i_104_13, p_104_13, i_104_14, p_104_14, i_104_15, p_104_15, i_104_16, p_104_16, i_104_17, p_104_17, i_104_19, p_104_19, i_104_20, p_104_20, i_104_25, p_104_25, i_104_29, p_104_29, a_2, w_2, a_81, w_81, a_89, w_89, a_91, w_91, a_93, w_93, a_94, w_94, a_95, w_95, a_105, w_105, a_106, w_106, a_107, w_107, a_108, w_108, a_109, w_109, a_110, w_110, a_111, w_111, a_112, w_112, a_113, w_113, a_114, w_114, a_115, w_115, a_116, w_116, a_117, w_117, a_118, w_118, a_119, w_119, a_120, w_120, a_121, w_121, a_122, w_122, a_123, w_123, a_124, w_124, h16, ei]
    · rw [if_neg c]
      by_cases c2 : smD C i m 4 = true
      · have : ¬ i < fst1 m (fun b => eqK (keyR C b) (keyR C m)) := fun q => by
          have := fst1_lt q
          rw [sm.mp c2] at this
          cases this
        rw [if_pos (show _ < i + 1 by omega)]
        simp (disch := omega) only [J_add, J_sub, J_mul, J_lt, J_le, J_eq, xbr_true, xbr_false, xbr_pos, xbr_neg, Int.toNat_natCast, all_eq, ex_eq, t_0, q_0_0, q_0_1, q_0_2, q_0_3, q_0_4, q_0_5, q_0_6, q_0_7, q_0_8, q_0_9, i_0_10, p_0_10, i_0_11, p_0_11, i_0_12, p_0_12, t_1, q_1_0, t_3, q_3_0, q_3_1, i_3_2, p_3_2, i_3_3, p_3_3, t_80, q_80_0, t_88, q_88_0, t_90, q_90_0, t_92, q_92_0, q_92_1, q_92_2, i_92_3, p_92_3, i_92_4, p_92_4, t_96, q_96_0, i_96_1, p_96_1, i_96_2, p_96_2, i_96_3, p_96_3, t_100, q_100_0, i_100_1, p_100_1, i_100_2, p_100_2, i_100_3, p_100_3, t_104, q_104_1, q_104_2, q_104_3, q_104_4, q_104_5, q_104_6, q_104_8, q_104_9, q_104_11, q_104_12, q_104_18, q_104_21, q_104_22, q_104_23, q_104_24, q_104_26, q_104_27, q_104_28, q_104_30, q_104_31, i_104_0, p_104_0, i_104_7, p_104_7, i_104_10, p_104_10, i_104_13, p_104_13, i_104_14, p_104_14, i_104_15, p_104_15, i_104_16, p_104_16, i_104_17, p_104_17, i_104_19, p_104_19, i_104_20, p_104_20, i_104_25, p_104_25, i_104_29, p_104_29, a_2, w_2, a_81, w_81, a_89, w_89, a_91, w_91, a_93, w_93, a_94, w_94, a_95, w_95, a_105, w_105, a_106, w_106, a_107, w_107, a_108, w_108, a_109, w_109, a_110, w_110, a_111, w_111, a_112, w_112, a_113, w_113, a_114, w_114, a_115, w_115, a_116, w_116, a_117, w_117, a_118, w_118, a_119, w_119, a_120, w_120, a_121, w_121, a_122, w_122, a_123, w_123, a_124, w_124, h16, m_isSame (hR i (by omega)) (hR m (by omega)) hD (show i < 24 by omega) hm, if_pos c2, ei]
      · have : fst1 m (fun b => eqK (keyR C b) (keyR C m)) ≠ i := fun q => by
          have := fst1_at (n := m) (f := fun b => eqK (keyR C b) (keyR C m)) (by omega)
          rw [q] at this
          exact c2 (sm.mpr this)
        rw [if_neg (show ¬ _ < i + 1 by omega)]
        simp (disch := omega) only [J_add, J_sub, J_mul, J_lt, J_le, J_eq, xbr_true, xbr_false, xbr_pos, xbr_neg, Int.toNat_natCast, all_eq, ex_eq, t_0, q_0_0, q_0_1, q_0_2, q_0_3, q_0_4, q_0_5, q_0_6, q_0_7, q_0_8, q_0_9, i_0_10, p_0_10, i_0_11, p_0_11, i_0_12, p_0_12, t_1, q_1_0, t_3, q_3_0, q_3_1, i_3_2, p_3_2, i_3_3, p_3_3, t_80, q_80_0, t_88, q_88_0, t_90, q_90_0, t_92, q_92_0, q_92_1, q_92_2, i_92_3, p_92_3, i_92_4, p_92_4, t_96, q_96_0, i_96_1, p_96_1, i_96_2, p_96_2, i_96_3, p_96_3, t_100, q_100_0, i_100_1, p_100_1, i_100_2, p_100_2, i_100_3, p_100_3, t_104, q_104_1, q_104_2, q_104_3, q_104_4, q_104_5, q_104_6, q_104_8, q_104_9, q_104_11, q_104_12, q_104_18, q_104_21, q_104_22, q_104_23, q_104_24, q_104_26, q_104_27, q_104_28, q_104_30, q_104_31, i_104_0, p_104_0, i_104_7, p_104_7, i_104_10, p_104_10, i_104_13, p_104_13, i_104_14, p_104_14, i_104_15, p_104_15, i_104_16, p_104_16, i_104_17, p_104_17, i_104_19, p_104_19, i_104_20, p_104_20, i_104_25, p_104_25, i_104_29, p_104_29, a_2, w_2, a_81, w_81, a_89, w_89, a_91, w_91, a_93, w_93, a_94, w_94, a_95, w_95, a_105, w_105, a_106, w_106, a_107, w_107, a_108, w_108, a_109, w_109, a_110, w_110, a_111, w_111, a_112, w_112, a_113, w_113, a_114, w_114, a_115, w_115, a_116, w_116, a_117, w_117, a_118, w_118, a_119, w_119, a_120, w_120, a_121, w_121, a_122, w_122, a_123, w_123, a_124, w_124, h16, m_isSame (hR i (by omega)) (hR m (by omega)) hD (show i < 24 by omega) hm, if_neg c2, ei]
  · intro kc
    unfold BX11_isTold_4 CX11_isTold_4 tld
    simp (disch := omega) only [J_add, J_sub, J_mul, J_lt, J_le, J_eq, xbr_true, xbr_false, xbr_pos, xbr_neg, Int.toNat_natCast, all_eq, ex_eq, t_0, q_0_0, q_0_1, q_0_2, q_0_3, q_0_4, q_0_5, q_0_6, q_0_7, q_0_8, q_0_9, i_0_10, p_0_10, i_0_11, p_0_11, i_0_12, p_0_12, t_1, q_1_0, t_3, q_3_0, q_3_1, i_3_2, p_3_2, i_3_3, p_3_3, t_80, q_80_0, t_88, q_88_0, t_90, q_90_0, t_92, q_92_0, q_92_1, q_92_2, i_92_3, p_92_3, i_92_4, p_92_4, t_96, q_96_0, i_96_1, p_96_1, i_96_2, p_96_2, i_96_3, p_96_3, t_100, q_100_0, i_100_1, p_100_1, i_100_2, p_100_2, i_100_3, p_100_3, t_104, q_104_1, q_104_2, q_104_3, q_104_4, q_104_5, q_104_6, q_104_8, q_104_9, q_104_11, q_104_12, q_104_18, q_104_21, q_104_22, q_104_23, q_104_24, q_104_26, q_104_27, q_104_28, q_104_30, q_104_31, i_104_0, p_104_0, i_104_7, p_104_7, i_104_10, p_104_10, i_104_13, p_104_13, i_104_14, p_104_14, i_104_15, p_104_15, i_104_16, p_104_16, i_104_17, p_104_17, i_104_19, p_104_19, i_104_20, p_104_20, i_104_25, p_104_25, i_104_29, p_104_29, a_2, w_2, a_81, w_81, a_89, w_89, a_91, w_91, a_93, w_93, a_94, w_94, a_95, w_95, a_105, w_105, a_106, w_106, a_107, w_107, a_108, w_108, a_109, w_109, a_110, w_110, a_111, w_111, a_112, w_112, a_113, w_113, a_114, w_114, a_115, w_115, a_116, w_116, a_117, w_117, a_118, w_118, a_119, w_119, a_120, w_120, a_121, w_121, a_122, w_122, a_123, w_123, a_124, w_124, h16, isBz, true_and]
    by_cases c : fst1 m (fun b => eqK (keyR C b) (keyR C m)) < m
    · rw [if_pos c, if_pos (decide_eq_true c)]
    · rw [if_neg c, if_neg (by simpa using c)]
end SAM
