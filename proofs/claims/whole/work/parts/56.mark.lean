/-! MARKS -/
section MRK
variable {z : Nat} {g : Mem} {C C' : Nat → Nat → Int} {nb : Nat} {A : Rw} {b : Nat}
/-- the reference's row of a mark -/
def wmC (C : Nat → Nat → Int) (l : List Int) : Nat → Nat → Int := fun a j => if a = 104 ∧ j = 19 then (l.length : Int) else if a = 115 ∧ j < l.length then l.getD j 0 else C a j
theorem wmC_ne {l : List Int} {a : Nat} (h : a ≠ 104 ∧ a ≠ 115) : wmC C l a = C a := by
  funext j; unfold wmC; rw [if_neg (fun q => h.1 q.1), if_neg (fun q => h.2 q.1)]
theorem wmC_104 {l : List Int} {j : Nat} (h : j ≠ 19) : wmC C l 104 j = C 104 j := by
  unfold wmC; rw [if_neg (fun q => h q.2), if_neg (by omega)]
theorem wmC_len {l : List Int} : wmC C l 104 19 = l.length := by unfold wmC; rw [if_pos ⟨rfl, rfl⟩]
theorem getD_app1 {l : List Int} {c : Int} {j : Nat} : (l ++ [c]).getD j 0 = if j < l.length then l.getD j 0 else if j = l.length then c else 0 := by
  by_cases h : j < l.length
  · rw [if_pos h]
    simp [List.getD_eq_getElem?_getD, List.getElem?_append, h]
  · rw [if_neg h]
    by_cases h2 : j = l.length
    · rw [if_pos h2]
      simp [List.getD_eq_getElem?_getD, List.getElem?_append, h2]
    · rw [if_neg h2]
      have h3 : j - l.length ≠ 0 := by omega
      obtain ⟨d, hd⟩ : ∃ d, j - l.length = d + 1 := ⟨j - l.length - 1, by omega⟩
      simp [List.getD_eq_getElem?_getD, List.getElem?_append, h, hd]
theorem m_write {K : Mem → Prop} {l : List Int} (hl : l.length < 24) {c : Int} : PX11_write (ad z 104) (J c) (lay z g (wmC C l)) K = K (lay z g (wmC C (l ++ [c]))) := by
  have e1 : up (wmC C l) 115 l.length c 104 19 = l.length := by rw [up_ne (by omega), wmC_len]
  have e2 : up (up (wmC C l) 115 l.length c) 104 19 ((l.length : Int) + 1) = wmC C (l ++ [c]) := by
    funext a j
    simp only [up, wmC, getD_app1, List.length_append, List.length_cons, List.length_nil]
    by_cases c1 : a = 104 ∧ j = 19
    · simp only [if_pos c1]; omega
    · simp only [if_neg c1]
      by_cases c2 : a = 115 ∧ j = l.length
      · rw [if_pos c2, if_pos (by omega), if_neg (by omega), if_pos c2.2]
      · rw [if_neg c2]
        by_cases c3 : a = 115 ∧ j < l.length
        · rw [if_pos c3, if_pos (by omega), if_pos c3.2]
        · rw [if_neg c3, if_neg (by omega)]
  unfold PX11_write
  simp (disch := omega) only [J_add, J_sub, J_mul, J_lt, J_le, J_eq, xbr_true, xbr_false, xbr_pos, xbr_neg, Int.toNat_natCast, all_eq, ex_eq, t_0, q_0_0, q_0_1, q_0_2, q_0_3, q_0_4, q_0_5, q_0_6, q_0_7, q_0_8, q_0_9, i_0_10, p_0_10, i_0_11, p_0_11, i_0_12, p_0_12, t_1, q_1_0, t_3, q_3_0, q_3_1, i_3_2, p_3_2, i_3_3, p_3_3, t_80, q_80_0, t_88, q_88_0, t_90, q_90_0, t_92, q_92_0, q_92_1, q_92_2, i_92_3, p_92_3, i_92_4, p_92_4, t_96, q_96_0, i_96_1, p_96_1, i_96_2, p_96_2, i_96_3, p_96_3, t_100, q_100_0, i_100_1, p_100_1, i_100_2, p_100_2, i_100_3, p_100_3, t_104, q_104_1, q_104_2, q_104_3, q_104_4, q_104_5, q_104_6, q_104_8, q_104_9, q_104_11, q_104_12, q_104_18, q_104_21, q_104_22, q_104_23, q_104_24, q_104_26, q_104_27, q_104_28, q_104_30, q_104_31, i_104_0, p_104_0, i_104_7, p_104_7, i_104_10, p_104_10, i_104_13, p_104_13, i_104_14, p_104_14, i_104_15, p_104_15, i_104_16, p_104_16, i_104_17, p_104_17, i_104_19, p_104_19, i_104_20, p_104_20, i_104_25, p_104_25, i_104_29, p_104_29, a_2, w_2, a_81, w_81, a_89, w_89, a_91, w_91, a_93, w_93, a_94, w_94, a_95, w_95, a_105, w_105, a_106, w_106, a_107, w_107, a_108, w_108, a_109, w_109, a_110, w_110, a_111, w_111, a_112, w_112, a_113, w_113, a_114, w_114, a_115, w_115, a_116, w_116, a_117, w_117, a_118, w_118, a_119, w_119, a_120, w_120, a_121, w_121, a_122, w_122, a_123, w_123, a_124, w_124, wmC_len, e1, e2]
theorem m_writeF {K : Mem → Prop} {l : List Int} {f n : Nat} (hf : f + n ≤ 384) (hl : l.length + n ≤ 24) (hn : n ≤ 24) : PX11_writeFigures (ad z 104) (J f) (J n) (lay z g (wmC C l)) K = K (lay z g (wmC C (l ++ (List.range n).map (fun j => 48 + C 105 (f + j))))) := by
  unfold PX11_writeFigures
  simp (disch := omega) only [J_add, J_sub, J_mul, J_lt, J_le, J_eq, xbr_true, xbr_false, xbr_pos, xbr_neg, Int.toNat_natCast, all_eq, ex_eq, t_0, q_0_0, q_0_1, q_0_2, q_0_3, q_0_4, q_0_5, q_0_6, q_0_7, q_0_8, q_0_9, i_0_10, p_0_10, i_0_11, p_0_11, i_0_12, p_0_12, t_1, q_1_0, t_3, q_3_0, q_3_1, i_3_2, p_3_2, i_3_3, p_3_3, t_80, q_80_0, t_88, q_88_0, t_90, q_90_0, t_92, q_92_0, q_92_1, q_92_2, i_92_3, p_92_3, i_92_4, p_92_4, t_96, q_96_0, i_96_1, p_96_1, i_96_2, p_96_2, i_96_3, p_96_3, t_100, q_100_0, i_100_1, p_100_1, i_100_2, p_100_2, i_100_3, p_100_3, t_104, q_104_1, q_104_2, q_104_3, q_104_4, q_104_5, q_104_6, q_104_8, q_104_9, q_104_11, q_104_12, q_104_18, q_104_21, q_104_22, q_104_23, q_104_24, q_104_26, q_104_27, q_104_28, q_104_30, q_104_31, i_104_0, p_104_0, i_104_7, p_104_7, i_104_10, p_104_10, i_104_13, p_104_13, i_104_14, p_104_14, i_104_15, p_104_15, i_104_16, p_104_16, i_104_17, p_104_17, i_104_19, p_104_19, i_104_20, p_104_20, i_104_25, p_104_25, i_104_29, p_104_29, a_2, w_2, a_81, w_81, a_89, w_89, a_91, w_91, a_93, w_93, a_94, w_94, a_95, w_95, a_105, w_105, a_106, w_106, a_107, w_107, a_108, w_108, a_109, w_109, a_110, w_110, a_111, w_111, a_112, w_112, a_113, w_113, a_114, w_114, a_115, w_115, a_116, w_116, a_117, w_117, a_118, w_118, a_119, w_119, a_120, w_120, a_121, w_121, a_122, w_122, a_123, w_123, a_124, w_124]
  have st : (lay z g (wmC C l), J 0) = (fun i : Nat => (lay z g (wmC C (l ++ (List.range i).map (fun j => 48 + C 105 (f + j)))), J (i : Int))) 0 := by
    simp
  rw [st]
  refine lp_for (fun i : Nat => (lay z g (wmC C (l ++ (List.range i).map (fun j => 48 + C 105 (f + j)))), J (i : Int))) 0 n _ (by omega) ?_ ?_
  · intro i _ hi kc
    have e0 : ((f : Int) + (i : Int)).toNat = f + i := by omega
    have hl2 : (l ++ (List.range i).map (fun j => 48 + C 105 (f + j))).length < 24 := by simp; omega
    have e5 : ∀ l : List Int, wmC C l 105 = C 105 := fun l => wmC_ne (by omega)
    unfold BX11_writeFigures_2 CX11_writeFigures_2
    simp (disch := omega) only [J_add, J_sub, J_mul, J_lt, J_le, J_eq, xbr_true, xbr_false, xbr_pos, xbr_neg, Int.toNat_natCast, all_eq, ex_eq, t_0, q_0_0, q_0_1, q_0_2, q_0_3, q_0_4, q_0_5, q_0_6, q_0_7, q_0_8, q_0_9, i_0_10, p_0_10, i_0_11, p_0_11, i_0_12, p_0_12, t_1, q_1_0, t_3, q_3_0, q_3_1, i_3_2, p_3_2, i_3_3, p_3_3, t_80, q_80_0, t_88, q_88_0, t_90, q_90_0, t_92, q_92_0, q_92_1, q_92_2, i_92_3, p_92_3, i_92_4, p_92_4, t_96, q_96_0, i_96_1, p_96_1, i_96_2, p_96_2, i_96_3, p_96_3, t_100, q_100_0, i_100_1, p_100_1, i_100_2, p_100_2, i_100_3, p_100_3, t_104, q_104_1, q_104_2, q_104_3, q_104_4, q_104_5, q_104_6, q_104_8, q_104_9, q_104_11, q_104_12, q_104_18, q_104_21, q_104_22, q_104_23, q_104_24, q_104_26, q_104_27, q_104_28, q_104_30, q_104_31, i_104_0, p_104_0, i_104_7, p_104_7, i_104_10, p_104_10, i_104_13, p_104_13, i_104_14, p_104_14, i_104_15, p_104_15, i_104_16, p_104_16, i_104_17, p_104_17, i_104_19, p_104_19, i_104_20, p_104_20, i_104_25, p_104_25, i_104_29, p_104_29, a_2, w_2, a_81, w_81, a_89, w_89, a_91, w_91, a_93, w_93, a_94, w_94, a_95, w_95, a_105, w_105, a_106, w_106, a_107, w_107, a_108, w_108, a_109, w_109, a_110, w_110, a_111, w_111, a_112, w_112, a_113, w_113, a_114, w_114, a_115, w_115, a_116, w_116, a_117, w_117, a_118, w_118, a_119, w_119, a_120, w_120, a_121, w_121, a_122, w_122, a_123, w_123, a_124, w_124, e0, e5, m_write hl2]
    rw [List.range_succ, List.map_append, ← List.append_assoc]
    rfl
  · intro kc
    unfold BX11_writeFigures_2 CX11_writeFigures_2
    simp (disch := omega) only [J_add, J_sub, J_mul, J_lt, J_le, J_eq, xbr_true, xbr_false, xbr_pos, xbr_neg, Int.toNat_natCast, all_eq, ex_eq]
def mk4 (C : Nat → Nat → Int) (b : Nat) : List Int := if 0 ≤ ptC C b 15 then [32, 121, 48 + ptC C b 15 / 1000, 48 + ptC C b 15 / 100 % 10, 48 + ptC C b 15 / 10 % 10, 48 + ptC C b 15 % 10] else []
def mk3 (C : Nat → Nat → Int) (b : Nat) : List Int := if 0 ≤ ptC C b 10 then 46 :: (97 + ptC C b 10) :: (List.range (C 108 b).toNat).map (fun j => 48 + ptC C b (11 + j)) else []
def mk2 (C : Nat → Nat → Int) (b : Nat) : List Int := if 0 < C 107 b then 46 :: (List.range (C 107 b).toNat).map (fun j => 48 + ptC C b (6 + j)) else []
def mk1 (C : Nat → Nat → Int) (b : Nat) : List Int := (List.range (C 106 b).toNat).map (fun j => 48 + ptC C b (2 + j))
def mk0 (C : Nat → Nat → Int) (b : Nat) : List Int := (97 + ptC C b 0) :: (if 0 ≤ ptC C b 1 then [97 + ptC C b 1] else [])
theorem mkA_eq : mkA C b = mk0 C b ++ (mk1 C b ++ (mk2 C b ++ (mk3 C b ++ mk4 C b))) := rfl
theorem mk4_len : (mk4 C b).length ≤ 6 := by unfold mk4; split <;> simp
theorem mk3_len (h : BkRel C b) : (mk3 C b).length ≤ 6 := by
  have := h.2.2.2.2.2.2.2.2.1
  unfold mk3
  split
  · simp; omega
  · simp
theorem mk2_len (h : BkRel C b) : (mk2 C b).length ≤ 5 := by
  have := h.2.2.2.2.2.2.2.1
  unfold mk2
  split
  · simp; omega
  · simp
theorem mk1_len (h : BkRel C b) : (mk1 C b).length ≤ 4 := by
  have := h.2.2.2.2.2.2.1
  unfold mk1
  simp; omega
theorem mk0_len : (mk0 C b).length ≤ 2 := by unfold mk0; split <;> simp
theorem mkA_len (h : BkRel C b) : (mkA C b).length ≤ 23 := by
  rw [mkA_eq]
  have h0 := mk0_len (C := C) (b := b)
  have h1 := mk1_len h
  have h2 := mk2_len h
  have h3 := mk3_len h
  have h4 := mk4_len (C := C) (b := b)
  simp only [List.length_append]
  omega
theorem mkA_pos : 1 ≤ (mkA C b).length := by unfold mkA; simp
section WM
variable {l : List Int} {K : Mem → Prop}
theorem m_wm139 (h : BkRel C b) (hb : b < 24) (hl : l.length ≤ 17) : JX11_writeMark_139 K (lay z g (wmC C l)) (ad z 104) (J (16 * (b : Int))) = K (lay z g (wmC C (l ++ mk4 C b))) := by
  have e5 : ∀ l : List Int, wmC C l 105 = C 105 := fun l => wmC_ne (by omega)
  have t1 : (16 * (b : Int) + 15).toNat = 16 * b + 15 := by omega
  have p : C 105 (16 * b + 15) = ptC C b 15 := rfl
  have hr := h.2.2.2.2.2.1
  unfold JX11_writeMark_139 mk4
  by_cases c : 0 ≤ ptC C b 15
  · rw [if_pos c]
    generalize ptC C b 15 = y at *
    have d1 : y / 100 - y / 100 / 10 * 10 = y / 100 % 10 := by omega
    have d2 : y / 10 - y / 10 / 10 * 10 = y / 10 % 10 := by omega
    have d3 : y - y / 10 * 10 = y % 10 := by omega
    simp (disch := omega) only [J_add, J_sub, J_mul, J_lt, J_le, J_eq, xbr_true, xbr_false, xbr_pos, xbr_neg, Int.toNat_natCast, all_eq, ex_eq, t_0, q_0_0, q_0_1, q_0_2, q_0_3, q_0_4, q_0_5, q_0_6, q_0_7, q_0_8, q_0_9, i_0_10, p_0_10, i_0_11, p_0_11, i_0_12, p_0_12, t_1, q_1_0, t_3, q_3_0, q_3_1, i_3_2, p_3_2, i_3_3, p_3_3, t_80, q_80_0, t_88, q_88_0, t_90, q_90_0, t_92, q_92_0, q_92_1, q_92_2, i_92_3, p_92_3, i_92_4, p_92_4, t_96, q_96_0, i_96_1, p_96_1, i_96_2, p_96_2, i_96_3, p_96_3, t_100, q_100_0, i_100_1, p_100_1, i_100_2, p_100_2, i_100_3, p_100_3, t_104, q_104_1, q_104_2, q_104_3, q_104_4, q_104_5, q_104_6, q_104_8, q_104_9, q_104_11, q_104_12, q_104_18, q_104_21, q_104_22, q_104_23, q_104_24, q_104_26, q_104_27, q_104_28, q_104_30, q_104_31, i_104_0, p_104_0, i_104_7, p_104_7, i_104_10, p_104_10, i_104_13, p_104_13, i_104_14, p_104_14, i_104_15, p_104_15, i_104_16, p_104_16, i_104_17, p_104_17, i_104_19, p_104_19, i_104_20, p_104_20, i_104_25, p_104_25, i_104_29, p_104_29, a_2, w_2, a_81, w_81, a_89, w_89, a_91, w_91, a_93, w_93, a_94, w_94, a_95, w_95, a_105, w_105, a_106, w_106, a_107, w_107, a_108, w_108, a_109, w_109, a_110, w_110, a_111, w_111, a_112, w_112, a_113, w_113, a_114, w_114, a_115, w_115, a_116, w_116, a_117, w_117, a_118, w_118, a_119, w_119, a_120, w_120, a_121, w_121, a_122, w_122, a_123, w_123, a_124, w_124, e5, t1, p, m_write (C := C) (l := l) (by omega), m_write (C := C) (l := l ++ [32]) (by simp; omega), J_div]
    rw [m_write (by simp; omega)]
    simp (disch := omega) only [J_add, J_sub, J_mul, J_lt, J_le, J_eq, xbr_true, xbr_false, xbr_pos, xbr_neg, Int.toNat_natCast, all_eq, ex_eq, t_0, q_0_0, q_0_1, q_0_2, q_0_3, q_0_4, q_0_5, q_0_6, q_0_7, q_0_8, q_0_9, i_0_10, p_0_10, i_0_11, p_0_11, i_0_12, p_0_12, t_1, q_1_0, t_3, q_3_0, q_3_1, i_3_2, p_3_2, i_3_3, p_3_3, t_80, q_80_0, t_88, q_88_0, t_90, q_90_0, t_92, q_92_0, q_92_1, q_92_2, i_92_3, p_92_3, i_92_4, p_92_4, t_96, q_96_0, i_96_1, p_96_1, i_96_2, p_96_2, i_96_3, p_96_3, t_100, q_100_0, i_100_1, p_100_1, i_100_2, p_100_2, i_100_3, p_100_3, t_104, q_104_1, q_104_2, q_104_3, q_104_4, q_104_5, q_104_6, q_104_8, q_104_9, q_104_11, q_104_12, q_104_18, q_104_21, q_104_22, q_104_23, q_104_24, q_104_26, q_104_27, q_104_28, q_104_30, q_104_31, i_104_0, p_104_0, i_104_7, p_104_7, i_104_10, p_104_10, i_104_13, p_104_13, i_104_14, p_104_14, i_104_15, p_104_15, i_104_16, p_104_16, i_104_17, p_104_17, i_104_19, p_104_19, i_104_20, p_104_20, i_104_25, p_104_25, i_104_29, p_104_29, a_2, w_2, a_81, w_81, a_89, w_89, a_91, w_91, a_93, w_93, a_94, w_94, a_95, w_95, a_105, w_105, a_106, w_106, a_107, w_107, a_108, w_108, a_109, w_109, a_110, w_110, a_111, w_111, a_112, w_112, a_113, w_113, a_114, w_114, a_115, w_115, a_116, w_116, a_117, w_117, a_118, w_118, a_119, w_119, a_120, w_120, a_121, w_121, a_122, w_122, a_123, w_123, a_124, w_124, e5, t1, p, J_div]
    rw [m_write (by simp; omega)]
    simp (disch := omega) only [J_add, J_sub, J_mul, J_lt, J_le, J_eq, xbr_true, xbr_false, xbr_pos, xbr_neg, Int.toNat_natCast, all_eq, ex_eq, t_0, q_0_0, q_0_1, q_0_2, q_0_3, q_0_4, q_0_5, q_0_6, q_0_7, q_0_8, q_0_9, i_0_10, p_0_10, i_0_11, p_0_11, i_0_12, p_0_12, t_1, q_1_0, t_3, q_3_0, q_3_1, i_3_2, p_3_2, i_3_3, p_3_3, t_80, q_80_0, t_88, q_88_0, t_90, q_90_0, t_92, q_92_0, q_92_1, q_92_2, i_92_3, p_92_3, i_92_4, p_92_4, t_96, q_96_0, i_96_1, p_96_1, i_96_2, p_96_2, i_96_3, p_96_3, t_100, q_100_0, i_100_1, p_100_1, i_100_2, p_100_2, i_100_3, p_100_3, t_104, q_104_1, q_104_2, q_104_3, q_104_4, q_104_5, q_104_6, q_104_8, q_104_9, q_104_11, q_104_12, q_104_18, q_104_21, q_104_22, q_104_23, q_104_24, q_104_26, q_104_27, q_104_28, q_104_30, q_104_31, i_104_0, p_104_0, i_104_7, p_104_7, i_104_10, p_104_10, i_104_13, p_104_13, i_104_14, p_104_14, i_104_15, p_104_15, i_104_16, p_104_16, i_104_17, p_104_17, i_104_19, p_104_19, i_104_20, p_104_20, i_104_25, p_104_25, i_104_29, p_104_29, a_2, w_2, a_81, w_81, a_89, w_89, a_91, w_91, a_93, w_93, a_94, w_94, a_95, w_95, a_105, w_105, a_106, w_106, a_107, w_107, a_108, w_108, a_109, w_109, a_110, w_110, a_111, w_111, a_112, w_112, a_113, w_113, a_114, w_114, a_115, w_115, a_116, w_116, a_117, w_117, a_118, w_118, a_119, w_119, a_120, w_120, a_121, w_121, a_122, w_122, a_123, w_123, a_124, w_124, e5, t1, p, J_div]
    rw [m_write (by simp; omega)]
    simp (disch := omega) only [J_add, J_sub, J_mul, J_lt, J_le, J_eq, xbr_true, xbr_false, xbr_pos, xbr_neg, Int.toNat_natCast, all_eq, ex_eq, t_0, q_0_0, q_0_1, q_0_2, q_0_3, q_0_4, q_0_5, q_0_6, q_0_7, q_0_8, q_0_9, i_0_10, p_0_10, i_0_11, p_0_11, i_0_12, p_0_12, t_1, q_1_0, t_3, q_3_0, q_3_1, i_3_2, p_3_2, i_3_3, p_3_3, t_80, q_80_0, t_88, q_88_0, t_90, q_90_0, t_92, q_92_0, q_92_1, q_92_2, i_92_3, p_92_3, i_92_4, p_92_4, t_96, q_96_0, i_96_1, p_96_1, i_96_2, p_96_2, i_96_3, p_96_3, t_100, q_100_0, i_100_1, p_100_1, i_100_2, p_100_2, i_100_3, p_100_3, t_104, q_104_1, q_104_2, q_104_3, q_104_4, q_104_5, q_104_6, q_104_8, q_104_9, q_104_11, q_104_12, q_104_18, q_104_21, q_104_22, q_104_23, q_104_24, q_104_26, q_104_27, q_104_28, q_104_30, q_104_31, i_104_0, p_104_0, i_104_7, p_104_7, i_104_10, p_104_10, i_104_13, p_104_13, i_104_14, p_104_14, i_104_15, p_104_15, i_104_16, p_104_16, i_104_17, p_104_17, i_104_19, p_104_19, i_104_20, p_104_20, i_104_25, p_104_25, i_104_29, p_104_29, a_2, w_2, a_81, w_81, a_89, w_89, a_91, w_91, a_93, w_93, a_94, w_94, a_95, w_95, a_105, w_105, a_106, w_106, a_107, w_107, a_108, w_108, a_109, w_109, a_110, w_110, a_111, w_111, a_112, w_112, a_113, w_113, a_114, w_114, a_115, w_115, a_116, w_116, a_117, w_117, a_118, w_118, a_119, w_119, a_120, w_120, a_121, w_121, a_122, w_122, a_123, w_123, a_124, w_124, e5, t1, p, J_div]
    rw [m_write (by simp; omega), d1, d2, d3]
    simp
  · rw [if_neg c]
    simp (disch := omega) only [J_add, J_sub, J_mul, J_lt, J_le, J_eq, xbr_true, xbr_false, xbr_pos, xbr_neg, Int.toNat_natCast, all_eq, ex_eq, t_0, q_0_0, q_0_1, q_0_2, q_0_3, q_0_4, q_0_5, q_0_6, q_0_7, q_0_8, q_0_9, i_0_10, p_0_10, i_0_11, p_0_11, i_0_12, p_0_12, t_1, q_1_0, t_3, q_3_0, q_3_1, i_3_2, p_3_2, i_3_3, p_3_3, t_80, q_80_0, t_88, q_88_0, t_90, q_90_0, t_92, q_92_0, q_92_1, q_92_2, i_92_3, p_92_3, i_92_4, p_92_4, t_96, q_96_0, i_96_1, p_96_1, i_96_2, p_96_2, i_96_3, p_96_3, t_100, q_100_0, i_100_1, p_100_1, i_100_2, p_100_2, i_100_3, p_100_3, t_104, q_104_1, q_104_2, q_104_3, q_104_4, q_104_5, q_104_6, q_104_8, q_104_9, q_104_11, q_104_12, q_104_18, q_104_21, q_104_22, q_104_23, q_104_24, q_104_26, q_104_27, q_104_28, q_104_30, q_104_31, i_104_0, p_104_0, i_104_7, p_104_7, i_104_10, p_104_10, i_104_13, p_104_13, i_104_14, p_104_14, i_104_15, p_104_15, i_104_16, p_104_16, i_104_17, p_104_17, i_104_19, p_104_19, i_104_20, p_104_20, i_104_25, p_104_25, i_104_29, p_104_29, a_2, w_2, a_81, w_81, a_89, w_89, a_91, w_91, a_93, w_93, a_94, w_94, a_95, w_95, a_105, w_105, a_106, w_106, a_107, w_107, a_108, w_108, a_109, w_109, a_110, w_110, a_111, w_111, a_112, w_112, a_113, w_113, a_114, w_114, a_115, w_115, a_116, w_116, a_117, w_117, a_118, w_118, a_119, w_119, a_120, w_120, a_121, w_121, a_122, w_122, a_123, w_123, a_124, w_124, e5, t1, p]
    simp
theorem m_wm91 (h : BkRel C b) (hb : b < 24) (hl : l.length ≤ 11) : JX11_writeMark_91 K (lay z g (wmC C l)) (ad z 104) (J (b : Nat)) (J (16 * (b : Int))) = K (lay z g (wmC C (l ++ (mk3 C b ++ mk4 C b)))) := by
  have e5 : ∀ l : List Int, wmC C l 105 = C 105 := fun l => wmC_ne (by omega)
  have e8 : ∀ l : List Int, wmC C l 108 = C 108 := fun l => wmC_ne (by omega)
  have t1 : (16 * (b : Int) + 10).toNat = 16 * b + 10 := by omega
  have p : C 105 (16 * b + 10) = ptC C b 10 := rfl
  have hr := h.2.2.2.1
  have h8 := h.2.2.2.2.2.2.2.2.1
  obtain ⟨n, hn⟩ : ∃ n : Nat, C 108 b = n := ⟨(C 108 b).toNat, by omega⟩
  have t2 : 16 * (b : Int) + 11 = ((16 * b + 11 : Nat) : Int) := by omega
  unfold JX11_writeMark_91
  by_cases c : 0 ≤ ptC C b 10
  · have e3 : mk3 C b = 46 :: (97 + ptC C b 10) :: (List.range n).map (fun j => 48 + C 105 (16 * b + 11 + j)) := by
      unfold mk3
      rw [if_pos c, hn, Int.toNat_natCast]
      congr 3
      funext j
      unfold ptC
      rw [Nat.add_assoc]
    simp (disch := omega) only [J_add, J_sub, J_mul, J_lt, J_le, J_eq, xbr_true, xbr_false, xbr_pos, xbr_neg, Int.toNat_natCast, all_eq, ex_eq, t_0, q_0_0, q_0_1, q_0_2, q_0_3, q_0_4, q_0_5, q_0_6, q_0_7, q_0_8, q_0_9, i_0_10, p_0_10, i_0_11, p_0_11, i_0_12, p_0_12, t_1, q_1_0, t_3, q_3_0, q_3_1, i_3_2, p_3_2, i_3_3, p_3_3, t_80, q_80_0, t_88, q_88_0, t_90, q_90_0, t_92, q_92_0, q_92_1, q_92_2, i_92_3, p_92_3, i_92_4, p_92_4, t_96, q_96_0, i_96_1, p_96_1, i_96_2, p_96_2, i_96_3, p_96_3, t_100, q_100_0, i_100_1, p_100_1, i_100_2, p_100_2, i_100_3, p_100_3, t_104, q_104_1, q_104_2, q_104_3, q_104_4, q_104_5, q_104_6, q_104_8, q_104_9, q_104_11, q_104_12, q_104_18, q_104_21, q_104_22, q_104_23, q_104_24, q_104_26, q_104_27, q_104_28, q_104_30, q_104_31, i_104_0, p_104_0, i_104_7, p_104_7, i_104_10, p_104_10, i_104_13, p_104_13, i_104_14, p_104_14, i_104_15, p_104_15, i_104_16, p_104_16, i_104_17, p_104_17, i_104_19, p_104_19, i_104_20, p_104_20, i_104_25, p_104_25, i_104_29, p_104_29, a_2, w_2, a_81, w_81, a_89, w_89, a_91, w_91, a_93, w_93, a_94, w_94, a_95, w_95, a_105, w_105, a_106, w_106, a_107, w_107, a_108, w_108, a_109, w_109, a_110, w_110, a_111, w_111, a_112, w_112, a_113, w_113, a_114, w_114, a_115, w_115, a_116, w_116, a_117, w_117, a_118, w_118, a_119, w_119, a_120, w_120, a_121, w_121, a_122, w_122, a_123, w_123, a_124, w_124, e5, t1, p, m_write (C := C) (l := l) (by omega)]
    rw [m_write (by simp; omega)]
    simp (disch := omega) only [J_add, J_sub, J_mul, J_lt, J_le, J_eq, xbr_true, xbr_false, xbr_pos, xbr_neg, Int.toNat_natCast, all_eq, ex_eq, t_0, q_0_0, q_0_1, q_0_2, q_0_3, q_0_4, q_0_5, q_0_6, q_0_7, q_0_8, q_0_9, i_0_10, p_0_10, i_0_11, p_0_11, i_0_12, p_0_12, t_1, q_1_0, t_3, q_3_0, q_3_1, i_3_2, p_3_2, i_3_3, p_3_3, t_80, q_80_0, t_88, q_88_0, t_90, q_90_0, t_92, q_92_0, q_92_1, q_92_2, i_92_3, p_92_3, i_92_4, p_92_4, t_96, q_96_0, i_96_1, p_96_1, i_96_2, p_96_2, i_96_3, p_96_3, t_100, q_100_0, i_100_1, p_100_1, i_100_2, p_100_2, i_100_3, p_100_3, t_104, q_104_1, q_104_2, q_104_3, q_104_4, q_104_5, q_104_6, q_104_8, q_104_9, q_104_11, q_104_12, q_104_18, q_104_21, q_104_22, q_104_23, q_104_24, q_104_26, q_104_27, q_104_28, q_104_30, q_104_31, i_104_0, p_104_0, i_104_7, p_104_7, i_104_10, p_104_10, i_104_13, p_104_13, i_104_14, p_104_14, i_104_15, p_104_15, i_104_16, p_104_16, i_104_17, p_104_17, i_104_19, p_104_19, i_104_20, p_104_20, i_104_25, p_104_25, i_104_29, p_104_29, a_2, w_2, a_81, w_81, a_89, w_89, a_91, w_91, a_93, w_93, a_94, w_94, a_95, w_95, a_105, w_105, a_106, w_106, a_107, w_107, a_108, w_108, a_109, w_109, a_110, w_110, a_111, w_111, a_112, w_112, a_113, w_113, a_114, w_114, a_115, w_115, a_116, w_116, a_117, w_117, a_118, w_118, a_119, w_119, a_120, w_120, a_121, w_121, a_122, w_122, a_123, w_123, a_124, w_124, e5, e8, hn, t2]
    rw [m_writeF (by omega) (by simp; omega) (by omega), m_wm139 h hb (by simp; omega), e3]
    simp
  · have e3 : mk3 C b = [] := by unfold mk3; rw [if_neg c]
    simp (disch := omega) only [J_add, J_sub, J_mul, J_lt, J_le, J_eq, xbr_true, xbr_false, xbr_pos, xbr_neg, Int.toNat_natCast, all_eq, ex_eq, t_0, q_0_0, q_0_1, q_0_2, q_0_3, q_0_4, q_0_5, q_0_6, q_0_7, q_0_8, q_0_9, i_0_10, p_0_10, i_0_11, p_0_11, i_0_12, p_0_12, t_1, q_1_0, t_3, q_3_0, q_3_1, i_3_2, p_3_2, i_3_3, p_3_3, t_80, q_80_0, t_88, q_88_0, t_90, q_90_0, t_92, q_92_0, q_92_1, q_92_2, i_92_3, p_92_3, i_92_4, p_92_4, t_96, q_96_0, i_96_1, p_96_1, i_96_2, p_96_2, i_96_3, p_96_3, t_100, q_100_0, i_100_1, p_100_1, i_100_2, p_100_2, i_100_3, p_100_3, t_104, q_104_1, q_104_2, q_104_3, q_104_4, q_104_5, q_104_6, q_104_8, q_104_9, q_104_11, q_104_12, q_104_18, q_104_21, q_104_22, q_104_23, q_104_24, q_104_26, q_104_27, q_104_28, q_104_30, q_104_31, i_104_0, p_104_0, i_104_7, p_104_7, i_104_10, p_104_10, i_104_13, p_104_13, i_104_14, p_104_14, i_104_15, p_104_15, i_104_16, p_104_16, i_104_17, p_104_17, i_104_19, p_104_19, i_104_20, p_104_20, i_104_25, p_104_25, i_104_29, p_104_29, a_2, w_2, a_81, w_81, a_89, w_89, a_91, w_91, a_93, w_93, a_94, w_94, a_95, w_95, a_105, w_105, a_106, w_106, a_107, w_107, a_108, w_108, a_109, w_109, a_110, w_110, a_111, w_111, a_112, w_112, a_113, w_113, a_114, w_114, a_115, w_115, a_116, w_116, a_117, w_117, a_118, w_118, a_119, w_119, a_120, w_120, a_121, w_121, a_122, w_122, a_123, w_123, a_124, w_124, e5, t1, p]
    rw [m_wm139 h hb (by omega), e3]
    rfl
theorem m_wm49 (h : BkRel C b) (hb : b < 24) (hl : l.length ≤ 2) : JX11_writeMark_49 K (lay z g (wmC C l)) (ad z 104) (J (b : Nat)) (J (16 * (b : Int))) = K (lay z g (wmC C (l ++ (mk1 C b ++ (mk2 C b ++ (mk3 C b ++ mk4 C b)))))) := by
  have e6 : ∀ l : List Int, wmC C l 106 = C 106 := fun l => wmC_ne (by omega)
  have e7 : ∀ l : List Int, wmC C l 107 = C 107 := fun l => wmC_ne (by omega)
  have h6 := h.2.2.2.2.2.2.1
  have h7 := h.2.2.2.2.2.2.2.1
  obtain ⟨n, hn⟩ : ∃ n : Nat, C 106 b = n := ⟨(C 106 b).toNat, by omega⟩
  obtain ⟨m, hm⟩ : ∃ m : Nat, C 107 b = m := ⟨(C 107 b).toNat, by omega⟩
  have t2 : 16 * (b : Int) + 2 = ((16 * b + 2 : Nat) : Int) := by omega
  have t6 : 16 * (b : Int) + 6 = ((16 * b + 6 : Nat) : Int) := by omega
  have e1 : mk1 C b = (List.range n).map (fun j => 48 + C 105 (16 * b + 2 + j)) := by
    unfold mk1
    rw [hn, Int.toNat_natCast]
    congr 1
    funext j
    unfold ptC
    rw [Nat.add_assoc]
  unfold JX11_writeMark_49
  simp (disch := omega) only [J_add, J_sub, J_mul, J_lt, J_le, J_eq, xbr_true, xbr_false, xbr_pos, xbr_neg, Int.toNat_natCast, all_eq, ex_eq, t_0, q_0_0, q_0_1, q_0_2, q_0_3, q_0_4, q_0_5, q_0_6, q_0_7, q_0_8, q_0_9, i_0_10, p_0_10, i_0_11, p_0_11, i_0_12, p_0_12, t_1, q_1_0, t_3, q_3_0, q_3_1, i_3_2, p_3_2, i_3_3, p_3_3, t_80, q_80_0, t_88, q_88_0, t_90, q_90_0, t_92, q_92_0, q_92_1, q_92_2, i_92_3, p_92_3, i_92_4, p_92_4, t_96, q_96_0, i_96_1, p_96_1, i_96_2, p_96_2, i_96_3, p_96_3, t_100, q_100_0, i_100_1, p_100_1, i_100_2, p_100_2, i_100_3, p_100_3, t_104, q_104_1, q_104_2, q_104_3, q_104_4, q_104_5, q_104_6, q_104_8, q_104_9, q_104_11, q_104_12, q_104_18, q_104_21, q_104_22, q_104_23, q_104_24, q_104_26, q_104_27, q_104_28, q_104_30, q_104_31, i_104_0, p_104_0, i_104_7, p_104_7, i_104_10, p_104_10, i_104_13, p_104_13, i_104_14, p_104_14, i_104_15, p_104_15, i_104_16, p_104_16, i_104_17, p_104_17, i_104_19, p_104_19, i_104_20, p_104_20, i_104_25, p_104_25, i_104_29, p_104_29, a_2, w_2, a_81, w_81, a_89, w_89, a_91, w_91, a_93, w_93, a_94, w_94, a_95, w_95, a_105, w_105, a_106, w_106, a_107, w_107, a_108, w_108, a_109, w_109, a_110, w_110, a_111, w_111, a_112, w_112, a_113, w_113, a_114, w_114, a_115, w_115, a_116, w_116, a_117, w_117, a_118, w_118, a_119, w_119, a_120, w_120, a_121, w_121, a_122, w_122, a_123, w_123, a_124, w_124, e6, hn, t2]
  rw [m_writeF (by omega) (by omega) (by omega), ← e1]
  have l1 := mk1_len h
  simp (disch := omega) only [J_add, J_sub, J_mul, J_lt, J_le, J_eq, xbr_true, xbr_false, xbr_pos, xbr_neg, Int.toNat_natCast, all_eq, ex_eq, t_0, q_0_0, q_0_1, q_0_2, q_0_3, q_0_4, q_0_5, q_0_6, q_0_7, q_0_8, q_0_9, i_0_10, p_0_10, i_0_11, p_0_11, i_0_12, p_0_12, t_1, q_1_0, t_3, q_3_0, q_3_1, i_3_2, p_3_2, i_3_3, p_3_3, t_80, q_80_0, t_88, q_88_0, t_90, q_90_0, t_92, q_92_0, q_92_1, q_92_2, i_92_3, p_92_3, i_92_4, p_92_4, t_96, q_96_0, i_96_1, p_96_1, i_96_2, p_96_2, i_96_3, p_96_3, t_100, q_100_0, i_100_1, p_100_1, i_100_2, p_100_2, i_100_3, p_100_3, t_104, q_104_1, q_104_2, q_104_3, q_104_4, q_104_5, q_104_6, q_104_8, q_104_9, q_104_11, q_104_12, q_104_18, q_104_21, q_104_22, q_104_23, q_104_24, q_104_26, q_104_27, q_104_28, q_104_30, q_104_31, i_104_0, p_104_0, i_104_7, p_104_7, i_104_10, p_104_10, i_104_13, p_104_13, i_104_14, p_104_14, i_104_15, p_104_15, i_104_16, p_104_16, i_104_17, p_104_17, i_104_19, p_104_19, i_104_20, p_104_20, i_104_25, p_104_25, i_104_29, p_104_29, a_2, w_2, a_81, w_81, a_89, w_89, a_91, w_91, a_93, w_93, a_94, w_94, a_95, w_95, a_105, w_105, a_106, w_106, a_107, w_107, a_108, w_108, a_109, w_109, a_110, w_110, a_111, w_111, a_112, w_112, a_113, w_113, a_114, w_114, a_115, w_115, a_116, w_116, a_117, w_117, a_118, w_118, a_119, w_119, a_120, w_120, a_121, w_121, a_122, w_122, a_123, w_123, a_124, w_124, e7, hm]
  by_cases c : 0 < C 107 b
  · have e2 : mk2 C b = 46 :: (List.range m).map (fun j => 48 + C 105 (16 * b + 6 + j)) := by
      unfold mk2
      rw [if_pos c, hm, Int.toNat_natCast]
      congr 2
      funext j
      unfold ptC
      rw [Nat.add_assoc]
    simp (disch := omega) only [J_add, J_sub, J_mul, J_lt, J_le, J_eq, xbr_true, xbr_false, xbr_pos, xbr_neg, Int.toNat_natCast, all_eq, ex_eq, t_0, q_0_0, q_0_1, q_0_2, q_0_3, q_0_4, q_0_5, q_0_6, q_0_7, q_0_8, q_0_9, i_0_10, p_0_10, i_0_11, p_0_11, i_0_12, p_0_12, t_1, q_1_0, t_3, q_3_0, q_3_1, i_3_2, p_3_2, i_3_3, p_3_3, t_80, q_80_0, t_88, q_88_0, t_90, q_90_0, t_92, q_92_0, q_92_1, q_92_2, i_92_3, p_92_3, i_92_4, p_92_4, t_96, q_96_0, i_96_1, p_96_1, i_96_2, p_96_2, i_96_3, p_96_3, t_100, q_100_0, i_100_1, p_100_1, i_100_2, p_100_2, i_100_3, p_100_3, t_104, q_104_1, q_104_2, q_104_3, q_104_4, q_104_5, q_104_6, q_104_8, q_104_9, q_104_11, q_104_12, q_104_18, q_104_21, q_104_22, q_104_23, q_104_24, q_104_26, q_104_27, q_104_28, q_104_30, q_104_31, i_104_0, p_104_0, i_104_7, p_104_7, i_104_10, p_104_10, i_104_13, p_104_13, i_104_14, p_104_14, i_104_15, p_104_15, i_104_16, p_104_16, i_104_17, p_104_17, i_104_19, p_104_19, i_104_20, p_104_20, i_104_25, p_104_25, i_104_29, p_104_29, a_2, w_2, a_81, w_81, a_89, w_89, a_91, w_91, a_93, w_93, a_94, w_94, a_95, w_95, a_105, w_105, a_106, w_106, a_107, w_107, a_108, w_108, a_109, w_109, a_110, w_110, a_111, w_111, a_112, w_112, a_113, w_113, a_114, w_114, a_115, w_115, a_116, w_116, a_117, w_117, a_118, w_118, a_119, w_119, a_120, w_120, a_121, w_121, a_122, w_122, a_123, w_123, a_124, w_124, m_write (C := C) (l := l ++ mk1 C b) (by simp; omega), e7, hm, t6]
    rw [m_writeF (by omega) (by simp; omega) (by omega), m_wm91 h hb (by simp; omega), e2]
    simp
  · have e2 : mk2 C b = [] := by unfold mk2; rw [if_neg c]
    simp (disch := omega) only [J_add, J_sub, J_mul, J_lt, J_le, J_eq, xbr_true, xbr_false, xbr_pos, xbr_neg, Int.toNat_natCast, all_eq, ex_eq, t_0, q_0_0, q_0_1, q_0_2, q_0_3, q_0_4, q_0_5, q_0_6, q_0_7, q_0_8, q_0_9, i_0_10, p_0_10, i_0_11, p_0_11, i_0_12, p_0_12, t_1, q_1_0, t_3, q_3_0, q_3_1, i_3_2, p_3_2, i_3_3, p_3_3, t_80, q_80_0, t_88, q_88_0, t_90, q_90_0, t_92, q_92_0, q_92_1, q_92_2, i_92_3, p_92_3, i_92_4, p_92_4, t_96, q_96_0, i_96_1, p_96_1, i_96_2, p_96_2, i_96_3, p_96_3, t_100, q_100_0, i_100_1, p_100_1, i_100_2, p_100_2, i_100_3, p_100_3, t_104, q_104_1, q_104_2, q_104_3, q_104_4, q_104_5, q_104_6, q_104_8, q_104_9, q_104_11, q_104_12, q_104_18, q_104_21, q_104_22, q_104_23, q_104_24, q_104_26, q_104_27, q_104_28, q_104_30, q_104_31, i_104_0, p_104_0, i_104_7, p_104_7, i_104_10, p_104_10, i_104_13, p_104_13, i_104_14, p_104_14, i_104_15, p_104_15, i_104_16, p_104_16, i_104_17, p_104_17, i_104_19, p_104_19, i_104_20, p_104_20, i_104_25, p_104_25, i_104_29, p_104_29, a_2, w_2, a_81, w_81, a_89, w_89, a_91, w_91, a_93, w_93, a_94, w_94, a_95, w_95, a_105, w_105, a_106, w_106, a_107, w_107, a_108, w_108, a_109, w_109, a_110, w_110, a_111, w_111, a_112, w_112, a_113, w_113, a_114, w_114, a_115, w_115, a_116, w_116, a_117, w_117, a_118, w_118, a_119, w_119, a_120, w_120, a_121, w_121, a_122, w_122, a_123, w_123, a_124, w_124]
    rw [m_wm91 h hb (by simp; omega), e2]
    simp
theorem m_writeMark (h : BkRel C b) (hb : b < 24) : PX11_writeMark (ad z 104) (J (b : Nat)) (lay z g C) K = K (lay z g (wmC C (mkA C b))) := by
  have e5 : ∀ l : List Int, wmC C l 105 = C 105 := fun l => wmC_ne (by omega)
  have e0 : up C 104 19 0 = wmC C [] := by
    funext a j
    simp [up, wmC]
  have t0 : (16 * (b : Int)).toNat = 16 * b := by omega
  have t1 : (16 * (b : Int) + 1).toNat = 16 * b + 1 := by omega
  have p0 : C 105 (16 * b) = ptC C b 0 := rfl
  have p1 : C 105 (16 * b + 1) = ptC C b 1 := rfl
  have hr := h.2.1
  unfold PX11_writeMark
  simp (disch := omega) only [J_add, J_sub, J_mul, J_lt, J_le, J_eq, xbr_true, xbr_false, xbr_pos, xbr_neg, Int.toNat_natCast, all_eq, ex_eq, t_0, q_0_0, q_0_1, q_0_2, q_0_3, q_0_4, q_0_5, q_0_6, q_0_7, q_0_8, q_0_9, i_0_10, p_0_10, i_0_11, p_0_11, i_0_12, p_0_12, t_1, q_1_0, t_3, q_3_0, q_3_1, i_3_2, p_3_2, i_3_3, p_3_3, t_80, q_80_0, t_88, q_88_0, t_90, q_90_0, t_92, q_92_0, q_92_1, q_92_2, i_92_3, p_92_3, i_92_4, p_92_4, t_96, q_96_0, i_96_1, p_96_1, i_96_2, p_96_2, i_96_3, p_96_3, t_100, q_100_0, i_100_1, p_100_1, i_100_2, p_100_2, i_100_3, p_100_3, t_104, q_104_1, q_104_2, q_104_3, q_104_4, q_104_5, q_104_6, q_104_8, q_104_9, q_104_11, q_104_12, q_104_18, q_104_21, q_104_22, q_104_23, q_104_24, q_104_26, q_104_27, q_104_28, q_104_30, q_104_31, i_104_0, p_104_0, i_104_7, p_104_7, i_104_10, p_104_10, i_104_13, p_104_13, i_104_14, p_104_14, i_104_15, p_104_15, i_104_16, p_104_16, i_104_17, p_104_17, i_104_19, p_104_19, i_104_20, p_104_20, i_104_25, p_104_25, i_104_29, p_104_29, a_2, w_2, a_81, w_81, a_89, w_89, a_91, w_91, a_93, w_93, a_94, w_94, a_95, w_95, a_105, w_105, a_106, w_106, a_107, w_107, a_108, w_108, a_109, w_109, a_110, w_110, a_111, w_111, a_112, w_112, a_113, w_113, a_114, w_114, a_115, w_115, a_116, w_116, a_117, w_117, a_118, w_118, a_119, w_119, a_120, w_120, a_121, w_121, a_122, w_122, a_123, w_123, a_124, w_124, e0, e5, t0, t1, p0, p1, m_write (C := C) (l := []) (show ([] : List Int).length < 24 by simp)]
  rw [mkA_eq]
  unfold mk0
  by_cases c : 0 ≤ ptC C b 1
  · rw [if_pos c]
    simp (disch := omega) only [J_add, J_sub, J_mul, J_lt, J_le, J_eq, xbr_true, xbr_false, xbr_pos, xbr_neg, Int.toNat_natCast, all_eq, ex_eq, t_0, q_0_0, q_0_1, q_0_2, q_0_3, q_0_4, q_0_5, q_0_6, q_0_7, q_0_8, q_0_9, i_0_10, p_0_10, i_0_11, p_0_11, i_0_12, p_0_12, t_1, q_1_0, t_3, q_3_0, q_3_1, i_3_2, p_3_2, i_3_3, p_3_3, t_80, q_80_0, t_88, q_88_0, t_90, q_90_0, t_92, q_92_0, q_92_1, q_92_2, i_92_3, p_92_3, i_92_4, p_92_4, t_96, q_96_0, i_96_1, p_96_1, i_96_2, p_96_2, i_96_3, p_96_3, t_100, q_100_0, i_100_1, p_100_1, i_100_2, p_100_2, i_100_3, p_100_3, t_104, q_104_1, q_104_2, q_104_3, q_104_4, q_104_5, q_104_6, q_104_8, q_104_9, q_104_11, q_104_12, q_104_18, q_104_21, q_104_22, q_104_23, q_104_24, q_104_26, q_104_27, q_104_28, q_104_30, q_104_31, i_104_0, p_104_0, i_104_7, p_104_7, i_104_10, p_104_10, i_104_13, p_104_13, i_104_14, p_104_14, i_104_15, p_104_15, i_104_16, p_104_16, i_104_17, p_104_17, i_104_19, p_104_19, i_104_20, p_104_20, i_104_25, p_104_25, i_104_29, p_104_29, a_2, w_2, a_81, w_81, a_89, w_89, a_91, w_91, a_93, w_93, a_94, w_94, a_95, w_95, a_105, w_105, a_106, w_106, a_107, w_107, a_108, w_108, a_109, w_109, a_110, w_110, a_111, w_111, a_112, w_112, a_113, w_113, a_114, w_114, a_115, w_115, a_116, w_116, a_117, w_117, a_118, w_118, a_119, w_119, a_120, w_120, a_121, w_121, a_122, w_122, a_123, w_123, a_124, w_124]
    rw [m_write (by simp)]
    rw [m_wm49 h hb (by simp)]
    simp
  · rw [if_neg c]
    simp (disch := omega) only [J_add, J_sub, J_mul, J_lt, J_le, J_eq, xbr_true, xbr_false, xbr_pos, xbr_neg, Int.toNat_natCast, all_eq, ex_eq, t_0, q_0_0, q_0_1, q_0_2, q_0_3, q_0_4, q_0_5, q_0_6, q_0_7, q_0_8, q_0_9, i_0_10, p_0_10, i_0_11, p_0_11, i_0_12, p_0_12, t_1, q_1_0, t_3, q_3_0, q_3_1, i_3_2, p_3_2, i_3_3, p_3_3, t_80, q_80_0, t_88, q_88_0, t_90, q_90_0, t_92, q_92_0, q_92_1, q_92_2, i_92_3, p_92_3, i_92_4, p_92_4, t_96, q_96_0, i_96_1, p_96_1, i_96_2, p_96_2, i_96_3, p_96_3, t_100, q_100_0, i_100_1, p_100_1, i_100_2, p_100_2, i_100_3, p_100_3, t_104, q_104_1, q_104_2, q_104_3, q_104_4, q_104_5, q_104_6, q_104_8, q_104_9, q_104_11, q_104_12, q_104_18, q_104_21, q_104_22, q_104_23, q_104_24, q_104_26, q_104_27, q_104_28, q_104_30, q_104_31, i_104_0, p_104_0, i_104_7, p_104_7, i_104_10, p_104_10, i_104_13, p_104_13, i_104_14, p_104_14, i_104_15, p_104_15, i_104_16, p_104_16, i_104_17, p_104_17, i_104_19, p_104_19, i_104_20, p_104_20, i_104_25, p_104_25, i_104_29, p_104_29, a_2, w_2, a_81, w_81, a_89, w_89, a_91, w_91, a_93, w_93, a_94, w_94, a_95, w_95, a_105, w_105, a_106, w_106, a_107, w_107, a_108, w_108, a_109, w_109, a_110, w_110, a_111, w_111, a_112, w_112, a_113, w_113, a_114, w_114, a_115, w_115, a_116, w_116, a_117, w_117, a_118, w_118, a_119, w_119, a_120, w_120, a_121, w_121, a_122, w_122, a_123, w_123, a_124, w_124]
    rw [m_wm49 h hb (by simp)]
    simp
end WM
/-- byte i of a mark, of the class's book -/
theorem Ltr.at (h : Ltr C b) {i : Nat} (hi : i < (mkA C b).length) : C (10 + 3 * b) i = (mkA C b).getD i 0 := by
  refine h.2 i _ ?_
  simp [List.getD_eq_getElem?_getD, hi]
theorem bB (hb : b < 24) : isBytes (9 + 3 * b) 23 := by
  have := book_B (b := 8 + 3 * b) (Or.inr ⟨b, hb, rfl⟩)
  rw [show 8 + 3 * b + 1 = 9 + 3 * b by omega] at this
  exact this
theorem bS (hb : b < 24) : okR 1 (8 + 3 * b) 0 (9 + 3 * b) = true := by
  have := book_s (b := 8 + 3 * b) (Or.inr ⟨b, hb, rfl⟩)
  rw [show 8 + 3 * b + 1 = 9 + 3 * b by omega] at this
  exact this
theorem op_mark (h : Inv C nb A) {b i : Int} (hb : -2147483648 ≤ b ∧ b < 2147483648) (hi : -2147483648 ≤ i ∧ i < 2147483648) : ∃ (r : Int) (C2 : Nat → Nat → Int), (∀ K, PX10_mark (ad z 0) (J b) (J i) (lay z g C) K = K (J r)) ∧ (∀ K, PX11_mark (ad z 104) (J b) (J i) (lay z g C) K = K (J r) (lay z g C2)) ∧ Inv C2 nb A := by
  obtain ⟨g1, g2, g3, g4, g5, g6, g7, g8⟩ := h.2.1
  by_cases c1 : 0 ≤ b ∧ b < nb
  · obtain ⟨x, rfl⟩ : ∃ x : Nat, b = x := ⟨b.toNat, by omega⟩
    have hx : x < nb := by omega
    have ho := bkO_nat (b := x) (by omega)
    have hL := g7 x hx
    have hl := mkA_len (g6 x hx)
    have hl0 := hL.1
    have inv2 : Inv (wmC C (mkA C x)) nb A := by
      refine h.work (fun a ha => ?_) (fun j hj => wmC_104 (by omega)) (h.2.2.2.2.2.2.1.fr (fun a _ _ => wmC_ne (by omega)) (wmC_104 (by omega)) (wmC_ne (by omega)) (wmC_ne (by omega))) (h.2.2.2.2.2.2.2.1.fr (wmC_ne (by omega)) (wmC_ne (by omega)) (wmC_ne (by omega)))
      unfold freeO at ha
      exact wmC_ne (by omega)
    have cl : ∀ K, PX10_mark (ad z 0) (J (x : Nat)) (J i) (lay z g C) K = xbr (J i = J (-1)) (PX1_size (ad z (9 + 3 * x)) (lay z g C) fun r12 => K r12) (PX1_get (ad z (9 + 3 * x)) (J i) (lay z g C) fun r10 => K r10) := fun K => by
      unfold PX10_mark
      simp (disch := omega) only [J_add, J_sub, J_mul, J_lt, J_le, J_eq, xbr_true, xbr_false, xbr_pos, xbr_neg, Int.toNat_natCast, all_eq, ex_eq, t_0, q_0_0, q_0_1, q_0_2, q_0_3, q_0_4, q_0_5, q_0_6, q_0_7, q_0_8, q_0_9, i_0_10, p_0_10, i_0_11, p_0_11, i_0_12, p_0_12, t_1, q_1_0, t_3, q_3_0, q_3_1, i_3_2, p_3_2, i_3_3, p_3_3, t_80, q_80_0, t_88, q_88_0, t_90, q_90_0, t_92, q_92_0, q_92_1, q_92_2, i_92_3, p_92_3, i_92_4, p_92_4, t_96, q_96_0, i_96_1, p_96_1, i_96_2, p_96_2, i_96_3, p_96_3, t_100, q_100_0, i_100_1, p_100_1, i_100_2, p_100_2, i_100_3, p_100_3, t_104, q_104_1, q_104_2, q_104_3, q_104_4, q_104_5, q_104_6, q_104_8, q_104_9, q_104_11, q_104_12, q_104_18, q_104_21, q_104_22, q_104_23, q_104_24, q_104_26, q_104_27, q_104_28, q_104_30, q_104_31, i_104_0, p_104_0, i_104_7, p_104_7, i_104_10, p_104_10, i_104_13, p_104_13, i_104_14, p_104_14, i_104_15, p_104_15, i_104_16, p_104_16, i_104_17, p_104_17, i_104_19, p_104_19, i_104_20, p_104_20, i_104_25, p_104_25, i_104_29, p_104_29, a_2, w_2, a_81, w_81, a_89, w_89, a_91, w_91, a_93, w_93, a_94, w_94, a_95, w_95, a_105, w_105, a_106, w_106, a_107, w_107, a_108, w_108, a_109, w_109, a_110, w_110, a_111, w_111, a_112, w_112, a_113, w_113, a_114, w_114, a_115, w_115, a_116, w_116, a_117, w_117, a_118, w_118, a_119, w_119, a_120, w_120, a_121, w_121, a_122, w_122, a_123, w_123, a_124, w_124, s_has, s_of, ho, gR_lay (bS (show x < 24 by omega))]
    have ref : ∀ K, PX11_mark (ad z 104) (J (x : Nat)) (J i) (lay z g C) K = K (J (if i = -1 then ((mkA C x).length : Int) else if 0 ≤ i ∧ i < (mkA C x).length then (mkA C x).getD i.toNat 0 else -1)) (lay z g (wmC C (mkA C x))) := fun K => by
      unfold PX11_mark
      by_cases q : i = -1
      · simp (disch := omega) only [J_add, J_sub, J_mul, J_lt, J_le, J_eq, xbr_true, xbr_false, xbr_pos, xbr_neg, Int.toNat_natCast, all_eq, ex_eq, t_0, q_0_0, q_0_1, q_0_2, q_0_3, q_0_4, q_0_5, q_0_6, q_0_7, q_0_8, q_0_9, i_0_10, p_0_10, i_0_11, p_0_11, i_0_12, p_0_12, t_1, q_1_0, t_3, q_3_0, q_3_1, i_3_2, p_3_2, i_3_3, p_3_3, t_80, q_80_0, t_88, q_88_0, t_90, q_90_0, t_92, q_92_0, q_92_1, q_92_2, i_92_3, p_92_3, i_92_4, p_92_4, t_96, q_96_0, i_96_1, p_96_1, i_96_2, p_96_2, i_96_3, p_96_3, t_100, q_100_0, i_100_1, p_100_1, i_100_2, p_100_2, i_100_3, p_100_3, t_104, q_104_1, q_104_2, q_104_3, q_104_4, q_104_5, q_104_6, q_104_8, q_104_9, q_104_11, q_104_12, q_104_18, q_104_21, q_104_22, q_104_23, q_104_24, q_104_26, q_104_27, q_104_28, q_104_30, q_104_31, i_104_0, p_104_0, i_104_7, p_104_7, i_104_10, p_104_10, i_104_13, p_104_13, i_104_14, p_104_14, i_104_15, p_104_15, i_104_16, p_104_16, i_104_17, p_104_17, i_104_19, p_104_19, i_104_20, p_104_20, i_104_25, p_104_25, i_104_29, p_104_29, a_2, w_2, a_81, w_81, a_89, w_89, a_91, w_91, a_93, w_93, a_94, w_94, a_95, w_95, a_105, w_105, a_106, w_106, a_107, w_107, a_108, w_108, a_109, w_109, a_110, w_110, a_111, w_111, a_112, w_112, a_113, w_113, a_114, w_114, a_115, w_115, a_116, w_116, a_117, w_117, a_118, w_118, a_119, w_119, a_120, w_120, a_121, w_121, a_122, w_122, a_123, w_123, a_124, w_124, m_isBook, m_writeMark (g6 x hx) (show x < 24 by omega), wmC_len, q, if_true]
      · by_cases q2 : 0 ≤ i ∧ i < (mkA C x).length
        · have e15 : wmC C (mkA C x) 115 i.toNat = (mkA C x).getD i.toNat 0 := by
            unfold wmC
            rw [if_neg (by omega), if_pos (by omega)]
          simp (disch := omega) only [J_add, J_sub, J_mul, J_lt, J_le, J_eq, xbr_true, xbr_false, xbr_pos, xbr_neg, Int.toNat_natCast, all_eq, ex_eq, t_0, q_0_0, q_0_1, q_0_2, q_0_3, q_0_4, q_0_5, q_0_6, q_0_7, q_0_8, q_0_9, i_0_10, p_0_10, i_0_11, p_0_11, i_0_12, p_0_12, t_1, q_1_0, t_3, q_3_0, q_3_1, i_3_2, p_3_2, i_3_3, p_3_3, t_80, q_80_0, t_88, q_88_0, t_90, q_90_0, t_92, q_92_0, q_92_1, q_92_2, i_92_3, p_92_3, i_92_4, p_92_4, t_96, q_96_0, i_96_1, p_96_1, i_96_2, p_96_2, i_96_3, p_96_3, t_100, q_100_0, i_100_1, p_100_1, i_100_2, p_100_2, i_100_3, p_100_3, t_104, q_104_1, q_104_2, q_104_3, q_104_4, q_104_5, q_104_6, q_104_8, q_104_9, q_104_11, q_104_12, q_104_18, q_104_21, q_104_22, q_104_23, q_104_24, q_104_26, q_104_27, q_104_28, q_104_30, q_104_31, i_104_0, p_104_0, i_104_7, p_104_7, i_104_10, p_104_10, i_104_13, p_104_13, i_104_14, p_104_14, i_104_15, p_104_15, i_104_16, p_104_16, i_104_17, p_104_17, i_104_19, p_104_19, i_104_20, p_104_20, i_104_25, p_104_25, i_104_29, p_104_29, a_2, w_2, a_81, w_81, a_89, w_89, a_91, w_91, a_93, w_93, a_94, w_94, a_95, w_95, a_105, w_105, a_106, w_106, a_107, w_107, a_108, w_108, a_109, w_109, a_110, w_110, a_111, w_111, a_112, w_112, a_113, w_113, a_114, w_114, a_115, w_115, a_116, w_116, a_117, w_117, a_118, w_118, a_119, w_119, a_120, w_120, a_121, w_121, a_122, w_122, a_123, w_123, a_124, w_124, m_isBook, m_writeMark (g6 x hx) (show x < 24 by omega), wmC_len, J_long, m_in, if_pos (show 0 ≤ i ∧ i ≤ ((mkA C x).length : Int) - 1 by omega), e15]
          rw [if_neg q, if_pos q2]
        · simp (disch := omega) only [J_add, J_sub, J_mul, J_lt, J_le, J_eq, xbr_true, xbr_false, xbr_pos, xbr_neg, Int.toNat_natCast, all_eq, ex_eq, t_0, q_0_0, q_0_1, q_0_2, q_0_3, q_0_4, q_0_5, q_0_6, q_0_7, q_0_8, q_0_9, i_0_10, p_0_10, i_0_11, p_0_11, i_0_12, p_0_12, t_1, q_1_0, t_3, q_3_0, q_3_1, i_3_2, p_3_2, i_3_3, p_3_3, t_80, q_80_0, t_88, q_88_0, t_90, q_90_0, t_92, q_92_0, q_92_1, q_92_2, i_92_3, p_92_3, i_92_4, p_92_4, t_96, q_96_0, i_96_1, p_96_1, i_96_2, p_96_2, i_96_3, p_96_3, t_100, q_100_0, i_100_1, p_100_1, i_100_2, p_100_2, i_100_3, p_100_3, t_104, q_104_1, q_104_2, q_104_3, q_104_4, q_104_5, q_104_6, q_104_8, q_104_9, q_104_11, q_104_12, q_104_18, q_104_21, q_104_22, q_104_23, q_104_24, q_104_26, q_104_27, q_104_28, q_104_30, q_104_31, i_104_0, p_104_0, i_104_7, p_104_7, i_104_10, p_104_10, i_104_13, p_104_13, i_104_14, p_104_14, i_104_15, p_104_15, i_104_16, p_104_16, i_104_17, p_104_17, i_104_19, p_104_19, i_104_20, p_104_20, i_104_25, p_104_25, i_104_29, p_104_29, a_2, w_2, a_81, w_81, a_89, w_89, a_91, w_91, a_93, w_93, a_94, w_94, a_95, w_95, a_105, w_105, a_106, w_106, a_107, w_107, a_108, w_108, a_109, w_109, a_110, w_110, a_111, w_111, a_112, w_112, a_113, w_113, a_114, w_114, a_115, w_115, a_116, w_116, a_117, w_117, a_118, w_118, a_119, w_119, a_120, w_120, a_121, w_121, a_122, w_122, a_123, w_123, a_124, w_124, m_isBook, m_writeMark (g6 x hx) (show x < 24 by omega), wmC_len, J_long, m_in, if_neg (show ¬ (0 ≤ i ∧ i ≤ ((mkA C x).length : Int) - 1) by omega)]
          rw [if_neg q, if_neg q2]
    refine ⟨_, _, fun K => ?_, ref, inv2⟩
    rw [cl]
    by_cases q : i = -1
    · simp (disch := omega) only [J_add, J_sub, J_mul, J_lt, J_le, J_eq, xbr_true, xbr_false, xbr_pos, xbr_neg, Int.toNat_natCast, all_eq, ex_eq, q, s_bsize (bB (show x < 24 by omega)), hl0, if_true]
    · simp (disch := omega) only [J_add, J_sub, J_mul, J_lt, J_le, J_eq, xbr_true, xbr_false, xbr_pos, xbr_neg, Int.toNat_natCast, all_eq, ex_eq, s_bget (bB (show x < 24 by omega)), hl0]
      rw [if_neg q]
      by_cases q2 : 0 ≤ i ∧ i < (mkA C x).length
      · rw [if_pos q2, if_pos q2]
        have := hL.at (i := i.toNat) (by omega)
        rw [show 9 + 3 * x + 1 = 10 + 3 * x by omega, this]
      · rw [if_neg q2, if_neg q2]
  · refine ⟨-1001, C, fun K => ?_, fun K => ?_, h⟩
    · unfold PX10_mark
      simp (disch := omega) only [J_add, J_sub, J_mul, J_lt, J_le, J_eq, xbr_true, xbr_false, xbr_pos, xbr_neg, Int.toNat_natCast, all_eq, ex_eq, t_0, q_0_0, q_0_1, q_0_2, q_0_3, q_0_4, q_0_5, q_0_6, q_0_7, q_0_8, q_0_9, i_0_10, p_0_10, i_0_11, p_0_11, i_0_12, p_0_12, t_1, q_1_0, t_3, q_3_0, q_3_1, i_3_2, p_3_2, i_3_3, p_3_3, t_80, q_80_0, t_88, q_88_0, t_90, q_90_0, t_92, q_92_0, q_92_1, q_92_2, i_92_3, p_92_3, i_92_4, p_92_4, t_96, q_96_0, i_96_1, p_96_1, i_96_2, p_96_2, i_96_3, p_96_3, t_100, q_100_0, i_100_1, p_100_1, i_100_2, p_100_2, i_100_3, p_100_3, t_104, q_104_1, q_104_2, q_104_3, q_104_4, q_104_5, q_104_6, q_104_8, q_104_9, q_104_11, q_104_12, q_104_18, q_104_21, q_104_22, q_104_23, q_104_24, q_104_26, q_104_27, q_104_28, q_104_30, q_104_31, i_104_0, p_104_0, i_104_7, p_104_7, i_104_10, p_104_10, i_104_13, p_104_13, i_104_14, p_104_14, i_104_15, p_104_15, i_104_16, p_104_16, i_104_17, p_104_17, i_104_19, p_104_19, i_104_20, p_104_20, i_104_25, p_104_25, i_104_29, p_104_29, a_2, w_2, a_81, w_81, a_89, w_89, a_91, w_91, a_93, w_93, a_94, w_94, a_95, w_95, a_105, w_105, a_106, w_106, a_107, w_107, a_108, w_108, a_109, w_109, a_110, w_110, a_111, w_111, a_112, w_112, a_113, w_113, a_114, w_114, a_115, w_115, a_116, w_116, a_117, w_117, a_118, w_118, a_119, w_119, a_120, w_120, a_121, w_121, a_122, w_122, a_123, w_123, a_124, w_124, s_has]
    · unfold PX11_mark
      simp (disch := omega) only [J_add, J_sub, J_mul, J_lt, J_le, J_eq, xbr_true, xbr_false, xbr_pos, xbr_neg, Int.toNat_natCast, all_eq, ex_eq, t_0, q_0_0, q_0_1, q_0_2, q_0_3, q_0_4, q_0_5, q_0_6, q_0_7, q_0_8, q_0_9, i_0_10, p_0_10, i_0_11, p_0_11, i_0_12, p_0_12, t_1, q_1_0, t_3, q_3_0, q_3_1, i_3_2, p_3_2, i_3_3, p_3_3, t_80, q_80_0, t_88, q_88_0, t_90, q_90_0, t_92, q_92_0, q_92_1, q_92_2, i_92_3, p_92_3, i_92_4, p_92_4, t_96, q_96_0, i_96_1, p_96_1, i_96_2, p_96_2, i_96_3, p_96_3, t_100, q_100_0, i_100_1, p_100_1, i_100_2, p_100_2, i_100_3, p_100_3, t_104, q_104_1, q_104_2, q_104_3, q_104_4, q_104_5, q_104_6, q_104_8, q_104_9, q_104_11, q_104_12, q_104_18, q_104_21, q_104_22, q_104_23, q_104_24, q_104_26, q_104_27, q_104_28, q_104_30, q_104_31, i_104_0, p_104_0, i_104_7, p_104_7, i_104_10, p_104_10, i_104_13, p_104_13, i_104_14, p_104_14, i_104_15, p_104_15, i_104_16, p_104_16, i_104_17, p_104_17, i_104_19, p_104_19, i_104_20, p_104_20, i_104_25, p_104_25, i_104_29, p_104_29, a_2, w_2, a_81, w_81, a_89, w_89, a_91, w_91, a_93, w_93, a_94, w_94, a_95, w_95, a_105, w_105, a_106, w_106, a_107, w_107, a_108, w_108, a_109, w_109, a_110, w_110, a_111, w_111, a_112, w_112, a_113, w_113, a_114, w_114, a_115, w_115, a_116, w_116, a_117, w_117, a_118, w_118, a_119, w_119, a_120, w_120, a_121, w_121, a_122, w_122, a_123, w_123, a_124, w_124, m_isBook]
end MRK
