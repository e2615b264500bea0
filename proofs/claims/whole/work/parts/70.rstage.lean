/-! READING A TEXT: the reference, part by part -/
/-- the reference's m-th book as it is read, where it is in the text, how many figures, the fault's place -/
def rM (C : Nat → Nat → Int) (m : Nat) (P : Nat → Int) (k1 k2 k3 w at0 fg fp : Int) : Nat → Nat → Int := fun a j =>
  if a = 105 ∧ 16 * m ≤ j ∧ j < 16 * m + 16 then P (j - 16 * m) else if a = 106 ∧ j = m then k1 else if a = 107 ∧ j = m then k2 else if a = 108 ∧ j = m then k3 else if a = 109 ∧ j = m then w else if a = 104 ∧ j = 15 then at0 else if a = 104 ∧ j = 17 then fg else if a = 104 ∧ j = 14 then fp else C a j
def TxM (C : Nat → Nat → Int) (n : Nat) (tx : Nat → Int) : Prop := C 104 13 = n ∧ n ≤ 600 ∧ (∀ p, p < n → C 114 p = tx p ∧ 0 ≤ tx p ∧ tx p ≤ 255) ∧ ∀ p, n ≤ p → tx p = -1
def POk (P : Nat → Int) : Prop := ∀ j, (2 ≤ j ∧ j < 10 ∨ 11 ≤ j ∧ j < 15) → 0 ≤ P j ∧ P j ≤ 9
section RST
variable {z n m p : Nat} {g : Mem} {C C' : Nat → Nat → Int} {P : Nat → Int} {k1 k2 k3 w at0 fg fp : Int} {tx : Nat → Int}
theorem TxM.b (h : TxM C n tx) (p : Nat) : -1 ≤ tx p ∧ tx p ≤ 255 ∧ (0 ≤ tx p → p < n) := by
  rcases Nat.lt_or_ge p n with c | c
  · have := h.2.2.1 p c; exact ⟨by omega, by omega, fun _ => c⟩
  · have := h.2.2.2 p c; exact ⟨by omega, by omega, fun q => by omega⟩
theorem TxM.fr (h : TxM C n tx) (e1 : C' 104 13 = C 104 13) (e2 : C' 114 = C 114) : TxM C' n tx := by
  unfold TxM at *
  rw [e1, e2]; exact h
/-- a text of the reference is one of the class: for what is told of places alone -/
theorem TxM.c (h : TxM C n tx) : ∃ D, TxC D n tx := ⟨fun a j => if a = 1 then n else tx j, by
  refine ⟨by simp, h.2.1, fun p hp => ?_, h.2.2.2⟩
  have := h.2.2.1 p hp
  exact ⟨by simp, this.2⟩⟩
theorem rM_ne {a : Nat} (h : a < 104 ∨ 109 < a) : rM C m P k1 k2 k3 w at0 fg fp a = C a := by
  funext j; unfold rM
  rw [if_neg (by omega), if_neg (by omega), if_neg (by omega), if_neg (by omega), if_neg (by omega), if_neg (by omega), if_neg (by omega), if_neg (by omega)]
theorem rM_104 {j : Nat} (h : j ≠ 14 ∧ j ≠ 15 ∧ j ≠ 17) : rM C m P k1 k2 k3 w at0 fg fp 104 j = C 104 j := by
  unfold rM
  rw [if_neg (by omega), if_neg (by omega), if_neg (by omega), if_neg (by omega), if_neg (by omega), if_neg (by omega), if_neg (by omega), if_neg (by omega)]
theorem rM_15 : rM C m P k1 k2 k3 w at0 fg fp 104 15 = at0 := by
  unfold rM
  rw [if_neg (by omega), if_neg (by omega), if_neg (by omega), if_neg (by omega), if_neg (by omega), if_pos ⟨rfl, rfl⟩]
theorem rM_17 : rM C m P k1 k2 k3 w at0 fg fp 104 17 = fg := by
  unfold rM
  rw [if_neg (by omega), if_neg (by omega), if_neg (by omega), if_neg (by omega), if_neg (by omega), if_neg (by omega), if_pos ⟨rfl, rfl⟩]
theorem rM_14 : rM C m P k1 k2 k3 w at0 fg fp 104 14 = fp := by
  unfold rM
  rw [if_neg (by omega), if_neg (by omega), if_neg (by omega), if_neg (by omega), if_neg (by omega), if_neg (by omega), if_neg (by omega), if_pos ⟨rfl, rfl⟩]
theorem rM_P {i : Nat} (hi : i < 16) : rM C m P k1 k2 k3 w at0 fg fp 105 (16 * m + i) = P i := by
  unfold rM
  rw [if_pos (by omega), show 16 * m + i - 16 * m = i by omega]
theorem rM_o {b i : Nat} (hb : b < m) (hi : i < 16) : rM C m P k1 k2 k3 w at0 fg fp 105 (16 * b + i) = C 105 (16 * b + i) := by
  unfold rM
  rw [if_neg (by omega), if_neg (by omega), if_neg (by omega), if_neg (by omega), if_neg (by omega), if_neg (by omega), if_neg (by omega), if_neg (by omega)]
theorem rM_k1 : rM C m P k1 k2 k3 w at0 fg fp 106 m = k1 := by
  unfold rM
  rw [if_neg (by omega), if_pos ⟨rfl, rfl⟩]
theorem rM_k2 : rM C m P k1 k2 k3 w at0 fg fp 107 m = k2 := by
  unfold rM
  rw [if_neg (by omega), if_neg (by omega), if_pos ⟨rfl, rfl⟩]
theorem rM_k3 : rM C m P k1 k2 k3 w at0 fg fp 108 m = k3 := by
  unfold rM
  rw [if_neg (by omega), if_neg (by omega), if_neg (by omega), if_pos ⟨rfl, rfl⟩]
theorem rM_w : rM C m P k1 k2 k3 w at0 fg fp 109 m = w := by
  unfold rM
  rw [if_neg (by omega), if_neg (by omega), if_neg (by omega), if_neg (by omega), if_pos ⟨rfl, rfl⟩]
theorem rM_ob {a b : Nat} (ha : 106 ≤ a) (ha2 : a ≤ 109) (hb : b ≠ m) : rM C m P k1 k2 k3 w at0 fg fp a b = C a b := by
  unfold rM
  rw [if_neg (by omega), if_neg (by omega), if_neg (by omega), if_neg (by omega), if_neg (by omega), if_neg (by omega), if_neg (by omega), if_neg (by omega)]
theorem up_15 {x : Int} : up (rM C m P k1 k2 k3 w at0 fg fp) 104 15 x = rM C m P k1 k2 k3 w x fg fp := by
  funext a j
  unfold up
  by_cases c : a = 104 ∧ j = 15
  · rw [if_pos c, c.1, c.2, rM_15]
  · rw [if_neg c]
    unfold rM
    simp only [if_neg c]
theorem up_17 {x : Int} : up (rM C m P k1 k2 k3 w at0 fg fp) 104 17 x = rM C m P k1 k2 k3 w at0 x fp := by
  funext a j
  unfold up
  by_cases c : a = 104 ∧ j = 17
  · rw [if_pos c, c.1, c.2, rM_17]
  · rw [if_neg c]
    unfold rM
    simp only [if_neg c]
theorem up_14 {x : Int} : up (rM C m P k1 k2 k3 w at0 fg fp) 104 14 x = rM C m P k1 k2 k3 w at0 fg x := by
  funext a j
  unfold up
  by_cases c : a = 104 ∧ j = 14
  · rw [if_pos c, c.1, c.2, rM_14]
  · rw [if_neg c]
    unfold rM
    simp only [if_neg c]
theorem up_k1 {x : Int} : up (rM C m P k1 k2 k3 w at0 fg fp) 106 m x = rM C m P x k2 k3 w at0 fg fp := by
  funext a j
  unfold up
  by_cases c : a = 106 ∧ j = m
  · rw [if_pos c, c.1, c.2, rM_k1]
  · rw [if_neg c]
    unfold rM
    simp only [if_neg c]
theorem up_k2 {x : Int} : up (rM C m P k1 k2 k3 w at0 fg fp) 107 m x = rM C m P k1 x k3 w at0 fg fp := by
  funext a j
  unfold up
  by_cases c : a = 107 ∧ j = m
  · rw [if_pos c, c.1, c.2, rM_k2]
  · rw [if_neg c]
    unfold rM
    simp only [if_neg c]
theorem up_k3 {x : Int} : up (rM C m P k1 k2 k3 w at0 fg fp) 108 m x = rM C m P k1 k2 x w at0 fg fp := by
  funext a j
  unfold up
  by_cases c : a = 108 ∧ j = m
  · rw [if_pos c, c.1, c.2, rM_k3]
  · rw [if_neg c]
    unfold rM
    simp only [if_neg c]
theorem up_w {x : Int} : up (rM C m P k1 k2 k3 w at0 fg fp) 109 m x = rM C m P k1 k2 k3 x at0 fg fp := by
  funext a j
  unfold up
  by_cases c : a = 109 ∧ j = m
  · rw [if_pos c, c.1, c.2, rM_w]
  · rw [if_neg c]
    unfold rM
    simp only [if_neg c]
theorem up_P {i : Nat} (hi : i < 16) {x : Int} : up (rM C m P k1 k2 k3 w at0 fg fp) 105 (16 * m + i) x = rM C m (vup P i x) k1 k2 k3 w at0 fg fp := by
  funext a j
  unfold up
  by_cases c : a = 105 ∧ j = 16 * m + i
  · rw [if_pos c, c.1, c.2, rM_P hi]
    unfold vup; rw [if_pos rfl]
  · rw [if_neg c]
    unfold rM
    by_cases c2 : a = 105 ∧ 16 * m ≤ j ∧ j < 16 * m + 16
    · rw [if_pos c2, if_pos c2]
      unfold vup
      rw [if_neg (by omega)]
    · rw [if_neg c2, if_neg c2]
theorem rM_self : rM C m (fun i => C 105 (16 * m + i)) (C 106 m) (C 107 m) (C 108 m) (C 109 m) (C 104 15) (C 104 17) (C 104 14) = C := by
  funext a j
  unfold rM
  by_cases c1 : a = 105 ∧ 16 * m ≤ j ∧ j < 16 * m + 16
  · rw [if_pos c1, c1.1]
    show C 105 (16 * m + (j - 16 * m)) = _
    rw [show 16 * m + (j - 16 * m) = j by omega]
  · rw [if_neg c1]
    by_cases c2 : a = 106 ∧ j = m
    · rw [if_pos c2, c2.1, c2.2]
    · rw [if_neg c2]
      by_cases c3 : a = 107 ∧ j = m
      · rw [if_pos c3, c3.1, c3.2]
      · rw [if_neg c3]
        by_cases c4 : a = 108 ∧ j = m
        · rw [if_pos c4, c4.1, c4.2]
        · rw [if_neg c4]
          by_cases c5 : a = 109 ∧ j = m
          · rw [if_pos c5, c5.1, c5.2]
          · rw [if_neg c5]
            by_cases c6 : a = 104 ∧ j = 15
            · rw [if_pos c6, c6.1, c6.2]
            · rw [if_neg c6]
              by_cases c7 : a = 104 ∧ j = 17
              · rw [if_pos c7, c7.1, c7.2]
              · rw [if_neg c7]
                by_cases c8 : a = 104 ∧ j = 14
                · rw [if_pos c8, c8.1, c8.2]
                · rw [if_neg c8]
theorem TxM.r (h : TxM C n tx) : TxM (rM C m P k1 k2 k3 w at0 fg fp) n tx := h.fr (rM_104 (by omega)) (rM_ne (by omega))
theorem GDig.r (h : GDig C) (hP : m < 24 → POk P) : GDig (rM C m P k1 k2 k3 w at0 fg fp) := by
  intro b hb j hj
  unfold ptC
  by_cases c : b = m
  · rw [c, rM_P (by omega)]; exact hP (by omega) j hj
  · have := h b hb j hj
    unfold ptC at this
    unfold rM
    rw [if_neg (by omega), if_neg (by omega), if_neg (by omega), if_neg (by omega), if_neg (by omega), if_neg (by omega), if_neg (by omega), if_neg (by omega)]
    exact this
theorem m_byteAt {K : Int32 → Prop} (h : TxM C n tx) (ha : C 104 15 = p) (hp : p ≤ 10000) : PX11_byteAt (ad z 104) (lay z g C) K = K (J (tx p)) := by
  have hn := h.2.1
  have e1 := h.1
  unfold PX11_byteAt
  rcases Nat.lt_or_ge p n with c | c
  · simp (disch := omega) only [J_add, J_sub, J_mul, J_lt, J_le, J_eq, xbr_true, xbr_false, xbr_pos, xbr_neg, Int.toNat_natCast, all_eq, ex_eq, t_0, q_0_0, q_0_1, q_0_2, q_0_3, q_0_4, q_0_5, q_0_6, q_0_7, q_0_8, q_0_9, i_0_10, p_0_10, i_0_11, p_0_11, i_0_12, p_0_12, t_1, q_1_0, t_3, q_3_0, q_3_1, i_3_2, p_3_2, i_3_3, p_3_3, t_80, q_80_0, t_88, q_88_0, t_90, q_90_0, t_92, q_92_0, q_92_1, q_92_2, i_92_3, p_92_3, i_92_4, p_92_4, t_96, q_96_0, i_96_1, p_96_1, i_96_2, p_96_2, i_96_3, p_96_3, t_100, q_100_0, i_100_1, p_100_1, i_100_2, p_100_2, i_100_3, p_100_3, t_104, q_104_1, q_104_2, q_104_3, q_104_4, q_104_5, q_104_6, q_104_8, q_104_9, q_104_11, q_104_12, q_104_18, q_104_21, q_104_22, q_104_23, q_104_24, q_104_26, q_104_27, q_104_28, q_104_30, q_104_31, i_104_0, p_104_0, i_104_7, p_104_7, i_104_10, p_104_10, i_104_13, p_104_13, i_104_14, p_104_14, i_104_15, p_104_15, i_104_16, p_104_16, i_104_17, p_104_17, i_104_19, p_104_19, i_104_20, p_104_20, i_104_25, p_104_25, i_104_29, p_104_29, a_2, w_2, a_81, w_81, a_89, w_89, a_91, w_91, a_93, w_93, a_94, w_94, a_95, w_95, a_105, w_105, a_106, w_106, a_107, w_107, a_108, w_108, a_109, w_109, a_110, w_110, a_111, w_111, a_112, w_112, a_113, w_113, a_114, w_114, a_115, w_115, a_116, w_116, a_117, w_117, a_118, w_118, a_119, w_119, a_120, w_120, a_121, w_121, a_122, w_122, a_123, w_123, a_124, w_124, ha, e1, (h.2.2.1 p c).1]
  · simp (disch := omega) only [J_add, J_sub, J_mul, J_lt, J_le, J_eq, xbr_true, xbr_false, xbr_pos, xbr_neg, Int.toNat_natCast, all_eq, ex_eq, t_0, q_0_0, q_0_1, q_0_2, q_0_3, q_0_4, q_0_5, q_0_6, q_0_7, q_0_8, q_0_9, i_0_10, p_0_10, i_0_11, p_0_11, i_0_12, p_0_12, t_1, q_1_0, t_3, q_3_0, q_3_1, i_3_2, p_3_2, i_3_3, p_3_3, t_80, q_80_0, t_88, q_88_0, t_90, q_90_0, t_92, q_92_0, q_92_1, q_92_2, i_92_3, p_92_3, i_92_4, p_92_4, t_96, q_96_0, i_96_1, p_96_1, i_96_2, p_96_2, i_96_3, p_96_3, t_100, q_100_0, i_100_1, p_100_1, i_100_2, p_100_2, i_100_3, p_100_3, t_104, q_104_1, q_104_2, q_104_3, q_104_4, q_104_5, q_104_6, q_104_8, q_104_9, q_104_11, q_104_12, q_104_18, q_104_21, q_104_22, q_104_23, q_104_24, q_104_26, q_104_27, q_104_28, q_104_30, q_104_31, i_104_0, p_104_0, i_104_7, p_104_7, i_104_10, p_104_10, i_104_13, p_104_13, i_104_14, p_104_14, i_104_15, p_104_15, i_104_16, p_104_16, i_104_17, p_104_17, i_104_19, p_104_19, i_104_20, p_104_20, i_104_25, p_104_25, i_104_29, p_104_29, a_2, w_2, a_81, w_81, a_89, w_89, a_91, w_91, a_93, w_93, a_94, w_94, a_95, w_95, a_105, w_105, a_106, w_106, a_107, w_107, a_108, w_108, a_109, w_109, a_110, w_110, a_111, w_111, a_112, w_112, a_113, w_113, a_114, w_114, a_115, w_115, a_116, w_116, a_117, w_117, a_118, w_118, a_119, w_119, a_120, w_120, a_121, w_121, a_122, w_122, a_123, w_123, a_124, w_124, ha, e1]
    rw [h.2.2.2 p c]
theorem m_lt {K : Int32 → Prop} (h : TxM C n tx) (ha : C 104 15 = p) (hp : p ≤ 10000) : PX11_isLetter (ad z 104) (lay z g C) K = K (J (if isLt (tx p) then 1 else 0)) := by
  have b := h.b p
  unfold PX11_isLetter
  simp (disch := omega) only [J_add, J_sub, J_mul, J_lt, J_le, J_eq, xbr_true, xbr_false, xbr_pos, xbr_neg, Int.toNat_natCast, all_eq, ex_eq, t_0, q_0_0, q_0_1, q_0_2, q_0_3, q_0_4, q_0_5, q_0_6, q_0_7, q_0_8, q_0_9, i_0_10, p_0_10, i_0_11, p_0_11, i_0_12, p_0_12, t_1, q_1_0, t_3, q_3_0, q_3_1, i_3_2, p_3_2, i_3_3, p_3_3, t_80, q_80_0, t_88, q_88_0, t_90, q_90_0, t_92, q_92_0, q_92_1, q_92_2, i_92_3, p_92_3, i_92_4, p_92_4, t_96, q_96_0, i_96_1, p_96_1, i_96_2, p_96_2, i_96_3, p_96_3, t_100, q_100_0, i_100_1, p_100_1, i_100_2, p_100_2, i_100_3, p_100_3, t_104, q_104_1, q_104_2, q_104_3, q_104_4, q_104_5, q_104_6, q_104_8, q_104_9, q_104_11, q_104_12, q_104_18, q_104_21, q_104_22, q_104_23, q_104_24, q_104_26, q_104_27, q_104_28, q_104_30, q_104_31, i_104_0, p_104_0, i_104_7, p_104_7, i_104_10, p_104_10, i_104_13, p_104_13, i_104_14, p_104_14, i_104_15, p_104_15, i_104_16, p_104_16, i_104_17, p_104_17, i_104_19, p_104_19, i_104_20, p_104_20, i_104_25, p_104_25, i_104_29, p_104_29, a_2, w_2, a_81, w_81, a_89, w_89, a_91, w_91, a_93, w_93, a_94, w_94, a_95, w_95, a_105, w_105, a_106, w_106, a_107, w_107, a_108, w_108, a_109, w_109, a_110, w_110, a_111, w_111, a_112, w_112, a_113, w_113, a_114, w_114, a_115, w_115, a_116, w_116, a_117, w_117, a_118, w_118, a_119, w_119, a_120, w_120, a_121, w_121, a_122, w_122, a_123, w_123, a_124, w_124, m_byteAt h ha hp, J_long, m_in, isBz, true_and]
  unfold isLt
  by_cases c : 97 ≤ tx p ∧ tx p ≤ 122
  · simp [c]
  · rw [if_neg c, if_neg (by simpa using c)]
theorem m_fg {K : Int32 → Prop} (h : TxM C n tx) (ha : C 104 15 = p) (hp : p ≤ 10000) : PX11_isFigure (ad z 104) (lay z g C) K = K (J (if isFg (tx p) then 1 else 0)) := by
  have b := h.b p
  unfold PX11_isFigure
  simp (disch := omega) only [J_add, J_sub, J_mul, J_lt, J_le, J_eq, xbr_true, xbr_false, xbr_pos, xbr_neg, Int.toNat_natCast, all_eq, ex_eq, t_0, q_0_0, q_0_1, q_0_2, q_0_3, q_0_4, q_0_5, q_0_6, q_0_7, q_0_8, q_0_9, i_0_10, p_0_10, i_0_11, p_0_11, i_0_12, p_0_12, t_1, q_1_0, t_3, q_3_0, q_3_1, i_3_2, p_3_2, i_3_3, p_3_3, t_80, q_80_0, t_88, q_88_0, t_90, q_90_0, t_92, q_92_0, q_92_1, q_92_2, i_92_3, p_92_3, i_92_4, p_92_4, t_96, q_96_0, i_96_1, p_96_1, i_96_2, p_96_2, i_96_3, p_96_3, t_100, q_100_0, i_100_1, p_100_1, i_100_2, p_100_2, i_100_3, p_100_3, t_104, q_104_1, q_104_2, q_104_3, q_104_4, q_104_5, q_104_6, q_104_8, q_104_9, q_104_11, q_104_12, q_104_18, q_104_21, q_104_22, q_104_23, q_104_24, q_104_26, q_104_27, q_104_28, q_104_30, q_104_31, i_104_0, p_104_0, i_104_7, p_104_7, i_104_10, p_104_10, i_104_13, p_104_13, i_104_14, p_104_14, i_104_15, p_104_15, i_104_16, p_104_16, i_104_17, p_104_17, i_104_19, p_104_19, i_104_20, p_104_20, i_104_25, p_104_25, i_104_29, p_104_29, a_2, w_2, a_81, w_81, a_89, w_89, a_91, w_91, a_93, w_93, a_94, w_94, a_95, w_95, a_105, w_105, a_106, w_106, a_107, w_107, a_108, w_108, a_109, w_109, a_110, w_110, a_111, w_111, a_112, w_112, a_113, w_113, a_114, w_114, a_115, w_115, a_116, w_116, a_117, w_117, a_118, w_118, a_119, w_119, a_120, w_120, a_121, w_121, a_122, w_122, a_123, w_123, a_124, w_124, m_byteAt h ha hp, J_long, m_in, isBz, true_and]
  unfold isFg
  by_cases c : 48 ≤ tx p ∧ tx p ≤ 57
  · simp [c]
  · rw [if_neg c, if_neg (by simpa using c)]
theorem m_fails {K : Int32 → Mem → Prop} {x : Int32} {y : Int} : PX11_fails (ad z 104) x (J y) (lay z g C) K = K x (lay z g (up C 104 14 y)) := by
  unfold PX11_fails
  simp (disch := omega) only [J_add, J_sub, J_mul, J_lt, J_le, J_eq, xbr_true, xbr_false, xbr_pos, xbr_neg, Int.toNat_natCast, all_eq, ex_eq, t_0, q_0_0, q_0_1, q_0_2, q_0_3, q_0_4, q_0_5, q_0_6, q_0_7, q_0_8, q_0_9, i_0_10, p_0_10, i_0_11, p_0_11, i_0_12, p_0_12, t_1, q_1_0, t_3, q_3_0, q_3_1, i_3_2, p_3_2, i_3_3, p_3_3, t_80, q_80_0, t_88, q_88_0, t_90, q_90_0, t_92, q_92_0, q_92_1, q_92_2, i_92_3, p_92_3, i_92_4, p_92_4, t_96, q_96_0, i_96_1, p_96_1, i_96_2, p_96_2, i_96_3, p_96_3, t_100, q_100_0, i_100_1, p_100_1, i_100_2, p_100_2, i_100_3, p_100_3, t_104, q_104_1, q_104_2, q_104_3, q_104_4, q_104_5, q_104_6, q_104_8, q_104_9, q_104_11, q_104_12, q_104_18, q_104_21, q_104_22, q_104_23, q_104_24, q_104_26, q_104_27, q_104_28, q_104_30, q_104_31, i_104_0, p_104_0, i_104_7, p_104_7, i_104_10, p_104_10, i_104_13, p_104_13, i_104_14, p_104_14, i_104_15, p_104_15, i_104_16, p_104_16, i_104_17, p_104_17, i_104_19, p_104_19, i_104_20, p_104_20, i_104_25, p_104_25, i_104_29, p_104_29, a_2, w_2, a_81, w_81, a_89, w_89, a_91, w_91, a_93, w_93, a_94, w_94, a_95, w_95, a_105, w_105, a_106, w_106, a_107, w_107, a_108, w_108, a_109, w_109, a_110, w_110, a_111, w_111, a_112, w_112, a_113, w_113, a_114, w_114, a_115, w_115, a_116, w_116, a_117, w_117, a_118, w_118, a_119, w_119, a_120, w_120, a_121, w_121, a_122, w_122, a_123, w_123, a_124, w_124]
theorem m_here {K : Int32 → Mem → Prop} (h : TxM C n tx) (ha : C 104 15 = p) (hp : p ≤ n) : PX11_here (ad z 104) (lay z g C) K = K (J (tx (skp tx n p))) (lay z g (up C 104 15 (skp tx n p : Nat))) := by
  have hn := h.2.1
  have hs := skp_le (tx := tx) hp
  have hg := skp_ge (tx := tx) (n := n) (p := p)
  obtain ⟨D0, hD0⟩ := h.c
  have hx : ∀ x : Int, TxM (up C 104 15 x) n tx := fun x => h.fr (up_nk (by omega)) (up_ne (by omega))
  have fin : ∀ K : Int32 → Mem → Prop, JX11_here_38 K (lay z g (up C 104 15 (skp tx n p : Nat))) (ad z 104) = K (J (tx (skp tx n p))) (lay z g (up C 104 15 (skp tx n p : Nat))) := fun K => by
    unfold JX11_here_38
    rw [m_byteAt (hx _) up_eq (by omega)]
  have st : (lay z g C) = (fun i : Nat => lay z g (up C 104 15 ((p + i : Nat) : Int))) 0 := by
    show _ = lay z g (up C 104 15 ((p + 0 : Nat) : Int))
    have := up_idem C 104 15
    rw [ha] at this
    rw [Nat.add_zero, this]
  unfold PX11_here
  simp (disch := omega) only [J_add, J_sub, J_mul, J_lt, J_le, J_eq, xbr_true, xbr_false, xbr_pos, xbr_neg, Int.toNat_natCast, all_eq, ex_eq, t_0, q_0_0, q_0_1, q_0_2, q_0_3, q_0_4, q_0_5, q_0_6, q_0_7, q_0_8, q_0_9, i_0_10, p_0_10, i_0_11, p_0_11, i_0_12, p_0_12, t_1, q_1_0, t_3, q_3_0, q_3_1, i_3_2, p_3_2, i_3_3, p_3_3, t_80, q_80_0, t_88, q_88_0, t_90, q_90_0, t_92, q_92_0, q_92_1, q_92_2, i_92_3, p_92_3, i_92_4, p_92_4, t_96, q_96_0, i_96_1, p_96_1, i_96_2, p_96_2, i_96_3, p_96_3, t_100, q_100_0, i_100_1, p_100_1, i_100_2, p_100_2, i_100_3, p_100_3, t_104, q_104_1, q_104_2, q_104_3, q_104_4, q_104_5, q_104_6, q_104_8, q_104_9, q_104_11, q_104_12, q_104_18, q_104_21, q_104_22, q_104_23, q_104_24, q_104_26, q_104_27, q_104_28, q_104_30, q_104_31, i_104_0, p_104_0, i_104_7, p_104_7, i_104_10, p_104_10, i_104_13, p_104_13, i_104_14, p_104_14, i_104_15, p_104_15, i_104_16, p_104_16, i_104_17, p_104_17, i_104_19, p_104_19, i_104_20, p_104_20, i_104_25, p_104_25, i_104_29, p_104_29, a_2, w_2, a_81, w_81, a_89, w_89, a_91, w_91, a_93, w_93, a_94, w_94, a_95, w_95, a_105, w_105, a_106, w_106, a_107, w_107, a_108, w_108, a_109, w_109, a_110, w_110, a_111, w_111, a_112, w_112, a_113, w_113, a_114, w_114, a_115, w_115, a_116, w_116, a_117, w_117, a_118, w_118, a_119, w_119, a_120, w_120, a_121, w_121, a_122, w_122, a_123, w_123, a_124, w_124]
  rw [st]
  have e2 : p + (skp tx n p - p) = skp tx n p := by omega
  refine lp_for (fun i : Nat => lay z g (up C 104 15 ((p + i : Nat) : Int))) 0 (skp tx n p - p) _ (by omega) ?_ ?_
  · intro i _ hi kc
    have e := skp_mid (tx := tx) (n := n) (p := p) (i := i) (by omega)
    have a15 : up C 104 15 ((p + i : Nat) : Int) 104 15 = ((p + i : Nat) : Int) := up_eq
    have a13 := (hx ((p + i : Nat) : Int)).1
    have a14 := ((hx ((p + i : Nat) : Int)).2.2.1 (p + i) (by omega)).1
    have ei : ((p + i : Nat) : Int) + 1 = ((p + (i + 1) : Nat) : Int) := by omega
    have eu : up (up C 104 15 ((p + i : Nat) : Int)) 104 15 ((p + (i + 1) : Nat) : Int) = up C 104 15 ((p + (i + 1) : Nat) : Int) := by
      funext a j; unfold up; split <;> rfl
    unfold BX11_here_0 CX11_here_0
    simp (disch := omega) only [J_add, J_sub, J_mul, J_lt, J_le, J_eq, xbr_true, xbr_false, xbr_pos, xbr_neg, Int.toNat_natCast, all_eq, ex_eq, t_0, q_0_0, q_0_1, q_0_2, q_0_3, q_0_4, q_0_5, q_0_6, q_0_7, q_0_8, q_0_9, i_0_10, p_0_10, i_0_11, p_0_11, i_0_12, p_0_12, t_1, q_1_0, t_3, q_3_0, q_3_1, i_3_2, p_3_2, i_3_3, p_3_3, t_80, q_80_0, t_88, q_88_0, t_90, q_90_0, t_92, q_92_0, q_92_1, q_92_2, i_92_3, p_92_3, i_92_4, p_92_4, t_96, q_96_0, i_96_1, p_96_1, i_96_2, p_96_2, i_96_3, p_96_3, t_100, q_100_0, i_100_1, p_100_1, i_100_2, p_100_2, i_100_3, p_100_3, t_104, q_104_1, q_104_2, q_104_3, q_104_4, q_104_5, q_104_6, q_104_8, q_104_9, q_104_11, q_104_12, q_104_18, q_104_21, q_104_22, q_104_23, q_104_24, q_104_26, q_104_27, q_104_28, q_104_30, q_104_31, i_104_0, p_104_0, i_104_7, p_104_7, i_104_10, p_104_10, i_104_13, p_104_13, i_104_14, p_104_14, i_104_15, p_104_15, i_104_16, p_104_16, i_104_17, p_104_17, i_104_19, p_104_19, i_104_20, p_104_20, i_104_25, p_104_25, i_104_29, p_104_29, a_2, w_2, a_81, w_81, a_89, w_89, a_91, w_91, a_93, w_93, a_94, w_94, a_95, w_95, a_105, w_105, a_106, w_106, a_107, w_107, a_108, w_108, a_109, w_109, a_110, w_110, a_111, w_111, a_112, w_112, a_113, w_113, a_114, w_114, a_115, w_115, a_116, w_116, a_117, w_117, a_118, w_118, a_119, w_119, a_120, w_120, a_121, w_121, a_122, w_122, a_123, w_123, a_124, w_124, a15, a13, a14, e, ei, eu]
  · intro kc
    have e := skp_end hD0 hp
    have b := h.b (skp tx n p)
    have a15 : up C 104 15 ((skp tx n p : Nat) : Int) 104 15 = ((skp tx n p : Nat) : Int) := up_eq
    have a13 := (hx ((skp tx n p : Nat) : Int)).1
    unfold BX11_here_0 CX11_here_0
    simp only [e2]
    by_cases c : skp tx n p < n
    · have a14 := ((hx ((skp tx n p : Nat) : Int)).2.2.1 (skp tx n p) c).1
      simp (disch := omega) only [J_add, J_sub, J_mul, J_lt, J_le, J_eq, xbr_true, xbr_false, xbr_pos, xbr_neg, Int.toNat_natCast, all_eq, ex_eq, t_0, q_0_0, q_0_1, q_0_2, q_0_3, q_0_4, q_0_5, q_0_6, q_0_7, q_0_8, q_0_9, i_0_10, p_0_10, i_0_11, p_0_11, i_0_12, p_0_12, t_1, q_1_0, t_3, q_3_0, q_3_1, i_3_2, p_3_2, i_3_3, p_3_3, t_80, q_80_0, t_88, q_88_0, t_90, q_90_0, t_92, q_92_0, q_92_1, q_92_2, i_92_3, p_92_3, i_92_4, p_92_4, t_96, q_96_0, i_96_1, p_96_1, i_96_2, p_96_2, i_96_3, p_96_3, t_100, q_100_0, i_100_1, p_100_1, i_100_2, p_100_2, i_100_3, p_100_3, t_104, q_104_1, q_104_2, q_104_3, q_104_4, q_104_5, q_104_6, q_104_8, q_104_9, q_104_11, q_104_12, q_104_18, q_104_21, q_104_22, q_104_23, q_104_24, q_104_26, q_104_27, q_104_28, q_104_30, q_104_31, i_104_0, p_104_0, i_104_7, p_104_7, i_104_10, p_104_10, i_104_13, p_104_13, i_104_14, p_104_14, i_104_15, p_104_15, i_104_16, p_104_16, i_104_17, p_104_17, i_104_19, p_104_19, i_104_20, p_104_20, i_104_25, p_104_25, i_104_29, p_104_29, a_2, w_2, a_81, w_81, a_89, w_89, a_91, w_91, a_93, w_93, a_94, w_94, a_95, w_95, a_105, w_105, a_106, w_106, a_107, w_107, a_108, w_108, a_109, w_109, a_110, w_110, a_111, w_111, a_112, w_112, a_113, w_113, a_114, w_114, a_115, w_115, a_116, w_116, a_117, w_117, a_118, w_118, a_119, w_119, a_120, w_120, a_121, w_121, a_122, w_122, a_123, w_123, a_124, w_124, a15, a13, a14, fin]
    · simp (disch := omega) only [J_add, J_sub, J_mul, J_lt, J_le, J_eq, xbr_true, xbr_false, xbr_pos, xbr_neg, Int.toNat_natCast, all_eq, ex_eq, t_0, q_0_0, q_0_1, q_0_2, q_0_3, q_0_4, q_0_5, q_0_6, q_0_7, q_0_8, q_0_9, i_0_10, p_0_10, i_0_11, p_0_11, i_0_12, p_0_12, t_1, q_1_0, t_3, q_3_0, q_3_1, i_3_2, p_3_2, i_3_3, p_3_3, t_80, q_80_0, t_88, q_88_0, t_90, q_90_0, t_92, q_92_0, q_92_1, q_92_2, i_92_3, p_92_3, i_92_4, p_92_4, t_96, q_96_0, i_96_1, p_96_1, i_96_2, p_96_2, i_96_3, p_96_3, t_100, q_100_0, i_100_1, p_100_1, i_100_2, p_100_2, i_100_3, p_100_3, t_104, q_104_1, q_104_2, q_104_3, q_104_4, q_104_5, q_104_6, q_104_8, q_104_9, q_104_11, q_104_12, q_104_18, q_104_21, q_104_22, q_104_23, q_104_24, q_104_26, q_104_27, q_104_28, q_104_30, q_104_31, i_104_0, p_104_0, i_104_7, p_104_7, i_104_10, p_104_10, i_104_13, p_104_13, i_104_14, p_104_14, i_104_15, p_104_15, i_104_16, p_104_16, i_104_17, p_104_17, i_104_19, p_104_19, i_104_20, p_104_20, i_104_25, p_104_25, i_104_29, p_104_29, a_2, w_2, a_81, w_81, a_89, w_89, a_91, w_91, a_93, w_93, a_94, w_94, a_95, w_95, a_105, w_105, a_106, w_106, a_107, w_107, a_108, w_108, a_109, w_109, a_110, w_110, a_111, w_111, a_112, w_112, a_113, w_113, a_114, w_114, a_115, w_115, a_116, w_116, a_117, w_117, a_118, w_118, a_119, w_119, a_120, w_120, a_121, w_121, a_122, w_122, a_123, w_123, a_124, w_124, a15, a13, fin]
/-- figures into places f on -/
def pdg (P : Nat → Int) (tx : Nat → Int) (f p k : Nat) : Nat → Int := fun i => if f ≤ i ∧ i < f + k then tx (p + (i - f)) - 48 else P i
theorem pdg_zero {f : Nat} : pdg P tx f p 0 = P := by
  funext i; unfold pdg; rw [if_neg (by omega)]
theorem pdg_succ {f k : Nat} : vup (pdg P tx f p k) (f + k) (tx (p + k) - 48) = pdg P tx f p (k + 1) := by
  funext i
  unfold vup pdg
  by_cases c : i = f + k
  · rw [if_pos c, if_pos (by omega), c, show f + k - f = k by omega]
  · rw [if_neg c]
    by_cases c2 : f ≤ i ∧ i < f + k
    · rw [if_pos c2, if_pos (by omega)]
    · rw [if_neg c2, if_neg (by omega)]
theorem m_takeFigures {K : Int32 → Mem → Prop} (h : TxM C n tx) (hm : m < 24) (hp : p ≤ n) {f : Nat} (hf : f + 4 ≤ 16) {F : Int} (eF : F = (f : Int)) : PX11_takeFigures (ad z 104) (J (16 * (m : Int) + F)) (lay z g (rM C m P k1 k2 k3 w (p : Nat) fg fp)) K = K (J (fgF tx p : Nat)) (lay z g (rM C m (pdg P tx f p (fgN tx p)) k1 k2 k3 w ((p + fgN tx p : Nat) : Int) (fgN tx p : Nat) (if fgF tx p = 0 then fp else ((p + fgN tx p : Nat) : Int)))) := by
  obtain ⟨D0, hD0⟩ := h.c
  have hn := h.2.1
  have f4 := fgN_le (tx := tx) (p := p)
  have fn := fgN_n hD0 hp
  unfold PX11_takeFigures
  simp (disch := omega) only [J_add, J_sub, J_mul, J_lt, J_le, J_eq, xbr_true, xbr_false, xbr_pos, xbr_neg, Int.toNat_natCast, all_eq, ex_eq, t_0, q_0_0, q_0_1, q_0_2, q_0_3, q_0_4, q_0_5, q_0_6, q_0_7, q_0_8, q_0_9, i_0_10, p_0_10, i_0_11, p_0_11, i_0_12, p_0_12, t_1, q_1_0, t_3, q_3_0, q_3_1, i_3_2, p_3_2, i_3_3, p_3_3, t_80, q_80_0, t_88, q_88_0, t_90, q_90_0, t_92, q_92_0, q_92_1, q_92_2, i_92_3, p_92_3, i_92_4, p_92_4, t_96, q_96_0, i_96_1, p_96_1, i_96_2, p_96_2, i_96_3, p_96_3, t_100, q_100_0, i_100_1, p_100_1, i_100_2, p_100_2, i_100_3, p_100_3, t_104, q_104_1, q_104_2, q_104_3, q_104_4, q_104_5, q_104_6, q_104_8, q_104_9, q_104_11, q_104_12, q_104_18, q_104_21, q_104_22, q_104_23, q_104_24, q_104_26, q_104_27, q_104_28, q_104_30, q_104_31, i_104_0, p_104_0, i_104_7, p_104_7, i_104_10, p_104_10, i_104_13, p_104_13, i_104_14, p_104_14, i_104_15, p_104_15, i_104_16, p_104_16, i_104_17, p_104_17, i_104_19, p_104_19, i_104_20, p_104_20, i_104_25, p_104_25, i_104_29, p_104_29, a_2, w_2, a_81, w_81, a_89, w_89, a_91, w_91, a_93, w_93, a_94, w_94, a_95, w_95, a_105, w_105, a_106, w_106, a_107, w_107, a_108, w_108, a_109, w_109, a_110, w_110, a_111, w_111, a_112, w_112, a_113, w_113, a_114, w_114, a_115, w_115, a_116, w_116, a_117, w_117, a_118, w_118, a_119, w_119, a_120, w_120, a_121, w_121, a_122, w_122, a_123, w_123, a_124, w_124, up_17]
  have st : lay z g (rM C m P k1 k2 k3 w (p : Nat) 0 fp) = (fun i : Nat => lay z g (rM C m (pdg P tx f p i) k1 k2 k3 w ((p + i : Nat) : Int) (i : Nat) fp)) 0 := by
    show _ = lay z g (rM C m (pdg P tx f p 0) k1 k2 k3 w ((p + 0 : Nat) : Int) ((0 : Nat) : Int) fp)
    rw [pdg_zero]; rfl
  rw [st]
  refine lp_for (fun i : Nat => lay z g (rM C m (pdg P tx f p i) k1 k2 k3 w ((p + i : Nat) : Int) (i : Nat) fp)) 0 (fgN tx p) _ (by omega) ?_ ?_
  · intro i _ hi kc
    have ai := fgN_at hi
    have li := fgN_lt hD0 hi
    have yi : isFg (tx (p + i)) = true := decide_eq_true ai
    have e1 : (16 * (m : Int) + F + (i : Int)).toNat = 16 * m + (f + i) := by omega
    have ei : ((p + i : Nat) : Int) + 1 = ((p + (i + 1) : Nat) : Int) := by omega
    have ej : (i : Int) + 1 = ((i + 1 : Nat) : Int) := by omega
    unfold BX11_takeFigures_5 CX11_takeFigures_5
    simp (disch := omega) only [J_add, J_sub, J_mul, J_lt, J_le, J_eq, xbr_true, xbr_false, xbr_pos, xbr_neg, Int.toNat_natCast, all_eq, ex_eq, t_0, q_0_0, q_0_1, q_0_2, q_0_3, q_0_4, q_0_5, q_0_6, q_0_7, q_0_8, q_0_9, i_0_10, p_0_10, i_0_11, p_0_11, i_0_12, p_0_12, t_1, q_1_0, t_3, q_3_0, q_3_1, i_3_2, p_3_2, i_3_3, p_3_3, t_80, q_80_0, t_88, q_88_0, t_90, q_90_0, t_92, q_92_0, q_92_1, q_92_2, i_92_3, p_92_3, i_92_4, p_92_4, t_96, q_96_0, i_96_1, p_96_1, i_96_2, p_96_2, i_96_3, p_96_3, t_100, q_100_0, i_100_1, p_100_1, i_100_2, p_100_2, i_100_3, p_100_3, t_104, q_104_1, q_104_2, q_104_3, q_104_4, q_104_5, q_104_6, q_104_8, q_104_9, q_104_11, q_104_12, q_104_18, q_104_21, q_104_22, q_104_23, q_104_24, q_104_26, q_104_27, q_104_28, q_104_30, q_104_31, i_104_0, p_104_0, i_104_7, p_104_7, i_104_10, p_104_10, i_104_13, p_104_13, i_104_14, p_104_14, i_104_15, p_104_15, i_104_16, p_104_16, i_104_17, p_104_17, i_104_19, p_104_19, i_104_20, p_104_20, i_104_25, p_104_25, i_104_29, p_104_29, a_2, w_2, a_81, w_81, a_89, w_89, a_91, w_91, a_93, w_93, a_94, w_94, a_95, w_95, a_105, w_105, a_106, w_106, a_107, w_107, a_108, w_108, a_109, w_109, a_110, w_110, a_111, w_111, a_112, w_112, a_113, w_113, a_114, w_114, a_115, w_115, a_116, w_116, a_117, w_117, a_118, w_118, a_119, w_119, a_120, w_120, a_121, w_121, a_122, w_122, a_123, w_123, a_124, w_124, m_fg h.r rM_15 (show p + i ≤ 10000 by omega), if_pos yi, rM_17, m_byteAt h.r rM_15 (show p + i ≤ 10000 by omega), e1, up_P (show f + i < 16 by omega), pdg_succ, up_17, rM_15, up_15, ei, ej]
  · intro kc
    unfold BX11_takeFigures_5 CX11_takeFigures_5
    by_cases c : isFg (tx (p + fgN tx p)) = true
    · have c4 : fgN tx p = 4 := by
        rcases Nat.lt_or_ge (fgN tx p) 4 with q | q
        · exact absurd c (fgN_end q)
        · omega
      have ef : fgF tx p = 2 := by unfold fgF; rw [if_neg (by omega), if_pos c]
      rw [ef, if_neg (by omega)]
      simp (disch := omega) only [J_add, J_sub, J_mul, J_lt, J_le, J_eq, xbr_true, xbr_false, xbr_pos, xbr_neg, Int.toNat_natCast, all_eq, ex_eq, t_0, q_0_0, q_0_1, q_0_2, q_0_3, q_0_4, q_0_5, q_0_6, q_0_7, q_0_8, q_0_9, i_0_10, p_0_10, i_0_11, p_0_11, i_0_12, p_0_12, t_1, q_1_0, t_3, q_3_0, q_3_1, i_3_2, p_3_2, i_3_3, p_3_3, t_80, q_80_0, t_88, q_88_0, t_90, q_90_0, t_92, q_92_0, q_92_1, q_92_2, i_92_3, p_92_3, i_92_4, p_92_4, t_96, q_96_0, i_96_1, p_96_1, i_96_2, p_96_2, i_96_3, p_96_3, t_100, q_100_0, i_100_1, p_100_1, i_100_2, p_100_2, i_100_3, p_100_3, t_104, q_104_1, q_104_2, q_104_3, q_104_4, q_104_5, q_104_6, q_104_8, q_104_9, q_104_11, q_104_12, q_104_18, q_104_21, q_104_22, q_104_23, q_104_24, q_104_26, q_104_27, q_104_28, q_104_30, q_104_31, i_104_0, p_104_0, i_104_7, p_104_7, i_104_10, p_104_10, i_104_13, p_104_13, i_104_14, p_104_14, i_104_15, p_104_15, i_104_16, p_104_16, i_104_17, p_104_17, i_104_19, p_104_19, i_104_20, p_104_20, i_104_25, p_104_25, i_104_29, p_104_29, a_2, w_2, a_81, w_81, a_89, w_89, a_91, w_91, a_93, w_93, a_94, w_94, a_95, w_95, a_105, w_105, a_106, w_106, a_107, w_107, a_108, w_108, a_109, w_109, a_110, w_110, a_111, w_111, a_112, w_112, a_113, w_113, a_114, w_114, a_115, w_115, a_116, w_116, a_117, w_117, a_118, w_118, a_119, w_119, a_120, w_120, a_121, w_121, a_122, w_122, a_123, w_123, a_124, w_124, m_fg h.r rM_15 (show p + fgN tx p ≤ 10000 by omega), if_pos c, rM_17, rM_15, m_fails, up_14]
      rfl
    · by_cases c0 : fgN tx p = 0
      · have ef : fgF tx p = 1 := by unfold fgF; rw [if_pos c0]
        rw [ef, if_neg (by omega)]
        simp (disch := omega) only [J_add, J_sub, J_mul, J_lt, J_le, J_eq, xbr_true, xbr_false, xbr_pos, xbr_neg, Int.toNat_natCast, all_eq, ex_eq, t_0, q_0_0, q_0_1, q_0_2, q_0_3, q_0_4, q_0_5, q_0_6, q_0_7, q_0_8, q_0_9, i_0_10, p_0_10, i_0_11, p_0_11, i_0_12, p_0_12, t_1, q_1_0, t_3, q_3_0, q_3_1, i_3_2, p_3_2, i_3_3, p_3_3, t_80, q_80_0, t_88, q_88_0, t_90, q_90_0, t_92, q_92_0, q_92_1, q_92_2, i_92_3, p_92_3, i_92_4, p_92_4, t_96, q_96_0, i_96_1, p_96_1, i_96_2, p_96_2, i_96_3, p_96_3, t_100, q_100_0, i_100_1, p_100_1, i_100_2, p_100_2, i_100_3, p_100_3, t_104, q_104_1, q_104_2, q_104_3, q_104_4, q_104_5, q_104_6, q_104_8, q_104_9, q_104_11, q_104_12, q_104_18, q_104_21, q_104_22, q_104_23, q_104_24, q_104_26, q_104_27, q_104_28, q_104_30, q_104_31, i_104_0, p_104_0, i_104_7, p_104_7, i_104_10, p_104_10, i_104_13, p_104_13, i_104_14, p_104_14, i_104_15, p_104_15, i_104_16, p_104_16, i_104_17, p_104_17, i_104_19, p_104_19, i_104_20, p_104_20, i_104_25, p_104_25, i_104_29, p_104_29, a_2, w_2, a_81, w_81, a_89, w_89, a_91, w_91, a_93, w_93, a_94, w_94, a_95, w_95, a_105, w_105, a_106, w_106, a_107, w_107, a_108, w_108, a_109, w_109, a_110, w_110, a_111, w_111, a_112, w_112, a_113, w_113, a_114, w_114, a_115, w_115, a_116, w_116, a_117, w_117, a_118, w_118, a_119, w_119, a_120, w_120, a_121, w_121, a_122, w_122, a_123, w_123, a_124, w_124, m_fg h.r rM_15 (show p + fgN tx p ≤ 10000 by omega), if_neg c, rM_17, rM_15, m_fails, up_14]
        rfl
      · have ef : fgF tx p = 0 := by unfold fgF; rw [if_neg c0, if_neg c]
        rw [ef, if_pos rfl]
        simp (disch := omega) only [J_add, J_sub, J_mul, J_lt, J_le, J_eq, xbr_true, xbr_false, xbr_pos, xbr_neg, Int.toNat_natCast, all_eq, ex_eq, t_0, q_0_0, q_0_1, q_0_2, q_0_3, q_0_4, q_0_5, q_0_6, q_0_7, q_0_8, q_0_9, i_0_10, p_0_10, i_0_11, p_0_11, i_0_12, p_0_12, t_1, q_1_0, t_3, q_3_0, q_3_1, i_3_2, p_3_2, i_3_3, p_3_3, t_80, q_80_0, t_88, q_88_0, t_90, q_90_0, t_92, q_92_0, q_92_1, q_92_2, i_92_3, p_92_3, i_92_4, p_92_4, t_96, q_96_0, i_96_1, p_96_1, i_96_2, p_96_2, i_96_3, p_96_3, t_100, q_100_0, i_100_1, p_100_1, i_100_2, p_100_2, i_100_3, p_100_3, t_104, q_104_1, q_104_2, q_104_3, q_104_4, q_104_5, q_104_6, q_104_8, q_104_9, q_104_11, q_104_12, q_104_18, q_104_21, q_104_22, q_104_23, q_104_24, q_104_26, q_104_27, q_104_28, q_104_30, q_104_31, i_104_0, p_104_0, i_104_7, p_104_7, i_104_10, p_104_10, i_104_13, p_104_13, i_104_14, p_104_14, i_104_15, p_104_15, i_104_16, p_104_16, i_104_17, p_104_17, i_104_19, p_104_19, i_104_20, p_104_20, i_104_25, p_104_25, i_104_29, p_104_29, a_2, w_2, a_81, w_81, a_89, w_89, a_91, w_91, a_93, w_93, a_94, w_94, a_95, w_95, a_105, w_105, a_106, w_106, a_107, w_107, a_108, w_108, a_109, w_109, a_110, w_110, a_111, w_111, a_112, w_112, a_113, w_113, a_114, w_114, a_115, w_115, a_116, w_116, a_117, w_117, a_118, w_118, a_119, w_119, a_120, w_120, a_121, w_121, a_122, w_122, a_123, w_123, a_124, w_124, m_fg h.r rM_15 (show p + fgN tx p ≤ 10000 by omega), if_neg c, rM_17]
        rfl
end RST
