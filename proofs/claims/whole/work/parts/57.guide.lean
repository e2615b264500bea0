/-! GUIDES -/
theorem fst1_ge {N n : Nat} {f : Nat → Bool} : n ≤ fst1 N f ↔ n ≤ N ∧ ∀ i, i < n → f i = false := by
  constructor
  · intro h
    exact ⟨Nat.le_trans h (fst1_le N f), fun i hi => fst1_lt (n := N) (by omega)⟩
  · rintro ⟨h1, h2⟩
    rcases Nat.lt_or_ge (fst1 N f) n with c | c
    · have := fst1_at (n := N) (f := f) (by omega)
      rw [h2 _ c] at this
      cases this
    · exact c
section GDE
variable {z : Nat} {g : Mem} {C C' D : Nat → Nat → Int} {nb : Nat} {A : Rw} {a b : Nat}
theorem mk_r (h : BkRel C b) : ∀ v ∈ mkA C b, 0 ≤ v ∧ v ≤ 200 := by
  intro v hv
  rw [mkA_eq] at hv
  simp only [List.mem_append] at hv
  rcases hv with hv | hv | hv | hv | hv
  · have h1 := h.1
    have h2 := h.2.1
    unfold mk0 at hv
    split at hv <;> simp at hv <;> omega
  · have h1 := h.2.2.2.2.2.2.1
    unfold mk1 at hv
    simp at hv
    obtain ⟨j, hj, rfl⟩ := hv
    have := h.d2 j (by omega)
    omega
  · have h1 := h.2.2.2.2.2.2.2.1
    unfold mk2 at hv
    split at hv
    · simp at hv
      rcases hv with rfl | ⟨j, hj, rfl⟩
      · omega
      · have := h.d6 j (by omega)
        omega
    · simp at hv
  · have h1 := h.2.2.2.2.2.2.2.2.1
    have h2 := h.2.2.2.1
    unfold mk3 at hv
    split at hv
    · simp at hv
      rcases hv with rfl | rfl | ⟨j, hj, rfl⟩
      · omega
      · omega
      · have := h.d11 j (by omega)
        omega
    · simp at hv
  · have h2 := h.2.2.2.2.2.1
    unfold mk4 at hv
    split at hv
    · simp at hv
      omega
    · simp at hv
theorem mk_at (h : BkRel C b) {i : Nat} (hi : i < (mkA C b).length) : 0 ≤ (mkA C b).getD i 0 ∧ (mkA C b).getD i 0 ≤ 200 := by
  refine mk_r h _ ?_
  rw [List.getD_eq_getElem?_getD, List.getElem?_eq_getElem hi]
  exact List.getElem_mem hi
theorem mkA_congr (e : ∀ a, 105 ≤ a → a ≤ 108 → C' a = C a) : mkA C' b = mkA C b := by
  have fp : ptC C' b = ptC C b := by funext j; unfold ptC; rw [e _ (by omega) (by omega)]
  unfold mkA
  rw [fp, e _ (by omega) (by omega), e _ (by omega) (by omega), e _ (by omega) (by omega)]
/-- how far the mark of a is like that of b -/
def lik (C : Nat → Nat → Int) (a b : Nat) : Nat := fst1 (min (mkA C b).length (mkA C a).length) (fun i => (mkA C a).getD i 0 != (mkA C b).getD i 0)
def mxl (C : Nat → Nat → Int) (A : Rw) (b : Nat) : Nat → Nat
  | 0 => 1
  | n + 1 => max (mxl C A b n) (lik C (A.2.1 n) b + 1)
theorem mxl_lt {m n : Nat} (hn : 1 ≤ n) : n < mxl C A b m ↔ ∃ i, i < m ∧ n ≤ lik C (A.2.1 i) b := by
  induction m with
  | zero => exact ⟨fun h => by have h2 : n < 1 := h; omega, fun ⟨i, hi, _⟩ => absurd hi (Nat.not_lt_zero _)⟩
  | succ m ih =>
    have e : mxl C A b (m + 1) = max (mxl C A b m) (lik C (A.2.1 m) b + 1) := rfl
    rw [e]
    constructor
    · intro h
      by_cases c : n < mxl C A b m
      · obtain ⟨i, h1, h2⟩ := ih.mp c
        exact ⟨i, by omega, h2⟩
      · exact ⟨m, by omega, by omega⟩
    · rintro ⟨i, h1, h2⟩
      by_cases c : i < m
      · have := ih.mpr ⟨i, c, h2⟩
        omega
      · have : i = m := by omega
        rw [this] at h2
        omega
theorem lik_le : lik C a b ≤ (mkA C b).length := by
  have := fst1_le (min (mkA C b).length (mkA C a).length) (fun i => (mkA C a).getD i 0 != (mkA C b).getD i 0)
  unfold lik
  omega
theorem mxl_b (hl : (mkA C b).length ≤ 23) (n : Nat) : 1 ≤ mxl C A b n ∧ mxl C A b n ≤ 24 := by
  induction n with
  | zero => exact ⟨Nat.le_refl _, by show 1 ≤ 24; omega⟩
  | succ n ih =>
    have e : mxl C A b (n + 1) = max (mxl C A b n) (lik C (A.2.1 n) b + 1) := rfl
    have := lik_le (C := C) (a := A.2.1 n) (b := b)
    rw [e]; omega
theorem s_begins {K : Int32 → Prop} (ha : a < 24) (hb : b < 24) (ra : BkRel C a) (rb : BkRel C b) (la : Ltr C a) (lb : Ltr C b) {n : Nat} (hn : n ≤ (mkA C b).length) : PX1_beginsWith (ad z (9 + 3 * a)) (ad z (9 + 3 * b)) (J (n : Nat)) (lay z g C) K = K (J (if n ≤ lik C a b then 1 else 0)) := by
  have l1 := mkA_len ra
  have l2 := mkA_len rb
  have q1 := la.1
  have q2 := lb.1
  have e1 : 9 + 3 * a + 1 = 10 + 3 * a := by omega
  have e2 : 9 + 3 * b + 1 = 10 + 3 * b := by omega
  unfold PX1_beginsWith
  by_cases c : n ≤ (mkA C a).length
  · simp (disch := omega) only [J_add, J_sub, J_mul, J_lt, J_le, J_eq, xbr_true, xbr_false, xbr_pos, xbr_neg, Int.toNat_natCast, all_eq, ex_eq, tS_lay (bB ha).1, gI_lay (bB ha).2.1, q1]
    have hm := fst1_le n (fun i => (mkA C a).getD i 0 != (mkA C b).getD i 0)
    refine lp_for (fun i : Nat => J (i : Int)) 0 (fst1 n (fun i => (mkA C a).getD i 0 != (mkA C b).getD i 0)) _ (by omega) ?_ ?_
    · intro i _ hi kc
      have h6 := fst1_lt hi
      have h7 : (mkA C a).getD i 0 = (mkA C b).getD i 0 := by simpa using h6
      have va := mk_at ra (i := i) (by omega)
      have vb := mk_at rb (i := i) (by omega)
      unfold BX1_beginsWith_12 CX1_beginsWith_12
      simp (disch := omega) only [J_add, J_sub, J_mul, J_lt, J_le, J_eq, xbr_true, xbr_false, xbr_pos, xbr_neg, Int.toNat_natCast, all_eq, ex_eq, s_bget (bB ha), s_bget (bB hb), q1, q2, if_pos (show 0 ≤ (i : Int) ∧ (i : Int) < ((mkA C a).length : Int) by omega), if_pos (show 0 ≤ (i : Int) ∧ (i : Int) < ((mkA C b).length : Int) by omega), e1, e2, la.at (i := i) (by omega), lb.at (i := i) (by omega)]
      rfl
    · intro kc
      unfold BX1_beginsWith_12 CX1_beginsWith_12
      by_cases c2 : fst1 n (fun i => (mkA C a).getD i 0 != (mkA C b).getD i 0) < n
      · have h6 := fst1_at c2
        generalize fst1 n (fun i => (mkA C a).getD i 0 != (mkA C b).getD i 0) = i at *
        have h7 : ¬ (mkA C a).getD i 0 = (mkA C b).getD i 0 := by simpa using h6
        have va := mk_at ra (i := i) (by omega)
        have vb := mk_at rb (i := i) (by omega)
        have h8 : ¬ n ≤ lik C a b := fun q => by
          have := (fst1_ge.mp q).2 i c2
          rw [h6] at this
          cases this
        rw [if_neg h8]
        simp (disch := omega) only [J_add, J_sub, J_mul, J_lt, J_le, J_eq, xbr_true, xbr_false, xbr_pos, xbr_neg, Int.toNat_natCast, all_eq, ex_eq, s_bget (bB ha), s_bget (bB hb), q1, q2, if_pos (show 0 ≤ (i : Int) ∧ (i : Int) < ((mkA C a).length : Int) by omega), if_pos (show 0 ≤ (i : Int) ∧ (i : Int) < ((mkA C b).length : Int) by omega), e1, e2, la.at (i := i) (by omega), lb.at (i := i) (by omega), isB0, true_and]
      · have h8 : n ≤ lik C a b := fst1_ge.mpr ⟨by omega, (fst1_ge.mp (show n ≤ fst1 n (fun i => (mkA C a).getD i 0 != (mkA C b).getD i 0) by omega)).2⟩
        rw [if_pos h8]
        simp (disch := omega) only [J_add, J_sub, J_mul, J_lt, J_le, J_eq, xbr_true, xbr_false, xbr_pos, xbr_neg, Int.toNat_natCast, all_eq, ex_eq, isB1, true_and]
  · have h8 : ¬ n ≤ lik C a b := fun q => by
      have := (fst1_ge.mp q).1
      omega
    rw [if_neg h8]
    simp (disch := omega) only [J_add, J_sub, J_mul, J_lt, J_le, J_eq, xbr_true, xbr_false, xbr_pos, xbr_neg, Int.toNat_natCast, all_eq, ex_eq, tS_lay (bB ha).1, gI_lay (bB ha).2.1, q1, isB0, true_and]
theorem s_someBegins {K : Int32 → Prop} (h : Inv C nb A) (hb : b < nb) {m n : Nat} (hm : m ≤ A.1) (hn1 : 1 ≤ n) (hn : n ≤ (mkA C b).length) : PX10_someBegins (ad z 0) (ad z (9 + 3 * b)) (J (n : Nat)) (J (m : Nat)) (lay z g C) K = K (J (if n < mxl C A b m then 1 else 0)) := by
  obtain ⟨g1, g2, g3, g4, g5, g6, g7, g8⟩ := h.2.1
  obtain ⟨k1, k2, k3⟩ := h.2.2.2.2.2.2.1
  have l24 := k2.2.1
  unfold PX10_someBegins
  simp (disch := omega) only [J_add, J_sub, J_mul, J_lt, J_le, J_eq, xbr_true, xbr_false, xbr_pos, xbr_neg, Int.toNat_natCast, all_eq, ex_eq, t_0, q_0_0, q_0_1, q_0_2, q_0_3, q_0_4, q_0_5, q_0_6, q_0_7, q_0_8, q_0_9, i_0_10, p_0_10, i_0_11, p_0_11, i_0_12, p_0_12, t_1, q_1_0, t_3, q_3_0, q_3_1, i_3_2, p_3_2, i_3_3, p_3_3, t_80, q_80_0, t_88, q_88_0, t_90, q_90_0, t_92, q_92_0, q_92_1, q_92_2, i_92_3, p_92_3, i_92_4, p_92_4, t_96, q_96_0, i_96_1, p_96_1, i_96_2, p_96_2, i_96_3, p_96_3, t_100, q_100_0, i_100_1, p_100_1, i_100_2, p_100_2, i_100_3, p_100_3, t_104, q_104_1, q_104_2, q_104_3, q_104_4, q_104_5, q_104_6, q_104_8, q_104_9, q_104_11, q_104_12, q_104_18, q_104_21, q_104_22, q_104_23, q_104_24, q_104_26, q_104_27, q_104_28, q_104_30, q_104_31, i_104_0, p_104_0, i_104_7, p_104_7, i_104_10, p_104_10, i_104_13, p_104_13, i_104_14, p_104_14, i_104_15, p_104_15, i_104_16, p_104_16, i_104_17, p_104_17, i_104_19, p_104_19, i_104_20, p_104_20, i_104_25, p_104_25, i_104_29, p_104_29, a_2, w_2, a_81, w_81, a_89, w_89, a_91, w_91, a_93, w_93, a_94, w_94, a_95, w_95, a_105, w_105, a_106, w_106, a_107, w_107, a_108, w_108, a_109, w_109, a_110, w_110, a_111, w_111, a_112, w_112, a_113, w_113, a_114, w_114, a_115, w_115, a_116, w_116, a_117, w_117, a_118, w_118, a_119, w_119, a_120, w_120, a_121, w_121, a_122, w_122, a_123, w_123, a_124, w_124]
  have hF := fst1_le m (fun i => decide (n ≤ lik C (A.2.1 i) b))
  have hl := mkA_len (g6 b hb)
  refine lp_for (fun i : Nat => J (i : Int)) 0 (fst1 m (fun i => decide (n ≤ lik C (A.2.1 i) b))) _ (by omega) ?_ ?_
  · intro i _ hi kc
    have h6 := fst1_lt hi
    have h7 : ¬ n ≤ lik C (A.2.1 i) b := by simpa using h6
    have hx := k3.1 i (by omega)
    have e1 := k1.bk (i := i) (by omega)
    unfold BX10_someBegins_3 CX10_someBegins_3
    simp (disch := omega) only [J_add, J_sub, J_mul, J_lt, J_le, J_eq, xbr_true, xbr_false, xbr_pos, xbr_neg, Int.toNat_natCast, all_eq, ex_eq, t_0, q_0_0, q_0_1, q_0_2, q_0_3, q_0_4, q_0_5, q_0_6, q_0_7, q_0_8, q_0_9, i_0_10, p_0_10, i_0_11, p_0_11, i_0_12, p_0_12, t_1, q_1_0, t_3, q_3_0, q_3_1, i_3_2, p_3_2, i_3_3, p_3_3, t_80, q_80_0, t_88, q_88_0, t_90, q_90_0, t_92, q_92_0, q_92_1, q_92_2, i_92_3, p_92_3, i_92_4, p_92_4, t_96, q_96_0, i_96_1, p_96_1, i_96_2, p_96_2, i_96_3, p_96_3, t_100, q_100_0, i_100_1, p_100_1, i_100_2, p_100_2, i_100_3, p_100_3, t_104, q_104_1, q_104_2, q_104_3, q_104_4, q_104_5, q_104_6, q_104_8, q_104_9, q_104_11, q_104_12, q_104_18, q_104_21, q_104_22, q_104_23, q_104_24, q_104_26, q_104_27, q_104_28, q_104_30, q_104_31, i_104_0, p_104_0, i_104_7, p_104_7, i_104_10, p_104_10, i_104_13, p_104_13, i_104_14, p_104_14, i_104_15, p_104_15, i_104_16, p_104_16, i_104_17, p_104_17, i_104_19, p_104_19, i_104_20, p_104_20, i_104_25, p_104_25, i_104_29, p_104_29, a_2, w_2, a_81, w_81, a_89, w_89, a_91, w_91, a_93, w_93, a_94, w_94, a_95, w_95, a_105, w_105, a_106, w_106, a_107, w_107, a_108, w_108, a_109, w_109, a_110, w_110, a_111, w_111, a_112, w_112, a_113, w_113, a_114, w_114, a_115, w_115, a_116, w_116, a_117, w_117, a_118, w_118, a_119, w_119, a_120, w_120, a_121, w_121, a_122, w_122, a_123, w_123, a_124, w_124, s_bookAt r82 k1.2.2.2.2, e1, s_of, bkO_nat (show A.2.1 i < 24 by omega), gR_lay (bS (show A.2.1 i < 24 by omega)), s_begins (show A.2.1 i < 24 by omega) (show b < 24 by omega) (g6 _ hx) (g6 _ hb) (g7 _ hx) (g7 _ hb) hn, if_neg h7]
    rfl
  · intro kc
    unfold BX10_someBegins_3 CX10_someBegins_3
    by_cases c : fst1 m (fun i => decide (n ≤ lik C (A.2.1 i) b)) < m
    · have h6 := fst1_at c
      generalize fst1 m (fun i => decide (n ≤ lik C (A.2.1 i) b)) = i at *
      have h7 : n ≤ lik C (A.2.1 i) b := by simpa using h6
      have hx := k3.1 i (by omega)
      have e1 := k1.bk (i := i) (by omega)
      rw [if_pos ((mxl_lt hn1).mpr ⟨i, c, h7⟩)]
      simp (disch := omega) only [J_add, J_sub, J_mul, J_lt, J_le, J_eq, xbr_true, xbr_false, xbr_pos, xbr_neg, Int.toNat_natCast, all_eq, ex_eq, t_0, q_0_0, q_0_1, q_0_2, q_0_3, q_0_4, q_0_5, q_0_6, q_0_7, q_0_8, q_0_9, i_0_10, p_0_10, i_0_11, p_0_11, i_0_12, p_0_12, t_1, q_1_0, t_3, q_3_0, q_3_1, i_3_2, p_3_2, i_3_3, p_3_3, t_80, q_80_0, t_88, q_88_0, t_90, q_90_0, t_92, q_92_0, q_92_1, q_92_2, i_92_3, p_92_3, i_92_4, p_92_4, t_96, q_96_0, i_96_1, p_96_1, i_96_2, p_96_2, i_96_3, p_96_3, t_100, q_100_0, i_100_1, p_100_1, i_100_2, p_100_2, i_100_3, p_100_3, t_104, q_104_1, q_104_2, q_104_3, q_104_4, q_104_5, q_104_6, q_104_8, q_104_9, q_104_11, q_104_12, q_104_18, q_104_21, q_104_22, q_104_23, q_104_24, q_104_26, q_104_27, q_104_28, q_104_30, q_104_31, i_104_0, p_104_0, i_104_7, p_104_7, i_104_10, p_104_10, i_104_13, p_104_13, i_104_14, p_104_14, i_104_15, p_104_15, i_104_16, p_104_16, i_104_17, p_104_17, i_104_19, p_104_19, i_104_20, p_104_20, i_104_25, p_104_25, i_104_29, p_104_29, a_2, w_2, a_81, w_81, a_89, w_89, a_91, w_91, a_93, w_93, a_94, w_94, a_95, w_95, a_105, w_105, a_106, w_106, a_107, w_107, a_108, w_108, a_109, w_109, a_110, w_110, a_111, w_111, a_112, w_112, a_113, w_113, a_114, w_114, a_115, w_115, a_116, w_116, a_117, w_117, a_118, w_118, a_119, w_119, a_120, w_120, a_121, w_121, a_122, w_122, a_123, w_123, a_124, w_124, s_bookAt r82 k1.2.2.2.2, e1, s_of, bkO_nat (show A.2.1 i < 24 by omega), gR_lay (bS (show A.2.1 i < 24 by omega)), s_begins (show A.2.1 i < 24 by omega) (show b < 24 by omega) (g6 _ hx) (g6 _ hb) (g7 _ hx) (g7 _ hb) hn, if_pos h7, isB1, true_and]
    · have h8 : ¬ n < mxl C A b m := fun q => by
        obtain ⟨i, i1, i2⟩ := (mxl_lt hn1).mp q
        have := fst1_lt (n := m) (f := fun i => decide (n ≤ lik C (A.2.1 i) b)) (i := i) (by omega)
        simp [i2] at this
      rw [if_neg h8]
      simp (disch := omega) only [J_add, J_sub, J_mul, J_lt, J_le, J_eq, xbr_true, xbr_false, xbr_pos, xbr_neg, Int.toNat_natCast, all_eq, ex_eq, t_0, q_0_0, q_0_1, q_0_2, q_0_3, q_0_4, q_0_5, q_0_6, q_0_7, q_0_8, q_0_9, i_0_10, p_0_10, i_0_11, p_0_11, i_0_12, p_0_12, t_1, q_1_0, t_3, q_3_0, q_3_1, i_3_2, p_3_2, i_3_3, p_3_3, t_80, q_80_0, t_88, q_88_0, t_90, q_90_0, t_92, q_92_0, q_92_1, q_92_2, i_92_3, p_92_3, i_92_4, p_92_4, t_96, q_96_0, i_96_1, p_96_1, i_96_2, p_96_2, i_96_3, p_96_3, t_100, q_100_0, i_100_1, p_100_1, i_100_2, p_100_2, i_100_3, p_100_3, t_104, q_104_1, q_104_2, q_104_3, q_104_4, q_104_5, q_104_6, q_104_8, q_104_9, q_104_11, q_104_12, q_104_18, q_104_21, q_104_22, q_104_23, q_104_24, q_104_26, q_104_27, q_104_28, q_104_30, q_104_31, i_104_0, p_104_0, i_104_7, p_104_7, i_104_10, p_104_10, i_104_13, p_104_13, i_104_14, p_104_14, i_104_15, p_104_15, i_104_16, p_104_16, i_104_17, p_104_17, i_104_19, p_104_19, i_104_20, p_104_20, i_104_25, p_104_25, i_104_29, p_104_29, a_2, w_2, a_81, w_81, a_89, w_89, a_91, w_91, a_93, w_93, a_94, w_94, a_95, w_95, a_105, w_105, a_106, w_106, a_107, w_107, a_108, w_108, a_109, w_109, a_110, w_110, a_111, w_111, a_112, w_112, a_113, w_113, a_114, w_114, a_115, w_115, a_116, w_116, a_117, w_117, a_118, w_118, a_119, w_119, a_120, w_120, a_121, w_121, a_122, w_122, a_123, w_123, a_124, w_124, isB0, true_and]
def gdL (C : Nat → Nat → Int) (A : Rw) (b n : Nat) : Nat := min (mxl C A b n) (mkA C b).length
theorem s_guideLength {K : Int32 → Prop} (h : Inv C nb A) (hb : b < nb) {s : Nat} (hs : s < 8) : PX10_guideLength (ad z 0) (J (b : Nat)) (J (s : Nat)) (lay z g C) K = K (J (gdL C A b (sumN A.2.2 s) : Nat)) := by
  obtain ⟨g1, g2, g3, g4, g5, g6, g7, g8⟩ := h.2.1
  obtain ⟨k1, k2, k3⟩ := h.2.2.2.2.2.2.1
  have l24 := k2.2.1
  have st := k1.start k3 g1 (s := s) (by omega)
  have le1 := on_le k3 (s := s) (by omega)
  have hl := mkA_len (g6 b hb)
  have hp := mkA_pos (C := C) (b := b)
  have mb := mxl_b (A := A) hl (sumN A.2.2 s)
  have q1 := (g7 b hb).1
  unfold PX10_guideLength
  simp (disch := omega) only [J_add, J_sub, J_mul, J_lt, J_le, J_eq, xbr_true, xbr_false, xbr_pos, xbr_neg, Int.toNat_natCast, all_eq, ex_eq, t_0, q_0_0, q_0_1, q_0_2, q_0_3, q_0_4, q_0_5, q_0_6, q_0_7, q_0_8, q_0_9, i_0_10, p_0_10, i_0_11, p_0_11, i_0_12, p_0_12, t_1, q_1_0, t_3, q_3_0, q_3_1, i_3_2, p_3_2, i_3_3, p_3_3, t_80, q_80_0, t_88, q_88_0, t_90, q_90_0, t_92, q_92_0, q_92_1, q_92_2, i_92_3, p_92_3, i_92_4, p_92_4, t_96, q_96_0, i_96_1, p_96_1, i_96_2, p_96_2, i_96_3, p_96_3, t_100, q_100_0, i_100_1, p_100_1, i_100_2, p_100_2, i_100_3, p_100_3, t_104, q_104_1, q_104_2, q_104_3, q_104_4, q_104_5, q_104_6, q_104_8, q_104_9, q_104_11, q_104_12, q_104_18, q_104_21, q_104_22, q_104_23, q_104_24, q_104_26, q_104_27, q_104_28, q_104_30, q_104_31, i_104_0, p_104_0, i_104_7, p_104_7, i_104_10, p_104_10, i_104_13, p_104_13, i_104_14, p_104_14, i_104_15, p_104_15, i_104_16, p_104_16, i_104_17, p_104_17, i_104_19, p_104_19, i_104_20, p_104_20, i_104_25, p_104_25, i_104_29, p_104_29, a_2, w_2, a_81, w_81, a_89, w_89, a_91, w_91, a_93, w_93, a_94, w_94, a_95, w_95, a_105, w_105, a_106, w_106, a_107, w_107, a_108, w_108, a_109, w_109, a_110, w_110, a_111, w_111, a_112, w_112, a_113, w_113, a_114, w_114, a_115, w_115, a_116, w_116, a_117, w_117, a_118, w_118, a_119, w_119, a_120, w_120, a_121, w_121, a_122, w_122, a_123, w_123, a_124, w_124, s_of, bkO_nat (show b < 24 by omega), gR_lay (bS (show b < 24 by omega)), s_start r82 k1.2.2.2.2, st]
  have st2 : J 1 = J ((1 : Nat) : Int) := rfl
  rw [st2]
  refine lp_for (fun i : Nat => J (i : Int)) 1 (gdL C A b (sumN A.2.2 s)) _ (by unfold gdL; omega) ?_ ?_
  · intro i hi1 hi kc
    have hi2 : i < mxl C A b (sumN A.2.2 s) ∧ i < (mkA C b).length := by unfold gdL at hi; omega
    unfold BX10_guideLength_25 CX10_guideLength_25
    simp (disch := omega) only [J_add, J_sub, J_mul, J_lt, J_le, J_eq, xbr_true, xbr_false, xbr_pos, xbr_neg, Int.toNat_natCast, all_eq, ex_eq, t_0, q_0_0, q_0_1, q_0_2, q_0_3, q_0_4, q_0_5, q_0_6, q_0_7, q_0_8, q_0_9, i_0_10, p_0_10, i_0_11, p_0_11, i_0_12, p_0_12, t_1, q_1_0, t_3, q_3_0, q_3_1, i_3_2, p_3_2, i_3_3, p_3_3, t_80, q_80_0, t_88, q_88_0, t_90, q_90_0, t_92, q_92_0, q_92_1, q_92_2, i_92_3, p_92_3, i_92_4, p_92_4, t_96, q_96_0, i_96_1, p_96_1, i_96_2, p_96_2, i_96_3, p_96_3, t_100, q_100_0, i_100_1, p_100_1, i_100_2, p_100_2, i_100_3, p_100_3, t_104, q_104_1, q_104_2, q_104_3, q_104_4, q_104_5, q_104_6, q_104_8, q_104_9, q_104_11, q_104_12, q_104_18, q_104_21, q_104_22, q_104_23, q_104_24, q_104_26, q_104_27, q_104_28, q_104_30, q_104_31, i_104_0, p_104_0, i_104_7, p_104_7, i_104_10, p_104_10, i_104_13, p_104_13, i_104_14, p_104_14, i_104_15, p_104_15, i_104_16, p_104_16, i_104_17, p_104_17, i_104_19, p_104_19, i_104_20, p_104_20, i_104_25, p_104_25, i_104_29, p_104_29, a_2, w_2, a_81, w_81, a_89, w_89, a_91, w_91, a_93, w_93, a_94, w_94, a_95, w_95, a_105, w_105, a_106, w_106, a_107, w_107, a_108, w_108, a_109, w_109, a_110, w_110, a_111, w_111, a_112, w_112, a_113, w_113, a_114, w_114, a_115, w_115, a_116, w_116, a_117, w_117, a_118, w_118, a_119, w_119, a_120, w_120, a_121, w_121, a_122, w_122, a_123, w_123, a_124, w_124, s_bsize (bB (show b < 24 by omega)), q1, s_someBegins h hb le1 hi1 (show i ≤ (mkA C b).length by omega), if_pos hi2.1]
    rfl
  · intro kc
    unfold BX10_guideLength_25 CX10_guideLength_25
    by_cases c : mxl C A b (sumN A.2.2 s) < (mkA C b).length
    · have e : gdL C A b (sumN A.2.2 s) = mxl C A b (sumN A.2.2 s) := by unfold gdL; omega
      rw [e]
      simp (disch := omega) only [J_add, J_sub, J_mul, J_lt, J_le, J_eq, xbr_true, xbr_false, xbr_pos, xbr_neg, Int.toNat_natCast, all_eq, ex_eq, t_0, q_0_0, q_0_1, q_0_2, q_0_3, q_0_4, q_0_5, q_0_6, q_0_7, q_0_8, q_0_9, i_0_10, p_0_10, i_0_11, p_0_11, i_0_12, p_0_12, t_1, q_1_0, t_3, q_3_0, q_3_1, i_3_2, p_3_2, i_3_3, p_3_3, t_80, q_80_0, t_88, q_88_0, t_90, q_90_0, t_92, q_92_0, q_92_1, q_92_2, i_92_3, p_92_3, i_92_4, p_92_4, t_96, q_96_0, i_96_1, p_96_1, i_96_2, p_96_2, i_96_3, p_96_3, t_100, q_100_0, i_100_1, p_100_1, i_100_2, p_100_2, i_100_3, p_100_3, t_104, q_104_1, q_104_2, q_104_3, q_104_4, q_104_5, q_104_6, q_104_8, q_104_9, q_104_11, q_104_12, q_104_18, q_104_21, q_104_22, q_104_23, q_104_24, q_104_26, q_104_27, q_104_28, q_104_30, q_104_31, i_104_0, p_104_0, i_104_7, p_104_7, i_104_10, p_104_10, i_104_13, p_104_13, i_104_14, p_104_14, i_104_15, p_104_15, i_104_16, p_104_16, i_104_17, p_104_17, i_104_19, p_104_19, i_104_20, p_104_20, i_104_25, p_104_25, i_104_29, p_104_29, a_2, w_2, a_81, w_81, a_89, w_89, a_91, w_91, a_93, w_93, a_94, w_94, a_95, w_95, a_105, w_105, a_106, w_106, a_107, w_107, a_108, w_108, a_109, w_109, a_110, w_110, a_111, w_111, a_112, w_112, a_113, w_113, a_114, w_114, a_115, w_115, a_116, w_116, a_117, w_117, a_118, w_118, a_119, w_119, a_120, w_120, a_121, w_121, a_122, w_122, a_123, w_123, a_124, w_124, s_bsize (bB (show b < 24 by omega)), q1, s_someBegins h hb le1 mb.1 (show mxl C A b (sumN A.2.2 s) ≤ (mkA C b).length by omega), if_neg (show ¬ mxl C A b (sumN A.2.2 s) < mxl C A b (sumN A.2.2 s) by omega)]
    · have e : gdL C A b (sumN A.2.2 s) = (mkA C b).length := by unfold gdL; omega
      rw [e]
      simp (disch := omega) only [J_add, J_sub, J_mul, J_lt, J_le, J_eq, xbr_true, xbr_false, xbr_pos, xbr_neg, Int.toNat_natCast, all_eq, ex_eq, t_0, q_0_0, q_0_1, q_0_2, q_0_3, q_0_4, q_0_5, q_0_6, q_0_7, q_0_8, q_0_9, i_0_10, p_0_10, i_0_11, p_0_11, i_0_12, p_0_12, t_1, q_1_0, t_3, q_3_0, q_3_1, i_3_2, p_3_2, i_3_3, p_3_3, t_80, q_80_0, t_88, q_88_0, t_90, q_90_0, t_92, q_92_0, q_92_1, q_92_2, i_92_3, p_92_3, i_92_4, p_92_4, t_96, q_96_0, i_96_1, p_96_1, i_96_2, p_96_2, i_96_3, p_96_3, t_100, q_100_0, i_100_1, p_100_1, i_100_2, p_100_2, i_100_3, p_100_3, t_104, q_104_1, q_104_2, q_104_3, q_104_4, q_104_5, q_104_6, q_104_8, q_104_9, q_104_11, q_104_12, q_104_18, q_104_21, q_104_22, q_104_23, q_104_24, q_104_26, q_104_27, q_104_28, q_104_30, q_104_31, i_104_0, p_104_0, i_104_7, p_104_7, i_104_10, p_104_10, i_104_13, p_104_13, i_104_14, p_104_14, i_104_15, p_104_15, i_104_16, p_104_16, i_104_17, p_104_17, i_104_19, p_104_19, i_104_20, p_104_20, i_104_25, p_104_25, i_104_29, p_104_29, a_2, w_2, a_81, w_81, a_89, w_89, a_91, w_91, a_93, w_93, a_94, w_94, a_95, w_95, a_105, w_105, a_106, w_106, a_107, w_107, a_108, w_108, a_109, w_109, a_110, w_110, a_111, w_111, a_112, w_112, a_113, w_113, a_114, w_114, a_115, w_115, a_116, w_116, a_117, w_117, a_118, w_118, a_119, w_119, a_120, w_120, a_121, w_121, a_122, w_122, a_123, w_123, a_124, w_124, s_bsize (bB (show b < 24 by omega)), q1]
theorem m_like {K : Int32 → Mem → Prop} {kc : Mem × Int32 × Int32 → Prop} (ra : BkRel C a) (rb : BkRel C b) (d1 : D 104 19 = (mkA C a).length) (d2 : ∀ j, j < (mkA C a).length → D 115 j = (mkA C a).getD j 0) (d3 : ∀ j, j < (mkA C b).length → D 119 j = (mkA C b).getD j 0) {x : Int32} {n t : Nat} (hn : n ≤ 24) (ht : t ≤ 24) :
    lp (BX11_findGuide_84 K kc (lay z g D) (ad z 104) x (J ((mkA C b).length : Nat)) (J (n : Nat)) (J (t : Nat))) (J 0) = kc (lay z g D, J (max n (lik C a b + 1) : Nat), J (t + 1 : Nat)) := by
  have l1 := mkA_len ra
  have l2 := mkA_len rb
  have hL : lik C a b ≤ min (mkA C b).length (mkA C a).length := fst1_le _ _
  have fin : ∀ i : Nat, i ≤ 24 → JX11_findGuide_122 K kc (lay z g D) (ad z 104) x (J ((mkA C b).length : Nat)) (J (n : Nat)) (J (t : Nat)) (J (i : Nat)) = kc (lay z g D, J (max n (i + 1) : Nat), J (t + 1 : Nat)) := fun i hi => by
    unfold JX11_findGuide_122
    by_cases c : i + 1 ≤ n
    · simp (disch := omega) only [J_add, J_sub, J_mul, J_lt, J_le, J_eq, xbr_true, xbr_false, xbr_pos, xbr_neg, Int.toNat_natCast, all_eq, ex_eq]
      rw [show max n (i + 1) = n by omega]; rfl
    · simp (disch := omega) only [J_add, J_sub, J_mul, J_lt, J_le, J_eq, xbr_true, xbr_false, xbr_pos, xbr_neg, Int.toNat_natCast, all_eq, ex_eq]
      rw [show max n (i + 1) = i + 1 by omega]; rfl
  refine lp_for (fun i : Nat => J (i : Int)) 0 (lik C a b) _ (by omega) ?_ ?_
  · intro i _ hi kc'
    have h6 := fst1_lt (n := min (mkA C b).length (mkA C a).length) (f := fun i => (mkA C a).getD i 0 != (mkA C b).getD i 0) (i := i) hi
    have h7 : (mkA C a).getD i 0 = (mkA C b).getD i 0 := by simpa using h6
    have va := mk_at ra (i := i) (by omega)
    have vb := mk_at rb (i := i) (by omega)
    unfold BX11_findGuide_84 CX11_findGuide_84
    simp (disch := omega) only [J_add, J_sub, J_mul, J_lt, J_le, J_eq, xbr_true, xbr_false, xbr_pos, xbr_neg, Int.toNat_natCast, all_eq, ex_eq, t_0, q_0_0, q_0_1, q_0_2, q_0_3, q_0_4, q_0_5, q_0_6, q_0_7, q_0_8, q_0_9, i_0_10, p_0_10, i_0_11, p_0_11, i_0_12, p_0_12, t_1, q_1_0, t_3, q_3_0, q_3_1, i_3_2, p_3_2, i_3_3, p_3_3, t_80, q_80_0, t_88, q_88_0, t_90, q_90_0, t_92, q_92_0, q_92_1, q_92_2, i_92_3, p_92_3, i_92_4, p_92_4, t_96, q_96_0, i_96_1, p_96_1, i_96_2, p_96_2, i_96_3, p_96_3, t_100, q_100_0, i_100_1, p_100_1, i_100_2, p_100_2, i_100_3, p_100_3, t_104, q_104_1, q_104_2, q_104_3, q_104_4, q_104_5, q_104_6, q_104_8, q_104_9, q_104_11, q_104_12, q_104_18, q_104_21, q_104_22, q_104_23, q_104_24, q_104_26, q_104_27, q_104_28, q_104_30, q_104_31, i_104_0, p_104_0, i_104_7, p_104_7, i_104_10, p_104_10, i_104_13, p_104_13, i_104_14, p_104_14, i_104_15, p_104_15, i_104_16, p_104_16, i_104_17, p_104_17, i_104_19, p_104_19, i_104_20, p_104_20, i_104_25, p_104_25, i_104_29, p_104_29, a_2, w_2, a_81, w_81, a_89, w_89, a_91, w_91, a_93, w_93, a_94, w_94, a_95, w_95, a_105, w_105, a_106, w_106, a_107, w_107, a_108, w_108, a_109, w_109, a_110, w_110, a_111, w_111, a_112, w_112, a_113, w_113, a_114, w_114, a_115, w_115, a_116, w_116, a_117, w_117, a_118, w_118, a_119, w_119, a_120, w_120, a_121, w_121, a_122, w_122, a_123, w_123, a_124, w_124, d1, d2 i (by omega), d3 i (by omega)]
    rfl
  · intro kc'
    unfold BX11_findGuide_84 CX11_findGuide_84
    by_cases c1 : lik C a b < (mkA C b).length
    · by_cases c2 : lik C a b < (mkA C a).length
      · have h6 := fst1_at (n := min (mkA C b).length (mkA C a).length) (f := fun i => (mkA C a).getD i 0 != (mkA C b).getD i 0) (by show lik C a b < _; omega)
        have h6' : ((mkA C a).getD (lik C a b) 0 != (mkA C b).getD (lik C a b) 0) = true := h6
        have h7 : ¬ (mkA C a).getD (lik C a b) 0 = (mkA C b).getD (lik C a b) 0 := by simpa using h6'
        have va := mk_at ra (i := lik C a b) (by omega)
        have vb := mk_at rb (i := lik C a b) (by omega)
        simp (disch := omega) only [J_add, J_sub, J_mul, J_lt, J_le, J_eq, xbr_true, xbr_false, xbr_pos, xbr_neg, Int.toNat_natCast, all_eq, ex_eq, t_0, q_0_0, q_0_1, q_0_2, q_0_3, q_0_4, q_0_5, q_0_6, q_0_7, q_0_8, q_0_9, i_0_10, p_0_10, i_0_11, p_0_11, i_0_12, p_0_12, t_1, q_1_0, t_3, q_3_0, q_3_1, i_3_2, p_3_2, i_3_3, p_3_3, t_80, q_80_0, t_88, q_88_0, t_90, q_90_0, t_92, q_92_0, q_92_1, q_92_2, i_92_3, p_92_3, i_92_4, p_92_4, t_96, q_96_0, i_96_1, p_96_1, i_96_2, p_96_2, i_96_3, p_96_3, t_100, q_100_0, i_100_1, p_100_1, i_100_2, p_100_2, i_100_3, p_100_3, t_104, q_104_1, q_104_2, q_104_3, q_104_4, q_104_5, q_104_6, q_104_8, q_104_9, q_104_11, q_104_12, q_104_18, q_104_21, q_104_22, q_104_23, q_104_24, q_104_26, q_104_27, q_104_28, q_104_30, q_104_31, i_104_0, p_104_0, i_104_7, p_104_7, i_104_10, p_104_10, i_104_13, p_104_13, i_104_14, p_104_14, i_104_15, p_104_15, i_104_16, p_104_16, i_104_17, p_104_17, i_104_19, p_104_19, i_104_20, p_104_20, i_104_25, p_104_25, i_104_29, p_104_29, a_2, w_2, a_81, w_81, a_89, w_89, a_91, w_91, a_93, w_93, a_94, w_94, a_95, w_95, a_105, w_105, a_106, w_106, a_107, w_107, a_108, w_108, a_109, w_109, a_110, w_110, a_111, w_111, a_112, w_112, a_113, w_113, a_114, w_114, a_115, w_115, a_116, w_116, a_117, w_117, a_118, w_118, a_119, w_119, a_120, w_120, a_121, w_121, a_122, w_122, a_123, w_123, a_124, w_124, d1, d2 _ c2, d3 _ c1]
        rw [fin _ (by omega)]
      · simp (disch := omega) only [J_add, J_sub, J_mul, J_lt, J_le, J_eq, xbr_true, xbr_false, xbr_pos, xbr_neg, Int.toNat_natCast, all_eq, ex_eq, t_0, q_0_0, q_0_1, q_0_2, q_0_3, q_0_4, q_0_5, q_0_6, q_0_7, q_0_8, q_0_9, i_0_10, p_0_10, i_0_11, p_0_11, i_0_12, p_0_12, t_1, q_1_0, t_3, q_3_0, q_3_1, i_3_2, p_3_2, i_3_3, p_3_3, t_80, q_80_0, t_88, q_88_0, t_90, q_90_0, t_92, q_92_0, q_92_1, q_92_2, i_92_3, p_92_3, i_92_4, p_92_4, t_96, q_96_0, i_96_1, p_96_1, i_96_2, p_96_2, i_96_3, p_96_3, t_100, q_100_0, i_100_1, p_100_1, i_100_2, p_100_2, i_100_3, p_100_3, t_104, q_104_1, q_104_2, q_104_3, q_104_4, q_104_5, q_104_6, q_104_8, q_104_9, q_104_11, q_104_12, q_104_18, q_104_21, q_104_22, q_104_23, q_104_24, q_104_26, q_104_27, q_104_28, q_104_30, q_104_31, i_104_0, p_104_0, i_104_7, p_104_7, i_104_10, p_104_10, i_104_13, p_104_13, i_104_14, p_104_14, i_104_15, p_104_15, i_104_16, p_104_16, i_104_17, p_104_17, i_104_19, p_104_19, i_104_20, p_104_20, i_104_25, p_104_25, i_104_29, p_104_29, a_2, w_2, a_81, w_81, a_89, w_89, a_91, w_91, a_93, w_93, a_94, w_94, a_95, w_95, a_105, w_105, a_106, w_106, a_107, w_107, a_108, w_108, a_109, w_109, a_110, w_110, a_111, w_111, a_112, w_112, a_113, w_113, a_114, w_114, a_115, w_115, a_116, w_116, a_117, w_117, a_118, w_118, a_119, w_119, a_120, w_120, a_121, w_121, a_122, w_122, a_123, w_123, a_124, w_124, d1]
        rw [fin _ (by omega)]
    · simp (disch := omega) only [J_add, J_sub, J_mul, J_lt, J_le, J_eq, xbr_true, xbr_false, xbr_pos, xbr_neg, Int.toNat_natCast, all_eq, ex_eq]
      rw [fin _ (by omega)]
theorem m_findGuide (h : Inv C nb A) {s : Nat} (hs : s < 8) : ∃ D : Nat → Nat → Int, (∀ a, a ≠ 104 → a ≠ 115 → a ≠ 119 → D a = C a) ∧ (∀ j, j ≠ 19 → D 104 j = C 104 j) ∧ (0 < A.2.2 s → ∀ j, j < (mkA C (A.2.1 (sumN A.2.2 s))).length → D 119 j = (mkA C (A.2.1 (sumN A.2.2 s))).getD j 0) ∧ ∀ K, PX11_findGuide (ad z 104) (J (s : Nat)) (lay z g C) K = K (J (if 0 < A.2.2 s then (gdL C A (A.2.1 (sumN A.2.2 s)) (sumN A.2.2 s) : Int) else 0)) (lay z g D) := by
  obtain ⟨g1, g2, g3, g4, g5, g6, g7, g8⟩ := h.2.1
  obtain ⟨k1, k2, k3⟩ := h.2.2.2.2.2.2.1
  have l24 := k2.2.1
  have on1 := k2.2.2.2 s hs
  have le1 := on_le k3 (s := s + 1) (by omega)
  have e0 : sumN A.2.2 (s + 1) = sumN A.2.2 s + A.2.2 s := rfl
  by_cases c : 0 < A.2.2 s
  · have hi : sumN A.2.2 s < A.1 := by omega
    have hb := k3.1 _ hi
    have er := k2.2.2.1 _ hi
    generalize hbb : A.2.1 (sumN A.2.2 s) = b at *
    have rb := g6 b hb
    have lb := mkA_len rb
    have mb := fun n => mxl_b (A := A) (C := C) (b := b) lb n
    -- the mark is copied
    obtain ⟨E, hE⟩ : ∃ E : Nat → Nat → Int, E = fun x j => if x = 119 ∧ j < (mkA C b).length then (mkA C b).getD j 0 else wmC C (mkA C b) x j := ⟨_, rfl⟩
    have E1 : ∀ x, x ≠ 104 → x ≠ 115 → x ≠ 119 → E x = C x := fun x h1 h2 h3 => by
      funext j; rw [hE]; show (if _ then _ else _) = _; rw [if_neg (fun q => h3 q.1), wmC_ne ⟨h1, h2⟩]
    have E2 : ∀ j, j ≠ 19 → E 104 j = C 104 j := fun j hj => by
      rw [hE]; show (if _ then _ else _) = _; rw [if_neg (by omega), wmC_104 hj]
    have E3 : ∀ j, j < (mkA C b).length → E 119 j = (mkA C b).getD j 0 := fun j hj => by
      rw [hE]; show (if _ then _ else _) = _; rw [if_pos ⟨rfl, hj⟩]
    have cp : ∀ K, lp (BX11_findGuide_32 K (ad z 104) (J (s : Nat)) (J ((mkA C b).length : Nat))) (lay z g (wmC C (mkA C b)), J 0) = lp (BX11_findGuide_60 K (ad z 104) (J (s : Nat)) (J ((mkA C b).length : Nat))) (lay z g E, J 1, J 0) := by
      intro K
      have st : (lay z g (wmC C (mkA C b)), J 0) = (fun m : Nat => (lay z g (fun x j => if x = 119 ∧ j < m then (mkA C b).getD j 0 else wmC C (mkA C b) x j), J (m : Int))) 0 := by
        show _ = (lay z g (fun x j => if x = 119 ∧ j < 0 then (mkA C b).getD j 0 else wmC C (mkA C b) x j), _)
        have : (fun x j => if x = 119 ∧ j < 0 then (mkA C b).getD j 0 else wmC C (mkA C b) x j) = wmC C (mkA C b) := by
          funext x j; rw [if_neg (by omega)]
        rw [this]; rfl
      rw [st]
      refine lp_for (fun m : Nat => (lay z g (fun x j => if x = 119 ∧ j < m then (mkA C b).getD j 0 else wmC C (mkA C b) x j), J (m : Int))) 0 (mkA C b).length _ (by omega) ?_ ?_
      · intro m _ hm kc
        have w : wmC C (mkA C b) 115 m = (mkA C b).getD m 0 := by unfold wmC; rw [if_neg (by omega), if_pos ⟨rfl, hm⟩]
        unfold BX11_findGuide_32 CX11_findGuide_32
        simp (disch := omega) only [J_add, J_sub, J_mul, J_lt, J_le, J_eq, xbr_true, xbr_false, xbr_pos, xbr_neg, Int.toNat_natCast, all_eq, ex_eq, t_0, q_0_0, q_0_1, q_0_2, q_0_3, q_0_4, q_0_5, q_0_6, q_0_7, q_0_8, q_0_9, i_0_10, p_0_10, i_0_11, p_0_11, i_0_12, p_0_12, t_1, q_1_0, t_3, q_3_0, q_3_1, i_3_2, p_3_2, i_3_3, p_3_3, t_80, q_80_0, t_88, q_88_0, t_90, q_90_0, t_92, q_92_0, q_92_1, q_92_2, i_92_3, p_92_3, i_92_4, p_92_4, t_96, q_96_0, i_96_1, p_96_1, i_96_2, p_96_2, i_96_3, p_96_3, t_100, q_100_0, i_100_1, p_100_1, i_100_2, p_100_2, i_100_3, p_100_3, t_104, q_104_1, q_104_2, q_104_3, q_104_4, q_104_5, q_104_6, q_104_8, q_104_9, q_104_11, q_104_12, q_104_18, q_104_21, q_104_22, q_104_23, q_104_24, q_104_26, q_104_27, q_104_28, q_104_30, q_104_31, i_104_0, p_104_0, i_104_7, p_104_7, i_104_10, p_104_10, i_104_13, p_104_13, i_104_14, p_104_14, i_104_15, p_104_15, i_104_16, p_104_16, i_104_17, p_104_17, i_104_19, p_104_19, i_104_20, p_104_20, i_104_25, p_104_25, i_104_29, p_104_29, a_2, w_2, a_81, w_81, a_89, w_89, a_91, w_91, a_93, w_93, a_94, w_94, a_95, w_95, a_105, w_105, a_106, w_106, a_107, w_107, a_108, w_108, a_109, w_109, a_110, w_110, a_111, w_111, a_112, w_112, a_113, w_113, a_114, w_114, a_115, w_115, a_116, w_116, a_117, w_117, a_118, w_118, a_119, w_119, a_120, w_120, a_121, w_121, a_122, w_122, a_123, w_123, a_124, w_124]
        rw [if_neg (by omega), w]
        have : up (fun x j => if x = 119 ∧ j < m then (mkA C b).getD j 0 else wmC C (mkA C b) x j) 119 m ((mkA C b).getD m 0) = fun x j => if x = 119 ∧ j < m + 1 then (mkA C b).getD j 0 else wmC C (mkA C b) x j := by
          funext x j
          unfold up
          by_cases q : x = 119 ∧ j = m
          · rw [if_pos q, if_pos (by omega), q.2]
          · rw [if_neg q]
            show (if x = 119 ∧ j < m then (mkA C b).getD j 0 else wmC C (mkA C b) x j) = _
            by_cases q2 : x = 119 ∧ j < m
            · rw [if_pos q2, if_pos (by omega)]
            · rw [if_neg q2, if_neg (by omega)]
        rw [this]; rfl
      · intro kc
        unfold BX11_findGuide_32 CX11_findGuide_32
        simp (disch := omega) only [J_add, J_sub, J_mul, J_lt, J_le, J_eq, xbr_true, xbr_false, xbr_pos, xbr_neg, Int.toNat_natCast, all_eq, ex_eq]
        rw [hE]
    -- the earlier ones
    have lps : ∀ t, t ≤ sumN A.2.2 s → ∃ D : Nat → Nat → Int, (∀ a, a ≠ 104 → a ≠ 115 → a ≠ 119 → D a = C a) ∧ (∀ j, j ≠ 19 → D 104 j = C 104 j) ∧ (∀ j, j < (mkA C b).length → D 119 j = (mkA C b).getD j 0) ∧ ∀ K, lp (BX11_findGuide_60 K (ad z 104) (J (s : Nat)) (J ((mkA C b).length : Nat))) (lay z g E, J 1, J 0) = lp (BX11_findGuide_60 K (ad z 104) (J (s : Nat)) (J ((mkA C b).length : Nat))) (lay z g D, J (mxl C A b t : Nat), J (t : Nat)) := by
      intro t
      induction t with
      | zero => exact fun _ => ⟨E, E1, E2, E3, fun _ => rfl⟩
      | succ t ih =>
        intro ht
        obtain ⟨D, d1, d2, d3, hD⟩ := ih (by omega)
        have hti : t < A.1 := by omega
        have ha := k3.1 t hti
        have ra := g6 _ ha
        have k2D : RowM D A := k2.fr (d2 _ (by omega)) (d1 _ (by omega) (by omega) (by omega)) (d1 _ (by omega) (by omega) (by omega))
        have rD : BkRel D (A.2.1 t) := ra.fr (by omega) (fun x _ _ => d1 x (by omega) (by omega) (by omega)) (fun x _ _ => d1 x (by omega) (by omega) (by omega))
        have eM : mkA D (A.2.1 t) = mkA C (A.2.1 t) := mkA_congr (fun x _ _ => d1 x (by omega) (by omega) (by omega))
        have erD := k2D.2.2.1 t hti
        have wm := fun K => m_writeMark (z := z) (g := g) (K := K) rD (show A.2.1 t < 24 by omega)
        rw [eM] at wm
        have mb1 := mb t
        refine ⟨wmC D (mkA C (A.2.1 t)), fun x h1 h2 h3 => by rw [wmC_ne ⟨h1, h2⟩, d1 x h1 h2 h3], fun j hj => by rw [wmC_104 hj, d2 j hj], fun j hj => by rw [wmC_ne (by omega), d3 j hj], fun K => (hD K).trans (lp_step fun kc => ?_)⟩
        unfold BX11_findGuide_60 CX11_findGuide_60
        simp (disch := omega) only [J_add, J_sub, J_mul, J_lt, J_le, J_eq, xbr_true, xbr_false, xbr_pos, xbr_neg, Int.toNat_natCast, all_eq, ex_eq, t_0, q_0_0, q_0_1, q_0_2, q_0_3, q_0_4, q_0_5, q_0_6, q_0_7, q_0_8, q_0_9, i_0_10, p_0_10, i_0_11, p_0_11, i_0_12, p_0_12, t_1, q_1_0, t_3, q_3_0, q_3_1, i_3_2, p_3_2, i_3_3, p_3_3, t_80, q_80_0, t_88, q_88_0, t_90, q_90_0, t_92, q_92_0, q_92_1, q_92_2, i_92_3, p_92_3, i_92_4, p_92_4, t_96, q_96_0, i_96_1, p_96_1, i_96_2, p_96_2, i_96_3, p_96_3, t_100, q_100_0, i_100_1, p_100_1, i_100_2, p_100_2, i_100_3, p_100_3, t_104, q_104_1, q_104_2, q_104_3, q_104_4, q_104_5, q_104_6, q_104_8, q_104_9, q_104_11, q_104_12, q_104_18, q_104_21, q_104_22, q_104_23, q_104_24, q_104_26, q_104_27, q_104_28, q_104_30, q_104_31, i_104_0, p_104_0, i_104_7, p_104_7, i_104_10, p_104_10, i_104_13, p_104_13, i_104_14, p_104_14, i_104_15, p_104_15, i_104_16, p_104_16, i_104_17, p_104_17, i_104_19, p_104_19, i_104_20, p_104_20, i_104_25, p_104_25, i_104_29, p_104_29, a_2, w_2, a_81, w_81, a_89, w_89, a_91, w_91, a_93, w_93, a_94, w_94, a_95, w_95, a_105, w_105, a_106, w_106, a_107, w_107, a_108, w_108, a_109, w_109, a_110, w_110, a_111, w_111, a_112, w_112, a_113, w_113, a_114, w_114, a_115, w_115, a_116, w_116, a_117, w_117, a_118, w_118, a_119, w_119, a_120, w_120, a_121, w_121, a_122, w_122, a_123, w_123, a_124, w_124, m_firstOf k2D k3 (show s ≤ 8 by omega), erD, wm]
        rw [m_like (C := C) (a := A.2.1 t) ra rb wmC_len (fun j hj => by unfold wmC; rw [if_neg (by omega), if_pos ⟨rfl, hj⟩]) (fun j hj => by rw [wmC_ne (by omega), d3 j hj]) (by omega) (by omega)]
        rfl
    obtain ⟨D, d1, d2, d3, hD⟩ := lps _ (Nat.le_refl _)
    have k2D : RowM D A := k2.fr (d2 _ (by omega)) (d1 _ (by omega) (by omega) (by omega)) (d1 _ (by omega) (by omega) (by omega))
    refine ⟨D, d1, d2, fun _ => d3, fun K => ?_⟩
    unfold PX11_findGuide
    simp (disch := omega) only [J_add, J_sub, J_mul, J_lt, J_le, J_eq, xbr_true, xbr_false, xbr_pos, xbr_neg, Int.toNat_natCast, all_eq, ex_eq, t_0, q_0_0, q_0_1, q_0_2, q_0_3, q_0_4, q_0_5, q_0_6, q_0_7, q_0_8, q_0_9, i_0_10, p_0_10, i_0_11, p_0_11, i_0_12, p_0_12, t_1, q_1_0, t_3, q_3_0, q_3_1, i_3_2, p_3_2, i_3_3, p_3_3, t_80, q_80_0, t_88, q_88_0, t_90, q_90_0, t_92, q_92_0, q_92_1, q_92_2, i_92_3, p_92_3, i_92_4, p_92_4, t_96, q_96_0, i_96_1, p_96_1, i_96_2, p_96_2, i_96_3, p_96_3, t_100, q_100_0, i_100_1, p_100_1, i_100_2, p_100_2, i_100_3, p_100_3, t_104, q_104_1, q_104_2, q_104_3, q_104_4, q_104_5, q_104_6, q_104_8, q_104_9, q_104_11, q_104_12, q_104_18, q_104_21, q_104_22, q_104_23, q_104_24, q_104_26, q_104_27, q_104_28, q_104_30, q_104_31, i_104_0, p_104_0, i_104_7, p_104_7, i_104_10, p_104_10, i_104_13, p_104_13, i_104_14, p_104_14, i_104_15, p_104_15, i_104_16, p_104_16, i_104_17, p_104_17, i_104_19, p_104_19, i_104_20, p_104_20, i_104_25, p_104_25, i_104_29, p_104_29, a_2, w_2, a_81, w_81, a_89, w_89, a_91, w_91, a_93, w_93, a_94, w_94, a_95, w_95, a_105, w_105, a_106, w_106, a_107, w_107, a_108, w_108, a_109, w_109, a_110, w_110, a_111, w_111, a_112, w_112, a_113, w_113, a_114, w_114, a_115, w_115, a_116, w_116, a_117, w_117, a_118, w_118, a_119, w_119, a_120, w_120, a_121, w_121, a_122, w_122, a_123, w_123, a_124, w_124, on1, m_firstOf k2 k3 (show s ≤ 8 by omega), er, m_writeMark rb (show b < 24 by omega), wmC_len]
    rw [cp, hD]
    refine lp_last fun kc => ?_
    have mb1 := mb (sumN A.2.2 s)
    rw [if_pos c]
    unfold BX11_findGuide_60 CX11_findGuide_60 gdL
    by_cases q : mxl C A b (sumN A.2.2 s) ≤ (mkA C b).length
    · simp (disch := omega) only [J_add, J_sub, J_mul, J_lt, J_le, J_eq, xbr_true, xbr_false, xbr_pos, xbr_neg, Int.toNat_natCast, all_eq, ex_eq, t_0, q_0_0, q_0_1, q_0_2, q_0_3, q_0_4, q_0_5, q_0_6, q_0_7, q_0_8, q_0_9, i_0_10, p_0_10, i_0_11, p_0_11, i_0_12, p_0_12, t_1, q_1_0, t_3, q_3_0, q_3_1, i_3_2, p_3_2, i_3_3, p_3_3, t_80, q_80_0, t_88, q_88_0, t_90, q_90_0, t_92, q_92_0, q_92_1, q_92_2, i_92_3, p_92_3, i_92_4, p_92_4, t_96, q_96_0, i_96_1, p_96_1, i_96_2, p_96_2, i_96_3, p_96_3, t_100, q_100_0, i_100_1, p_100_1, i_100_2, p_100_2, i_100_3, p_100_3, t_104, q_104_1, q_104_2, q_104_3, q_104_4, q_104_5, q_104_6, q_104_8, q_104_9, q_104_11, q_104_12, q_104_18, q_104_21, q_104_22, q_104_23, q_104_24, q_104_26, q_104_27, q_104_28, q_104_30, q_104_31, i_104_0, p_104_0, i_104_7, p_104_7, i_104_10, p_104_10, i_104_13, p_104_13, i_104_14, p_104_14, i_104_15, p_104_15, i_104_16, p_104_16, i_104_17, p_104_17, i_104_19, p_104_19, i_104_20, p_104_20, i_104_25, p_104_25, i_104_29, p_104_29, a_2, w_2, a_81, w_81, a_89, w_89, a_91, w_91, a_93, w_93, a_94, w_94, a_95, w_95, a_105, w_105, a_106, w_106, a_107, w_107, a_108, w_108, a_109, w_109, a_110, w_110, a_111, w_111, a_112, w_112, a_113, w_113, a_114, w_114, a_115, w_115, a_116, w_116, a_117, w_117, a_118, w_118, a_119, w_119, a_120, w_120, a_121, w_121, a_122, w_122, a_123, w_123, a_124, w_124, m_firstOf k2D k3 (show s ≤ 8 by omega)]
      rw [show min (mxl C A b (sumN A.2.2 s)) (mkA C b).length = mxl C A b (sumN A.2.2 s) by omega]
    · simp (disch := omega) only [J_add, J_sub, J_mul, J_lt, J_le, J_eq, xbr_true, xbr_false, xbr_pos, xbr_neg, Int.toNat_natCast, all_eq, ex_eq, t_0, q_0_0, q_0_1, q_0_2, q_0_3, q_0_4, q_0_5, q_0_6, q_0_7, q_0_8, q_0_9, i_0_10, p_0_10, i_0_11, p_0_11, i_0_12, p_0_12, t_1, q_1_0, t_3, q_3_0, q_3_1, i_3_2, p_3_2, i_3_3, p_3_3, t_80, q_80_0, t_88, q_88_0, t_90, q_90_0, t_92, q_92_0, q_92_1, q_92_2, i_92_3, p_92_3, i_92_4, p_92_4, t_96, q_96_0, i_96_1, p_96_1, i_96_2, p_96_2, i_96_3, p_96_3, t_100, q_100_0, i_100_1, p_100_1, i_100_2, p_100_2, i_100_3, p_100_3, t_104, q_104_1, q_104_2, q_104_3, q_104_4, q_104_5, q_104_6, q_104_8, q_104_9, q_104_11, q_104_12, q_104_18, q_104_21, q_104_22, q_104_23, q_104_24, q_104_26, q_104_27, q_104_28, q_104_30, q_104_31, i_104_0, p_104_0, i_104_7, p_104_7, i_104_10, p_104_10, i_104_13, p_104_13, i_104_14, p_104_14, i_104_15, p_104_15, i_104_16, p_104_16, i_104_17, p_104_17, i_104_19, p_104_19, i_104_20, p_104_20, i_104_25, p_104_25, i_104_29, p_104_29, a_2, w_2, a_81, w_81, a_89, w_89, a_91, w_91, a_93, w_93, a_94, w_94, a_95, w_95, a_105, w_105, a_106, w_106, a_107, w_107, a_108, w_108, a_109, w_109, a_110, w_110, a_111, w_111, a_112, w_112, a_113, w_113, a_114, w_114, a_115, w_115, a_116, w_116, a_117, w_117, a_118, w_118, a_119, w_119, a_120, w_120, a_121, w_121, a_122, w_122, a_123, w_123, a_124, w_124, m_firstOf k2D k3 (show s ≤ 8 by omega)]
      rw [show min (mxl C A b (sumN A.2.2 s)) (mkA C b).length = (mkA C b).length by omega]
  · refine ⟨C, fun _ _ _ _ => rfl, fun _ _ => rfl, fun q => absurd q c, fun K => ?_⟩
    unfold PX11_findGuide
    simp (disch := omega) only [J_add, J_sub, J_mul, J_lt, J_le, J_eq, xbr_true, xbr_false, xbr_pos, xbr_neg, Int.toNat_natCast, all_eq, ex_eq, t_0, q_0_0, q_0_1, q_0_2, q_0_3, q_0_4, q_0_5, q_0_6, q_0_7, q_0_8, q_0_9, i_0_10, p_0_10, i_0_11, p_0_11, i_0_12, p_0_12, t_1, q_1_0, t_3, q_3_0, q_3_1, i_3_2, p_3_2, i_3_3, p_3_3, t_80, q_80_0, t_88, q_88_0, t_90, q_90_0, t_92, q_92_0, q_92_1, q_92_2, i_92_3, p_92_3, i_92_4, p_92_4, t_96, q_96_0, i_96_1, p_96_1, i_96_2, p_96_2, i_96_3, p_96_3, t_100, q_100_0, i_100_1, p_100_1, i_100_2, p_100_2, i_100_3, p_100_3, t_104, q_104_1, q_104_2, q_104_3, q_104_4, q_104_5, q_104_6, q_104_8, q_104_9, q_104_11, q_104_12, q_104_18, q_104_21, q_104_22, q_104_23, q_104_24, q_104_26, q_104_27, q_104_28, q_104_30, q_104_31, i_104_0, p_104_0, i_104_7, p_104_7, i_104_10, p_104_10, i_104_13, p_104_13, i_104_14, p_104_14, i_104_15, p_104_15, i_104_16, p_104_16, i_104_17, p_104_17, i_104_19, p_104_19, i_104_20, p_104_20, i_104_25, p_104_25, i_104_29, p_104_29, a_2, w_2, a_81, w_81, a_89, w_89, a_91, w_91, a_93, w_93, a_94, w_94, a_95, w_95, a_105, w_105, a_106, w_106, a_107, w_107, a_108, w_108, a_109, w_109, a_110, w_110, a_111, w_111, a_112, w_112, a_113, w_113, a_114, w_114, a_115, w_115, a_116, w_116, a_117, w_117, a_118, w_118, a_119, w_119, a_120, w_120, a_121, w_121, a_122, w_122, a_123, w_123, a_124, w_124, on1]
    rw [if_neg c]
theorem op_guide (h : Inv C nb A) {s i : Int} (hs : -2147483648 ≤ s ∧ s < 2147483648) (hi : -2147483648 ≤ i ∧ i < 2147483648) : ∃ (r : Int) (C2 : Nat → Nat → Int), (∀ K, PX10_guide (ad z 0) (J s) (J i) (lay z g C) K = K (J r)) ∧ (∀ K, PX11_guide (ad z 104) (J s) (J i) (lay z g C) K = K (J r) (lay z g C2)) ∧ Inv C2 nb A := by
  obtain ⟨g1, g2, g3, g4, g5, g6, g7, g8⟩ := h.2.1
  obtain ⟨k1, k2, k3⟩ := h.2.2.2.2.2.2.1
  have l24 := k2.2.1
  by_cases c1 : 0 ≤ s ∧ s < 8
  · obtain ⟨x, rfl⟩ : ∃ x : Nat, s = x := ⟨s.toNat, by omega⟩
    have hx : x < 8 := by omega
    obtain ⟨D, d1, d2, d3, hD⟩ := m_findGuide (z := z) (g := g) h hx
    have le1 := on_le k3 (s := x + 1) (by omega)
    have e0 : sumN A.2.2 (x + 1) = sumN A.2.2 x + A.2.2 x := rfl
    have am := k1.amount k3 g1 (s := x) hx
    have st := k1.start k3 g1 (s := x) (by omega)
    have inv2 : Inv D nb A := by
      refine h.work (fun a ha => ?_) (fun j hj => d2 j (by omega)) (h.2.2.2.2.2.2.1.fr (fun a _ _ => d1 a (by omega) (by omega) (by omega)) (d2 _ (by omega)) (d1 _ (by omega) (by omega) (by omega)) (d1 _ (by omega) (by omega) (by omega))) (h.2.2.2.2.2.2.2.1.fr (d1 _ (by omega) (by omega) (by omega)) (d1 _ (by omega) (by omega) (by omega)) (d1 _ (by omega) (by omega) (by omega)))
      unfold freeO at ha
      exact d1 a (by omega) (by omega) (by omega)
    by_cases c : 0 < A.2.2 x
    · have hp : sumN A.2.2 x < A.1 := by omega
      have hb := k3.1 _ hp
      have ebk := k1.bk hp
      have d3' := d3 c
      generalize hbb : A.2.1 (sumN A.2.2 x) = b at *
      have gl := fun K => s_guideLength (z := z) (g := g) (K := K) h hb hx
      have hG : gdL C A b (sumN A.2.2 x) ≤ (mkA C b).length := by unfold gdL; omega
      have lb := mkA_len (g6 b hb)
      have q1 := (g7 b hb).1
      simp only [if_pos c] at hD
      generalize gdL C A b (sumN A.2.2 x) = n at *
      have ons : ∀ K, PX6_onShelf (ad z 82) (J (x : Nat)) (J 0) (lay z g C) K = K (J (b : Nat)) := fun K => by
        rw [s_onShelf r82 k1.2.2.2.2 (by omega) (by omega) (by omega) (by omega), am, st, if_pos (by omega), show ((sumN A.2.2 x : Nat) : Int) + 0 = (sumN A.2.2 x : Nat) by omega, ebk]
      have cl : ∀ K, PX10_guide (ad z 0) (J (x : Nat)) (J i) (lay z g C) K = JX10_guide_36 K (lay z g C) (ad z 0) (J i) (J (b : Nat)) (J (n : Nat)) := fun K => by
        unfold PX10_guide
        simp (disch := omega) only [J_add, J_sub, J_mul, J_lt, J_le, J_eq, xbr_true, xbr_false, xbr_pos, xbr_neg, Int.toNat_natCast, all_eq, ex_eq, t_0, q_0_0, q_0_1, q_0_2, q_0_3, q_0_4, q_0_5, q_0_6, q_0_7, q_0_8, q_0_9, i_0_10, p_0_10, i_0_11, p_0_11, i_0_12, p_0_12, t_1, q_1_0, t_3, q_3_0, q_3_1, i_3_2, p_3_2, i_3_3, p_3_3, t_80, q_80_0, t_88, q_88_0, t_90, q_90_0, t_92, q_92_0, q_92_1, q_92_2, i_92_3, p_92_3, i_92_4, p_92_4, t_96, q_96_0, i_96_1, p_96_1, i_96_2, p_96_2, i_96_3, p_96_3, t_100, q_100_0, i_100_1, p_100_1, i_100_2, p_100_2, i_100_3, p_100_3, t_104, q_104_1, q_104_2, q_104_3, q_104_4, q_104_5, q_104_6, q_104_8, q_104_9, q_104_11, q_104_12, q_104_18, q_104_21, q_104_22, q_104_23, q_104_24, q_104_26, q_104_27, q_104_28, q_104_30, q_104_31, i_104_0, p_104_0, i_104_7, p_104_7, i_104_10, p_104_10, i_104_13, p_104_13, i_104_14, p_104_14, i_104_15, p_104_15, i_104_16, p_104_16, i_104_17, p_104_17, i_104_19, p_104_19, i_104_20, p_104_20, i_104_25, p_104_25, i_104_29, p_104_29, a_2, w_2, a_81, w_81, a_89, w_89, a_91, w_91, a_93, w_93, a_94, w_94, a_95, w_95, a_105, w_105, a_106, w_106, a_107, w_107, a_108, w_108, a_109, w_109, a_110, w_110, a_111, w_111, a_112, w_112, a_113, w_113, a_114, w_114, a_115, w_115, a_116, w_116, a_117, w_117, a_118, w_118, a_119, w_119, a_120, w_120, a_121, w_121, a_122, w_122, a_123, w_123, a_124, w_124, s_isShelf, ons, gl]
      have rf1 : ∀ K, PX11_guide (ad z 104) (J (x : Nat)) (J i) (lay z g C) K = K (J (if i = -1 then (n : Int) else if 0 ≤ i ∧ i < n then (mkA C b).getD i.toNat 0 else -1)) (lay z g D) := fun K => by
        unfold PX11_guide
        by_cases q : i = -1
        · simp (disch := omega) only [J_add, J_sub, J_mul, J_lt, J_le, J_eq, xbr_true, xbr_false, xbr_pos, xbr_neg, Int.toNat_natCast, all_eq, ex_eq, t_0, q_0_0, q_0_1, q_0_2, q_0_3, q_0_4, q_0_5, q_0_6, q_0_7, q_0_8, q_0_9, i_0_10, p_0_10, i_0_11, p_0_11, i_0_12, p_0_12, t_1, q_1_0, t_3, q_3_0, q_3_1, i_3_2, p_3_2, i_3_3, p_3_3, t_80, q_80_0, t_88, q_88_0, t_90, q_90_0, t_92, q_92_0, q_92_1, q_92_2, i_92_3, p_92_3, i_92_4, p_92_4, t_96, q_96_0, i_96_1, p_96_1, i_96_2, p_96_2, i_96_3, p_96_3, t_100, q_100_0, i_100_1, p_100_1, i_100_2, p_100_2, i_100_3, p_100_3, t_104, q_104_1, q_104_2, q_104_3, q_104_4, q_104_5, q_104_6, q_104_8, q_104_9, q_104_11, q_104_12, q_104_18, q_104_21, q_104_22, q_104_23, q_104_24, q_104_26, q_104_27, q_104_28, q_104_30, q_104_31, i_104_0, p_104_0, i_104_7, p_104_7, i_104_10, p_104_10, i_104_13, p_104_13, i_104_14, p_104_14, i_104_15, p_104_15, i_104_16, p_104_16, i_104_17, p_104_17, i_104_19, p_104_19, i_104_20, p_104_20, i_104_25, p_104_25, i_104_29, p_104_29, a_2, w_2, a_81, w_81, a_89, w_89, a_91, w_91, a_93, w_93, a_94, w_94, a_95, w_95, a_105, w_105, a_106, w_106, a_107, w_107, a_108, w_108, a_109, w_109, a_110, w_110, a_111, w_111, a_112, w_112, a_113, w_113, a_114, w_114, a_115, w_115, a_116, w_116, a_117, w_117, a_118, w_118, a_119, w_119, a_120, w_120, a_121, w_121, a_122, w_122, a_123, w_123, a_124, w_124, m_isShelf, hD, q, if_true]
        · by_cases q2 : 0 ≤ i ∧ i < n
          · simp (disch := omega) only [J_add, J_sub, J_mul, J_lt, J_le, J_eq, xbr_true, xbr_false, xbr_pos, xbr_neg, Int.toNat_natCast, all_eq, ex_eq, t_0, q_0_0, q_0_1, q_0_2, q_0_3, q_0_4, q_0_5, q_0_6, q_0_7, q_0_8, q_0_9, i_0_10, p_0_10, i_0_11, p_0_11, i_0_12, p_0_12, t_1, q_1_0, t_3, q_3_0, q_3_1, i_3_2, p_3_2, i_3_3, p_3_3, t_80, q_80_0, t_88, q_88_0, t_90, q_90_0, t_92, q_92_0, q_92_1, q_92_2, i_92_3, p_92_3, i_92_4, p_92_4, t_96, q_96_0, i_96_1, p_96_1, i_96_2, p_96_2, i_96_3, p_96_3, t_100, q_100_0, i_100_1, p_100_1, i_100_2, p_100_2, i_100_3, p_100_3, t_104, q_104_1, q_104_2, q_104_3, q_104_4, q_104_5, q_104_6, q_104_8, q_104_9, q_104_11, q_104_12, q_104_18, q_104_21, q_104_22, q_104_23, q_104_24, q_104_26, q_104_27, q_104_28, q_104_30, q_104_31, i_104_0, p_104_0, i_104_7, p_104_7, i_104_10, p_104_10, i_104_13, p_104_13, i_104_14, p_104_14, i_104_15, p_104_15, i_104_16, p_104_16, i_104_17, p_104_17, i_104_19, p_104_19, i_104_20, p_104_20, i_104_25, p_104_25, i_104_29, p_104_29, a_2, w_2, a_81, w_81, a_89, w_89, a_91, w_91, a_93, w_93, a_94, w_94, a_95, w_95, a_105, w_105, a_106, w_106, a_107, w_107, a_108, w_108, a_109, w_109, a_110, w_110, a_111, w_111, a_112, w_112, a_113, w_113, a_114, w_114, a_115, w_115, a_116, w_116, a_117, w_117, a_118, w_118, a_119, w_119, a_120, w_120, a_121, w_121, a_122, w_122, a_123, w_123, a_124, w_124, m_isShelf, hD, J_long, m_in, if_pos (show 0 ≤ i ∧ i ≤ (n : Int) - 1 by omega), d3' i.toNat (by omega)]
            rw [if_neg q, if_pos q2]
          · simp (disch := omega) only [J_add, J_sub, J_mul, J_lt, J_le, J_eq, xbr_true, xbr_false, xbr_pos, xbr_neg, Int.toNat_natCast, all_eq, ex_eq, t_0, q_0_0, q_0_1, q_0_2, q_0_3, q_0_4, q_0_5, q_0_6, q_0_7, q_0_8, q_0_9, i_0_10, p_0_10, i_0_11, p_0_11, i_0_12, p_0_12, t_1, q_1_0, t_3, q_3_0, q_3_1, i_3_2, p_3_2, i_3_3, p_3_3, t_80, q_80_0, t_88, q_88_0, t_90, q_90_0, t_92, q_92_0, q_92_1, q_92_2, i_92_3, p_92_3, i_92_4, p_92_4, t_96, q_96_0, i_96_1, p_96_1, i_96_2, p_96_2, i_96_3, p_96_3, t_100, q_100_0, i_100_1, p_100_1, i_100_2, p_100_2, i_100_3, p_100_3, t_104, q_104_1, q_104_2, q_104_3, q_104_4, q_104_5, q_104_6, q_104_8, q_104_9, q_104_11, q_104_12, q_104_18, q_104_21, q_104_22, q_104_23, q_104_24, q_104_26, q_104_27, q_104_28, q_104_30, q_104_31, i_104_0, p_104_0, i_104_7, p_104_7, i_104_10, p_104_10, i_104_13, p_104_13, i_104_14, p_104_14, i_104_15, p_104_15, i_104_16, p_104_16, i_104_17, p_104_17, i_104_19, p_104_19, i_104_20, p_104_20, i_104_25, p_104_25, i_104_29, p_104_29, a_2, w_2, a_81, w_81, a_89, w_89, a_91, w_91, a_93, w_93, a_94, w_94, a_95, w_95, a_105, w_105, a_106, w_106, a_107, w_107, a_108, w_108, a_109, w_109, a_110, w_110, a_111, w_111, a_112, w_112, a_113, w_113, a_114, w_114, a_115, w_115, a_116, w_116, a_117, w_117, a_118, w_118, a_119, w_119, a_120, w_120, a_121, w_121, a_122, w_122, a_123, w_123, a_124, w_124, m_isShelf, hD, J_long, m_in, if_neg (show ¬ (0 ≤ i ∧ i ≤ (n : Int) - 1) by omega)]
            rw [if_neg q, if_neg q2]
      refine ⟨_, D, fun K => ?_, rf1, inv2⟩
      rw [cl]
      unfold JX10_guide_36
      by_cases q : i = -1
      · simp (disch := omega) only [J_add, J_sub, J_mul, J_lt, J_le, J_eq, xbr_true, xbr_false, xbr_pos, xbr_neg, Int.toNat_natCast, all_eq, ex_eq, q, if_true]
      · rw [if_neg q]
        by_cases q2 : 0 ≤ i ∧ i < n
        · rw [if_pos q2]
          simp (disch := omega) only [J_add, J_sub, J_mul, J_lt, J_le, J_eq, xbr_true, xbr_false, xbr_pos, xbr_neg, Int.toNat_natCast, all_eq, ex_eq, t_0, q_0_0, q_0_1, q_0_2, q_0_3, q_0_4, q_0_5, q_0_6, q_0_7, q_0_8, q_0_9, i_0_10, p_0_10, i_0_11, p_0_11, i_0_12, p_0_12, t_1, q_1_0, t_3, q_3_0, q_3_1, i_3_2, p_3_2, i_3_3, p_3_3, t_80, q_80_0, t_88, q_88_0, t_90, q_90_0, t_92, q_92_0, q_92_1, q_92_2, i_92_3, p_92_3, i_92_4, p_92_4, t_96, q_96_0, i_96_1, p_96_1, i_96_2, p_96_2, i_96_3, p_96_3, t_100, q_100_0, i_100_1, p_100_1, i_100_2, p_100_2, i_100_3, p_100_3, t_104, q_104_1, q_104_2, q_104_3, q_104_4, q_104_5, q_104_6, q_104_8, q_104_9, q_104_11, q_104_12, q_104_18, q_104_21, q_104_22, q_104_23, q_104_24, q_104_26, q_104_27, q_104_28, q_104_30, q_104_31, i_104_0, p_104_0, i_104_7, p_104_7, i_104_10, p_104_10, i_104_13, p_104_13, i_104_14, p_104_14, i_104_15, p_104_15, i_104_16, p_104_16, i_104_17, p_104_17, i_104_19, p_104_19, i_104_20, p_104_20, i_104_25, p_104_25, i_104_29, p_104_29, a_2, w_2, a_81, w_81, a_89, w_89, a_91, w_91, a_93, w_93, a_94, w_94, a_95, w_95, a_105, w_105, a_106, w_106, a_107, w_107, a_108, w_108, a_109, w_109, a_110, w_110, a_111, w_111, a_112, w_112, a_113, w_113, a_114, w_114, a_115, w_115, a_116, w_116, a_117, w_117, a_118, w_118, a_119, w_119, a_120, w_120, a_121, w_121, a_122, w_122, a_123, w_123, a_124, w_124, s_of, bkO_nat (show b < 24 by omega), gR_lay (bS (show b < 24 by omega)), s_bget (bB (show b < 24 by omega)), q1]
          rw [if_pos (by omega), show 9 + 3 * b + 1 = 10 + 3 * b by omega, (g7 b hb).at (i := i.toNat) (by omega)]
        · rw [if_neg q2]
          by_cases q3 : i < 0
          · simp (disch := omega) only [J_add, J_sub, J_mul, J_lt, J_le, J_eq, xbr_true, xbr_false, xbr_pos, xbr_neg, Int.toNat_natCast, all_eq, ex_eq]
          · simp (disch := omega) only [J_add, J_sub, J_mul, J_lt, J_le, J_eq, xbr_true, xbr_false, xbr_pos, xbr_neg, Int.toNat_natCast, all_eq, ex_eq]
    · simp only [if_neg c] at hD
      have ons : ∀ K, PX6_onShelf (ad z 82) (J (x : Nat)) (J 0) (lay z g C) K = K (J (-1)) := fun K => by
        rw [s_onShelf r82 k1.2.2.2.2 (by omega) (by omega) (by omega) (by omega), am, st, if_neg (by omega)]
      refine ⟨if i = -1 then 0 else -1, D, fun K => ?_, fun K => ?_, inv2⟩
      · unfold PX10_guide JX10_guide_36
        by_cases q : i = -1
        · simp (disch := omega) only [J_add, J_sub, J_mul, J_lt, J_le, J_eq, xbr_true, xbr_false, xbr_pos, xbr_neg, Int.toNat_natCast, all_eq, ex_eq, t_0, q_0_0, q_0_1, q_0_2, q_0_3, q_0_4, q_0_5, q_0_6, q_0_7, q_0_8, q_0_9, i_0_10, p_0_10, i_0_11, p_0_11, i_0_12, p_0_12, t_1, q_1_0, t_3, q_3_0, q_3_1, i_3_2, p_3_2, i_3_3, p_3_3, t_80, q_80_0, t_88, q_88_0, t_90, q_90_0, t_92, q_92_0, q_92_1, q_92_2, i_92_3, p_92_3, i_92_4, p_92_4, t_96, q_96_0, i_96_1, p_96_1, i_96_2, p_96_2, i_96_3, p_96_3, t_100, q_100_0, i_100_1, p_100_1, i_100_2, p_100_2, i_100_3, p_100_3, t_104, q_104_1, q_104_2, q_104_3, q_104_4, q_104_5, q_104_6, q_104_8, q_104_9, q_104_11, q_104_12, q_104_18, q_104_21, q_104_22, q_104_23, q_104_24, q_104_26, q_104_27, q_104_28, q_104_30, q_104_31, i_104_0, p_104_0, i_104_7, p_104_7, i_104_10, p_104_10, i_104_13, p_104_13, i_104_14, p_104_14, i_104_15, p_104_15, i_104_16, p_104_16, i_104_17, p_104_17, i_104_19, p_104_19, i_104_20, p_104_20, i_104_25, p_104_25, i_104_29, p_104_29, a_2, w_2, a_81, w_81, a_89, w_89, a_91, w_91, a_93, w_93, a_94, w_94, a_95, w_95, a_105, w_105, a_106, w_106, a_107, w_107, a_108, w_108, a_109, w_109, a_110, w_110, a_111, w_111, a_112, w_112, a_113, w_113, a_114, w_114, a_115, w_115, a_116, w_116, a_117, w_117, a_118, w_118, a_119, w_119, a_120, w_120, a_121, w_121, a_122, w_122, a_123, w_123, a_124, w_124, s_isShelf, ons, q, if_true]
        · rw [if_neg q]
          by_cases q3 : i < 0
          · simp (disch := omega) only [J_add, J_sub, J_mul, J_lt, J_le, J_eq, xbr_true, xbr_false, xbr_pos, xbr_neg, Int.toNat_natCast, all_eq, ex_eq, t_0, q_0_0, q_0_1, q_0_2, q_0_3, q_0_4, q_0_5, q_0_6, q_0_7, q_0_8, q_0_9, i_0_10, p_0_10, i_0_11, p_0_11, i_0_12, p_0_12, t_1, q_1_0, t_3, q_3_0, q_3_1, i_3_2, p_3_2, i_3_3, p_3_3, t_80, q_80_0, t_88, q_88_0, t_90, q_90_0, t_92, q_92_0, q_92_1, q_92_2, i_92_3, p_92_3, i_92_4, p_92_4, t_96, q_96_0, i_96_1, p_96_1, i_96_2, p_96_2, i_96_3, p_96_3, t_100, q_100_0, i_100_1, p_100_1, i_100_2, p_100_2, i_100_3, p_100_3, t_104, q_104_1, q_104_2, q_104_3, q_104_4, q_104_5, q_104_6, q_104_8, q_104_9, q_104_11, q_104_12, q_104_18, q_104_21, q_104_22, q_104_23, q_104_24, q_104_26, q_104_27, q_104_28, q_104_30, q_104_31, i_104_0, p_104_0, i_104_7, p_104_7, i_104_10, p_104_10, i_104_13, p_104_13, i_104_14, p_104_14, i_104_15, p_104_15, i_104_16, p_104_16, i_104_17, p_104_17, i_104_19, p_104_19, i_104_20, p_104_20, i_104_25, p_104_25, i_104_29, p_104_29, a_2, w_2, a_81, w_81, a_89, w_89, a_91, w_91, a_93, w_93, a_94, w_94, a_95, w_95, a_105, w_105, a_106, w_106, a_107, w_107, a_108, w_108, a_109, w_109, a_110, w_110, a_111, w_111, a_112, w_112, a_113, w_113, a_114, w_114, a_115, w_115, a_116, w_116, a_117, w_117, a_118, w_118, a_119, w_119, a_120, w_120, a_121, w_121, a_122, w_122, a_123, w_123, a_124, w_124, s_isShelf, ons]
          · simp (disch := omega) only [J_add, J_sub, J_mul, J_lt, J_le, J_eq, xbr_true, xbr_false, xbr_pos, xbr_neg, Int.toNat_natCast, all_eq, ex_eq, t_0, q_0_0, q_0_1, q_0_2, q_0_3, q_0_4, q_0_5, q_0_6, q_0_7, q_0_8, q_0_9, i_0_10, p_0_10, i_0_11, p_0_11, i_0_12, p_0_12, t_1, q_1_0, t_3, q_3_0, q_3_1, i_3_2, p_3_2, i_3_3, p_3_3, t_80, q_80_0, t_88, q_88_0, t_90, q_90_0, t_92, q_92_0, q_92_1, q_92_2, i_92_3, p_92_3, i_92_4, p_92_4, t_96, q_96_0, i_96_1, p_96_1, i_96_2, p_96_2, i_96_3, p_96_3, t_100, q_100_0, i_100_1, p_100_1, i_100_2, p_100_2, i_100_3, p_100_3, t_104, q_104_1, q_104_2, q_104_3, q_104_4, q_104_5, q_104_6, q_104_8, q_104_9, q_104_11, q_104_12, q_104_18, q_104_21, q_104_22, q_104_23, q_104_24, q_104_26, q_104_27, q_104_28, q_104_30, q_104_31, i_104_0, p_104_0, i_104_7, p_104_7, i_104_10, p_104_10, i_104_13, p_104_13, i_104_14, p_104_14, i_104_15, p_104_15, i_104_16, p_104_16, i_104_17, p_104_17, i_104_19, p_104_19, i_104_20, p_104_20, i_104_25, p_104_25, i_104_29, p_104_29, a_2, w_2, a_81, w_81, a_89, w_89, a_91, w_91, a_93, w_93, a_94, w_94, a_95, w_95, a_105, w_105, a_106, w_106, a_107, w_107, a_108, w_108, a_109, w_109, a_110, w_110, a_111, w_111, a_112, w_112, a_113, w_113, a_114, w_114, a_115, w_115, a_116, w_116, a_117, w_117, a_118, w_118, a_119, w_119, a_120, w_120, a_121, w_121, a_122, w_122, a_123, w_123, a_124, w_124, s_isShelf, ons]
      · unfold PX11_guide
        by_cases q : i = -1
        · simp (disch := omega) only [J_add, J_sub, J_mul, J_lt, J_le, J_eq, xbr_true, xbr_false, xbr_pos, xbr_neg, Int.toNat_natCast, all_eq, ex_eq, t_0, q_0_0, q_0_1, q_0_2, q_0_3, q_0_4, q_0_5, q_0_6, q_0_7, q_0_8, q_0_9, i_0_10, p_0_10, i_0_11, p_0_11, i_0_12, p_0_12, t_1, q_1_0, t_3, q_3_0, q_3_1, i_3_2, p_3_2, i_3_3, p_3_3, t_80, q_80_0, t_88, q_88_0, t_90, q_90_0, t_92, q_92_0, q_92_1, q_92_2, i_92_3, p_92_3, i_92_4, p_92_4, t_96, q_96_0, i_96_1, p_96_1, i_96_2, p_96_2, i_96_3, p_96_3, t_100, q_100_0, i_100_1, p_100_1, i_100_2, p_100_2, i_100_3, p_100_3, t_104, q_104_1, q_104_2, q_104_3, q_104_4, q_104_5, q_104_6, q_104_8, q_104_9, q_104_11, q_104_12, q_104_18, q_104_21, q_104_22, q_104_23, q_104_24, q_104_26, q_104_27, q_104_28, q_104_30, q_104_31, i_104_0, p_104_0, i_104_7, p_104_7, i_104_10, p_104_10, i_104_13, p_104_13, i_104_14, p_104_14, i_104_15, p_104_15, i_104_16, p_104_16, i_104_17, p_104_17, i_104_19, p_104_19, i_104_20, p_104_20, i_104_25, p_104_25, i_104_29, p_104_29, a_2, w_2, a_81, w_81, a_89, w_89, a_91, w_91, a_93, w_93, a_94, w_94, a_95, w_95, a_105, w_105, a_106, w_106, a_107, w_107, a_108, w_108, a_109, w_109, a_110, w_110, a_111, w_111, a_112, w_112, a_113, w_113, a_114, w_114, a_115, w_115, a_116, w_116, a_117, w_117, a_118, w_118, a_119, w_119, a_120, w_120, a_121, w_121, a_122, w_122, a_123, w_123, a_124, w_124, m_isShelf, hD, q, if_true]
        · rw [if_neg q]
          simp (disch := omega) only [J_add, J_sub, J_mul, J_lt, J_le, J_eq, xbr_true, xbr_false, xbr_pos, xbr_neg, Int.toNat_natCast, all_eq, ex_eq, t_0, q_0_0, q_0_1, q_0_2, q_0_3, q_0_4, q_0_5, q_0_6, q_0_7, q_0_8, q_0_9, i_0_10, p_0_10, i_0_11, p_0_11, i_0_12, p_0_12, t_1, q_1_0, t_3, q_3_0, q_3_1, i_3_2, p_3_2, i_3_3, p_3_3, t_80, q_80_0, t_88, q_88_0, t_90, q_90_0, t_92, q_92_0, q_92_1, q_92_2, i_92_3, p_92_3, i_92_4, p_92_4, t_96, q_96_0, i_96_1, p_96_1, i_96_2, p_96_2, i_96_3, p_96_3, t_100, q_100_0, i_100_1, p_100_1, i_100_2, p_100_2, i_100_3, p_100_3, t_104, q_104_1, q_104_2, q_104_3, q_104_4, q_104_5, q_104_6, q_104_8, q_104_9, q_104_11, q_104_12, q_104_18, q_104_21, q_104_22, q_104_23, q_104_24, q_104_26, q_104_27, q_104_28, q_104_30, q_104_31, i_104_0, p_104_0, i_104_7, p_104_7, i_104_10, p_104_10, i_104_13, p_104_13, i_104_14, p_104_14, i_104_15, p_104_15, i_104_16, p_104_16, i_104_17, p_104_17, i_104_19, p_104_19, i_104_20, p_104_20, i_104_25, p_104_25, i_104_29, p_104_29, a_2, w_2, a_81, w_81, a_89, w_89, a_91, w_91, a_93, w_93, a_94, w_94, a_95, w_95, a_105, w_105, a_106, w_106, a_107, w_107, a_108, w_108, a_109, w_109, a_110, w_110, a_111, w_111, a_112, w_112, a_113, w_113, a_114, w_114, a_115, w_115, a_116, w_116, a_117, w_117, a_118, w_118, a_119, w_119, a_120, w_120, a_121, w_121, a_122, w_122, a_123, w_123, a_124, w_124, m_isShelf, hD, J_long, m_in, if_neg (show ¬ (0 ≤ i ∧ i ≤ (0 : Int) - 1) by omega)]
  · refine ⟨-1001, C, fun K => ?_, fun K => ?_, h⟩
    · unfold PX10_guide
      simp (disch := omega) only [J_add, J_sub, J_mul, J_lt, J_le, J_eq, xbr_true, xbr_false, xbr_pos, xbr_neg, Int.toNat_natCast, all_eq, ex_eq, t_0, q_0_0, q_0_1, q_0_2, q_0_3, q_0_4, q_0_5, q_0_6, q_0_7, q_0_8, q_0_9, i_0_10, p_0_10, i_0_11, p_0_11, i_0_12, p_0_12, t_1, q_1_0, t_3, q_3_0, q_3_1, i_3_2, p_3_2, i_3_3, p_3_3, t_80, q_80_0, t_88, q_88_0, t_90, q_90_0, t_92, q_92_0, q_92_1, q_92_2, i_92_3, p_92_3, i_92_4, p_92_4, t_96, q_96_0, i_96_1, p_96_1, i_96_2, p_96_2, i_96_3, p_96_3, t_100, q_100_0, i_100_1, p_100_1, i_100_2, p_100_2, i_100_3, p_100_3, t_104, q_104_1, q_104_2, q_104_3, q_104_4, q_104_5, q_104_6, q_104_8, q_104_9, q_104_11, q_104_12, q_104_18, q_104_21, q_104_22, q_104_23, q_104_24, q_104_26, q_104_27, q_104_28, q_104_30, q_104_31, i_104_0, p_104_0, i_104_7, p_104_7, i_104_10, p_104_10, i_104_13, p_104_13, i_104_14, p_104_14, i_104_15, p_104_15, i_104_16, p_104_16, i_104_17, p_104_17, i_104_19, p_104_19, i_104_20, p_104_20, i_104_25, p_104_25, i_104_29, p_104_29, a_2, w_2, a_81, w_81, a_89, w_89, a_91, w_91, a_93, w_93, a_94, w_94, a_95, w_95, a_105, w_105, a_106, w_106, a_107, w_107, a_108, w_108, a_109, w_109, a_110, w_110, a_111, w_111, a_112, w_112, a_113, w_113, a_114, w_114, a_115, w_115, a_116, w_116, a_117, w_117, a_118, w_118, a_119, w_119, a_120, w_120, a_121, w_121, a_122, w_122, a_123, w_123, a_124, w_124, s_isShelf]
    · unfold PX11_guide
      simp (disch := omega) only [J_add, J_sub, J_mul, J_lt, J_le, J_eq, xbr_true, xbr_false, xbr_pos, xbr_neg, Int.toNat_natCast, all_eq, ex_eq, t_0, q_0_0, q_0_1, q_0_2, q_0_3, q_0_4, q_0_5, q_0_6, q_0_7, q_0_8, q_0_9, i_0_10, p_0_10, i_0_11, p_0_11, i_0_12, p_0_12, t_1, q_1_0, t_3, q_3_0, q_3_1, i_3_2, p_3_2, i_3_3, p_3_3, t_80, q_80_0, t_88, q_88_0, t_90, q_90_0, t_92, q_92_0, q_92_1, q_92_2, i_92_3, p_92_3, i_92_4, p_92_4, t_96, q_96_0, i_96_1, p_96_1, i_96_2, p_96_2, i_96_3, p_96_3, t_100, q_100_0, i_100_1, p_100_1, i_100_2, p_100_2, i_100_3, p_100_3, t_104, q_104_1, q_104_2, q_104_3, q_104_4, q_104_5, q_104_6, q_104_8, q_104_9, q_104_11, q_104_12, q_104_18, q_104_21, q_104_22, q_104_23, q_104_24, q_104_26, q_104_27, q_104_28, q_104_30, q_104_31, i_104_0, p_104_0, i_104_7, p_104_7, i_104_10, p_104_10, i_104_13, p_104_13, i_104_14, p_104_14, i_104_15, p_104_15, i_104_16, p_104_16, i_104_17, p_104_17, i_104_19, p_104_19, i_104_20, p_104_20, i_104_25, p_104_25, i_104_29, p_104_29, a_2, w_2, a_81, w_81, a_89, w_89, a_91, w_91, a_93, w_93, a_94, w_94, a_95, w_95, a_105, w_105, a_106, w_106, a_107, w_107, a_108, w_108, a_109, w_109, a_110, w_110, a_111, w_111, a_112, w_112, a_113, w_113, a_114, w_114, a_115, w_115, a_116, w_116, a_117, w_117, a_118, w_118, a_119, w_119, a_120, w_120, a_121, w_121, a_122, w_122, a_123, w_123, a_124, w_124, m_isShelf]
end GDE
